theorem d_Model_isBlank_0 : decode prog_11_method_6_code 0 = .ok (.iload_n 0, 1) := by decide +kernel
theorem d_Model_isBlank_1 : decode prog_11_method_6_code 1 = .ok (.bipush 32, 2) := by decide +kernel
theorem d_Model_isBlank_3 : decode prog_11_method_6_code 3 = .ok (.if_icmp .eq 9, 3) := by decide +kernel
theorem d_Model_isBlank_6 : decode prog_11_method_6_code 6 = .ok (.iload_n 0, 1) := by decide +kernel
theorem d_Model_isBlank_7 : decode prog_11_method_6_code 7 = .ok (.bipush 9, 2) := by decide +kernel
theorem d_Model_isBlank_9 : decode prog_11_method_6_code 9 = .ok (.if_icmp .ne 7, 3) := by decide +kernel
theorem d_Model_isBlank_12 : decode prog_11_method_6_code 12 = .ok (.iconst 1, 1) := by decide +kernel
theorem d_Model_isBlank_13 : decode prog_11_method_6_code 13 = .ok (.goto 4, 3) := by decide +kernel
theorem d_Model_isBlank_16 : decode prog_11_method_6_code 16 = .ok (.iconst 0, 1) := by decide +kernel
theorem d_Model_isBlank_17 : decode prog_11_method_6_code 17 = .ok (.ireturn, 1) := by decide +kernel
theorem d_Model_colonOf_0 : decode prog_11_method_9_code 0 = .ok (.iload_n 1, 1) := by decide +kernel
theorem d_Model_colonOf_1 : decode prog_11_method_9_code 1 = .ok (.istore_n 3, 1) := by decide +kernel
theorem d_Model_colonOf_2 : decode prog_11_method_9_code 2 = .ok (.iload_n 3, 1) := by decide +kernel
theorem d_Model_colonOf_3 : decode prog_11_method_9_code 3 = .ok (.iload_n 2, 1) := by decide +kernel
theorem d_Model_colonOf_4 : decode prog_11_method_9_code 4 = .ok (.if_icmp .ge 42, 3) := by decide +kernel
theorem d_Model_colonOf_7 : decode prog_11_method_9_code 7 = .ok (.aload_n 0, 1) := by decide +kernel
theorem d_Model_colonOf_8 : decode prog_11_method_9_code 8 = .ok (.getfield 13, 3) := by decide +kernel
theorem d_Model_colonOf_11 : decode prog_11_method_9_code 11 = .ok (.iload_n 3, 1) := by decide +kernel
theorem d_Model_colonOf_12 : decode prog_11_method_9_code 12 = .ok (.iaload, 1) := by decide +kernel
theorem d_Model_colonOf_13 : decode prog_11_method_9_code 13 = .ok (.bipush 33, 2) := by decide +kernel
theorem d_Model_colonOf_15 : decode prog_11_method_9_code 15 = .ok (.if_icmp .lt 31, 3) := by decide +kernel
theorem d_Model_colonOf_18 : decode prog_11_method_9_code 18 = .ok (.aload_n 0, 1) := by decide +kernel
theorem d_Model_colonOf_19 : decode prog_11_method_9_code 19 = .ok (.getfield 13, 3) := by decide +kernel
theorem d_Model_colonOf_22 : decode prog_11_method_9_code 22 = .ok (.iload_n 3, 1) := by decide +kernel
theorem d_Model_colonOf_23 : decode prog_11_method_9_code 23 = .ok (.iaload, 1) := by decide +kernel
theorem d_Model_colonOf_24 : decode prog_11_method_9_code 24 = .ok (.bipush 126, 2) := by decide +kernel
theorem d_Model_colonOf_26 : decode prog_11_method_9_code 26 = .ok (.if_icmp .gt 20, 3) := by decide +kernel
theorem d_Model_colonOf_29 : decode prog_11_method_9_code 29 = .ok (.aload_n 0, 1) := by decide +kernel
theorem d_Model_colonOf_30 : decode prog_11_method_9_code 30 = .ok (.getfield 13, 3) := by decide +kernel
theorem d_Model_colonOf_33 : decode prog_11_method_9_code 33 = .ok (.iload_n 3, 1) := by decide +kernel
theorem d_Model_colonOf_34 : decode prog_11_method_9_code 34 = .ok (.iaload, 1) := by decide +kernel
theorem d_Model_colonOf_35 : decode prog_11_method_9_code 35 = .ok (.bipush 58, 2) := by decide +kernel
theorem d_Model_colonOf_37 : decode prog_11_method_9_code 37 = .ok (.if_icmp .eq 9, 3) := by decide +kernel
theorem d_Model_colonOf_40 : decode prog_11_method_9_code 40 = .ok (.iinc 3 1, 3) := by decide +kernel
theorem d_Model_colonOf_43 : decode prog_11_method_9_code 43 = .ok (.goto (-41), 3) := by decide +kernel
theorem d_Model_colonOf_46 : decode prog_11_method_9_code 46 = .ok (.iload_n 3, 1) := by decide +kernel
theorem d_Model_colonOf_47 : decode prog_11_method_9_code 47 = .ok (.iload_n 1, 1) := by decide +kernel
theorem d_Model_colonOf_48 : decode prog_11_method_9_code 48 = .ok (.if_icmp .ne 5, 3) := by decide +kernel
theorem d_Model_colonOf_51 : decode prog_11_method_9_code 51 = .ok (.iconst (-1), 1) := by decide +kernel
theorem d_Model_colonOf_52 : decode prog_11_method_9_code 52 = .ok (.ireturn, 1) := by decide +kernel
theorem d_Model_colonOf_53 : decode prog_11_method_9_code 53 = .ok (.iload_n 3, 1) := by decide +kernel
theorem d_Model_colonOf_54 : decode prog_11_method_9_code 54 = .ok (.iload_n 2, 1) := by decide +kernel
theorem d_Model_colonOf_55 : decode prog_11_method_9_code 55 = .ok (.if_icmp .ge 21, 3) := by decide +kernel
theorem d_Model_colonOf_58 : decode prog_11_method_9_code 58 = .ok (.aload_n 0, 1) := by decide +kernel
theorem d_Model_colonOf_59 : decode prog_11_method_9_code 59 = .ok (.getfield 13, 3) := by decide +kernel
theorem d_Model_colonOf_62 : decode prog_11_method_9_code 62 = .ok (.iload_n 3, 1) := by decide +kernel
theorem d_Model_colonOf_63 : decode prog_11_method_9_code 63 = .ok (.iaload, 1) := by decide +kernel
theorem d_Model_colonOf_64 : decode prog_11_method_9_code 64 = .ok (.invokestatic 109, 3) := by decide +kernel
theorem d_Model_colonOf_67 : decode prog_11_method_9_code 67 = .ok (.ifCond .eq 9, 3) := by decide +kernel
theorem d_Model_colonOf_70 : decode prog_11_method_9_code 70 = .ok (.iinc 3 1, 3) := by decide +kernel
theorem d_Model_colonOf_73 : decode prog_11_method_9_code 73 = .ok (.goto (-20), 3) := by decide +kernel
theorem d_Model_colonOf_76 : decode prog_11_method_9_code 76 = .ok (.iload_n 3, 1) := by decide +kernel
theorem d_Model_colonOf_77 : decode prog_11_method_9_code 77 = .ok (.iload_n 2, 1) := by decide +kernel
theorem d_Model_colonOf_78 : decode prog_11_method_9_code 78 = .ok (.if_icmp .ge 18, 3) := by decide +kernel
theorem d_Model_colonOf_81 : decode prog_11_method_9_code 81 = .ok (.aload_n 0, 1) := by decide +kernel
theorem d_Model_colonOf_82 : decode prog_11_method_9_code 82 = .ok (.getfield 13, 3) := by decide +kernel
theorem d_Model_colonOf_85 : decode prog_11_method_9_code 85 = .ok (.iload_n 3, 1) := by decide +kernel
theorem d_Model_colonOf_86 : decode prog_11_method_9_code 86 = .ok (.iaload, 1) := by decide +kernel
theorem d_Model_colonOf_87 : decode prog_11_method_9_code 87 = .ok (.bipush 58, 2) := by decide +kernel
theorem d_Model_colonOf_89 : decode prog_11_method_9_code 89 = .ok (.if_icmp .ne 7, 3) := by decide +kernel
theorem d_Model_colonOf_92 : decode prog_11_method_9_code 92 = .ok (.iload_n 3, 1) := by decide +kernel
theorem d_Model_colonOf_93 : decode prog_11_method_9_code 93 = .ok (.goto 4, 3) := by decide +kernel
theorem d_Model_colonOf_96 : decode prog_11_method_9_code 96 = .ok (.iconst (-1), 1) := by decide +kernel
theorem d_Model_colonOf_97 : decode prog_11_method_9_code 97 = .ok (.ireturn, 1) := by decide +kernel
theorem d_Model_keep_0 : decode prog_11_method_10_code 0 = .ok (.iload_n 1, 1) := by decide +kernel
theorem d_Model_keep_1 : decode prog_11_method_10_code 1 = .ok (.istore_n 3, 1) := by decide +kernel
theorem d_Model_keep_2 : decode prog_11_method_10_code 2 = .ok (.iload_n 3, 1) := by decide +kernel
theorem d_Model_keep_3 : decode prog_11_method_10_code 3 = .ok (.iload_n 2, 1) := by decide +kernel
theorem d_Model_keep_4 : decode prog_11_method_10_code 4 = .ok (.if_icmp .ge 34, 3) := by decide +kernel
theorem d_Model_keep_7 : decode prog_11_method_10_code 7 = .ok (.aload_n 0, 1) := by decide +kernel
theorem d_Model_keep_8 : decode prog_11_method_10_code 8 = .ok (.getfield 28, 3) := by decide +kernel
theorem d_Model_keep_11 : decode prog_11_method_10_code 11 = .ok (.aload_n 0, 1) := by decide +kernel
theorem d_Model_keep_12 : decode prog_11_method_10_code 12 = .ok (.getfield 113, 3) := by decide +kernel
theorem d_Model_keep_15 : decode prog_11_method_10_code 15 = .ok (.aload_n 0, 1) := by decide +kernel
theorem d_Model_keep_16 : decode prog_11_method_10_code 16 = .ok (.getfield 13, 3) := by decide +kernel
theorem d_Model_keep_19 : decode prog_11_method_10_code 19 = .ok (.iload_n 3, 1) := by decide +kernel
theorem d_Model_keep_20 : decode prog_11_method_10_code 20 = .ok (.iaload, 1) := by decide +kernel
theorem d_Model_keep_21 : decode prog_11_method_10_code 21 = .ok (.iastore, 1) := by decide +kernel
theorem d_Model_keep_22 : decode prog_11_method_10_code 22 = .ok (.aload_n 0, 1) := by decide +kernel
theorem d_Model_keep_23 : decode prog_11_method_10_code 23 = .ok (.dup, 1) := by decide +kernel
theorem d_Model_keep_24 : decode prog_11_method_10_code 24 = .ok (.getfield 113, 3) := by decide +kernel
theorem d_Model_keep_27 : decode prog_11_method_10_code 27 = .ok (.iconst 1, 1) := by decide +kernel
theorem d_Model_keep_28 : decode prog_11_method_10_code 28 = .ok (.iadd, 1) := by decide +kernel
theorem d_Model_keep_29 : decode prog_11_method_10_code 29 = .ok (.putfield 113, 3) := by decide +kernel
theorem d_Model_keep_32 : decode prog_11_method_10_code 32 = .ok (.iinc 3 1, 3) := by decide +kernel
theorem d_Model_keep_35 : decode prog_11_method_10_code 35 = .ok (.goto (-33), 3) := by decide +kernel
theorem d_Model_keep_38 : decode prog_11_method_10_code 38 = .ok (.return_, 1) := by decide +kernel
theorem d_Model_addField_0 : decode prog_11_method_11_code 0 = .ok (.iload_n 1, 1) := by decide +kernel
theorem d_Model_addField_1 : decode prog_11_method_11_code 1 = .ok (.istore 4, 2) := by decide +kernel
theorem d_Model_addField_3 : decode prog_11_method_11_code 3 = .ok (.aload_n 0, 1) := by decide +kernel
theorem d_Model_addField_4 : decode prog_11_method_11_code 4 = .ok (.getfield 13, 3) := by decide +kernel
theorem d_Model_addField_7 : decode prog_11_method_11_code 7 = .ok (.iload 4, 2) := by decide +kernel
theorem d_Model_addField_9 : decode prog_11_method_11_code 9 = .ok (.iaload, 1) := by decide +kernel
theorem d_Model_addField_10 : decode prog_11_method_11_code 10 = .ok (.bipush 33, 2) := by decide +kernel
theorem d_Model_addField_12 : decode prog_11_method_11_code 12 = .ok (.if_icmp .lt 33, 3) := by decide +kernel
theorem d_Model_addField_15 : decode prog_11_method_11_code 15 = .ok (.aload_n 0, 1) := by decide +kernel
theorem d_Model_addField_16 : decode prog_11_method_11_code 16 = .ok (.getfield 13, 3) := by decide +kernel
theorem d_Model_addField_19 : decode prog_11_method_11_code 19 = .ok (.iload 4, 2) := by decide +kernel
theorem d_Model_addField_21 : decode prog_11_method_11_code 21 = .ok (.iaload, 1) := by decide +kernel
theorem d_Model_addField_22 : decode prog_11_method_11_code 22 = .ok (.bipush 126, 2) := by decide +kernel
theorem d_Model_addField_24 : decode prog_11_method_11_code 24 = .ok (.if_icmp .gt 21, 3) := by decide +kernel
theorem d_Model_addField_27 : decode prog_11_method_11_code 27 = .ok (.aload_n 0, 1) := by decide +kernel
theorem d_Model_addField_28 : decode prog_11_method_11_code 28 = .ok (.getfield 13, 3) := by decide +kernel
theorem d_Model_addField_31 : decode prog_11_method_11_code 31 = .ok (.iload 4, 2) := by decide +kernel
theorem d_Model_addField_33 : decode prog_11_method_11_code 33 = .ok (.iaload, 1) := by decide +kernel
theorem d_Model_addField_34 : decode prog_11_method_11_code 34 = .ok (.bipush 58, 2) := by decide +kernel
theorem d_Model_addField_36 : decode prog_11_method_11_code 36 = .ok (.if_icmp .eq 9, 3) := by decide +kernel
theorem d_Model_addField_39 : decode prog_11_method_11_code 39 = .ok (.iinc 4 1, 3) := by decide +kernel
theorem d_Model_addField_42 : decode prog_11_method_11_code 42 = .ok (.goto (-39), 3) := by decide +kernel
theorem d_Model_addField_45 : decode prog_11_method_11_code 45 = .ok (.aload_n 0, 1) := by decide +kernel
theorem d_Model_addField_46 : decode prog_11_method_11_code 46 = .ok (.getfield 16, 3) := by decide +kernel
theorem d_Model_addField_49 : decode prog_11_method_11_code 49 = .ok (.aload_n 0, 1) := by decide +kernel
theorem d_Model_addField_50 : decode prog_11_method_11_code 50 = .ok (.getfield 116, 3) := by decide +kernel
theorem d_Model_addField_53 : decode prog_11_method_11_code 53 = .ok (.aload_n 0, 1) := by decide +kernel
theorem d_Model_addField_54 : decode prog_11_method_11_code 54 = .ok (.getfield 113, 3) := by decide +kernel
theorem d_Model_addField_57 : decode prog_11_method_11_code 57 = .ok (.iastore, 1) := by decide +kernel
theorem d_Model_addField_58 : decode prog_11_method_11_code 58 = .ok (.aload_n 0, 1) := by decide +kernel
theorem d_Model_addField_59 : decode prog_11_method_11_code 59 = .ok (.getfield 19, 3) := by decide +kernel
theorem d_Model_addField_62 : decode prog_11_method_11_code 62 = .ok (.aload_n 0, 1) := by decide +kernel
theorem d_Model_addField_63 : decode prog_11_method_11_code 63 = .ok (.getfield 116, 3) := by decide +kernel
theorem d_Model_addField_66 : decode prog_11_method_11_code 66 = .ok (.iload 4, 2) := by decide +kernel
theorem d_Model_addField_68 : decode prog_11_method_11_code 68 = .ok (.iload_n 1, 1) := by decide +kernel
theorem d_Model_addField_69 : decode prog_11_method_11_code 69 = .ok (.isub, 1) := by decide +kernel
theorem d_Model_addField_70 : decode prog_11_method_11_code 70 = .ok (.iastore, 1) := by decide +kernel
theorem d_Model_addField_71 : decode prog_11_method_11_code 71 = .ok (.aload_n 0, 1) := by decide +kernel
theorem d_Model_addField_72 : decode prog_11_method_11_code 72 = .ok (.iload_n 1, 1) := by decide +kernel
theorem d_Model_addField_73 : decode prog_11_method_11_code 73 = .ok (.iload 4, 2) := by decide +kernel
theorem d_Model_addField_75 : decode prog_11_method_11_code 75 = .ok (.invokevirtual 119, 3) := by decide +kernel
theorem d_Model_addField_78 : decode prog_11_method_11_code 78 = .ok (.aload_n 0, 1) := by decide +kernel
theorem d_Model_addField_79 : decode prog_11_method_11_code 79 = .ok (.getfield 22, 3) := by decide +kernel
theorem d_Model_addField_82 : decode prog_11_method_11_code 82 = .ok (.aload_n 0, 1) := by decide +kernel
theorem d_Model_addField_83 : decode prog_11_method_11_code 83 = .ok (.getfield 116, 3) := by decide +kernel
theorem d_Model_addField_86 : decode prog_11_method_11_code 86 = .ok (.aload_n 0, 1) := by decide +kernel
theorem d_Model_addField_87 : decode prog_11_method_11_code 87 = .ok (.getfield 113, 3) := by decide +kernel
theorem d_Model_addField_90 : decode prog_11_method_11_code 90 = .ok (.iastore, 1) := by decide +kernel
theorem d_Model_addField_91 : decode prog_11_method_11_code 91 = .ok (.aload_n 0, 1) := by decide +kernel
theorem d_Model_addField_92 : decode prog_11_method_11_code 92 = .ok (.getfield 25, 3) := by decide +kernel
theorem d_Model_addField_95 : decode prog_11_method_11_code 95 = .ok (.aload_n 0, 1) := by decide +kernel
theorem d_Model_addField_96 : decode prog_11_method_11_code 96 = .ok (.getfield 116, 3) := by decide +kernel
theorem d_Model_addField_99 : decode prog_11_method_11_code 99 = .ok (.iload_n 3, 1) := by decide +kernel
theorem d_Model_addField_100 : decode prog_11_method_11_code 100 = .ok (.iload_n 2, 1) := by decide +kernel
theorem d_Model_addField_101 : decode prog_11_method_11_code 101 = .ok (.isub, 1) := by decide +kernel
theorem d_Model_addField_102 : decode prog_11_method_11_code 102 = .ok (.iconst 1, 1) := by decide +kernel
theorem d_Model_addField_103 : decode prog_11_method_11_code 103 = .ok (.isub, 1) := by decide +kernel
theorem d_Model_addField_104 : decode prog_11_method_11_code 104 = .ok (.iastore, 1) := by decide +kernel
theorem d_Model_addField_105 : decode prog_11_method_11_code 105 = .ok (.aload_n 0, 1) := by decide +kernel
theorem d_Model_addField_106 : decode prog_11_method_11_code 106 = .ok (.iload_n 2, 1) := by decide +kernel
theorem d_Model_addField_107 : decode prog_11_method_11_code 107 = .ok (.iconst 1, 1) := by decide +kernel
theorem d_Model_addField_108 : decode prog_11_method_11_code 108 = .ok (.iadd, 1) := by decide +kernel
theorem d_Model_addField_109 : decode prog_11_method_11_code 109 = .ok (.iload_n 3, 1) := by decide +kernel
theorem d_Model_addField_110 : decode prog_11_method_11_code 110 = .ok (.invokevirtual 119, 3) := by decide +kernel
theorem d_Model_addField_113 : decode prog_11_method_11_code 113 = .ok (.aload_n 0, 1) := by decide +kernel
theorem d_Model_addField_114 : decode prog_11_method_11_code 114 = .ok (.dup, 1) := by decide +kernel
theorem d_Model_addField_115 : decode prog_11_method_11_code 115 = .ok (.getfield 116, 3) := by decide +kernel
theorem d_Model_addField_118 : decode prog_11_method_11_code 118 = .ok (.iconst 1, 1) := by decide +kernel
theorem d_Model_addField_119 : decode prog_11_method_11_code 119 = .ok (.iadd, 1) := by decide +kernel
theorem d_Model_addField_120 : decode prog_11_method_11_code 120 = .ok (.putfield 116, 3) := by decide +kernel
theorem d_Model_addField_123 : decode prog_11_method_11_code 123 = .ok (.return_, 1) := by decide +kernel
theorem d_Model_read_0 : decode prog_11_method_12_code 0 = .ok (.aload_n 0, 1) := by decide +kernel
theorem d_Model_read_1 : decode prog_11_method_12_code 1 = .ok (.iconst 0, 1) := by decide +kernel
theorem d_Model_read_2 : decode prog_11_method_12_code 2 = .ok (.putfield 99, 3) := by decide +kernel
theorem d_Model_read_5 : decode prog_11_method_12_code 5 = .ok (.aload_n 0, 1) := by decide +kernel
theorem d_Model_read_6 : decode prog_11_method_12_code 6 = .ok (.getfield 106, 3) := by decide +kernel
theorem d_Model_read_9 : decode prog_11_method_12_code 9 = .ok (.istore_n 1, 1) := by decide +kernel
theorem d_Model_read_10 : decode prog_11_method_12_code 10 = .ok (.aload_n 0, 1) := by decide +kernel
theorem d_Model_read_11 : decode prog_11_method_12_code 11 = .ok (.iconst 0, 1) := by decide +kernel
theorem d_Model_read_12 : decode prog_11_method_12_code 12 = .ok (.putfield 106, 3) := by decide +kernel
theorem d_Model_read_15 : decode prog_11_method_12_code 15 = .ok (.aload_n 0, 1) := by decide +kernel
theorem d_Model_read_16 : decode prog_11_method_12_code 16 = .ok (.iconst 0, 1) := by decide +kernel
theorem d_Model_read_17 : decode prog_11_method_12_code 17 = .ok (.putfield 116, 3) := by decide +kernel
theorem d_Model_read_20 : decode prog_11_method_12_code 20 = .ok (.aload_n 0, 1) := by decide +kernel
theorem d_Model_read_21 : decode prog_11_method_12_code 21 = .ok (.iconst 0, 1) := by decide +kernel
theorem d_Model_read_22 : decode prog_11_method_12_code 22 = .ok (.putfield 122, 3) := by decide +kernel
theorem d_Model_read_25 : decode prog_11_method_12_code 25 = .ok (.aload_n 0, 1) := by decide +kernel
theorem d_Model_read_26 : decode prog_11_method_12_code 26 = .ok (.iconst 0, 1) := by decide +kernel
theorem d_Model_read_27 : decode prog_11_method_12_code 27 = .ok (.putfield 113, 3) := by decide +kernel
theorem d_Model_read_30 : decode prog_11_method_12_code 30 = .ok (.iconst 0, 1) := by decide +kernel
theorem d_Model_read_31 : decode prog_11_method_12_code 31 = .ok (.istore_n 2, 1) := by decide +kernel
theorem d_Model_read_32 : decode prog_11_method_12_code 32 = .ok (.iconst 0, 1) := by decide +kernel
theorem d_Model_read_33 : decode prog_11_method_12_code 33 = .ok (.istore_n 3, 1) := by decide +kernel
theorem d_Model_read_34 : decode prog_11_method_12_code 34 = .ok (.iload_n 3, 1) := by decide +kernel
theorem d_Model_read_35 : decode prog_11_method_12_code 35 = .ok (.iload_n 1, 1) := by decide +kernel
theorem d_Model_read_36 : decode prog_11_method_12_code 36 = .ok (.if_icmp .ge 193, 3) := by decide +kernel
theorem d_Model_read_39 : decode prog_11_method_12_code 39 = .ok (.iload_n 3, 1) := by decide +kernel
theorem d_Model_read_40 : decode prog_11_method_12_code 40 = .ok (.istore 4, 2) := by decide +kernel
theorem d_Model_read_42 : decode prog_11_method_12_code 42 = .ok (.iload 4, 2) := by decide +kernel
theorem d_Model_read_44 : decode prog_11_method_12_code 44 = .ok (.iload_n 1, 1) := by decide +kernel
theorem d_Model_read_45 : decode prog_11_method_12_code 45 = .ok (.if_icmp .ge 21, 3) := by decide +kernel
theorem d_Model_read_48 : decode prog_11_method_12_code 48 = .ok (.aload_n 0, 1) := by decide +kernel
theorem d_Model_read_49 : decode prog_11_method_12_code 49 = .ok (.getfield 13, 3) := by decide +kernel
theorem d_Model_read_52 : decode prog_11_method_12_code 52 = .ok (.iload 4, 2) := by decide +kernel
theorem d_Model_read_54 : decode prog_11_method_12_code 54 = .ok (.iaload, 1) := by decide +kernel
theorem d_Model_read_55 : decode prog_11_method_12_code 55 = .ok (.bipush 10, 2) := by decide +kernel
theorem d_Model_read_57 : decode prog_11_method_12_code 57 = .ok (.if_icmp .eq 9, 3) := by decide +kernel
theorem d_Model_read_60 : decode prog_11_method_12_code 60 = .ok (.iinc 4 1, 3) := by decide +kernel
theorem d_Model_read_63 : decode prog_11_method_12_code 63 = .ok (.goto (-21), 3) := by decide +kernel
theorem d_Model_read_66 : decode prog_11_method_12_code 66 = .ok (.iload 4, 2) := by decide +kernel
theorem d_Model_read_68 : decode prog_11_method_12_code 68 = .ok (.iload_n 1, 1) := by decide +kernel
theorem d_Model_read_69 : decode prog_11_method_12_code 69 = .ok (.if_icmp .ge 30, 3) := by decide +kernel
theorem d_Model_read_72 : decode prog_11_method_12_code 72 = .ok (.iload 4, 2) := by decide +kernel
theorem d_Model_read_74 : decode prog_11_method_12_code 74 = .ok (.iload_n 3, 1) := by decide +kernel
theorem d_Model_read_75 : decode prog_11_method_12_code 75 = .ok (.if_icmp .le 24, 3) := by decide +kernel
theorem d_Model_read_78 : decode prog_11_method_12_code 78 = .ok (.aload_n 0, 1) := by decide +kernel
theorem d_Model_read_79 : decode prog_11_method_12_code 79 = .ok (.getfield 13, 3) := by decide +kernel
theorem d_Model_read_82 : decode prog_11_method_12_code 82 = .ok (.iload 4, 2) := by decide +kernel
theorem d_Model_read_84 : decode prog_11_method_12_code 84 = .ok (.iconst 1, 1) := by decide +kernel
theorem d_Model_read_85 : decode prog_11_method_12_code 85 = .ok (.isub, 1) := by decide +kernel
theorem d_Model_read_86 : decode prog_11_method_12_code 86 = .ok (.iaload, 1) := by decide +kernel
theorem d_Model_read_87 : decode prog_11_method_12_code 87 = .ok (.bipush 13, 2) := by decide +kernel
theorem d_Model_read_89 : decode prog_11_method_12_code 89 = .ok (.if_icmp .ne 10, 3) := by decide +kernel
theorem d_Model_read_92 : decode prog_11_method_12_code 92 = .ok (.iload 4, 2) := by decide +kernel
theorem d_Model_read_94 : decode prog_11_method_12_code 94 = .ok (.iconst 1, 1) := by decide +kernel
theorem d_Model_read_95 : decode prog_11_method_12_code 95 = .ok (.isub, 1) := by decide +kernel
theorem d_Model_read_96 : decode prog_11_method_12_code 96 = .ok (.goto 5, 3) := by decide +kernel
theorem d_Model_read_99 : decode prog_11_method_12_code 99 = .ok (.iload 4, 2) := by decide +kernel
theorem d_Model_read_101 : decode prog_11_method_12_code 101 = .ok (.istore 5, 2) := by decide +kernel
theorem d_Model_read_103 : decode prog_11_method_12_code 103 = .ok (.aload_n 0, 1) := by decide +kernel
theorem d_Model_read_104 : decode prog_11_method_12_code 104 = .ok (.iload_n 3, 1) := by decide +kernel
theorem d_Model_read_105 : decode prog_11_method_12_code 105 = .ok (.iload 5, 2) := by decide +kernel
theorem d_Model_read_107 : decode prog_11_method_12_code 107 = .ok (.invokevirtual 125, 3) := by decide +kernel
theorem d_Model_read_110 : decode prog_11_method_12_code 110 = .ok (.istore 6, 2) := by decide +kernel
theorem d_Model_read_112 : decode prog_11_method_12_code 112 = .ok (.iload 5, 2) := by decide +kernel
theorem d_Model_read_114 : decode prog_11_method_12_code 114 = .ok (.iload_n 3, 1) := by decide +kernel
theorem d_Model_read_115 : decode prog_11_method_12_code 115 = .ok (.if_icmp .le 60, 3) := by decide +kernel
theorem d_Model_read_118 : decode prog_11_method_12_code 118 = .ok (.aload_n 0, 1) := by decide +kernel
theorem d_Model_read_119 : decode prog_11_method_12_code 119 = .ok (.getfield 13, 3) := by decide +kernel
theorem d_Model_read_122 : decode prog_11_method_12_code 122 = .ok (.iload_n 3, 1) := by decide +kernel
theorem d_Model_read_123 : decode prog_11_method_12_code 123 = .ok (.iaload, 1) := by decide +kernel
theorem d_Model_read_124 : decode prog_11_method_12_code 124 = .ok (.invokestatic 109, 3) := by decide +kernel
theorem d_Model_read_127 : decode prog_11_method_12_code 127 = .ok (.ifCond .eq 48, 3) := by decide +kernel
theorem d_Model_read_130 : decode prog_11_method_12_code 130 = .ok (.iload_n 2, 1) := by decide +kernel
theorem d_Model_read_131 : decode prog_11_method_12_code 131 = .ok (.ifCond .eq 31, 3) := by decide +kernel
theorem d_Model_read_134 : decode prog_11_method_12_code 134 = .ok (.aload_n 0, 1) := by decide +kernel
theorem d_Model_read_135 : decode prog_11_method_12_code 135 = .ok (.iload_n 3, 1) := by decide +kernel
theorem d_Model_read_136 : decode prog_11_method_12_code 136 = .ok (.iload 5, 2) := by decide +kernel
theorem d_Model_read_138 : decode prog_11_method_12_code 138 = .ok (.invokevirtual 119, 3) := by decide +kernel
theorem d_Model_read_141 : decode prog_11_method_12_code 141 = .ok (.aload_n 0, 1) := by decide +kernel
theorem d_Model_read_142 : decode prog_11_method_12_code 142 = .ok (.getfield 25, 3) := by decide +kernel
theorem d_Model_read_145 : decode prog_11_method_12_code 145 = .ok (.aload_n 0, 1) := by decide +kernel
theorem d_Model_read_146 : decode prog_11_method_12_code 146 = .ok (.getfield 116, 3) := by decide +kernel
theorem d_Model_read_149 : decode prog_11_method_12_code 149 = .ok (.iconst 1, 1) := by decide +kernel
theorem d_Model_read_150 : decode prog_11_method_12_code 150 = .ok (.isub, 1) := by decide +kernel
theorem d_Model_read_151 : decode prog_11_method_12_code 151 = .ok (.dup2, 1) := by decide +kernel
theorem d_Model_read_152 : decode prog_11_method_12_code 152 = .ok (.iaload, 1) := by decide +kernel
theorem d_Model_read_153 : decode prog_11_method_12_code 153 = .ok (.iload 5, 2) := by decide +kernel
theorem d_Model_read_155 : decode prog_11_method_12_code 155 = .ok (.iload_n 3, 1) := by decide +kernel
theorem d_Model_read_156 : decode prog_11_method_12_code 156 = .ok (.isub, 1) := by decide +kernel
theorem d_Model_read_157 : decode prog_11_method_12_code 157 = .ok (.iadd, 1) := by decide +kernel
theorem d_Model_read_158 : decode prog_11_method_12_code 158 = .ok (.iastore, 1) := by decide +kernel
theorem d_Model_read_159 : decode prog_11_method_12_code 159 = .ok (.goto 62, 3) := by decide +kernel
theorem d_Model_read_162 : decode prog_11_method_12_code 162 = .ok (.aload_n 0, 1) := by decide +kernel
theorem d_Model_read_163 : decode prog_11_method_12_code 163 = .ok (.dup, 1) := by decide +kernel
theorem d_Model_read_164 : decode prog_11_method_12_code 164 = .ok (.getfield 122, 3) := by decide +kernel
theorem d_Model_read_167 : decode prog_11_method_12_code 167 = .ok (.iconst 1, 1) := by decide +kernel
theorem d_Model_read_168 : decode prog_11_method_12_code 168 = .ok (.iadd, 1) := by decide +kernel
theorem d_Model_read_169 : decode prog_11_method_12_code 169 = .ok (.putfield 122, 3) := by decide +kernel
theorem d_Model_read_172 : decode prog_11_method_12_code 172 = .ok (.goto 49, 3) := by decide +kernel
theorem d_Model_read_175 : decode prog_11_method_12_code 175 = .ok (.iload 6, 2) := by decide +kernel
theorem d_Model_read_177 : decode prog_11_method_12_code 177 = .ok (.iconst (-1), 1) := by decide +kernel
theorem d_Model_read_178 : decode prog_11_method_12_code 178 = .ok (.if_icmp .ne 18, 3) := by decide +kernel
theorem d_Model_read_181 : decode prog_11_method_12_code 181 = .ok (.aload_n 0, 1) := by decide +kernel
theorem d_Model_read_182 : decode prog_11_method_12_code 182 = .ok (.dup, 1) := by decide +kernel
theorem d_Model_read_183 : decode prog_11_method_12_code 183 = .ok (.getfield 122, 3) := by decide +kernel
theorem d_Model_read_186 : decode prog_11_method_12_code 186 = .ok (.iconst 1, 1) := by decide +kernel
theorem d_Model_read_187 : decode prog_11_method_12_code 187 = .ok (.iadd, 1) := by decide +kernel
theorem d_Model_read_188 : decode prog_11_method_12_code 188 = .ok (.putfield 122, 3) := by decide +kernel
theorem d_Model_read_191 : decode prog_11_method_12_code 191 = .ok (.iconst 0, 1) := by decide +kernel
theorem d_Model_read_192 : decode prog_11_method_12_code 192 = .ok (.istore_n 2, 1) := by decide +kernel
theorem d_Model_read_193 : decode prog_11_method_12_code 193 = .ok (.goto 28, 3) := by decide +kernel
theorem d_Model_read_196 : decode prog_11_method_12_code 196 = .ok (.aload_n 0, 1) := by decide +kernel
theorem d_Model_read_197 : decode prog_11_method_12_code 197 = .ok (.getfield 116, 3) := by decide +kernel
theorem d_Model_read_200 : decode prog_11_method_12_code 200 = .ok (.bipush 40, 2) := by decide +kernel
theorem d_Model_read_202 : decode prog_11_method_12_code 202 = .ok (.if_icmp .ne 8, 3) := by decide +kernel
theorem d_Model_read_205 : decode prog_11_method_12_code 205 = .ok (.aload_n 0, 1) := by decide +kernel
theorem d_Model_read_206 : decode prog_11_method_12_code 206 = .ok (.getfield 116, 3) := by decide +kernel
theorem d_Model_read_209 : decode prog_11_method_12_code 209 = .ok (.ireturn, 1) := by decide +kernel
theorem d_Model_read_210 : decode prog_11_method_12_code 210 = .ok (.aload_n 0, 1) := by decide +kernel
theorem d_Model_read_211 : decode prog_11_method_12_code 211 = .ok (.iload_n 3, 1) := by decide +kernel
theorem d_Model_read_212 : decode prog_11_method_12_code 212 = .ok (.iload 6, 2) := by decide +kernel
theorem d_Model_read_214 : decode prog_11_method_12_code 214 = .ok (.iload 5, 2) := by decide +kernel
theorem d_Model_read_216 : decode prog_11_method_12_code 216 = .ok (.invokevirtual 129, 3) := by decide +kernel
theorem d_Model_read_219 : decode prog_11_method_12_code 219 = .ok (.iconst 1, 1) := by decide +kernel
theorem d_Model_read_220 : decode prog_11_method_12_code 220 = .ok (.istore_n 2, 1) := by decide +kernel
theorem d_Model_read_221 : decode prog_11_method_12_code 221 = .ok (.iload 4, 2) := by decide +kernel
theorem d_Model_read_223 : decode prog_11_method_12_code 223 = .ok (.iconst 1, 1) := by decide +kernel
theorem d_Model_read_224 : decode prog_11_method_12_code 224 = .ok (.iadd, 1) := by decide +kernel
theorem d_Model_read_225 : decode prog_11_method_12_code 225 = .ok (.istore_n 3, 1) := by decide +kernel
theorem d_Model_read_226 : decode prog_11_method_12_code 226 = .ok (.goto (-192), 3) := by decide +kernel
theorem d_Model_read_229 : decode prog_11_method_12_code 229 = .ok (.aload_n 0, 1) := by decide +kernel
theorem d_Model_read_230 : decode prog_11_method_12_code 230 = .ok (.getfield 116, 3) := by decide +kernel
theorem d_Model_read_233 : decode prog_11_method_12_code 233 = .ok (.ireturn, 1) := by decide +kernel
theorem d_Model_length_0 : decode prog_11_method_36_code 0 = .ok (.aload_n 0, 1) := by decide +kernel
theorem d_Model_length_1 : decode prog_11_method_36_code 1 = .ok (.iconst 0, 1) := by decide +kernel
theorem d_Model_length_2 : decode prog_11_method_36_code 2 = .ok (.putfield 99, 3) := by decide +kernel
theorem d_Model_length_5 : decode prog_11_method_36_code 5 = .ok (.iload_n 1, 1) := by decide +kernel
theorem d_Model_length_6 : decode prog_11_method_36_code 6 = .ok (.ifCond .lt 23, 3) := by decide +kernel
theorem d_Model_length_9 : decode prog_11_method_36_code 9 = .ok (.iload_n 1, 1) := by decide +kernel
theorem d_Model_length_10 : decode prog_11_method_36_code 10 = .ok (.bipush 6, 2) := by decide +kernel
theorem d_Model_length_12 : decode prog_11_method_36_code 12 = .ok (.if_icmp .gt 17, 3) := by decide +kernel
theorem d_Model_length_15 : decode prog_11_method_36_code 15 = .ok (.iload_n 2, 1) := by decide +kernel
theorem d_Model_length_16 : decode prog_11_method_36_code 16 = .ok (.ifCond .lt 13, 3) := by decide +kernel
theorem d_Model_length_19 : decode prog_11_method_36_code 19 = .ok (.iload_n 2, 1) := by decide +kernel
theorem d_Model_length_20 : decode prog_11_method_36_code 20 = .ok (.aload_n 0, 1) := by decide +kernel
theorem d_Model_length_21 : decode prog_11_method_36_code 21 = .ok (.getfield 52, 3) := by decide +kernel
theorem d_Model_length_24 : decode prog_11_method_36_code 24 = .ok (.iload_n 1, 1) := by decide +kernel
theorem d_Model_length_25 : decode prog_11_method_36_code 25 = .ok (.iaload, 1) := by decide +kernel
theorem d_Model_length_26 : decode prog_11_method_36_code 26 = .ok (.if_icmp .lt 7, 3) := by decide +kernel
theorem d_Model_length_29 : decode prog_11_method_36_code 29 = .ok (.iconst (-1), 1) := by decide +kernel
theorem d_Model_length_30 : decode prog_11_method_36_code 30 = .ok (.goto 15, 3) := by decide +kernel
theorem d_Model_length_33 : decode prog_11_method_36_code 33 = .ok (.aload_n 0, 1) := by decide +kernel
theorem d_Model_length_34 : decode prog_11_method_36_code 34 = .ok (.getfield 58, 3) := by decide +kernel
theorem d_Model_length_37 : decode prog_11_method_36_code 37 = .ok (.sipush 1000, 3) := by decide +kernel
theorem d_Model_length_40 : decode prog_11_method_36_code 40 = .ok (.iload_n 1, 1) := by decide +kernel
theorem d_Model_length_41 : decode prog_11_method_36_code 41 = .ok (.imul, 1) := by decide +kernel
theorem d_Model_length_42 : decode prog_11_method_36_code 42 = .ok (.iload_n 2, 1) := by decide +kernel
theorem d_Model_length_43 : decode prog_11_method_36_code 43 = .ok (.iadd, 1) := by decide +kernel
theorem d_Model_length_44 : decode prog_11_method_36_code 44 = .ok (.iaload, 1) := by decide +kernel
theorem d_Model_length_45 : decode prog_11_method_36_code 45 = .ok (.ireturn, 1) := by decide +kernel
theorem d_Model_parameterByte_0 : decode prog_11_method_74_code 0 = .ok (.aload_n 0, 1) := by decide +kernel
theorem d_Model_parameterByte_1 : decode prog_11_method_74_code 1 = .ok (.iconst 0, 1) := by decide +kernel
theorem d_Model_parameterByte_2 : decode prog_11_method_74_code 2 = .ok (.putfield 99, 3) := by decide +kernel
theorem d_Model_parameterByte_5 : decode prog_11_method_74_code 5 = .ok (.iload_n 1, 1) := by decide +kernel
theorem d_Model_parameterByte_6 : decode prog_11_method_74_code 6 = .ok (.ifCond .eq 10, 3) := by decide +kernel
theorem d_Model_parameterByte_9 : decode prog_11_method_74_code 9 = .ok (.aload_n 0, 1) := by decide +kernel
theorem d_Model_parameterByte_10 : decode prog_11_method_74_code 10 = .ok (.getfield 96, 3) := by decide +kernel
theorem d_Model_parameterByte_13 : decode prog_11_method_74_code 13 = .ok (.goto 7, 3) := by decide +kernel
theorem d_Model_parameterByte_16 : decode prog_11_method_74_code 16 = .ok (.aload_n 0, 1) := by decide +kernel
theorem d_Model_parameterByte_17 : decode prog_11_method_74_code 17 = .ok (.getfield 92, 3) := by decide +kernel
theorem d_Model_parameterByte_20 : decode prog_11_method_74_code 20 = .ok (.istore_n 3, 1) := by decide +kernel
theorem d_Model_parameterByte_21 : decode prog_11_method_74_code 21 = .ok (.iload_n 2, 1) := by decide +kernel
theorem d_Model_parameterByte_22 : decode prog_11_method_74_code 22 = .ok (.ifCond .lt 8, 3) := by decide +kernel
theorem d_Model_parameterByte_25 : decode prog_11_method_74_code 25 = .ok (.iload_n 2, 1) := by decide +kernel
theorem d_Model_parameterByte_26 : decode prog_11_method_74_code 26 = .ok (.iload_n 3, 1) := by decide +kernel
theorem d_Model_parameterByte_27 : decode prog_11_method_74_code 27 = .ok (.if_icmp .lt 7, 3) := by decide +kernel
theorem d_Model_parameterByte_30 : decode prog_11_method_74_code 30 = .ok (.iconst (-1), 1) := by decide +kernel
theorem d_Model_parameterByte_31 : decode prog_11_method_74_code 31 = .ok (.goto 22, 3) := by decide +kernel
theorem d_Model_parameterByte_34 : decode prog_11_method_74_code 34 = .ok (.iload_n 1, 1) := by decide +kernel
theorem d_Model_parameterByte_35 : decode prog_11_method_74_code 35 = .ok (.ifCond .eq 12, 3) := by decide +kernel
theorem d_Model_parameterByte_38 : decode prog_11_method_74_code 38 = .ok (.aload_n 0, 1) := by decide +kernel
theorem d_Model_parameterByte_39 : decode prog_11_method_74_code 39 = .ok (.getfield 89, 3) := by decide +kernel
theorem d_Model_parameterByte_42 : decode prog_11_method_74_code 42 = .ok (.iload_n 2, 1) := by decide +kernel
theorem d_Model_parameterByte_43 : decode prog_11_method_74_code 43 = .ok (.iaload, 1) := by decide +kernel
theorem d_Model_parameterByte_44 : decode prog_11_method_74_code 44 = .ok (.goto 9, 3) := by decide +kernel
theorem d_Model_parameterByte_47 : decode prog_11_method_74_code 47 = .ok (.aload_n 0, 1) := by decide +kernel
theorem d_Model_parameterByte_48 : decode prog_11_method_74_code 48 = .ok (.getfield 86, 3) := by decide +kernel
theorem d_Model_parameterByte_51 : decode prog_11_method_74_code 51 = .ok (.iload_n 2, 1) := by decide +kernel
theorem d_Model_parameterByte_52 : decode prog_11_method_74_code 52 = .ok (.iaload, 1) := by decide +kernel
theorem d_Model_parameterByte_53 : decode prog_11_method_74_code 53 = .ok (.ireturn, 1) := by decide +kernel
theorem d_Model_thrown_0 : decode prog_11_method_2_code 0 = .ok (.aload_n 0, 1) := by decide +kernel
theorem d_Model_thrown_1 : decode prog_11_method_2_code 1 = .ok (.getfield 99, 3) := by decide +kernel
theorem d_Model_thrown_4 : decode prog_11_method_2_code 4 = .ok (.ireturn, 1) := by decide +kernel
theorem d_Model_bad_0 : decode prog_11_method_13_code 0 = .ok (.aload_n 0, 1) := by decide +kernel
theorem d_Model_bad_1 : decode prog_11_method_13_code 1 = .ok (.iconst 0, 1) := by decide +kernel
theorem d_Model_bad_2 : decode prog_11_method_13_code 2 = .ok (.putfield 99, 3) := by decide +kernel
theorem d_Model_bad_5 : decode prog_11_method_13_code 5 = .ok (.aload_n 0, 1) := by decide +kernel
theorem d_Model_bad_6 : decode prog_11_method_13_code 6 = .ok (.getfield 122, 3) := by decide +kernel
theorem d_Model_bad_9 : decode prog_11_method_13_code 9 = .ok (.ireturn, 1) := by decide +kernel
theorem d_Model_endPart_0 : decode prog_11_method_35_code 0 = .ok (.aload_n 0, 1) := by decide +kernel
theorem d_Model_endPart_1 : decode prog_11_method_35_code 1 = .ok (.getfield 52, 3) := by decide +kernel
theorem d_Model_endPart_4 : decode prog_11_method_35_code 4 = .ok (.iload_n 1, 1) := by decide +kernel
theorem d_Model_endPart_5 : decode prog_11_method_35_code 5 = .ok (.dup2, 1) := by decide +kernel
theorem d_Model_endPart_6 : decode prog_11_method_35_code 6 = .ok (.iaload, 1) := by decide +kernel
theorem d_Model_endPart_7 : decode prog_11_method_35_code 7 = .ok (.iconst 1, 1) := by decide +kernel
theorem d_Model_endPart_8 : decode prog_11_method_35_code 8 = .ok (.iadd, 1) := by decide +kernel
theorem d_Model_endPart_9 : decode prog_11_method_35_code 9 = .ok (.iastore, 1) := by decide +kernel
theorem d_Model_endPart_10 : decode prog_11_method_35_code 10 = .ok (.return_, 1) := by decide +kernel
theorem d_Model_areaOf_0 : decode prog_11_method_30_code 0 = .ok (.iload_n 0, 1) := by decide +kernel
theorem d_Model_areaOf_1 : decode prog_11_method_30_code 1 = .ok (.iconst 4, 1) := by decide +kernel
theorem d_Model_areaOf_2 : decode prog_11_method_30_code 2 = .ok (.if_icmp .ge 7, 3) := by decide +kernel
theorem d_Model_areaOf_5 : decode prog_11_method_30_code 5 = .ok (.iconst 0, 1) := by decide +kernel
theorem d_Model_areaOf_6 : decode prog_11_method_30_code 6 = .ok (.goto 13, 3) := by decide +kernel
theorem d_Model_areaOf_9 : decode prog_11_method_30_code 9 = .ok (.iload_n 0, 1) := by decide +kernel
theorem d_Model_areaOf_10 : decode prog_11_method_30_code 10 = .ok (.iconst 4, 1) := by decide +kernel
theorem d_Model_areaOf_11 : decode prog_11_method_30_code 11 = .ok (.if_icmp .ne 7, 3) := by decide +kernel
theorem d_Model_areaOf_14 : decode prog_11_method_30_code 14 = .ok (.iconst 1, 1) := by decide +kernel
theorem d_Model_areaOf_15 : decode prog_11_method_30_code 15 = .ok (.goto 4, 3) := by decide +kernel
theorem d_Model_areaOf_18 : decode prog_11_method_30_code 18 = .ok (.iconst 2, 1) := by decide +kernel
theorem d_Model_areaOf_19 : decode prog_11_method_30_code 19 = .ok (.ireturn, 1) := by decide +kernel
theorem d_Model_roomAt_0 : decode prog_11_method_31_code 0 = .ok (.sipush 6000, 3) := by decide +kernel
theorem d_Model_roomAt_3 : decode prog_11_method_31_code 3 = .ok (.iload_n 1, 1) := by decide +kernel
theorem d_Model_roomAt_4 : decode prog_11_method_31_code 4 = .ok (.invokestatic 185, 3) := by decide +kernel
theorem d_Model_roomAt_7 : decode prog_11_method_31_code 7 = .ok (.imul, 1) := by decide +kernel
theorem d_Model_roomAt_8 : decode prog_11_method_31_code 8 = .ok (.aload_n 0, 1) := by decide +kernel
theorem d_Model_roomAt_9 : decode prog_11_method_31_code 9 = .ok (.getfield 49, 3) := by decide +kernel
theorem d_Model_roomAt_12 : decode prog_11_method_31_code 12 = .ok (.iload_n 1, 1) := by decide +kernel
theorem d_Model_roomAt_13 : decode prog_11_method_31_code 13 = .ok (.invokestatic 185, 3) := by decide +kernel
theorem d_Model_roomAt_16 : decode prog_11_method_31_code 16 = .ok (.iaload, 1) := by decide +kernel
theorem d_Model_roomAt_17 : decode prog_11_method_31_code 17 = .ok (.iadd, 1) := by decide +kernel
theorem d_Model_roomAt_18 : decode prog_11_method_31_code 18 = .ok (.ireturn, 1) := by decide +kernel
theorem d_Model_add_0 : decode prog_11_method_33_code 0 = .ok (.aload_n 0, 1) := by decide +kernel
theorem d_Model_add_1 : decode prog_11_method_33_code 1 = .ok (.getfield 46, 3) := by decide +kernel
theorem d_Model_add_4 : decode prog_11_method_33_code 4 = .ok (.aload_n 0, 1) := by decide +kernel
theorem d_Model_add_5 : decode prog_11_method_33_code 5 = .ok (.iload_n 1, 1) := by decide +kernel
theorem d_Model_add_6 : decode prog_11_method_33_code 6 = .ok (.invokevirtual 188, 3) := by decide +kernel
theorem d_Model_add_9 : decode prog_11_method_33_code 9 = .ok (.iload_n 2, 1) := by decide +kernel
theorem d_Model_add_10 : decode prog_11_method_33_code 10 = .ok (.iastore, 1) := by decide +kernel
theorem d_Model_add_11 : decode prog_11_method_33_code 11 = .ok (.aload_n 0, 1) := by decide +kernel
theorem d_Model_add_12 : decode prog_11_method_33_code 12 = .ok (.getfield 49, 3) := by decide +kernel
theorem d_Model_add_15 : decode prog_11_method_33_code 15 = .ok (.iload_n 1, 1) := by decide +kernel
theorem d_Model_add_16 : decode prog_11_method_33_code 16 = .ok (.invokestatic 185, 3) := by decide +kernel
theorem d_Model_add_19 : decode prog_11_method_33_code 19 = .ok (.dup2, 1) := by decide +kernel
theorem d_Model_add_20 : decode prog_11_method_33_code 20 = .ok (.iaload, 1) := by decide +kernel
theorem d_Model_add_21 : decode prog_11_method_33_code 21 = .ok (.iconst 1, 1) := by decide +kernel
theorem d_Model_add_22 : decode prog_11_method_33_code 22 = .ok (.iadd, 1) := by decide +kernel
theorem d_Model_add_23 : decode prog_11_method_33_code 23 = .ok (.iastore, 1) := by decide +kernel
theorem d_Model_add_24 : decode prog_11_method_33_code 24 = .ok (.aload_n 0, 1) := by decide +kernel
theorem d_Model_add_25 : decode prog_11_method_33_code 25 = .ok (.getfield 58, 3) := by decide +kernel
theorem d_Model_add_28 : decode prog_11_method_33_code 28 = .ok (.sipush 1000, 3) := by decide +kernel
theorem d_Model_add_31 : decode prog_11_method_33_code 31 = .ok (.iload_n 1, 1) := by decide +kernel
theorem d_Model_add_32 : decode prog_11_method_33_code 32 = .ok (.imul, 1) := by decide +kernel
theorem d_Model_add_33 : decode prog_11_method_33_code 33 = .ok (.aload_n 0, 1) := by decide +kernel
theorem d_Model_add_34 : decode prog_11_method_33_code 34 = .ok (.getfield 52, 3) := by decide +kernel
theorem d_Model_add_37 : decode prog_11_method_33_code 37 = .ok (.iload_n 1, 1) := by decide +kernel
theorem d_Model_add_38 : decode prog_11_method_33_code 38 = .ok (.iaload, 1) := by decide +kernel
theorem d_Model_add_39 : decode prog_11_method_33_code 39 = .ok (.iadd, 1) := by decide +kernel
theorem d_Model_add_40 : decode prog_11_method_33_code 40 = .ok (.dup2, 1) := by decide +kernel
theorem d_Model_add_41 : decode prog_11_method_33_code 41 = .ok (.iaload, 1) := by decide +kernel
theorem d_Model_add_42 : decode prog_11_method_33_code 42 = .ok (.iconst 1, 1) := by decide +kernel
theorem d_Model_add_43 : decode prog_11_method_33_code 43 = .ok (.iadd, 1) := by decide +kernel
theorem d_Model_add_44 : decode prog_11_method_33_code 44 = .ok (.iastore, 1) := by decide +kernel
theorem d_Model_add_45 : decode prog_11_method_33_code 45 = .ok (.return_, 1) := by decide +kernel
theorem d_Model_isField_0 : decode prog_11_method_15_code 0 = .ok (.iload_n 1, 1) := by decide +kernel
theorem d_Model_isField_1 : decode prog_11_method_15_code 1 = .ok (.ifCond .lt 15, 3) := by decide +kernel
theorem d_Model_isField_4 : decode prog_11_method_15_code 4 = .ok (.iload_n 1, 1) := by decide +kernel
theorem d_Model_isField_5 : decode prog_11_method_15_code 5 = .ok (.aload_n 0, 1) := by decide +kernel
theorem d_Model_isField_6 : decode prog_11_method_15_code 6 = .ok (.getfield 116, 3) := by decide +kernel
theorem d_Model_isField_9 : decode prog_11_method_15_code 9 = .ok (.if_icmp .ge 7, 3) := by decide +kernel
theorem d_Model_isField_12 : decode prog_11_method_15_code 12 = .ok (.iconst 1, 1) := by decide +kernel
theorem d_Model_isField_13 : decode prog_11_method_15_code 13 = .ok (.goto 4, 3) := by decide +kernel
theorem d_Model_isField_16 : decode prog_11_method_15_code 16 = .ok (.iconst 0, 1) := by decide +kernel
theorem d_Model_isField_17 : decode prog_11_method_15_code 17 = .ok (.ireturn, 1) := by decide +kernel
theorem d_Model_beginPart_0 : decode prog_11_method_32_code 0 = .ok (.sipush 1000, 3) := by decide +kernel
theorem d_Model_beginPart_3 : decode prog_11_method_32_code 3 = .ok (.iload_n 1, 1) := by decide +kernel
theorem d_Model_beginPart_4 : decode prog_11_method_32_code 4 = .ok (.imul, 1) := by decide +kernel
theorem d_Model_beginPart_5 : decode prog_11_method_32_code 5 = .ok (.aload_n 0, 1) := by decide +kernel
theorem d_Model_beginPart_6 : decode prog_11_method_32_code 6 = .ok (.getfield 52, 3) := by decide +kernel
theorem d_Model_beginPart_9 : decode prog_11_method_32_code 9 = .ok (.iload_n 1, 1) := by decide +kernel
theorem d_Model_beginPart_10 : decode prog_11_method_32_code 10 = .ok (.iaload, 1) := by decide +kernel
theorem d_Model_beginPart_11 : decode prog_11_method_32_code 11 = .ok (.iadd, 1) := by decide +kernel
theorem d_Model_beginPart_12 : decode prog_11_method_32_code 12 = .ok (.istore_n 2, 1) := by decide +kernel
theorem d_Model_beginPart_13 : decode prog_11_method_32_code 13 = .ok (.aload_n 0, 1) := by decide +kernel
theorem d_Model_beginPart_14 : decode prog_11_method_32_code 14 = .ok (.getfield 55, 3) := by decide +kernel
theorem d_Model_beginPart_17 : decode prog_11_method_32_code 17 = .ok (.iload_n 2, 1) := by decide +kernel
theorem d_Model_beginPart_18 : decode prog_11_method_32_code 18 = .ok (.aload_n 0, 1) := by decide +kernel
theorem d_Model_beginPart_19 : decode prog_11_method_32_code 19 = .ok (.iload_n 1, 1) := by decide +kernel
theorem d_Model_beginPart_20 : decode prog_11_method_32_code 20 = .ok (.invokevirtual 188, 3) := by decide +kernel
theorem d_Model_beginPart_23 : decode prog_11_method_32_code 23 = .ok (.iastore, 1) := by decide +kernel
theorem d_Model_beginPart_24 : decode prog_11_method_32_code 24 = .ok (.aload_n 0, 1) := by decide +kernel
theorem d_Model_beginPart_25 : decode prog_11_method_32_code 25 = .ok (.getfield 58, 3) := by decide +kernel
theorem d_Model_beginPart_28 : decode prog_11_method_32_code 28 = .ok (.iload_n 2, 1) := by decide +kernel
theorem d_Model_beginPart_29 : decode prog_11_method_32_code 29 = .ok (.iconst 0, 1) := by decide +kernel
theorem d_Model_beginPart_30 : decode prog_11_method_32_code 30 = .ok (.iastore, 1) := by decide +kernel
theorem d_Model_beginPart_31 : decode prog_11_method_32_code 31 = .ok (.return_, 1) := by decide +kernel
theorem d_Model_forget_0 : decode prog_11_method_29_code 0 = .ok (.iload_n 1, 1) := by decide +kernel
theorem d_Model_forget_1 : decode prog_11_method_29_code 1 = .ok (.istore 4, 2) := by decide +kernel
theorem d_Model_forget_3 : decode prog_11_method_29_code 3 = .ok (.iload 4, 2) := by decide +kernel
theorem d_Model_forget_5 : decode prog_11_method_29_code 5 = .ok (.iload_n 2, 1) := by decide +kernel
theorem d_Model_forget_6 : decode prog_11_method_29_code 6 = .ok (.if_icmp .gt 17, 3) := by decide +kernel
theorem d_Model_forget_9 : decode prog_11_method_29_code 9 = .ok (.aload_n 0, 1) := by decide +kernel
theorem d_Model_forget_10 : decode prog_11_method_29_code 10 = .ok (.getfield 52, 3) := by decide +kernel
theorem d_Model_forget_13 : decode prog_11_method_29_code 13 = .ok (.iload 4, 2) := by decide +kernel
theorem d_Model_forget_15 : decode prog_11_method_29_code 15 = .ok (.iconst 0, 1) := by decide +kernel
theorem d_Model_forget_16 : decode prog_11_method_29_code 16 = .ok (.iastore, 1) := by decide +kernel
theorem d_Model_forget_17 : decode prog_11_method_29_code 17 = .ok (.iinc 4 1, 3) := by decide +kernel
theorem d_Model_forget_20 : decode prog_11_method_29_code 20 = .ok (.goto (-17), 3) := by decide +kernel
theorem d_Model_forget_23 : decode prog_11_method_29_code 23 = .ok (.aload_n 0, 1) := by decide +kernel
theorem d_Model_forget_24 : decode prog_11_method_29_code 24 = .ok (.getfield 49, 3) := by decide +kernel
theorem d_Model_forget_27 : decode prog_11_method_29_code 27 = .ok (.iload_n 3, 1) := by decide +kernel
theorem d_Model_forget_28 : decode prog_11_method_29_code 28 = .ok (.iconst 0, 1) := by decide +kernel
theorem d_Model_forget_29 : decode prog_11_method_29_code 29 = .ok (.iastore, 1) := by decide +kernel
theorem d_Model_forget_30 : decode prog_11_method_29_code 30 = .ok (.return_, 1) := by decide +kernel
theorem d_Model_identities_0 : decode prog_11_method_50_code 0 = .ok (.aload_n 0, 1) := by decide +kernel
theorem d_Model_identities_1 : decode prog_11_method_50_code 1 = .ok (.aload_n 0, 1) := by decide +kernel
theorem d_Model_identities_2 : decode prog_11_method_50_code 2 = .ok (.iload_n 1, 1) := by decide +kernel
theorem d_Model_identities_3 : decode prog_11_method_50_code 3 = .ok (.invokevirtual 137, 3) := by decide +kernel
theorem d_Model_identities_6 : decode prog_11_method_50_code 6 = .ok (.ifCond .eq 7, 3) := by decide +kernel
theorem d_Model_identities_9 : decode prog_11_method_50_code 9 = .ok (.iconst 0, 1) := by decide +kernel
theorem d_Model_identities_10 : decode prog_11_method_50_code 10 = .ok (.goto 4, 3) := by decide +kernel
theorem d_Model_identities_13 : decode prog_11_method_50_code 13 = .ok (.iconst 1, 1) := by decide +kernel
theorem d_Model_identities_14 : decode prog_11_method_50_code 14 = .ok (.putfield 99, 3) := by decide +kernel
theorem d_Model_identities_17 : decode prog_11_method_50_code 17 = .ok (.aload_n 0, 1) := by decide +kernel
theorem d_Model_identities_18 : decode prog_11_method_50_code 18 = .ok (.getfield 99, 3) := by decide +kernel
theorem d_Model_identities_21 : decode prog_11_method_50_code 21 = .ok (.ifCond .eq 5, 3) := by decide +kernel
theorem d_Model_identities_24 : decode prog_11_method_50_code 24 = .ok (.iconst 0, 1) := by decide +kernel
theorem d_Model_identities_25 : decode prog_11_method_50_code 25 = .ok (.ireturn, 1) := by decide +kernel
theorem d_Model_identities_26 : decode prog_11_method_50_code 26 = .ok (.aload_n 0, 1) := by decide +kernel
theorem d_Model_identities_27 : decode prog_11_method_50_code 27 = .ok (.iconst 4, 1) := by decide +kernel
theorem d_Model_identities_28 : decode prog_11_method_50_code 28 = .ok (.iconst 4, 1) := by decide +kernel
theorem d_Model_identities_29 : decode prog_11_method_50_code 29 = .ok (.iconst 1, 1) := by decide +kernel
theorem d_Model_identities_30 : decode prog_11_method_50_code 30 = .ok (.invokevirtual 255, 3) := by decide +kernel
theorem d_Model_identities_33 : decode prog_11_method_50_code 33 = .ok (.aload_n 0, 1) := by decide +kernel
theorem d_Model_identities_34 : decode prog_11_method_50_code 34 = .ok (.getfield 22, 3) := by decide +kernel
theorem d_Model_identities_37 : decode prog_11_method_50_code 37 = .ok (.iload_n 1, 1) := by decide +kernel
theorem d_Model_identities_38 : decode prog_11_method_50_code 38 = .ok (.iaload, 1) := by decide +kernel
theorem d_Model_identities_39 : decode prog_11_method_50_code 39 = .ok (.istore_n 2, 1) := by decide +kernel
theorem d_Model_identities_40 : decode prog_11_method_50_code 40 = .ok (.iload_n 2, 1) := by decide +kernel
theorem d_Model_identities_41 : decode prog_11_method_50_code 41 = .ok (.aload_n 0, 1) := by decide +kernel
theorem d_Model_identities_42 : decode prog_11_method_50_code 42 = .ok (.getfield 25, 3) := by decide +kernel
theorem d_Model_identities_45 : decode prog_11_method_50_code 45 = .ok (.iload_n 1, 1) := by decide +kernel
theorem d_Model_identities_46 : decode prog_11_method_50_code 46 = .ok (.iaload, 1) := by decide +kernel
theorem d_Model_identities_47 : decode prog_11_method_50_code 47 = .ok (.iadd, 1) := by decide +kernel
theorem d_Model_identities_48 : decode prog_11_method_50_code 48 = .ok (.istore_n 3, 1) := by decide +kernel
theorem d_Model_identities_49 : decode prog_11_method_50_code 49 = .ok (.iload_n 2, 1) := by decide +kernel
theorem d_Model_identities_50 : decode prog_11_method_50_code 50 = .ok (.iload_n 3, 1) := by decide +kernel
theorem d_Model_identities_51 : decode prog_11_method_50_code 51 = .ok (.if_icmp .ge 187, 3) := by decide +kernel
theorem d_Model_identities_54 : decode prog_11_method_50_code 54 = .ok (.iload_n 2, 1) := by decide +kernel
theorem d_Model_identities_55 : decode prog_11_method_50_code 55 = .ok (.istore 4, 2) := by decide +kernel
theorem d_Model_identities_57 : decode prog_11_method_50_code 57 = .ok (.iload 4, 2) := by decide +kernel
theorem d_Model_identities_59 : decode prog_11_method_50_code 59 = .ok (.iload_n 3, 1) := by decide +kernel
theorem d_Model_identities_60 : decode prog_11_method_50_code 60 = .ok (.if_icmp .ge 21, 3) := by decide +kernel
theorem d_Model_identities_63 : decode prog_11_method_50_code 63 = .ok (.aload_n 0, 1) := by decide +kernel
theorem d_Model_identities_64 : decode prog_11_method_50_code 64 = .ok (.getfield 28, 3) := by decide +kernel
theorem d_Model_identities_67 : decode prog_11_method_50_code 67 = .ok (.iload 4, 2) := by decide +kernel
theorem d_Model_identities_69 : decode prog_11_method_50_code 69 = .ok (.iaload, 1) := by decide +kernel
theorem d_Model_identities_70 : decode prog_11_method_50_code 70 = .ok (.bipush 60, 2) := by decide +kernel
theorem d_Model_identities_72 : decode prog_11_method_50_code 72 = .ok (.if_icmp .eq 9, 3) := by decide +kernel
theorem d_Model_identities_75 : decode prog_11_method_50_code 75 = .ok (.iinc 4 1, 3) := by decide +kernel
theorem d_Model_identities_78 : decode prog_11_method_50_code 78 = .ok (.goto (-21), 3) := by decide +kernel
theorem d_Model_identities_81 : decode prog_11_method_50_code 81 = .ok (.iload 4, 2) := by decide +kernel
theorem d_Model_identities_83 : decode prog_11_method_50_code 83 = .ok (.istore 5, 2) := by decide +kernel
theorem d_Model_identities_85 : decode prog_11_method_50_code 85 = .ok (.iload 5, 2) := by decide +kernel
theorem d_Model_identities_87 : decode prog_11_method_50_code 87 = .ok (.iload_n 3, 1) := by decide +kernel
theorem d_Model_identities_88 : decode prog_11_method_50_code 88 = .ok (.if_icmp .ge 21, 3) := by decide +kernel
theorem d_Model_identities_91 : decode prog_11_method_50_code 91 = .ok (.aload_n 0, 1) := by decide +kernel
theorem d_Model_identities_92 : decode prog_11_method_50_code 92 = .ok (.getfield 28, 3) := by decide +kernel
theorem d_Model_identities_95 : decode prog_11_method_50_code 95 = .ok (.iload 5, 2) := by decide +kernel
theorem d_Model_identities_97 : decode prog_11_method_50_code 97 = .ok (.iaload, 1) := by decide +kernel
theorem d_Model_identities_98 : decode prog_11_method_50_code 98 = .ok (.bipush 62, 2) := by decide +kernel
theorem d_Model_identities_100 : decode prog_11_method_50_code 100 = .ok (.if_icmp .eq 9, 3) := by decide +kernel
theorem d_Model_identities_103 : decode prog_11_method_50_code 103 = .ok (.iinc 5 1, 3) := by decide +kernel
theorem d_Model_identities_106 : decode prog_11_method_50_code 106 = .ok (.goto (-21), 3) := by decide +kernel
theorem d_Model_identities_109 : decode prog_11_method_50_code 109 = .ok (.iconst 0, 1) := by decide +kernel
theorem d_Model_identities_110 : decode prog_11_method_50_code 110 = .ok (.istore 6, 2) := by decide +kernel
theorem d_Model_identities_112 : decode prog_11_method_50_code 112 = .ok (.iload 4, 2) := by decide +kernel
theorem d_Model_identities_114 : decode prog_11_method_50_code 114 = .ok (.iconst 1, 1) := by decide +kernel
theorem d_Model_identities_115 : decode prog_11_method_50_code 115 = .ok (.iadd, 1) := by decide +kernel
theorem d_Model_identities_116 : decode prog_11_method_50_code 116 = .ok (.istore 7, 2) := by decide +kernel
theorem d_Model_identities_118 : decode prog_11_method_50_code 118 = .ok (.iload 7, 2) := by decide +kernel
theorem d_Model_identities_120 : decode prog_11_method_50_code 120 = .ok (.iload 5, 2) := by decide +kernel
theorem d_Model_identities_122 : decode prog_11_method_50_code 122 = .ok (.if_icmp .ge 34, 3) := by decide +kernel
theorem d_Model_identities_125 : decode prog_11_method_50_code 125 = .ok (.iload 6, 2) := by decide +kernel
theorem d_Model_identities_127 : decode prog_11_method_50_code 127 = .ok (.ifCond .ne 16, 3) := by decide +kernel
theorem d_Model_identities_130 : decode prog_11_method_50_code 130 = .ok (.aload_n 0, 1) := by decide +kernel
theorem d_Model_identities_131 : decode prog_11_method_50_code 131 = .ok (.getfield 28, 3) := by decide +kernel
theorem d_Model_identities_134 : decode prog_11_method_50_code 134 = .ok (.iload 7, 2) := by decide +kernel
theorem d_Model_identities_136 : decode prog_11_method_50_code 136 = .ok (.iaload, 1) := by decide +kernel
theorem d_Model_identities_137 : decode prog_11_method_50_code 137 = .ok (.invokestatic 109, 3) := by decide +kernel
theorem d_Model_identities_140 : decode prog_11_method_50_code 140 = .ok (.ifCond .eq 7, 3) := by decide +kernel
theorem d_Model_identities_143 : decode prog_11_method_50_code 143 = .ok (.iconst 1, 1) := by decide +kernel
theorem d_Model_identities_144 : decode prog_11_method_50_code 144 = .ok (.goto 4, 3) := by decide +kernel
theorem d_Model_identities_147 : decode prog_11_method_50_code 147 = .ok (.iconst 0, 1) := by decide +kernel
theorem d_Model_identities_148 : decode prog_11_method_50_code 148 = .ok (.istore 6, 2) := by decide +kernel
theorem d_Model_identities_150 : decode prog_11_method_50_code 150 = .ok (.iinc 7 1, 3) := by decide +kernel
theorem d_Model_identities_153 : decode prog_11_method_50_code 153 = .ok (.goto (-35), 3) := by decide +kernel
theorem d_Model_identities_156 : decode prog_11_method_50_code 156 = .ok (.iload 5, 2) := by decide +kernel
theorem d_Model_identities_158 : decode prog_11_method_50_code 158 = .ok (.iload 4, 2) := by decide +kernel
theorem d_Model_identities_160 : decode prog_11_method_50_code 160 = .ok (.isub, 1) := by decide +kernel
theorem d_Model_identities_161 : decode prog_11_method_50_code 161 = .ok (.iconst 1, 1) := by decide +kernel
theorem d_Model_identities_162 : decode prog_11_method_50_code 162 = .ok (.isub, 1) := by decide +kernel
theorem d_Model_identities_163 : decode prog_11_method_50_code 163 = .ok (.istore 7, 2) := by decide +kernel
theorem d_Model_identities_165 : decode prog_11_method_50_code 165 = .ok (.iload 5, 2) := by decide +kernel
theorem d_Model_identities_167 : decode prog_11_method_50_code 167 = .ok (.iload_n 3, 1) := by decide +kernel
theorem d_Model_identities_168 : decode prog_11_method_50_code 168 = .ok (.if_icmp .ge 62, 3) := by decide +kernel
theorem d_Model_identities_171 : decode prog_11_method_50_code 171 = .ok (.iload 6, 2) := by decide +kernel
theorem d_Model_identities_173 : decode prog_11_method_50_code 173 = .ok (.ifCond .ne 57, 3) := by decide +kernel
theorem d_Model_identities_176 : decode prog_11_method_50_code 176 = .ok (.iload 7, 2) := by decide +kernel
theorem d_Model_identities_178 : decode prog_11_method_50_code 178 = .ok (.iconst 1, 1) := by decide +kernel
theorem d_Model_identities_179 : decode prog_11_method_50_code 179 = .ok (.if_icmp .lt 51, 3) := by decide +kernel
theorem d_Model_identities_182 : decode prog_11_method_50_code 182 = .ok (.iload 7, 2) := by decide +kernel
theorem d_Model_identities_184 : decode prog_11_method_50_code 184 = .ok (.bipush 100, 2) := by decide +kernel
theorem d_Model_identities_186 : decode prog_11_method_50_code 186 = .ok (.if_icmp .gt 44, 3) := by decide +kernel
theorem d_Model_identities_189 : decode prog_11_method_50_code 189 = .ok (.aload_n 0, 1) := by decide +kernel
theorem d_Model_identities_190 : decode prog_11_method_50_code 190 = .ok (.iconst 4, 1) := by decide +kernel
theorem d_Model_identities_191 : decode prog_11_method_50_code 191 = .ok (.invokevirtual 204, 3) := by decide +kernel
theorem d_Model_identities_194 : decode prog_11_method_50_code 194 = .ok (.iload 4, 2) := by decide +kernel
theorem d_Model_identities_196 : decode prog_11_method_50_code 196 = .ok (.iconst 1, 1) := by decide +kernel
theorem d_Model_identities_197 : decode prog_11_method_50_code 197 = .ok (.iadd, 1) := by decide +kernel
theorem d_Model_identities_198 : decode prog_11_method_50_code 198 = .ok (.istore 8, 2) := by decide +kernel
theorem d_Model_identities_200 : decode prog_11_method_50_code 200 = .ok (.iload 8, 2) := by decide +kernel
theorem d_Model_identities_202 : decode prog_11_method_50_code 202 = .ok (.iload 5, 2) := by decide +kernel
theorem d_Model_identities_204 : decode prog_11_method_50_code 204 = .ok (.if_icmp .ge 21, 3) := by decide +kernel
theorem d_Model_identities_207 : decode prog_11_method_50_code 207 = .ok (.aload_n 0, 1) := by decide +kernel
theorem d_Model_identities_208 : decode prog_11_method_50_code 208 = .ok (.iconst 4, 1) := by decide +kernel
theorem d_Model_identities_209 : decode prog_11_method_50_code 209 = .ok (.aload_n 0, 1) := by decide +kernel
theorem d_Model_identities_210 : decode prog_11_method_50_code 210 = .ok (.getfield 28, 3) := by decide +kernel
theorem d_Model_identities_213 : decode prog_11_method_50_code 213 = .ok (.iload 8, 2) := by decide +kernel
theorem d_Model_identities_215 : decode prog_11_method_50_code 215 = .ok (.iaload, 1) := by decide +kernel
theorem d_Model_identities_216 : decode prog_11_method_50_code 216 = .ok (.invokevirtual 191, 3) := by decide +kernel
theorem d_Model_identities_219 : decode prog_11_method_50_code 219 = .ok (.iinc 8 1, 3) := by decide +kernel
theorem d_Model_identities_222 : decode prog_11_method_50_code 222 = .ok (.goto (-22), 3) := by decide +kernel
theorem d_Model_identities_225 : decode prog_11_method_50_code 225 = .ok (.aload_n 0, 1) := by decide +kernel
theorem d_Model_identities_226 : decode prog_11_method_50_code 226 = .ok (.iconst 4, 1) := by decide +kernel
theorem d_Model_identities_227 : decode prog_11_method_50_code 227 = .ok (.invokevirtual 210, 3) := by decide +kernel
theorem d_Model_identities_230 : decode prog_11_method_50_code 230 = .ok (.iload 5, 2) := by decide +kernel
theorem d_Model_identities_232 : decode prog_11_method_50_code 232 = .ok (.iconst 1, 1) := by decide +kernel
theorem d_Model_identities_233 : decode prog_11_method_50_code 233 = .ok (.iadd, 1) := by decide +kernel
theorem d_Model_identities_234 : decode prog_11_method_50_code 234 = .ok (.istore_n 2, 1) := by decide +kernel
theorem d_Model_identities_235 : decode prog_11_method_50_code 235 = .ok (.goto (-186), 3) := by decide +kernel
theorem d_Model_identities_238 : decode prog_11_method_50_code 238 = .ok (.aload_n 0, 1) := by decide +kernel
theorem d_Model_identities_239 : decode prog_11_method_50_code 239 = .ok (.getfield 52, 3) := by decide +kernel
theorem d_Model_identities_242 : decode prog_11_method_50_code 242 = .ok (.iconst 4, 1) := by decide +kernel
theorem d_Model_identities_243 : decode prog_11_method_50_code 243 = .ok (.iaload, 1) := by decide +kernel
theorem d_Model_identities_244 : decode prog_11_method_50_code 244 = .ok (.ireturn, 1) := by decide +kernel
theorem d_Model_numberOf_0 : decode prog_11_method_54_code 0 = .ok (.iconst 0, 1) := by decide +kernel
theorem d_Model_numberOf_1 : decode prog_11_method_54_code 1 = .ok (.istore_n 3, 1) := by decide +kernel
theorem d_Model_numberOf_2 : decode prog_11_method_54_code 2 = .ok (.iload_n 1, 1) := by decide +kernel
theorem d_Model_numberOf_3 : decode prog_11_method_54_code 3 = .ok (.istore 4, 2) := by decide +kernel
theorem d_Model_numberOf_5 : decode prog_11_method_54_code 5 = .ok (.iload 4, 2) := by decide +kernel
theorem d_Model_numberOf_7 : decode prog_11_method_54_code 7 = .ok (.iload_n 2, 1) := by decide +kernel
theorem d_Model_numberOf_8 : decode prog_11_method_54_code 8 = .ok (.if_icmp .ge 36, 3) := by decide +kernel
theorem d_Model_numberOf_11 : decode prog_11_method_54_code 11 = .ok (.iload_n 3, 1) := by decide +kernel
theorem d_Model_numberOf_12 : decode prog_11_method_54_code 12 = .ok (.ldc_w 274, 3) := by decide +kernel
theorem d_Model_numberOf_15 : decode prog_11_method_54_code 15 = .ok (.if_icmp .le 7, 3) := by decide +kernel
theorem d_Model_numberOf_18 : decode prog_11_method_54_code 18 = .ok (.iload_n 3, 1) := by decide +kernel
theorem d_Model_numberOf_19 : decode prog_11_method_54_code 19 = .ok (.goto 18, 3) := by decide +kernel
theorem d_Model_numberOf_22 : decode prog_11_method_54_code 22 = .ok (.bipush 10, 2) := by decide +kernel
theorem d_Model_numberOf_24 : decode prog_11_method_54_code 24 = .ok (.iload_n 3, 1) := by decide +kernel
theorem d_Model_numberOf_25 : decode prog_11_method_54_code 25 = .ok (.imul, 1) := by decide +kernel
theorem d_Model_numberOf_26 : decode prog_11_method_54_code 26 = .ok (.aload_n 0, 1) := by decide +kernel
theorem d_Model_numberOf_27 : decode prog_11_method_54_code 27 = .ok (.getfield 43, 3) := by decide +kernel
theorem d_Model_numberOf_30 : decode prog_11_method_54_code 30 = .ok (.iload 4, 2) := by decide +kernel
theorem d_Model_numberOf_32 : decode prog_11_method_54_code 32 = .ok (.iaload, 1) := by decide +kernel
theorem d_Model_numberOf_33 : decode prog_11_method_54_code 33 = .ok (.iadd, 1) := by decide +kernel
theorem d_Model_numberOf_34 : decode prog_11_method_54_code 34 = .ok (.bipush 48, 2) := by decide +kernel
theorem d_Model_numberOf_36 : decode prog_11_method_54_code 36 = .ok (.isub, 1) := by decide +kernel
theorem d_Model_numberOf_37 : decode prog_11_method_54_code 37 = .ok (.istore_n 3, 1) := by decide +kernel
theorem d_Model_numberOf_38 : decode prog_11_method_54_code 38 = .ok (.iinc 4 1, 3) := by decide +kernel
theorem d_Model_numberOf_41 : decode prog_11_method_54_code 41 = .ok (.goto (-36), 3) := by decide +kernel
theorem d_Model_numberOf_44 : decode prog_11_method_54_code 44 = .ok (.iload_n 3, 1) := by decide +kernel
theorem d_Model_numberOf_45 : decode prog_11_method_54_code 45 = .ok (.ireturn, 1) := by decide +kernel
theorem d_Model_number_0 : decode prog_11_method_55_code 0 = .ok (.aload_n 0, 1) := by decide +kernel
theorem d_Model_number_1 : decode prog_11_method_55_code 1 = .ok (.aload_n 0, 1) := by decide +kernel
theorem d_Model_number_2 : decode prog_11_method_55_code 2 = .ok (.getfield 37, 3) := by decide +kernel
theorem d_Model_number_5 : decode prog_11_method_55_code 5 = .ok (.iload_n 1, 1) := by decide +kernel
theorem d_Model_number_6 : decode prog_11_method_55_code 6 = .ok (.iaload, 1) := by decide +kernel
theorem d_Model_number_7 : decode prog_11_method_55_code 7 = .ok (.aload_n 0, 1) := by decide +kernel
theorem d_Model_number_8 : decode prog_11_method_55_code 8 = .ok (.getfield 40, 3) := by decide +kernel
theorem d_Model_number_11 : decode prog_11_method_55_code 11 = .ok (.iload_n 1, 1) := by decide +kernel
theorem d_Model_number_12 : decode prog_11_method_55_code 12 = .ok (.iaload, 1) := by decide +kernel
theorem d_Model_number_13 : decode prog_11_method_55_code 13 = .ok (.invokevirtual 275, 3) := by decide +kernel
theorem d_Model_number_16 : decode prog_11_method_55_code 16 = .ok (.ireturn, 1) := by decide +kernel
theorem d_Model_isDigit_0 : decode prog_11_method_8_code 0 = .ok (.iload_n 0, 1) := by decide +kernel
theorem d_Model_isDigit_1 : decode prog_11_method_8_code 1 = .ok (.bipush 48, 2) := by decide +kernel
theorem d_Model_isDigit_3 : decode prog_11_method_8_code 3 = .ok (.if_icmp .lt 13, 3) := by decide +kernel
theorem d_Model_isDigit_6 : decode prog_11_method_8_code 6 = .ok (.iload_n 0, 1) := by decide +kernel
theorem d_Model_isDigit_7 : decode prog_11_method_8_code 7 = .ok (.bipush 57, 2) := by decide +kernel
theorem d_Model_isDigit_9 : decode prog_11_method_8_code 9 = .ok (.if_icmp .gt 7, 3) := by decide +kernel
theorem d_Model_isDigit_12 : decode prog_11_method_8_code 12 = .ok (.iconst 1, 1) := by decide +kernel
theorem d_Model_isDigit_13 : decode prog_11_method_8_code 13 = .ok (.goto 4, 3) := by decide +kernel
theorem d_Model_isDigit_16 : decode prog_11_method_8_code 16 = .ok (.iconst 0, 1) := by decide +kernel
theorem d_Model_isDigit_17 : decode prog_11_method_8_code 17 = .ok (.ireturn, 1) := by decide +kernel
theorem d_Model_longOf_0 : decode prog_11_method_52_code 0 = .ok (.aload_n 0, 1) := by decide +kernel
theorem d_Model_longOf_1 : decode prog_11_method_52_code 1 = .ok (.getfield 40, 3) := by decide +kernel
theorem d_Model_longOf_4 : decode prog_11_method_52_code 4 = .ok (.iload_n 1, 1) := by decide +kernel
theorem d_Model_longOf_5 : decode prog_11_method_52_code 5 = .ok (.iaload, 1) := by decide +kernel
theorem d_Model_longOf_6 : decode prog_11_method_52_code 6 = .ok (.aload_n 0, 1) := by decide +kernel
theorem d_Model_longOf_7 : decode prog_11_method_52_code 7 = .ok (.getfield 37, 3) := by decide +kernel
theorem d_Model_longOf_10 : decode prog_11_method_52_code 10 = .ok (.iload_n 1, 1) := by decide +kernel
theorem d_Model_longOf_11 : decode prog_11_method_52_code 11 = .ok (.iaload, 1) := by decide +kernel
theorem d_Model_longOf_12 : decode prog_11_method_52_code 12 = .ok (.isub, 1) := by decide +kernel
theorem d_Model_longOf_13 : decode prog_11_method_52_code 13 = .ok (.ireturn, 1) := by decide +kernel
theorem d_Model_isDigits_0 : decode prog_11_method_53_code 0 = .ok (.iload_n 1, 1) := by decide +kernel
theorem d_Model_isDigits_1 : decode prog_11_method_53_code 1 = .ok (.aload_n 0, 1) := by decide +kernel
theorem d_Model_isDigits_2 : decode prog_11_method_53_code 2 = .ok (.getfield 149, 3) := by decide +kernel
theorem d_Model_isDigits_5 : decode prog_11_method_53_code 5 = .ok (.if_icmp .ge 31, 3) := by decide +kernel
theorem d_Model_isDigits_8 : decode prog_11_method_53_code 8 = .ok (.aload_n 0, 1) := by decide +kernel
theorem d_Model_isDigits_9 : decode prog_11_method_53_code 9 = .ok (.getfield 31, 3) := by decide +kernel
theorem d_Model_isDigits_12 : decode prog_11_method_53_code 12 = .ok (.iload_n 1, 1) := by decide +kernel
theorem d_Model_isDigits_13 : decode prog_11_method_53_code 13 = .ok (.iaload, 1) := by decide +kernel
theorem d_Model_isDigits_14 : decode prog_11_method_53_code 14 = .ok (.iconst 4, 1) := by decide +kernel
theorem d_Model_isDigits_15 : decode prog_11_method_53_code 15 = .ok (.if_icmp .ne 21, 3) := by decide +kernel
theorem d_Model_isDigits_18 : decode prog_11_method_53_code 18 = .ok (.aload_n 0, 1) := by decide +kernel
theorem d_Model_isDigits_19 : decode prog_11_method_53_code 19 = .ok (.iload_n 1, 1) := by decide +kernel
theorem d_Model_isDigits_20 : decode prog_11_method_53_code 20 = .ok (.invokevirtual 268, 3) := by decide +kernel
theorem d_Model_isDigits_23 : decode prog_11_method_53_code 23 = .ok (.iload_n 2, 1) := by decide +kernel
theorem d_Model_isDigits_24 : decode prog_11_method_53_code 24 = .ok (.if_icmp .lt 12, 3) := by decide +kernel
theorem d_Model_isDigits_27 : decode prog_11_method_53_code 27 = .ok (.aload_n 0, 1) := by decide +kernel
theorem d_Model_isDigits_28 : decode prog_11_method_53_code 28 = .ok (.iload_n 1, 1) := by decide +kernel
theorem d_Model_isDigits_29 : decode prog_11_method_53_code 29 = .ok (.invokevirtual 268, 3) := by decide +kernel
theorem d_Model_isDigits_32 : decode prog_11_method_53_code 32 = .ok (.iload_n 3, 1) := by decide +kernel
theorem d_Model_isDigits_33 : decode prog_11_method_53_code 33 = .ok (.if_icmp .le 5, 3) := by decide +kernel
theorem d_Model_isDigits_36 : decode prog_11_method_53_code 36 = .ok (.iconst 0, 1) := by decide +kernel
theorem d_Model_isDigits_37 : decode prog_11_method_53_code 37 = .ok (.ireturn, 1) := by decide +kernel
theorem d_Model_isDigits_38 : decode prog_11_method_53_code 38 = .ok (.aload_n 0, 1) := by decide +kernel
theorem d_Model_isDigits_39 : decode prog_11_method_53_code 39 = .ok (.getfield 37, 3) := by decide +kernel
theorem d_Model_isDigits_42 : decode prog_11_method_53_code 42 = .ok (.iload_n 1, 1) := by decide +kernel
theorem d_Model_isDigits_43 : decode prog_11_method_53_code 43 = .ok (.iaload, 1) := by decide +kernel
theorem d_Model_isDigits_44 : decode prog_11_method_53_code 44 = .ok (.istore 4, 2) := by decide +kernel
theorem d_Model_isDigits_46 : decode prog_11_method_53_code 46 = .ok (.iload 4, 2) := by decide +kernel
theorem d_Model_isDigits_48 : decode prog_11_method_53_code 48 = .ok (.aload_n 0, 1) := by decide +kernel
theorem d_Model_isDigits_49 : decode prog_11_method_53_code 49 = .ok (.getfield 40, 3) := by decide +kernel
theorem d_Model_isDigits_52 : decode prog_11_method_53_code 52 = .ok (.iload_n 1, 1) := by decide +kernel
theorem d_Model_isDigits_53 : decode prog_11_method_53_code 53 = .ok (.iaload, 1) := by decide +kernel
theorem d_Model_isDigits_54 : decode prog_11_method_53_code 54 = .ok (.if_icmp .ge 24, 3) := by decide +kernel
theorem d_Model_isDigits_57 : decode prog_11_method_53_code 57 = .ok (.aload_n 0, 1) := by decide +kernel
theorem d_Model_isDigits_58 : decode prog_11_method_53_code 58 = .ok (.getfield 43, 3) := by decide +kernel
theorem d_Model_isDigits_61 : decode prog_11_method_53_code 61 = .ok (.iload 4, 2) := by decide +kernel
theorem d_Model_isDigits_63 : decode prog_11_method_53_code 63 = .ok (.iaload, 1) := by decide +kernel
theorem d_Model_isDigits_64 : decode prog_11_method_53_code 64 = .ok (.invokestatic 271, 3) := by decide +kernel
theorem d_Model_isDigits_67 : decode prog_11_method_53_code 67 = .ok (.ifCond .ne 5, 3) := by decide +kernel
theorem d_Model_isDigits_70 : decode prog_11_method_53_code 70 = .ok (.iconst 0, 1) := by decide +kernel
theorem d_Model_isDigits_71 : decode prog_11_method_53_code 71 = .ok (.ireturn, 1) := by decide +kernel
theorem d_Model_isDigits_72 : decode prog_11_method_53_code 72 = .ok (.iinc 4 1, 3) := by decide +kernel
theorem d_Model_isDigits_75 : decode prog_11_method_53_code 75 = .ok (.goto (-29), 3) := by decide +kernel
theorem d_Model_isDigits_78 : decode prog_11_method_53_code 78 = .ok (.iconst 1, 1) := by decide +kernel
theorem d_Model_isDigits_79 : decode prog_11_method_53_code 79 = .ok (.ireturn, 1) := by decide +kernel
theorem d_Model_two_0 : decode prog_11_method_62_code 0 = .ok (.aload_n 0, 1) := by decide +kernel
theorem d_Model_two_1 : decode prog_11_method_62_code 1 = .ok (.aload_n 0, 1) := by decide +kernel
theorem d_Model_two_2 : decode prog_11_method_62_code 2 = .ok (.getfield 265, 3) := by decide +kernel
theorem d_Model_two_5 : decode prog_11_method_62_code 5 = .ok (.iconst 2, 1) := by decide +kernel
theorem d_Model_two_6 : decode prog_11_method_62_code 6 = .ok (.iconst 2, 1) := by decide +kernel
theorem d_Model_two_7 : decode prog_11_method_62_code 7 = .ok (.invokevirtual 294, 3) := by decide +kernel
theorem d_Model_two_10 : decode prog_11_method_62_code 10 = .ok (.ifCond .eq 14, 3) := by decide +kernel
theorem d_Model_two_13 : decode prog_11_method_62_code 13 = .ok (.aload_n 0, 1) := by decide +kernel
theorem d_Model_two_14 : decode prog_11_method_62_code 14 = .ok (.aload_n 0, 1) := by decide +kernel
theorem d_Model_two_15 : decode prog_11_method_62_code 15 = .ok (.getfield 265, 3) := by decide +kernel
theorem d_Model_two_18 : decode prog_11_method_62_code 18 = .ok (.invokevirtual 297, 3) := by decide +kernel
theorem d_Model_two_21 : decode prog_11_method_62_code 21 = .ok (.goto 4, 3) := by decide +kernel
theorem d_Model_two_24 : decode prog_11_method_62_code 24 = .ok (.iconst (-1), 1) := by decide +kernel
theorem d_Model_two_25 : decode prog_11_method_62_code 25 = .ok (.istore_n 2, 1) := by decide +kernel
theorem d_Model_two_26 : decode prog_11_method_62_code 26 = .ok (.iload_n 2, 1) := by decide +kernel
theorem d_Model_two_27 : decode prog_11_method_62_code 27 = .ok (.iload_n 1, 1) := by decide +kernel
theorem d_Model_two_28 : decode prog_11_method_62_code 28 = .ok (.if_icmp .ge 7, 3) := by decide +kernel
theorem d_Model_two_31 : decode prog_11_method_62_code 31 = .ok (.iload_n 2, 1) := by decide +kernel
theorem d_Model_two_32 : decode prog_11_method_62_code 32 = .ok (.goto 4, 3) := by decide +kernel
theorem d_Model_two_35 : decode prog_11_method_62_code 35 = .ok (.iconst (-1), 1) := by decide +kernel
theorem d_Model_two_36 : decode prog_11_method_62_code 36 = .ok (.ireturn, 1) := by decide +kernel
theorem d_Model_next_0 : decode prog_11_method_28_code 0 = .ok (.iload_n 1, 1) := by decide +kernel
theorem d_Model_next_1 : decode prog_11_method_28_code 1 = .ok (.istore_n 3, 1) := by decide +kernel
theorem d_Model_next_2 : decode prog_11_method_28_code 2 = .ok (.iload_n 3, 1) := by decide +kernel
theorem d_Model_next_3 : decode prog_11_method_28_code 3 = .ok (.iload_n 2, 1) := by decide +kernel
theorem d_Model_next_4 : decode prog_11_method_28_code 4 = .ok (.if_icmp .ge 18, 3) := by decide +kernel
theorem d_Model_next_7 : decode prog_11_method_28_code 7 = .ok (.aload_n 0, 1) := by decide +kernel
theorem d_Model_next_8 : decode prog_11_method_28_code 8 = .ok (.getfield 31, 3) := by decide +kernel
theorem d_Model_next_11 : decode prog_11_method_28_code 11 = .ok (.iload_n 3, 1) := by decide +kernel
theorem d_Model_next_12 : decode prog_11_method_28_code 12 = .ok (.iaload, 1) := by decide +kernel
theorem d_Model_next_13 : decode prog_11_method_28_code 13 = .ok (.ifCond .ne 9, 3) := by decide +kernel
theorem d_Model_next_16 : decode prog_11_method_28_code 16 = .ok (.iinc 3 1, 3) := by decide +kernel
theorem d_Model_next_19 : decode prog_11_method_28_code 19 = .ok (.goto (-17), 3) := by decide +kernel
theorem d_Model_next_22 : decode prog_11_method_28_code 22 = .ok (.iload_n 3, 1) := by decide +kernel
theorem d_Model_next_23 : decode prog_11_method_28_code 23 = .ok (.ireturn, 1) := by decide +kernel
theorem d_Model_beginWord_0 : decode prog_11_method_19_code 0 = .ok (.aload_n 0, 1) := by decide +kernel
theorem d_Model_beginWord_1 : decode prog_11_method_19_code 1 = .ok (.getfield 31, 3) := by decide +kernel
theorem d_Model_beginWord_4 : decode prog_11_method_19_code 4 = .ok (.aload_n 0, 1) := by decide +kernel
theorem d_Model_beginWord_5 : decode prog_11_method_19_code 5 = .ok (.getfield 149, 3) := by decide +kernel
theorem d_Model_beginWord_8 : decode prog_11_method_19_code 8 = .ok (.iload_n 1, 1) := by decide +kernel
theorem d_Model_beginWord_9 : decode prog_11_method_19_code 9 = .ok (.iastore, 1) := by decide +kernel
theorem d_Model_beginWord_10 : decode prog_11_method_19_code 10 = .ok (.aload_n 0, 1) := by decide +kernel
theorem d_Model_beginWord_11 : decode prog_11_method_19_code 11 = .ok (.getfield 34, 3) := by decide +kernel
theorem d_Model_beginWord_14 : decode prog_11_method_19_code 14 = .ok (.aload_n 0, 1) := by decide +kernel
theorem d_Model_beginWord_15 : decode prog_11_method_19_code 15 = .ok (.getfield 149, 3) := by decide +kernel
theorem d_Model_beginWord_18 : decode prog_11_method_19_code 18 = .ok (.iload_n 2, 1) := by decide +kernel
theorem d_Model_beginWord_19 : decode prog_11_method_19_code 19 = .ok (.iastore, 1) := by decide +kernel
theorem d_Model_beginWord_20 : decode prog_11_method_19_code 20 = .ok (.aload_n 0, 1) := by decide +kernel
theorem d_Model_beginWord_21 : decode prog_11_method_19_code 21 = .ok (.getfield 37, 3) := by decide +kernel
theorem d_Model_beginWord_24 : decode prog_11_method_19_code 24 = .ok (.aload_n 0, 1) := by decide +kernel
theorem d_Model_beginWord_25 : decode prog_11_method_19_code 25 = .ok (.getfield 149, 3) := by decide +kernel
theorem d_Model_beginWord_28 : decode prog_11_method_19_code 28 = .ok (.aload_n 0, 1) := by decide +kernel
theorem d_Model_beginWord_29 : decode prog_11_method_19_code 29 = .ok (.getfield 152, 3) := by decide +kernel
theorem d_Model_beginWord_32 : decode prog_11_method_19_code 32 = .ok (.iastore, 1) := by decide +kernel
theorem d_Model_beginWord_33 : decode prog_11_method_19_code 33 = .ok (.return_, 1) := by decide +kernel
theorem d_Model_endWord_0 : decode prog_11_method_20_code 0 = .ok (.aload_n 0, 1) := by decide +kernel
theorem d_Model_endWord_1 : decode prog_11_method_20_code 1 = .ok (.getfield 40, 3) := by decide +kernel
theorem d_Model_endWord_4 : decode prog_11_method_20_code 4 = .ok (.aload_n 0, 1) := by decide +kernel
theorem d_Model_endWord_5 : decode prog_11_method_20_code 5 = .ok (.getfield 149, 3) := by decide +kernel
theorem d_Model_endWord_8 : decode prog_11_method_20_code 8 = .ok (.aload_n 0, 1) := by decide +kernel
theorem d_Model_endWord_9 : decode prog_11_method_20_code 9 = .ok (.getfield 152, 3) := by decide +kernel
theorem d_Model_endWord_12 : decode prog_11_method_20_code 12 = .ok (.iastore, 1) := by decide +kernel
theorem d_Model_endWord_13 : decode prog_11_method_20_code 13 = .ok (.aload_n 0, 1) := by decide +kernel
theorem d_Model_endWord_14 : decode prog_11_method_20_code 14 = .ok (.dup, 1) := by decide +kernel
theorem d_Model_endWord_15 : decode prog_11_method_20_code 15 = .ok (.getfield 149, 3) := by decide +kernel
theorem d_Model_endWord_18 : decode prog_11_method_20_code 18 = .ok (.iconst 1, 1) := by decide +kernel
theorem d_Model_endWord_19 : decode prog_11_method_20_code 19 = .ok (.iadd, 1) := by decide +kernel
theorem d_Model_endWord_20 : decode prog_11_method_20_code 20 = .ok (.putfield 149, 3) := by decide +kernel
theorem d_Model_endWord_23 : decode prog_11_method_20_code 23 = .ok (.return_, 1) := by decide +kernel
theorem d_Model_put_0 : decode prog_11_method_21_code 0 = .ok (.aload_n 0, 1) := by decide +kernel
theorem d_Model_put_1 : decode prog_11_method_21_code 1 = .ok (.getfield 43, 3) := by decide +kernel
theorem d_Model_put_4 : decode prog_11_method_21_code 4 = .ok (.aload_n 0, 1) := by decide +kernel
theorem d_Model_put_5 : decode prog_11_method_21_code 5 = .ok (.getfield 152, 3) := by decide +kernel
theorem d_Model_put_8 : decode prog_11_method_21_code 8 = .ok (.iload_n 1, 1) := by decide +kernel
theorem d_Model_put_9 : decode prog_11_method_21_code 9 = .ok (.iastore, 1) := by decide +kernel
theorem d_Model_put_10 : decode prog_11_method_21_code 10 = .ok (.aload_n 0, 1) := by decide +kernel
theorem d_Model_put_11 : decode prog_11_method_21_code 11 = .ok (.dup, 1) := by decide +kernel
theorem d_Model_put_12 : decode prog_11_method_21_code 12 = .ok (.getfield 152, 3) := by decide +kernel
theorem d_Model_put_15 : decode prog_11_method_21_code 15 = .ok (.iconst 1, 1) := by decide +kernel
theorem d_Model_put_16 : decode prog_11_method_21_code 16 = .ok (.iadd, 1) := by decide +kernel
theorem d_Model_put_17 : decode prog_11_method_21_code 17 = .ok (.putfield 152, 3) := by decide +kernel
theorem d_Model_put_20 : decode prog_11_method_21_code 20 = .ok (.return_, 1) := by decide +kernel
theorem d_Model_takeEnclosed_0 : decode prog_11_method_22_code 0 = .ok (.aload_n 0, 1) := by decide +kernel
theorem d_Model_takeEnclosed_1 : decode prog_11_method_22_code 1 = .ok (.iload_n 1, 1) := by decide +kernel
theorem d_Model_takeEnclosed_2 : decode prog_11_method_22_code 2 = .ok (.iconst 0, 1) := by decide +kernel
theorem d_Model_takeEnclosed_3 : decode prog_11_method_22_code 3 = .ok (.invokevirtual 155, 3) := by decide +kernel
theorem d_Model_takeEnclosed_6 : decode prog_11_method_22_code 6 = .ok (.aload_n 0, 1) := by decide +kernel
theorem d_Model_takeEnclosed_7 : decode prog_11_method_22_code 7 = .ok (.dup, 1) := by decide +kernel
theorem d_Model_takeEnclosed_8 : decode prog_11_method_22_code 8 = .ok (.getfield 143, 3) := by decide +kernel
theorem d_Model_takeEnclosed_11 : decode prog_11_method_22_code 11 = .ok (.iconst 1, 1) := by decide +kernel
theorem d_Model_takeEnclosed_12 : decode prog_11_method_22_code 12 = .ok (.iadd, 1) := by decide +kernel
theorem d_Model_takeEnclosed_13 : decode prog_11_method_22_code 13 = .ok (.putfield 143, 3) := by decide +kernel
theorem d_Model_takeEnclosed_16 : decode prog_11_method_22_code 16 = .ok (.iconst 1, 1) := by decide +kernel
theorem d_Model_takeEnclosed_17 : decode prog_11_method_22_code 17 = .ok (.istore_n 3, 1) := by decide +kernel
theorem d_Model_takeEnclosed_18 : decode prog_11_method_22_code 18 = .ok (.aload_n 0, 1) := by decide +kernel
theorem d_Model_takeEnclosed_19 : decode prog_11_method_22_code 19 = .ok (.getfield 143, 3) := by decide +kernel
theorem d_Model_takeEnclosed_22 : decode prog_11_method_22_code 22 = .ok (.aload_n 0, 1) := by decide +kernel
theorem d_Model_takeEnclosed_23 : decode prog_11_method_22_code 23 = .ok (.getfield 146, 3) := by decide +kernel
theorem d_Model_takeEnclosed_26 : decode prog_11_method_22_code 26 = .ok (.if_icmp .ge 108, 3) := by decide +kernel
theorem d_Model_takeEnclosed_29 : decode prog_11_method_22_code 29 = .ok (.iload_n 3, 1) := by decide +kernel
theorem d_Model_takeEnclosed_30 : decode prog_11_method_22_code 30 = .ok (.ifCond .le 104, 3) := by decide +kernel
theorem d_Model_takeEnclosed_33 : decode prog_11_method_22_code 33 = .ok (.aload_n 0, 1) := by decide +kernel
theorem d_Model_takeEnclosed_34 : decode prog_11_method_22_code 34 = .ok (.getfield 28, 3) := by decide +kernel
theorem d_Model_takeEnclosed_37 : decode prog_11_method_22_code 37 = .ok (.aload_n 0, 1) := by decide +kernel
theorem d_Model_takeEnclosed_38 : decode prog_11_method_22_code 38 = .ok (.getfield 143, 3) := by decide +kernel
theorem d_Model_takeEnclosed_41 : decode prog_11_method_22_code 41 = .ok (.iaload, 1) := by decide +kernel
theorem d_Model_takeEnclosed_42 : decode prog_11_method_22_code 42 = .ok (.istore 4, 2) := by decide +kernel
theorem d_Model_takeEnclosed_44 : decode prog_11_method_22_code 44 = .ok (.aload_n 0, 1) := by decide +kernel
theorem d_Model_takeEnclosed_45 : decode prog_11_method_22_code 45 = .ok (.dup, 1) := by decide +kernel
theorem d_Model_takeEnclosed_46 : decode prog_11_method_22_code 46 = .ok (.getfield 143, 3) := by decide +kernel
theorem d_Model_takeEnclosed_49 : decode prog_11_method_22_code 49 = .ok (.iconst 1, 1) := by decide +kernel
theorem d_Model_takeEnclosed_50 : decode prog_11_method_22_code 50 = .ok (.iadd, 1) := by decide +kernel
theorem d_Model_takeEnclosed_51 : decode prog_11_method_22_code 51 = .ok (.putfield 143, 3) := by decide +kernel
theorem d_Model_takeEnclosed_54 : decode prog_11_method_22_code 54 = .ok (.iload 4, 2) := by decide +kernel
theorem d_Model_takeEnclosed_56 : decode prog_11_method_22_code 56 = .ok (.bipush 92, 2) := by decide +kernel
theorem d_Model_takeEnclosed_58 : decode prog_11_method_22_code 58 = .ok (.if_icmp .ne 40, 3) := by decide +kernel
theorem d_Model_takeEnclosed_61 : decode prog_11_method_22_code 61 = .ok (.aload_n 0, 1) := by decide +kernel
theorem d_Model_takeEnclosed_62 : decode prog_11_method_22_code 62 = .ok (.getfield 143, 3) := by decide +kernel
theorem d_Model_takeEnclosed_65 : decode prog_11_method_22_code 65 = .ok (.aload_n 0, 1) := by decide +kernel
theorem d_Model_takeEnclosed_66 : decode prog_11_method_22_code 66 = .ok (.getfield 146, 3) := by decide +kernel
theorem d_Model_takeEnclosed_69 : decode prog_11_method_22_code 69 = .ok (.if_icmp .ge 62, 3) := by decide +kernel
theorem d_Model_takeEnclosed_72 : decode prog_11_method_22_code 72 = .ok (.aload_n 0, 1) := by decide +kernel
theorem d_Model_takeEnclosed_73 : decode prog_11_method_22_code 73 = .ok (.aload_n 0, 1) := by decide +kernel
theorem d_Model_takeEnclosed_74 : decode prog_11_method_22_code 74 = .ok (.getfield 28, 3) := by decide +kernel
theorem d_Model_takeEnclosed_77 : decode prog_11_method_22_code 77 = .ok (.aload_n 0, 1) := by decide +kernel
theorem d_Model_takeEnclosed_78 : decode prog_11_method_22_code 78 = .ok (.getfield 143, 3) := by decide +kernel
theorem d_Model_takeEnclosed_81 : decode prog_11_method_22_code 81 = .ok (.iaload, 1) := by decide +kernel
theorem d_Model_takeEnclosed_82 : decode prog_11_method_22_code 82 = .ok (.invokevirtual 158, 3) := by decide +kernel
theorem d_Model_takeEnclosed_85 : decode prog_11_method_22_code 85 = .ok (.aload_n 0, 1) := by decide +kernel
theorem d_Model_takeEnclosed_86 : decode prog_11_method_22_code 86 = .ok (.dup, 1) := by decide +kernel
theorem d_Model_takeEnclosed_87 : decode prog_11_method_22_code 87 = .ok (.getfield 143, 3) := by decide +kernel
theorem d_Model_takeEnclosed_90 : decode prog_11_method_22_code 90 = .ok (.iconst 1, 1) := by decide +kernel
theorem d_Model_takeEnclosed_91 : decode prog_11_method_22_code 91 = .ok (.iadd, 1) := by decide +kernel
theorem d_Model_takeEnclosed_92 : decode prog_11_method_22_code 92 = .ok (.putfield 143, 3) := by decide +kernel
theorem d_Model_takeEnclosed_95 : decode prog_11_method_22_code 95 = .ok (.goto 36, 3) := by decide +kernel
theorem d_Model_takeEnclosed_98 : decode prog_11_method_22_code 98 = .ok (.iload_n 1, 1) := by decide +kernel
theorem d_Model_takeEnclosed_99 : decode prog_11_method_22_code 99 = .ok (.ifCond .ne 13, 3) := by decide +kernel
theorem d_Model_takeEnclosed_102 : decode prog_11_method_22_code 102 = .ok (.iload 4, 2) := by decide +kernel
theorem d_Model_takeEnclosed_104 : decode prog_11_method_22_code 104 = .ok (.bipush 40, 2) := by decide +kernel
theorem d_Model_takeEnclosed_106 : decode prog_11_method_22_code 106 = .ok (.if_icmp .ne 6, 3) := by decide +kernel
theorem d_Model_takeEnclosed_109 : decode prog_11_method_22_code 109 = .ok (.iinc 3 1, 3) := by decide +kernel
theorem d_Model_takeEnclosed_112 : decode prog_11_method_22_code 112 = .ok (.iload 4, 2) := by decide +kernel
theorem d_Model_takeEnclosed_114 : decode prog_11_method_22_code 114 = .ok (.iload_n 2, 1) := by decide +kernel
theorem d_Model_takeEnclosed_115 : decode prog_11_method_22_code 115 = .ok (.if_icmp .ne 6, 3) := by decide +kernel
theorem d_Model_takeEnclosed_118 : decode prog_11_method_22_code 118 = .ok (.iinc 3 (-1), 3) := by decide +kernel
theorem d_Model_takeEnclosed_121 : decode prog_11_method_22_code 121 = .ok (.iload_n 3, 1) := by decide +kernel
theorem d_Model_takeEnclosed_122 : decode prog_11_method_22_code 122 = .ok (.ifCond .le 9, 3) := by decide +kernel
theorem d_Model_takeEnclosed_125 : decode prog_11_method_22_code 125 = .ok (.aload_n 0, 1) := by decide +kernel
theorem d_Model_takeEnclosed_126 : decode prog_11_method_22_code 126 = .ok (.iload 4, 2) := by decide +kernel
theorem d_Model_takeEnclosed_128 : decode prog_11_method_22_code 128 = .ok (.invokevirtual 158, 3) := by decide +kernel
theorem d_Model_takeEnclosed_131 : decode prog_11_method_22_code 131 = .ok (.goto (-113), 3) := by decide +kernel
theorem d_Model_takeEnclosed_134 : decode prog_11_method_22_code 134 = .ok (.aload_n 0, 1) := by decide +kernel
theorem d_Model_takeEnclosed_135 : decode prog_11_method_22_code 135 = .ok (.invokevirtual 162, 3) := by decide +kernel
theorem d_Model_takeEnclosed_138 : decode prog_11_method_22_code 138 = .ok (.return_, 1) := by decide +kernel
theorem d_Model_isNothing_0 : decode prog_11_method_24_code 0 = .ok (.iload_n 0, 1) := by decide +kernel
theorem d_Model_isNothing_1 : decode prog_11_method_24_code 1 = .ok (.bipush 32, 2) := by decide +kernel
theorem d_Model_isNothing_3 : decode prog_11_method_24_code 3 = .ok (.if_icmp .le 9, 3) := by decide +kernel
theorem d_Model_isNothing_6 : decode prog_11_method_24_code 6 = .ok (.iload_n 0, 1) := by decide +kernel
theorem d_Model_isNothing_7 : decode prog_11_method_24_code 7 = .ok (.bipush 127, 2) := by decide +kernel
theorem d_Model_isNothing_9 : decode prog_11_method_24_code 9 = .ok (.if_icmp .ne 7, 3) := by decide +kernel
theorem d_Model_isNothing_12 : decode prog_11_method_24_code 12 = .ok (.iconst 1, 1) := by decide +kernel
theorem d_Model_isNothing_13 : decode prog_11_method_24_code 13 = .ok (.goto 4, 3) := by decide +kernel
theorem d_Model_isNothing_16 : decode prog_11_method_24_code 16 = .ok (.iconst 0, 1) := by decide +kernel
theorem d_Model_isNothing_17 : decode prog_11_method_24_code 17 = .ok (.ireturn, 1) := by decide +kernel
theorem d_Model_isSign_0 : decode prog_11_method_23_code 0 = .ok (.iload_n 1, 1) := by decide +kernel
theorem d_Model_isSign_1 : decode prog_11_method_23_code 1 = .ok (.bipush 60, 2) := by decide +kernel
theorem d_Model_isSign_3 : decode prog_11_method_23_code 3 = .ok (.if_icmp .eq 51, 3) := by decide +kernel
theorem d_Model_isSign_6 : decode prog_11_method_23_code 6 = .ok (.iload_n 1, 1) := by decide +kernel
theorem d_Model_isSign_7 : decode prog_11_method_23_code 7 = .ok (.bipush 62, 2) := by decide +kernel
theorem d_Model_isSign_9 : decode prog_11_method_23_code 9 = .ok (.if_icmp .eq 45, 3) := by decide +kernel
theorem d_Model_isSign_12 : decode prog_11_method_23_code 12 = .ok (.iload_n 1, 1) := by decide +kernel
theorem d_Model_isSign_13 : decode prog_11_method_23_code 13 = .ok (.bipush 58, 2) := by decide +kernel
theorem d_Model_isSign_15 : decode prog_11_method_23_code 15 = .ok (.if_icmp .eq 39, 3) := by decide +kernel
theorem d_Model_isSign_18 : decode prog_11_method_23_code 18 = .ok (.iload_n 1, 1) := by decide +kernel
theorem d_Model_isSign_19 : decode prog_11_method_23_code 19 = .ok (.bipush 59, 2) := by decide +kernel
theorem d_Model_isSign_21 : decode prog_11_method_23_code 21 = .ok (.if_icmp .eq 33, 3) := by decide +kernel
theorem d_Model_isSign_24 : decode prog_11_method_23_code 24 = .ok (.iload_n 1, 1) := by decide +kernel
theorem d_Model_isSign_25 : decode prog_11_method_23_code 25 = .ok (.bipush 64, 2) := by decide +kernel
theorem d_Model_isSign_27 : decode prog_11_method_23_code 27 = .ok (.if_icmp .eq 27, 3) := by decide +kernel
theorem d_Model_isSign_30 : decode prog_11_method_23_code 30 = .ok (.iload_n 1, 1) := by decide +kernel
theorem d_Model_isSign_31 : decode prog_11_method_23_code 31 = .ok (.bipush 44, 2) := by decide +kernel
theorem d_Model_isSign_33 : decode prog_11_method_23_code 33 = .ok (.if_icmp .eq 21, 3) := by decide +kernel
theorem d_Model_isSign_36 : decode prog_11_method_23_code 36 = .ok (.iload_n 1, 1) := by decide +kernel
theorem d_Model_isSign_37 : decode prog_11_method_23_code 37 = .ok (.bipush 41, 2) := by decide +kernel
theorem d_Model_isSign_39 : decode prog_11_method_23_code 39 = .ok (.if_icmp .eq 15, 3) := by decide +kernel
theorem d_Model_isSign_42 : decode prog_11_method_23_code 42 = .ok (.iload_n 1, 1) := by decide +kernel
theorem d_Model_isSign_43 : decode prog_11_method_23_code 43 = .ok (.bipush 93, 2) := by decide +kernel
theorem d_Model_isSign_45 : decode prog_11_method_23_code 45 = .ok (.if_icmp .eq 9, 3) := by decide +kernel
theorem d_Model_isSign_48 : decode prog_11_method_23_code 48 = .ok (.iload_n 1, 1) := by decide +kernel
theorem d_Model_isSign_49 : decode prog_11_method_23_code 49 = .ok (.bipush 92, 2) := by decide +kernel
theorem d_Model_isSign_51 : decode prog_11_method_23_code 51 = .ok (.if_icmp .ne 5, 3) := by decide +kernel
theorem d_Model_isSign_54 : decode prog_11_method_23_code 54 = .ok (.iconst 1, 1) := by decide +kernel
theorem d_Model_isSign_55 : decode prog_11_method_23_code 55 = .ok (.ireturn, 1) := by decide +kernel
theorem d_Model_isSign_56 : decode prog_11_method_23_code 56 = .ok (.aload_n 0, 1) := by decide +kernel
