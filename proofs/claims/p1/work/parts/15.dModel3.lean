theorem d_Model_end_53 : decode prog_11_method_5_code 53 = .ok (.iinc 2 1, 3) := by decide +kernel
theorem d_Model_end_56 : decode prog_11_method_5_code 56 = .ok (.goto (-25), 3) := by decide +kernel
theorem d_Model_end_59 : decode prog_11_method_5_code 59 = .ok (.aload_n 0, 1) := by decide +kernel
theorem d_Model_end_60 : decode prog_11_method_5_code 60 = .ok (.dup, 1) := by decide +kernel
theorem d_Model_end_61 : decode prog_11_method_5_code 61 = .ok (.getfield 106, 3) := by decide +kernel
theorem d_Model_end_64 : decode prog_11_method_5_code 64 = .ok (.iload_n 1, 1) := by decide +kernel
theorem d_Model_end_65 : decode prog_11_method_5_code 65 = .ok (.iadd, 1) := by decide +kernel
theorem d_Model_end_66 : decode prog_11_method_5_code 66 = .ok (.putfield 106, 3) := by decide +kernel
theorem d_Model_end_69 : decode prog_11_method_5_code 69 = .ok (.iconst 0, 1) := by decide +kernel
theorem d_Model_end_70 : decode prog_11_method_5_code 70 = .ok (.istore_n 2, 1) := by decide +kernel
theorem d_Model_end_71 : decode prog_11_method_5_code 71 = .ok (.iload_n 2, 1) := by decide +kernel
theorem d_Model_end_72 : decode prog_11_method_5_code 72 = .ok (.bipush 20, 2) := by decide +kernel
theorem d_Model_end_74 : decode prog_11_method_5_code 74 = .ok (.if_icmp .ge 16, 3) := by decide +kernel
theorem d_Model_end_77 : decode prog_11_method_5_code 77 = .ok (.aload_n 0, 1) := by decide +kernel
theorem d_Model_end_78 : decode prog_11_method_5_code 78 = .ok (.getfield 7, 3) := by decide +kernel
theorem d_Model_end_81 : decode prog_11_method_5_code 81 = .ok (.iload_n 2, 1) := by decide +kernel
theorem d_Model_end_82 : decode prog_11_method_5_code 82 = .ok (.iconst 0, 1) := by decide +kernel
theorem d_Model_end_83 : decode prog_11_method_5_code 83 = .ok (.iastore, 1) := by decide +kernel
theorem d_Model_end_84 : decode prog_11_method_5_code 84 = .ok (.iinc 2 1, 3) := by decide +kernel
theorem d_Model_end_87 : decode prog_11_method_5_code 87 = .ok (.goto (-16), 3) := by decide +kernel
theorem d_Model_end_90 : decode prog_11_method_5_code 90 = .ok (.aload_n 0, 1) := by decide +kernel
theorem d_Model_end_91 : decode prog_11_method_5_code 91 = .ok (.getfield 106, 3) := by decide +kernel
theorem d_Model_end_94 : decode prog_11_method_5_code 94 = .ok (.ireturn, 1) := by decide +kernel
theorem d_Model_find_0 : decode prog_11_method_14_code 0 = .ok (.aload_n 0, 1) := by decide +kernel
theorem d_Model_find_1 : decode prog_11_method_14_code 1 = .ok (.iconst 0, 1) := by decide +kernel
theorem d_Model_find_2 : decode prog_11_method_14_code 2 = .ok (.putfield 99, 3) := by decide +kernel
theorem d_Model_find_5 : decode prog_11_method_14_code 5 = .ok (.aload_n 0, 1) := by decide +kernel
theorem d_Model_find_6 : decode prog_11_method_14_code 6 = .ok (.getfield 106, 3) := by decide +kernel
theorem d_Model_find_9 : decode prog_11_method_14_code 9 = .ok (.istore_n 1, 1) := by decide +kernel
theorem d_Model_find_10 : decode prog_11_method_14_code 10 = .ok (.aload_n 0, 1) := by decide +kernel
theorem d_Model_find_11 : decode prog_11_method_14_code 11 = .ok (.iconst 0, 1) := by decide +kernel
theorem d_Model_find_12 : decode prog_11_method_14_code 12 = .ok (.putfield 106, 3) := by decide +kernel
theorem d_Model_find_15 : decode prog_11_method_14_code 15 = .ok (.iconst 0, 1) := by decide +kernel
theorem d_Model_find_16 : decode prog_11_method_14_code 16 = .ok (.istore_n 2, 1) := by decide +kernel
theorem d_Model_find_17 : decode prog_11_method_14_code 17 = .ok (.iload_n 2, 1) := by decide +kernel
theorem d_Model_find_18 : decode prog_11_method_14_code 18 = .ok (.aload_n 0, 1) := by decide +kernel
theorem d_Model_find_19 : decode prog_11_method_14_code 19 = .ok (.getfield 116, 3) := by decide +kernel
theorem d_Model_find_22 : decode prog_11_method_14_code 22 = .ok (.if_icmp .ge 86, 3) := by decide +kernel
theorem d_Model_find_25 : decode prog_11_method_14_code 25 = .ok (.aload_n 0, 1) := by decide +kernel
theorem d_Model_find_26 : decode prog_11_method_14_code 26 = .ok (.getfield 19, 3) := by decide +kernel
theorem d_Model_find_29 : decode prog_11_method_14_code 29 = .ok (.iload_n 2, 1) := by decide +kernel
theorem d_Model_find_30 : decode prog_11_method_14_code 30 = .ok (.iaload, 1) := by decide +kernel
theorem d_Model_find_31 : decode prog_11_method_14_code 31 = .ok (.iload_n 1, 1) := by decide +kernel
theorem d_Model_find_32 : decode prog_11_method_14_code 32 = .ok (.if_icmp .ne 7, 3) := by decide +kernel
theorem d_Model_find_35 : decode prog_11_method_14_code 35 = .ok (.iconst 1, 1) := by decide +kernel
theorem d_Model_find_36 : decode prog_11_method_14_code 36 = .ok (.goto 4, 3) := by decide +kernel
theorem d_Model_find_39 : decode prog_11_method_14_code 39 = .ok (.iconst 0, 1) := by decide +kernel
theorem d_Model_find_40 : decode prog_11_method_14_code 40 = .ok (.istore_n 3, 1) := by decide +kernel
theorem d_Model_find_41 : decode prog_11_method_14_code 41 = .ok (.iconst 0, 1) := by decide +kernel
theorem d_Model_find_42 : decode prog_11_method_14_code 42 = .ok (.istore 4, 2) := by decide +kernel
theorem d_Model_find_44 : decode prog_11_method_14_code 44 = .ok (.iload 4, 2) := by decide +kernel
theorem d_Model_find_46 : decode prog_11_method_14_code 46 = .ok (.iload_n 1, 1) := by decide +kernel
theorem d_Model_find_47 : decode prog_11_method_14_code 47 = .ok (.if_icmp .ge 49, 3) := by decide +kernel
theorem d_Model_find_50 : decode prog_11_method_14_code 50 = .ok (.iload_n 3, 1) := by decide +kernel
theorem d_Model_find_51 : decode prog_11_method_14_code 51 = .ok (.ifCond .eq 45, 3) := by decide +kernel
theorem d_Model_find_54 : decode prog_11_method_14_code 54 = .ok (.aload_n 0, 1) := by decide +kernel
theorem d_Model_find_55 : decode prog_11_method_14_code 55 = .ok (.getfield 28, 3) := by decide +kernel
theorem d_Model_find_58 : decode prog_11_method_14_code 58 = .ok (.aload_n 0, 1) := by decide +kernel
theorem d_Model_find_59 : decode prog_11_method_14_code 59 = .ok (.getfield 16, 3) := by decide +kernel
theorem d_Model_find_62 : decode prog_11_method_14_code 62 = .ok (.iload_n 2, 1) := by decide +kernel
theorem d_Model_find_63 : decode prog_11_method_14_code 63 = .ok (.iaload, 1) := by decide +kernel
theorem d_Model_find_64 : decode prog_11_method_14_code 64 = .ok (.iload 4, 2) := by decide +kernel
theorem d_Model_find_66 : decode prog_11_method_14_code 66 = .ok (.iadd, 1) := by decide +kernel
theorem d_Model_find_67 : decode prog_11_method_14_code 67 = .ok (.iaload, 1) := by decide +kernel
theorem d_Model_find_68 : decode prog_11_method_14_code 68 = .ok (.invokestatic 133, 3) := by decide +kernel
theorem d_Model_find_71 : decode prog_11_method_14_code 71 = .ok (.aload_n 0, 1) := by decide +kernel
theorem d_Model_find_72 : decode prog_11_method_14_code 72 = .ok (.getfield 13, 3) := by decide +kernel
theorem d_Model_find_75 : decode prog_11_method_14_code 75 = .ok (.iload 4, 2) := by decide +kernel
theorem d_Model_find_77 : decode prog_11_method_14_code 77 = .ok (.iaload, 1) := by decide +kernel
theorem d_Model_find_78 : decode prog_11_method_14_code 78 = .ok (.invokestatic 133, 3) := by decide +kernel
theorem d_Model_find_81 : decode prog_11_method_14_code 81 = .ok (.if_icmp .ne 7, 3) := by decide +kernel
theorem d_Model_find_84 : decode prog_11_method_14_code 84 = .ok (.iconst 1, 1) := by decide +kernel
theorem d_Model_find_85 : decode prog_11_method_14_code 85 = .ok (.goto 4, 3) := by decide +kernel
theorem d_Model_find_88 : decode prog_11_method_14_code 88 = .ok (.iconst 0, 1) := by decide +kernel
theorem d_Model_find_89 : decode prog_11_method_14_code 89 = .ok (.istore_n 3, 1) := by decide +kernel
theorem d_Model_find_90 : decode prog_11_method_14_code 90 = .ok (.iinc 4 1, 3) := by decide +kernel
theorem d_Model_find_93 : decode prog_11_method_14_code 93 = .ok (.goto (-49), 3) := by decide +kernel
theorem d_Model_find_96 : decode prog_11_method_14_code 96 = .ok (.iload_n 3, 1) := by decide +kernel
theorem d_Model_find_97 : decode prog_11_method_14_code 97 = .ok (.ifCond .eq 5, 3) := by decide +kernel
theorem d_Model_find_100 : decode prog_11_method_14_code 100 = .ok (.iload_n 2, 1) := by decide +kernel
theorem d_Model_find_101 : decode prog_11_method_14_code 101 = .ok (.ireturn, 1) := by decide +kernel
theorem d_Model_find_102 : decode prog_11_method_14_code 102 = .ok (.iinc 2 1, 3) := by decide +kernel
theorem d_Model_find_105 : decode prog_11_method_14_code 105 = .ok (.goto (-88), 3) := by decide +kernel
theorem d_Model_find_108 : decode prog_11_method_14_code 108 = .ok (.iconst (-1), 1) := by decide +kernel
theorem d_Model_find_109 : decode prog_11_method_14_code 109 = .ok (.ireturn, 1) := by decide +kernel
theorem d_Model_isName_0 : decode prog_11_method_38_code 0 = .ok (.iconst 0, 1) := by decide +kernel
theorem d_Model_isName_1 : decode prog_11_method_38_code 1 = .ok (.istore_n 3, 1) := by decide +kernel
theorem d_Model_isName_2 : decode prog_11_method_38_code 2 = .ok (.aload_n 0, 1) := by decide +kernel
theorem d_Model_isName_3 : decode prog_11_method_38_code 3 = .ok (.iload_n 1, 1) := by decide +kernel
theorem d_Model_isName_4 : decode prog_11_method_38_code 4 = .ok (.iload_n 2, 1) := by decide +kernel
theorem d_Model_isName_5 : decode prog_11_method_38_code 5 = .ok (.invokevirtual 197, 3) := by decide +kernel
theorem d_Model_isName_8 : decode prog_11_method_38_code 8 = .ok (.istore 4, 2) := by decide +kernel
theorem d_Model_isName_10 : decode prog_11_method_38_code 10 = .ok (.iload 4, 2) := by decide +kernel
theorem d_Model_isName_12 : decode prog_11_method_38_code 12 = .ok (.iload_n 2, 1) := by decide +kernel
theorem d_Model_isName_13 : decode prog_11_method_38_code 13 = .ok (.if_icmp .ge 55, 3) := by decide +kernel
theorem d_Model_isName_16 : decode prog_11_method_38_code 16 = .ok (.aload_n 0, 1) := by decide +kernel
theorem d_Model_isName_17 : decode prog_11_method_38_code 17 = .ok (.getfield 31, 3) := by decide +kernel
theorem d_Model_isName_20 : decode prog_11_method_38_code 20 = .ok (.iload 4, 2) := by decide +kernel
theorem d_Model_isName_22 : decode prog_11_method_38_code 22 = .ok (.iaload, 1) := by decide +kernel
theorem d_Model_isName_23 : decode prog_11_method_38_code 23 = .ok (.iconst 4, 1) := by decide +kernel
theorem d_Model_isName_24 : decode prog_11_method_38_code 24 = .ok (.if_icmp .eq 27, 3) := by decide +kernel
theorem d_Model_isName_27 : decode prog_11_method_38_code 27 = .ok (.aload_n 0, 1) := by decide +kernel
theorem d_Model_isName_28 : decode prog_11_method_38_code 28 = .ok (.getfield 31, 3) := by decide +kernel
theorem d_Model_isName_31 : decode prog_11_method_38_code 31 = .ok (.iload 4, 2) := by decide +kernel
theorem d_Model_isName_33 : decode prog_11_method_38_code 33 = .ok (.iaload, 1) := by decide +kernel
theorem d_Model_isName_34 : decode prog_11_method_38_code 34 = .ok (.iconst 1, 1) := by decide +kernel
theorem d_Model_isName_35 : decode prog_11_method_38_code 35 = .ok (.if_icmp .eq 16, 3) := by decide +kernel
theorem d_Model_isName_38 : decode prog_11_method_38_code 38 = .ok (.aload_n 0, 1) := by decide +kernel
theorem d_Model_isName_39 : decode prog_11_method_38_code 39 = .ok (.iload 4, 2) := by decide +kernel
theorem d_Model_isName_41 : decode prog_11_method_38_code 41 = .ok (.bipush 46, 2) := by decide +kernel
theorem d_Model_isName_43 : decode prog_11_method_38_code 43 = .ok (.invokevirtual 200, 3) := by decide +kernel
theorem d_Model_isName_46 : decode prog_11_method_38_code 46 = .ok (.ifCond .ne 5, 3) := by decide +kernel
theorem d_Model_isName_49 : decode prog_11_method_38_code 49 = .ok (.iconst 0, 1) := by decide +kernel
theorem d_Model_isName_50 : decode prog_11_method_38_code 50 = .ok (.ireturn, 1) := by decide +kernel
theorem d_Model_isName_51 : decode prog_11_method_38_code 51 = .ok (.iinc 3 1, 3) := by decide +kernel
theorem d_Model_isName_54 : decode prog_11_method_38_code 54 = .ok (.aload_n 0, 1) := by decide +kernel
theorem d_Model_isName_55 : decode prog_11_method_38_code 55 = .ok (.iload 4, 2) := by decide +kernel
theorem d_Model_isName_57 : decode prog_11_method_38_code 57 = .ok (.iconst 1, 1) := by decide +kernel
theorem d_Model_isName_58 : decode prog_11_method_38_code 58 = .ok (.iadd, 1) := by decide +kernel
theorem d_Model_isName_59 : decode prog_11_method_38_code 59 = .ok (.iload_n 2, 1) := by decide +kernel
theorem d_Model_isName_60 : decode prog_11_method_38_code 60 = .ok (.invokevirtual 197, 3) := by decide +kernel
theorem d_Model_isName_63 : decode prog_11_method_38_code 63 = .ok (.istore 4, 2) := by decide +kernel
theorem d_Model_isName_65 : decode prog_11_method_38_code 65 = .ok (.goto (-55), 3) := by decide +kernel
theorem d_Model_isName_68 : decode prog_11_method_38_code 68 = .ok (.iload_n 3, 1) := by decide +kernel
theorem d_Model_isName_69 : decode prog_11_method_38_code 69 = .ok (.ifCond .le 7, 3) := by decide +kernel
theorem d_Model_isName_72 : decode prog_11_method_38_code 72 = .ok (.iconst 1, 1) := by decide +kernel
theorem d_Model_isName_73 : decode prog_11_method_38_code 73 = .ok (.goto 4, 3) := by decide +kernel
theorem d_Model_isName_76 : decode prog_11_method_38_code 76 = .ok (.iconst 0, 1) := by decide +kernel
theorem d_Model_isName_77 : decode prog_11_method_38_code 77 = .ok (.ireturn, 1) := by decide +kernel
theorem d_Model_addWord_0 : decode prog_11_method_34_code 0 = .ok (.aload_n 0, 1) := by decide +kernel
theorem d_Model_addWord_1 : decode prog_11_method_34_code 1 = .ok (.getfield 37, 3) := by decide +kernel
theorem d_Model_addWord_4 : decode prog_11_method_34_code 4 = .ok (.iload_n 2, 1) := by decide +kernel
theorem d_Model_addWord_5 : decode prog_11_method_34_code 5 = .ok (.iaload, 1) := by decide +kernel
theorem d_Model_addWord_6 : decode prog_11_method_34_code 6 = .ok (.istore_n 3, 1) := by decide +kernel
theorem d_Model_addWord_7 : decode prog_11_method_34_code 7 = .ok (.iload_n 3, 1) := by decide +kernel
theorem d_Model_addWord_8 : decode prog_11_method_34_code 8 = .ok (.aload_n 0, 1) := by decide +kernel
theorem d_Model_addWord_9 : decode prog_11_method_34_code 9 = .ok (.getfield 40, 3) := by decide +kernel
theorem d_Model_addWord_12 : decode prog_11_method_34_code 12 = .ok (.iload_n 2, 1) := by decide +kernel
theorem d_Model_addWord_13 : decode prog_11_method_34_code 13 = .ok (.iaload, 1) := by decide +kernel
theorem d_Model_addWord_14 : decode prog_11_method_34_code 14 = .ok (.if_icmp .ge 20, 3) := by decide +kernel
theorem d_Model_addWord_17 : decode prog_11_method_34_code 17 = .ok (.aload_n 0, 1) := by decide +kernel
theorem d_Model_addWord_18 : decode prog_11_method_34_code 18 = .ok (.iload_n 1, 1) := by decide +kernel
theorem d_Model_addWord_19 : decode prog_11_method_34_code 19 = .ok (.aload_n 0, 1) := by decide +kernel
theorem d_Model_addWord_20 : decode prog_11_method_34_code 20 = .ok (.getfield 43, 3) := by decide +kernel
theorem d_Model_addWord_23 : decode prog_11_method_34_code 23 = .ok (.iload_n 3, 1) := by decide +kernel
theorem d_Model_addWord_24 : decode prog_11_method_34_code 24 = .ok (.iaload, 1) := by decide +kernel
theorem d_Model_addWord_25 : decode prog_11_method_34_code 25 = .ok (.invokevirtual 191, 3) := by decide +kernel
theorem d_Model_addWord_28 : decode prog_11_method_34_code 28 = .ok (.iinc 3 1, 3) := by decide +kernel
theorem d_Model_addWord_31 : decode prog_11_method_34_code 31 = .ok (.goto (-24), 3) := by decide +kernel
theorem d_Model_addWord_34 : decode prog_11_method_34_code 34 = .ok (.return_, 1) := by decide +kernel
theorem d_Model_makeName_0 : decode prog_11_method_39_code 0 = .ok (.aload_n 0, 1) := by decide +kernel
theorem d_Model_makeName_1 : decode prog_11_method_39_code 1 = .ok (.iload_n 1, 1) := by decide +kernel
theorem d_Model_makeName_2 : decode prog_11_method_39_code 2 = .ok (.invokevirtual 204, 3) := by decide +kernel
theorem d_Model_makeName_5 : decode prog_11_method_39_code 5 = .ok (.iconst 0, 1) := by decide +kernel
theorem d_Model_makeName_6 : decode prog_11_method_39_code 6 = .ok (.istore 4, 2) := by decide +kernel
theorem d_Model_makeName_8 : decode prog_11_method_39_code 8 = .ok (.aload_n 0, 1) := by decide +kernel
theorem d_Model_makeName_9 : decode prog_11_method_39_code 9 = .ok (.iload_n 2, 1) := by decide +kernel
theorem d_Model_makeName_10 : decode prog_11_method_39_code 10 = .ok (.iload_n 3, 1) := by decide +kernel
theorem d_Model_makeName_11 : decode prog_11_method_39_code 11 = .ok (.invokevirtual 197, 3) := by decide +kernel
theorem d_Model_makeName_14 : decode prog_11_method_39_code 14 = .ok (.istore 5, 2) := by decide +kernel
theorem d_Model_makeName_16 : decode prog_11_method_39_code 16 = .ok (.iload 5, 2) := by decide +kernel
theorem d_Model_makeName_18 : decode prog_11_method_39_code 18 = .ok (.iload_n 3, 1) := by decide +kernel
theorem d_Model_makeName_19 : decode prog_11_method_39_code 19 = .ok (.if_icmp .ge 50, 3) := by decide +kernel
theorem d_Model_makeName_22 : decode prog_11_method_39_code 22 = .ok (.iload 4, 2) := by decide +kernel
theorem d_Model_makeName_24 : decode prog_11_method_39_code 24 = .ok (.ifCond .eq 21, 3) := by decide +kernel
theorem d_Model_makeName_27 : decode prog_11_method_39_code 27 = .ok (.aload_n 0, 1) := by decide +kernel
theorem d_Model_makeName_28 : decode prog_11_method_39_code 28 = .ok (.iload 5, 2) := by decide +kernel
theorem d_Model_makeName_30 : decode prog_11_method_39_code 30 = .ok (.bipush 46, 2) := by decide +kernel
theorem d_Model_makeName_32 : decode prog_11_method_39_code 32 = .ok (.invokevirtual 200, 3) := by decide +kernel
theorem d_Model_makeName_35 : decode prog_11_method_39_code 35 = .ok (.ifCond .ne 10, 3) := by decide +kernel
theorem d_Model_makeName_38 : decode prog_11_method_39_code 38 = .ok (.aload_n 0, 1) := by decide +kernel
theorem d_Model_makeName_39 : decode prog_11_method_39_code 39 = .ok (.iload_n 1, 1) := by decide +kernel
theorem d_Model_makeName_40 : decode prog_11_method_39_code 40 = .ok (.bipush 32, 2) := by decide +kernel
theorem d_Model_makeName_42 : decode prog_11_method_39_code 42 = .ok (.invokevirtual 191, 3) := by decide +kernel
theorem d_Model_makeName_45 : decode prog_11_method_39_code 45 = .ok (.aload_n 0, 1) := by decide +kernel
theorem d_Model_makeName_46 : decode prog_11_method_39_code 46 = .ok (.iload_n 1, 1) := by decide +kernel
theorem d_Model_makeName_47 : decode prog_11_method_39_code 47 = .ok (.iload 5, 2) := by decide +kernel
theorem d_Model_makeName_49 : decode prog_11_method_39_code 49 = .ok (.invokevirtual 207, 3) := by decide +kernel
theorem d_Model_makeName_52 : decode prog_11_method_39_code 52 = .ok (.iconst 1, 1) := by decide +kernel
theorem d_Model_makeName_53 : decode prog_11_method_39_code 53 = .ok (.istore 4, 2) := by decide +kernel
theorem d_Model_makeName_55 : decode prog_11_method_39_code 55 = .ok (.aload_n 0, 1) := by decide +kernel
theorem d_Model_makeName_56 : decode prog_11_method_39_code 56 = .ok (.iload 5, 2) := by decide +kernel
theorem d_Model_makeName_58 : decode prog_11_method_39_code 58 = .ok (.iconst 1, 1) := by decide +kernel
theorem d_Model_makeName_59 : decode prog_11_method_39_code 59 = .ok (.iadd, 1) := by decide +kernel
theorem d_Model_makeName_60 : decode prog_11_method_39_code 60 = .ok (.iload_n 3, 1) := by decide +kernel
theorem d_Model_makeName_61 : decode prog_11_method_39_code 61 = .ok (.invokevirtual 197, 3) := by decide +kernel
theorem d_Model_makeName_64 : decode prog_11_method_39_code 64 = .ok (.istore 5, 2) := by decide +kernel
theorem d_Model_makeName_66 : decode prog_11_method_39_code 66 = .ok (.goto (-50), 3) := by decide +kernel
theorem d_Model_makeName_69 : decode prog_11_method_39_code 69 = .ok (.aload_n 0, 1) := by decide +kernel
theorem d_Model_makeName_70 : decode prog_11_method_39_code 70 = .ok (.iload_n 1, 1) := by decide +kernel
theorem d_Model_makeName_71 : decode prog_11_method_39_code 71 = .ok (.invokevirtual 210, 3) := by decide +kernel
theorem d_Model_makeName_74 : decode prog_11_method_39_code 74 = .ok (.return_, 1) := by decide +kernel
theorem d_Model_beginGroup_0 : decode prog_11_method_47_code 0 = .ok (.aload_n 0, 1) := by decide +kernel
theorem d_Model_beginGroup_1 : decode prog_11_method_47_code 1 = .ok (.iload_n 1, 1) := by decide +kernel
theorem d_Model_beginGroup_2 : decode prog_11_method_47_code 2 = .ok (.iload_n 2, 1) := by decide +kernel
theorem d_Model_beginGroup_3 : decode prog_11_method_47_code 3 = .ok (.invokevirtual 233, 3) := by decide +kernel
theorem d_Model_beginGroup_6 : decode prog_11_method_47_code 6 = .ok (.istore_n 3, 1) := by decide +kernel
theorem d_Model_beginGroup_7 : decode prog_11_method_47_code 7 = .ok (.iload_n 3, 1) := by decide +kernel
theorem d_Model_beginGroup_8 : decode prog_11_method_47_code 8 = .ok (.ifCond .ne 23, 3) := by decide +kernel
theorem d_Model_beginGroup_11 : decode prog_11_method_47_code 11 = .ok (.aload_n 0, 1) := by decide +kernel
theorem d_Model_beginGroup_12 : decode prog_11_method_47_code 12 = .ok (.iload_n 1, 1) := by decide +kernel
theorem d_Model_beginGroup_13 : decode prog_11_method_47_code 13 = .ok (.iload_n 2, 1) := by decide +kernel
theorem d_Model_beginGroup_14 : decode prog_11_method_47_code 14 = .ok (.invokevirtual 197, 3) := by decide +kernel
theorem d_Model_beginGroup_17 : decode prog_11_method_47_code 17 = .ok (.iload_n 2, 1) := by decide +kernel
theorem d_Model_beginGroup_18 : decode prog_11_method_47_code 18 = .ok (.if_icmp .ge 13, 3) := by decide +kernel
theorem d_Model_beginGroup_21 : decode prog_11_method_47_code 21 = .ok (.aload_n 0, 1) := by decide +kernel
theorem d_Model_beginGroup_22 : decode prog_11_method_47_code 22 = .ok (.dup, 1) := by decide +kernel
theorem d_Model_beginGroup_23 : decode prog_11_method_47_code 23 = .ok (.getfield 227, 3) := by decide +kernel
theorem d_Model_beginGroup_26 : decode prog_11_method_47_code 26 = .ok (.iconst 1, 1) := by decide +kernel
theorem d_Model_beginGroup_27 : decode prog_11_method_47_code 27 = .ok (.iadd, 1) := by decide +kernel
theorem d_Model_beginGroup_28 : decode prog_11_method_47_code 28 = .ok (.putfield 227, 3) := by decide +kernel
theorem d_Model_beginGroup_31 : decode prog_11_method_47_code 31 = .ok (.iload_n 3, 1) := by decide +kernel
theorem d_Model_beginGroup_32 : decode prog_11_method_47_code 32 = .ok (.ifCond .eq 13, 3) := by decide +kernel
theorem d_Model_beginGroup_35 : decode prog_11_method_47_code 35 = .ok (.aload_n 0, 1) := by decide +kernel
theorem d_Model_beginGroup_36 : decode prog_11_method_47_code 36 = .ok (.iconst 3, 1) := by decide +kernel
theorem d_Model_beginGroup_37 : decode prog_11_method_47_code 37 = .ok (.iload_n 1, 1) := by decide +kernel
theorem d_Model_beginGroup_38 : decode prog_11_method_47_code 38 = .ok (.iload_n 2, 1) := by decide +kernel
theorem d_Model_beginGroup_39 : decode prog_11_method_47_code 39 = .ok (.invokevirtual 239, 3) := by decide +kernel
theorem d_Model_beginGroup_42 : decode prog_11_method_47_code 42 = .ok (.goto 13, 3) := by decide +kernel
theorem d_Model_beginGroup_45 : decode prog_11_method_47_code 45 = .ok (.aload_n 0, 1) := by decide +kernel
theorem d_Model_beginGroup_46 : decode prog_11_method_47_code 46 = .ok (.iconst 3, 1) := by decide +kernel
theorem d_Model_beginGroup_47 : decode prog_11_method_47_code 47 = .ok (.invokevirtual 204, 3) := by decide +kernel
theorem d_Model_beginGroup_50 : decode prog_11_method_47_code 50 = .ok (.aload_n 0, 1) := by decide +kernel
theorem d_Model_beginGroup_51 : decode prog_11_method_47_code 51 = .ok (.iconst 3, 1) := by decide +kernel
theorem d_Model_beginGroup_52 : decode prog_11_method_47_code 52 = .ok (.invokevirtual 210, 3) := by decide +kernel
theorem d_Model_beginGroup_55 : decode prog_11_method_47_code 55 = .ok (.aload_n 0, 1) := by decide +kernel
theorem d_Model_beginGroup_56 : decode prog_11_method_47_code 56 = .ok (.dup, 1) := by decide +kernel
theorem d_Model_beginGroup_57 : decode prog_11_method_47_code 57 = .ok (.getfield 248, 3) := by decide +kernel
theorem d_Model_beginGroup_60 : decode prog_11_method_47_code 60 = .ok (.iconst 1, 1) := by decide +kernel
theorem d_Model_beginGroup_61 : decode prog_11_method_47_code 61 = .ok (.iadd, 1) := by decide +kernel
theorem d_Model_beginGroup_62 : decode prog_11_method_47_code 62 = .ok (.putfield 248, 3) := by decide +kernel
theorem d_Model_beginGroup_65 : decode prog_11_method_47_code 65 = .ok (.return_, 1) := by decide +kernel
theorem d_Model_isRowWord_0 : decode prog_11_method_41_code 0 = .ok (.iload_n 1, 1) := by decide +kernel
theorem d_Model_isRowWord_1 : decode prog_11_method_41_code 1 = .ok (.iload_n 2, 1) := by decide +kernel
theorem d_Model_isRowWord_2 : decode prog_11_method_41_code 2 = .ok (.if_icmp .ge 31, 3) := by decide +kernel
theorem d_Model_isRowWord_5 : decode prog_11_method_41_code 5 = .ok (.aload_n 0, 1) := by decide +kernel
theorem d_Model_isRowWord_6 : decode prog_11_method_41_code 6 = .ok (.getfield 31, 3) := by decide +kernel
theorem d_Model_isRowWord_9 : decode prog_11_method_41_code 9 = .ok (.iload_n 1, 1) := by decide +kernel
theorem d_Model_isRowWord_10 : decode prog_11_method_41_code 10 = .ok (.iaload, 1) := by decide +kernel
theorem d_Model_isRowWord_11 : decode prog_11_method_41_code 11 = .ok (.iconst 4, 1) := by decide +kernel
theorem d_Model_isRowWord_12 : decode prog_11_method_41_code 12 = .ok (.if_icmp .eq 17, 3) := by decide +kernel
theorem d_Model_isRowWord_15 : decode prog_11_method_41_code 15 = .ok (.iload_n 3, 1) := by decide +kernel
theorem d_Model_isRowWord_16 : decode prog_11_method_41_code 16 = .ok (.ifCond .eq 17, 3) := by decide +kernel
theorem d_Model_isRowWord_19 : decode prog_11_method_41_code 19 = .ok (.aload_n 0, 1) := by decide +kernel
theorem d_Model_isRowWord_20 : decode prog_11_method_41_code 20 = .ok (.getfield 31, 3) := by decide +kernel
theorem d_Model_isRowWord_23 : decode prog_11_method_41_code 23 = .ok (.iload_n 1, 1) := by decide +kernel
theorem d_Model_isRowWord_24 : decode prog_11_method_41_code 24 = .ok (.iaload, 1) := by decide +kernel
theorem d_Model_isRowWord_25 : decode prog_11_method_41_code 25 = .ok (.iconst 1, 1) := by decide +kernel
theorem d_Model_isRowWord_26 : decode prog_11_method_41_code 26 = .ok (.if_icmp .ne 7, 3) := by decide +kernel
theorem d_Model_isRowWord_29 : decode prog_11_method_41_code 29 = .ok (.iconst 1, 1) := by decide +kernel
theorem d_Model_isRowWord_30 : decode prog_11_method_41_code 30 = .ok (.goto 4, 3) := by decide +kernel
theorem d_Model_isRowWord_33 : decode prog_11_method_41_code 33 = .ok (.iconst 0, 1) := by decide +kernel
theorem d_Model_isRowWord_34 : decode prog_11_method_41_code 34 = .ok (.ireturn, 1) := by decide +kernel
theorem d_Model_rowEnd_0 : decode prog_11_method_40_code 0 = .ok (.aload_n 0, 1) := by decide +kernel
theorem d_Model_rowEnd_1 : decode prog_11_method_40_code 1 = .ok (.iload_n 1, 1) := by decide +kernel
theorem d_Model_rowEnd_2 : decode prog_11_method_40_code 2 = .ok (.iload_n 2, 1) := by decide +kernel
theorem d_Model_rowEnd_3 : decode prog_11_method_40_code 3 = .ok (.invokevirtual 197, 3) := by decide +kernel
theorem d_Model_rowEnd_6 : decode prog_11_method_40_code 6 = .ok (.istore 4, 2) := by decide +kernel
theorem d_Model_rowEnd_8 : decode prog_11_method_40_code 8 = .ok (.aload_n 0, 1) := by decide +kernel
theorem d_Model_rowEnd_9 : decode prog_11_method_40_code 9 = .ok (.iload 4, 2) := by decide +kernel
theorem d_Model_rowEnd_11 : decode prog_11_method_40_code 11 = .ok (.iload_n 2, 1) := by decide +kernel
theorem d_Model_rowEnd_12 : decode prog_11_method_40_code 12 = .ok (.iload_n 3, 1) := by decide +kernel
theorem d_Model_rowEnd_13 : decode prog_11_method_40_code 13 = .ok (.invokevirtual 213, 3) := by decide +kernel
theorem d_Model_rowEnd_16 : decode prog_11_method_40_code 16 = .ok (.ifCond .ne 5, 3) := by decide +kernel
theorem d_Model_rowEnd_19 : decode prog_11_method_40_code 19 = .ok (.iload_n 1, 1) := by decide +kernel
theorem d_Model_rowEnd_20 : decode prog_11_method_40_code 20 = .ok (.ireturn, 1) := by decide +kernel
theorem d_Model_rowEnd_21 : decode prog_11_method_40_code 21 = .ok (.iinc 4 1, 3) := by decide +kernel
theorem d_Model_rowEnd_24 : decode prog_11_method_40_code 24 = .ok (.iconst 1, 1) := by decide +kernel
theorem d_Model_rowEnd_25 : decode prog_11_method_40_code 25 = .ok (.istore 5, 2) := by decide +kernel
theorem d_Model_rowEnd_27 : decode prog_11_method_40_code 27 = .ok (.iload 5, 2) := by decide +kernel
theorem d_Model_rowEnd_29 : decode prog_11_method_40_code 29 = .ok (.ifCond .eq 93, 3) := by decide +kernel
theorem d_Model_rowEnd_32 : decode prog_11_method_40_code 32 = .ok (.aload_n 0, 1) := by decide +kernel
theorem d_Model_rowEnd_33 : decode prog_11_method_40_code 33 = .ok (.iload 4, 2) := by decide +kernel
theorem d_Model_rowEnd_35 : decode prog_11_method_40_code 35 = .ok (.iload_n 2, 1) := by decide +kernel
theorem d_Model_rowEnd_36 : decode prog_11_method_40_code 36 = .ok (.invokevirtual 197, 3) := by decide +kernel
theorem d_Model_rowEnd_39 : decode prog_11_method_40_code 39 = .ok (.istore 6, 2) := by decide +kernel
theorem d_Model_rowEnd_41 : decode prog_11_method_40_code 41 = .ok (.iload 6, 2) := by decide +kernel
theorem d_Model_rowEnd_43 : decode prog_11_method_40_code 43 = .ok (.iload_n 2, 1) := by decide +kernel
theorem d_Model_rowEnd_44 : decode prog_11_method_40_code 44 = .ok (.if_icmp .ge 26, 3) := by decide +kernel
theorem d_Model_rowEnd_47 : decode prog_11_method_40_code 47 = .ok (.aload_n 0, 1) := by decide +kernel
theorem d_Model_rowEnd_48 : decode prog_11_method_40_code 48 = .ok (.iload 6, 2) := by decide +kernel
theorem d_Model_rowEnd_50 : decode prog_11_method_40_code 50 = .ok (.bipush 46, 2) := by decide +kernel
theorem d_Model_rowEnd_52 : decode prog_11_method_40_code 52 = .ok (.invokevirtual 200, 3) := by decide +kernel
theorem d_Model_rowEnd_55 : decode prog_11_method_40_code 55 = .ok (.ifCond .eq 15, 3) := by decide +kernel
theorem d_Model_rowEnd_58 : decode prog_11_method_40_code 58 = .ok (.aload_n 0, 1) := by decide +kernel
theorem d_Model_rowEnd_59 : decode prog_11_method_40_code 59 = .ok (.iload 6, 2) := by decide +kernel
theorem d_Model_rowEnd_61 : decode prog_11_method_40_code 61 = .ok (.iconst 1, 1) := by decide +kernel
theorem d_Model_rowEnd_62 : decode prog_11_method_40_code 62 = .ok (.iadd, 1) := by decide +kernel
theorem d_Model_rowEnd_63 : decode prog_11_method_40_code 63 = .ok (.iload_n 2, 1) := by decide +kernel
theorem d_Model_rowEnd_64 : decode prog_11_method_40_code 64 = .ok (.invokevirtual 197, 3) := by decide +kernel
theorem d_Model_rowEnd_67 : decode prog_11_method_40_code 67 = .ok (.goto 4, 3) := by decide +kernel
theorem d_Model_rowEnd_70 : decode prog_11_method_40_code 70 = .ok (.iload_n 2, 1) := by decide +kernel
theorem d_Model_rowEnd_71 : decode prog_11_method_40_code 71 = .ok (.istore 7, 2) := by decide +kernel
theorem d_Model_rowEnd_73 : decode prog_11_method_40_code 73 = .ok (.iload 6, 2) := by decide +kernel
theorem d_Model_rowEnd_75 : decode prog_11_method_40_code 75 = .ok (.iload_n 2, 1) := by decide +kernel
theorem d_Model_rowEnd_76 : decode prog_11_method_40_code 76 = .ok (.if_icmp .ge 29, 3) := by decide +kernel
theorem d_Model_rowEnd_79 : decode prog_11_method_40_code 79 = .ok (.aload_n 0, 1) := by decide +kernel
theorem d_Model_rowEnd_80 : decode prog_11_method_40_code 80 = .ok (.iload 6, 2) := by decide +kernel
theorem d_Model_rowEnd_82 : decode prog_11_method_40_code 82 = .ok (.bipush 46, 2) := by decide +kernel
theorem d_Model_rowEnd_84 : decode prog_11_method_40_code 84 = .ok (.invokevirtual 200, 3) := by decide +kernel
theorem d_Model_rowEnd_87 : decode prog_11_method_40_code 87 = .ok (.ifCond .eq 18, 3) := by decide +kernel
theorem d_Model_rowEnd_90 : decode prog_11_method_40_code 90 = .ok (.aload_n 0, 1) := by decide +kernel
theorem d_Model_rowEnd_91 : decode prog_11_method_40_code 91 = .ok (.iload 7, 2) := by decide +kernel
theorem d_Model_rowEnd_93 : decode prog_11_method_40_code 93 = .ok (.iload_n 2, 1) := by decide +kernel
theorem d_Model_rowEnd_94 : decode prog_11_method_40_code 94 = .ok (.iload_n 3, 1) := by decide +kernel
theorem d_Model_rowEnd_95 : decode prog_11_method_40_code 95 = .ok (.invokevirtual 213, 3) := by decide +kernel
theorem d_Model_rowEnd_98 : decode prog_11_method_40_code 98 = .ok (.ifCond .eq 7, 3) := by decide +kernel
theorem d_Model_rowEnd_101 : decode prog_11_method_40_code 101 = .ok (.iconst 1, 1) := by decide +kernel
theorem d_Model_rowEnd_102 : decode prog_11_method_40_code 102 = .ok (.goto 4, 3) := by decide +kernel
theorem d_Model_rowEnd_105 : decode prog_11_method_40_code 105 = .ok (.iconst 0, 1) := by decide +kernel
theorem d_Model_rowEnd_106 : decode prog_11_method_40_code 106 = .ok (.istore 5, 2) := by decide +kernel
theorem d_Model_rowEnd_108 : decode prog_11_method_40_code 108 = .ok (.iload 5, 2) := by decide +kernel
theorem d_Model_rowEnd_110 : decode prog_11_method_40_code 110 = .ok (.ifCond .eq 9, 3) := by decide +kernel
theorem d_Model_rowEnd_113 : decode prog_11_method_40_code 113 = .ok (.iload 7, 2) := by decide +kernel
theorem d_Model_rowEnd_115 : decode prog_11_method_40_code 115 = .ok (.iconst 1, 1) := by decide +kernel
theorem d_Model_rowEnd_116 : decode prog_11_method_40_code 116 = .ok (.iadd, 1) := by decide +kernel
theorem d_Model_rowEnd_117 : decode prog_11_method_40_code 117 = .ok (.istore 4, 2) := by decide +kernel
theorem d_Model_rowEnd_119 : decode prog_11_method_40_code 119 = .ok (.goto (-92), 3) := by decide +kernel
theorem d_Model_rowEnd_122 : decode prog_11_method_40_code 122 = .ok (.iload 4, 2) := by decide +kernel
theorem d_Model_rowEnd_124 : decode prog_11_method_40_code 124 = .ok (.ireturn, 1) := by decide +kernel
theorem d_Model_isSpec_0 : decode prog_11_method_42_code 0 = .ok (.aload_n 0, 1) := by decide +kernel
theorem d_Model_isSpec_1 : decode prog_11_method_42_code 1 = .ok (.aload_n 0, 1) := by decide +kernel
theorem d_Model_isSpec_2 : decode prog_11_method_42_code 2 = .ok (.iload_n 1, 1) := by decide +kernel
theorem d_Model_isSpec_3 : decode prog_11_method_42_code 3 = .ok (.iload_n 2, 1) := by decide +kernel
theorem d_Model_isSpec_4 : decode prog_11_method_42_code 4 = .ok (.iconst 1, 1) := by decide +kernel
theorem d_Model_isSpec_5 : decode prog_11_method_42_code 5 = .ok (.invokevirtual 217, 3) := by decide +kernel
theorem d_Model_isSpec_8 : decode prog_11_method_42_code 8 = .ok (.putfield 221, 3) := by decide +kernel
theorem d_Model_isSpec_11 : decode prog_11_method_42_code 11 = .ok (.aload_n 0, 1) := by decide +kernel
theorem d_Model_isSpec_12 : decode prog_11_method_42_code 12 = .ok (.iload_n 2, 1) := by decide +kernel
theorem d_Model_isSpec_13 : decode prog_11_method_42_code 13 = .ok (.putfield 224, 3) := by decide +kernel
theorem d_Model_isSpec_16 : decode prog_11_method_42_code 16 = .ok (.aload_n 0, 1) := by decide +kernel
theorem d_Model_isSpec_17 : decode prog_11_method_42_code 17 = .ok (.getfield 221, 3) := by decide +kernel
theorem d_Model_isSpec_20 : decode prog_11_method_42_code 20 = .ok (.iload_n 1, 1) := by decide +kernel
theorem d_Model_isSpec_21 : decode prog_11_method_42_code 21 = .ok (.if_icmp .ne 5, 3) := by decide +kernel
theorem d_Model_isSpec_24 : decode prog_11_method_42_code 24 = .ok (.iconst 0, 1) := by decide +kernel
theorem d_Model_isSpec_25 : decode prog_11_method_42_code 25 = .ok (.ireturn, 1) := by decide +kernel
theorem d_Model_isSpec_26 : decode prog_11_method_42_code 26 = .ok (.aload_n 0, 1) := by decide +kernel
theorem d_Model_isSpec_27 : decode prog_11_method_42_code 27 = .ok (.aload_n 0, 1) := by decide +kernel
theorem d_Model_isSpec_28 : decode prog_11_method_42_code 28 = .ok (.getfield 221, 3) := by decide +kernel
theorem d_Model_isSpec_31 : decode prog_11_method_42_code 31 = .ok (.iload_n 2, 1) := by decide +kernel
theorem d_Model_isSpec_32 : decode prog_11_method_42_code 32 = .ok (.invokevirtual 197, 3) := by decide +kernel
theorem d_Model_isSpec_35 : decode prog_11_method_42_code 35 = .ok (.istore_n 3, 1) := by decide +kernel
theorem d_Model_isSpec_36 : decode prog_11_method_42_code 36 = .ok (.iload_n 3, 1) := by decide +kernel
theorem d_Model_isSpec_37 : decode prog_11_method_42_code 37 = .ok (.iload_n 2, 1) := by decide +kernel
theorem d_Model_isSpec_38 : decode prog_11_method_42_code 38 = .ok (.if_icmp .ne 5, 3) := by decide +kernel
theorem d_Model_isSpec_41 : decode prog_11_method_42_code 41 = .ok (.iconst 1, 1) := by decide +kernel
theorem d_Model_isSpec_42 : decode prog_11_method_42_code 42 = .ok (.ireturn, 1) := by decide +kernel
theorem d_Model_isSpec_43 : decode prog_11_method_42_code 43 = .ok (.aload_n 0, 1) := by decide +kernel
theorem d_Model_isSpec_44 : decode prog_11_method_42_code 44 = .ok (.iload_n 3, 1) := by decide +kernel
theorem d_Model_isSpec_45 : decode prog_11_method_42_code 45 = .ok (.bipush 64, 2) := by decide +kernel
theorem d_Model_isSpec_47 : decode prog_11_method_42_code 47 = .ok (.invokevirtual 200, 3) := by decide +kernel
theorem d_Model_isSpec_50 : decode prog_11_method_42_code 50 = .ok (.ifCond .ne 5, 3) := by decide +kernel
theorem d_Model_isSpec_53 : decode prog_11_method_42_code 53 = .ok (.iconst 0, 1) := by decide +kernel
theorem d_Model_isSpec_54 : decode prog_11_method_42_code 54 = .ok (.ireturn, 1) := by decide +kernel
theorem d_Model_isSpec_55 : decode prog_11_method_42_code 55 = .ok (.aload_n 0, 1) := by decide +kernel
theorem d_Model_isSpec_56 : decode prog_11_method_42_code 56 = .ok (.iload_n 3, 1) := by decide +kernel
theorem d_Model_isSpec_57 : decode prog_11_method_42_code 57 = .ok (.iconst 1, 1) := by decide +kernel
theorem d_Model_isSpec_58 : decode prog_11_method_42_code 58 = .ok (.iadd, 1) := by decide +kernel
theorem d_Model_isSpec_59 : decode prog_11_method_42_code 59 = .ok (.putfield 224, 3) := by decide +kernel
theorem d_Model_isSpec_62 : decode prog_11_method_42_code 62 = .ok (.aload_n 0, 1) := by decide +kernel
theorem d_Model_isSpec_63 : decode prog_11_method_42_code 63 = .ok (.aload_n 0, 1) := by decide +kernel
theorem d_Model_isSpec_64 : decode prog_11_method_42_code 64 = .ok (.getfield 224, 3) := by decide +kernel
theorem d_Model_isSpec_67 : decode prog_11_method_42_code 67 = .ok (.iload_n 2, 1) := by decide +kernel
theorem d_Model_isSpec_68 : decode prog_11_method_42_code 68 = .ok (.invokevirtual 197, 3) := by decide +kernel
theorem d_Model_isSpec_71 : decode prog_11_method_42_code 71 = .ok (.istore 4, 2) := by decide +kernel
theorem d_Model_isSpec_73 : decode prog_11_method_42_code 73 = .ok (.iload 4, 2) := by decide +kernel
theorem d_Model_isSpec_75 : decode prog_11_method_42_code 75 = .ok (.iload_n 2, 1) := by decide +kernel
theorem d_Model_isSpec_76 : decode prog_11_method_42_code 76 = .ok (.if_icmp .ge 33, 3) := by decide +kernel
theorem d_Model_isSpec_79 : decode prog_11_method_42_code 79 = .ok (.aload_n 0, 1) := by decide +kernel
theorem d_Model_isSpec_80 : decode prog_11_method_42_code 80 = .ok (.getfield 31, 3) := by decide +kernel
theorem d_Model_isSpec_83 : decode prog_11_method_42_code 83 = .ok (.iload 4, 2) := by decide +kernel
theorem d_Model_isSpec_85 : decode prog_11_method_42_code 85 = .ok (.iaload, 1) := by decide +kernel
theorem d_Model_isSpec_86 : decode prog_11_method_42_code 86 = .ok (.iconst 2, 1) := by decide +kernel
theorem d_Model_isSpec_87 : decode prog_11_method_42_code 87 = .ok (.if_icmp .ne 22, 3) := by decide +kernel
theorem d_Model_isSpec_90 : decode prog_11_method_42_code 90 = .ok (.aload_n 0, 1) := by decide +kernel
theorem d_Model_isSpec_91 : decode prog_11_method_42_code 91 = .ok (.iload 4, 2) := by decide +kernel
theorem d_Model_isSpec_93 : decode prog_11_method_42_code 93 = .ok (.iconst 1, 1) := by decide +kernel
theorem d_Model_isSpec_94 : decode prog_11_method_42_code 94 = .ok (.iadd, 1) := by decide +kernel
theorem d_Model_isSpec_95 : decode prog_11_method_42_code 95 = .ok (.iload_n 2, 1) := by decide +kernel
theorem d_Model_isSpec_96 : decode prog_11_method_42_code 96 = .ok (.invokevirtual 197, 3) := by decide +kernel
theorem d_Model_isSpec_99 : decode prog_11_method_42_code 99 = .ok (.iload_n 2, 1) := by decide +kernel
theorem d_Model_isSpec_100 : decode prog_11_method_42_code 100 = .ok (.if_icmp .ne 7, 3) := by decide +kernel
theorem d_Model_isSpec_103 : decode prog_11_method_42_code 103 = .ok (.iconst 1, 1) := by decide +kernel
theorem d_Model_isSpec_104 : decode prog_11_method_42_code 104 = .ok (.goto 4, 3) := by decide +kernel
theorem d_Model_isSpec_107 : decode prog_11_method_42_code 107 = .ok (.iconst 0, 1) := by decide +kernel
theorem d_Model_isSpec_108 : decode prog_11_method_42_code 108 = .ok (.ireturn, 1) := by decide +kernel
theorem d_Model_isSpec_109 : decode prog_11_method_42_code 109 = .ok (.aload_n 0, 1) := by decide +kernel
theorem d_Model_isSpec_110 : decode prog_11_method_42_code 110 = .ok (.aload_n 0, 1) := by decide +kernel
theorem d_Model_isSpec_111 : decode prog_11_method_42_code 111 = .ok (.getfield 224, 3) := by decide +kernel
theorem d_Model_isSpec_114 : decode prog_11_method_42_code 114 = .ok (.iload_n 2, 1) := by decide +kernel
theorem d_Model_isSpec_115 : decode prog_11_method_42_code 115 = .ok (.iconst 0, 1) := by decide +kernel
theorem d_Model_isSpec_116 : decode prog_11_method_42_code 116 = .ok (.invokevirtual 217, 3) := by decide +kernel
theorem d_Model_isSpec_119 : decode prog_11_method_42_code 119 = .ok (.istore 5, 2) := by decide +kernel
theorem d_Model_isSpec_121 : decode prog_11_method_42_code 121 = .ok (.iload 5, 2) := by decide +kernel
theorem d_Model_isSpec_123 : decode prog_11_method_42_code 123 = .ok (.aload_n 0, 1) := by decide +kernel
theorem d_Model_isSpec_124 : decode prog_11_method_42_code 124 = .ok (.getfield 224, 3) := by decide +kernel
theorem d_Model_isSpec_127 : decode prog_11_method_42_code 127 = .ok (.if_icmp .le 18, 3) := by decide +kernel
theorem d_Model_isSpec_130 : decode prog_11_method_42_code 130 = .ok (.aload_n 0, 1) := by decide +kernel
theorem d_Model_isSpec_131 : decode prog_11_method_42_code 131 = .ok (.iload 5, 2) := by decide +kernel
theorem d_Model_isSpec_133 : decode prog_11_method_42_code 133 = .ok (.iload_n 2, 1) := by decide +kernel
theorem d_Model_isSpec_134 : decode prog_11_method_42_code 134 = .ok (.invokevirtual 197, 3) := by decide +kernel
theorem d_Model_isSpec_137 : decode prog_11_method_42_code 137 = .ok (.iload_n 2, 1) := by decide +kernel
theorem d_Model_isSpec_138 : decode prog_11_method_42_code 138 = .ok (.if_icmp .ne 7, 3) := by decide +kernel
theorem d_Model_isSpec_141 : decode prog_11_method_42_code 141 = .ok (.iconst 1, 1) := by decide +kernel
theorem d_Model_isSpec_142 : decode prog_11_method_42_code 142 = .ok (.goto 4, 3) := by decide +kernel
theorem d_Model_isSpec_145 : decode prog_11_method_42_code 145 = .ok (.iconst 0, 1) := by decide +kernel
theorem d_Model_isSpec_146 : decode prog_11_method_42_code 146 = .ok (.ireturn, 1) := by decide +kernel
theorem d_Model_behindRoute_0 : decode prog_11_method_45_code 0 = .ok (.aload_n 0, 1) := by decide +kernel
theorem d_Model_behindRoute_1 : decode prog_11_method_45_code 1 = .ok (.iload_n 1, 1) := by decide +kernel
theorem d_Model_behindRoute_2 : decode prog_11_method_45_code 2 = .ok (.iload_n 2, 1) := by decide +kernel
theorem d_Model_behindRoute_3 : decode prog_11_method_45_code 3 = .ok (.invokevirtual 197, 3) := by decide +kernel
theorem d_Model_behindRoute_6 : decode prog_11_method_45_code 6 = .ok (.istore_n 3, 1) := by decide +kernel
theorem d_Model_behindRoute_7 : decode prog_11_method_45_code 7 = .ok (.iload_n 3, 1) := by decide +kernel
theorem d_Model_behindRoute_8 : decode prog_11_method_45_code 8 = .ok (.iload_n 2, 1) := by decide +kernel
theorem d_Model_behindRoute_9 : decode prog_11_method_45_code 9 = .ok (.if_icmp .ge 71, 3) := by decide +kernel
theorem d_Model_behindRoute_12 : decode prog_11_method_45_code 12 = .ok (.aload_n 0, 1) := by decide +kernel
theorem d_Model_behindRoute_13 : decode prog_11_method_45_code 13 = .ok (.iload_n 3, 1) := by decide +kernel
theorem d_Model_behindRoute_14 : decode prog_11_method_45_code 14 = .ok (.bipush 58, 2) := by decide +kernel
theorem d_Model_behindRoute_16 : decode prog_11_method_45_code 16 = .ok (.invokevirtual 200, 3) := by decide +kernel
theorem d_Model_behindRoute_19 : decode prog_11_method_45_code 19 = .ok (.ifCond .eq 7, 3) := by decide +kernel
theorem d_Model_behindRoute_22 : decode prog_11_method_45_code 22 = .ok (.iload_n 3, 1) := by decide +kernel
theorem d_Model_behindRoute_23 : decode prog_11_method_45_code 23 = .ok (.iconst 1, 1) := by decide +kernel
theorem d_Model_behindRoute_24 : decode prog_11_method_45_code 24 = .ok (.iadd, 1) := by decide +kernel
theorem d_Model_behindRoute_25 : decode prog_11_method_45_code 25 = .ok (.ireturn, 1) := by decide +kernel
theorem d_Model_behindRoute_26 : decode prog_11_method_45_code 26 = .ok (.aload_n 0, 1) := by decide +kernel
theorem d_Model_behindRoute_27 : decode prog_11_method_45_code 27 = .ok (.getfield 31, 3) := by decide +kernel
theorem d_Model_behindRoute_30 : decode prog_11_method_45_code 30 = .ok (.iload_n 3, 1) := by decide +kernel
theorem d_Model_behindRoute_31 : decode prog_11_method_45_code 31 = .ok (.iaload, 1) := by decide +kernel
theorem d_Model_behindRoute_32 : decode prog_11_method_45_code 32 = .ok (.iconst 4, 1) := by decide +kernel
theorem d_Model_behindRoute_33 : decode prog_11_method_45_code 33 = .ok (.if_icmp .eq 35, 3) := by decide +kernel
theorem d_Model_behindRoute_36 : decode prog_11_method_45_code 36 = .ok (.aload_n 0, 1) := by decide +kernel
theorem d_Model_behindRoute_37 : decode prog_11_method_45_code 37 = .ok (.iload_n 3, 1) := by decide +kernel
theorem d_Model_behindRoute_38 : decode prog_11_method_45_code 38 = .ok (.bipush 64, 2) := by decide +kernel
theorem d_Model_behindRoute_40 : decode prog_11_method_45_code 40 = .ok (.invokevirtual 200, 3) := by decide +kernel
theorem d_Model_behindRoute_43 : decode prog_11_method_45_code 43 = .ok (.ifCond .ne 25, 3) := by decide +kernel
theorem d_Model_behindRoute_46 : decode prog_11_method_45_code 46 = .ok (.aload_n 0, 1) := by decide +kernel
theorem d_Model_behindRoute_47 : decode prog_11_method_45_code 47 = .ok (.iload_n 3, 1) := by decide +kernel
theorem d_Model_behindRoute_48 : decode prog_11_method_45_code 48 = .ok (.bipush 44, 2) := by decide +kernel
theorem d_Model_behindRoute_50 : decode prog_11_method_45_code 50 = .ok (.invokevirtual 200, 3) := by decide +kernel
theorem d_Model_behindRoute_53 : decode prog_11_method_45_code 53 = .ok (.ifCond .ne 15, 3) := by decide +kernel
theorem d_Model_behindRoute_56 : decode prog_11_method_45_code 56 = .ok (.aload_n 0, 1) := by decide +kernel
theorem d_Model_behindRoute_57 : decode prog_11_method_45_code 57 = .ok (.iload_n 3, 1) := by decide +kernel
theorem d_Model_behindRoute_58 : decode prog_11_method_45_code 58 = .ok (.bipush 46, 2) := by decide +kernel
theorem d_Model_behindRoute_60 : decode prog_11_method_45_code 60 = .ok (.invokevirtual 200, 3) := by decide +kernel
theorem d_Model_behindRoute_63 : decode prog_11_method_45_code 63 = .ok (.ifCond .ne 5, 3) := by decide +kernel
theorem d_Model_behindRoute_66 : decode prog_11_method_45_code 66 = .ok (.iload_n 1, 1) := by decide +kernel
theorem d_Model_behindRoute_67 : decode prog_11_method_45_code 67 = .ok (.ireturn, 1) := by decide +kernel
theorem d_Model_behindRoute_68 : decode prog_11_method_45_code 68 = .ok (.aload_n 0, 1) := by decide +kernel
theorem d_Model_behindRoute_69 : decode prog_11_method_45_code 69 = .ok (.iload_n 3, 1) := by decide +kernel
theorem d_Model_behindRoute_70 : decode prog_11_method_45_code 70 = .ok (.iconst 1, 1) := by decide +kernel
theorem d_Model_behindRoute_71 : decode prog_11_method_45_code 71 = .ok (.iadd, 1) := by decide +kernel
theorem d_Model_behindRoute_72 : decode prog_11_method_45_code 72 = .ok (.iload_n 2, 1) := by decide +kernel
theorem d_Model_behindRoute_73 : decode prog_11_method_45_code 73 = .ok (.invokevirtual 197, 3) := by decide +kernel
theorem d_Model_behindRoute_76 : decode prog_11_method_45_code 76 = .ok (.istore_n 3, 1) := by decide +kernel
theorem d_Model_behindRoute_77 : decode prog_11_method_45_code 77 = .ok (.goto (-70), 3) := by decide +kernel
theorem d_Model_behindRoute_80 : decode prog_11_method_45_code 80 = .ok (.iload_n 1, 1) := by decide +kernel
theorem d_Model_behindRoute_81 : decode prog_11_method_45_code 81 = .ok (.ireturn, 1) := by decide +kernel
theorem d_Model_makeWords_0 : decode prog_11_method_43_code 0 = .ok (.aload_n 0, 1) := by decide +kernel
theorem d_Model_makeWords_1 : decode prog_11_method_43_code 1 = .ok (.iload_n 1, 1) := by decide +kernel
theorem d_Model_makeWords_2 : decode prog_11_method_43_code 2 = .ok (.invokevirtual 204, 3) := by decide +kernel
theorem d_Model_makeWords_5 : decode prog_11_method_43_code 5 = .ok (.aload_n 0, 1) := by decide +kernel
theorem d_Model_makeWords_6 : decode prog_11_method_43_code 6 = .ok (.iload_n 2, 1) := by decide +kernel
theorem d_Model_makeWords_7 : decode prog_11_method_43_code 7 = .ok (.iload_n 3, 1) := by decide +kernel
theorem d_Model_makeWords_8 : decode prog_11_method_43_code 8 = .ok (.invokevirtual 197, 3) := by decide +kernel
theorem d_Model_makeWords_11 : decode prog_11_method_43_code 11 = .ok (.istore 4, 2) := by decide +kernel
theorem d_Model_makeWords_13 : decode prog_11_method_43_code 13 = .ok (.iload 4, 2) := by decide +kernel
theorem d_Model_makeWords_15 : decode prog_11_method_43_code 15 = .ok (.iload_n 3, 1) := by decide +kernel
theorem d_Model_makeWords_16 : decode prog_11_method_43_code 16 = .ok (.if_icmp .ge 60, 3) := by decide +kernel
theorem d_Model_makeWords_19 : decode prog_11_method_43_code 19 = .ok (.aload_n 0, 1) := by decide +kernel
theorem d_Model_makeWords_20 : decode prog_11_method_43_code 20 = .ok (.getfield 31, 3) := by decide +kernel
theorem d_Model_makeWords_23 : decode prog_11_method_43_code 23 = .ok (.iload 4, 2) := by decide +kernel
theorem d_Model_makeWords_25 : decode prog_11_method_43_code 25 = .ok (.iaload, 1) := by decide +kernel
theorem d_Model_makeWords_26 : decode prog_11_method_43_code 26 = .ok (.iconst 2, 1) := by decide +kernel
theorem d_Model_makeWords_27 : decode prog_11_method_43_code 27 = .ok (.if_icmp .ne 10, 3) := by decide +kernel
theorem d_Model_makeWords_30 : decode prog_11_method_43_code 30 = .ok (.aload_n 0, 1) := by decide +kernel
theorem d_Model_makeWords_31 : decode prog_11_method_43_code 31 = .ok (.iload_n 1, 1) := by decide +kernel
theorem d_Model_makeWords_32 : decode prog_11_method_43_code 32 = .ok (.bipush 91, 2) := by decide +kernel
theorem d_Model_makeWords_34 : decode prog_11_method_43_code 34 = .ok (.invokevirtual 191, 3) := by decide +kernel
theorem d_Model_makeWords_37 : decode prog_11_method_43_code 37 = .ok (.aload_n 0, 1) := by decide +kernel
theorem d_Model_makeWords_38 : decode prog_11_method_43_code 38 = .ok (.iload_n 1, 1) := by decide +kernel
theorem d_Model_makeWords_39 : decode prog_11_method_43_code 39 = .ok (.iload 4, 2) := by decide +kernel
theorem d_Model_makeWords_41 : decode prog_11_method_43_code 41 = .ok (.invokevirtual 207, 3) := by decide +kernel
theorem d_Model_makeWords_44 : decode prog_11_method_43_code 44 = .ok (.aload_n 0, 1) := by decide +kernel
theorem d_Model_makeWords_45 : decode prog_11_method_43_code 45 = .ok (.getfield 31, 3) := by decide +kernel
theorem d_Model_makeWords_48 : decode prog_11_method_43_code 48 = .ok (.iload 4, 2) := by decide +kernel
theorem d_Model_makeWords_50 : decode prog_11_method_43_code 50 = .ok (.iaload, 1) := by decide +kernel
theorem d_Model_makeWords_51 : decode prog_11_method_43_code 51 = .ok (.iconst 2, 1) := by decide +kernel
theorem d_Model_makeWords_52 : decode prog_11_method_43_code 52 = .ok (.if_icmp .ne 10, 3) := by decide +kernel
theorem d_Model_makeWords_55 : decode prog_11_method_43_code 55 = .ok (.aload_n 0, 1) := by decide +kernel
theorem d_Model_makeWords_56 : decode prog_11_method_43_code 56 = .ok (.iload_n 1, 1) := by decide +kernel
theorem d_Model_makeWords_57 : decode prog_11_method_43_code 57 = .ok (.bipush 93, 2) := by decide +kernel
theorem d_Model_makeWords_59 : decode prog_11_method_43_code 59 = .ok (.invokevirtual 191, 3) := by decide +kernel
theorem d_Model_makeWords_62 : decode prog_11_method_43_code 62 = .ok (.aload_n 0, 1) := by decide +kernel
theorem d_Model_makeWords_63 : decode prog_11_method_43_code 63 = .ok (.iload 4, 2) := by decide +kernel
theorem d_Model_makeWords_65 : decode prog_11_method_43_code 65 = .ok (.iconst 1, 1) := by decide +kernel
theorem d_Model_makeWords_66 : decode prog_11_method_43_code 66 = .ok (.iadd, 1) := by decide +kernel
theorem d_Model_makeWords_67 : decode prog_11_method_43_code 67 = .ok (.iload_n 3, 1) := by decide +kernel
theorem d_Model_makeWords_68 : decode prog_11_method_43_code 68 = .ok (.invokevirtual 197, 3) := by decide +kernel
theorem d_Model_makeWords_71 : decode prog_11_method_43_code 71 = .ok (.istore 4, 2) := by decide +kernel
theorem d_Model_makeWords_73 : decode prog_11_method_43_code 73 = .ok (.goto (-60), 3) := by decide +kernel
theorem d_Model_makeWords_76 : decode prog_11_method_43_code 76 = .ok (.aload_n 0, 1) := by decide +kernel
theorem d_Model_makeWords_77 : decode prog_11_method_43_code 77 = .ok (.iload_n 1, 1) := by decide +kernel
theorem d_Model_makeWords_78 : decode prog_11_method_43_code 78 = .ok (.invokevirtual 210, 3) := by decide +kernel
theorem d_Model_makeWords_81 : decode prog_11_method_43_code 81 = .ok (.return_, 1) := by decide +kernel
theorem d_Model_makeComment_0 : decode prog_11_method_44_code 0 = .ok (.iconst (-1), 1) := by decide +kernel
theorem d_Model_makeComment_1 : decode prog_11_method_44_code 1 = .ok (.istore_n 3, 1) := by decide +kernel
theorem d_Model_makeComment_2 : decode prog_11_method_44_code 2 = .ok (.aload_n 0, 1) := by decide +kernel
theorem d_Model_makeComment_3 : decode prog_11_method_44_code 3 = .ok (.iload_n 1, 1) := by decide +kernel
theorem d_Model_makeComment_4 : decode prog_11_method_44_code 4 = .ok (.iload_n 2, 1) := by decide +kernel
theorem d_Model_makeComment_5 : decode prog_11_method_44_code 5 = .ok (.invokevirtual 197, 3) := by decide +kernel
theorem d_Model_makeComment_8 : decode prog_11_method_44_code 8 = .ok (.iconst 1, 1) := by decide +kernel
theorem d_Model_makeComment_9 : decode prog_11_method_44_code 9 = .ok (.iadd, 1) := by decide +kernel
theorem d_Model_makeComment_10 : decode prog_11_method_44_code 10 = .ok (.istore 4, 2) := by decide +kernel
theorem d_Model_makeComment_12 : decode prog_11_method_44_code 12 = .ok (.iload 4, 2) := by decide +kernel
theorem d_Model_makeComment_14 : decode prog_11_method_44_code 14 = .ok (.iload_n 2, 1) := by decide +kernel
theorem d_Model_makeComment_15 : decode prog_11_method_44_code 15 = .ok (.if_icmp .ge 22, 3) := by decide +kernel
theorem d_Model_makeComment_18 : decode prog_11_method_44_code 18 = .ok (.aload_n 0, 1) := by decide +kernel
theorem d_Model_makeComment_19 : decode prog_11_method_44_code 19 = .ok (.getfield 31, 3) := by decide +kernel
theorem d_Model_makeComment_22 : decode prog_11_method_44_code 22 = .ok (.iload 4, 2) := by decide +kernel
theorem d_Model_makeComment_24 : decode prog_11_method_44_code 24 = .ok (.iaload, 1) := by decide +kernel
theorem d_Model_makeComment_25 : decode prog_11_method_44_code 25 = .ok (.ifCond .ne 6, 3) := by decide +kernel
theorem d_Model_makeComment_28 : decode prog_11_method_44_code 28 = .ok (.iload 4, 2) := by decide +kernel
theorem d_Model_makeComment_30 : decode prog_11_method_44_code 30 = .ok (.istore_n 3, 1) := by decide +kernel
theorem d_Model_makeComment_31 : decode prog_11_method_44_code 31 = .ok (.iinc 4 1, 3) := by decide +kernel
theorem d_Model_makeComment_34 : decode prog_11_method_44_code 34 = .ok (.goto (-22), 3) := by decide +kernel
theorem d_Model_makeComment_37 : decode prog_11_method_44_code 37 = .ok (.aload_n 0, 1) := by decide +kernel
theorem d_Model_makeComment_38 : decode prog_11_method_44_code 38 = .ok (.iconst 0, 1) := by decide +kernel
theorem d_Model_makeComment_39 : decode prog_11_method_44_code 39 = .ok (.invokevirtual 204, 3) := by decide +kernel
theorem d_Model_makeComment_42 : decode prog_11_method_44_code 42 = .ok (.iload_n 3, 1) := by decide +kernel
theorem d_Model_makeComment_43 : decode prog_11_method_44_code 43 = .ok (.iconst (-1), 1) := by decide +kernel
theorem d_Model_makeComment_44 : decode prog_11_method_44_code 44 = .ok (.if_icmp .eq 9, 3) := by decide +kernel
theorem d_Model_makeComment_47 : decode prog_11_method_44_code 47 = .ok (.aload_n 0, 1) := by decide +kernel
theorem d_Model_makeComment_48 : decode prog_11_method_44_code 48 = .ok (.iconst 0, 1) := by decide +kernel
theorem d_Model_makeComment_49 : decode prog_11_method_44_code 49 = .ok (.iload_n 3, 1) := by decide +kernel
theorem d_Model_makeComment_50 : decode prog_11_method_44_code 50 = .ok (.invokevirtual 207, 3) := by decide +kernel
theorem d_Model_makeComment_53 : decode prog_11_method_44_code 53 = .ok (.aload_n 0, 1) := by decide +kernel
theorem d_Model_makeComment_54 : decode prog_11_method_44_code 54 = .ok (.iconst 0, 1) := by decide +kernel
theorem d_Model_makeComment_55 : decode prog_11_method_44_code 55 = .ok (.invokevirtual 210, 3) := by decide +kernel
theorem d_Model_makeComment_58 : decode prog_11_method_44_code 58 = .ok (.return_, 1) := by decide +kernel
theorem d_Model_takeMailbox_0 : decode prog_11_method_46_code 0 = .ok (.aload_n 0, 1) := by decide +kernel
theorem d_Model_takeMailbox_1 : decode prog_11_method_46_code 1 = .ok (.iload_n 1, 1) := by decide +kernel
theorem d_Model_takeMailbox_2 : decode prog_11_method_46_code 2 = .ok (.iload_n 2, 1) := by decide +kernel
theorem d_Model_takeMailbox_3 : decode prog_11_method_46_code 3 = .ok (.invokevirtual 197, 3) := by decide +kernel
theorem d_Model_takeMailbox_6 : decode prog_11_method_46_code 6 = .ok (.iload_n 2, 1) := by decide +kernel
theorem d_Model_takeMailbox_7 : decode prog_11_method_46_code 7 = .ok (.if_icmp .ne 4, 3) := by decide +kernel
theorem d_Model_takeMailbox_10 : decode prog_11_method_46_code 10 = .ok (.return_, 1) := by decide +kernel
theorem d_Model_takeMailbox_11 : decode prog_11_method_46_code 11 = .ok (.iload_n 1, 1) := by decide +kernel
theorem d_Model_takeMailbox_12 : decode prog_11_method_46_code 12 = .ok (.istore 5, 2) := by decide +kernel
theorem d_Model_takeMailbox_14 : decode prog_11_method_46_code 14 = .ok (.iload 5, 2) := by decide +kernel
theorem d_Model_takeMailbox_16 : decode prog_11_method_46_code 16 = .ok (.iload_n 2, 1) := by decide +kernel
theorem d_Model_takeMailbox_17 : decode prog_11_method_46_code 17 = .ok (.if_icmp .ge 20, 3) := by decide +kernel
theorem d_Model_takeMailbox_20 : decode prog_11_method_46_code 20 = .ok (.aload_n 0, 1) := by decide +kernel
theorem d_Model_takeMailbox_21 : decode prog_11_method_46_code 21 = .ok (.iload 5, 2) := by decide +kernel
theorem d_Model_takeMailbox_23 : decode prog_11_method_46_code 23 = .ok (.bipush 60, 2) := by decide +kernel
theorem d_Model_takeMailbox_25 : decode prog_11_method_46_code 25 = .ok (.invokevirtual 200, 3) := by decide +kernel
theorem d_Model_takeMailbox_28 : decode prog_11_method_46_code 28 = .ok (.ifCond .ne 9, 3) := by decide +kernel
theorem d_Model_takeMailbox_31 : decode prog_11_method_46_code 31 = .ok (.iinc 5 1, 3) := by decide +kernel
theorem d_Model_takeMailbox_34 : decode prog_11_method_46_code 34 = .ok (.goto (-20), 3) := by decide +kernel
theorem d_Model_takeMailbox_37 : decode prog_11_method_46_code 37 = .ok (.iload_n 3, 1) := by decide +kernel
theorem d_Model_takeMailbox_38 : decode prog_11_method_46_code 38 = .ok (.ifCond .eq 14, 3) := by decide +kernel
theorem d_Model_takeMailbox_41 : decode prog_11_method_46_code 41 = .ok (.aload_n 0, 1) := by decide +kernel
theorem d_Model_takeMailbox_42 : decode prog_11_method_46_code 42 = .ok (.dup, 1) := by decide +kernel
theorem d_Model_takeMailbox_43 : decode prog_11_method_46_code 43 = .ok (.getfield 227, 3) := by decide +kernel
theorem d_Model_takeMailbox_46 : decode prog_11_method_46_code 46 = .ok (.iconst 1, 1) := by decide +kernel
theorem d_Model_takeMailbox_47 : decode prog_11_method_46_code 47 = .ok (.iadd, 1) := by decide +kernel
theorem d_Model_takeMailbox_48 : decode prog_11_method_46_code 48 = .ok (.putfield 227, 3) := by decide +kernel
theorem d_Model_takeMailbox_51 : decode prog_11_method_46_code 51 = .ok (.return_, 1) := by decide +kernel
theorem d_Model_takeMailbox_52 : decode prog_11_method_46_code 52 = .ok (.iload_n 1, 1) := by decide +kernel
theorem d_Model_takeMailbox_53 : decode prog_11_method_46_code 53 = .ok (.istore 6, 2) := by decide +kernel
theorem d_Model_takeMailbox_55 : decode prog_11_method_46_code 55 = .ok (.iload_n 2, 1) := by decide +kernel
theorem d_Model_takeMailbox_56 : decode prog_11_method_46_code 56 = .ok (.istore 7, 2) := by decide +kernel
theorem d_Model_takeMailbox_58 : decode prog_11_method_46_code 58 = .ok (.iconst 1, 1) := by decide +kernel
theorem d_Model_takeMailbox_59 : decode prog_11_method_46_code 59 = .ok (.istore 8, 2) := by decide +kernel
theorem d_Model_takeMailbox_61 : decode prog_11_method_46_code 61 = .ok (.iload 5, 2) := by decide +kernel
theorem d_Model_takeMailbox_63 : decode prog_11_method_46_code 63 = .ok (.iload_n 2, 1) := by decide +kernel
theorem d_Model_takeMailbox_64 : decode prog_11_method_46_code 64 = .ok (.if_icmp .ge 82, 3) := by decide +kernel
theorem d_Model_takeMailbox_67 : decode prog_11_method_46_code 67 = .ok (.iload 5, 2) := by decide +kernel
theorem d_Model_takeMailbox_69 : decode prog_11_method_46_code 69 = .ok (.istore 9, 2) := by decide +kernel
theorem d_Model_takeMailbox_71 : decode prog_11_method_46_code 71 = .ok (.aload_n 0, 1) := by decide +kernel
theorem d_Model_takeMailbox_72 : decode prog_11_method_46_code 72 = .ok (.iload 9, 2) := by decide +kernel
theorem d_Model_takeMailbox_74 : decode prog_11_method_46_code 74 = .ok (.bipush 62, 2) := by decide +kernel
theorem d_Model_takeMailbox_76 : decode prog_11_method_46_code 76 = .ok (.invokevirtual 200, 3) := by decide +kernel
theorem d_Model_takeMailbox_79 : decode prog_11_method_46_code 79 = .ok (.ifCond .ne 9, 3) := by decide +kernel
theorem d_Model_takeMailbox_82 : decode prog_11_method_46_code 82 = .ok (.iinc 9 1, 3) := by decide +kernel
theorem d_Model_takeMailbox_85 : decode prog_11_method_46_code 85 = .ok (.goto (-14), 3) := by decide +kernel
theorem d_Model_takeMailbox_88 : decode prog_11_method_46_code 88 = .ok (.aload_n 0, 1) := by decide +kernel
theorem d_Model_takeMailbox_89 : decode prog_11_method_46_code 89 = .ok (.iload 5, 2) := by decide +kernel
theorem d_Model_takeMailbox_91 : decode prog_11_method_46_code 91 = .ok (.iconst 1, 1) := by decide +kernel
theorem d_Model_takeMailbox_92 : decode prog_11_method_46_code 92 = .ok (.iadd, 1) := by decide +kernel
theorem d_Model_takeMailbox_93 : decode prog_11_method_46_code 93 = .ok (.iload 9, 2) := by decide +kernel
theorem d_Model_takeMailbox_95 : decode prog_11_method_46_code 95 = .ok (.invokevirtual 230, 3) := by decide +kernel
theorem d_Model_takeMailbox_98 : decode prog_11_method_46_code 98 = .ok (.istore 6, 2) := by decide +kernel
theorem d_Model_takeMailbox_100 : decode prog_11_method_46_code 100 = .ok (.iload 9, 2) := by decide +kernel
theorem d_Model_takeMailbox_102 : decode prog_11_method_46_code 102 = .ok (.istore 7, 2) := by decide +kernel
theorem d_Model_takeMailbox_104 : decode prog_11_method_46_code 104 = .ok (.aload_n 0, 1) := by decide +kernel
theorem d_Model_takeMailbox_105 : decode prog_11_method_46_code 105 = .ok (.iload 9, 2) := by decide +kernel
theorem d_Model_takeMailbox_107 : decode prog_11_method_46_code 107 = .ok (.iconst 1, 1) := by decide +kernel
theorem d_Model_takeMailbox_108 : decode prog_11_method_46_code 108 = .ok (.iadd, 1) := by decide +kernel
theorem d_Model_takeMailbox_109 : decode prog_11_method_46_code 109 = .ok (.iload_n 2, 1) := by decide +kernel
theorem d_Model_takeMailbox_110 : decode prog_11_method_46_code 110 = .ok (.invokevirtual 197, 3) := by decide +kernel
theorem d_Model_takeMailbox_113 : decode prog_11_method_46_code 113 = .ok (.iload_n 2, 1) := by decide +kernel
theorem d_Model_takeMailbox_114 : decode prog_11_method_46_code 114 = .ok (.if_icmp .ne 29, 3) := by decide +kernel
theorem d_Model_takeMailbox_117 : decode prog_11_method_46_code 117 = .ok (.aload_n 0, 1) := by decide +kernel
theorem d_Model_takeMailbox_118 : decode prog_11_method_46_code 118 = .ok (.iload_n 1, 1) := by decide +kernel
theorem d_Model_takeMailbox_119 : decode prog_11_method_46_code 119 = .ok (.iload 5, 2) := by decide +kernel
theorem d_Model_takeMailbox_121 : decode prog_11_method_46_code 121 = .ok (.invokevirtual 197, 3) := by decide +kernel
theorem d_Model_takeMailbox_124 : decode prog_11_method_46_code 124 = .ok (.iload 5, 2) := by decide +kernel
theorem d_Model_takeMailbox_126 : decode prog_11_method_46_code 126 = .ok (.if_icmp .eq 13, 3) := by decide +kernel
theorem d_Model_takeMailbox_129 : decode prog_11_method_46_code 129 = .ok (.aload_n 0, 1) := by decide +kernel
theorem d_Model_takeMailbox_130 : decode prog_11_method_46_code 130 = .ok (.iload_n 1, 1) := by decide +kernel
theorem d_Model_takeMailbox_131 : decode prog_11_method_46_code 131 = .ok (.iload 5, 2) := by decide +kernel
theorem d_Model_takeMailbox_133 : decode prog_11_method_46_code 133 = .ok (.invokevirtual 233, 3) := by decide +kernel
theorem d_Model_takeMailbox_136 : decode prog_11_method_46_code 136 = .ok (.ifCond .eq 7, 3) := by decide +kernel
theorem d_Model_takeMailbox_139 : decode prog_11_method_46_code 139 = .ok (.iconst 1, 1) := by decide +kernel
theorem d_Model_takeMailbox_140 : decode prog_11_method_46_code 140 = .ok (.goto 4, 3) := by decide +kernel
theorem d_Model_takeMailbox_143 : decode prog_11_method_46_code 143 = .ok (.iconst 0, 1) := by decide +kernel
theorem d_Model_takeMailbox_144 : decode prog_11_method_46_code 144 = .ok (.istore 8, 2) := by decide +kernel
theorem d_Model_takeMailbox_146 : decode prog_11_method_46_code 146 = .ok (.iload 8, 2) := by decide +kernel
theorem d_Model_takeMailbox_148 : decode prog_11_method_46_code 148 = .ok (.ifCond .eq 14, 3) := by decide +kernel
theorem d_Model_takeMailbox_151 : decode prog_11_method_46_code 151 = .ok (.aload_n 0, 1) := by decide +kernel
theorem d_Model_takeMailbox_152 : decode prog_11_method_46_code 152 = .ok (.iload 6, 2) := by decide +kernel
theorem d_Model_takeMailbox_154 : decode prog_11_method_46_code 154 = .ok (.iload 7, 2) := by decide +kernel
theorem d_Model_takeMailbox_156 : decode prog_11_method_46_code 156 = .ok (.invokevirtual 236, 3) := by decide +kernel
theorem d_Model_takeMailbox_159 : decode prog_11_method_46_code 159 = .ok (.ifCond .ne 14, 3) := by decide +kernel
theorem d_Model_takeMailbox_162 : decode prog_11_method_46_code 162 = .ok (.aload_n 0, 1) := by decide +kernel
theorem d_Model_takeMailbox_163 : decode prog_11_method_46_code 163 = .ok (.dup, 1) := by decide +kernel
theorem d_Model_takeMailbox_164 : decode prog_11_method_46_code 164 = .ok (.getfield 227, 3) := by decide +kernel
theorem d_Model_takeMailbox_167 : decode prog_11_method_46_code 167 = .ok (.iconst 1, 1) := by decide +kernel
theorem d_Model_takeMailbox_168 : decode prog_11_method_46_code 168 = .ok (.iadd, 1) := by decide +kernel
theorem d_Model_takeMailbox_169 : decode prog_11_method_46_code 169 = .ok (.putfield 227, 3) := by decide +kernel
theorem d_Model_takeMailbox_172 : decode prog_11_method_46_code 172 = .ok (.return_, 1) := by decide +kernel
theorem d_Model_takeMailbox_173 : decode prog_11_method_46_code 173 = .ok (.aload_n 0, 1) := by decide +kernel
theorem d_Model_takeMailbox_174 : decode prog_11_method_46_code 174 = .ok (.getfield 221, 3) := by decide +kernel
theorem d_Model_takeMailbox_177 : decode prog_11_method_46_code 177 = .ok (.istore 9, 2) := by decide +kernel
theorem d_Model_takeMailbox_179 : decode prog_11_method_46_code 179 = .ok (.aload_n 0, 1) := by decide +kernel
theorem d_Model_takeMailbox_180 : decode prog_11_method_46_code 180 = .ok (.getfield 224, 3) := by decide +kernel
theorem d_Model_takeMailbox_183 : decode prog_11_method_46_code 183 = .ok (.istore 10, 2) := by decide +kernel
theorem d_Model_takeMailbox_185 : decode prog_11_method_46_code 185 = .ok (.iload 5, 2) := by decide +kernel
theorem d_Model_takeMailbox_187 : decode prog_11_method_46_code 187 = .ok (.iload_n 2, 1) := by decide +kernel
theorem d_Model_takeMailbox_188 : decode prog_11_method_46_code 188 = .ok (.if_icmp .ge 26, 3) := by decide +kernel
theorem d_Model_takeMailbox_191 : decode prog_11_method_46_code 191 = .ok (.aload_n 0, 1) := by decide +kernel
theorem d_Model_takeMailbox_192 : decode prog_11_method_46_code 192 = .ok (.iload_n 1, 1) := by decide +kernel
theorem d_Model_takeMailbox_193 : decode prog_11_method_46_code 193 = .ok (.iload 5, 2) := by decide +kernel
theorem d_Model_takeMailbox_195 : decode prog_11_method_46_code 195 = .ok (.invokevirtual 197, 3) := by decide +kernel
theorem d_Model_takeMailbox_198 : decode prog_11_method_46_code 198 = .ok (.iload 5, 2) := by decide +kernel
theorem d_Model_takeMailbox_200 : decode prog_11_method_46_code 200 = .ok (.if_icmp .ge 14, 3) := by decide +kernel
theorem d_Model_takeMailbox_203 : decode prog_11_method_46_code 203 = .ok (.aload_n 0, 1) := by decide +kernel
theorem d_Model_takeMailbox_204 : decode prog_11_method_46_code 204 = .ok (.iconst 0, 1) := by decide +kernel
theorem d_Model_takeMailbox_205 : decode prog_11_method_46_code 205 = .ok (.iload_n 1, 1) := by decide +kernel
theorem d_Model_takeMailbox_206 : decode prog_11_method_46_code 206 = .ok (.iload 5, 2) := by decide +kernel
theorem d_Model_takeMailbox_208 : decode prog_11_method_46_code 208 = .ok (.invokevirtual 239, 3) := by decide +kernel
theorem d_Model_takeMailbox_211 : decode prog_11_method_46_code 211 = .ok (.goto 9, 3) := by decide +kernel
theorem d_Model_takeMailbox_214 : decode prog_11_method_46_code 214 = .ok (.aload_n 0, 1) := by decide +kernel
theorem d_Model_takeMailbox_215 : decode prog_11_method_46_code 215 = .ok (.iload_n 1, 1) := by decide +kernel
theorem d_Model_takeMailbox_216 : decode prog_11_method_46_code 216 = .ok (.iload_n 2, 1) := by decide +kernel
theorem d_Model_takeMailbox_217 : decode prog_11_method_46_code 217 = .ok (.invokevirtual 242, 3) := by decide +kernel
theorem d_Model_takeMailbox_220 : decode prog_11_method_46_code 220 = .ok (.aload_n 0, 1) := by decide +kernel
theorem d_Model_takeMailbox_221 : decode prog_11_method_46_code 221 = .ok (.getfield 61, 3) := by decide +kernel
theorem d_Model_takeMailbox_224 : decode prog_11_method_46_code 224 = .ok (.aload_n 0, 1) := by decide +kernel
theorem d_Model_takeMailbox_225 : decode prog_11_method_46_code 225 = .ok (.getfield 52, 3) := by decide +kernel
theorem d_Model_takeMailbox_228 : decode prog_11_method_46_code 228 = .ok (.iconst 1, 1) := by decide +kernel
theorem d_Model_takeMailbox_229 : decode prog_11_method_46_code 229 = .ok (.iaload, 1) := by decide +kernel
theorem d_Model_takeMailbox_230 : decode prog_11_method_46_code 230 = .ok (.iload 4, 2) := by decide +kernel
theorem d_Model_takeMailbox_232 : decode prog_11_method_46_code 232 = .ok (.iastore, 1) := by decide +kernel
theorem d_Model_takeMailbox_233 : decode prog_11_method_46_code 233 = .ok (.aload_n 0, 1) := by decide +kernel
theorem d_Model_takeMailbox_234 : decode prog_11_method_46_code 234 = .ok (.iconst 1, 1) := by decide +kernel
theorem d_Model_takeMailbox_235 : decode prog_11_method_46_code 235 = .ok (.iload 6, 2) := by decide +kernel
theorem d_Model_takeMailbox_237 : decode prog_11_method_46_code 237 = .ok (.iload 9, 2) := by decide +kernel
theorem d_Model_takeMailbox_239 : decode prog_11_method_46_code 239 = .ok (.invokevirtual 245, 3) := by decide +kernel
theorem d_Model_takeMailbox_242 : decode prog_11_method_46_code 242 = .ok (.aload_n 0, 1) := by decide +kernel
theorem d_Model_takeMailbox_243 : decode prog_11_method_46_code 243 = .ok (.iconst 2, 1) := by decide +kernel
theorem d_Model_takeMailbox_244 : decode prog_11_method_46_code 244 = .ok (.iload 10, 2) := by decide +kernel
theorem d_Model_takeMailbox_246 : decode prog_11_method_46_code 246 = .ok (.iload 7, 2) := by decide +kernel
theorem d_Model_takeMailbox_248 : decode prog_11_method_46_code 248 = .ok (.invokevirtual 245, 3) := by decide +kernel
theorem d_Model_takeMailbox_251 : decode prog_11_method_46_code 251 = .ok (.return_, 1) := by decide +kernel
theorem d_Model_addresses_0 : decode prog_11_method_48_code 0 = .ok (.aload_n 0, 1) := by decide +kernel
theorem d_Model_addresses_1 : decode prog_11_method_48_code 1 = .ok (.aload_n 0, 1) := by decide +kernel
theorem d_Model_addresses_2 : decode prog_11_method_48_code 2 = .ok (.iload_n 1, 1) := by decide +kernel
theorem d_Model_addresses_3 : decode prog_11_method_48_code 3 = .ok (.invokevirtual 137, 3) := by decide +kernel
theorem d_Model_addresses_6 : decode prog_11_method_48_code 6 = .ok (.ifCond .eq 7, 3) := by decide +kernel
theorem d_Model_addresses_9 : decode prog_11_method_48_code 9 = .ok (.iconst 0, 1) := by decide +kernel
theorem d_Model_addresses_10 : decode prog_11_method_48_code 10 = .ok (.goto 4, 3) := by decide +kernel
theorem d_Model_addresses_13 : decode prog_11_method_48_code 13 = .ok (.iconst 1, 1) := by decide +kernel
theorem d_Model_addresses_14 : decode prog_11_method_48_code 14 = .ok (.putfield 99, 3) := by decide +kernel
theorem d_Model_addresses_17 : decode prog_11_method_48_code 17 = .ok (.aload_n 0, 1) := by decide +kernel
theorem d_Model_addresses_18 : decode prog_11_method_48_code 18 = .ok (.getfield 99, 3) := by decide +kernel
theorem d_Model_addresses_21 : decode prog_11_method_48_code 21 = .ok (.ifCond .eq 5, 3) := by decide +kernel
theorem d_Model_addresses_24 : decode prog_11_method_48_code 24 = .ok (.iconst 0, 1) := by decide +kernel
theorem d_Model_addresses_25 : decode prog_11_method_48_code 25 = .ok (.ireturn, 1) := by decide +kernel
theorem d_Model_addresses_26 : decode prog_11_method_48_code 26 = .ok (.aload_n 0, 1) := by decide +kernel
theorem d_Model_addresses_27 : decode prog_11_method_48_code 27 = .ok (.iload_n 1, 1) := by decide +kernel
theorem d_Model_addresses_28 : decode prog_11_method_48_code 28 = .ok (.iconst 0, 1) := by decide +kernel
theorem d_Model_addresses_29 : decode prog_11_method_48_code 29 = .ok (.invokevirtual 251, 3) := by decide +kernel
theorem d_Model_addresses_32 : decode prog_11_method_48_code 32 = .ok (.aload_n 0, 1) := by decide +kernel
theorem d_Model_addresses_33 : decode prog_11_method_48_code 33 = .ok (.iconst 0, 1) := by decide +kernel
theorem d_Model_addresses_34 : decode prog_11_method_48_code 34 = .ok (.iconst 3, 1) := by decide +kernel
theorem d_Model_addresses_35 : decode prog_11_method_48_code 35 = .ok (.iconst 0, 1) := by decide +kernel
theorem d_Model_addresses_36 : decode prog_11_method_48_code 36 = .ok (.invokevirtual 255, 3) := by decide +kernel
theorem d_Model_addresses_39 : decode prog_11_method_48_code 39 = .ok (.aload_n 0, 1) := by decide +kernel
theorem d_Model_addresses_40 : decode prog_11_method_48_code 40 = .ok (.iconst 0, 1) := by decide +kernel
theorem d_Model_addresses_41 : decode prog_11_method_48_code 41 = .ok (.putfield 248, 3) := by decide +kernel
theorem d_Model_addresses_44 : decode prog_11_method_48_code 44 = .ok (.aload_n 0, 1) := by decide +kernel
theorem d_Model_addresses_45 : decode prog_11_method_48_code 45 = .ok (.iconst 0, 1) := by decide +kernel
theorem d_Model_addresses_46 : decode prog_11_method_48_code 46 = .ok (.putfield 227, 3) := by decide +kernel
theorem d_Model_addresses_49 : decode prog_11_method_48_code 49 = .ok (.iconst (-1), 1) := by decide +kernel
theorem d_Model_addresses_50 : decode prog_11_method_48_code 50 = .ok (.istore_n 2, 1) := by decide +kernel
theorem d_Model_addresses_51 : decode prog_11_method_48_code 51 = .ok (.iconst 0, 1) := by decide +kernel
theorem d_Model_addresses_52 : decode prog_11_method_48_code 52 = .ok (.istore_n 3, 1) := by decide +kernel
theorem d_Model_addresses_53 : decode prog_11_method_48_code 53 = .ok (.iconst 0, 1) := by decide +kernel
theorem d_Model_addresses_54 : decode prog_11_method_48_code 54 = .ok (.istore 4, 2) := by decide +kernel
theorem d_Model_addresses_56 : decode prog_11_method_48_code 56 = .ok (.iconst 0, 1) := by decide +kernel
theorem d_Model_addresses_57 : decode prog_11_method_48_code 57 = .ok (.istore 5, 2) := by decide +kernel
theorem d_Model_addresses_59 : decode prog_11_method_48_code 59 = .ok (.iload 5, 2) := by decide +kernel
theorem d_Model_addresses_61 : decode prog_11_method_48_code 61 = .ok (.aload_n 0, 1) := by decide +kernel
theorem d_Model_addresses_62 : decode prog_11_method_48_code 62 = .ok (.getfield 149, 3) := by decide +kernel
theorem d_Model_addresses_65 : decode prog_11_method_48_code 65 = .ok (.if_icmp .gt 226, 3) := by decide +kernel
theorem d_Model_addresses_68 : decode prog_11_method_48_code 68 = .ok (.iload 5, 2) := by decide +kernel
theorem d_Model_addresses_70 : decode prog_11_method_48_code 70 = .ok (.aload_n 0, 1) := by decide +kernel
theorem d_Model_addresses_71 : decode prog_11_method_48_code 71 = .ok (.getfield 149, 3) := by decide +kernel
theorem d_Model_addresses_74 : decode prog_11_method_48_code 74 = .ok (.if_icmp .ne 7, 3) := by decide +kernel
theorem d_Model_addresses_77 : decode prog_11_method_48_code 77 = .ok (.iconst 1, 1) := by decide +kernel
theorem d_Model_addresses_78 : decode prog_11_method_48_code 78 = .ok (.goto 4, 3) := by decide +kernel
theorem d_Model_addresses_81 : decode prog_11_method_48_code 81 = .ok (.iconst 0, 1) := by decide +kernel
theorem d_Model_addresses_82 : decode prog_11_method_48_code 82 = .ok (.istore 6, 2) := by decide +kernel
theorem d_Model_addresses_84 : decode prog_11_method_48_code 84 = .ok (.iload 6, 2) := by decide +kernel
theorem d_Model_addresses_86 : decode prog_11_method_48_code 86 = .ok (.ifCond .ne 25, 3) := by decide +kernel
theorem d_Model_addresses_89 : decode prog_11_method_48_code 89 = .ok (.aload_n 0, 1) := by decide +kernel
theorem d_Model_addresses_90 : decode prog_11_method_48_code 90 = .ok (.iload 5, 2) := by decide +kernel
theorem d_Model_addresses_92 : decode prog_11_method_48_code 92 = .ok (.bipush 60, 2) := by decide +kernel
theorem d_Model_addresses_94 : decode prog_11_method_48_code 94 = .ok (.invokevirtual 200, 3) := by decide +kernel
theorem d_Model_addresses_97 : decode prog_11_method_48_code 97 = .ok (.ifCond .eq 14, 3) := by decide +kernel
theorem d_Model_addresses_100 : decode prog_11_method_48_code 100 = .ok (.iload 4, 2) := by decide +kernel
theorem d_Model_addresses_102 : decode prog_11_method_48_code 102 = .ok (.ifCond .ne 9, 3) := by decide +kernel
theorem d_Model_addresses_105 : decode prog_11_method_48_code 105 = .ok (.iconst 1, 1) := by decide +kernel
theorem d_Model_addresses_106 : decode prog_11_method_48_code 106 = .ok (.istore 4, 2) := by decide +kernel
theorem d_Model_addresses_108 : decode prog_11_method_48_code 108 = .ok (.goto 22, 3) := by decide +kernel
theorem d_Model_addresses_111 : decode prog_11_method_48_code 111 = .ok (.iload 6, 2) := by decide +kernel
theorem d_Model_addresses_113 : decode prog_11_method_48_code 113 = .ok (.ifCond .ne 17, 3) := by decide +kernel
theorem d_Model_addresses_116 : decode prog_11_method_48_code 116 = .ok (.aload_n 0, 1) := by decide +kernel
theorem d_Model_addresses_117 : decode prog_11_method_48_code 117 = .ok (.iload 5, 2) := by decide +kernel
theorem d_Model_addresses_119 : decode prog_11_method_48_code 119 = .ok (.bipush 62, 2) := by decide +kernel
theorem d_Model_addresses_121 : decode prog_11_method_48_code 121 = .ok (.invokevirtual 200, 3) := by decide +kernel
theorem d_Model_addresses_124 : decode prog_11_method_48_code 124 = .ok (.ifCond .eq 6, 3) := by decide +kernel
theorem d_Model_addresses_127 : decode prog_11_method_48_code 127 = .ok (.iconst 0, 1) := by decide +kernel
theorem d_Model_addresses_128 : decode prog_11_method_48_code 128 = .ok (.istore 4, 2) := by decide +kernel
theorem d_Model_addresses_130 : decode prog_11_method_48_code 130 = .ok (.iload 6, 2) := by decide +kernel
theorem d_Model_addresses_132 : decode prog_11_method_48_code 132 = .ok (.ifCond .ne 23, 3) := by decide +kernel
theorem d_Model_addresses_135 : decode prog_11_method_48_code 135 = .ok (.iload 4, 2) := by decide +kernel
theorem d_Model_addresses_137 : decode prog_11_method_48_code 137 = .ok (.ifCond .ne 18, 3) := by decide +kernel
theorem d_Model_addresses_140 : decode prog_11_method_48_code 140 = .ok (.aload_n 0, 1) := by decide +kernel
theorem d_Model_addresses_141 : decode prog_11_method_48_code 141 = .ok (.iload 5, 2) := by decide +kernel
theorem d_Model_addresses_143 : decode prog_11_method_48_code 143 = .ok (.bipush 58, 2) := by decide +kernel
theorem d_Model_addresses_145 : decode prog_11_method_48_code 145 = .ok (.invokevirtual 200, 3) := by decide +kernel
theorem d_Model_addresses_148 : decode prog_11_method_48_code 148 = .ok (.ifCond .eq 7, 3) := by decide +kernel
theorem d_Model_addresses_151 : decode prog_11_method_48_code 151 = .ok (.iconst 1, 1) := by decide +kernel
theorem d_Model_addresses_152 : decode prog_11_method_48_code 152 = .ok (.goto 4, 3) := by decide +kernel
theorem d_Model_addresses_155 : decode prog_11_method_48_code 155 = .ok (.iconst 0, 1) := by decide +kernel
theorem d_Model_addresses_156 : decode prog_11_method_48_code 156 = .ok (.istore 7, 2) := by decide +kernel
theorem d_Model_addresses_158 : decode prog_11_method_48_code 158 = .ok (.iload 6, 2) := by decide +kernel
theorem d_Model_addresses_160 : decode prog_11_method_48_code 160 = .ok (.ifCond .ne 35, 3) := by decide +kernel
theorem d_Model_addresses_163 : decode prog_11_method_48_code 163 = .ok (.iload 4, 2) := by decide +kernel
theorem d_Model_addresses_165 : decode prog_11_method_48_code 165 = .ok (.ifCond .ne 34, 3) := by decide +kernel
theorem d_Model_addresses_168 : decode prog_11_method_48_code 168 = .ok (.iload 7, 2) := by decide +kernel
theorem d_Model_addresses_170 : decode prog_11_method_48_code 170 = .ok (.ifCond .ne 25, 3) := by decide +kernel
theorem d_Model_addresses_173 : decode prog_11_method_48_code 173 = .ok (.aload_n 0, 1) := by decide +kernel
theorem d_Model_addresses_174 : decode prog_11_method_48_code 174 = .ok (.iload 5, 2) := by decide +kernel
theorem d_Model_addresses_176 : decode prog_11_method_48_code 176 = .ok (.bipush 44, 2) := by decide +kernel
theorem d_Model_addresses_178 : decode prog_11_method_48_code 178 = .ok (.invokevirtual 200, 3) := by decide +kernel
theorem d_Model_addresses_181 : decode prog_11_method_48_code 181 = .ok (.ifCond .ne 14, 3) := by decide +kernel
theorem d_Model_addresses_184 : decode prog_11_method_48_code 184 = .ok (.aload_n 0, 1) := by decide +kernel
theorem d_Model_addresses_185 : decode prog_11_method_48_code 185 = .ok (.iload 5, 2) := by decide +kernel
theorem d_Model_addresses_187 : decode prog_11_method_48_code 187 = .ok (.bipush 59, 2) := by decide +kernel
theorem d_Model_addresses_189 : decode prog_11_method_48_code 189 = .ok (.invokevirtual 200, 3) := by decide +kernel
theorem d_Model_addresses_192 : decode prog_11_method_48_code 192 = .ok (.ifCond .eq 7, 3) := by decide +kernel
theorem d_Model_addresses_195 : decode prog_11_method_48_code 195 = .ok (.iconst 1, 1) := by decide +kernel
theorem d_Model_addresses_196 : decode prog_11_method_48_code 196 = .ok (.goto 4, 3) := by decide +kernel
theorem d_Model_addresses_199 : decode prog_11_method_48_code 199 = .ok (.iconst 0, 1) := by decide +kernel
theorem d_Model_addresses_200 : decode prog_11_method_48_code 200 = .ok (.istore 8, 2) := by decide +kernel
theorem d_Model_addresses_202 : decode prog_11_method_48_code 202 = .ok (.iload 8, 2) := by decide +kernel
theorem d_Model_addresses_204 : decode prog_11_method_48_code 204 = .ok (.ifCond .eq 81, 3) := by decide +kernel
theorem d_Model_addresses_207 : decode prog_11_method_48_code 207 = .ok (.iload 7, 2) := by decide +kernel
theorem d_Model_addresses_209 : decode prog_11_method_48_code 209 = .ok (.ifCond .eq 25, 3) := by decide +kernel
theorem d_Model_addresses_212 : decode prog_11_method_48_code 212 = .ok (.iload_n 2, 1) := by decide +kernel
theorem d_Model_addresses_213 : decode prog_11_method_48_code 213 = .ok (.iconst (-1), 1) := by decide +kernel
theorem d_Model_addresses_214 : decode prog_11_method_48_code 214 = .ok (.if_icmp .ne 20, 3) := by decide +kernel
theorem d_Model_addresses_217 : decode prog_11_method_48_code 217 = .ok (.aload_n 0, 1) := by decide +kernel
theorem d_Model_addresses_218 : decode prog_11_method_48_code 218 = .ok (.iload_n 3, 1) := by decide +kernel
theorem d_Model_addresses_219 : decode prog_11_method_48_code 219 = .ok (.iload 5, 2) := by decide +kernel
theorem d_Model_addresses_221 : decode prog_11_method_48_code 221 = .ok (.invokevirtual 258, 3) := by decide +kernel
theorem d_Model_addresses_224 : decode prog_11_method_48_code 224 = .ok (.aload_n 0, 1) := by decide +kernel
theorem d_Model_addresses_225 : decode prog_11_method_48_code 225 = .ok (.getfield 248, 3) := by decide +kernel
theorem d_Model_addresses_228 : decode prog_11_method_48_code 228 = .ok (.iconst 1, 1) := by decide +kernel
theorem d_Model_addresses_229 : decode prog_11_method_48_code 229 = .ok (.isub, 1) := by decide +kernel
theorem d_Model_addresses_230 : decode prog_11_method_48_code 230 = .ok (.istore_n 2, 1) := by decide +kernel
theorem d_Model_addresses_231 : decode prog_11_method_48_code 231 = .ok (.goto 31, 3) := by decide +kernel
theorem d_Model_addresses_234 : decode prog_11_method_48_code 234 = .ok (.iload 7, 2) := by decide +kernel
theorem d_Model_addresses_236 : decode prog_11_method_48_code 236 = .ok (.ifCond .eq 16, 3) := by decide +kernel
theorem d_Model_addresses_239 : decode prog_11_method_48_code 239 = .ok (.aload_n 0, 1) := by decide +kernel
theorem d_Model_addresses_240 : decode prog_11_method_48_code 240 = .ok (.dup, 1) := by decide +kernel
theorem d_Model_addresses_241 : decode prog_11_method_48_code 241 = .ok (.getfield 227, 3) := by decide +kernel
theorem d_Model_addresses_244 : decode prog_11_method_48_code 244 = .ok (.iconst 1, 1) := by decide +kernel
theorem d_Model_addresses_245 : decode prog_11_method_48_code 245 = .ok (.iadd, 1) := by decide +kernel
theorem d_Model_addresses_246 : decode prog_11_method_48_code 246 = .ok (.putfield 227, 3) := by decide +kernel
theorem d_Model_addresses_249 : decode prog_11_method_48_code 249 = .ok (.goto 13, 3) := by decide +kernel
theorem d_Model_addresses_252 : decode prog_11_method_48_code 252 = .ok (.aload_n 0, 1) := by decide +kernel
theorem d_Model_addresses_253 : decode prog_11_method_48_code 253 = .ok (.iload_n 3, 1) := by decide +kernel
theorem d_Model_addresses_254 : decode prog_11_method_48_code 254 = .ok (.iload 5, 2) := by decide +kernel
theorem d_Model_addresses_256 : decode prog_11_method_48_code 256 = .ok (.iload 4, 2) := by decide +kernel
theorem d_Model_addresses_258 : decode prog_11_method_48_code 258 = .ok (.iload_n 2, 1) := by decide +kernel
theorem d_Model_addresses_259 : decode prog_11_method_48_code 259 = .ok (.invokevirtual 261, 3) := by decide +kernel
theorem d_Model_addresses_262 : decode prog_11_method_48_code 262 = .ok (.iload 6, 2) := by decide +kernel
theorem d_Model_addresses_264 : decode prog_11_method_48_code 264 = .ok (.ifCond .ne 16, 3) := by decide +kernel
theorem d_Model_addresses_267 : decode prog_11_method_48_code 267 = .ok (.aload_n 0, 1) := by decide +kernel
theorem d_Model_addresses_268 : decode prog_11_method_48_code 268 = .ok (.iload 5, 2) := by decide +kernel
theorem d_Model_addresses_270 : decode prog_11_method_48_code 270 = .ok (.bipush 59, 2) := by decide +kernel
theorem d_Model_addresses_272 : decode prog_11_method_48_code 272 = .ok (.invokevirtual 200, 3) := by decide +kernel
theorem d_Model_addresses_275 : decode prog_11_method_48_code 275 = .ok (.ifCond .eq 5, 3) := by decide +kernel
theorem d_Model_addresses_278 : decode prog_11_method_48_code 278 = .ok (.iconst (-1), 1) := by decide +kernel
theorem d_Model_addresses_279 : decode prog_11_method_48_code 279 = .ok (.istore_n 2, 1) := by decide +kernel
theorem d_Model_addresses_280 : decode prog_11_method_48_code 280 = .ok (.iload 5, 2) := by decide +kernel
theorem d_Model_addresses_282 : decode prog_11_method_48_code 282 = .ok (.iconst 1, 1) := by decide +kernel
theorem d_Model_addresses_283 : decode prog_11_method_48_code 283 = .ok (.iadd, 1) := by decide +kernel
theorem d_Model_addresses_284 : decode prog_11_method_48_code 284 = .ok (.istore_n 3, 1) := by decide +kernel
theorem d_Model_addresses_285 : decode prog_11_method_48_code 285 = .ok (.iinc 5 1, 3) := by decide +kernel
theorem d_Model_addresses_288 : decode prog_11_method_48_code 288 = .ok (.goto (-229), 3) := by decide +kernel
theorem d_Model_addresses_291 : decode prog_11_method_48_code 291 = .ok (.aload_n 0, 1) := by decide +kernel
theorem d_Model_addresses_292 : decode prog_11_method_48_code 292 = .ok (.getfield 52, 3) := by decide +kernel
theorem d_Model_addresses_295 : decode prog_11_method_48_code 295 = .ok (.iconst 1, 1) := by decide +kernel
theorem d_Model_addresses_296 : decode prog_11_method_48_code 296 = .ok (.iaload, 1) := by decide +kernel
theorem d_Model_addresses_297 : decode prog_11_method_48_code 297 = .ok (.ireturn, 1) := by decide +kernel
theorem d_Model_group_0 : decode prog_11_method_49_code 0 = .ok (.aload_n 0, 1) := by decide +kernel
theorem d_Model_group_1 : decode prog_11_method_49_code 1 = .ok (.iconst 0, 1) := by decide +kernel
theorem d_Model_group_2 : decode prog_11_method_49_code 2 = .ok (.putfield 99, 3) := by decide +kernel
theorem d_Model_group_5 : decode prog_11_method_49_code 5 = .ok (.iload_n 1, 1) := by decide +kernel
theorem d_Model_group_6 : decode prog_11_method_49_code 6 = .ok (.ifCond .ne 8, 3) := by decide +kernel
theorem d_Model_group_9 : decode prog_11_method_49_code 9 = .ok (.aload_n 0, 1) := by decide +kernel
theorem d_Model_group_10 : decode prog_11_method_49_code 10 = .ok (.getfield 248, 3) := by decide +kernel
theorem d_Model_group_13 : decode prog_11_method_49_code 13 = .ok (.ireturn, 1) := by decide +kernel
theorem d_Model_group_14 : decode prog_11_method_49_code 14 = .ok (.iload_n 1, 1) := by decide +kernel
theorem d_Model_group_15 : decode prog_11_method_49_code 15 = .ok (.iconst 1, 1) := by decide +kernel
theorem d_Model_group_16 : decode prog_11_method_49_code 16 = .ok (.if_icmp .ne 8, 3) := by decide +kernel
theorem d_Model_group_19 : decode prog_11_method_49_code 19 = .ok (.aload_n 0, 1) := by decide +kernel
theorem d_Model_group_20 : decode prog_11_method_49_code 20 = .ok (.getfield 227, 3) := by decide +kernel
theorem d_Model_group_23 : decode prog_11_method_49_code 23 = .ok (.ireturn, 1) := by decide +kernel
theorem d_Model_group_24 : decode prog_11_method_49_code 24 = .ok (.iload_n 1, 1) := by decide +kernel
theorem d_Model_group_25 : decode prog_11_method_49_code 25 = .ok (.iconst 2, 1) := by decide +kernel
theorem d_Model_group_26 : decode prog_11_method_49_code 26 = .ok (.if_icmp .ne 17, 3) := by decide +kernel
theorem d_Model_group_29 : decode prog_11_method_49_code 29 = .ok (.iload_n 2, 1) := by decide +kernel
theorem d_Model_group_30 : decode prog_11_method_49_code 30 = .ok (.ifCond .lt 13, 3) := by decide +kernel
theorem d_Model_group_33 : decode prog_11_method_49_code 33 = .ok (.iload_n 2, 1) := by decide +kernel
theorem d_Model_group_34 : decode prog_11_method_49_code 34 = .ok (.aload_n 0, 1) := by decide +kernel
theorem d_Model_group_35 : decode prog_11_method_49_code 35 = .ok (.getfield 52, 3) := by decide +kernel
theorem d_Model_group_38 : decode prog_11_method_49_code 38 = .ok (.iconst 1, 1) := by decide +kernel
theorem d_Model_group_39 : decode prog_11_method_49_code 39 = .ok (.iaload, 1) := by decide +kernel
theorem d_Model_group_40 : decode prog_11_method_49_code 40 = .ok (.if_icmp .lt 7, 3) := by decide +kernel
theorem d_Model_group_43 : decode prog_11_method_49_code 43 = .ok (.iconst (-1), 1) := by decide +kernel
theorem d_Model_group_44 : decode prog_11_method_49_code 44 = .ok (.goto 9, 3) := by decide +kernel
theorem d_Model_group_47 : decode prog_11_method_49_code 47 = .ok (.aload_n 0, 1) := by decide +kernel
theorem d_Model_group_48 : decode prog_11_method_49_code 48 = .ok (.getfield 61, 3) := by decide +kernel
theorem d_Model_group_51 : decode prog_11_method_49_code 51 = .ok (.iload_n 2, 1) := by decide +kernel
theorem d_Model_group_52 : decode prog_11_method_49_code 52 = .ok (.iaload, 1) := by decide +kernel
theorem d_Model_group_53 : decode prog_11_method_49_code 53 = .ok (.ireturn, 1) := by decide +kernel
