theorem d_Model_isField_0 : decode prog_11_method_15_code 0 = .ok (.iload_n 1, 1) := by decide +kernel
theorem d_Model_isField_1 : decode prog_11_method_15_code 1 = .ok (.ifCond .lt 15, 3) := by decide +kernel
theorem d_Model_isField_4 : decode prog_11_method_15_code 4 = .ok (.iload_n 1, 1) := by decide +kernel
theorem d_Model_isField_5 : decode prog_11_method_15_code 5 = .ok (.aload_n 0, 1) := by decide +kernel
theorem d_Model_isField_6 : decode prog_11_method_15_code 6 = .ok (.getfield 116, 3) := by decide +kernel
theorem d_Model_isField_9 : decode prog_11_method_15_code 9 = .ok (.if_icmp .ge 7, 3) := by decide +kernel
theorem d_Model_isField_12 : decode prog_11_method_15_code 12 = .ok (.iconst 1, 1) := by decide +kernel
theorem d_Model_isField_13 : decode prog_11_method_15_code 13 = .ok (.goto 4, 3) := by decide +kernel
theorem d_Model_isField_16 : decode prog_11_method_15_code 16 = .ok (.iconst 0, 1) := by decide +kernel
theorem d_Model_isField_17 : decode prog_11_method_15_code 17 = .ok (.ireturn, 1) := by decide +kernel
theorem d_Model_field_0 : decode prog_11_method_16_code 0 = .ok (.aload_n 0, 1) := by decide +kernel
theorem d_Model_field_1 : decode prog_11_method_16_code 1 = .ok (.iconst 0, 1) := by decide +kernel
theorem d_Model_field_2 : decode prog_11_method_16_code 2 = .ok (.putfield 99, 3) := by decide +kernel
theorem d_Model_field_5 : decode prog_11_method_16_code 5 = .ok (.aload_n 0, 1) := by decide +kernel
theorem d_Model_field_6 : decode prog_11_method_16_code 6 = .ok (.iload_n 1, 1) := by decide +kernel
theorem d_Model_field_7 : decode prog_11_method_16_code 7 = .ok (.invokevirtual 137, 3) := by decide +kernel
theorem d_Model_field_10 : decode prog_11_method_16_code 10 = .ok (.ifCond .eq 12, 3) := by decide +kernel
theorem d_Model_field_13 : decode prog_11_method_16_code 13 = .ok (.iload_n 2, 1) := by decide +kernel
theorem d_Model_field_14 : decode prog_11_method_16_code 14 = .ok (.ifCond .lt 8, 3) := by decide +kernel
theorem d_Model_field_17 : decode prog_11_method_16_code 17 = .ok (.iload_n 2, 1) := by decide +kernel
theorem d_Model_field_18 : decode prog_11_method_16_code 18 = .ok (.iconst 1, 1) := by decide +kernel
theorem d_Model_field_19 : decode prog_11_method_16_code 19 = .ok (.if_icmp .le 5, 3) := by decide +kernel
theorem d_Model_field_22 : decode prog_11_method_16_code 22 = .ok (.iconst (-1), 1) := by decide +kernel
theorem d_Model_field_23 : decode prog_11_method_16_code 23 = .ok (.ireturn, 1) := by decide +kernel
theorem d_Model_field_24 : decode prog_11_method_16_code 24 = .ok (.iload_n 2, 1) := by decide +kernel
theorem d_Model_field_25 : decode prog_11_method_16_code 25 = .ok (.ifCond .ne 12, 3) := by decide +kernel
theorem d_Model_field_28 : decode prog_11_method_16_code 28 = .ok (.aload_n 0, 1) := by decide +kernel
theorem d_Model_field_29 : decode prog_11_method_16_code 29 = .ok (.getfield 19, 3) := by decide +kernel
theorem d_Model_field_32 : decode prog_11_method_16_code 32 = .ok (.iload_n 1, 1) := by decide +kernel
theorem d_Model_field_33 : decode prog_11_method_16_code 33 = .ok (.iaload, 1) := by decide +kernel
theorem d_Model_field_34 : decode prog_11_method_16_code 34 = .ok (.goto 9, 3) := by decide +kernel
theorem d_Model_field_37 : decode prog_11_method_16_code 37 = .ok (.aload_n 0, 1) := by decide +kernel
theorem d_Model_field_38 : decode prog_11_method_16_code 38 = .ok (.getfield 25, 3) := by decide +kernel
theorem d_Model_field_41 : decode prog_11_method_16_code 41 = .ok (.iload_n 1, 1) := by decide +kernel
theorem d_Model_field_42 : decode prog_11_method_16_code 42 = .ok (.iaload, 1) := by decide +kernel
theorem d_Model_field_43 : decode prog_11_method_16_code 43 = .ok (.ireturn, 1) := by decide +kernel
theorem d_Model_thrown_0 : decode prog_11_method_2_code 0 = .ok (.aload_n 0, 1) := by decide +kernel
theorem d_Model_thrown_1 : decode prog_11_method_2_code 1 = .ok (.getfield 99, 3) := by decide +kernel
theorem d_Model_thrown_4 : decode prog_11_method_2_code 4 = .ok (.ireturn, 1) := by decide +kernel
theorem d_Model_small_0 : decode prog_11_method_7_code 0 = .ok (.iload_n 0, 1) := by decide +kernel
theorem d_Model_small_1 : decode prog_11_method_7_code 1 = .ok (.bipush 65, 2) := by decide +kernel
theorem d_Model_small_3 : decode prog_11_method_7_code 3 = .ok (.if_icmp .lt 16, 3) := by decide +kernel
theorem d_Model_small_6 : decode prog_11_method_7_code 6 = .ok (.iload_n 0, 1) := by decide +kernel
theorem d_Model_small_7 : decode prog_11_method_7_code 7 = .ok (.bipush 90, 2) := by decide +kernel
theorem d_Model_small_9 : decode prog_11_method_7_code 9 = .ok (.if_icmp .gt 10, 3) := by decide +kernel
theorem d_Model_small_12 : decode prog_11_method_7_code 12 = .ok (.iload_n 0, 1) := by decide +kernel
theorem d_Model_small_13 : decode prog_11_method_7_code 13 = .ok (.bipush 32, 2) := by decide +kernel
theorem d_Model_small_15 : decode prog_11_method_7_code 15 = .ok (.iadd, 1) := by decide +kernel
theorem d_Model_small_16 : decode prog_11_method_7_code 16 = .ok (.goto 4, 3) := by decide +kernel
theorem d_Model_small_19 : decode prog_11_method_7_code 19 = .ok (.iload_n 0, 1) := by decide +kernel
theorem d_Model_small_20 : decode prog_11_method_7_code 20 = .ok (.ireturn, 1) := by decide +kernel
theorem d_Model_isNamed_0 : decode prog_11_method_68_code 0 = .ok (.aload_n 0, 1) := by decide +kernel
theorem d_Model_isNamed_1 : decode prog_11_method_68_code 1 = .ok (.getfield 67, 3) := by decide +kernel
theorem d_Model_isNamed_4 : decode prog_11_method_68_code 4 = .ok (.iload_n 1, 1) := by decide +kernel
theorem d_Model_isNamed_5 : decode prog_11_method_68_code 5 = .ok (.iaload, 1) := by decide +kernel
theorem d_Model_isNamed_6 : decode prog_11_method_68_code 6 = .ok (.aload_n 0, 1) := by decide +kernel
theorem d_Model_isNamed_7 : decode prog_11_method_68_code 7 = .ok (.getfield 64, 3) := by decide +kernel
theorem d_Model_isNamed_10 : decode prog_11_method_68_code 10 = .ok (.iload_n 1, 1) := by decide +kernel
theorem d_Model_isNamed_11 : decode prog_11_method_68_code 11 = .ok (.iaload, 1) := by decide +kernel
theorem d_Model_isNamed_12 : decode prog_11_method_68_code 12 = .ok (.isub, 1) := by decide +kernel
theorem d_Model_isNamed_13 : decode prog_11_method_68_code 13 = .ok (.iload_n 2, 1) := by decide +kernel
theorem d_Model_isNamed_14 : decode prog_11_method_68_code 14 = .ok (.if_icmp .eq 5, 3) := by decide +kernel
theorem d_Model_isNamed_17 : decode prog_11_method_68_code 17 = .ok (.iconst 0, 1) := by decide +kernel
theorem d_Model_isNamed_18 : decode prog_11_method_68_code 18 = .ok (.ireturn, 1) := by decide +kernel
theorem d_Model_isNamed_19 : decode prog_11_method_68_code 19 = .ok (.iconst 0, 1) := by decide +kernel
theorem d_Model_isNamed_20 : decode prog_11_method_68_code 20 = .ok (.istore_n 3, 1) := by decide +kernel
theorem d_Model_isNamed_21 : decode prog_11_method_68_code 21 = .ok (.iload_n 3, 1) := by decide +kernel
theorem d_Model_isNamed_22 : decode prog_11_method_68_code 22 = .ok (.iload_n 2, 1) := by decide +kernel
theorem d_Model_isNamed_23 : decode prog_11_method_68_code 23 = .ok (.if_icmp .ge 39, 3) := by decide +kernel
theorem d_Model_isNamed_26 : decode prog_11_method_68_code 26 = .ok (.aload_n 0, 1) := by decide +kernel
theorem d_Model_isNamed_27 : decode prog_11_method_68_code 27 = .ok (.getfield 83, 3) := by decide +kernel
theorem d_Model_isNamed_30 : decode prog_11_method_68_code 30 = .ok (.aload_n 0, 1) := by decide +kernel
theorem d_Model_isNamed_31 : decode prog_11_method_68_code 31 = .ok (.getfield 64, 3) := by decide +kernel
theorem d_Model_isNamed_34 : decode prog_11_method_68_code 34 = .ok (.iload_n 1, 1) := by decide +kernel
theorem d_Model_isNamed_35 : decode prog_11_method_68_code 35 = .ok (.iaload, 1) := by decide +kernel
theorem d_Model_isNamed_36 : decode prog_11_method_68_code 36 = .ok (.iload_n 3, 1) := by decide +kernel
theorem d_Model_isNamed_37 : decode prog_11_method_68_code 37 = .ok (.iadd, 1) := by decide +kernel
theorem d_Model_isNamed_38 : decode prog_11_method_68_code 38 = .ok (.iaload, 1) := by decide +kernel
theorem d_Model_isNamed_39 : decode prog_11_method_68_code 39 = .ok (.invokestatic 133, 3) := by decide +kernel
theorem d_Model_isNamed_42 : decode prog_11_method_68_code 42 = .ok (.aload_n 0, 1) := by decide +kernel
theorem d_Model_isNamed_43 : decode prog_11_method_68_code 43 = .ok (.getfield 13, 3) := by decide +kernel
theorem d_Model_isNamed_46 : decode prog_11_method_68_code 46 = .ok (.iload_n 3, 1) := by decide +kernel
theorem d_Model_isNamed_47 : decode prog_11_method_68_code 47 = .ok (.iaload, 1) := by decide +kernel
theorem d_Model_isNamed_48 : decode prog_11_method_68_code 48 = .ok (.invokestatic 133, 3) := by decide +kernel
theorem d_Model_isNamed_51 : decode prog_11_method_68_code 51 = .ok (.if_icmp .eq 5, 3) := by decide +kernel
theorem d_Model_isNamed_54 : decode prog_11_method_68_code 54 = .ok (.iconst 0, 1) := by decide +kernel
theorem d_Model_isNamed_55 : decode prog_11_method_68_code 55 = .ok (.ireturn, 1) := by decide +kernel
theorem d_Model_isNamed_56 : decode prog_11_method_68_code 56 = .ok (.iinc 3 1, 3) := by decide +kernel
theorem d_Model_isNamed_59 : decode prog_11_method_68_code 59 = .ok (.goto (-38), 3) := by decide +kernel
theorem d_Model_isNamed_62 : decode prog_11_method_68_code 62 = .ok (.iconst 1, 1) := by decide +kernel
theorem d_Model_isNamed_63 : decode prog_11_method_68_code 63 = .ok (.ireturn, 1) := by decide +kernel
theorem d_Model_parameterOf_0 : decode prog_11_method_69_code 0 = .ok (.iconst 0, 1) := by decide +kernel
theorem d_Model_parameterOf_1 : decode prog_11_method_69_code 1 = .ok (.istore_n 3, 1) := by decide +kernel
theorem d_Model_parameterOf_2 : decode prog_11_method_69_code 2 = .ok (.iload_n 3, 1) := by decide +kernel
theorem d_Model_parameterOf_3 : decode prog_11_method_69_code 3 = .ok (.aload_n 0, 1) := by decide +kernel
theorem d_Model_parameterOf_4 : decode prog_11_method_69_code 4 = .ok (.getfield 347, 3) := by decide +kernel
theorem d_Model_parameterOf_7 : decode prog_11_method_69_code 7 = .ok (.if_icmp .ge 30, 3) := by decide +kernel
theorem d_Model_parameterOf_10 : decode prog_11_method_69_code 10 = .ok (.aload_n 0, 1) := by decide +kernel
theorem d_Model_parameterOf_11 : decode prog_11_method_69_code 11 = .ok (.getfield 70, 3) := by decide +kernel
theorem d_Model_parameterOf_14 : decode prog_11_method_69_code 14 = .ok (.iload_n 3, 1) := by decide +kernel
theorem d_Model_parameterOf_15 : decode prog_11_method_69_code 15 = .ok (.iaload, 1) := by decide +kernel
theorem d_Model_parameterOf_16 : decode prog_11_method_69_code 16 = .ok (.iload_n 2, 1) := by decide +kernel
theorem d_Model_parameterOf_17 : decode prog_11_method_69_code 17 = .ok (.if_icmp .ne 14, 3) := by decide +kernel
theorem d_Model_parameterOf_20 : decode prog_11_method_69_code 20 = .ok (.aload_n 0, 1) := by decide +kernel
theorem d_Model_parameterOf_21 : decode prog_11_method_69_code 21 = .ok (.iload_n 3, 1) := by decide +kernel
theorem d_Model_parameterOf_22 : decode prog_11_method_69_code 22 = .ok (.iload_n 1, 1) := by decide +kernel
theorem d_Model_parameterOf_23 : decode prog_11_method_69_code 23 = .ok (.invokevirtual 356, 3) := by decide +kernel
theorem d_Model_parameterOf_26 : decode prog_11_method_69_code 26 = .ok (.ifCond .eq 5, 3) := by decide +kernel
theorem d_Model_parameterOf_29 : decode prog_11_method_69_code 29 = .ok (.iload_n 3, 1) := by decide +kernel
theorem d_Model_parameterOf_30 : decode prog_11_method_69_code 30 = .ok (.ireturn, 1) := by decide +kernel
theorem d_Model_parameterOf_31 : decode prog_11_method_69_code 31 = .ok (.iinc 3 1, 3) := by decide +kernel
theorem d_Model_parameterOf_34 : decode prog_11_method_69_code 34 = .ok (.goto (-32), 3) := by decide +kernel
theorem d_Model_parameterOf_37 : decode prog_11_method_69_code 37 = .ok (.iconst (-1), 1) := by decide +kernel
theorem d_Model_parameterOf_38 : decode prog_11_method_69_code 38 = .ok (.ireturn, 1) := by decide +kernel
theorem d_Model_behindCharset_0 : decode prog_11_method_71_code 0 = .ok (.aload_n 0, 1) := by decide +kernel
theorem d_Model_behindCharset_1 : decode prog_11_method_71_code 1 = .ok (.getfield 77, 3) := by decide +kernel
theorem d_Model_behindCharset_4 : decode prog_11_method_71_code 4 = .ok (.iload_n 1, 1) := by decide +kernel
theorem d_Model_behindCharset_5 : decode prog_11_method_71_code 5 = .ok (.iaload, 1) := by decide +kernel
theorem d_Model_behindCharset_6 : decode prog_11_method_71_code 6 = .ok (.istore_n 2, 1) := by decide +kernel
theorem d_Model_behindCharset_7 : decode prog_11_method_71_code 7 = .ok (.aload_n 0, 1) := by decide +kernel
theorem d_Model_behindCharset_8 : decode prog_11_method_71_code 8 = .ok (.getfield 80, 3) := by decide +kernel
theorem d_Model_behindCharset_11 : decode prog_11_method_71_code 11 = .ok (.iload_n 1, 1) := by decide +kernel
theorem d_Model_behindCharset_12 : decode prog_11_method_71_code 12 = .ok (.iaload, 1) := by decide +kernel
theorem d_Model_behindCharset_13 : decode prog_11_method_71_code 13 = .ok (.istore_n 3, 1) := by decide +kernel
theorem d_Model_behindCharset_14 : decode prog_11_method_71_code 14 = .ok (.aload_n 0, 1) := by decide +kernel
theorem d_Model_behindCharset_15 : decode prog_11_method_71_code 15 = .ok (.getfield 73, 3) := by decide +kernel
theorem d_Model_behindCharset_18 : decode prog_11_method_71_code 18 = .ok (.iload_n 1, 1) := by decide +kernel
theorem d_Model_behindCharset_19 : decode prog_11_method_71_code 19 = .ok (.baload, 1) := by decide +kernel
theorem d_Model_behindCharset_20 : decode prog_11_method_71_code 20 = .ok (.ifCond .eq 12, 3) := by decide +kernel
theorem d_Model_behindCharset_23 : decode prog_11_method_71_code 23 = .ok (.aload_n 0, 1) := by decide +kernel
theorem d_Model_behindCharset_24 : decode prog_11_method_71_code 24 = .ok (.getfield 70, 3) := by decide +kernel
theorem d_Model_behindCharset_27 : decode prog_11_method_71_code 27 = .ok (.iload_n 1, 1) := by decide +kernel
theorem d_Model_behindCharset_28 : decode prog_11_method_71_code 28 = .ok (.iaload, 1) := by decide +kernel
theorem d_Model_behindCharset_29 : decode prog_11_method_71_code 29 = .ok (.ifCond .le 5, 3) := by decide +kernel
theorem d_Model_behindCharset_32 : decode prog_11_method_71_code 32 = .ok (.iload_n 2, 1) := by decide +kernel
theorem d_Model_behindCharset_33 : decode prog_11_method_71_code 33 = .ok (.ireturn, 1) := by decide +kernel
theorem d_Model_behindCharset_34 : decode prog_11_method_71_code 34 = .ok (.iload_n 2, 1) := by decide +kernel
theorem d_Model_behindCharset_35 : decode prog_11_method_71_code 35 = .ok (.istore 4, 2) := by decide +kernel
theorem d_Model_behindCharset_37 : decode prog_11_method_71_code 37 = .ok (.iload 4, 2) := by decide +kernel
theorem d_Model_behindCharset_39 : decode prog_11_method_71_code 39 = .ok (.iload_n 3, 1) := by decide +kernel
theorem d_Model_behindCharset_40 : decode prog_11_method_71_code 40 = .ok (.if_icmp .ge 21, 3) := by decide +kernel
theorem d_Model_behindCharset_43 : decode prog_11_method_71_code 43 = .ok (.aload_n 0, 1) := by decide +kernel
theorem d_Model_behindCharset_44 : decode prog_11_method_71_code 44 = .ok (.getfield 83, 3) := by decide +kernel
theorem d_Model_behindCharset_47 : decode prog_11_method_71_code 47 = .ok (.iload 4, 2) := by decide +kernel
theorem d_Model_behindCharset_49 : decode prog_11_method_71_code 49 = .ok (.iaload, 1) := by decide +kernel
theorem d_Model_behindCharset_50 : decode prog_11_method_71_code 50 = .ok (.bipush 39, 2) := by decide +kernel
theorem d_Model_behindCharset_52 : decode prog_11_method_71_code 52 = .ok (.if_icmp .eq 9, 3) := by decide +kernel
theorem d_Model_behindCharset_55 : decode prog_11_method_71_code 55 = .ok (.iinc 4 1, 3) := by decide +kernel
theorem d_Model_behindCharset_58 : decode prog_11_method_71_code 58 = .ok (.goto (-21), 3) := by decide +kernel
theorem d_Model_behindCharset_61 : decode prog_11_method_71_code 61 = .ok (.iload 4, 2) := by decide +kernel
theorem d_Model_behindCharset_63 : decode prog_11_method_71_code 63 = .ok (.iconst 1, 1) := by decide +kernel
theorem d_Model_behindCharset_64 : decode prog_11_method_71_code 64 = .ok (.iadd, 1) := by decide +kernel
theorem d_Model_behindCharset_65 : decode prog_11_method_71_code 65 = .ok (.istore 5, 2) := by decide +kernel
theorem d_Model_behindCharset_67 : decode prog_11_method_71_code 67 = .ok (.iload 5, 2) := by decide +kernel
theorem d_Model_behindCharset_69 : decode prog_11_method_71_code 69 = .ok (.iload_n 3, 1) := by decide +kernel
theorem d_Model_behindCharset_70 : decode prog_11_method_71_code 70 = .ok (.if_icmp .ge 21, 3) := by decide +kernel
theorem d_Model_behindCharset_73 : decode prog_11_method_71_code 73 = .ok (.aload_n 0, 1) := by decide +kernel
theorem d_Model_behindCharset_74 : decode prog_11_method_71_code 74 = .ok (.getfield 83, 3) := by decide +kernel
theorem d_Model_behindCharset_77 : decode prog_11_method_71_code 77 = .ok (.iload 5, 2) := by decide +kernel
theorem d_Model_behindCharset_79 : decode prog_11_method_71_code 79 = .ok (.iaload, 1) := by decide +kernel
theorem d_Model_behindCharset_80 : decode prog_11_method_71_code 80 = .ok (.bipush 39, 2) := by decide +kernel
theorem d_Model_behindCharset_82 : decode prog_11_method_71_code 82 = .ok (.if_icmp .eq 9, 3) := by decide +kernel
theorem d_Model_behindCharset_85 : decode prog_11_method_71_code 85 = .ok (.iinc 5 1, 3) := by decide +kernel
theorem d_Model_behindCharset_88 : decode prog_11_method_71_code 88 = .ok (.goto (-21), 3) := by decide +kernel
theorem d_Model_behindCharset_91 : decode prog_11_method_71_code 91 = .ok (.iload 5, 2) := by decide +kernel
theorem d_Model_behindCharset_93 : decode prog_11_method_71_code 93 = .ok (.iload_n 3, 1) := by decide +kernel
theorem d_Model_behindCharset_94 : decode prog_11_method_71_code 94 = .ok (.if_icmp .lt 5, 3) := by decide +kernel
theorem d_Model_behindCharset_97 : decode prog_11_method_71_code 97 = .ok (.iload_n 2, 1) := by decide +kernel
theorem d_Model_behindCharset_98 : decode prog_11_method_71_code 98 = .ok (.ireturn, 1) := by decide +kernel
theorem d_Model_behindCharset_99 : decode prog_11_method_71_code 99 = .ok (.iload_n 2, 1) := by decide +kernel
theorem d_Model_behindCharset_100 : decode prog_11_method_71_code 100 = .ok (.istore 6, 2) := by decide +kernel
theorem d_Model_behindCharset_102 : decode prog_11_method_71_code 102 = .ok (.iload 6, 2) := by decide +kernel
theorem d_Model_behindCharset_104 : decode prog_11_method_71_code 104 = .ok (.iload 4, 2) := by decide +kernel
theorem d_Model_behindCharset_106 : decode prog_11_method_71_code 106 = .ok (.if_icmp .ge 28, 3) := by decide +kernel
theorem d_Model_behindCharset_109 : decode prog_11_method_71_code 109 = .ok (.aload_n 0, 1) := by decide +kernel
theorem d_Model_behindCharset_110 : decode prog_11_method_71_code 110 = .ok (.getfield 89, 3) := by decide +kernel
theorem d_Model_behindCharset_113 : decode prog_11_method_71_code 113 = .ok (.iload 6, 2) := by decide +kernel
theorem d_Model_behindCharset_115 : decode prog_11_method_71_code 115 = .ok (.iload_n 2, 1) := by decide +kernel
theorem d_Model_behindCharset_116 : decode prog_11_method_71_code 116 = .ok (.isub, 1) := by decide +kernel
theorem d_Model_behindCharset_117 : decode prog_11_method_71_code 117 = .ok (.aload_n 0, 1) := by decide +kernel
theorem d_Model_behindCharset_118 : decode prog_11_method_71_code 118 = .ok (.getfield 83, 3) := by decide +kernel
theorem d_Model_behindCharset_121 : decode prog_11_method_71_code 121 = .ok (.iload 6, 2) := by decide +kernel
theorem d_Model_behindCharset_123 : decode prog_11_method_71_code 123 = .ok (.iaload, 1) := by decide +kernel
theorem d_Model_behindCharset_124 : decode prog_11_method_71_code 124 = .ok (.invokestatic 133, 3) := by decide +kernel
theorem d_Model_behindCharset_127 : decode prog_11_method_71_code 127 = .ok (.iastore, 1) := by decide +kernel
theorem d_Model_behindCharset_128 : decode prog_11_method_71_code 128 = .ok (.iinc 6 1, 3) := by decide +kernel
theorem d_Model_behindCharset_131 : decode prog_11_method_71_code 131 = .ok (.goto (-29), 3) := by decide +kernel
theorem d_Model_behindCharset_134 : decode prog_11_method_71_code 134 = .ok (.aload_n 0, 1) := by decide +kernel
theorem d_Model_behindCharset_135 : decode prog_11_method_71_code 135 = .ok (.iload 4, 2) := by decide +kernel
theorem d_Model_behindCharset_137 : decode prog_11_method_71_code 137 = .ok (.iload_n 2, 1) := by decide +kernel
theorem d_Model_behindCharset_138 : decode prog_11_method_71_code 138 = .ok (.isub, 1) := by decide +kernel
theorem d_Model_behindCharset_139 : decode prog_11_method_71_code 139 = .ok (.putfield 96, 3) := by decide +kernel
theorem d_Model_behindCharset_142 : decode prog_11_method_71_code 142 = .ok (.iload 5, 2) := by decide +kernel
theorem d_Model_behindCharset_144 : decode prog_11_method_71_code 144 = .ok (.iconst 1, 1) := by decide +kernel
theorem d_Model_behindCharset_145 : decode prog_11_method_71_code 145 = .ok (.iadd, 1) := by decide +kernel
theorem d_Model_behindCharset_146 : decode prog_11_method_71_code 146 = .ok (.ireturn, 1) := by decide +kernel
theorem d_Model_isDigit_0 : decode prog_11_method_8_code 0 = .ok (.iload_n 0, 1) := by decide +kernel
theorem d_Model_isDigit_1 : decode prog_11_method_8_code 1 = .ok (.bipush 48, 2) := by decide +kernel
theorem d_Model_isDigit_3 : decode prog_11_method_8_code 3 = .ok (.if_icmp .lt 13, 3) := by decide +kernel
theorem d_Model_isDigit_6 : decode prog_11_method_8_code 6 = .ok (.iload_n 0, 1) := by decide +kernel
theorem d_Model_isDigit_7 : decode prog_11_method_8_code 7 = .ok (.bipush 57, 2) := by decide +kernel
theorem d_Model_isDigit_9 : decode prog_11_method_8_code 9 = .ok (.if_icmp .gt 7, 3) := by decide +kernel
theorem d_Model_isDigit_12 : decode prog_11_method_8_code 12 = .ok (.iconst 1, 1) := by decide +kernel
theorem d_Model_isDigit_13 : decode prog_11_method_8_code 13 = .ok (.goto 4, 3) := by decide +kernel
theorem d_Model_isDigit_16 : decode prog_11_method_8_code 16 = .ok (.iconst 0, 1) := by decide +kernel
theorem d_Model_isDigit_17 : decode prog_11_method_8_code 17 = .ok (.ireturn, 1) := by decide +kernel
theorem d_Model_sixteenth_0 : decode prog_11_method_70_code 0 = .ok (.iload_n 0, 1) := by decide +kernel
theorem d_Model_sixteenth_1 : decode prog_11_method_70_code 1 = .ok (.invokestatic 271, 3) := by decide +kernel
theorem d_Model_sixteenth_4 : decode prog_11_method_70_code 4 = .ok (.ifCond .eq 10, 3) := by decide +kernel
theorem d_Model_sixteenth_7 : decode prog_11_method_70_code 7 = .ok (.iload_n 0, 1) := by decide +kernel
theorem d_Model_sixteenth_8 : decode prog_11_method_70_code 8 = .ok (.bipush 48, 2) := by decide +kernel
theorem d_Model_sixteenth_10 : decode prog_11_method_70_code 10 = .ok (.isub, 1) := by decide +kernel
theorem d_Model_sixteenth_11 : decode prog_11_method_70_code 11 = .ok (.goto 48, 3) := by decide +kernel
theorem d_Model_sixteenth_14 : decode prog_11_method_70_code 14 = .ok (.iload_n 0, 1) := by decide +kernel
theorem d_Model_sixteenth_15 : decode prog_11_method_70_code 15 = .ok (.bipush 97, 2) := by decide +kernel
theorem d_Model_sixteenth_17 : decode prog_11_method_70_code 17 = .ok (.if_icmp .lt 19, 3) := by decide +kernel
theorem d_Model_sixteenth_20 : decode prog_11_method_70_code 20 = .ok (.iload_n 0, 1) := by decide +kernel
theorem d_Model_sixteenth_21 : decode prog_11_method_70_code 21 = .ok (.bipush 102, 2) := by decide +kernel
theorem d_Model_sixteenth_23 : decode prog_11_method_70_code 23 = .ok (.if_icmp .gt 13, 3) := by decide +kernel
theorem d_Model_sixteenth_26 : decode prog_11_method_70_code 26 = .ok (.iload_n 0, 1) := by decide +kernel
theorem d_Model_sixteenth_27 : decode prog_11_method_70_code 27 = .ok (.bipush 97, 2) := by decide +kernel
theorem d_Model_sixteenth_29 : decode prog_11_method_70_code 29 = .ok (.isub, 1) := by decide +kernel
theorem d_Model_sixteenth_30 : decode prog_11_method_70_code 30 = .ok (.bipush 10, 2) := by decide +kernel
theorem d_Model_sixteenth_32 : decode prog_11_method_70_code 32 = .ok (.iadd, 1) := by decide +kernel
theorem d_Model_sixteenth_33 : decode prog_11_method_70_code 33 = .ok (.goto 26, 3) := by decide +kernel
theorem d_Model_sixteenth_36 : decode prog_11_method_70_code 36 = .ok (.iload_n 0, 1) := by decide +kernel
theorem d_Model_sixteenth_37 : decode prog_11_method_70_code 37 = .ok (.bipush 65, 2) := by decide +kernel
theorem d_Model_sixteenth_39 : decode prog_11_method_70_code 39 = .ok (.if_icmp .lt 19, 3) := by decide +kernel
theorem d_Model_sixteenth_42 : decode prog_11_method_70_code 42 = .ok (.iload_n 0, 1) := by decide +kernel
theorem d_Model_sixteenth_43 : decode prog_11_method_70_code 43 = .ok (.bipush 70, 2) := by decide +kernel
theorem d_Model_sixteenth_45 : decode prog_11_method_70_code 45 = .ok (.if_icmp .gt 13, 3) := by decide +kernel
theorem d_Model_sixteenth_48 : decode prog_11_method_70_code 48 = .ok (.iload_n 0, 1) := by decide +kernel
theorem d_Model_sixteenth_49 : decode prog_11_method_70_code 49 = .ok (.bipush 65, 2) := by decide +kernel
theorem d_Model_sixteenth_51 : decode prog_11_method_70_code 51 = .ok (.isub, 1) := by decide +kernel
theorem d_Model_sixteenth_52 : decode prog_11_method_70_code 52 = .ok (.bipush 10, 2) := by decide +kernel
theorem d_Model_sixteenth_54 : decode prog_11_method_70_code 54 = .ok (.iadd, 1) := by decide +kernel
theorem d_Model_sixteenth_55 : decode prog_11_method_70_code 55 = .ok (.goto 4, 3) := by decide +kernel
theorem d_Model_sixteenth_58 : decode prog_11_method_70_code 58 = .ok (.iconst (-1), 1) := by decide +kernel
theorem d_Model_sixteenth_59 : decode prog_11_method_70_code 59 = .ok (.ireturn, 1) := by decide +kernel
theorem d_Model_takeValue_0 : decode prog_11_method_72_code 0 = .ok (.aload_n 0, 1) := by decide +kernel
theorem d_Model_takeValue_1 : decode prog_11_method_72_code 1 = .ok (.iload_n 1, 1) := by decide +kernel
theorem d_Model_takeValue_2 : decode prog_11_method_72_code 2 = .ok (.invokevirtual 359, 3) := by decide +kernel
theorem d_Model_takeValue_5 : decode prog_11_method_72_code 5 = .ok (.istore_n 2, 1) := by decide +kernel
theorem d_Model_takeValue_6 : decode prog_11_method_72_code 6 = .ok (.aload_n 0, 1) := by decide +kernel
theorem d_Model_takeValue_7 : decode prog_11_method_72_code 7 = .ok (.getfield 80, 3) := by decide +kernel
theorem d_Model_takeValue_10 : decode prog_11_method_72_code 10 = .ok (.iload_n 1, 1) := by decide +kernel
theorem d_Model_takeValue_11 : decode prog_11_method_72_code 11 = .ok (.iaload, 1) := by decide +kernel
theorem d_Model_takeValue_12 : decode prog_11_method_72_code 12 = .ok (.istore_n 3, 1) := by decide +kernel
theorem d_Model_takeValue_13 : decode prog_11_method_72_code 13 = .ok (.iload_n 2, 1) := by decide +kernel
theorem d_Model_takeValue_14 : decode prog_11_method_72_code 14 = .ok (.iload_n 3, 1) := by decide +kernel
theorem d_Model_takeValue_15 : decode prog_11_method_72_code 15 = .ok (.if_icmp .ge 140, 3) := by decide +kernel
theorem d_Model_takeValue_18 : decode prog_11_method_72_code 18 = .ok (.aload_n 0, 1) := by decide +kernel
theorem d_Model_takeValue_19 : decode prog_11_method_72_code 19 = .ok (.getfield 73, 3) := by decide +kernel
theorem d_Model_takeValue_22 : decode prog_11_method_72_code 22 = .ok (.iload_n 1, 1) := by decide +kernel
theorem d_Model_takeValue_23 : decode prog_11_method_72_code 23 = .ok (.baload, 1) := by decide +kernel
theorem d_Model_takeValue_24 : decode prog_11_method_72_code 24 = .ok (.ifCond .eq 53, 3) := by decide +kernel
theorem d_Model_takeValue_27 : decode prog_11_method_72_code 27 = .ok (.aload_n 0, 1) := by decide +kernel
theorem d_Model_takeValue_28 : decode prog_11_method_72_code 28 = .ok (.getfield 83, 3) := by decide +kernel
theorem d_Model_takeValue_31 : decode prog_11_method_72_code 31 = .ok (.iload_n 2, 1) := by decide +kernel
theorem d_Model_takeValue_32 : decode prog_11_method_72_code 32 = .ok (.iaload, 1) := by decide +kernel
theorem d_Model_takeValue_33 : decode prog_11_method_72_code 33 = .ok (.bipush 37, 2) := by decide +kernel
theorem d_Model_takeValue_35 : decode prog_11_method_72_code 35 = .ok (.if_icmp .ne 42, 3) := by decide +kernel
theorem d_Model_takeValue_38 : decode prog_11_method_72_code 38 = .ok (.iload_n 2, 1) := by decide +kernel
theorem d_Model_takeValue_39 : decode prog_11_method_72_code 39 = .ok (.iconst 2, 1) := by decide +kernel
theorem d_Model_takeValue_40 : decode prog_11_method_72_code 40 = .ok (.iadd, 1) := by decide +kernel
theorem d_Model_takeValue_41 : decode prog_11_method_72_code 41 = .ok (.iload_n 3, 1) := by decide +kernel
theorem d_Model_takeValue_42 : decode prog_11_method_72_code 42 = .ok (.if_icmp .ge 35, 3) := by decide +kernel
theorem d_Model_takeValue_45 : decode prog_11_method_72_code 45 = .ok (.aload_n 0, 1) := by decide +kernel
theorem d_Model_takeValue_46 : decode prog_11_method_72_code 46 = .ok (.getfield 83, 3) := by decide +kernel
theorem d_Model_takeValue_49 : decode prog_11_method_72_code 49 = .ok (.iload_n 2, 1) := by decide +kernel
theorem d_Model_takeValue_50 : decode prog_11_method_72_code 50 = .ok (.iconst 1, 1) := by decide +kernel
theorem d_Model_takeValue_51 : decode prog_11_method_72_code 51 = .ok (.iadd, 1) := by decide +kernel
theorem d_Model_takeValue_52 : decode prog_11_method_72_code 52 = .ok (.iaload, 1) := by decide +kernel
theorem d_Model_takeValue_53 : decode prog_11_method_72_code 53 = .ok (.invokestatic 362, 3) := by decide +kernel
theorem d_Model_takeValue_56 : decode prog_11_method_72_code 56 = .ok (.ifCond .lt 21, 3) := by decide +kernel
theorem d_Model_takeValue_59 : decode prog_11_method_72_code 59 = .ok (.aload_n 0, 1) := by decide +kernel
theorem d_Model_takeValue_60 : decode prog_11_method_72_code 60 = .ok (.getfield 83, 3) := by decide +kernel
theorem d_Model_takeValue_63 : decode prog_11_method_72_code 63 = .ok (.iload_n 2, 1) := by decide +kernel
theorem d_Model_takeValue_64 : decode prog_11_method_72_code 64 = .ok (.iconst 2, 1) := by decide +kernel
theorem d_Model_takeValue_65 : decode prog_11_method_72_code 65 = .ok (.iadd, 1) := by decide +kernel
theorem d_Model_takeValue_66 : decode prog_11_method_72_code 66 = .ok (.iaload, 1) := by decide +kernel
theorem d_Model_takeValue_67 : decode prog_11_method_72_code 67 = .ok (.invokestatic 362, 3) := by decide +kernel
theorem d_Model_takeValue_70 : decode prog_11_method_72_code 70 = .ok (.ifCond .lt 7, 3) := by decide +kernel
theorem d_Model_takeValue_73 : decode prog_11_method_72_code 73 = .ok (.iconst 1, 1) := by decide +kernel
theorem d_Model_takeValue_74 : decode prog_11_method_72_code 74 = .ok (.goto 4, 3) := by decide +kernel
theorem d_Model_takeValue_77 : decode prog_11_method_72_code 77 = .ok (.iconst 0, 1) := by decide +kernel
theorem d_Model_takeValue_78 : decode prog_11_method_72_code 78 = .ok (.istore 4, 2) := by decide +kernel
theorem d_Model_takeValue_80 : decode prog_11_method_72_code 80 = .ok (.aload_n 0, 1) := by decide +kernel
theorem d_Model_takeValue_81 : decode prog_11_method_72_code 81 = .ok (.getfield 86, 3) := by decide +kernel
theorem d_Model_takeValue_84 : decode prog_11_method_72_code 84 = .ok (.aload_n 0, 1) := by decide +kernel
theorem d_Model_takeValue_85 : decode prog_11_method_72_code 85 = .ok (.getfield 92, 3) := by decide +kernel
theorem d_Model_takeValue_88 : decode prog_11_method_72_code 88 = .ok (.iload 4, 2) := by decide +kernel
theorem d_Model_takeValue_90 : decode prog_11_method_72_code 90 = .ok (.ifCond .eq 32, 3) := by decide +kernel
theorem d_Model_takeValue_93 : decode prog_11_method_72_code 93 = .ok (.bipush 16, 2) := by decide +kernel
theorem d_Model_takeValue_95 : decode prog_11_method_72_code 95 = .ok (.aload_n 0, 1) := by decide +kernel
theorem d_Model_takeValue_96 : decode prog_11_method_72_code 96 = .ok (.getfield 83, 3) := by decide +kernel
theorem d_Model_takeValue_99 : decode prog_11_method_72_code 99 = .ok (.iload_n 2, 1) := by decide +kernel
theorem d_Model_takeValue_100 : decode prog_11_method_72_code 100 = .ok (.iconst 1, 1) := by decide +kernel
theorem d_Model_takeValue_101 : decode prog_11_method_72_code 101 = .ok (.iadd, 1) := by decide +kernel
theorem d_Model_takeValue_102 : decode prog_11_method_72_code 102 = .ok (.iaload, 1) := by decide +kernel
theorem d_Model_takeValue_103 : decode prog_11_method_72_code 103 = .ok (.invokestatic 362, 3) := by decide +kernel
theorem d_Model_takeValue_106 : decode prog_11_method_72_code 106 = .ok (.imul, 1) := by decide +kernel
theorem d_Model_takeValue_107 : decode prog_11_method_72_code 107 = .ok (.aload_n 0, 1) := by decide +kernel
theorem d_Model_takeValue_108 : decode prog_11_method_72_code 108 = .ok (.getfield 83, 3) := by decide +kernel
theorem d_Model_takeValue_111 : decode prog_11_method_72_code 111 = .ok (.iload_n 2, 1) := by decide +kernel
theorem d_Model_takeValue_112 : decode prog_11_method_72_code 112 = .ok (.iconst 2, 1) := by decide +kernel
theorem d_Model_takeValue_113 : decode prog_11_method_72_code 113 = .ok (.iadd, 1) := by decide +kernel
theorem d_Model_takeValue_114 : decode prog_11_method_72_code 114 = .ok (.iaload, 1) := by decide +kernel
theorem d_Model_takeValue_115 : decode prog_11_method_72_code 115 = .ok (.invokestatic 362, 3) := by decide +kernel
theorem d_Model_takeValue_118 : decode prog_11_method_72_code 118 = .ok (.iadd, 1) := by decide +kernel
theorem d_Model_takeValue_119 : decode prog_11_method_72_code 119 = .ok (.goto 9, 3) := by decide +kernel
theorem d_Model_takeValue_122 : decode prog_11_method_72_code 122 = .ok (.aload_n 0, 1) := by decide +kernel
theorem d_Model_takeValue_123 : decode prog_11_method_72_code 123 = .ok (.getfield 83, 3) := by decide +kernel
theorem d_Model_takeValue_126 : decode prog_11_method_72_code 126 = .ok (.iload_n 2, 1) := by decide +kernel
theorem d_Model_takeValue_127 : decode prog_11_method_72_code 127 = .ok (.iaload, 1) := by decide +kernel
theorem d_Model_takeValue_128 : decode prog_11_method_72_code 128 = .ok (.iastore, 1) := by decide +kernel
theorem d_Model_takeValue_129 : decode prog_11_method_72_code 129 = .ok (.aload_n 0, 1) := by decide +kernel
theorem d_Model_takeValue_130 : decode prog_11_method_72_code 130 = .ok (.dup, 1) := by decide +kernel
theorem d_Model_takeValue_131 : decode prog_11_method_72_code 131 = .ok (.getfield 92, 3) := by decide +kernel
theorem d_Model_takeValue_134 : decode prog_11_method_72_code 134 = .ok (.iconst 1, 1) := by decide +kernel
theorem d_Model_takeValue_135 : decode prog_11_method_72_code 135 = .ok (.iadd, 1) := by decide +kernel
theorem d_Model_takeValue_136 : decode prog_11_method_72_code 136 = .ok (.putfield 92, 3) := by decide +kernel
theorem d_Model_takeValue_139 : decode prog_11_method_72_code 139 = .ok (.iload_n 2, 1) := by decide +kernel
theorem d_Model_takeValue_140 : decode prog_11_method_72_code 140 = .ok (.iload 4, 2) := by decide +kernel
theorem d_Model_takeValue_142 : decode prog_11_method_72_code 142 = .ok (.ifCond .eq 7, 3) := by decide +kernel
theorem d_Model_takeValue_145 : decode prog_11_method_72_code 145 = .ok (.iconst 3, 1) := by decide +kernel
theorem d_Model_takeValue_146 : decode prog_11_method_72_code 146 = .ok (.goto 4, 3) := by decide +kernel
theorem d_Model_takeValue_149 : decode prog_11_method_72_code 149 = .ok (.iconst 1, 1) := by decide +kernel
theorem d_Model_takeValue_150 : decode prog_11_method_72_code 150 = .ok (.iadd, 1) := by decide +kernel
theorem d_Model_takeValue_151 : decode prog_11_method_72_code 151 = .ok (.istore_n 2, 1) := by decide +kernel
theorem d_Model_takeValue_152 : decode prog_11_method_72_code 152 = .ok (.goto (-139), 3) := by decide +kernel
theorem d_Model_takeValue_155 : decode prog_11_method_72_code 155 = .ok (.return_, 1) := by decide +kernel
theorem d_Model_parameter_0 : decode prog_11_method_73_code 0 = .ok (.aload_n 0, 1) := by decide +kernel
theorem d_Model_parameter_1 : decode prog_11_method_73_code 1 = .ok (.iconst 0, 1) := by decide +kernel
theorem d_Model_parameter_2 : decode prog_11_method_73_code 2 = .ok (.putfield 99, 3) := by decide +kernel
theorem d_Model_parameter_5 : decode prog_11_method_73_code 5 = .ok (.aload_n 0, 1) := by decide +kernel
theorem d_Model_parameter_6 : decode prog_11_method_73_code 6 = .ok (.getfield 106, 3) := by decide +kernel
theorem d_Model_parameter_9 : decode prog_11_method_73_code 9 = .ok (.istore_n 1, 1) := by decide +kernel
theorem d_Model_parameter_10 : decode prog_11_method_73_code 10 = .ok (.aload_n 0, 1) := by decide +kernel
theorem d_Model_parameter_11 : decode prog_11_method_73_code 11 = .ok (.iconst 0, 1) := by decide +kernel
theorem d_Model_parameter_12 : decode prog_11_method_73_code 12 = .ok (.putfield 106, 3) := by decide +kernel
theorem d_Model_parameter_15 : decode prog_11_method_73_code 15 = .ok (.aload_n 0, 1) := by decide +kernel
theorem d_Model_parameter_16 : decode prog_11_method_73_code 16 = .ok (.iconst (-1), 1) := by decide +kernel
theorem d_Model_parameter_17 : decode prog_11_method_73_code 17 = .ok (.putfield 92, 3) := by decide +kernel
theorem d_Model_parameter_20 : decode prog_11_method_73_code 20 = .ok (.aload_n 0, 1) := by decide +kernel
theorem d_Model_parameter_21 : decode prog_11_method_73_code 21 = .ok (.iconst (-1), 1) := by decide +kernel
theorem d_Model_parameter_22 : decode prog_11_method_73_code 22 = .ok (.putfield 96, 3) := by decide +kernel
theorem d_Model_parameter_25 : decode prog_11_method_73_code 25 = .ok (.aload_n 0, 1) := by decide +kernel
theorem d_Model_parameter_26 : decode prog_11_method_73_code 26 = .ok (.iload_n 1, 1) := by decide +kernel
theorem d_Model_parameter_27 : decode prog_11_method_73_code 27 = .ok (.iconst (-1), 1) := by decide +kernel
theorem d_Model_parameter_28 : decode prog_11_method_73_code 28 = .ok (.invokevirtual 365, 3) := by decide +kernel
theorem d_Model_parameter_31 : decode prog_11_method_73_code 31 = .ok (.istore_n 2, 1) := by decide +kernel
theorem d_Model_parameter_32 : decode prog_11_method_73_code 32 = .ok (.iload_n 2, 1) := by decide +kernel
theorem d_Model_parameter_33 : decode prog_11_method_73_code 33 = .ok (.iconst (-1), 1) := by decide +kernel
theorem d_Model_parameter_34 : decode prog_11_method_73_code 34 = .ok (.if_icmp .eq 7, 3) := by decide +kernel
theorem d_Model_parameter_37 : decode prog_11_method_73_code 37 = .ok (.iconst 1, 1) := by decide +kernel
theorem d_Model_parameter_38 : decode prog_11_method_73_code 38 = .ok (.goto 4, 3) := by decide +kernel
theorem d_Model_parameter_41 : decode prog_11_method_73_code 41 = .ok (.iconst 0, 1) := by decide +kernel
theorem d_Model_parameter_42 : decode prog_11_method_73_code 42 = .ok (.istore_n 3, 1) := by decide +kernel
theorem d_Model_parameter_43 : decode prog_11_method_73_code 43 = .ok (.iload_n 3, 1) := by decide +kernel
theorem d_Model_parameter_44 : decode prog_11_method_73_code 44 = .ok (.ifCond .ne 10, 3) := by decide +kernel
theorem d_Model_parameter_47 : decode prog_11_method_73_code 47 = .ok (.aload_n 0, 1) := by decide +kernel
theorem d_Model_parameter_48 : decode prog_11_method_73_code 48 = .ok (.iload_n 1, 1) := by decide +kernel
theorem d_Model_parameter_49 : decode prog_11_method_73_code 49 = .ok (.iconst 0, 1) := by decide +kernel
theorem d_Model_parameter_50 : decode prog_11_method_73_code 50 = .ok (.invokevirtual 365, 3) := by decide +kernel
theorem d_Model_parameter_53 : decode prog_11_method_73_code 53 = .ok (.istore_n 2, 1) := by decide +kernel
theorem d_Model_parameter_54 : decode prog_11_method_73_code 54 = .ok (.iload_n 2, 1) := by decide +kernel
theorem d_Model_parameter_55 : decode prog_11_method_73_code 55 = .ok (.iconst (-1), 1) := by decide +kernel
theorem d_Model_parameter_56 : decode prog_11_method_73_code 56 = .ok (.if_icmp .ne 5, 3) := by decide +kernel
theorem d_Model_parameter_59 : decode prog_11_method_73_code 59 = .ok (.iconst (-1), 1) := by decide +kernel
theorem d_Model_parameter_60 : decode prog_11_method_73_code 60 = .ok (.ireturn, 1) := by decide +kernel
theorem d_Model_parameter_61 : decode prog_11_method_73_code 61 = .ok (.aload_n 0, 1) := by decide +kernel
theorem d_Model_parameter_62 : decode prog_11_method_73_code 62 = .ok (.iconst 0, 1) := by decide +kernel
theorem d_Model_parameter_63 : decode prog_11_method_73_code 63 = .ok (.putfield 92, 3) := by decide +kernel
theorem d_Model_parameter_66 : decode prog_11_method_73_code 66 = .ok (.aload_n 0, 1) := by decide +kernel
theorem d_Model_parameter_67 : decode prog_11_method_73_code 67 = .ok (.iconst 0, 1) := by decide +kernel
theorem d_Model_parameter_68 : decode prog_11_method_73_code 68 = .ok (.putfield 96, 3) := by decide +kernel
theorem d_Model_parameter_71 : decode prog_11_method_73_code 71 = .ok (.aload_n 0, 1) := by decide +kernel
theorem d_Model_parameter_72 : decode prog_11_method_73_code 72 = .ok (.iload_n 2, 1) := by decide +kernel
theorem d_Model_parameter_73 : decode prog_11_method_73_code 73 = .ok (.invokevirtual 368, 3) := by decide +kernel
theorem d_Model_parameter_76 : decode prog_11_method_73_code 76 = .ok (.iconst 1, 1) := by decide +kernel
theorem d_Model_parameter_77 : decode prog_11_method_73_code 77 = .ok (.istore 4, 2) := by decide +kernel
theorem d_Model_parameter_79 : decode prog_11_method_73_code 79 = .ok (.iload 4, 2) := by decide +kernel
theorem d_Model_parameter_81 : decode prog_11_method_73_code 81 = .ok (.bipush 10, 2) := by decide +kernel
theorem d_Model_parameter_83 : decode prog_11_method_73_code 83 = .ok (.if_icmp .ge 38, 3) := by decide +kernel
theorem d_Model_parameter_86 : decode prog_11_method_73_code 86 = .ok (.iload_n 3, 1) := by decide +kernel
theorem d_Model_parameter_87 : decode prog_11_method_73_code 87 = .ok (.ifCond .ne 34, 3) := by decide +kernel
theorem d_Model_parameter_90 : decode prog_11_method_73_code 90 = .ok (.aload_n 0, 1) := by decide +kernel
theorem d_Model_parameter_91 : decode prog_11_method_73_code 91 = .ok (.iload_n 1, 1) := by decide +kernel
theorem d_Model_parameter_92 : decode prog_11_method_73_code 92 = .ok (.iload 4, 2) := by decide +kernel
theorem d_Model_parameter_94 : decode prog_11_method_73_code 94 = .ok (.invokevirtual 365, 3) := by decide +kernel
theorem d_Model_parameter_97 : decode prog_11_method_73_code 97 = .ok (.istore_n 2, 1) := by decide +kernel
theorem d_Model_parameter_98 : decode prog_11_method_73_code 98 = .ok (.iload_n 2, 1) := by decide +kernel
theorem d_Model_parameter_99 : decode prog_11_method_73_code 99 = .ok (.iconst (-1), 1) := by decide +kernel
theorem d_Model_parameter_100 : decode prog_11_method_73_code 100 = .ok (.if_icmp .ne 10, 3) := by decide +kernel
theorem d_Model_parameter_103 : decode prog_11_method_73_code 103 = .ok (.bipush 10, 2) := by decide +kernel
theorem d_Model_parameter_105 : decode prog_11_method_73_code 105 = .ok (.istore 4, 2) := by decide +kernel
theorem d_Model_parameter_107 : decode prog_11_method_73_code 107 = .ok (.goto 8, 3) := by decide +kernel
theorem d_Model_parameter_110 : decode prog_11_method_73_code 110 = .ok (.aload_n 0, 1) := by decide +kernel
theorem d_Model_parameter_111 : decode prog_11_method_73_code 111 = .ok (.iload_n 2, 1) := by decide +kernel
theorem d_Model_parameter_112 : decode prog_11_method_73_code 112 = .ok (.invokevirtual 368, 3) := by decide +kernel
theorem d_Model_parameter_115 : decode prog_11_method_73_code 115 = .ok (.iinc 4 1, 3) := by decide +kernel
theorem d_Model_parameter_118 : decode prog_11_method_73_code 118 = .ok (.goto (-39), 3) := by decide +kernel
theorem d_Model_parameter_121 : decode prog_11_method_73_code 121 = .ok (.aload_n 0, 1) := by decide +kernel
theorem d_Model_parameter_122 : decode prog_11_method_73_code 122 = .ok (.getfield 92, 3) := by decide +kernel
theorem d_Model_parameter_125 : decode prog_11_method_73_code 125 = .ok (.ireturn, 1) := by decide +kernel
theorem d_Model_is_0 : decode prog_11_method_27_code 0 = .ok (.aload_n 0, 1) := by decide +kernel
theorem d_Model_is_1 : decode prog_11_method_27_code 1 = .ok (.getfield 31, 3) := by decide +kernel
theorem d_Model_is_4 : decode prog_11_method_27_code 4 = .ok (.iload_n 1, 1) := by decide +kernel
theorem d_Model_is_5 : decode prog_11_method_27_code 5 = .ok (.iaload, 1) := by decide +kernel
theorem d_Model_is_6 : decode prog_11_method_27_code 6 = .ok (.iconst 3, 1) := by decide +kernel
theorem d_Model_is_7 : decode prog_11_method_27_code 7 = .ok (.if_icmp .ne 17, 3) := by decide +kernel
theorem d_Model_is_10 : decode prog_11_method_27_code 10 = .ok (.aload_n 0, 1) := by decide +kernel
theorem d_Model_is_11 : decode prog_11_method_27_code 11 = .ok (.getfield 34, 3) := by decide +kernel
theorem d_Model_is_14 : decode prog_11_method_27_code 14 = .ok (.iload_n 1, 1) := by decide +kernel
theorem d_Model_is_15 : decode prog_11_method_27_code 15 = .ok (.iaload, 1) := by decide +kernel
theorem d_Model_is_16 : decode prog_11_method_27_code 16 = .ok (.iload_n 2, 1) := by decide +kernel
theorem d_Model_is_17 : decode prog_11_method_27_code 17 = .ok (.if_icmp .ne 7, 3) := by decide +kernel
theorem d_Model_is_20 : decode prog_11_method_27_code 20 = .ok (.iconst 1, 1) := by decide +kernel
theorem d_Model_is_21 : decode prog_11_method_27_code 21 = .ok (.goto 4, 3) := by decide +kernel
theorem d_Model_is_24 : decode prog_11_method_27_code 24 = .ok (.iconst 0, 1) := by decide +kernel
theorem d_Model_is_25 : decode prog_11_method_27_code 25 = .ok (.ireturn, 1) := by decide +kernel
theorem d_Model_areaOf_0 : decode prog_11_method_30_code 0 = .ok (.iload_n 0, 1) := by decide +kernel
theorem d_Model_areaOf_1 : decode prog_11_method_30_code 1 = .ok (.iconst 4, 1) := by decide +kernel
theorem d_Model_areaOf_2 : decode prog_11_method_30_code 2 = .ok (.if_icmp .ge 7, 3) := by decide +kernel
theorem d_Model_areaOf_5 : decode prog_11_method_30_code 5 = .ok (.iconst 0, 1) := by decide +kernel
theorem d_Model_areaOf_6 : decode prog_11_method_30_code 6 = .ok (.goto 13, 3) := by decide +kernel
theorem d_Model_areaOf_9 : decode prog_11_method_30_code 9 = .ok (.iload_n 0, 1) := by decide +kernel
theorem d_Model_areaOf_10 : decode prog_11_method_30_code 10 = .ok (.iconst 4, 1) := by decide +kernel
theorem d_Model_areaOf_11 : decode prog_11_method_30_code 11 = .ok (.if_icmp .ne 7, 3) := by decide +kernel
theorem d_Model_areaOf_14 : decode prog_11_method_30_code 14 = .ok (.iconst 1, 1) := by decide +kernel
theorem d_Model_areaOf_15 : decode prog_11_method_30_code 15 = .ok (.goto 4, 3) := by decide +kernel
theorem d_Model_areaOf_18 : decode prog_11_method_30_code 18 = .ok (.iconst 2, 1) := by decide +kernel
theorem d_Model_areaOf_19 : decode prog_11_method_30_code 19 = .ok (.ireturn, 1) := by decide +kernel
theorem d_Model_roomAt_0 : decode prog_11_method_31_code 0 = .ok (.sipush 6000, 3) := by decide +kernel
theorem d_Model_roomAt_3 : decode prog_11_method_31_code 3 = .ok (.iload_n 1, 1) := by decide +kernel
theorem d_Model_roomAt_4 : decode prog_11_method_31_code 4 = .ok (.invokestatic 185, 3) := by decide +kernel
theorem d_Model_roomAt_7 : decode prog_11_method_31_code 7 = .ok (.imul, 1) := by decide +kernel
theorem d_Model_roomAt_8 : decode prog_11_method_31_code 8 = .ok (.aload_n 0, 1) := by decide +kernel
theorem d_Model_roomAt_9 : decode prog_11_method_31_code 9 = .ok (.getfield 49, 3) := by decide +kernel
theorem d_Model_roomAt_12 : decode prog_11_method_31_code 12 = .ok (.iload_n 1, 1) := by decide +kernel
theorem d_Model_roomAt_13 : decode prog_11_method_31_code 13 = .ok (.invokestatic 185, 3) := by decide +kernel
theorem d_Model_roomAt_16 : decode prog_11_method_31_code 16 = .ok (.iaload, 1) := by decide +kernel
theorem d_Model_roomAt_17 : decode prog_11_method_31_code 17 = .ok (.iadd, 1) := by decide +kernel
theorem d_Model_roomAt_18 : decode prog_11_method_31_code 18 = .ok (.ireturn, 1) := by decide +kernel
theorem d_Model_beginPart_0 : decode prog_11_method_32_code 0 = .ok (.sipush 1000, 3) := by decide +kernel
theorem d_Model_beginPart_3 : decode prog_11_method_32_code 3 = .ok (.iload_n 1, 1) := by decide +kernel
theorem d_Model_beginPart_4 : decode prog_11_method_32_code 4 = .ok (.imul, 1) := by decide +kernel
theorem d_Model_beginPart_5 : decode prog_11_method_32_code 5 = .ok (.aload_n 0, 1) := by decide +kernel
theorem d_Model_beginPart_6 : decode prog_11_method_32_code 6 = .ok (.getfield 52, 3) := by decide +kernel
theorem d_Model_beginPart_9 : decode prog_11_method_32_code 9 = .ok (.iload_n 1, 1) := by decide +kernel
theorem d_Model_beginPart_10 : decode prog_11_method_32_code 10 = .ok (.iaload, 1) := by decide +kernel
theorem d_Model_beginPart_11 : decode prog_11_method_32_code 11 = .ok (.iadd, 1) := by decide +kernel
theorem d_Model_beginPart_12 : decode prog_11_method_32_code 12 = .ok (.istore_n 2, 1) := by decide +kernel
theorem d_Model_beginPart_13 : decode prog_11_method_32_code 13 = .ok (.aload_n 0, 1) := by decide +kernel
theorem d_Model_beginPart_14 : decode prog_11_method_32_code 14 = .ok (.getfield 55, 3) := by decide +kernel
theorem d_Model_beginPart_17 : decode prog_11_method_32_code 17 = .ok (.iload_n 2, 1) := by decide +kernel
theorem d_Model_beginPart_18 : decode prog_11_method_32_code 18 = .ok (.aload_n 0, 1) := by decide +kernel
theorem d_Model_beginPart_19 : decode prog_11_method_32_code 19 = .ok (.iload_n 1, 1) := by decide +kernel
theorem d_Model_beginPart_20 : decode prog_11_method_32_code 20 = .ok (.invokevirtual 188, 3) := by decide +kernel
theorem d_Model_beginPart_23 : decode prog_11_method_32_code 23 = .ok (.iastore, 1) := by decide +kernel
theorem d_Model_beginPart_24 : decode prog_11_method_32_code 24 = .ok (.aload_n 0, 1) := by decide +kernel
theorem d_Model_beginPart_25 : decode prog_11_method_32_code 25 = .ok (.getfield 58, 3) := by decide +kernel
theorem d_Model_beginPart_28 : decode prog_11_method_32_code 28 = .ok (.iload_n 2, 1) := by decide +kernel
theorem d_Model_beginPart_29 : decode prog_11_method_32_code 29 = .ok (.iconst 0, 1) := by decide +kernel
theorem d_Model_beginPart_30 : decode prog_11_method_32_code 30 = .ok (.iastore, 1) := by decide +kernel
theorem d_Model_beginPart_31 : decode prog_11_method_32_code 31 = .ok (.return_, 1) := by decide +kernel
theorem d_Model_add_0 : decode prog_11_method_33_code 0 = .ok (.aload_n 0, 1) := by decide +kernel
theorem d_Model_add_1 : decode prog_11_method_33_code 1 = .ok (.getfield 46, 3) := by decide +kernel
theorem d_Model_add_4 : decode prog_11_method_33_code 4 = .ok (.aload_n 0, 1) := by decide +kernel
theorem d_Model_add_5 : decode prog_11_method_33_code 5 = .ok (.iload_n 1, 1) := by decide +kernel
theorem d_Model_add_6 : decode prog_11_method_33_code 6 = .ok (.invokevirtual 188, 3) := by decide +kernel
theorem d_Model_add_9 : decode prog_11_method_33_code 9 = .ok (.iload_n 2, 1) := by decide +kernel
theorem d_Model_add_10 : decode prog_11_method_33_code 10 = .ok (.iastore, 1) := by decide +kernel
theorem d_Model_add_11 : decode prog_11_method_33_code 11 = .ok (.aload_n 0, 1) := by decide +kernel
theorem d_Model_add_12 : decode prog_11_method_33_code 12 = .ok (.getfield 49, 3) := by decide +kernel
theorem d_Model_add_15 : decode prog_11_method_33_code 15 = .ok (.iload_n 1, 1) := by decide +kernel
theorem d_Model_add_16 : decode prog_11_method_33_code 16 = .ok (.invokestatic 185, 3) := by decide +kernel
theorem d_Model_add_19 : decode prog_11_method_33_code 19 = .ok (.dup2, 1) := by decide +kernel
theorem d_Model_add_20 : decode prog_11_method_33_code 20 = .ok (.iaload, 1) := by decide +kernel
theorem d_Model_add_21 : decode prog_11_method_33_code 21 = .ok (.iconst 1, 1) := by decide +kernel
theorem d_Model_add_22 : decode prog_11_method_33_code 22 = .ok (.iadd, 1) := by decide +kernel
theorem d_Model_add_23 : decode prog_11_method_33_code 23 = .ok (.iastore, 1) := by decide +kernel
theorem d_Model_add_24 : decode prog_11_method_33_code 24 = .ok (.aload_n 0, 1) := by decide +kernel
theorem d_Model_add_25 : decode prog_11_method_33_code 25 = .ok (.getfield 58, 3) := by decide +kernel
theorem d_Model_add_28 : decode prog_11_method_33_code 28 = .ok (.sipush 1000, 3) := by decide +kernel
theorem d_Model_add_31 : decode prog_11_method_33_code 31 = .ok (.iload_n 1, 1) := by decide +kernel
theorem d_Model_add_32 : decode prog_11_method_33_code 32 = .ok (.imul, 1) := by decide +kernel
theorem d_Model_add_33 : decode prog_11_method_33_code 33 = .ok (.aload_n 0, 1) := by decide +kernel
theorem d_Model_add_34 : decode prog_11_method_33_code 34 = .ok (.getfield 52, 3) := by decide +kernel
theorem d_Model_add_37 : decode prog_11_method_33_code 37 = .ok (.iload_n 1, 1) := by decide +kernel
theorem d_Model_add_38 : decode prog_11_method_33_code 38 = .ok (.iaload, 1) := by decide +kernel
theorem d_Model_add_39 : decode prog_11_method_33_code 39 = .ok (.iadd, 1) := by decide +kernel
theorem d_Model_add_40 : decode prog_11_method_33_code 40 = .ok (.dup2, 1) := by decide +kernel
theorem d_Model_add_41 : decode prog_11_method_33_code 41 = .ok (.iaload, 1) := by decide +kernel
theorem d_Model_add_42 : decode prog_11_method_33_code 42 = .ok (.iconst 1, 1) := by decide +kernel
theorem d_Model_add_43 : decode prog_11_method_33_code 43 = .ok (.iadd, 1) := by decide +kernel
theorem d_Model_add_44 : decode prog_11_method_33_code 44 = .ok (.iastore, 1) := by decide +kernel
theorem d_Model_add_45 : decode prog_11_method_33_code 45 = .ok (.return_, 1) := by decide +kernel
theorem d_Model_addWord_0 : decode prog_11_method_34_code 0 = .ok (.aload_n 0, 1) := by decide +kernel
theorem d_Model_addWord_1 : decode prog_11_method_34_code 1 = .ok (.getfield 37, 3) := by decide +kernel
theorem d_Model_addWord_4 : decode prog_11_method_34_code 4 = .ok (.iload_n 2, 1) := by decide +kernel
theorem d_Model_addWord_5 : decode prog_11_method_34_code 5 = .ok (.iaload, 1) := by decide +kernel
theorem d_Model_addWord_6 : decode prog_11_method_34_code 6 = .ok (.istore_n 3, 1) := by decide +kernel
theorem d_Model_addWord_7 : decode prog_11_method_34_code 7 = .ok (.iload_n 3, 1) := by decide +kernel
theorem d_Model_addWord_8 : decode prog_11_method_34_code 8 = .ok (.aload_n 0, 1) := by decide +kernel
theorem d_Model_addWord_9 : decode prog_11_method_34_code 9 = .ok (.getfield 40, 3) := by decide +kernel
theorem d_Model_addWord_12 : decode prog_11_method_34_code 12 = .ok (.iload_n 2, 1) := by decide +kernel
theorem d_Model_addWord_13 : decode prog_11_method_34_code 13 = .ok (.iaload, 1) := by decide +kernel
theorem d_Model_addWord_14 : decode prog_11_method_34_code 14 = .ok (.if_icmp .ge 20, 3) := by decide +kernel
theorem d_Model_addWord_17 : decode prog_11_method_34_code 17 = .ok (.aload_n 0, 1) := by decide +kernel
theorem d_Model_addWord_18 : decode prog_11_method_34_code 18 = .ok (.iload_n 1, 1) := by decide +kernel
theorem d_Model_addWord_19 : decode prog_11_method_34_code 19 = .ok (.aload_n 0, 1) := by decide +kernel
theorem d_Model_addWord_20 : decode prog_11_method_34_code 20 = .ok (.getfield 43, 3) := by decide +kernel
theorem d_Model_addWord_23 : decode prog_11_method_34_code 23 = .ok (.iload_n 3, 1) := by decide +kernel
theorem d_Model_addWord_24 : decode prog_11_method_34_code 24 = .ok (.iaload, 1) := by decide +kernel
theorem d_Model_addWord_25 : decode prog_11_method_34_code 25 = .ok (.invokevirtual 191, 3) := by decide +kernel
theorem d_Model_addWord_28 : decode prog_11_method_34_code 28 = .ok (.iinc 3 1, 3) := by decide +kernel
theorem d_Model_addWord_31 : decode prog_11_method_34_code 31 = .ok (.goto (-24), 3) := by decide +kernel
theorem d_Model_addWord_34 : decode prog_11_method_34_code 34 = .ok (.return_, 1) := by decide +kernel
theorem d_Model_next_0 : decode prog_11_method_28_code 0 = .ok (.iload_n 1, 1) := by decide +kernel
theorem d_Model_next_1 : decode prog_11_method_28_code 1 = .ok (.istore_n 3, 1) := by decide +kernel
theorem d_Model_next_2 : decode prog_11_method_28_code 2 = .ok (.iload_n 3, 1) := by decide +kernel
theorem d_Model_next_3 : decode prog_11_method_28_code 3 = .ok (.iload_n 2, 1) := by decide +kernel
theorem d_Model_next_4 : decode prog_11_method_28_code 4 = .ok (.if_icmp .ge 18, 3) := by decide +kernel
theorem d_Model_next_7 : decode prog_11_method_28_code 7 = .ok (.aload_n 0, 1) := by decide +kernel
theorem d_Model_next_8 : decode prog_11_method_28_code 8 = .ok (.getfield 31, 3) := by decide +kernel
theorem d_Model_next_11 : decode prog_11_method_28_code 11 = .ok (.iload_n 3, 1) := by decide +kernel
theorem d_Model_next_12 : decode prog_11_method_28_code 12 = .ok (.iaload, 1) := by decide +kernel
theorem d_Model_next_13 : decode prog_11_method_28_code 13 = .ok (.ifCond .ne 9, 3) := by decide +kernel
theorem d_Model_next_16 : decode prog_11_method_28_code 16 = .ok (.iinc 3 1, 3) := by decide +kernel
theorem d_Model_next_19 : decode prog_11_method_28_code 19 = .ok (.goto (-17), 3) := by decide +kernel
theorem d_Model_next_22 : decode prog_11_method_28_code 22 = .ok (.iload_n 3, 1) := by decide +kernel
theorem d_Model_next_23 : decode prog_11_method_28_code 23 = .ok (.ireturn, 1) := by decide +kernel
theorem d_Model_endPart_0 : decode prog_11_method_35_code 0 = .ok (.aload_n 0, 1) := by decide +kernel
theorem d_Model_endPart_1 : decode prog_11_method_35_code 1 = .ok (.getfield 52, 3) := by decide +kernel
theorem d_Model_endPart_4 : decode prog_11_method_35_code 4 = .ok (.iload_n 1, 1) := by decide +kernel
theorem d_Model_endPart_5 : decode prog_11_method_35_code 5 = .ok (.dup2, 1) := by decide +kernel
theorem d_Model_endPart_6 : decode prog_11_method_35_code 6 = .ok (.iaload, 1) := by decide +kernel
theorem d_Model_endPart_7 : decode prog_11_method_35_code 7 = .ok (.iconst 1, 1) := by decide +kernel
theorem d_Model_endPart_8 : decode prog_11_method_35_code 8 = .ok (.iadd, 1) := by decide +kernel
theorem d_Model_endPart_9 : decode prog_11_method_35_code 9 = .ok (.iastore, 1) := by decide +kernel
theorem d_Model_endPart_10 : decode prog_11_method_35_code 10 = .ok (.return_, 1) := by decide +kernel
theorem d_Model_makeName_0 : decode prog_11_method_39_code 0 = .ok (.aload_n 0, 1) := by decide +kernel
theorem d_Model_makeName_1 : decode prog_11_method_39_code 1 = .ok (.iload_n 1, 1) := by decide +kernel
theorem d_Model_makeName_2 : decode prog_11_method_39_code 2 = .ok (.invokevirtual 204, 3) := by decide +kernel
theorem d_Model_makeName_5 : decode prog_11_method_39_code 5 = .ok (.iconst 0, 1) := by decide +kernel
theorem d_Model_makeName_6 : decode prog_11_method_39_code 6 = .ok (.istore 4, 2) := by decide +kernel
theorem d_Model_makeName_8 : decode prog_11_method_39_code 8 = .ok (.aload_n 0, 1) := by decide +kernel
theorem d_Model_makeName_9 : decode prog_11_method_39_code 9 = .ok (.iload_n 2, 1) := by decide +kernel
theorem d_Model_makeName_10 : decode prog_11_method_39_code 10 = .ok (.iload_n 3, 1) := by decide +kernel
theorem d_Model_makeName_11 : decode prog_11_method_39_code 11 = .ok (.invokevirtual 197, 3) := by decide +kernel
theorem d_Model_makeName_14 : decode prog_11_method_39_code 14 = .ok (.istore 5, 2) := by decide +kernel
theorem d_Model_makeName_16 : decode prog_11_method_39_code 16 = .ok (.iload 5, 2) := by decide +kernel
theorem d_Model_makeName_18 : decode prog_11_method_39_code 18 = .ok (.iload_n 3, 1) := by decide +kernel
theorem d_Model_makeName_19 : decode prog_11_method_39_code 19 = .ok (.if_icmp .ge 50, 3) := by decide +kernel
theorem d_Model_makeName_22 : decode prog_11_method_39_code 22 = .ok (.iload 4, 2) := by decide +kernel
theorem d_Model_makeName_24 : decode prog_11_method_39_code 24 = .ok (.ifCond .eq 21, 3) := by decide +kernel
theorem d_Model_makeName_27 : decode prog_11_method_39_code 27 = .ok (.aload_n 0, 1) := by decide +kernel
theorem d_Model_makeName_28 : decode prog_11_method_39_code 28 = .ok (.iload 5, 2) := by decide +kernel
theorem d_Model_makeName_30 : decode prog_11_method_39_code 30 = .ok (.bipush 46, 2) := by decide +kernel
theorem d_Model_makeName_32 : decode prog_11_method_39_code 32 = .ok (.invokevirtual 200, 3) := by decide +kernel
theorem d_Model_makeName_35 : decode prog_11_method_39_code 35 = .ok (.ifCond .ne 10, 3) := by decide +kernel
theorem d_Model_makeName_38 : decode prog_11_method_39_code 38 = .ok (.aload_n 0, 1) := by decide +kernel
theorem d_Model_makeName_39 : decode prog_11_method_39_code 39 = .ok (.iload_n 1, 1) := by decide +kernel
theorem d_Model_makeName_40 : decode prog_11_method_39_code 40 = .ok (.bipush 32, 2) := by decide +kernel
theorem d_Model_makeName_42 : decode prog_11_method_39_code 42 = .ok (.invokevirtual 191, 3) := by decide +kernel
theorem d_Model_makeName_45 : decode prog_11_method_39_code 45 = .ok (.aload_n 0, 1) := by decide +kernel
theorem d_Model_makeName_46 : decode prog_11_method_39_code 46 = .ok (.iload_n 1, 1) := by decide +kernel
theorem d_Model_makeName_47 : decode prog_11_method_39_code 47 = .ok (.iload 5, 2) := by decide +kernel
theorem d_Model_makeName_49 : decode prog_11_method_39_code 49 = .ok (.invokevirtual 207, 3) := by decide +kernel
theorem d_Model_makeName_52 : decode prog_11_method_39_code 52 = .ok (.iconst 1, 1) := by decide +kernel
theorem d_Model_makeName_53 : decode prog_11_method_39_code 53 = .ok (.istore 4, 2) := by decide +kernel
theorem d_Model_makeName_55 : decode prog_11_method_39_code 55 = .ok (.aload_n 0, 1) := by decide +kernel
theorem d_Model_makeName_56 : decode prog_11_method_39_code 56 = .ok (.iload 5, 2) := by decide +kernel
theorem d_Model_makeName_58 : decode prog_11_method_39_code 58 = .ok (.iconst 1, 1) := by decide +kernel
theorem d_Model_makeName_59 : decode prog_11_method_39_code 59 = .ok (.iadd, 1) := by decide +kernel
theorem d_Model_makeName_60 : decode prog_11_method_39_code 60 = .ok (.iload_n 3, 1) := by decide +kernel
theorem d_Model_makeName_61 : decode prog_11_method_39_code 61 = .ok (.invokevirtual 197, 3) := by decide +kernel
theorem d_Model_makeName_64 : decode prog_11_method_39_code 64 = .ok (.istore 5, 2) := by decide +kernel
theorem d_Model_makeName_66 : decode prog_11_method_39_code 66 = .ok (.goto (-50), 3) := by decide +kernel
theorem d_Model_makeName_69 : decode prog_11_method_39_code 69 = .ok (.aload_n 0, 1) := by decide +kernel
theorem d_Model_makeName_70 : decode prog_11_method_39_code 70 = .ok (.iload_n 1, 1) := by decide +kernel
theorem d_Model_makeName_71 : decode prog_11_method_39_code 71 = .ok (.invokevirtual 210, 3) := by decide +kernel
theorem d_Model_makeName_74 : decode prog_11_method_39_code 74 = .ok (.return_, 1) := by decide +kernel
theorem d_Model_isName_0 : decode prog_11_method_38_code 0 = .ok (.iconst 0, 1) := by decide +kernel
theorem d_Model_isName_1 : decode prog_11_method_38_code 1 = .ok (.istore_n 3, 1) := by decide +kernel
theorem d_Model_isName_2 : decode prog_11_method_38_code 2 = .ok (.aload_n 0, 1) := by decide +kernel
theorem d_Model_isName_3 : decode prog_11_method_38_code 3 = .ok (.iload_n 1, 1) := by decide +kernel
theorem d_Model_isName_4 : decode prog_11_method_38_code 4 = .ok (.iload_n 2, 1) := by decide +kernel
theorem d_Model_isName_5 : decode prog_11_method_38_code 5 = .ok (.invokevirtual 197, 3) := by decide +kernel
theorem d_Model_isName_8 : decode prog_11_method_38_code 8 = .ok (.istore 4, 2) := by decide +kernel
theorem d_Model_isName_10 : decode prog_11_method_38_code 10 = .ok (.iload 4, 2) := by decide +kernel
theorem d_Model_isName_12 : decode prog_11_method_38_code 12 = .ok (.iload_n 2, 1) := by decide +kernel
theorem d_Model_isName_13 : decode prog_11_method_38_code 13 = .ok (.if_icmp .ge 55, 3) := by decide +kernel
theorem d_Model_isName_16 : decode prog_11_method_38_code 16 = .ok (.aload_n 0, 1) := by decide +kernel
theorem d_Model_isName_17 : decode prog_11_method_38_code 17 = .ok (.getfield 31, 3) := by decide +kernel
theorem d_Model_isName_20 : decode prog_11_method_38_code 20 = .ok (.iload 4, 2) := by decide +kernel
theorem d_Model_isName_22 : decode prog_11_method_38_code 22 = .ok (.iaload, 1) := by decide +kernel
theorem d_Model_isName_23 : decode prog_11_method_38_code 23 = .ok (.iconst 4, 1) := by decide +kernel
theorem d_Model_isName_24 : decode prog_11_method_38_code 24 = .ok (.if_icmp .eq 27, 3) := by decide +kernel
theorem d_Model_isName_27 : decode prog_11_method_38_code 27 = .ok (.aload_n 0, 1) := by decide +kernel
theorem d_Model_isName_28 : decode prog_11_method_38_code 28 = .ok (.getfield 31, 3) := by decide +kernel
theorem d_Model_isName_31 : decode prog_11_method_38_code 31 = .ok (.iload 4, 2) := by decide +kernel
theorem d_Model_isName_33 : decode prog_11_method_38_code 33 = .ok (.iaload, 1) := by decide +kernel
theorem d_Model_isName_34 : decode prog_11_method_38_code 34 = .ok (.iconst 1, 1) := by decide +kernel
theorem d_Model_isName_35 : decode prog_11_method_38_code 35 = .ok (.if_icmp .eq 16, 3) := by decide +kernel
theorem d_Model_isName_38 : decode prog_11_method_38_code 38 = .ok (.aload_n 0, 1) := by decide +kernel
theorem d_Model_isName_39 : decode prog_11_method_38_code 39 = .ok (.iload 4, 2) := by decide +kernel
theorem d_Model_isName_41 : decode prog_11_method_38_code 41 = .ok (.bipush 46, 2) := by decide +kernel
theorem d_Model_isName_43 : decode prog_11_method_38_code 43 = .ok (.invokevirtual 200, 3) := by decide +kernel
theorem d_Model_isName_46 : decode prog_11_method_38_code 46 = .ok (.ifCond .ne 5, 3) := by decide +kernel
theorem d_Model_isName_49 : decode prog_11_method_38_code 49 = .ok (.iconst 0, 1) := by decide +kernel
theorem d_Model_isName_50 : decode prog_11_method_38_code 50 = .ok (.ireturn, 1) := by decide +kernel
theorem d_Model_isName_51 : decode prog_11_method_38_code 51 = .ok (.iinc 3 1, 3) := by decide +kernel
theorem d_Model_isName_54 : decode prog_11_method_38_code 54 = .ok (.aload_n 0, 1) := by decide +kernel
theorem d_Model_isName_55 : decode prog_11_method_38_code 55 = .ok (.iload 4, 2) := by decide +kernel
theorem d_Model_isName_57 : decode prog_11_method_38_code 57 = .ok (.iconst 1, 1) := by decide +kernel
theorem d_Model_isName_58 : decode prog_11_method_38_code 58 = .ok (.iadd, 1) := by decide +kernel
theorem d_Model_isName_59 : decode prog_11_method_38_code 59 = .ok (.iload_n 2, 1) := by decide +kernel
theorem d_Model_isName_60 : decode prog_11_method_38_code 60 = .ok (.invokevirtual 197, 3) := by decide +kernel
theorem d_Model_isName_63 : decode prog_11_method_38_code 63 = .ok (.istore 4, 2) := by decide +kernel
theorem d_Model_isName_65 : decode prog_11_method_38_code 65 = .ok (.goto (-55), 3) := by decide +kernel
theorem d_Model_isName_68 : decode prog_11_method_38_code 68 = .ok (.iload_n 3, 1) := by decide +kernel
theorem d_Model_isName_69 : decode prog_11_method_38_code 69 = .ok (.ifCond .le 7, 3) := by decide +kernel
theorem d_Model_isName_72 : decode prog_11_method_38_code 72 = .ok (.iconst 1, 1) := by decide +kernel
theorem d_Model_isName_73 : decode prog_11_method_38_code 73 = .ok (.goto 4, 3) := by decide +kernel
theorem d_Model_isName_76 : decode prog_11_method_38_code 76 = .ok (.iconst 0, 1) := by decide +kernel
theorem d_Model_isName_77 : decode prog_11_method_38_code 77 = .ok (.ireturn, 1) := by decide +kernel
theorem d_Model_beginGroup_0 : decode prog_11_method_47_code 0 = .ok (.aload_n 0, 1) := by decide +kernel
theorem d_Model_beginGroup_1 : decode prog_11_method_47_code 1 = .ok (.iload_n 1, 1) := by decide +kernel
theorem d_Model_beginGroup_2 : decode prog_11_method_47_code 2 = .ok (.iload_n 2, 1) := by decide +kernel
theorem d_Model_beginGroup_3 : decode prog_11_method_47_code 3 = .ok (.invokevirtual 233, 3) := by decide +kernel
theorem d_Model_beginGroup_6 : decode prog_11_method_47_code 6 = .ok (.istore_n 3, 1) := by decide +kernel
theorem d_Model_beginGroup_7 : decode prog_11_method_47_code 7 = .ok (.iload_n 3, 1) := by decide +kernel
theorem d_Model_beginGroup_8 : decode prog_11_method_47_code 8 = .ok (.ifCond .ne 23, 3) := by decide +kernel
theorem d_Model_beginGroup_11 : decode prog_11_method_47_code 11 = .ok (.aload_n 0, 1) := by decide +kernel
theorem d_Model_beginGroup_12 : decode prog_11_method_47_code 12 = .ok (.iload_n 1, 1) := by decide +kernel
theorem d_Model_beginGroup_13 : decode prog_11_method_47_code 13 = .ok (.iload_n 2, 1) := by decide +kernel
theorem d_Model_beginGroup_14 : decode prog_11_method_47_code 14 = .ok (.invokevirtual 197, 3) := by decide +kernel
theorem d_Model_beginGroup_17 : decode prog_11_method_47_code 17 = .ok (.iload_n 2, 1) := by decide +kernel
theorem d_Model_beginGroup_18 : decode prog_11_method_47_code 18 = .ok (.if_icmp .ge 13, 3) := by decide +kernel
theorem d_Model_beginGroup_21 : decode prog_11_method_47_code 21 = .ok (.aload_n 0, 1) := by decide +kernel
theorem d_Model_beginGroup_22 : decode prog_11_method_47_code 22 = .ok (.dup, 1) := by decide +kernel
theorem d_Model_beginGroup_23 : decode prog_11_method_47_code 23 = .ok (.getfield 227, 3) := by decide +kernel
theorem d_Model_beginGroup_26 : decode prog_11_method_47_code 26 = .ok (.iconst 1, 1) := by decide +kernel
theorem d_Model_beginGroup_27 : decode prog_11_method_47_code 27 = .ok (.iadd, 1) := by decide +kernel
theorem d_Model_beginGroup_28 : decode prog_11_method_47_code 28 = .ok (.putfield 227, 3) := by decide +kernel
theorem d_Model_beginGroup_31 : decode prog_11_method_47_code 31 = .ok (.iload_n 3, 1) := by decide +kernel
theorem d_Model_beginGroup_32 : decode prog_11_method_47_code 32 = .ok (.ifCond .eq 13, 3) := by decide +kernel
theorem d_Model_beginGroup_35 : decode prog_11_method_47_code 35 = .ok (.aload_n 0, 1) := by decide +kernel
theorem d_Model_beginGroup_36 : decode prog_11_method_47_code 36 = .ok (.iconst 3, 1) := by decide +kernel
theorem d_Model_beginGroup_37 : decode prog_11_method_47_code 37 = .ok (.iload_n 1, 1) := by decide +kernel
theorem d_Model_beginGroup_38 : decode prog_11_method_47_code 38 = .ok (.iload_n 2, 1) := by decide +kernel
theorem d_Model_beginGroup_39 : decode prog_11_method_47_code 39 = .ok (.invokevirtual 239, 3) := by decide +kernel
theorem d_Model_beginGroup_42 : decode prog_11_method_47_code 42 = .ok (.goto 13, 3) := by decide +kernel
theorem d_Model_beginGroup_45 : decode prog_11_method_47_code 45 = .ok (.aload_n 0, 1) := by decide +kernel
theorem d_Model_beginGroup_46 : decode prog_11_method_47_code 46 = .ok (.iconst 3, 1) := by decide +kernel
theorem d_Model_beginGroup_47 : decode prog_11_method_47_code 47 = .ok (.invokevirtual 204, 3) := by decide +kernel
theorem d_Model_beginGroup_50 : decode prog_11_method_47_code 50 = .ok (.aload_n 0, 1) := by decide +kernel
theorem d_Model_beginGroup_51 : decode prog_11_method_47_code 51 = .ok (.iconst 3, 1) := by decide +kernel
theorem d_Model_beginGroup_52 : decode prog_11_method_47_code 52 = .ok (.invokevirtual 210, 3) := by decide +kernel
theorem d_Model_beginGroup_55 : decode prog_11_method_47_code 55 = .ok (.aload_n 0, 1) := by decide +kernel
theorem d_Model_beginGroup_56 : decode prog_11_method_47_code 56 = .ok (.dup, 1) := by decide +kernel
theorem d_Model_beginGroup_57 : decode prog_11_method_47_code 57 = .ok (.getfield 248, 3) := by decide +kernel
theorem d_Model_beginGroup_60 : decode prog_11_method_47_code 60 = .ok (.iconst 1, 1) := by decide +kernel
theorem d_Model_beginGroup_61 : decode prog_11_method_47_code 61 = .ok (.iadd, 1) := by decide +kernel
theorem d_Model_beginGroup_62 : decode prog_11_method_47_code 62 = .ok (.putfield 248, 3) := by decide +kernel
theorem d_Model_beginGroup_65 : decode prog_11_method_47_code 65 = .ok (.return_, 1) := by decide +kernel
theorem d_Model_isRowWord_0 : decode prog_11_method_41_code 0 = .ok (.iload_n 1, 1) := by decide +kernel
theorem d_Model_isRowWord_1 : decode prog_11_method_41_code 1 = .ok (.iload_n 2, 1) := by decide +kernel
theorem d_Model_isRowWord_2 : decode prog_11_method_41_code 2 = .ok (.if_icmp .ge 31, 3) := by decide +kernel
theorem d_Model_isRowWord_5 : decode prog_11_method_41_code 5 = .ok (.aload_n 0, 1) := by decide +kernel
theorem d_Model_isRowWord_6 : decode prog_11_method_41_code 6 = .ok (.getfield 31, 3) := by decide +kernel
theorem d_Model_isRowWord_9 : decode prog_11_method_41_code 9 = .ok (.iload_n 1, 1) := by decide +kernel
theorem d_Model_isRowWord_10 : decode prog_11_method_41_code 10 = .ok (.iaload, 1) := by decide +kernel
theorem d_Model_isRowWord_11 : decode prog_11_method_41_code 11 = .ok (.iconst 4, 1) := by decide +kernel
theorem d_Model_isRowWord_12 : decode prog_11_method_41_code 12 = .ok (.if_icmp .eq 17, 3) := by decide +kernel
theorem d_Model_isRowWord_15 : decode prog_11_method_41_code 15 = .ok (.iload_n 3, 1) := by decide +kernel
theorem d_Model_isRowWord_16 : decode prog_11_method_41_code 16 = .ok (.ifCond .eq 17, 3) := by decide +kernel
theorem d_Model_isRowWord_19 : decode prog_11_method_41_code 19 = .ok (.aload_n 0, 1) := by decide +kernel
theorem d_Model_isRowWord_20 : decode prog_11_method_41_code 20 = .ok (.getfield 31, 3) := by decide +kernel
theorem d_Model_isRowWord_23 : decode prog_11_method_41_code 23 = .ok (.iload_n 1, 1) := by decide +kernel
theorem d_Model_isRowWord_24 : decode prog_11_method_41_code 24 = .ok (.iaload, 1) := by decide +kernel
theorem d_Model_isRowWord_25 : decode prog_11_method_41_code 25 = .ok (.iconst 1, 1) := by decide +kernel
theorem d_Model_isRowWord_26 : decode prog_11_method_41_code 26 = .ok (.if_icmp .ne 7, 3) := by decide +kernel
theorem d_Model_isRowWord_29 : decode prog_11_method_41_code 29 = .ok (.iconst 1, 1) := by decide +kernel
theorem d_Model_isRowWord_30 : decode prog_11_method_41_code 30 = .ok (.goto 4, 3) := by decide +kernel
theorem d_Model_isRowWord_33 : decode prog_11_method_41_code 33 = .ok (.iconst 0, 1) := by decide +kernel
theorem d_Model_isRowWord_34 : decode prog_11_method_41_code 34 = .ok (.ireturn, 1) := by decide +kernel
theorem d_Model_rowEnd_0 : decode prog_11_method_40_code 0 = .ok (.aload_n 0, 1) := by decide +kernel
theorem d_Model_rowEnd_1 : decode prog_11_method_40_code 1 = .ok (.iload_n 1, 1) := by decide +kernel
theorem d_Model_rowEnd_2 : decode prog_11_method_40_code 2 = .ok (.iload_n 2, 1) := by decide +kernel
theorem d_Model_rowEnd_3 : decode prog_11_method_40_code 3 = .ok (.invokevirtual 197, 3) := by decide +kernel
theorem d_Model_rowEnd_6 : decode prog_11_method_40_code 6 = .ok (.istore 4, 2) := by decide +kernel
theorem d_Model_rowEnd_8 : decode prog_11_method_40_code 8 = .ok (.aload_n 0, 1) := by decide +kernel
theorem d_Model_rowEnd_9 : decode prog_11_method_40_code 9 = .ok (.iload 4, 2) := by decide +kernel
theorem d_Model_rowEnd_11 : decode prog_11_method_40_code 11 = .ok (.iload_n 2, 1) := by decide +kernel
theorem d_Model_rowEnd_12 : decode prog_11_method_40_code 12 = .ok (.iload_n 3, 1) := by decide +kernel
theorem d_Model_rowEnd_13 : decode prog_11_method_40_code 13 = .ok (.invokevirtual 213, 3) := by decide +kernel
theorem d_Model_rowEnd_16 : decode prog_11_method_40_code 16 = .ok (.ifCond .ne 5, 3) := by decide +kernel
theorem d_Model_rowEnd_19 : decode prog_11_method_40_code 19 = .ok (.iload_n 1, 1) := by decide +kernel
theorem d_Model_rowEnd_20 : decode prog_11_method_40_code 20 = .ok (.ireturn, 1) := by decide +kernel
theorem d_Model_rowEnd_21 : decode prog_11_method_40_code 21 = .ok (.iinc 4 1, 3) := by decide +kernel
theorem d_Model_rowEnd_24 : decode prog_11_method_40_code 24 = .ok (.iconst 1, 1) := by decide +kernel
theorem d_Model_rowEnd_25 : decode prog_11_method_40_code 25 = .ok (.istore 5, 2) := by decide +kernel
theorem d_Model_rowEnd_27 : decode prog_11_method_40_code 27 = .ok (.iload 5, 2) := by decide +kernel
theorem d_Model_rowEnd_29 : decode prog_11_method_40_code 29 = .ok (.ifCond .eq 93, 3) := by decide +kernel
theorem d_Model_rowEnd_32 : decode prog_11_method_40_code 32 = .ok (.aload_n 0, 1) := by decide +kernel
theorem d_Model_rowEnd_33 : decode prog_11_method_40_code 33 = .ok (.iload 4, 2) := by decide +kernel
theorem d_Model_rowEnd_35 : decode prog_11_method_40_code 35 = .ok (.iload_n 2, 1) := by decide +kernel
theorem d_Model_rowEnd_36 : decode prog_11_method_40_code 36 = .ok (.invokevirtual 197, 3) := by decide +kernel
theorem d_Model_rowEnd_39 : decode prog_11_method_40_code 39 = .ok (.istore 6, 2) := by decide +kernel
theorem d_Model_rowEnd_41 : decode prog_11_method_40_code 41 = .ok (.iload 6, 2) := by decide +kernel
theorem d_Model_rowEnd_43 : decode prog_11_method_40_code 43 = .ok (.iload_n 2, 1) := by decide +kernel
theorem d_Model_rowEnd_44 : decode prog_11_method_40_code 44 = .ok (.if_icmp .ge 26, 3) := by decide +kernel
theorem d_Model_rowEnd_47 : decode prog_11_method_40_code 47 = .ok (.aload_n 0, 1) := by decide +kernel
theorem d_Model_rowEnd_48 : decode prog_11_method_40_code 48 = .ok (.iload 6, 2) := by decide +kernel
theorem d_Model_rowEnd_50 : decode prog_11_method_40_code 50 = .ok (.bipush 46, 2) := by decide +kernel
theorem d_Model_rowEnd_52 : decode prog_11_method_40_code 52 = .ok (.invokevirtual 200, 3) := by decide +kernel
theorem d_Model_rowEnd_55 : decode prog_11_method_40_code 55 = .ok (.ifCond .eq 15, 3) := by decide +kernel
theorem d_Model_rowEnd_58 : decode prog_11_method_40_code 58 = .ok (.aload_n 0, 1) := by decide +kernel
theorem d_Model_rowEnd_59 : decode prog_11_method_40_code 59 = .ok (.iload 6, 2) := by decide +kernel
theorem d_Model_rowEnd_61 : decode prog_11_method_40_code 61 = .ok (.iconst 1, 1) := by decide +kernel
theorem d_Model_rowEnd_62 : decode prog_11_method_40_code 62 = .ok (.iadd, 1) := by decide +kernel
theorem d_Model_rowEnd_63 : decode prog_11_method_40_code 63 = .ok (.iload_n 2, 1) := by decide +kernel
theorem d_Model_rowEnd_64 : decode prog_11_method_40_code 64 = .ok (.invokevirtual 197, 3) := by decide +kernel
theorem d_Model_rowEnd_67 : decode prog_11_method_40_code 67 = .ok (.goto 4, 3) := by decide +kernel
theorem d_Model_rowEnd_70 : decode prog_11_method_40_code 70 = .ok (.iload_n 2, 1) := by decide +kernel
theorem d_Model_rowEnd_71 : decode prog_11_method_40_code 71 = .ok (.istore 7, 2) := by decide +kernel
theorem d_Model_rowEnd_73 : decode prog_11_method_40_code 73 = .ok (.iload 6, 2) := by decide +kernel
theorem d_Model_rowEnd_75 : decode prog_11_method_40_code 75 = .ok (.iload_n 2, 1) := by decide +kernel
theorem d_Model_rowEnd_76 : decode prog_11_method_40_code 76 = .ok (.if_icmp .ge 29, 3) := by decide +kernel
theorem d_Model_rowEnd_79 : decode prog_11_method_40_code 79 = .ok (.aload_n 0, 1) := by decide +kernel
theorem d_Model_rowEnd_80 : decode prog_11_method_40_code 80 = .ok (.iload 6, 2) := by decide +kernel
theorem d_Model_rowEnd_82 : decode prog_11_method_40_code 82 = .ok (.bipush 46, 2) := by decide +kernel
theorem d_Model_rowEnd_84 : decode prog_11_method_40_code 84 = .ok (.invokevirtual 200, 3) := by decide +kernel
theorem d_Model_rowEnd_87 : decode prog_11_method_40_code 87 = .ok (.ifCond .eq 18, 3) := by decide +kernel
theorem d_Model_rowEnd_90 : decode prog_11_method_40_code 90 = .ok (.aload_n 0, 1) := by decide +kernel
theorem d_Model_rowEnd_91 : decode prog_11_method_40_code 91 = .ok (.iload 7, 2) := by decide +kernel
theorem d_Model_rowEnd_93 : decode prog_11_method_40_code 93 = .ok (.iload_n 2, 1) := by decide +kernel
theorem d_Model_rowEnd_94 : decode prog_11_method_40_code 94 = .ok (.iload_n 3, 1) := by decide +kernel
theorem d_Model_rowEnd_95 : decode prog_11_method_40_code 95 = .ok (.invokevirtual 213, 3) := by decide +kernel
theorem d_Model_rowEnd_98 : decode prog_11_method_40_code 98 = .ok (.ifCond .eq 7, 3) := by decide +kernel
theorem d_Model_rowEnd_101 : decode prog_11_method_40_code 101 = .ok (.iconst 1, 1) := by decide +kernel
theorem d_Model_rowEnd_102 : decode prog_11_method_40_code 102 = .ok (.goto 4, 3) := by decide +kernel
theorem d_Model_rowEnd_105 : decode prog_11_method_40_code 105 = .ok (.iconst 0, 1) := by decide +kernel
theorem d_Model_rowEnd_106 : decode prog_11_method_40_code 106 = .ok (.istore 5, 2) := by decide +kernel
theorem d_Model_rowEnd_108 : decode prog_11_method_40_code 108 = .ok (.iload 5, 2) := by decide +kernel
theorem d_Model_rowEnd_110 : decode prog_11_method_40_code 110 = .ok (.ifCond .eq 9, 3) := by decide +kernel
theorem d_Model_rowEnd_113 : decode prog_11_method_40_code 113 = .ok (.iload 7, 2) := by decide +kernel
theorem d_Model_rowEnd_115 : decode prog_11_method_40_code 115 = .ok (.iconst 1, 1) := by decide +kernel
theorem d_Model_rowEnd_116 : decode prog_11_method_40_code 116 = .ok (.iadd, 1) := by decide +kernel
theorem d_Model_rowEnd_117 : decode prog_11_method_40_code 117 = .ok (.istore 4, 2) := by decide +kernel
theorem d_Model_rowEnd_119 : decode prog_11_method_40_code 119 = .ok (.goto (-92), 3) := by decide +kernel
theorem d_Model_rowEnd_122 : decode prog_11_method_40_code 122 = .ok (.iload 4, 2) := by decide +kernel
theorem d_Model_rowEnd_124 : decode prog_11_method_40_code 124 = .ok (.ireturn, 1) := by decide +kernel
theorem d_Model_isSpec_0 : decode prog_11_method_42_code 0 = .ok (.aload_n 0, 1) := by decide +kernel
theorem d_Model_isSpec_1 : decode prog_11_method_42_code 1 = .ok (.aload_n 0, 1) := by decide +kernel
theorem d_Model_isSpec_2 : decode prog_11_method_42_code 2 = .ok (.iload_n 1, 1) := by decide +kernel
theorem d_Model_isSpec_3 : decode prog_11_method_42_code 3 = .ok (.iload_n 2, 1) := by decide +kernel
theorem d_Model_isSpec_4 : decode prog_11_method_42_code 4 = .ok (.iconst 1, 1) := by decide +kernel
theorem d_Model_isSpec_5 : decode prog_11_method_42_code 5 = .ok (.invokevirtual 217, 3) := by decide +kernel
theorem d_Model_isSpec_8 : decode prog_11_method_42_code 8 = .ok (.putfield 221, 3) := by decide +kernel
theorem d_Model_isSpec_11 : decode prog_11_method_42_code 11 = .ok (.aload_n 0, 1) := by decide +kernel
theorem d_Model_isSpec_12 : decode prog_11_method_42_code 12 = .ok (.iload_n 2, 1) := by decide +kernel
theorem d_Model_isSpec_13 : decode prog_11_method_42_code 13 = .ok (.putfield 224, 3) := by decide +kernel
theorem d_Model_isSpec_16 : decode prog_11_method_42_code 16 = .ok (.aload_n 0, 1) := by decide +kernel
theorem d_Model_isSpec_17 : decode prog_11_method_42_code 17 = .ok (.getfield 221, 3) := by decide +kernel
theorem d_Model_isSpec_20 : decode prog_11_method_42_code 20 = .ok (.iload_n 1, 1) := by decide +kernel
theorem d_Model_isSpec_21 : decode prog_11_method_42_code 21 = .ok (.if_icmp .ne 5, 3) := by decide +kernel
theorem d_Model_isSpec_24 : decode prog_11_method_42_code 24 = .ok (.iconst 0, 1) := by decide +kernel
theorem d_Model_isSpec_25 : decode prog_11_method_42_code 25 = .ok (.ireturn, 1) := by decide +kernel
theorem d_Model_isSpec_26 : decode prog_11_method_42_code 26 = .ok (.aload_n 0, 1) := by decide +kernel
theorem d_Model_isSpec_27 : decode prog_11_method_42_code 27 = .ok (.aload_n 0, 1) := by decide +kernel
theorem d_Model_isSpec_28 : decode prog_11_method_42_code 28 = .ok (.getfield 221, 3) := by decide +kernel
theorem d_Model_isSpec_31 : decode prog_11_method_42_code 31 = .ok (.iload_n 2, 1) := by decide +kernel
theorem d_Model_isSpec_32 : decode prog_11_method_42_code 32 = .ok (.invokevirtual 197, 3) := by decide +kernel
theorem d_Model_isSpec_35 : decode prog_11_method_42_code 35 = .ok (.istore_n 3, 1) := by decide +kernel
theorem d_Model_isSpec_36 : decode prog_11_method_42_code 36 = .ok (.iload_n 3, 1) := by decide +kernel
theorem d_Model_isSpec_37 : decode prog_11_method_42_code 37 = .ok (.iload_n 2, 1) := by decide +kernel
theorem d_Model_isSpec_38 : decode prog_11_method_42_code 38 = .ok (.if_icmp .ne 5, 3) := by decide +kernel
theorem d_Model_isSpec_41 : decode prog_11_method_42_code 41 = .ok (.iconst 1, 1) := by decide +kernel
theorem d_Model_isSpec_42 : decode prog_11_method_42_code 42 = .ok (.ireturn, 1) := by decide +kernel
theorem d_Model_isSpec_43 : decode prog_11_method_42_code 43 = .ok (.aload_n 0, 1) := by decide +kernel
theorem d_Model_isSpec_44 : decode prog_11_method_42_code 44 = .ok (.iload_n 3, 1) := by decide +kernel
theorem d_Model_isSpec_45 : decode prog_11_method_42_code 45 = .ok (.bipush 64, 2) := by decide +kernel
theorem d_Model_isSpec_47 : decode prog_11_method_42_code 47 = .ok (.invokevirtual 200, 3) := by decide +kernel
theorem d_Model_isSpec_50 : decode prog_11_method_42_code 50 = .ok (.ifCond .ne 5, 3) := by decide +kernel
theorem d_Model_isSpec_53 : decode prog_11_method_42_code 53 = .ok (.iconst 0, 1) := by decide +kernel
theorem d_Model_isSpec_54 : decode prog_11_method_42_code 54 = .ok (.ireturn, 1) := by decide +kernel
theorem d_Model_isSpec_55 : decode prog_11_method_42_code 55 = .ok (.aload_n 0, 1) := by decide +kernel
theorem d_Model_isSpec_56 : decode prog_11_method_42_code 56 = .ok (.iload_n 3, 1) := by decide +kernel
theorem d_Model_isSpec_57 : decode prog_11_method_42_code 57 = .ok (.iconst 1, 1) := by decide +kernel
theorem d_Model_isSpec_58 : decode prog_11_method_42_code 58 = .ok (.iadd, 1) := by decide +kernel
theorem d_Model_isSpec_59 : decode prog_11_method_42_code 59 = .ok (.putfield 224, 3) := by decide +kernel
theorem d_Model_isSpec_62 : decode prog_11_method_42_code 62 = .ok (.aload_n 0, 1) := by decide +kernel
theorem d_Model_isSpec_63 : decode prog_11_method_42_code 63 = .ok (.aload_n 0, 1) := by decide +kernel
theorem d_Model_isSpec_64 : decode prog_11_method_42_code 64 = .ok (.getfield 224, 3) := by decide +kernel
theorem d_Model_isSpec_67 : decode prog_11_method_42_code 67 = .ok (.iload_n 2, 1) := by decide +kernel
theorem d_Model_isSpec_68 : decode prog_11_method_42_code 68 = .ok (.invokevirtual 197, 3) := by decide +kernel
theorem d_Model_isSpec_71 : decode prog_11_method_42_code 71 = .ok (.istore 4, 2) := by decide +kernel
theorem d_Model_isSpec_73 : decode prog_11_method_42_code 73 = .ok (.iload 4, 2) := by decide +kernel
theorem d_Model_isSpec_75 : decode prog_11_method_42_code 75 = .ok (.iload_n 2, 1) := by decide +kernel
theorem d_Model_isSpec_76 : decode prog_11_method_42_code 76 = .ok (.if_icmp .ge 33, 3) := by decide +kernel
theorem d_Model_isSpec_79 : decode prog_11_method_42_code 79 = .ok (.aload_n 0, 1) := by decide +kernel
theorem d_Model_isSpec_80 : decode prog_11_method_42_code 80 = .ok (.getfield 31, 3) := by decide +kernel
theorem d_Model_isSpec_83 : decode prog_11_method_42_code 83 = .ok (.iload 4, 2) := by decide +kernel
theorem d_Model_isSpec_85 : decode prog_11_method_42_code 85 = .ok (.iaload, 1) := by decide +kernel
theorem d_Model_isSpec_86 : decode prog_11_method_42_code 86 = .ok (.iconst 2, 1) := by decide +kernel
theorem d_Model_isSpec_87 : decode prog_11_method_42_code 87 = .ok (.if_icmp .ne 22, 3) := by decide +kernel
theorem d_Model_isSpec_90 : decode prog_11_method_42_code 90 = .ok (.aload_n 0, 1) := by decide +kernel
theorem d_Model_isSpec_91 : decode prog_11_method_42_code 91 = .ok (.iload 4, 2) := by decide +kernel
theorem d_Model_isSpec_93 : decode prog_11_method_42_code 93 = .ok (.iconst 1, 1) := by decide +kernel
theorem d_Model_isSpec_94 : decode prog_11_method_42_code 94 = .ok (.iadd, 1) := by decide +kernel
theorem d_Model_isSpec_95 : decode prog_11_method_42_code 95 = .ok (.iload_n 2, 1) := by decide +kernel
theorem d_Model_isSpec_96 : decode prog_11_method_42_code 96 = .ok (.invokevirtual 197, 3) := by decide +kernel
theorem d_Model_isSpec_99 : decode prog_11_method_42_code 99 = .ok (.iload_n 2, 1) := by decide +kernel
theorem d_Model_isSpec_100 : decode prog_11_method_42_code 100 = .ok (.if_icmp .ne 7, 3) := by decide +kernel
theorem d_Model_isSpec_103 : decode prog_11_method_42_code 103 = .ok (.iconst 1, 1) := by decide +kernel
theorem d_Model_isSpec_104 : decode prog_11_method_42_code 104 = .ok (.goto 4, 3) := by decide +kernel
theorem d_Model_isSpec_107 : decode prog_11_method_42_code 107 = .ok (.iconst 0, 1) := by decide +kernel
theorem d_Model_isSpec_108 : decode prog_11_method_42_code 108 = .ok (.ireturn, 1) := by decide +kernel
theorem d_Model_isSpec_109 : decode prog_11_method_42_code 109 = .ok (.aload_n 0, 1) := by decide +kernel
theorem d_Model_isSpec_110 : decode prog_11_method_42_code 110 = .ok (.aload_n 0, 1) := by decide +kernel
theorem d_Model_isSpec_111 : decode prog_11_method_42_code 111 = .ok (.getfield 224, 3) := by decide +kernel
theorem d_Model_isSpec_114 : decode prog_11_method_42_code 114 = .ok (.iload_n 2, 1) := by decide +kernel
theorem d_Model_isSpec_115 : decode prog_11_method_42_code 115 = .ok (.iconst 0, 1) := by decide +kernel
theorem d_Model_isSpec_116 : decode prog_11_method_42_code 116 = .ok (.invokevirtual 217, 3) := by decide +kernel
theorem d_Model_isSpec_119 : decode prog_11_method_42_code 119 = .ok (.istore 5, 2) := by decide +kernel
theorem d_Model_isSpec_121 : decode prog_11_method_42_code 121 = .ok (.iload 5, 2) := by decide +kernel
theorem d_Model_isSpec_123 : decode prog_11_method_42_code 123 = .ok (.aload_n 0, 1) := by decide +kernel
theorem d_Model_isSpec_124 : decode prog_11_method_42_code 124 = .ok (.getfield 224, 3) := by decide +kernel
theorem d_Model_isSpec_127 : decode prog_11_method_42_code 127 = .ok (.if_icmp .le 18, 3) := by decide +kernel
theorem d_Model_isSpec_130 : decode prog_11_method_42_code 130 = .ok (.aload_n 0, 1) := by decide +kernel
theorem d_Model_isSpec_131 : decode prog_11_method_42_code 131 = .ok (.iload 5, 2) := by decide +kernel
theorem d_Model_isSpec_133 : decode prog_11_method_42_code 133 = .ok (.iload_n 2, 1) := by decide +kernel
theorem d_Model_isSpec_134 : decode prog_11_method_42_code 134 = .ok (.invokevirtual 197, 3) := by decide +kernel
theorem d_Model_isSpec_137 : decode prog_11_method_42_code 137 = .ok (.iload_n 2, 1) := by decide +kernel
theorem d_Model_isSpec_138 : decode prog_11_method_42_code 138 = .ok (.if_icmp .ne 7, 3) := by decide +kernel
theorem d_Model_isSpec_141 : decode prog_11_method_42_code 141 = .ok (.iconst 1, 1) := by decide +kernel
theorem d_Model_isSpec_142 : decode prog_11_method_42_code 142 = .ok (.goto 4, 3) := by decide +kernel
theorem d_Model_isSpec_145 : decode prog_11_method_42_code 145 = .ok (.iconst 0, 1) := by decide +kernel
theorem d_Model_isSpec_146 : decode prog_11_method_42_code 146 = .ok (.ireturn, 1) := by decide +kernel
theorem d_Model_makeComment_0 : decode prog_11_method_44_code 0 = .ok (.iconst (-1), 1) := by decide +kernel
theorem d_Model_makeComment_1 : decode prog_11_method_44_code 1 = .ok (.istore_n 3, 1) := by decide +kernel
theorem d_Model_makeComment_2 : decode prog_11_method_44_code 2 = .ok (.aload_n 0, 1) := by decide +kernel
theorem d_Model_makeComment_3 : decode prog_11_method_44_code 3 = .ok (.iload_n 1, 1) := by decide +kernel
theorem d_Model_makeComment_4 : decode prog_11_method_44_code 4 = .ok (.iload_n 2, 1) := by decide +kernel
theorem d_Model_makeComment_5 : decode prog_11_method_44_code 5 = .ok (.invokevirtual 197, 3) := by decide +kernel
theorem d_Model_makeComment_8 : decode prog_11_method_44_code 8 = .ok (.iconst 1, 1) := by decide +kernel
theorem d_Model_makeComment_9 : decode prog_11_method_44_code 9 = .ok (.iadd, 1) := by decide +kernel
theorem d_Model_makeComment_10 : decode prog_11_method_44_code 10 = .ok (.istore 4, 2) := by decide +kernel
theorem d_Model_makeComment_12 : decode prog_11_method_44_code 12 = .ok (.iload 4, 2) := by decide +kernel
theorem d_Model_makeComment_14 : decode prog_11_method_44_code 14 = .ok (.iload_n 2, 1) := by decide +kernel
theorem d_Model_makeComment_15 : decode prog_11_method_44_code 15 = .ok (.if_icmp .ge 22, 3) := by decide +kernel
theorem d_Model_makeComment_18 : decode prog_11_method_44_code 18 = .ok (.aload_n 0, 1) := by decide +kernel
theorem d_Model_makeComment_19 : decode prog_11_method_44_code 19 = .ok (.getfield 31, 3) := by decide +kernel
theorem d_Model_makeComment_22 : decode prog_11_method_44_code 22 = .ok (.iload 4, 2) := by decide +kernel
theorem d_Model_makeComment_24 : decode prog_11_method_44_code 24 = .ok (.iaload, 1) := by decide +kernel
theorem d_Model_makeComment_25 : decode prog_11_method_44_code 25 = .ok (.ifCond .ne 6, 3) := by decide +kernel
theorem d_Model_makeComment_28 : decode prog_11_method_44_code 28 = .ok (.iload 4, 2) := by decide +kernel
theorem d_Model_makeComment_30 : decode prog_11_method_44_code 30 = .ok (.istore_n 3, 1) := by decide +kernel
theorem d_Model_makeComment_31 : decode prog_11_method_44_code 31 = .ok (.iinc 4 1, 3) := by decide +kernel
theorem d_Model_makeComment_34 : decode prog_11_method_44_code 34 = .ok (.goto (-22), 3) := by decide +kernel
theorem d_Model_makeComment_37 : decode prog_11_method_44_code 37 = .ok (.aload_n 0, 1) := by decide +kernel
theorem d_Model_makeComment_38 : decode prog_11_method_44_code 38 = .ok (.iconst 0, 1) := by decide +kernel
theorem d_Model_makeComment_39 : decode prog_11_method_44_code 39 = .ok (.invokevirtual 204, 3) := by decide +kernel
theorem d_Model_makeComment_42 : decode prog_11_method_44_code 42 = .ok (.iload_n 3, 1) := by decide +kernel
theorem d_Model_makeComment_43 : decode prog_11_method_44_code 43 = .ok (.iconst (-1), 1) := by decide +kernel
theorem d_Model_makeComment_44 : decode prog_11_method_44_code 44 = .ok (.if_icmp .eq 9, 3) := by decide +kernel
theorem d_Model_makeComment_47 : decode prog_11_method_44_code 47 = .ok (.aload_n 0, 1) := by decide +kernel
theorem d_Model_makeComment_48 : decode prog_11_method_44_code 48 = .ok (.iconst 0, 1) := by decide +kernel
theorem d_Model_makeComment_49 : decode prog_11_method_44_code 49 = .ok (.iload_n 3, 1) := by decide +kernel
theorem d_Model_makeComment_50 : decode prog_11_method_44_code 50 = .ok (.invokevirtual 207, 3) := by decide +kernel
theorem d_Model_makeComment_53 : decode prog_11_method_44_code 53 = .ok (.aload_n 0, 1) := by decide +kernel
theorem d_Model_makeComment_54 : decode prog_11_method_44_code 54 = .ok (.iconst 0, 1) := by decide +kernel
theorem d_Model_makeComment_55 : decode prog_11_method_44_code 55 = .ok (.invokevirtual 210, 3) := by decide +kernel
theorem d_Model_makeComment_58 : decode prog_11_method_44_code 58 = .ok (.return_, 1) := by decide +kernel
theorem d_Model_behindRoute_0 : decode prog_11_method_45_code 0 = .ok (.aload_n 0, 1) := by decide +kernel
theorem d_Model_behindRoute_1 : decode prog_11_method_45_code 1 = .ok (.iload_n 1, 1) := by decide +kernel
theorem d_Model_behindRoute_2 : decode prog_11_method_45_code 2 = .ok (.iload_n 2, 1) := by decide +kernel
theorem d_Model_behindRoute_3 : decode prog_11_method_45_code 3 = .ok (.invokevirtual 197, 3) := by decide +kernel
theorem d_Model_behindRoute_6 : decode prog_11_method_45_code 6 = .ok (.istore_n 3, 1) := by decide +kernel
theorem d_Model_behindRoute_7 : decode prog_11_method_45_code 7 = .ok (.iload_n 3, 1) := by decide +kernel
theorem d_Model_behindRoute_8 : decode prog_11_method_45_code 8 = .ok (.iload_n 2, 1) := by decide +kernel
theorem d_Model_behindRoute_9 : decode prog_11_method_45_code 9 = .ok (.if_icmp .ge 71, 3) := by decide +kernel
theorem d_Model_behindRoute_12 : decode prog_11_method_45_code 12 = .ok (.aload_n 0, 1) := by decide +kernel
theorem d_Model_behindRoute_13 : decode prog_11_method_45_code 13 = .ok (.iload_n 3, 1) := by decide +kernel
theorem d_Model_behindRoute_14 : decode prog_11_method_45_code 14 = .ok (.bipush 58, 2) := by decide +kernel
theorem d_Model_behindRoute_16 : decode prog_11_method_45_code 16 = .ok (.invokevirtual 200, 3) := by decide +kernel
theorem d_Model_behindRoute_19 : decode prog_11_method_45_code 19 = .ok (.ifCond .eq 7, 3) := by decide +kernel
theorem d_Model_behindRoute_22 : decode prog_11_method_45_code 22 = .ok (.iload_n 3, 1) := by decide +kernel
theorem d_Model_behindRoute_23 : decode prog_11_method_45_code 23 = .ok (.iconst 1, 1) := by decide +kernel
theorem d_Model_behindRoute_24 : decode prog_11_method_45_code 24 = .ok (.iadd, 1) := by decide +kernel
theorem d_Model_behindRoute_25 : decode prog_11_method_45_code 25 = .ok (.ireturn, 1) := by decide +kernel
theorem d_Model_behindRoute_26 : decode prog_11_method_45_code 26 = .ok (.aload_n 0, 1) := by decide +kernel
theorem d_Model_behindRoute_27 : decode prog_11_method_45_code 27 = .ok (.getfield 31, 3) := by decide +kernel
theorem d_Model_behindRoute_30 : decode prog_11_method_45_code 30 = .ok (.iload_n 3, 1) := by decide +kernel
theorem d_Model_behindRoute_31 : decode prog_11_method_45_code 31 = .ok (.iaload, 1) := by decide +kernel
