theorem d_Model_parameterByte_0 : decode prog_11_method_74_code 0 = .ok (.aload_n 0, 1) := by decide +kernel
theorem d_Model_parameterByte_1 : decode prog_11_method_74_code 1 = .ok (.iconst 0, 1) := by decide +kernel
theorem d_Model_parameterByte_2 : decode prog_11_method_74_code 2 = .ok (.putfield 99, 3) := by decide +kernel
theorem d_Model_parameterByte_5 : decode prog_11_method_74_code 5 = .ok (.iload_n 1, 1) := by decide +kernel
theorem d_Model_parameterByte_6 : decode prog_11_method_74_code 6 = .ok (.ifCond .eq 10, 3) := by decide +kernel
theorem d_Model_parameterByte_9 : decode prog_11_method_74_code 9 = .ok (.aload_n 0, 1) := by decide +kernel
theorem d_Model_parameterByte_10 : decode prog_11_method_74_code 10 = .ok (.getfield 96, 3) := by decide +kernel
theorem d_Model_parameterByte_13 : decode prog_11_method_74_code 13 = .ok (.goto 7, 3) := by decide +kernel
theorem d_Model_parameterByte_16 : decode prog_11_method_74_code 16 = .ok (.aload_n 0, 1) := by decide +kernel
theorem d_Model_parameterByte_17 : decode prog_11_method_74_code 17 = .ok (.getfield 92, 3) := by decide +kernel
theorem d_Model_parameterByte_20 : decode prog_11_method_74_code 20 = .ok (.istore_n 3, 1) := by decide +kernel
theorem d_Model_parameterByte_21 : decode prog_11_method_74_code 21 = .ok (.iload_n 2, 1) := by decide +kernel
theorem d_Model_parameterByte_22 : decode prog_11_method_74_code 22 = .ok (.ifCond .lt 8, 3) := by decide +kernel
theorem d_Model_parameterByte_25 : decode prog_11_method_74_code 25 = .ok (.iload_n 2, 1) := by decide +kernel
theorem d_Model_parameterByte_26 : decode prog_11_method_74_code 26 = .ok (.iload_n 3, 1) := by decide +kernel
theorem d_Model_parameterByte_27 : decode prog_11_method_74_code 27 = .ok (.if_icmp .lt 7, 3) := by decide +kernel
theorem d_Model_parameterByte_30 : decode prog_11_method_74_code 30 = .ok (.iconst (-1), 1) := by decide +kernel
theorem d_Model_parameterByte_31 : decode prog_11_method_74_code 31 = .ok (.goto 22, 3) := by decide +kernel
theorem d_Model_parameterByte_34 : decode prog_11_method_74_code 34 = .ok (.iload_n 1, 1) := by decide +kernel
theorem d_Model_parameterByte_35 : decode prog_11_method_74_code 35 = .ok (.ifCond .eq 12, 3) := by decide +kernel
theorem d_Model_parameterByte_38 : decode prog_11_method_74_code 38 = .ok (.aload_n 0, 1) := by decide +kernel
theorem d_Model_parameterByte_39 : decode prog_11_method_74_code 39 = .ok (.getfield 89, 3) := by decide +kernel
theorem d_Model_parameterByte_42 : decode prog_11_method_74_code 42 = .ok (.iload_n 2, 1) := by decide +kernel
theorem d_Model_parameterByte_43 : decode prog_11_method_74_code 43 = .ok (.iaload, 1) := by decide +kernel
theorem d_Model_parameterByte_44 : decode prog_11_method_74_code 44 = .ok (.goto 9, 3) := by decide +kernel
theorem d_Model_parameterByte_47 : decode prog_11_method_74_code 47 = .ok (.aload_n 0, 1) := by decide +kernel
theorem d_Model_parameterByte_48 : decode prog_11_method_74_code 48 = .ok (.getfield 86, 3) := by decide +kernel
theorem d_Model_parameterByte_51 : decode prog_11_method_74_code 51 = .ok (.iload_n 2, 1) := by decide +kernel
theorem d_Model_parameterByte_52 : decode prog_11_method_74_code 52 = .ok (.iaload, 1) := by decide +kernel
theorem d_Model_parameterByte_53 : decode prog_11_method_74_code 53 = .ok (.ireturn, 1) := by decide +kernel
theorem d_Model_small_0 : decode prog_11_method_7_code 0 = .ok (.iload_n 0, 1) := by decide +kernel
theorem d_Model_small_1 : decode prog_11_method_7_code 1 = .ok (.bipush 65, 2) := by decide +kernel
theorem d_Model_small_3 : decode prog_11_method_7_code 3 = .ok (.if_icmp .lt 16, 3) := by decide +kernel
theorem d_Model_small_6 : decode prog_11_method_7_code 6 = .ok (.iload_n 0, 1) := by decide +kernel
theorem d_Model_small_7 : decode prog_11_method_7_code 7 = .ok (.bipush 90, 2) := by decide +kernel
theorem d_Model_small_9 : decode prog_11_method_7_code 9 = .ok (.if_icmp .gt 10, 3) := by decide +kernel
theorem d_Model_small_12 : decode prog_11_method_7_code 12 = .ok (.iload_n 0, 1) := by decide +kernel
theorem d_Model_small_13 : decode prog_11_method_7_code 13 = .ok (.bipush 32, 2) := by decide +kernel
theorem d_Model_small_15 : decode prog_11_method_7_code 15 = .ok (.iadd, 1) := by decide +kernel
theorem d_Model_small_16 : decode prog_11_method_7_code 16 = .ok (.goto 4, 3) := by decide +kernel
theorem d_Model_small_19 : decode prog_11_method_7_code 19 = .ok (.iload_n 0, 1) := by decide +kernel
theorem d_Model_small_20 : decode prog_11_method_7_code 20 = .ok (.ireturn, 1) := by decide +kernel
theorem d_Model_isNamed_0 : decode prog_11_method_68_code 0 = .ok (.aload_n 0, 1) := by decide +kernel
theorem d_Model_isNamed_1 : decode prog_11_method_68_code 1 = .ok (.getfield 67, 3) := by decide +kernel
theorem d_Model_isNamed_4 : decode prog_11_method_68_code 4 = .ok (.iload_n 1, 1) := by decide +kernel
theorem d_Model_isNamed_5 : decode prog_11_method_68_code 5 = .ok (.iaload, 1) := by decide +kernel
theorem d_Model_isNamed_6 : decode prog_11_method_68_code 6 = .ok (.aload_n 0, 1) := by decide +kernel
theorem d_Model_isNamed_7 : decode prog_11_method_68_code 7 = .ok (.getfield 64, 3) := by decide +kernel
theorem d_Model_isNamed_10 : decode prog_11_method_68_code 10 = .ok (.iload_n 1, 1) := by decide +kernel
theorem d_Model_isNamed_11 : decode prog_11_method_68_code 11 = .ok (.iaload, 1) := by decide +kernel
theorem d_Model_isNamed_12 : decode prog_11_method_68_code 12 = .ok (.isub, 1) := by decide +kernel
theorem d_Model_isNamed_13 : decode prog_11_method_68_code 13 = .ok (.iload_n 2, 1) := by decide +kernel
theorem d_Model_isNamed_14 : decode prog_11_method_68_code 14 = .ok (.if_icmp .eq 5, 3) := by decide +kernel
theorem d_Model_isNamed_17 : decode prog_11_method_68_code 17 = .ok (.iconst 0, 1) := by decide +kernel
theorem d_Model_isNamed_18 : decode prog_11_method_68_code 18 = .ok (.ireturn, 1) := by decide +kernel
theorem d_Model_isNamed_19 : decode prog_11_method_68_code 19 = .ok (.iconst 0, 1) := by decide +kernel
theorem d_Model_isNamed_20 : decode prog_11_method_68_code 20 = .ok (.istore_n 3, 1) := by decide +kernel
theorem d_Model_isNamed_21 : decode prog_11_method_68_code 21 = .ok (.iload_n 3, 1) := by decide +kernel
theorem d_Model_isNamed_22 : decode prog_11_method_68_code 22 = .ok (.iload_n 2, 1) := by decide +kernel
theorem d_Model_isNamed_23 : decode prog_11_method_68_code 23 = .ok (.if_icmp .ge 39, 3) := by decide +kernel
theorem d_Model_isNamed_26 : decode prog_11_method_68_code 26 = .ok (.aload_n 0, 1) := by decide +kernel
theorem d_Model_isNamed_27 : decode prog_11_method_68_code 27 = .ok (.getfield 83, 3) := by decide +kernel
theorem d_Model_isNamed_30 : decode prog_11_method_68_code 30 = .ok (.aload_n 0, 1) := by decide +kernel
theorem d_Model_isNamed_31 : decode prog_11_method_68_code 31 = .ok (.getfield 64, 3) := by decide +kernel
theorem d_Model_isNamed_34 : decode prog_11_method_68_code 34 = .ok (.iload_n 1, 1) := by decide +kernel
theorem d_Model_isNamed_35 : decode prog_11_method_68_code 35 = .ok (.iaload, 1) := by decide +kernel
theorem d_Model_isNamed_36 : decode prog_11_method_68_code 36 = .ok (.iload_n 3, 1) := by decide +kernel
theorem d_Model_isNamed_37 : decode prog_11_method_68_code 37 = .ok (.iadd, 1) := by decide +kernel
theorem d_Model_isNamed_38 : decode prog_11_method_68_code 38 = .ok (.iaload, 1) := by decide +kernel
theorem d_Model_isNamed_39 : decode prog_11_method_68_code 39 = .ok (.invokestatic 133, 3) := by decide +kernel
theorem d_Model_isNamed_42 : decode prog_11_method_68_code 42 = .ok (.aload_n 0, 1) := by decide +kernel
theorem d_Model_isNamed_43 : decode prog_11_method_68_code 43 = .ok (.getfield 13, 3) := by decide +kernel
theorem d_Model_isNamed_46 : decode prog_11_method_68_code 46 = .ok (.iload_n 3, 1) := by decide +kernel
theorem d_Model_isNamed_47 : decode prog_11_method_68_code 47 = .ok (.iaload, 1) := by decide +kernel
theorem d_Model_isNamed_48 : decode prog_11_method_68_code 48 = .ok (.invokestatic 133, 3) := by decide +kernel
theorem d_Model_isNamed_51 : decode prog_11_method_68_code 51 = .ok (.if_icmp .eq 5, 3) := by decide +kernel
theorem d_Model_isNamed_54 : decode prog_11_method_68_code 54 = .ok (.iconst 0, 1) := by decide +kernel
theorem d_Model_isNamed_55 : decode prog_11_method_68_code 55 = .ok (.ireturn, 1) := by decide +kernel
theorem d_Model_isNamed_56 : decode prog_11_method_68_code 56 = .ok (.iinc 3 1, 3) := by decide +kernel
theorem d_Model_isNamed_59 : decode prog_11_method_68_code 59 = .ok (.goto (-38), 3) := by decide +kernel
theorem d_Model_isNamed_62 : decode prog_11_method_68_code 62 = .ok (.iconst 1, 1) := by decide +kernel
theorem d_Model_isNamed_63 : decode prog_11_method_68_code 63 = .ok (.ireturn, 1) := by decide +kernel
theorem d_Model_parameterOf_0 : decode prog_11_method_69_code 0 = .ok (.iconst 0, 1) := by decide +kernel
theorem d_Model_parameterOf_1 : decode prog_11_method_69_code 1 = .ok (.istore_n 3, 1) := by decide +kernel
theorem d_Model_parameterOf_2 : decode prog_11_method_69_code 2 = .ok (.iload_n 3, 1) := by decide +kernel
theorem d_Model_parameterOf_3 : decode prog_11_method_69_code 3 = .ok (.aload_n 0, 1) := by decide +kernel
theorem d_Model_parameterOf_4 : decode prog_11_method_69_code 4 = .ok (.getfield 347, 3) := by decide +kernel
theorem d_Model_parameterOf_7 : decode prog_11_method_69_code 7 = .ok (.if_icmp .ge 30, 3) := by decide +kernel
theorem d_Model_parameterOf_10 : decode prog_11_method_69_code 10 = .ok (.aload_n 0, 1) := by decide +kernel
theorem d_Model_parameterOf_11 : decode prog_11_method_69_code 11 = .ok (.getfield 70, 3) := by decide +kernel
theorem d_Model_parameterOf_14 : decode prog_11_method_69_code 14 = .ok (.iload_n 3, 1) := by decide +kernel
theorem d_Model_parameterOf_15 : decode prog_11_method_69_code 15 = .ok (.iaload, 1) := by decide +kernel
theorem d_Model_parameterOf_16 : decode prog_11_method_69_code 16 = .ok (.iload_n 2, 1) := by decide +kernel
theorem d_Model_parameterOf_17 : decode prog_11_method_69_code 17 = .ok (.if_icmp .ne 14, 3) := by decide +kernel
theorem d_Model_parameterOf_20 : decode prog_11_method_69_code 20 = .ok (.aload_n 0, 1) := by decide +kernel
theorem d_Model_parameterOf_21 : decode prog_11_method_69_code 21 = .ok (.iload_n 3, 1) := by decide +kernel
theorem d_Model_parameterOf_22 : decode prog_11_method_69_code 22 = .ok (.iload_n 1, 1) := by decide +kernel
theorem d_Model_parameterOf_23 : decode prog_11_method_69_code 23 = .ok (.invokevirtual 356, 3) := by decide +kernel
theorem d_Model_parameterOf_26 : decode prog_11_method_69_code 26 = .ok (.ifCond .eq 5, 3) := by decide +kernel
theorem d_Model_parameterOf_29 : decode prog_11_method_69_code 29 = .ok (.iload_n 3, 1) := by decide +kernel
theorem d_Model_parameterOf_30 : decode prog_11_method_69_code 30 = .ok (.ireturn, 1) := by decide +kernel
theorem d_Model_parameterOf_31 : decode prog_11_method_69_code 31 = .ok (.iinc 3 1, 3) := by decide +kernel
theorem d_Model_parameterOf_34 : decode prog_11_method_69_code 34 = .ok (.goto (-32), 3) := by decide +kernel
theorem d_Model_parameterOf_37 : decode prog_11_method_69_code 37 = .ok (.iconst (-1), 1) := by decide +kernel
theorem d_Model_parameterOf_38 : decode prog_11_method_69_code 38 = .ok (.ireturn, 1) := by decide +kernel
theorem d_Model_behindCharset_0 : decode prog_11_method_71_code 0 = .ok (.aload_n 0, 1) := by decide +kernel
theorem d_Model_behindCharset_1 : decode prog_11_method_71_code 1 = .ok (.getfield 77, 3) := by decide +kernel
theorem d_Model_behindCharset_4 : decode prog_11_method_71_code 4 = .ok (.iload_n 1, 1) := by decide +kernel
theorem d_Model_behindCharset_5 : decode prog_11_method_71_code 5 = .ok (.iaload, 1) := by decide +kernel
theorem d_Model_behindCharset_6 : decode prog_11_method_71_code 6 = .ok (.istore_n 2, 1) := by decide +kernel
theorem d_Model_behindCharset_7 : decode prog_11_method_71_code 7 = .ok (.aload_n 0, 1) := by decide +kernel
theorem d_Model_behindCharset_8 : decode prog_11_method_71_code 8 = .ok (.getfield 80, 3) := by decide +kernel
theorem d_Model_behindCharset_11 : decode prog_11_method_71_code 11 = .ok (.iload_n 1, 1) := by decide +kernel
theorem d_Model_behindCharset_12 : decode prog_11_method_71_code 12 = .ok (.iaload, 1) := by decide +kernel
theorem d_Model_behindCharset_13 : decode prog_11_method_71_code 13 = .ok (.istore_n 3, 1) := by decide +kernel
theorem d_Model_behindCharset_14 : decode prog_11_method_71_code 14 = .ok (.aload_n 0, 1) := by decide +kernel
theorem d_Model_behindCharset_15 : decode prog_11_method_71_code 15 = .ok (.getfield 73, 3) := by decide +kernel
theorem d_Model_behindCharset_18 : decode prog_11_method_71_code 18 = .ok (.iload_n 1, 1) := by decide +kernel
theorem d_Model_behindCharset_19 : decode prog_11_method_71_code 19 = .ok (.baload, 1) := by decide +kernel
theorem d_Model_behindCharset_20 : decode prog_11_method_71_code 20 = .ok (.ifCond .eq 12, 3) := by decide +kernel
theorem d_Model_behindCharset_23 : decode prog_11_method_71_code 23 = .ok (.aload_n 0, 1) := by decide +kernel
theorem d_Model_behindCharset_24 : decode prog_11_method_71_code 24 = .ok (.getfield 70, 3) := by decide +kernel
theorem d_Model_behindCharset_27 : decode prog_11_method_71_code 27 = .ok (.iload_n 1, 1) := by decide +kernel
theorem d_Model_behindCharset_28 : decode prog_11_method_71_code 28 = .ok (.iaload, 1) := by decide +kernel
theorem d_Model_behindCharset_29 : decode prog_11_method_71_code 29 = .ok (.ifCond .le 5, 3) := by decide +kernel
theorem d_Model_behindCharset_32 : decode prog_11_method_71_code 32 = .ok (.iload_n 2, 1) := by decide +kernel
theorem d_Model_behindCharset_33 : decode prog_11_method_71_code 33 = .ok (.ireturn, 1) := by decide +kernel
theorem d_Model_behindCharset_34 : decode prog_11_method_71_code 34 = .ok (.iload_n 2, 1) := by decide +kernel
theorem d_Model_behindCharset_35 : decode prog_11_method_71_code 35 = .ok (.istore 4, 2) := by decide +kernel
theorem d_Model_behindCharset_37 : decode prog_11_method_71_code 37 = .ok (.iload 4, 2) := by decide +kernel
theorem d_Model_behindCharset_39 : decode prog_11_method_71_code 39 = .ok (.iload_n 3, 1) := by decide +kernel
theorem d_Model_behindCharset_40 : decode prog_11_method_71_code 40 = .ok (.if_icmp .ge 21, 3) := by decide +kernel
theorem d_Model_behindCharset_43 : decode prog_11_method_71_code 43 = .ok (.aload_n 0, 1) := by decide +kernel
theorem d_Model_behindCharset_44 : decode prog_11_method_71_code 44 = .ok (.getfield 83, 3) := by decide +kernel
theorem d_Model_behindCharset_47 : decode prog_11_method_71_code 47 = .ok (.iload 4, 2) := by decide +kernel
theorem d_Model_behindCharset_49 : decode prog_11_method_71_code 49 = .ok (.iaload, 1) := by decide +kernel
theorem d_Model_behindCharset_50 : decode prog_11_method_71_code 50 = .ok (.bipush 39, 2) := by decide +kernel
theorem d_Model_behindCharset_52 : decode prog_11_method_71_code 52 = .ok (.if_icmp .eq 9, 3) := by decide +kernel
theorem d_Model_behindCharset_55 : decode prog_11_method_71_code 55 = .ok (.iinc 4 1, 3) := by decide +kernel
theorem d_Model_behindCharset_58 : decode prog_11_method_71_code 58 = .ok (.goto (-21), 3) := by decide +kernel
theorem d_Model_behindCharset_61 : decode prog_11_method_71_code 61 = .ok (.iload 4, 2) := by decide +kernel
theorem d_Model_behindCharset_63 : decode prog_11_method_71_code 63 = .ok (.iconst 1, 1) := by decide +kernel
theorem d_Model_behindCharset_64 : decode prog_11_method_71_code 64 = .ok (.iadd, 1) := by decide +kernel
theorem d_Model_behindCharset_65 : decode prog_11_method_71_code 65 = .ok (.istore 5, 2) := by decide +kernel
theorem d_Model_behindCharset_67 : decode prog_11_method_71_code 67 = .ok (.iload 5, 2) := by decide +kernel
theorem d_Model_behindCharset_69 : decode prog_11_method_71_code 69 = .ok (.iload_n 3, 1) := by decide +kernel
theorem d_Model_behindCharset_70 : decode prog_11_method_71_code 70 = .ok (.if_icmp .ge 21, 3) := by decide +kernel
theorem d_Model_behindCharset_73 : decode prog_11_method_71_code 73 = .ok (.aload_n 0, 1) := by decide +kernel
theorem d_Model_behindCharset_74 : decode prog_11_method_71_code 74 = .ok (.getfield 83, 3) := by decide +kernel
theorem d_Model_behindCharset_77 : decode prog_11_method_71_code 77 = .ok (.iload 5, 2) := by decide +kernel
theorem d_Model_behindCharset_79 : decode prog_11_method_71_code 79 = .ok (.iaload, 1) := by decide +kernel
theorem d_Model_behindCharset_80 : decode prog_11_method_71_code 80 = .ok (.bipush 39, 2) := by decide +kernel
theorem d_Model_behindCharset_82 : decode prog_11_method_71_code 82 = .ok (.if_icmp .eq 9, 3) := by decide +kernel
theorem d_Model_behindCharset_85 : decode prog_11_method_71_code 85 = .ok (.iinc 5 1, 3) := by decide +kernel
theorem d_Model_behindCharset_88 : decode prog_11_method_71_code 88 = .ok (.goto (-21), 3) := by decide +kernel
theorem d_Model_behindCharset_91 : decode prog_11_method_71_code 91 = .ok (.iload 5, 2) := by decide +kernel
theorem d_Model_behindCharset_93 : decode prog_11_method_71_code 93 = .ok (.iload_n 3, 1) := by decide +kernel
theorem d_Model_behindCharset_94 : decode prog_11_method_71_code 94 = .ok (.if_icmp .lt 5, 3) := by decide +kernel
theorem d_Model_behindCharset_97 : decode prog_11_method_71_code 97 = .ok (.iload_n 2, 1) := by decide +kernel
theorem d_Model_behindCharset_98 : decode prog_11_method_71_code 98 = .ok (.ireturn, 1) := by decide +kernel
theorem d_Model_behindCharset_99 : decode prog_11_method_71_code 99 = .ok (.iload_n 2, 1) := by decide +kernel
theorem d_Model_behindCharset_100 : decode prog_11_method_71_code 100 = .ok (.istore 6, 2) := by decide +kernel
theorem d_Model_behindCharset_102 : decode prog_11_method_71_code 102 = .ok (.iload 6, 2) := by decide +kernel
theorem d_Model_behindCharset_104 : decode prog_11_method_71_code 104 = .ok (.iload 4, 2) := by decide +kernel
theorem d_Model_behindCharset_106 : decode prog_11_method_71_code 106 = .ok (.if_icmp .ge 28, 3) := by decide +kernel
theorem d_Model_behindCharset_109 : decode prog_11_method_71_code 109 = .ok (.aload_n 0, 1) := by decide +kernel
theorem d_Model_behindCharset_110 : decode prog_11_method_71_code 110 = .ok (.getfield 89, 3) := by decide +kernel
theorem d_Model_behindCharset_113 : decode prog_11_method_71_code 113 = .ok (.iload 6, 2) := by decide +kernel
theorem d_Model_behindCharset_115 : decode prog_11_method_71_code 115 = .ok (.iload_n 2, 1) := by decide +kernel
theorem d_Model_behindCharset_116 : decode prog_11_method_71_code 116 = .ok (.isub, 1) := by decide +kernel
theorem d_Model_behindCharset_117 : decode prog_11_method_71_code 117 = .ok (.aload_n 0, 1) := by decide +kernel
theorem d_Model_behindCharset_118 : decode prog_11_method_71_code 118 = .ok (.getfield 83, 3) := by decide +kernel
theorem d_Model_behindCharset_121 : decode prog_11_method_71_code 121 = .ok (.iload 6, 2) := by decide +kernel
theorem d_Model_behindCharset_123 : decode prog_11_method_71_code 123 = .ok (.iaload, 1) := by decide +kernel
theorem d_Model_behindCharset_124 : decode prog_11_method_71_code 124 = .ok (.invokestatic 133, 3) := by decide +kernel
theorem d_Model_behindCharset_127 : decode prog_11_method_71_code 127 = .ok (.iastore, 1) := by decide +kernel
theorem d_Model_behindCharset_128 : decode prog_11_method_71_code 128 = .ok (.iinc 6 1, 3) := by decide +kernel
theorem d_Model_behindCharset_131 : decode prog_11_method_71_code 131 = .ok (.goto (-29), 3) := by decide +kernel
theorem d_Model_behindCharset_134 : decode prog_11_method_71_code 134 = .ok (.aload_n 0, 1) := by decide +kernel
theorem d_Model_behindCharset_135 : decode prog_11_method_71_code 135 = .ok (.iload 4, 2) := by decide +kernel
theorem d_Model_behindCharset_137 : decode prog_11_method_71_code 137 = .ok (.iload_n 2, 1) := by decide +kernel
theorem d_Model_behindCharset_138 : decode prog_11_method_71_code 138 = .ok (.isub, 1) := by decide +kernel
theorem d_Model_behindCharset_139 : decode prog_11_method_71_code 139 = .ok (.putfield 96, 3) := by decide +kernel
theorem d_Model_behindCharset_142 : decode prog_11_method_71_code 142 = .ok (.iload 5, 2) := by decide +kernel
theorem d_Model_behindCharset_144 : decode prog_11_method_71_code 144 = .ok (.iconst 1, 1) := by decide +kernel
theorem d_Model_behindCharset_145 : decode prog_11_method_71_code 145 = .ok (.iadd, 1) := by decide +kernel
theorem d_Model_behindCharset_146 : decode prog_11_method_71_code 146 = .ok (.ireturn, 1) := by decide +kernel
theorem d_Model_isDigit_0 : decode prog_11_method_8_code 0 = .ok (.iload_n 0, 1) := by decide +kernel
theorem d_Model_isDigit_1 : decode prog_11_method_8_code 1 = .ok (.bipush 48, 2) := by decide +kernel
theorem d_Model_isDigit_3 : decode prog_11_method_8_code 3 = .ok (.if_icmp .lt 13, 3) := by decide +kernel
theorem d_Model_isDigit_6 : decode prog_11_method_8_code 6 = .ok (.iload_n 0, 1) := by decide +kernel
theorem d_Model_isDigit_7 : decode prog_11_method_8_code 7 = .ok (.bipush 57, 2) := by decide +kernel
theorem d_Model_isDigit_9 : decode prog_11_method_8_code 9 = .ok (.if_icmp .gt 7, 3) := by decide +kernel
theorem d_Model_isDigit_12 : decode prog_11_method_8_code 12 = .ok (.iconst 1, 1) := by decide +kernel
theorem d_Model_isDigit_13 : decode prog_11_method_8_code 13 = .ok (.goto 4, 3) := by decide +kernel
theorem d_Model_isDigit_16 : decode prog_11_method_8_code 16 = .ok (.iconst 0, 1) := by decide +kernel
theorem d_Model_isDigit_17 : decode prog_11_method_8_code 17 = .ok (.ireturn, 1) := by decide +kernel
theorem d_Model_sixteenth_0 : decode prog_11_method_70_code 0 = .ok (.iload_n 0, 1) := by decide +kernel
theorem d_Model_sixteenth_1 : decode prog_11_method_70_code 1 = .ok (.invokestatic 271, 3) := by decide +kernel
theorem d_Model_sixteenth_4 : decode prog_11_method_70_code 4 = .ok (.ifCond .eq 10, 3) := by decide +kernel
theorem d_Model_sixteenth_7 : decode prog_11_method_70_code 7 = .ok (.iload_n 0, 1) := by decide +kernel
theorem d_Model_sixteenth_8 : decode prog_11_method_70_code 8 = .ok (.bipush 48, 2) := by decide +kernel
theorem d_Model_sixteenth_10 : decode prog_11_method_70_code 10 = .ok (.isub, 1) := by decide +kernel
theorem d_Model_sixteenth_11 : decode prog_11_method_70_code 11 = .ok (.goto 48, 3) := by decide +kernel
theorem d_Model_sixteenth_14 : decode prog_11_method_70_code 14 = .ok (.iload_n 0, 1) := by decide +kernel
theorem d_Model_sixteenth_15 : decode prog_11_method_70_code 15 = .ok (.bipush 97, 2) := by decide +kernel
theorem d_Model_sixteenth_17 : decode prog_11_method_70_code 17 = .ok (.if_icmp .lt 19, 3) := by decide +kernel
theorem d_Model_sixteenth_20 : decode prog_11_method_70_code 20 = .ok (.iload_n 0, 1) := by decide +kernel
theorem d_Model_sixteenth_21 : decode prog_11_method_70_code 21 = .ok (.bipush 102, 2) := by decide +kernel
theorem d_Model_sixteenth_23 : decode prog_11_method_70_code 23 = .ok (.if_icmp .gt 13, 3) := by decide +kernel
theorem d_Model_sixteenth_26 : decode prog_11_method_70_code 26 = .ok (.iload_n 0, 1) := by decide +kernel
theorem d_Model_sixteenth_27 : decode prog_11_method_70_code 27 = .ok (.bipush 97, 2) := by decide +kernel
theorem d_Model_sixteenth_29 : decode prog_11_method_70_code 29 = .ok (.isub, 1) := by decide +kernel
theorem d_Model_sixteenth_30 : decode prog_11_method_70_code 30 = .ok (.bipush 10, 2) := by decide +kernel
theorem d_Model_sixteenth_32 : decode prog_11_method_70_code 32 = .ok (.iadd, 1) := by decide +kernel
theorem d_Model_sixteenth_33 : decode prog_11_method_70_code 33 = .ok (.goto 26, 3) := by decide +kernel
theorem d_Model_sixteenth_36 : decode prog_11_method_70_code 36 = .ok (.iload_n 0, 1) := by decide +kernel
theorem d_Model_sixteenth_37 : decode prog_11_method_70_code 37 = .ok (.bipush 65, 2) := by decide +kernel
theorem d_Model_sixteenth_39 : decode prog_11_method_70_code 39 = .ok (.if_icmp .lt 19, 3) := by decide +kernel
theorem d_Model_sixteenth_42 : decode prog_11_method_70_code 42 = .ok (.iload_n 0, 1) := by decide +kernel
theorem d_Model_sixteenth_43 : decode prog_11_method_70_code 43 = .ok (.bipush 70, 2) := by decide +kernel
theorem d_Model_sixteenth_45 : decode prog_11_method_70_code 45 = .ok (.if_icmp .gt 13, 3) := by decide +kernel
theorem d_Model_sixteenth_48 : decode prog_11_method_70_code 48 = .ok (.iload_n 0, 1) := by decide +kernel
theorem d_Model_sixteenth_49 : decode prog_11_method_70_code 49 = .ok (.bipush 65, 2) := by decide +kernel
theorem d_Model_sixteenth_51 : decode prog_11_method_70_code 51 = .ok (.isub, 1) := by decide +kernel
theorem d_Model_sixteenth_52 : decode prog_11_method_70_code 52 = .ok (.bipush 10, 2) := by decide +kernel
theorem d_Model_sixteenth_54 : decode prog_11_method_70_code 54 = .ok (.iadd, 1) := by decide +kernel
theorem d_Model_sixteenth_55 : decode prog_11_method_70_code 55 = .ok (.goto 4, 3) := by decide +kernel
theorem d_Model_sixteenth_58 : decode prog_11_method_70_code 58 = .ok (.iconst (-1), 1) := by decide +kernel
theorem d_Model_sixteenth_59 : decode prog_11_method_70_code 59 = .ok (.ireturn, 1) := by decide +kernel
theorem d_Model_takeValue_0 : decode prog_11_method_72_code 0 = .ok (.aload_n 0, 1) := by decide +kernel
theorem d_Model_takeValue_1 : decode prog_11_method_72_code 1 = .ok (.iload_n 1, 1) := by decide +kernel
theorem d_Model_takeValue_2 : decode prog_11_method_72_code 2 = .ok (.invokevirtual 359, 3) := by decide +kernel
theorem d_Model_takeValue_5 : decode prog_11_method_72_code 5 = .ok (.istore_n 2, 1) := by decide +kernel
theorem d_Model_takeValue_6 : decode prog_11_method_72_code 6 = .ok (.aload_n 0, 1) := by decide +kernel
theorem d_Model_takeValue_7 : decode prog_11_method_72_code 7 = .ok (.getfield 80, 3) := by decide +kernel
theorem d_Model_takeValue_10 : decode prog_11_method_72_code 10 = .ok (.iload_n 1, 1) := by decide +kernel
theorem d_Model_takeValue_11 : decode prog_11_method_72_code 11 = .ok (.iaload, 1) := by decide +kernel
theorem d_Model_takeValue_12 : decode prog_11_method_72_code 12 = .ok (.istore_n 3, 1) := by decide +kernel
theorem d_Model_takeValue_13 : decode prog_11_method_72_code 13 = .ok (.iload_n 2, 1) := by decide +kernel
theorem d_Model_takeValue_14 : decode prog_11_method_72_code 14 = .ok (.iload_n 3, 1) := by decide +kernel
theorem d_Model_takeValue_15 : decode prog_11_method_72_code 15 = .ok (.if_icmp .ge 140, 3) := by decide +kernel
theorem d_Model_takeValue_18 : decode prog_11_method_72_code 18 = .ok (.aload_n 0, 1) := by decide +kernel
theorem d_Model_takeValue_19 : decode prog_11_method_72_code 19 = .ok (.getfield 73, 3) := by decide +kernel
theorem d_Model_takeValue_22 : decode prog_11_method_72_code 22 = .ok (.iload_n 1, 1) := by decide +kernel
theorem d_Model_takeValue_23 : decode prog_11_method_72_code 23 = .ok (.baload, 1) := by decide +kernel
theorem d_Model_takeValue_24 : decode prog_11_method_72_code 24 = .ok (.ifCond .eq 53, 3) := by decide +kernel
theorem d_Model_takeValue_27 : decode prog_11_method_72_code 27 = .ok (.aload_n 0, 1) := by decide +kernel
theorem d_Model_takeValue_28 : decode prog_11_method_72_code 28 = .ok (.getfield 83, 3) := by decide +kernel
theorem d_Model_takeValue_31 : decode prog_11_method_72_code 31 = .ok (.iload_n 2, 1) := by decide +kernel
theorem d_Model_takeValue_32 : decode prog_11_method_72_code 32 = .ok (.iaload, 1) := by decide +kernel
theorem d_Model_takeValue_33 : decode prog_11_method_72_code 33 = .ok (.bipush 37, 2) := by decide +kernel
theorem d_Model_takeValue_35 : decode prog_11_method_72_code 35 = .ok (.if_icmp .ne 42, 3) := by decide +kernel
theorem d_Model_takeValue_38 : decode prog_11_method_72_code 38 = .ok (.iload_n 2, 1) := by decide +kernel
theorem d_Model_takeValue_39 : decode prog_11_method_72_code 39 = .ok (.iconst 2, 1) := by decide +kernel
theorem d_Model_takeValue_40 : decode prog_11_method_72_code 40 = .ok (.iadd, 1) := by decide +kernel
theorem d_Model_takeValue_41 : decode prog_11_method_72_code 41 = .ok (.iload_n 3, 1) := by decide +kernel
theorem d_Model_takeValue_42 : decode prog_11_method_72_code 42 = .ok (.if_icmp .ge 35, 3) := by decide +kernel
theorem d_Model_takeValue_45 : decode prog_11_method_72_code 45 = .ok (.aload_n 0, 1) := by decide +kernel
theorem d_Model_takeValue_46 : decode prog_11_method_72_code 46 = .ok (.getfield 83, 3) := by decide +kernel
theorem d_Model_takeValue_49 : decode prog_11_method_72_code 49 = .ok (.iload_n 2, 1) := by decide +kernel
theorem d_Model_takeValue_50 : decode prog_11_method_72_code 50 = .ok (.iconst 1, 1) := by decide +kernel
theorem d_Model_takeValue_51 : decode prog_11_method_72_code 51 = .ok (.iadd, 1) := by decide +kernel
theorem d_Model_takeValue_52 : decode prog_11_method_72_code 52 = .ok (.iaload, 1) := by decide +kernel
theorem d_Model_takeValue_53 : decode prog_11_method_72_code 53 = .ok (.invokestatic 362, 3) := by decide +kernel
theorem d_Model_takeValue_56 : decode prog_11_method_72_code 56 = .ok (.ifCond .lt 21, 3) := by decide +kernel
theorem d_Model_takeValue_59 : decode prog_11_method_72_code 59 = .ok (.aload_n 0, 1) := by decide +kernel
theorem d_Model_takeValue_60 : decode prog_11_method_72_code 60 = .ok (.getfield 83, 3) := by decide +kernel
theorem d_Model_takeValue_63 : decode prog_11_method_72_code 63 = .ok (.iload_n 2, 1) := by decide +kernel
theorem d_Model_takeValue_64 : decode prog_11_method_72_code 64 = .ok (.iconst 2, 1) := by decide +kernel
theorem d_Model_takeValue_65 : decode prog_11_method_72_code 65 = .ok (.iadd, 1) := by decide +kernel
theorem d_Model_takeValue_66 : decode prog_11_method_72_code 66 = .ok (.iaload, 1) := by decide +kernel
theorem d_Model_takeValue_67 : decode prog_11_method_72_code 67 = .ok (.invokestatic 362, 3) := by decide +kernel
theorem d_Model_takeValue_70 : decode prog_11_method_72_code 70 = .ok (.ifCond .lt 7, 3) := by decide +kernel
theorem d_Model_takeValue_73 : decode prog_11_method_72_code 73 = .ok (.iconst 1, 1) := by decide +kernel
theorem d_Model_takeValue_74 : decode prog_11_method_72_code 74 = .ok (.goto 4, 3) := by decide +kernel
theorem d_Model_takeValue_77 : decode prog_11_method_72_code 77 = .ok (.iconst 0, 1) := by decide +kernel
theorem d_Model_takeValue_78 : decode prog_11_method_72_code 78 = .ok (.istore 4, 2) := by decide +kernel
theorem d_Model_takeValue_80 : decode prog_11_method_72_code 80 = .ok (.aload_n 0, 1) := by decide +kernel
theorem d_Model_takeValue_81 : decode prog_11_method_72_code 81 = .ok (.getfield 86, 3) := by decide +kernel
theorem d_Model_takeValue_84 : decode prog_11_method_72_code 84 = .ok (.aload_n 0, 1) := by decide +kernel
theorem d_Model_takeValue_85 : decode prog_11_method_72_code 85 = .ok (.getfield 92, 3) := by decide +kernel
theorem d_Model_takeValue_88 : decode prog_11_method_72_code 88 = .ok (.iload 4, 2) := by decide +kernel
theorem d_Model_takeValue_90 : decode prog_11_method_72_code 90 = .ok (.ifCond .eq 32, 3) := by decide +kernel
theorem d_Model_takeValue_93 : decode prog_11_method_72_code 93 = .ok (.bipush 16, 2) := by decide +kernel
theorem d_Model_takeValue_95 : decode prog_11_method_72_code 95 = .ok (.aload_n 0, 1) := by decide +kernel
theorem d_Model_takeValue_96 : decode prog_11_method_72_code 96 = .ok (.getfield 83, 3) := by decide +kernel
theorem d_Model_takeValue_99 : decode prog_11_method_72_code 99 = .ok (.iload_n 2, 1) := by decide +kernel
theorem d_Model_takeValue_100 : decode prog_11_method_72_code 100 = .ok (.iconst 1, 1) := by decide +kernel
theorem d_Model_takeValue_101 : decode prog_11_method_72_code 101 = .ok (.iadd, 1) := by decide +kernel
theorem d_Model_takeValue_102 : decode prog_11_method_72_code 102 = .ok (.iaload, 1) := by decide +kernel
theorem d_Model_takeValue_103 : decode prog_11_method_72_code 103 = .ok (.invokestatic 362, 3) := by decide +kernel
theorem d_Model_takeValue_106 : decode prog_11_method_72_code 106 = .ok (.imul, 1) := by decide +kernel
theorem d_Model_takeValue_107 : decode prog_11_method_72_code 107 = .ok (.aload_n 0, 1) := by decide +kernel
theorem d_Model_takeValue_108 : decode prog_11_method_72_code 108 = .ok (.getfield 83, 3) := by decide +kernel
theorem d_Model_takeValue_111 : decode prog_11_method_72_code 111 = .ok (.iload_n 2, 1) := by decide +kernel
theorem d_Model_takeValue_112 : decode prog_11_method_72_code 112 = .ok (.iconst 2, 1) := by decide +kernel
theorem d_Model_takeValue_113 : decode prog_11_method_72_code 113 = .ok (.iadd, 1) := by decide +kernel
theorem d_Model_takeValue_114 : decode prog_11_method_72_code 114 = .ok (.iaload, 1) := by decide +kernel
theorem d_Model_takeValue_115 : decode prog_11_method_72_code 115 = .ok (.invokestatic 362, 3) := by decide +kernel
theorem d_Model_takeValue_118 : decode prog_11_method_72_code 118 = .ok (.iadd, 1) := by decide +kernel
theorem d_Model_takeValue_119 : decode prog_11_method_72_code 119 = .ok (.goto 9, 3) := by decide +kernel
theorem d_Model_takeValue_122 : decode prog_11_method_72_code 122 = .ok (.aload_n 0, 1) := by decide +kernel
theorem d_Model_takeValue_123 : decode prog_11_method_72_code 123 = .ok (.getfield 83, 3) := by decide +kernel
theorem d_Model_takeValue_126 : decode prog_11_method_72_code 126 = .ok (.iload_n 2, 1) := by decide +kernel
theorem d_Model_takeValue_127 : decode prog_11_method_72_code 127 = .ok (.iaload, 1) := by decide +kernel
theorem d_Model_takeValue_128 : decode prog_11_method_72_code 128 = .ok (.iastore, 1) := by decide +kernel
theorem d_Model_takeValue_129 : decode prog_11_method_72_code 129 = .ok (.aload_n 0, 1) := by decide +kernel
theorem d_Model_takeValue_130 : decode prog_11_method_72_code 130 = .ok (.dup, 1) := by decide +kernel
theorem d_Model_takeValue_131 : decode prog_11_method_72_code 131 = .ok (.getfield 92, 3) := by decide +kernel
theorem d_Model_takeValue_134 : decode prog_11_method_72_code 134 = .ok (.iconst 1, 1) := by decide +kernel
theorem d_Model_takeValue_135 : decode prog_11_method_72_code 135 = .ok (.iadd, 1) := by decide +kernel
theorem d_Model_takeValue_136 : decode prog_11_method_72_code 136 = .ok (.putfield 92, 3) := by decide +kernel
theorem d_Model_takeValue_139 : decode prog_11_method_72_code 139 = .ok (.iload_n 2, 1) := by decide +kernel
theorem d_Model_takeValue_140 : decode prog_11_method_72_code 140 = .ok (.iload 4, 2) := by decide +kernel
theorem d_Model_takeValue_142 : decode prog_11_method_72_code 142 = .ok (.ifCond .eq 7, 3) := by decide +kernel
theorem d_Model_takeValue_145 : decode prog_11_method_72_code 145 = .ok (.iconst 3, 1) := by decide +kernel
theorem d_Model_takeValue_146 : decode prog_11_method_72_code 146 = .ok (.goto 4, 3) := by decide +kernel
theorem d_Model_takeValue_149 : decode prog_11_method_72_code 149 = .ok (.iconst 1, 1) := by decide +kernel
theorem d_Model_takeValue_150 : decode prog_11_method_72_code 150 = .ok (.iadd, 1) := by decide +kernel
theorem d_Model_takeValue_151 : decode prog_11_method_72_code 151 = .ok (.istore_n 2, 1) := by decide +kernel
theorem d_Model_takeValue_152 : decode prog_11_method_72_code 152 = .ok (.goto (-139), 3) := by decide +kernel
theorem d_Model_takeValue_155 : decode prog_11_method_72_code 155 = .ok (.return_, 1) := by decide +kernel
theorem d_Model_parameter_0 : decode prog_11_method_73_code 0 = .ok (.aload_n 0, 1) := by decide +kernel
theorem d_Model_parameter_1 : decode prog_11_method_73_code 1 = .ok (.iconst 0, 1) := by decide +kernel
theorem d_Model_parameter_2 : decode prog_11_method_73_code 2 = .ok (.putfield 99, 3) := by decide +kernel
theorem d_Model_parameter_5 : decode prog_11_method_73_code 5 = .ok (.aload_n 0, 1) := by decide +kernel
theorem d_Model_parameter_6 : decode prog_11_method_73_code 6 = .ok (.getfield 106, 3) := by decide +kernel
theorem d_Model_parameter_9 : decode prog_11_method_73_code 9 = .ok (.istore_n 1, 1) := by decide +kernel
theorem d_Model_parameter_10 : decode prog_11_method_73_code 10 = .ok (.aload_n 0, 1) := by decide +kernel
theorem d_Model_parameter_11 : decode prog_11_method_73_code 11 = .ok (.iconst 0, 1) := by decide +kernel
theorem d_Model_parameter_12 : decode prog_11_method_73_code 12 = .ok (.putfield 106, 3) := by decide +kernel
theorem d_Model_parameter_15 : decode prog_11_method_73_code 15 = .ok (.aload_n 0, 1) := by decide +kernel
theorem d_Model_parameter_16 : decode prog_11_method_73_code 16 = .ok (.iconst (-1), 1) := by decide +kernel
theorem d_Model_parameter_17 : decode prog_11_method_73_code 17 = .ok (.putfield 92, 3) := by decide +kernel
theorem d_Model_parameter_20 : decode prog_11_method_73_code 20 = .ok (.aload_n 0, 1) := by decide +kernel
theorem d_Model_parameter_21 : decode prog_11_method_73_code 21 = .ok (.iconst (-1), 1) := by decide +kernel
theorem d_Model_parameter_22 : decode prog_11_method_73_code 22 = .ok (.putfield 96, 3) := by decide +kernel
theorem d_Model_parameter_25 : decode prog_11_method_73_code 25 = .ok (.aload_n 0, 1) := by decide +kernel
theorem d_Model_parameter_26 : decode prog_11_method_73_code 26 = .ok (.iload_n 1, 1) := by decide +kernel
theorem d_Model_parameter_27 : decode prog_11_method_73_code 27 = .ok (.iconst (-1), 1) := by decide +kernel
theorem d_Model_parameter_28 : decode prog_11_method_73_code 28 = .ok (.invokevirtual 365, 3) := by decide +kernel
theorem d_Model_parameter_31 : decode prog_11_method_73_code 31 = .ok (.istore_n 2, 1) := by decide +kernel
theorem d_Model_parameter_32 : decode prog_11_method_73_code 32 = .ok (.iload_n 2, 1) := by decide +kernel
theorem d_Model_parameter_33 : decode prog_11_method_73_code 33 = .ok (.iconst (-1), 1) := by decide +kernel
theorem d_Model_parameter_34 : decode prog_11_method_73_code 34 = .ok (.if_icmp .eq 7, 3) := by decide +kernel
theorem d_Model_parameter_37 : decode prog_11_method_73_code 37 = .ok (.iconst 1, 1) := by decide +kernel
theorem d_Model_parameter_38 : decode prog_11_method_73_code 38 = .ok (.goto 4, 3) := by decide +kernel
theorem d_Model_parameter_41 : decode prog_11_method_73_code 41 = .ok (.iconst 0, 1) := by decide +kernel
theorem d_Model_parameter_42 : decode prog_11_method_73_code 42 = .ok (.istore_n 3, 1) := by decide +kernel
theorem d_Model_parameter_43 : decode prog_11_method_73_code 43 = .ok (.iload_n 3, 1) := by decide +kernel
theorem d_Model_parameter_44 : decode prog_11_method_73_code 44 = .ok (.ifCond .ne 10, 3) := by decide +kernel
theorem d_Model_parameter_47 : decode prog_11_method_73_code 47 = .ok (.aload_n 0, 1) := by decide +kernel
theorem d_Model_parameter_48 : decode prog_11_method_73_code 48 = .ok (.iload_n 1, 1) := by decide +kernel
theorem d_Model_parameter_49 : decode prog_11_method_73_code 49 = .ok (.iconst 0, 1) := by decide +kernel
theorem d_Model_parameter_50 : decode prog_11_method_73_code 50 = .ok (.invokevirtual 365, 3) := by decide +kernel
theorem d_Model_parameter_53 : decode prog_11_method_73_code 53 = .ok (.istore_n 2, 1) := by decide +kernel
theorem d_Model_parameter_54 : decode prog_11_method_73_code 54 = .ok (.iload_n 2, 1) := by decide +kernel
theorem d_Model_parameter_55 : decode prog_11_method_73_code 55 = .ok (.iconst (-1), 1) := by decide +kernel
theorem d_Model_parameter_56 : decode prog_11_method_73_code 56 = .ok (.if_icmp .ne 5, 3) := by decide +kernel
theorem d_Model_parameter_59 : decode prog_11_method_73_code 59 = .ok (.iconst (-1), 1) := by decide +kernel
theorem d_Model_parameter_60 : decode prog_11_method_73_code 60 = .ok (.ireturn, 1) := by decide +kernel
theorem d_Model_parameter_61 : decode prog_11_method_73_code 61 = .ok (.aload_n 0, 1) := by decide +kernel
theorem d_Model_parameter_62 : decode prog_11_method_73_code 62 = .ok (.iconst 0, 1) := by decide +kernel
theorem d_Model_parameter_63 : decode prog_11_method_73_code 63 = .ok (.putfield 92, 3) := by decide +kernel
theorem d_Model_parameter_66 : decode prog_11_method_73_code 66 = .ok (.aload_n 0, 1) := by decide +kernel
theorem d_Model_parameter_67 : decode prog_11_method_73_code 67 = .ok (.iconst 0, 1) := by decide +kernel
theorem d_Model_parameter_68 : decode prog_11_method_73_code 68 = .ok (.putfield 96, 3) := by decide +kernel
theorem d_Model_parameter_71 : decode prog_11_method_73_code 71 = .ok (.aload_n 0, 1) := by decide +kernel
theorem d_Model_parameter_72 : decode prog_11_method_73_code 72 = .ok (.iload_n 2, 1) := by decide +kernel
theorem d_Model_parameter_73 : decode prog_11_method_73_code 73 = .ok (.invokevirtual 368, 3) := by decide +kernel
theorem d_Model_parameter_76 : decode prog_11_method_73_code 76 = .ok (.iconst 1, 1) := by decide +kernel
theorem d_Model_parameter_77 : decode prog_11_method_73_code 77 = .ok (.istore 4, 2) := by decide +kernel
theorem d_Model_parameter_79 : decode prog_11_method_73_code 79 = .ok (.iload 4, 2) := by decide +kernel
theorem d_Model_parameter_81 : decode prog_11_method_73_code 81 = .ok (.bipush 10, 2) := by decide +kernel
theorem d_Model_parameter_83 : decode prog_11_method_73_code 83 = .ok (.if_icmp .ge 38, 3) := by decide +kernel
theorem d_Model_parameter_86 : decode prog_11_method_73_code 86 = .ok (.iload_n 3, 1) := by decide +kernel
theorem d_Model_parameter_87 : decode prog_11_method_73_code 87 = .ok (.ifCond .ne 34, 3) := by decide +kernel
theorem d_Model_parameter_90 : decode prog_11_method_73_code 90 = .ok (.aload_n 0, 1) := by decide +kernel
theorem d_Model_parameter_91 : decode prog_11_method_73_code 91 = .ok (.iload_n 1, 1) := by decide +kernel
theorem d_Model_parameter_92 : decode prog_11_method_73_code 92 = .ok (.iload 4, 2) := by decide +kernel
theorem d_Model_parameter_94 : decode prog_11_method_73_code 94 = .ok (.invokevirtual 365, 3) := by decide +kernel
theorem d_Model_parameter_97 : decode prog_11_method_73_code 97 = .ok (.istore_n 2, 1) := by decide +kernel
theorem d_Model_parameter_98 : decode prog_11_method_73_code 98 = .ok (.iload_n 2, 1) := by decide +kernel
theorem d_Model_parameter_99 : decode prog_11_method_73_code 99 = .ok (.iconst (-1), 1) := by decide +kernel
theorem d_Model_parameter_100 : decode prog_11_method_73_code 100 = .ok (.if_icmp .ne 10, 3) := by decide +kernel
theorem d_Model_parameter_103 : decode prog_11_method_73_code 103 = .ok (.bipush 10, 2) := by decide +kernel
theorem d_Model_parameter_105 : decode prog_11_method_73_code 105 = .ok (.istore 4, 2) := by decide +kernel
theorem d_Model_parameter_107 : decode prog_11_method_73_code 107 = .ok (.goto 8, 3) := by decide +kernel
theorem d_Model_parameter_110 : decode prog_11_method_73_code 110 = .ok (.aload_n 0, 1) := by decide +kernel
theorem d_Model_parameter_111 : decode prog_11_method_73_code 111 = .ok (.iload_n 2, 1) := by decide +kernel
theorem d_Model_parameter_112 : decode prog_11_method_73_code 112 = .ok (.invokevirtual 368, 3) := by decide +kernel
theorem d_Model_parameter_115 : decode prog_11_method_73_code 115 = .ok (.iinc 4 1, 3) := by decide +kernel
theorem d_Model_parameter_118 : decode prog_11_method_73_code 118 = .ok (.goto (-39), 3) := by decide +kernel
theorem d_Model_parameter_121 : decode prog_11_method_73_code 121 = .ok (.aload_n 0, 1) := by decide +kernel
theorem d_Model_parameter_122 : decode prog_11_method_73_code 122 = .ok (.getfield 92, 3) := by decide +kernel
theorem d_Model_parameter_125 : decode prog_11_method_73_code 125 = .ok (.ireturn, 1) := by decide +kernel
theorem d_Model_isField_0 : decode prog_11_method_15_code 0 = .ok (.iload_n 1, 1) := by decide +kernel
theorem d_Model_isField_1 : decode prog_11_method_15_code 1 = .ok (.ifCond .lt 15, 3) := by decide +kernel
theorem d_Model_isField_4 : decode prog_11_method_15_code 4 = .ok (.iload_n 1, 1) := by decide +kernel
theorem d_Model_isField_5 : decode prog_11_method_15_code 5 = .ok (.aload_n 0, 1) := by decide +kernel
theorem d_Model_isField_6 : decode prog_11_method_15_code 6 = .ok (.getfield 116, 3) := by decide +kernel
theorem d_Model_isField_9 : decode prog_11_method_15_code 9 = .ok (.if_icmp .ge 7, 3) := by decide +kernel
theorem d_Model_isField_12 : decode prog_11_method_15_code 12 = .ok (.iconst 1, 1) := by decide +kernel
theorem d_Model_isField_13 : decode prog_11_method_15_code 13 = .ok (.goto 4, 3) := by decide +kernel
theorem d_Model_isField_16 : decode prog_11_method_15_code 16 = .ok (.iconst 0, 1) := by decide +kernel
theorem d_Model_isField_17 : decode prog_11_method_15_code 17 = .ok (.ireturn, 1) := by decide +kernel
theorem d_Model_field_0 : decode prog_11_method_16_code 0 = .ok (.aload_n 0, 1) := by decide +kernel
theorem d_Model_field_1 : decode prog_11_method_16_code 1 = .ok (.iconst 0, 1) := by decide +kernel
theorem d_Model_field_2 : decode prog_11_method_16_code 2 = .ok (.putfield 99, 3) := by decide +kernel
theorem d_Model_field_5 : decode prog_11_method_16_code 5 = .ok (.aload_n 0, 1) := by decide +kernel
theorem d_Model_field_6 : decode prog_11_method_16_code 6 = .ok (.iload_n 1, 1) := by decide +kernel
theorem d_Model_field_7 : decode prog_11_method_16_code 7 = .ok (.invokevirtual 137, 3) := by decide +kernel
theorem d_Model_field_10 : decode prog_11_method_16_code 10 = .ok (.ifCond .eq 12, 3) := by decide +kernel
theorem d_Model_field_13 : decode prog_11_method_16_code 13 = .ok (.iload_n 2, 1) := by decide +kernel
theorem d_Model_field_14 : decode prog_11_method_16_code 14 = .ok (.ifCond .lt 8, 3) := by decide +kernel
theorem d_Model_field_17 : decode prog_11_method_16_code 17 = .ok (.iload_n 2, 1) := by decide +kernel
theorem d_Model_field_18 : decode prog_11_method_16_code 18 = .ok (.iconst 1, 1) := by decide +kernel
theorem d_Model_field_19 : decode prog_11_method_16_code 19 = .ok (.if_icmp .le 5, 3) := by decide +kernel
theorem d_Model_field_22 : decode prog_11_method_16_code 22 = .ok (.iconst (-1), 1) := by decide +kernel
theorem d_Model_field_23 : decode prog_11_method_16_code 23 = .ok (.ireturn, 1) := by decide +kernel
theorem d_Model_field_24 : decode prog_11_method_16_code 24 = .ok (.iload_n 2, 1) := by decide +kernel
theorem d_Model_field_25 : decode prog_11_method_16_code 25 = .ok (.ifCond .ne 12, 3) := by decide +kernel
theorem d_Model_field_28 : decode prog_11_method_16_code 28 = .ok (.aload_n 0, 1) := by decide +kernel
theorem d_Model_field_29 : decode prog_11_method_16_code 29 = .ok (.getfield 19, 3) := by decide +kernel
theorem d_Model_field_32 : decode prog_11_method_16_code 32 = .ok (.iload_n 1, 1) := by decide +kernel
theorem d_Model_field_33 : decode prog_11_method_16_code 33 = .ok (.iaload, 1) := by decide +kernel
theorem d_Model_field_34 : decode prog_11_method_16_code 34 = .ok (.goto 9, 3) := by decide +kernel
theorem d_Model_field_37 : decode prog_11_method_16_code 37 = .ok (.aload_n 0, 1) := by decide +kernel
theorem d_Model_field_38 : decode prog_11_method_16_code 38 = .ok (.getfield 25, 3) := by decide +kernel
theorem d_Model_field_41 : decode prog_11_method_16_code 41 = .ok (.iload_n 1, 1) := by decide +kernel
theorem d_Model_field_42 : decode prog_11_method_16_code 42 = .ok (.iaload, 1) := by decide +kernel
theorem d_Model_field_43 : decode prog_11_method_16_code 43 = .ok (.ireturn, 1) := by decide +kernel
theorem d_Model_fieldByte_0 : decode prog_11_method_17_code 0 = .ok (.aload_n 0, 1) := by decide +kernel
theorem d_Model_fieldByte_1 : decode prog_11_method_17_code 1 = .ok (.iload_n 1, 1) := by decide +kernel
theorem d_Model_fieldByte_2 : decode prog_11_method_17_code 2 = .ok (.iload_n 2, 1) := by decide +kernel
theorem d_Model_fieldByte_3 : decode prog_11_method_17_code 3 = .ok (.invokevirtual 140, 3) := by decide +kernel
theorem d_Model_fieldByte_6 : decode prog_11_method_17_code 6 = .ok (.istore 4, 2) := by decide +kernel
theorem d_Model_fieldByte_8 : decode prog_11_method_17_code 8 = .ok (.iload_n 3, 1) := by decide +kernel
theorem d_Model_fieldByte_9 : decode prog_11_method_17_code 9 = .ok (.ifCond .lt 9, 3) := by decide +kernel
theorem d_Model_fieldByte_12 : decode prog_11_method_17_code 12 = .ok (.iload_n 3, 1) := by decide +kernel
theorem d_Model_fieldByte_13 : decode prog_11_method_17_code 13 = .ok (.iload 4, 2) := by decide +kernel
theorem d_Model_fieldByte_15 : decode prog_11_method_17_code 15 = .ok (.if_icmp .lt 5, 3) := by decide +kernel
theorem d_Model_fieldByte_18 : decode prog_11_method_17_code 18 = .ok (.iconst (-1), 1) := by decide +kernel
theorem d_Model_fieldByte_19 : decode prog_11_method_17_code 19 = .ok (.ireturn, 1) := by decide +kernel
theorem d_Model_fieldByte_20 : decode prog_11_method_17_code 20 = .ok (.aload_n 0, 1) := by decide +kernel
theorem d_Model_fieldByte_21 : decode prog_11_method_17_code 21 = .ok (.getfield 28, 3) := by decide +kernel
theorem d_Model_fieldByte_24 : decode prog_11_method_17_code 24 = .ok (.iload_n 2, 1) := by decide +kernel
theorem d_Model_fieldByte_25 : decode prog_11_method_17_code 25 = .ok (.ifCond .ne 12, 3) := by decide +kernel
theorem d_Model_fieldByte_28 : decode prog_11_method_17_code 28 = .ok (.aload_n 0, 1) := by decide +kernel
theorem d_Model_fieldByte_29 : decode prog_11_method_17_code 29 = .ok (.getfield 16, 3) := by decide +kernel
theorem d_Model_fieldByte_32 : decode prog_11_method_17_code 32 = .ok (.iload_n 1, 1) := by decide +kernel
theorem d_Model_fieldByte_33 : decode prog_11_method_17_code 33 = .ok (.iaload, 1) := by decide +kernel
theorem d_Model_fieldByte_34 : decode prog_11_method_17_code 34 = .ok (.goto 9, 3) := by decide +kernel
theorem d_Model_fieldByte_37 : decode prog_11_method_17_code 37 = .ok (.aload_n 0, 1) := by decide +kernel
theorem d_Model_fieldByte_38 : decode prog_11_method_17_code 38 = .ok (.getfield 22, 3) := by decide +kernel
theorem d_Model_fieldByte_41 : decode prog_11_method_17_code 41 = .ok (.iload_n 1, 1) := by decide +kernel
theorem d_Model_fieldByte_42 : decode prog_11_method_17_code 42 = .ok (.iaload, 1) := by decide +kernel
theorem d_Model_fieldByte_43 : decode prog_11_method_17_code 43 = .ok (.iload_n 3, 1) := by decide +kernel
theorem d_Model_fieldByte_44 : decode prog_11_method_17_code 44 = .ok (.iadd, 1) := by decide +kernel
theorem d_Model_fieldByte_45 : decode prog_11_method_17_code 45 = .ok (.iaload, 1) := by decide +kernel
theorem d_Model_fieldByte_46 : decode prog_11_method_17_code 46 = .ok (.ireturn, 1) := by decide +kernel
theorem d_Model_find_0 : decode prog_11_method_14_code 0 = .ok (.aload_n 0, 1) := by decide +kernel
theorem d_Model_find_1 : decode prog_11_method_14_code 1 = .ok (.iconst 0, 1) := by decide +kernel
theorem d_Model_find_2 : decode prog_11_method_14_code 2 = .ok (.putfield 99, 3) := by decide +kernel
theorem d_Model_find_5 : decode prog_11_method_14_code 5 = .ok (.aload_n 0, 1) := by decide +kernel
theorem d_Model_find_6 : decode prog_11_method_14_code 6 = .ok (.getfield 106, 3) := by decide +kernel
theorem d_Model_find_9 : decode prog_11_method_14_code 9 = .ok (.istore_n 1, 1) := by decide +kernel
theorem d_Model_find_10 : decode prog_11_method_14_code 10 = .ok (.aload_n 0, 1) := by decide +kernel
theorem d_Model_find_11 : decode prog_11_method_14_code 11 = .ok (.iconst 0, 1) := by decide +kernel
theorem d_Model_find_12 : decode prog_11_method_14_code 12 = .ok (.putfield 106, 3) := by decide +kernel
theorem d_Model_find_15 : decode prog_11_method_14_code 15 = .ok (.iconst 0, 1) := by decide +kernel
theorem d_Model_find_16 : decode prog_11_method_14_code 16 = .ok (.istore_n 2, 1) := by decide +kernel
theorem d_Model_find_17 : decode prog_11_method_14_code 17 = .ok (.iload_n 2, 1) := by decide +kernel
theorem d_Model_find_18 : decode prog_11_method_14_code 18 = .ok (.aload_n 0, 1) := by decide +kernel
theorem d_Model_find_19 : decode prog_11_method_14_code 19 = .ok (.getfield 116, 3) := by decide +kernel
theorem d_Model_find_22 : decode prog_11_method_14_code 22 = .ok (.if_icmp .ge 86, 3) := by decide +kernel
theorem d_Model_find_25 : decode prog_11_method_14_code 25 = .ok (.aload_n 0, 1) := by decide +kernel
theorem d_Model_find_26 : decode prog_11_method_14_code 26 = .ok (.getfield 19, 3) := by decide +kernel
theorem d_Model_find_29 : decode prog_11_method_14_code 29 = .ok (.iload_n 2, 1) := by decide +kernel
theorem d_Model_find_30 : decode prog_11_method_14_code 30 = .ok (.iaload, 1) := by decide +kernel
theorem d_Model_find_31 : decode prog_11_method_14_code 31 = .ok (.iload_n 1, 1) := by decide +kernel
theorem d_Model_find_32 : decode prog_11_method_14_code 32 = .ok (.if_icmp .ne 7, 3) := by decide +kernel
theorem d_Model_find_35 : decode prog_11_method_14_code 35 = .ok (.iconst 1, 1) := by decide +kernel
theorem d_Model_find_36 : decode prog_11_method_14_code 36 = .ok (.goto 4, 3) := by decide +kernel
theorem d_Model_find_39 : decode prog_11_method_14_code 39 = .ok (.iconst 0, 1) := by decide +kernel
theorem d_Model_find_40 : decode prog_11_method_14_code 40 = .ok (.istore_n 3, 1) := by decide +kernel
theorem d_Model_find_41 : decode prog_11_method_14_code 41 = .ok (.iconst 0, 1) := by decide +kernel
theorem d_Model_find_42 : decode prog_11_method_14_code 42 = .ok (.istore 4, 2) := by decide +kernel
theorem d_Model_find_44 : decode prog_11_method_14_code 44 = .ok (.iload 4, 2) := by decide +kernel
theorem d_Model_find_46 : decode prog_11_method_14_code 46 = .ok (.iload_n 1, 1) := by decide +kernel
theorem d_Model_find_47 : decode prog_11_method_14_code 47 = .ok (.if_icmp .ge 49, 3) := by decide +kernel
theorem d_Model_find_50 : decode prog_11_method_14_code 50 = .ok (.iload_n 3, 1) := by decide +kernel
theorem d_Model_find_51 : decode prog_11_method_14_code 51 = .ok (.ifCond .eq 45, 3) := by decide +kernel
theorem d_Model_find_54 : decode prog_11_method_14_code 54 = .ok (.aload_n 0, 1) := by decide +kernel
theorem d_Model_find_55 : decode prog_11_method_14_code 55 = .ok (.getfield 28, 3) := by decide +kernel
theorem d_Model_find_58 : decode prog_11_method_14_code 58 = .ok (.aload_n 0, 1) := by decide +kernel
theorem d_Model_find_59 : decode prog_11_method_14_code 59 = .ok (.getfield 16, 3) := by decide +kernel
theorem d_Model_find_62 : decode prog_11_method_14_code 62 = .ok (.iload_n 2, 1) := by decide +kernel
theorem d_Model_find_63 : decode prog_11_method_14_code 63 = .ok (.iaload, 1) := by decide +kernel
theorem d_Model_find_64 : decode prog_11_method_14_code 64 = .ok (.iload 4, 2) := by decide +kernel
theorem d_Model_find_66 : decode prog_11_method_14_code 66 = .ok (.iadd, 1) := by decide +kernel
theorem d_Model_find_67 : decode prog_11_method_14_code 67 = .ok (.iaload, 1) := by decide +kernel
theorem d_Model_find_68 : decode prog_11_method_14_code 68 = .ok (.invokestatic 133, 3) := by decide +kernel
theorem d_Model_find_71 : decode prog_11_method_14_code 71 = .ok (.aload_n 0, 1) := by decide +kernel
theorem d_Model_find_72 : decode prog_11_method_14_code 72 = .ok (.getfield 13, 3) := by decide +kernel
theorem d_Model_find_75 : decode prog_11_method_14_code 75 = .ok (.iload 4, 2) := by decide +kernel
theorem d_Model_find_77 : decode prog_11_method_14_code 77 = .ok (.iaload, 1) := by decide +kernel
theorem d_Model_find_78 : decode prog_11_method_14_code 78 = .ok (.invokestatic 133, 3) := by decide +kernel
theorem d_Model_find_81 : decode prog_11_method_14_code 81 = .ok (.if_icmp .ne 7, 3) := by decide +kernel
theorem d_Model_find_84 : decode prog_11_method_14_code 84 = .ok (.iconst 1, 1) := by decide +kernel
theorem d_Model_find_85 : decode prog_11_method_14_code 85 = .ok (.goto 4, 3) := by decide +kernel
theorem d_Model_find_88 : decode prog_11_method_14_code 88 = .ok (.iconst 0, 1) := by decide +kernel
theorem d_Model_find_89 : decode prog_11_method_14_code 89 = .ok (.istore_n 3, 1) := by decide +kernel
theorem d_Model_find_90 : decode prog_11_method_14_code 90 = .ok (.iinc 4 1, 3) := by decide +kernel
theorem d_Model_find_93 : decode prog_11_method_14_code 93 = .ok (.goto (-49), 3) := by decide +kernel
theorem d_Model_find_96 : decode prog_11_method_14_code 96 = .ok (.iload_n 3, 1) := by decide +kernel
theorem d_Model_find_97 : decode prog_11_method_14_code 97 = .ok (.ifCond .eq 5, 3) := by decide +kernel
theorem d_Model_find_100 : decode prog_11_method_14_code 100 = .ok (.iload_n 2, 1) := by decide +kernel
theorem d_Model_find_101 : decode prog_11_method_14_code 101 = .ok (.ireturn, 1) := by decide +kernel
theorem d_Model_find_102 : decode prog_11_method_14_code 102 = .ok (.iinc 2 1, 3) := by decide +kernel
theorem d_Model_find_105 : decode prog_11_method_14_code 105 = .ok (.goto (-88), 3) := by decide +kernel
theorem d_Model_find_108 : decode prog_11_method_14_code 108 = .ok (.iconst (-1), 1) := by decide +kernel
theorem d_Model_find_109 : decode prog_11_method_14_code 109 = .ok (.ireturn, 1) := by decide +kernel
theorem d_Model_bad_0 : decode prog_11_method_13_code 0 = .ok (.aload_n 0, 1) := by decide +kernel
theorem d_Model_bad_1 : decode prog_11_method_13_code 1 = .ok (.iconst 0, 1) := by decide +kernel
theorem d_Model_bad_2 : decode prog_11_method_13_code 2 = .ok (.putfield 99, 3) := by decide +kernel
theorem d_Model_bad_5 : decode prog_11_method_13_code 5 = .ok (.aload_n 0, 1) := by decide +kernel
theorem d_Model_bad_6 : decode prog_11_method_13_code 6 = .ok (.getfield 122, 3) := by decide +kernel
theorem d_Model_bad_9 : decode prog_11_method_13_code 9 = .ok (.ireturn, 1) := by decide +kernel
theorem d_Model_readyWord_0 : decode prog_11_method_3_code 0 = .ok (.iconst 0, 1) := by decide +kernel
theorem d_Model_readyWord_1 : decode prog_11_method_3_code 1 = .ok (.istore_n 3, 1) := by decide +kernel
theorem d_Model_readyWord_2 : decode prog_11_method_3_code 2 = .ok (.iload_n 3, 1) := by decide +kernel
theorem d_Model_readyWord_3 : decode prog_11_method_3_code 3 = .ok (.iconst 4, 1) := by decide +kernel
theorem d_Model_readyWord_4 : decode prog_11_method_3_code 4 = .ok (.if_icmp .ge 30, 3) := by decide +kernel
theorem d_Model_readyWord_7 : decode prog_11_method_3_code 7 = .ok (.aload_n 0, 1) := by decide +kernel
theorem d_Model_readyWord_8 : decode prog_11_method_3_code 8 = .ok (.getfield 7, 3) := by decide +kernel
theorem d_Model_readyWord_11 : decode prog_11_method_3_code 11 = .ok (.iload_n 1, 1) := by decide +kernel
theorem d_Model_readyWord_12 : decode prog_11_method_3_code 12 = .ok (.iload_n 3, 1) := by decide +kernel
theorem d_Model_readyWord_13 : decode prog_11_method_3_code 13 = .ok (.iadd, 1) := by decide +kernel
theorem d_Model_readyWord_14 : decode prog_11_method_3_code 14 = .ok (.iload_n 2, 1) := by decide +kernel
theorem d_Model_readyWord_15 : decode prog_11_method_3_code 15 = .ok (.bipush 24, 2) := by decide +kernel
theorem d_Model_readyWord_17 : decode prog_11_method_3_code 17 = .ok (.bipush 8, 2) := by decide +kernel
theorem d_Model_readyWord_19 : decode prog_11_method_3_code 19 = .ok (.iload_n 3, 1) := by decide +kernel
theorem d_Model_readyWord_20 : decode prog_11_method_3_code 20 = .ok (.imul, 1) := by decide +kernel
theorem d_Model_readyWord_21 : decode prog_11_method_3_code 21 = .ok (.isub, 1) := by decide +kernel
theorem d_Model_readyWord_22 : decode prog_11_method_3_code 22 = .ok (.iushr, 1) := by decide +kernel
theorem d_Model_readyWord_23 : decode prog_11_method_3_code 23 = .ok (.sipush 255, 3) := by decide +kernel
theorem d_Model_readyWord_26 : decode prog_11_method_3_code 26 = .ok (.iand, 1) := by decide +kernel
theorem d_Model_readyWord_27 : decode prog_11_method_3_code 27 = .ok (.iastore, 1) := by decide +kernel
theorem d_Model_readyWord_28 : decode prog_11_method_3_code 28 = .ok (.iinc 3 1, 3) := by decide +kernel
theorem d_Model_readyWord_31 : decode prog_11_method_3_code 31 = .ok (.goto (-29), 3) := by decide +kernel
theorem d_Model_readyWord_34 : decode prog_11_method_3_code 34 = .ok (.return_, 1) := by decide +kernel
theorem d_Model_feed_0 : decode prog_11_method_4_code 0 = .ok (.aload_n 0, 1) := by decide +kernel
theorem d_Model_feed_1 : decode prog_11_method_4_code 1 = .ok (.iconst 0, 1) := by decide +kernel
theorem d_Model_feed_2 : decode prog_11_method_4_code 2 = .ok (.putfield 99, 3) := by decide +kernel
theorem d_Model_feed_5 : decode prog_11_method_4_code 5 = .ok (.aload_n 0, 1) := by decide +kernel
theorem d_Model_feed_6 : decode prog_11_method_4_code 6 = .ok (.iconst 0, 1) := by decide +kernel
theorem d_Model_feed_7 : decode prog_11_method_4_code 7 = .ok (.iload_n 1, 1) := by decide +kernel
theorem d_Model_feed_8 : decode prog_11_method_4_code 8 = .ok (.invokevirtual 102, 3) := by decide +kernel
theorem d_Model_feed_11 : decode prog_11_method_4_code 11 = .ok (.aload_n 0, 1) := by decide +kernel
theorem d_Model_feed_12 : decode prog_11_method_4_code 12 = .ok (.iconst 4, 1) := by decide +kernel
theorem d_Model_feed_13 : decode prog_11_method_4_code 13 = .ok (.iload_n 2, 1) := by decide +kernel
theorem d_Model_feed_14 : decode prog_11_method_4_code 14 = .ok (.invokevirtual 102, 3) := by decide +kernel
theorem d_Model_feed_17 : decode prog_11_method_4_code 17 = .ok (.aload_n 0, 1) := by decide +kernel
theorem d_Model_feed_18 : decode prog_11_method_4_code 18 = .ok (.bipush 8, 2) := by decide +kernel
theorem d_Model_feed_20 : decode prog_11_method_4_code 20 = .ok (.iload_n 3, 1) := by decide +kernel
theorem d_Model_feed_21 : decode prog_11_method_4_code 21 = .ok (.invokevirtual 102, 3) := by decide +kernel
theorem d_Model_feed_24 : decode prog_11_method_4_code 24 = .ok (.aload_n 0, 1) := by decide +kernel
theorem d_Model_feed_25 : decode prog_11_method_4_code 25 = .ok (.bipush 12, 2) := by decide +kernel
theorem d_Model_feed_27 : decode prog_11_method_4_code 27 = .ok (.iload 4, 2) := by decide +kernel
theorem d_Model_feed_29 : decode prog_11_method_4_code 29 = .ok (.invokevirtual 102, 3) := by decide +kernel
theorem d_Model_feed_32 : decode prog_11_method_4_code 32 = .ok (.aload_n 0, 1) := by decide +kernel
theorem d_Model_feed_33 : decode prog_11_method_4_code 33 = .ok (.bipush 16, 2) := by decide +kernel
theorem d_Model_feed_35 : decode prog_11_method_4_code 35 = .ok (.iload 5, 2) := by decide +kernel
theorem d_Model_feed_37 : decode prog_11_method_4_code 37 = .ok (.invokevirtual 102, 3) := by decide +kernel
theorem d_Model_feed_40 : decode prog_11_method_4_code 40 = .ok (.return_, 1) := by decide +kernel
theorem d_Model_init_0 : decode prog_11_method_1_code 0 = .ok (.aload_n 0, 1) := by decide +kernel
theorem d_Model_init_1 : decode prog_11_method_1_code 1 = .ok (.invokespecial 1, 3) := by decide +kernel
theorem d_Model_init_4 : decode prog_11_method_1_code 4 = .ok (.aload_n 0, 1) := by decide +kernel
theorem d_Model_init_5 : decode prog_11_method_1_code 5 = .ok (.bipush 20, 2) := by decide +kernel
theorem d_Model_init_7 : decode prog_11_method_1_code 7 = .ok (.newarray .int, 2) := by decide +kernel
theorem d_Model_init_9 : decode prog_11_method_1_code 9 = .ok (.putfield 7, 3) := by decide +kernel
theorem d_Model_init_12 : decode prog_11_method_1_code 12 = .ok (.aload_n 0, 1) := by decide +kernel
theorem d_Model_init_13 : decode prog_11_method_1_code 13 = .ok (.sipush 1500, 3) := by decide +kernel
theorem d_Model_init_16 : decode prog_11_method_1_code 16 = .ok (.newarray .int, 2) := by decide +kernel
theorem d_Model_init_18 : decode prog_11_method_1_code 18 = .ok (.putfield 13, 3) := by decide +kernel
theorem d_Model_init_21 : decode prog_11_method_1_code 21 = .ok (.aload_n 0, 1) := by decide +kernel
theorem d_Model_init_22 : decode prog_11_method_1_code 22 = .ok (.bipush 40, 2) := by decide +kernel
theorem d_Model_init_24 : decode prog_11_method_1_code 24 = .ok (.newarray .int, 2) := by decide +kernel
theorem d_Model_init_26 : decode prog_11_method_1_code 26 = .ok (.putfield 16, 3) := by decide +kernel
theorem d_Model_init_29 : decode prog_11_method_1_code 29 = .ok (.aload_n 0, 1) := by decide +kernel
theorem d_Model_init_30 : decode prog_11_method_1_code 30 = .ok (.bipush 40, 2) := by decide +kernel
theorem d_Model_init_32 : decode prog_11_method_1_code 32 = .ok (.newarray .int, 2) := by decide +kernel
theorem d_Model_init_34 : decode prog_11_method_1_code 34 = .ok (.putfield 19, 3) := by decide +kernel
theorem d_Model_init_37 : decode prog_11_method_1_code 37 = .ok (.aload_n 0, 1) := by decide +kernel
theorem d_Model_init_38 : decode prog_11_method_1_code 38 = .ok (.bipush 40, 2) := by decide +kernel
theorem d_Model_init_40 : decode prog_11_method_1_code 40 = .ok (.newarray .int, 2) := by decide +kernel
theorem d_Model_init_42 : decode prog_11_method_1_code 42 = .ok (.putfield 22, 3) := by decide +kernel
theorem d_Model_init_45 : decode prog_11_method_1_code 45 = .ok (.aload_n 0, 1) := by decide +kernel
theorem d_Model_init_46 : decode prog_11_method_1_code 46 = .ok (.bipush 40, 2) := by decide +kernel
theorem d_Model_init_48 : decode prog_11_method_1_code 48 = .ok (.newarray .int, 2) := by decide +kernel
theorem d_Model_init_50 : decode prog_11_method_1_code 50 = .ok (.putfield 25, 3) := by decide +kernel
theorem d_Model_init_53 : decode prog_11_method_1_code 53 = .ok (.aload_n 0, 1) := by decide +kernel
theorem d_Model_init_54 : decode prog_11_method_1_code 54 = .ok (.sipush 1600, 3) := by decide +kernel
theorem d_Model_init_57 : decode prog_11_method_1_code 57 = .ok (.newarray .int, 2) := by decide +kernel
theorem d_Model_init_59 : decode prog_11_method_1_code 59 = .ok (.putfield 28, 3) := by decide +kernel
theorem d_Model_init_62 : decode prog_11_method_1_code 62 = .ok (.aload_n 0, 1) := by decide +kernel
theorem d_Model_init_63 : decode prog_11_method_1_code 63 = .ok (.sipush 1501, 3) := by decide +kernel
theorem d_Model_init_66 : decode prog_11_method_1_code 66 = .ok (.newarray .int, 2) := by decide +kernel
theorem d_Model_init_68 : decode prog_11_method_1_code 68 = .ok (.putfield 31, 3) := by decide +kernel
theorem d_Model_init_71 : decode prog_11_method_1_code 71 = .ok (.aload_n 0, 1) := by decide +kernel
theorem d_Model_init_72 : decode prog_11_method_1_code 72 = .ok (.sipush 1501, 3) := by decide +kernel
theorem d_Model_init_75 : decode prog_11_method_1_code 75 = .ok (.newarray .int, 2) := by decide +kernel
theorem d_Model_init_77 : decode prog_11_method_1_code 77 = .ok (.putfield 34, 3) := by decide +kernel
theorem d_Model_init_80 : decode prog_11_method_1_code 80 = .ok (.aload_n 0, 1) := by decide +kernel
theorem d_Model_init_81 : decode prog_11_method_1_code 81 = .ok (.sipush 1501, 3) := by decide +kernel
theorem d_Model_init_84 : decode prog_11_method_1_code 84 = .ok (.newarray .int, 2) := by decide +kernel
theorem d_Model_init_86 : decode prog_11_method_1_code 86 = .ok (.putfield 37, 3) := by decide +kernel
theorem d_Model_init_89 : decode prog_11_method_1_code 89 = .ok (.aload_n 0, 1) := by decide +kernel
theorem d_Model_init_90 : decode prog_11_method_1_code 90 = .ok (.sipush 1501, 3) := by decide +kernel
theorem d_Model_init_93 : decode prog_11_method_1_code 93 = .ok (.newarray .int, 2) := by decide +kernel
theorem d_Model_init_95 : decode prog_11_method_1_code 95 = .ok (.putfield 40, 3) := by decide +kernel
theorem d_Model_init_98 : decode prog_11_method_1_code 98 = .ok (.aload_n 0, 1) := by decide +kernel
theorem d_Model_init_99 : decode prog_11_method_1_code 99 = .ok (.sipush 1600, 3) := by decide +kernel
theorem d_Model_init_102 : decode prog_11_method_1_code 102 = .ok (.newarray .int, 2) := by decide +kernel
theorem d_Model_init_104 : decode prog_11_method_1_code 104 = .ok (.putfield 43, 3) := by decide +kernel
theorem d_Model_init_107 : decode prog_11_method_1_code 107 = .ok (.aload_n 0, 1) := by decide +kernel
theorem d_Model_init_108 : decode prog_11_method_1_code 108 = .ok (.sipush 20000, 3) := by decide +kernel
theorem d_Model_init_111 : decode prog_11_method_1_code 111 = .ok (.newarray .int, 2) := by decide +kernel
theorem d_Model_init_113 : decode prog_11_method_1_code 113 = .ok (.putfield 46, 3) := by decide +kernel
theorem d_Model_init_116 : decode prog_11_method_1_code 116 = .ok (.aload_n 0, 1) := by decide +kernel
theorem d_Model_init_117 : decode prog_11_method_1_code 117 = .ok (.iconst 3, 1) := by decide +kernel
theorem d_Model_init_118 : decode prog_11_method_1_code 118 = .ok (.newarray .int, 2) := by decide +kernel
theorem d_Model_init_120 : decode prog_11_method_1_code 120 = .ok (.putfield 49, 3) := by decide +kernel
theorem d_Model_init_123 : decode prog_11_method_1_code 123 = .ok (.aload_n 0, 1) := by decide +kernel
theorem d_Model_init_124 : decode prog_11_method_1_code 124 = .ok (.bipush 7, 2) := by decide +kernel
theorem d_Model_init_126 : decode prog_11_method_1_code 126 = .ok (.newarray .int, 2) := by decide +kernel
theorem d_Model_init_128 : decode prog_11_method_1_code 128 = .ok (.putfield 52, 3) := by decide +kernel
theorem d_Model_init_131 : decode prog_11_method_1_code 131 = .ok (.aload_n 0, 1) := by decide +kernel
theorem d_Model_init_132 : decode prog_11_method_1_code 132 = .ok (.sipush 7000, 3) := by decide +kernel
theorem d_Model_init_135 : decode prog_11_method_1_code 135 = .ok (.newarray .int, 2) := by decide +kernel
theorem d_Model_init_137 : decode prog_11_method_1_code 137 = .ok (.putfield 55, 3) := by decide +kernel
theorem d_Model_init_140 : decode prog_11_method_1_code 140 = .ok (.aload_n 0, 1) := by decide +kernel
theorem d_Model_init_141 : decode prog_11_method_1_code 141 = .ok (.sipush 7000, 3) := by decide +kernel
theorem d_Model_init_144 : decode prog_11_method_1_code 144 = .ok (.newarray .int, 2) := by decide +kernel
theorem d_Model_init_146 : decode prog_11_method_1_code 146 = .ok (.putfield 58, 3) := by decide +kernel
theorem d_Model_init_149 : decode prog_11_method_1_code 149 = .ok (.aload_n 0, 1) := by decide +kernel
theorem d_Model_init_150 : decode prog_11_method_1_code 150 = .ok (.sipush 1000, 3) := by decide +kernel
theorem d_Model_init_153 : decode prog_11_method_1_code 153 = .ok (.newarray .int, 2) := by decide +kernel
theorem d_Model_init_155 : decode prog_11_method_1_code 155 = .ok (.putfield 61, 3) := by decide +kernel
theorem d_Model_init_158 : decode prog_11_method_1_code 158 = .ok (.aload_n 0, 1) := by decide +kernel
theorem d_Model_init_159 : decode prog_11_method_1_code 159 = .ok (.sipush 800, 3) := by decide +kernel
theorem d_Model_init_162 : decode prog_11_method_1_code 162 = .ok (.newarray .int, 2) := by decide +kernel
theorem d_Model_init_164 : decode prog_11_method_1_code 164 = .ok (.putfield 64, 3) := by decide +kernel
theorem d_Model_init_167 : decode prog_11_method_1_code 167 = .ok (.aload_n 0, 1) := by decide +kernel
theorem d_Model_init_168 : decode prog_11_method_1_code 168 = .ok (.sipush 800, 3) := by decide +kernel
theorem d_Model_init_171 : decode prog_11_method_1_code 171 = .ok (.newarray .int, 2) := by decide +kernel
theorem d_Model_init_173 : decode prog_11_method_1_code 173 = .ok (.putfield 67, 3) := by decide +kernel
theorem d_Model_init_176 : decode prog_11_method_1_code 176 = .ok (.aload_n 0, 1) := by decide +kernel
theorem d_Model_init_177 : decode prog_11_method_1_code 177 = .ok (.sipush 800, 3) := by decide +kernel
theorem d_Model_init_180 : decode prog_11_method_1_code 180 = .ok (.newarray .int, 2) := by decide +kernel
theorem d_Model_init_182 : decode prog_11_method_1_code 182 = .ok (.putfield 70, 3) := by decide +kernel
theorem d_Model_init_185 : decode prog_11_method_1_code 185 = .ok (.aload_n 0, 1) := by decide +kernel
theorem d_Model_init_186 : decode prog_11_method_1_code 186 = .ok (.sipush 800, 3) := by decide +kernel
theorem d_Model_init_189 : decode prog_11_method_1_code 189 = .ok (.newarray .boolean, 2) := by decide +kernel
theorem d_Model_init_191 : decode prog_11_method_1_code 191 = .ok (.putfield 73, 3) := by decide +kernel
theorem d_Model_init_194 : decode prog_11_method_1_code 194 = .ok (.aload_n 0, 1) := by decide +kernel
theorem d_Model_init_195 : decode prog_11_method_1_code 195 = .ok (.sipush 800, 3) := by decide +kernel
theorem d_Model_init_198 : decode prog_11_method_1_code 198 = .ok (.newarray .int, 2) := by decide +kernel
theorem d_Model_init_200 : decode prog_11_method_1_code 200 = .ok (.putfield 77, 3) := by decide +kernel
theorem d_Model_init_203 : decode prog_11_method_1_code 203 = .ok (.aload_n 0, 1) := by decide +kernel
theorem d_Model_init_204 : decode prog_11_method_1_code 204 = .ok (.sipush 800, 3) := by decide +kernel
theorem d_Model_init_207 : decode prog_11_method_1_code 207 = .ok (.newarray .int, 2) := by decide +kernel
theorem d_Model_init_209 : decode prog_11_method_1_code 209 = .ok (.putfield 80, 3) := by decide +kernel
theorem d_Model_init_212 : decode prog_11_method_1_code 212 = .ok (.aload_n 0, 1) := by decide +kernel
theorem d_Model_init_213 : decode prog_11_method_1_code 213 = .ok (.sipush 1600, 3) := by decide +kernel
theorem d_Model_init_216 : decode prog_11_method_1_code 216 = .ok (.newarray .int, 2) := by decide +kernel
theorem d_Model_init_218 : decode prog_11_method_1_code 218 = .ok (.putfield 83, 3) := by decide +kernel
theorem d_Model_init_221 : decode prog_11_method_1_code 221 = .ok (.aload_n 0, 1) := by decide +kernel
theorem d_Model_init_222 : decode prog_11_method_1_code 222 = .ok (.sipush 1600, 3) := by decide +kernel
theorem d_Model_init_225 : decode prog_11_method_1_code 225 = .ok (.newarray .int, 2) := by decide +kernel
theorem d_Model_init_227 : decode prog_11_method_1_code 227 = .ok (.putfield 86, 3) := by decide +kernel
theorem d_Model_init_230 : decode prog_11_method_1_code 230 = .ok (.aload_n 0, 1) := by decide +kernel
theorem d_Model_init_231 : decode prog_11_method_1_code 231 = .ok (.sipush 1600, 3) := by decide +kernel
theorem d_Model_init_234 : decode prog_11_method_1_code 234 = .ok (.newarray .int, 2) := by decide +kernel
theorem d_Model_init_236 : decode prog_11_method_1_code 236 = .ok (.putfield 89, 3) := by decide +kernel
theorem d_Model_init_239 : decode prog_11_method_1_code 239 = .ok (.aload_n 0, 1) := by decide +kernel
theorem d_Model_init_240 : decode prog_11_method_1_code 240 = .ok (.iconst (-1), 1) := by decide +kernel
theorem d_Model_init_241 : decode prog_11_method_1_code 241 = .ok (.putfield 92, 3) := by decide +kernel
theorem d_Model_init_244 : decode prog_11_method_1_code 244 = .ok (.aload_n 0, 1) := by decide +kernel
theorem d_Model_init_245 : decode prog_11_method_1_code 245 = .ok (.iconst (-1), 1) := by decide +kernel
theorem d_Model_init_246 : decode prog_11_method_1_code 246 = .ok (.putfield 96, 3) := by decide +kernel
theorem d_Model_init_249 : decode prog_11_method_1_code 249 = .ok (.return_, 1) := by decide +kernel
theorem d_Model_length_0 : decode prog_11_method_36_code 0 = .ok (.aload_n 0, 1) := by decide +kernel
theorem d_Model_length_1 : decode prog_11_method_36_code 1 = .ok (.iconst 0, 1) := by decide +kernel
theorem d_Model_length_2 : decode prog_11_method_36_code 2 = .ok (.putfield 99, 3) := by decide +kernel
theorem d_Model_length_5 : decode prog_11_method_36_code 5 = .ok (.iload_n 1, 1) := by decide +kernel
theorem d_Model_length_6 : decode prog_11_method_36_code 6 = .ok (.ifCond .lt 23, 3) := by decide +kernel
theorem d_Model_length_9 : decode prog_11_method_36_code 9 = .ok (.iload_n 1, 1) := by decide +kernel
theorem d_Model_length_10 : decode prog_11_method_36_code 10 = .ok (.bipush 6, 2) := by decide +kernel
theorem d_Model_length_12 : decode prog_11_method_36_code 12 = .ok (.if_icmp .gt 17, 3) := by decide +kernel
theorem d_Model_length_15 : decode prog_11_method_36_code 15 = .ok (.iload_n 2, 1) := by decide +kernel
theorem d_Model_length_16 : decode prog_11_method_36_code 16 = .ok (.ifCond .lt 13, 3) := by decide +kernel
theorem d_Model_length_19 : decode prog_11_method_36_code 19 = .ok (.iload_n 2, 1) := by decide +kernel
theorem d_Model_length_20 : decode prog_11_method_36_code 20 = .ok (.aload_n 0, 1) := by decide +kernel
theorem d_Model_length_21 : decode prog_11_method_36_code 21 = .ok (.getfield 52, 3) := by decide +kernel
theorem d_Model_length_24 : decode prog_11_method_36_code 24 = .ok (.iload_n 1, 1) := by decide +kernel
theorem d_Model_length_25 : decode prog_11_method_36_code 25 = .ok (.iaload, 1) := by decide +kernel
theorem d_Model_length_26 : decode prog_11_method_36_code 26 = .ok (.if_icmp .lt 7, 3) := by decide +kernel
theorem d_Model_length_29 : decode prog_11_method_36_code 29 = .ok (.iconst (-1), 1) := by decide +kernel
theorem d_Model_length_30 : decode prog_11_method_36_code 30 = .ok (.goto 15, 3) := by decide +kernel
theorem d_Model_length_33 : decode prog_11_method_36_code 33 = .ok (.aload_n 0, 1) := by decide +kernel
theorem d_Model_length_34 : decode prog_11_method_36_code 34 = .ok (.getfield 58, 3) := by decide +kernel
theorem d_Model_length_37 : decode prog_11_method_36_code 37 = .ok (.sipush 1000, 3) := by decide +kernel
theorem d_Model_length_40 : decode prog_11_method_36_code 40 = .ok (.iload_n 1, 1) := by decide +kernel
theorem d_Model_length_41 : decode prog_11_method_36_code 41 = .ok (.imul, 1) := by decide +kernel
theorem d_Model_length_42 : decode prog_11_method_36_code 42 = .ok (.iload_n 2, 1) := by decide +kernel
theorem d_Model_length_43 : decode prog_11_method_36_code 43 = .ok (.iadd, 1) := by decide +kernel
theorem d_Model_length_44 : decode prog_11_method_36_code 44 = .ok (.iaload, 1) := by decide +kernel
theorem d_Model_length_45 : decode prog_11_method_36_code 45 = .ok (.ireturn, 1) := by decide +kernel
theorem d_Model_end_0 : decode prog_11_method_5_code 0 = .ok (.aload_n 0, 1) := by decide +kernel
theorem d_Model_end_1 : decode prog_11_method_5_code 1 = .ok (.iconst 0, 1) := by decide +kernel
theorem d_Model_end_2 : decode prog_11_method_5_code 2 = .ok (.putfield 99, 3) := by decide +kernel
theorem d_Model_end_5 : decode prog_11_method_5_code 5 = .ok (.iload_n 1, 1) := by decide +kernel
theorem d_Model_end_6 : decode prog_11_method_5_code 6 = .ok (.ifCond .lt 21, 3) := by decide +kernel
theorem d_Model_end_9 : decode prog_11_method_5_code 9 = .ok (.iload_n 1, 1) := by decide +kernel
theorem d_Model_end_10 : decode prog_11_method_5_code 10 = .ok (.bipush 20, 2) := by decide +kernel
theorem d_Model_end_12 : decode prog_11_method_5_code 12 = .ok (.if_icmp .gt 15, 3) := by decide +kernel
theorem d_Model_end_15 : decode prog_11_method_5_code 15 = .ok (.aload_n 0, 1) := by decide +kernel
theorem d_Model_end_16 : decode prog_11_method_5_code 16 = .ok (.getfield 106, 3) := by decide +kernel
theorem d_Model_end_19 : decode prog_11_method_5_code 19 = .ok (.iload_n 1, 1) := by decide +kernel
theorem d_Model_end_20 : decode prog_11_method_5_code 20 = .ok (.iadd, 1) := by decide +kernel
theorem d_Model_end_21 : decode prog_11_method_5_code 21 = .ok (.sipush 1500, 3) := by decide +kernel
theorem d_Model_end_24 : decode prog_11_method_5_code 24 = .ok (.if_icmp .le 5, 3) := by decide +kernel
theorem d_Model_end_27 : decode prog_11_method_5_code 27 = .ok (.iconst (-1), 1) := by decide +kernel
theorem d_Model_end_28 : decode prog_11_method_5_code 28 = .ok (.ireturn, 1) := by decide +kernel
theorem d_Model_end_29 : decode prog_11_method_5_code 29 = .ok (.iconst 0, 1) := by decide +kernel
theorem d_Model_end_30 : decode prog_11_method_5_code 30 = .ok (.istore_n 2, 1) := by decide +kernel
theorem d_Model_end_31 : decode prog_11_method_5_code 31 = .ok (.iload_n 2, 1) := by decide +kernel
theorem d_Model_end_32 : decode prog_11_method_5_code 32 = .ok (.iload_n 1, 1) := by decide +kernel
theorem d_Model_end_33 : decode prog_11_method_5_code 33 = .ok (.if_icmp .ge 26, 3) := by decide +kernel
theorem d_Model_end_36 : decode prog_11_method_5_code 36 = .ok (.aload_n 0, 1) := by decide +kernel
theorem d_Model_end_37 : decode prog_11_method_5_code 37 = .ok (.getfield 13, 3) := by decide +kernel
theorem d_Model_end_40 : decode prog_11_method_5_code 40 = .ok (.aload_n 0, 1) := by decide +kernel
theorem d_Model_end_41 : decode prog_11_method_5_code 41 = .ok (.getfield 106, 3) := by decide +kernel
theorem d_Model_end_44 : decode prog_11_method_5_code 44 = .ok (.iload_n 2, 1) := by decide +kernel
theorem d_Model_end_45 : decode prog_11_method_5_code 45 = .ok (.iadd, 1) := by decide +kernel
theorem d_Model_end_46 : decode prog_11_method_5_code 46 = .ok (.aload_n 0, 1) := by decide +kernel
theorem d_Model_end_47 : decode prog_11_method_5_code 47 = .ok (.getfield 7, 3) := by decide +kernel
theorem d_Model_end_50 : decode prog_11_method_5_code 50 = .ok (.iload_n 2, 1) := by decide +kernel
theorem d_Model_end_51 : decode prog_11_method_5_code 51 = .ok (.iaload, 1) := by decide +kernel
theorem d_Model_end_52 : decode prog_11_method_5_code 52 = .ok (.iastore, 1) := by decide +kernel
theorem d_Model_end_53 : decode prog_11_method_5_code 53 = .ok (.iinc 2 1, 3) := by decide +kernel
theorem d_Model_end_56 : decode prog_11_method_5_code 56 = .ok (.goto (-25), 3) := by decide +kernel
theorem d_Model_end_59 : decode prog_11_method_5_code 59 = .ok (.aload_n 0, 1) := by decide +kernel
theorem d_Model_end_60 : decode prog_11_method_5_code 60 = .ok (.dup, 1) := by decide +kernel
theorem d_Model_end_61 : decode prog_11_method_5_code 61 = .ok (.getfield 106, 3) := by decide +kernel
theorem d_Model_end_64 : decode prog_11_method_5_code 64 = .ok (.iload_n 1, 1) := by decide +kernel
theorem d_Model_end_65 : decode prog_11_method_5_code 65 = .ok (.iadd, 1) := by decide +kernel
theorem d_Model_end_66 : decode prog_11_method_5_code 66 = .ok (.putfield 106, 3) := by decide +kernel
theorem d_Model_end_69 : decode prog_11_method_5_code 69 = .ok (.iconst 0, 1) := by decide +kernel
theorem d_Model_end_70 : decode prog_11_method_5_code 70 = .ok (.istore_n 2, 1) := by decide +kernel
theorem d_Model_end_71 : decode prog_11_method_5_code 71 = .ok (.iload_n 2, 1) := by decide +kernel
theorem d_Model_end_72 : decode prog_11_method_5_code 72 = .ok (.bipush 20, 2) := by decide +kernel
theorem d_Model_end_74 : decode prog_11_method_5_code 74 = .ok (.if_icmp .ge 16, 3) := by decide +kernel
theorem d_Model_end_77 : decode prog_11_method_5_code 77 = .ok (.aload_n 0, 1) := by decide +kernel
theorem d_Model_end_78 : decode prog_11_method_5_code 78 = .ok (.getfield 7, 3) := by decide +kernel
theorem d_Model_end_81 : decode prog_11_method_5_code 81 = .ok (.iload_n 2, 1) := by decide +kernel
theorem d_Model_end_82 : decode prog_11_method_5_code 82 = .ok (.iconst 0, 1) := by decide +kernel
theorem d_Model_end_83 : decode prog_11_method_5_code 83 = .ok (.iastore, 1) := by decide +kernel
theorem d_Model_end_84 : decode prog_11_method_5_code 84 = .ok (.iinc 2 1, 3) := by decide +kernel
theorem d_Model_end_87 : decode prog_11_method_5_code 87 = .ok (.goto (-16), 3) := by decide +kernel
theorem d_Model_end_90 : decode prog_11_method_5_code 90 = .ok (.aload_n 0, 1) := by decide +kernel
theorem d_Model_end_91 : decode prog_11_method_5_code 91 = .ok (.getfield 106, 3) := by decide +kernel
theorem d_Model_end_94 : decode prog_11_method_5_code 94 = .ok (.ireturn, 1) := by decide +kernel
theorem d_Model_group_0 : decode prog_11_method_49_code 0 = .ok (.aload_n 0, 1) := by decide +kernel
theorem d_Model_group_1 : decode prog_11_method_49_code 1 = .ok (.iconst 0, 1) := by decide +kernel
theorem d_Model_group_2 : decode prog_11_method_49_code 2 = .ok (.putfield 99, 3) := by decide +kernel
theorem d_Model_group_5 : decode prog_11_method_49_code 5 = .ok (.iload_n 1, 1) := by decide +kernel
theorem d_Model_group_6 : decode prog_11_method_49_code 6 = .ok (.ifCond .ne 8, 3) := by decide +kernel
theorem d_Model_group_9 : decode prog_11_method_49_code 9 = .ok (.aload_n 0, 1) := by decide +kernel
theorem d_Model_group_10 : decode prog_11_method_49_code 10 = .ok (.getfield 248, 3) := by decide +kernel
theorem d_Model_group_13 : decode prog_11_method_49_code 13 = .ok (.ireturn, 1) := by decide +kernel
theorem d_Model_group_14 : decode prog_11_method_49_code 14 = .ok (.iload_n 1, 1) := by decide +kernel
theorem d_Model_group_15 : decode prog_11_method_49_code 15 = .ok (.iconst 1, 1) := by decide +kernel
theorem d_Model_group_16 : decode prog_11_method_49_code 16 = .ok (.if_icmp .ne 8, 3) := by decide +kernel
theorem d_Model_group_19 : decode prog_11_method_49_code 19 = .ok (.aload_n 0, 1) := by decide +kernel
theorem d_Model_group_20 : decode prog_11_method_49_code 20 = .ok (.getfield 227, 3) := by decide +kernel
theorem d_Model_group_23 : decode prog_11_method_49_code 23 = .ok (.ireturn, 1) := by decide +kernel
theorem d_Model_group_24 : decode prog_11_method_49_code 24 = .ok (.iload_n 1, 1) := by decide +kernel
theorem d_Model_group_25 : decode prog_11_method_49_code 25 = .ok (.iconst 2, 1) := by decide +kernel
theorem d_Model_group_26 : decode prog_11_method_49_code 26 = .ok (.if_icmp .ne 17, 3) := by decide +kernel
theorem d_Model_group_29 : decode prog_11_method_49_code 29 = .ok (.iload_n 2, 1) := by decide +kernel
theorem d_Model_group_30 : decode prog_11_method_49_code 30 = .ok (.ifCond .lt 13, 3) := by decide +kernel
theorem d_Model_group_33 : decode prog_11_method_49_code 33 = .ok (.iload_n 2, 1) := by decide +kernel
theorem d_Model_group_34 : decode prog_11_method_49_code 34 = .ok (.aload_n 0, 1) := by decide +kernel
theorem d_Model_group_35 : decode prog_11_method_49_code 35 = .ok (.getfield 52, 3) := by decide +kernel
theorem d_Model_group_38 : decode prog_11_method_49_code 38 = .ok (.iconst 1, 1) := by decide +kernel
theorem d_Model_group_39 : decode prog_11_method_49_code 39 = .ok (.iaload, 1) := by decide +kernel
theorem d_Model_group_40 : decode prog_11_method_49_code 40 = .ok (.if_icmp .lt 7, 3) := by decide +kernel
theorem d_Model_group_43 : decode prog_11_method_49_code 43 = .ok (.iconst (-1), 1) := by decide +kernel
theorem d_Model_group_44 : decode prog_11_method_49_code 44 = .ok (.goto 9, 3) := by decide +kernel
theorem d_Model_group_47 : decode prog_11_method_49_code 47 = .ok (.aload_n 0, 1) := by decide +kernel
theorem d_Model_group_48 : decode prog_11_method_49_code 48 = .ok (.getfield 61, 3) := by decide +kernel
theorem d_Model_group_51 : decode prog_11_method_49_code 51 = .ok (.iload_n 2, 1) := by decide +kernel
theorem d_Model_group_52 : decode prog_11_method_49_code 52 = .ok (.iaload, 1) := by decide +kernel
theorem d_Model_group_53 : decode prog_11_method_49_code 53 = .ok (.ireturn, 1) := by decide +kernel
theorem d_Model_areaOf_0 : decode prog_11_method_30_code 0 = .ok (.iload_n 0, 1) := by decide +kernel
theorem d_Model_areaOf_1 : decode prog_11_method_30_code 1 = .ok (.iconst 4, 1) := by decide +kernel
theorem d_Model_areaOf_2 : decode prog_11_method_30_code 2 = .ok (.if_icmp .ge 7, 3) := by decide +kernel
theorem d_Model_areaOf_5 : decode prog_11_method_30_code 5 = .ok (.iconst 0, 1) := by decide +kernel
theorem d_Model_areaOf_6 : decode prog_11_method_30_code 6 = .ok (.goto 13, 3) := by decide +kernel
theorem d_Model_areaOf_9 : decode prog_11_method_30_code 9 = .ok (.iload_n 0, 1) := by decide +kernel
theorem d_Model_areaOf_10 : decode prog_11_method_30_code 10 = .ok (.iconst 4, 1) := by decide +kernel
theorem d_Model_areaOf_11 : decode prog_11_method_30_code 11 = .ok (.if_icmp .ne 7, 3) := by decide +kernel
theorem d_Model_areaOf_14 : decode prog_11_method_30_code 14 = .ok (.iconst 1, 1) := by decide +kernel
theorem d_Model_areaOf_15 : decode prog_11_method_30_code 15 = .ok (.goto 4, 3) := by decide +kernel
theorem d_Model_areaOf_18 : decode prog_11_method_30_code 18 = .ok (.iconst 2, 1) := by decide +kernel
theorem d_Model_areaOf_19 : decode prog_11_method_30_code 19 = .ok (.ireturn, 1) := by decide +kernel
theorem d_Model_roomAt_0 : decode prog_11_method_31_code 0 = .ok (.sipush 6000, 3) := by decide +kernel
theorem d_Model_roomAt_3 : decode prog_11_method_31_code 3 = .ok (.iload_n 1, 1) := by decide +kernel
theorem d_Model_roomAt_4 : decode prog_11_method_31_code 4 = .ok (.invokestatic 185, 3) := by decide +kernel
theorem d_Model_roomAt_7 : decode prog_11_method_31_code 7 = .ok (.imul, 1) := by decide +kernel
theorem d_Model_roomAt_8 : decode prog_11_method_31_code 8 = .ok (.aload_n 0, 1) := by decide +kernel
theorem d_Model_roomAt_9 : decode prog_11_method_31_code 9 = .ok (.getfield 49, 3) := by decide +kernel
theorem d_Model_roomAt_12 : decode prog_11_method_31_code 12 = .ok (.iload_n 1, 1) := by decide +kernel
theorem d_Model_roomAt_13 : decode prog_11_method_31_code 13 = .ok (.invokestatic 185, 3) := by decide +kernel
theorem d_Model_roomAt_16 : decode prog_11_method_31_code 16 = .ok (.iaload, 1) := by decide +kernel
theorem d_Model_roomAt_17 : decode prog_11_method_31_code 17 = .ok (.iadd, 1) := by decide +kernel
theorem d_Model_roomAt_18 : decode prog_11_method_31_code 18 = .ok (.ireturn, 1) := by decide +kernel
theorem d_Model_add_0 : decode prog_11_method_33_code 0 = .ok (.aload_n 0, 1) := by decide +kernel
theorem d_Model_add_1 : decode prog_11_method_33_code 1 = .ok (.getfield 46, 3) := by decide +kernel
theorem d_Model_add_4 : decode prog_11_method_33_code 4 = .ok (.aload_n 0, 1) := by decide +kernel
theorem d_Model_add_5 : decode prog_11_method_33_code 5 = .ok (.iload_n 1, 1) := by decide +kernel
theorem d_Model_add_6 : decode prog_11_method_33_code 6 = .ok (.invokevirtual 188, 3) := by decide +kernel
theorem d_Model_add_9 : decode prog_11_method_33_code 9 = .ok (.iload_n 2, 1) := by decide +kernel
theorem d_Model_add_10 : decode prog_11_method_33_code 10 = .ok (.iastore, 1) := by decide +kernel
theorem d_Model_add_11 : decode prog_11_method_33_code 11 = .ok (.aload_n 0, 1) := by decide +kernel
theorem d_Model_add_12 : decode prog_11_method_33_code 12 = .ok (.getfield 49, 3) := by decide +kernel
theorem d_Model_add_15 : decode prog_11_method_33_code 15 = .ok (.iload_n 1, 1) := by decide +kernel
theorem d_Model_add_16 : decode prog_11_method_33_code 16 = .ok (.invokestatic 185, 3) := by decide +kernel
theorem d_Model_add_19 : decode prog_11_method_33_code 19 = .ok (.dup2, 1) := by decide +kernel
theorem d_Model_add_20 : decode prog_11_method_33_code 20 = .ok (.iaload, 1) := by decide +kernel
theorem d_Model_add_21 : decode prog_11_method_33_code 21 = .ok (.iconst 1, 1) := by decide +kernel
theorem d_Model_add_22 : decode prog_11_method_33_code 22 = .ok (.iadd, 1) := by decide +kernel
theorem d_Model_add_23 : decode prog_11_method_33_code 23 = .ok (.iastore, 1) := by decide +kernel
theorem d_Model_add_24 : decode prog_11_method_33_code 24 = .ok (.aload_n 0, 1) := by decide +kernel
theorem d_Model_add_25 : decode prog_11_method_33_code 25 = .ok (.getfield 58, 3) := by decide +kernel
theorem d_Model_add_28 : decode prog_11_method_33_code 28 = .ok (.sipush 1000, 3) := by decide +kernel
theorem d_Model_add_31 : decode prog_11_method_33_code 31 = .ok (.iload_n 1, 1) := by decide +kernel
theorem d_Model_add_32 : decode prog_11_method_33_code 32 = .ok (.imul, 1) := by decide +kernel
theorem d_Model_add_33 : decode prog_11_method_33_code 33 = .ok (.aload_n 0, 1) := by decide +kernel
theorem d_Model_add_34 : decode prog_11_method_33_code 34 = .ok (.getfield 52, 3) := by decide +kernel
theorem d_Model_add_37 : decode prog_11_method_33_code 37 = .ok (.iload_n 1, 1) := by decide +kernel
theorem d_Model_add_38 : decode prog_11_method_33_code 38 = .ok (.iaload, 1) := by decide +kernel
theorem d_Model_add_39 : decode prog_11_method_33_code 39 = .ok (.iadd, 1) := by decide +kernel
theorem d_Model_add_40 : decode prog_11_method_33_code 40 = .ok (.dup2, 1) := by decide +kernel
theorem d_Model_add_41 : decode prog_11_method_33_code 41 = .ok (.iaload, 1) := by decide +kernel
theorem d_Model_add_42 : decode prog_11_method_33_code 42 = .ok (.iconst 1, 1) := by decide +kernel
theorem d_Model_add_43 : decode prog_11_method_33_code 43 = .ok (.iadd, 1) := by decide +kernel
theorem d_Model_add_44 : decode prog_11_method_33_code 44 = .ok (.iastore, 1) := by decide +kernel
theorem d_Model_add_45 : decode prog_11_method_33_code 45 = .ok (.return_, 1) := by decide +kernel
theorem d_Model_beginPart_0 : decode prog_11_method_32_code 0 = .ok (.sipush 1000, 3) := by decide +kernel
theorem d_Model_beginPart_3 : decode prog_11_method_32_code 3 = .ok (.iload_n 1, 1) := by decide +kernel
theorem d_Model_beginPart_4 : decode prog_11_method_32_code 4 = .ok (.imul, 1) := by decide +kernel
theorem d_Model_beginPart_5 : decode prog_11_method_32_code 5 = .ok (.aload_n 0, 1) := by decide +kernel
theorem d_Model_beginPart_6 : decode prog_11_method_32_code 6 = .ok (.getfield 52, 3) := by decide +kernel
theorem d_Model_beginPart_9 : decode prog_11_method_32_code 9 = .ok (.iload_n 1, 1) := by decide +kernel
theorem d_Model_beginPart_10 : decode prog_11_method_32_code 10 = .ok (.iaload, 1) := by decide +kernel
theorem d_Model_beginPart_11 : decode prog_11_method_32_code 11 = .ok (.iadd, 1) := by decide +kernel
theorem d_Model_beginPart_12 : decode prog_11_method_32_code 12 = .ok (.istore_n 2, 1) := by decide +kernel
theorem d_Model_beginPart_13 : decode prog_11_method_32_code 13 = .ok (.aload_n 0, 1) := by decide +kernel
theorem d_Model_beginPart_14 : decode prog_11_method_32_code 14 = .ok (.getfield 55, 3) := by decide +kernel
theorem d_Model_beginPart_17 : decode prog_11_method_32_code 17 = .ok (.iload_n 2, 1) := by decide +kernel
theorem d_Model_beginPart_18 : decode prog_11_method_32_code 18 = .ok (.aload_n 0, 1) := by decide +kernel
theorem d_Model_beginPart_19 : decode prog_11_method_32_code 19 = .ok (.iload_n 1, 1) := by decide +kernel
theorem d_Model_beginPart_20 : decode prog_11_method_32_code 20 = .ok (.invokevirtual 188, 3) := by decide +kernel
theorem d_Model_beginPart_23 : decode prog_11_method_32_code 23 = .ok (.iastore, 1) := by decide +kernel
theorem d_Model_beginPart_24 : decode prog_11_method_32_code 24 = .ok (.aload_n 0, 1) := by decide +kernel
theorem d_Model_beginPart_25 : decode prog_11_method_32_code 25 = .ok (.getfield 58, 3) := by decide +kernel
theorem d_Model_beginPart_28 : decode prog_11_method_32_code 28 = .ok (.iload_n 2, 1) := by decide +kernel
theorem d_Model_beginPart_29 : decode prog_11_method_32_code 29 = .ok (.iconst 0, 1) := by decide +kernel
theorem d_Model_beginPart_30 : decode prog_11_method_32_code 30 = .ok (.iastore, 1) := by decide +kernel
theorem d_Model_beginPart_31 : decode prog_11_method_32_code 31 = .ok (.return_, 1) := by decide +kernel
theorem d_Model_isBlank_0 : decode prog_11_method_6_code 0 = .ok (.iload_n 0, 1) := by decide +kernel
theorem d_Model_isBlank_1 : decode prog_11_method_6_code 1 = .ok (.bipush 32, 2) := by decide +kernel
theorem d_Model_isBlank_3 : decode prog_11_method_6_code 3 = .ok (.if_icmp .eq 9, 3) := by decide +kernel
theorem d_Model_isBlank_6 : decode prog_11_method_6_code 6 = .ok (.iload_n 0, 1) := by decide +kernel
theorem d_Model_isBlank_7 : decode prog_11_method_6_code 7 = .ok (.bipush 9, 2) := by decide +kernel
theorem d_Model_isBlank_9 : decode prog_11_method_6_code 9 = .ok (.if_icmp .ne 7, 3) := by decide +kernel
theorem d_Model_isBlank_12 : decode prog_11_method_6_code 12 = .ok (.iconst 1, 1) := by decide +kernel
theorem d_Model_isBlank_13 : decode prog_11_method_6_code 13 = .ok (.goto 4, 3) := by decide +kernel
theorem d_Model_isBlank_16 : decode prog_11_method_6_code 16 = .ok (.iconst 0, 1) := by decide +kernel
theorem d_Model_isBlank_17 : decode prog_11_method_6_code 17 = .ok (.ireturn, 1) := by decide +kernel
theorem d_Model_forget_0 : decode prog_11_method_29_code 0 = .ok (.iload_n 1, 1) := by decide +kernel
theorem d_Model_forget_1 : decode prog_11_method_29_code 1 = .ok (.istore 4, 2) := by decide +kernel
theorem d_Model_forget_3 : decode prog_11_method_29_code 3 = .ok (.iload 4, 2) := by decide +kernel
theorem d_Model_forget_5 : decode prog_11_method_29_code 5 = .ok (.iload_n 2, 1) := by decide +kernel
theorem d_Model_forget_6 : decode prog_11_method_29_code 6 = .ok (.if_icmp .gt 17, 3) := by decide +kernel
