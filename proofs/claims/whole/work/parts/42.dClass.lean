theorem d_Mail_init_0 : decode prog_1_method_1_code 0 = .ok (.aload_n 0, 1) := by decide +kernel
theorem d_Mail_init_1 : decode prog_1_method_1_code 1 = .ok (.invokespecial 1, 3) := by decide +kernel
theorem d_Mail_init_4 : decode prog_1_method_1_code 4 = .ok (.aload_n 0, 1) := by decide +kernel
theorem d_Mail_init_5 : decode prog_1_method_1_code 5 = .ok (.iconst 5, 1) := by decide +kernel
theorem d_Mail_init_6 : decode prog_1_method_1_code 6 = .ok (.newarray .int, 2) := by decide +kernel
theorem d_Mail_init_8 : decode prog_1_method_1_code 8 = .ok (.putfield 9, 3) := by decide +kernel
theorem d_Mail_init_11 : decode prog_1_method_1_code 11 = .ok (.aload_n 0, 1) := by decide +kernel
theorem d_Mail_init_12 : decode prog_1_method_1_code 12 = .ok (.new 13, 3) := by decide +kernel
theorem d_Mail_init_15 : decode prog_1_method_1_code 15 = .ok (.dup, 1) := by decide +kernel
theorem d_Mail_init_16 : decode prog_1_method_1_code 16 = .ok (.invokespecial 15, 3) := by decide +kernel
theorem d_Mail_init_19 : decode prog_1_method_1_code 19 = .ok (.putfield 16, 3) := by decide +kernel
theorem d_Mail_init_22 : decode prog_1_method_1_code 22 = .ok (.aload_n 0, 1) := by decide +kernel
theorem d_Mail_init_23 : decode prog_1_method_1_code 23 = .ok (.new 20, 3) := by decide +kernel
theorem d_Mail_init_26 : decode prog_1_method_1_code 26 = .ok (.dup, 1) := by decide +kernel
theorem d_Mail_init_27 : decode prog_1_method_1_code 27 = .ok (.invokespecial 22, 3) := by decide +kernel
theorem d_Mail_init_30 : decode prog_1_method_1_code 30 = .ok (.putfield 23, 3) := by decide +kernel
theorem d_Mail_init_33 : decode prog_1_method_1_code 33 = .ok (.aload_n 0, 1) := by decide +kernel
theorem d_Mail_init_34 : decode prog_1_method_1_code 34 = .ok (.new 27, 3) := by decide +kernel
theorem d_Mail_init_37 : decode prog_1_method_1_code 37 = .ok (.dup, 1) := by decide +kernel
theorem d_Mail_init_38 : decode prog_1_method_1_code 38 = .ok (.invokespecial 29, 3) := by decide +kernel
theorem d_Mail_init_41 : decode prog_1_method_1_code 41 = .ok (.putfield 30, 3) := by decide +kernel
theorem d_Mail_init_44 : decode prog_1_method_1_code 44 = .ok (.aload_n 0, 1) := by decide +kernel
theorem d_Mail_init_45 : decode prog_1_method_1_code 45 = .ok (.new 34, 3) := by decide +kernel
theorem d_Mail_init_48 : decode prog_1_method_1_code 48 = .ok (.dup, 1) := by decide +kernel
theorem d_Mail_init_49 : decode prog_1_method_1_code 49 = .ok (.aload_n 0, 1) := by decide +kernel
theorem d_Mail_init_50 : decode prog_1_method_1_code 50 = .ok (.getfield 30, 3) := by decide +kernel
theorem d_Mail_init_53 : decode prog_1_method_1_code 53 = .ok (.invokespecial 36, 3) := by decide +kernel
theorem d_Mail_init_56 : decode prog_1_method_1_code 56 = .ok (.putfield 39, 3) := by decide +kernel
theorem d_Mail_init_59 : decode prog_1_method_1_code 59 = .ok (.aload_n 0, 1) := by decide +kernel
theorem d_Mail_init_60 : decode prog_1_method_1_code 60 = .ok (.new 43, 3) := by decide +kernel
theorem d_Mail_init_63 : decode prog_1_method_1_code 63 = .ok (.dup, 1) := by decide +kernel
theorem d_Mail_init_64 : decode prog_1_method_1_code 64 = .ok (.invokespecial 45, 3) := by decide +kernel
theorem d_Mail_init_67 : decode prog_1_method_1_code 67 = .ok (.putfield 46, 3) := by decide +kernel
theorem d_Mail_init_70 : decode prog_1_method_1_code 70 = .ok (.aload_n 0, 1) := by decide +kernel
theorem d_Mail_init_71 : decode prog_1_method_1_code 71 = .ok (.new 50, 3) := by decide +kernel
theorem d_Mail_init_74 : decode prog_1_method_1_code 74 = .ok (.dup, 1) := by decide +kernel
theorem d_Mail_init_75 : decode prog_1_method_1_code 75 = .ok (.aload_n 0, 1) := by decide +kernel
theorem d_Mail_init_76 : decode prog_1_method_1_code 76 = .ok (.getfield 30, 3) := by decide +kernel
theorem d_Mail_init_79 : decode prog_1_method_1_code 79 = .ok (.invokespecial 52, 3) := by decide +kernel
theorem d_Mail_init_82 : decode prog_1_method_1_code 82 = .ok (.putfield 53, 3) := by decide +kernel
theorem d_Mail_init_85 : decode prog_1_method_1_code 85 = .ok (.aload_n 0, 1) := by decide +kernel
theorem d_Mail_init_86 : decode prog_1_method_1_code 86 = .ok (.new 57, 3) := by decide +kernel
theorem d_Mail_init_89 : decode prog_1_method_1_code 89 = .ok (.dup, 1) := by decide +kernel
theorem d_Mail_init_90 : decode prog_1_method_1_code 90 = .ok (.aload_n 0, 1) := by decide +kernel
theorem d_Mail_init_91 : decode prog_1_method_1_code 91 = .ok (.getfield 30, 3) := by decide +kernel
theorem d_Mail_init_94 : decode prog_1_method_1_code 94 = .ok (.invokespecial 59, 3) := by decide +kernel
theorem d_Mail_init_97 : decode prog_1_method_1_code 97 = .ok (.putfield 60, 3) := by decide +kernel
theorem d_Mail_init_100 : decode prog_1_method_1_code 100 = .ok (.aload_n 0, 1) := by decide +kernel
theorem d_Mail_init_101 : decode prog_1_method_1_code 101 = .ok (.new 64, 3) := by decide +kernel
theorem d_Mail_init_104 : decode prog_1_method_1_code 104 = .ok (.dup, 1) := by decide +kernel
theorem d_Mail_init_105 : decode prog_1_method_1_code 105 = .ok (.invokespecial 66, 3) := by decide +kernel
theorem d_Mail_init_108 : decode prog_1_method_1_code 108 = .ok (.putfield 67, 3) := by decide +kernel
theorem d_Mail_init_111 : decode prog_1_method_1_code 111 = .ok (.return_, 1) := by decide +kernel
theorem d_Mail_feed_0 : decode prog_1_method_2_code 0 = .ok (.aload_n 0, 1) := by decide +kernel
theorem d_Mail_feed_1 : decode prog_1_method_2_code 1 = .ok (.getfield 9, 3) := by decide +kernel
theorem d_Mail_feed_4 : decode prog_1_method_2_code 4 = .ok (.iconst 0, 1) := by decide +kernel
theorem d_Mail_feed_5 : decode prog_1_method_2_code 5 = .ok (.iload_n 1, 1) := by decide +kernel
theorem d_Mail_feed_6 : decode prog_1_method_2_code 6 = .ok (.iastore, 1) := by decide +kernel
theorem d_Mail_feed_7 : decode prog_1_method_2_code 7 = .ok (.aload_n 0, 1) := by decide +kernel
theorem d_Mail_feed_8 : decode prog_1_method_2_code 8 = .ok (.getfield 9, 3) := by decide +kernel
theorem d_Mail_feed_11 : decode prog_1_method_2_code 11 = .ok (.iconst 1, 1) := by decide +kernel
theorem d_Mail_feed_12 : decode prog_1_method_2_code 12 = .ok (.iload_n 2, 1) := by decide +kernel
theorem d_Mail_feed_13 : decode prog_1_method_2_code 13 = .ok (.iastore, 1) := by decide +kernel
theorem d_Mail_feed_14 : decode prog_1_method_2_code 14 = .ok (.aload_n 0, 1) := by decide +kernel
theorem d_Mail_feed_15 : decode prog_1_method_2_code 15 = .ok (.getfield 9, 3) := by decide +kernel
theorem d_Mail_feed_18 : decode prog_1_method_2_code 18 = .ok (.iconst 2, 1) := by decide +kernel
theorem d_Mail_feed_19 : decode prog_1_method_2_code 19 = .ok (.iload_n 3, 1) := by decide +kernel
theorem d_Mail_feed_20 : decode prog_1_method_2_code 20 = .ok (.iastore, 1) := by decide +kernel
theorem d_Mail_feed_21 : decode prog_1_method_2_code 21 = .ok (.aload_n 0, 1) := by decide +kernel
theorem d_Mail_feed_22 : decode prog_1_method_2_code 22 = .ok (.getfield 9, 3) := by decide +kernel
theorem d_Mail_feed_25 : decode prog_1_method_2_code 25 = .ok (.iconst 3, 1) := by decide +kernel
theorem d_Mail_feed_26 : decode prog_1_method_2_code 26 = .ok (.iload 4, 2) := by decide +kernel
theorem d_Mail_feed_28 : decode prog_1_method_2_code 28 = .ok (.iastore, 1) := by decide +kernel
theorem d_Mail_feed_29 : decode prog_1_method_2_code 29 = .ok (.aload_n 0, 1) := by decide +kernel
theorem d_Mail_feed_30 : decode prog_1_method_2_code 30 = .ok (.getfield 9, 3) := by decide +kernel
theorem d_Mail_feed_33 : decode prog_1_method_2_code 33 = .ok (.iconst 4, 1) := by decide +kernel
theorem d_Mail_feed_34 : decode prog_1_method_2_code 34 = .ok (.iload 5, 2) := by decide +kernel
theorem d_Mail_feed_36 : decode prog_1_method_2_code 36 = .ok (.iastore, 1) := by decide +kernel
theorem d_Mail_feed_37 : decode prog_1_method_2_code 37 = .ok (.return_, 1) := by decide +kernel
theorem d_Mail_end_0 : decode prog_1_method_3_code 0 = .ok (.iload_n 1, 1) := by decide +kernel
theorem d_Mail_end_1 : decode prog_1_method_3_code 1 = .ok (.ifCond .lt 24, 3) := by decide +kernel
theorem d_Mail_end_4 : decode prog_1_method_3_code 4 = .ok (.iload_n 1, 1) := by decide +kernel
theorem d_Mail_end_5 : decode prog_1_method_3_code 5 = .ok (.bipush 20, 2) := by decide +kernel
theorem d_Mail_end_7 : decode prog_1_method_3_code 7 = .ok (.if_icmp .gt 18, 3) := by decide +kernel
theorem d_Mail_end_10 : decode prog_1_method_3_code 10 = .ok (.aload_n 0, 1) := by decide +kernel
theorem d_Mail_end_11 : decode prog_1_method_3_code 11 = .ok (.getfield 16, 3) := by decide +kernel
theorem d_Mail_end_14 : decode prog_1_method_3_code 14 = .ok (.invokevirtual 71, 3) := by decide +kernel
theorem d_Mail_end_17 : decode prog_1_method_3_code 17 = .ok (.iload_n 1, 1) := by decide +kernel
theorem d_Mail_end_18 : decode prog_1_method_3_code 18 = .ok (.iadd, 1) := by decide +kernel
theorem d_Mail_end_19 : decode prog_1_method_3_code 19 = .ok (.sipush 1500, 3) := by decide +kernel
theorem d_Mail_end_22 : decode prog_1_method_3_code 22 = .ok (.if_icmp .le 5, 3) := by decide +kernel
theorem d_Mail_end_25 : decode prog_1_method_3_code 25 = .ok (.iconst (-1), 1) := by decide +kernel
theorem d_Mail_end_26 : decode prog_1_method_3_code 26 = .ok (.ireturn, 1) := by decide +kernel
theorem d_Mail_end_27 : decode prog_1_method_3_code 27 = .ok (.iconst 0, 1) := by decide +kernel
theorem d_Mail_end_28 : decode prog_1_method_3_code 28 = .ok (.istore_n 2, 1) := by decide +kernel
theorem d_Mail_end_29 : decode prog_1_method_3_code 29 = .ok (.iload_n 2, 1) := by decide +kernel
theorem d_Mail_end_30 : decode prog_1_method_3_code 30 = .ok (.iload_n 1, 1) := by decide +kernel
theorem d_Mail_end_31 : decode prog_1_method_3_code 31 = .ok (.if_icmp .ge 38, 3) := by decide +kernel
theorem d_Mail_end_34 : decode prog_1_method_3_code 34 = .ok (.aload_n 0, 1) := by decide +kernel
theorem d_Mail_end_35 : decode prog_1_method_3_code 35 = .ok (.getfield 16, 3) := by decide +kernel
theorem d_Mail_end_38 : decode prog_1_method_3_code 38 = .ok (.aload_n 0, 1) := by decide +kernel
theorem d_Mail_end_39 : decode prog_1_method_3_code 39 = .ok (.getfield 9, 3) := by decide +kernel
theorem d_Mail_end_42 : decode prog_1_method_3_code 42 = .ok (.iload_n 2, 1) := by decide +kernel
theorem d_Mail_end_43 : decode prog_1_method_3_code 43 = .ok (.iconst 4, 1) := by decide +kernel
theorem d_Mail_end_44 : decode prog_1_method_3_code 44 = .ok (.idiv, 1) := by decide +kernel
theorem d_Mail_end_45 : decode prog_1_method_3_code 45 = .ok (.iaload, 1) := by decide +kernel
theorem d_Mail_end_46 : decode prog_1_method_3_code 46 = .ok (.bipush 24, 2) := by decide +kernel
theorem d_Mail_end_48 : decode prog_1_method_3_code 48 = .ok (.bipush 8, 2) := by decide +kernel
theorem d_Mail_end_50 : decode prog_1_method_3_code 50 = .ok (.iload_n 2, 1) := by decide +kernel
theorem d_Mail_end_51 : decode prog_1_method_3_code 51 = .ok (.iconst 4, 1) := by decide +kernel
theorem d_Mail_end_52 : decode prog_1_method_3_code 52 = .ok (.irem, 1) := by decide +kernel
theorem d_Mail_end_53 : decode prog_1_method_3_code 53 = .ok (.imul, 1) := by decide +kernel
theorem d_Mail_end_54 : decode prog_1_method_3_code 54 = .ok (.isub, 1) := by decide +kernel
theorem d_Mail_end_55 : decode prog_1_method_3_code 55 = .ok (.iushr, 1) := by decide +kernel
theorem d_Mail_end_56 : decode prog_1_method_3_code 56 = .ok (.sipush 255, 3) := by decide +kernel
theorem d_Mail_end_59 : decode prog_1_method_3_code 59 = .ok (.iand, 1) := by decide +kernel
theorem d_Mail_end_60 : decode prog_1_method_3_code 60 = .ok (.invokevirtual 75, 3) := by decide +kernel
theorem d_Mail_end_63 : decode prog_1_method_3_code 63 = .ok (.iinc 2 1, 3) := by decide +kernel
theorem d_Mail_end_66 : decode prog_1_method_3_code 66 = .ok (.goto (-37), 3) := by decide +kernel
theorem d_Mail_end_69 : decode prog_1_method_3_code 69 = .ok (.aload_n 0, 1) := by decide +kernel
theorem d_Mail_end_70 : decode prog_1_method_3_code 70 = .ok (.getfield 9, 3) := by decide +kernel
theorem d_Mail_end_73 : decode prog_1_method_3_code 73 = .ok (.iconst 0, 1) := by decide +kernel
theorem d_Mail_end_74 : decode prog_1_method_3_code 74 = .ok (.invokestatic 79, 3) := by decide +kernel
theorem d_Mail_end_77 : decode prog_1_method_3_code 77 = .ok (.aload_n 0, 1) := by decide +kernel
theorem d_Mail_end_78 : decode prog_1_method_3_code 78 = .ok (.getfield 16, 3) := by decide +kernel
theorem d_Mail_end_81 : decode prog_1_method_3_code 81 = .ok (.invokevirtual 71, 3) := by decide +kernel
theorem d_Mail_end_84 : decode prog_1_method_3_code 84 = .ok (.ireturn, 1) := by decide +kernel
theorem d_Mail_read_0 : decode prog_1_method_4_code 0 = .ok (.aload_n 0, 1) := by decide +kernel
theorem d_Mail_read_1 : decode prog_1_method_4_code 1 = .ok (.getfield 23, 3) := by decide +kernel
theorem d_Mail_read_4 : decode prog_1_method_4_code 4 = .ok (.aload_n 0, 1) := by decide +kernel
theorem d_Mail_read_5 : decode prog_1_method_4_code 5 = .ok (.getfield 16, 3) := by decide +kernel
theorem d_Mail_read_8 : decode prog_1_method_4_code 8 = .ok (.invokevirtual 85, 3) := by decide +kernel
theorem d_Mail_read_11 : decode prog_1_method_4_code 11 = .ok (.aload_n 0, 1) := by decide +kernel
theorem d_Mail_read_12 : decode prog_1_method_4_code 12 = .ok (.getfield 16, 3) := by decide +kernel
theorem d_Mail_read_15 : decode prog_1_method_4_code 15 = .ok (.iconst 0, 1) := by decide +kernel
theorem d_Mail_read_16 : decode prog_1_method_4_code 16 = .ok (.invokevirtual 89, 3) := by decide +kernel
theorem d_Mail_read_19 : decode prog_1_method_4_code 19 = .ok (.aload_n 0, 1) := by decide +kernel
theorem d_Mail_read_20 : decode prog_1_method_4_code 20 = .ok (.getfield 23, 3) := by decide +kernel
theorem d_Mail_read_23 : decode prog_1_method_4_code 23 = .ok (.invokevirtual 92, 3) := by decide +kernel
theorem d_Mail_read_26 : decode prog_1_method_4_code 26 = .ok (.ireturn, 1) := by decide +kernel
theorem d_Mail_bad_0 : decode prog_1_method_5_code 0 = .ok (.aload_n 0, 1) := by decide +kernel
theorem d_Mail_bad_1 : decode prog_1_method_5_code 1 = .ok (.getfield 23, 3) := by decide +kernel
theorem d_Mail_bad_4 : decode prog_1_method_5_code 4 = .ok (.invokevirtual 95, 3) := by decide +kernel
theorem d_Mail_bad_7 : decode prog_1_method_5_code 7 = .ok (.ireturn, 1) := by decide +kernel
theorem d_Mail_find_0 : decode prog_1_method_6_code 0 = .ok (.aload_n 0, 1) := by decide +kernel
theorem d_Mail_find_1 : decode prog_1_method_6_code 1 = .ok (.getfield 23, 3) := by decide +kernel
theorem d_Mail_find_4 : decode prog_1_method_6_code 4 = .ok (.aload_n 0, 1) := by decide +kernel
theorem d_Mail_find_5 : decode prog_1_method_6_code 5 = .ok (.getfield 16, 3) := by decide +kernel
theorem d_Mail_find_8 : decode prog_1_method_6_code 8 = .ok (.invokevirtual 98, 3) := by decide +kernel
theorem d_Mail_find_11 : decode prog_1_method_6_code 11 = .ok (.istore_n 1, 1) := by decide +kernel
theorem d_Mail_find_12 : decode prog_1_method_6_code 12 = .ok (.aload_n 0, 1) := by decide +kernel
theorem d_Mail_find_13 : decode prog_1_method_6_code 13 = .ok (.getfield 16, 3) := by decide +kernel
theorem d_Mail_find_16 : decode prog_1_method_6_code 16 = .ok (.iconst 0, 1) := by decide +kernel
theorem d_Mail_find_17 : decode prog_1_method_6_code 17 = .ok (.invokevirtual 89, 3) := by decide +kernel
theorem d_Mail_find_20 : decode prog_1_method_6_code 20 = .ok (.iload_n 1, 1) := by decide +kernel
theorem d_Mail_find_21 : decode prog_1_method_6_code 21 = .ok (.ireturn, 1) := by decide +kernel
theorem d_Mail_field_0 : decode prog_1_method_7_code 0 = .ok (.aload_n 0, 1) := by decide +kernel
theorem d_Mail_field_1 : decode prog_1_method_7_code 1 = .ok (.getfield 23, 3) := by decide +kernel
theorem d_Mail_field_4 : decode prog_1_method_7_code 4 = .ok (.invokevirtual 102, 3) := by decide +kernel
theorem d_Mail_field_7 : decode prog_1_method_7_code 7 = .ok (.aload_n 0, 1) := by decide +kernel
theorem d_Mail_field_8 : decode prog_1_method_7_code 8 = .ok (.getfield 23, 3) := by decide +kernel
theorem d_Mail_field_11 : decode prog_1_method_7_code 11 = .ok (.iload_n 1, 1) := by decide +kernel
theorem d_Mail_field_12 : decode prog_1_method_7_code 12 = .ok (.iload_n 2, 1) := by decide +kernel
theorem d_Mail_field_13 : decode prog_1_method_7_code 13 = .ok (.invokevirtual 106, 3) := by decide +kernel
theorem d_Mail_field_16 : decode prog_1_method_7_code 16 = .ok (.invokevirtual 110, 3) := by decide +kernel
theorem d_Mail_field_19 : decode prog_1_method_7_code 19 = .ok (.ireturn, 1) := by decide +kernel
theorem d_Mail_fieldByte_0 : decode prog_1_method_8_code 0 = .ok (.aload_n 0, 1) := by decide +kernel
theorem d_Mail_fieldByte_1 : decode prog_1_method_8_code 1 = .ok (.getfield 23, 3) := by decide +kernel
theorem d_Mail_fieldByte_4 : decode prog_1_method_8_code 4 = .ok (.invokevirtual 102, 3) := by decide +kernel
theorem d_Mail_fieldByte_7 : decode prog_1_method_8_code 7 = .ok (.aload_n 0, 1) := by decide +kernel
theorem d_Mail_fieldByte_8 : decode prog_1_method_8_code 8 = .ok (.getfield 23, 3) := by decide +kernel
theorem d_Mail_fieldByte_11 : decode prog_1_method_8_code 11 = .ok (.iload_n 1, 1) := by decide +kernel
theorem d_Mail_fieldByte_12 : decode prog_1_method_8_code 12 = .ok (.iload_n 2, 1) := by decide +kernel
theorem d_Mail_fieldByte_13 : decode prog_1_method_8_code 13 = .ok (.invokevirtual 106, 3) := by decide +kernel
theorem d_Mail_fieldByte_16 : decode prog_1_method_8_code 16 = .ok (.iload_n 3, 1) := by decide +kernel
theorem d_Mail_fieldByte_17 : decode prog_1_method_8_code 17 = .ok (.invokevirtual 114, 3) := by decide +kernel
theorem d_Mail_fieldByte_20 : decode prog_1_method_8_code 20 = .ok (.ireturn, 1) := by decide +kernel
theorem d_Mail_addresses_0 : decode prog_1_method_9_code 0 = .ok (.aload_n 0, 1) := by decide +kernel
theorem d_Mail_addresses_1 : decode prog_1_method_9_code 1 = .ok (.getfield 30, 3) := by decide +kernel
theorem d_Mail_addresses_4 : decode prog_1_method_9_code 4 = .ok (.aload_n 0, 1) := by decide +kernel
theorem d_Mail_addresses_5 : decode prog_1_method_9_code 5 = .ok (.getfield 23, 3) := by decide +kernel
theorem d_Mail_addresses_8 : decode prog_1_method_9_code 8 = .ok (.invokevirtual 102, 3) := by decide +kernel
theorem d_Mail_addresses_11 : decode prog_1_method_9_code 11 = .ok (.aload_n 0, 1) := by decide +kernel
theorem d_Mail_addresses_12 : decode prog_1_method_9_code 12 = .ok (.iload_n 1, 1) := by decide +kernel
theorem d_Mail_addresses_13 : decode prog_1_method_9_code 13 = .ok (.invokevirtual 117, 3) := by decide +kernel
theorem d_Mail_addresses_16 : decode prog_1_method_9_code 16 = .ok (.ldc 120, 2) := by decide +kernel
theorem d_Mail_addresses_18 : decode prog_1_method_9_code 18 = .ok (.iconst 1, 1) := by decide +kernel
theorem d_Mail_addresses_19 : decode prog_1_method_9_code 19 = .ok (.invokevirtual 122, 3) := by decide +kernel
theorem d_Mail_addresses_22 : decode prog_1_method_9_code 22 = .ok (.aload_n 0, 1) := by decide +kernel
theorem d_Mail_addresses_23 : decode prog_1_method_9_code 23 = .ok (.getfield 39, 3) := by decide +kernel
theorem d_Mail_addresses_26 : decode prog_1_method_9_code 26 = .ok (.invokevirtual 126, 3) := by decide +kernel
theorem d_Mail_addresses_29 : decode prog_1_method_9_code 29 = .ok (.aload_n 0, 1) := by decide +kernel
theorem d_Mail_addresses_30 : decode prog_1_method_9_code 30 = .ok (.getfield 39, 3) := by decide +kernel
theorem d_Mail_addresses_33 : decode prog_1_method_9_code 33 = .ok (.invokevirtual 129, 3) := by decide +kernel
theorem d_Mail_addresses_36 : decode prog_1_method_9_code 36 = .ok (.ireturn, 1) := by decide +kernel
theorem d_Mail_identities_0 : decode prog_1_method_10_code 0 = .ok (.aload_n 0, 1) := by decide +kernel
theorem d_Mail_identities_1 : decode prog_1_method_10_code 1 = .ok (.getfield 46, 3) := by decide +kernel
theorem d_Mail_identities_4 : decode prog_1_method_10_code 4 = .ok (.aload_n 0, 1) := by decide +kernel
theorem d_Mail_identities_5 : decode prog_1_method_10_code 5 = .ok (.getfield 23, 3) := by decide +kernel
theorem d_Mail_identities_8 : decode prog_1_method_10_code 8 = .ok (.invokevirtual 102, 3) := by decide +kernel
theorem d_Mail_identities_11 : decode prog_1_method_10_code 11 = .ok (.aload_n 0, 1) := by decide +kernel
theorem d_Mail_identities_12 : decode prog_1_method_10_code 12 = .ok (.iload_n 1, 1) := by decide +kernel
theorem d_Mail_identities_13 : decode prog_1_method_10_code 13 = .ok (.invokevirtual 117, 3) := by decide +kernel
theorem d_Mail_identities_16 : decode prog_1_method_10_code 16 = .ok (.invokevirtual 130, 3) := by decide +kernel
theorem d_Mail_identities_19 : decode prog_1_method_10_code 19 = .ok (.aload_n 0, 1) := by decide +kernel
theorem d_Mail_identities_20 : decode prog_1_method_10_code 20 = .ok (.getfield 46, 3) := by decide +kernel
theorem d_Mail_identities_23 : decode prog_1_method_10_code 23 = .ok (.invokevirtual 134, 3) := by decide +kernel
theorem d_Mail_identities_26 : decode prog_1_method_10_code 26 = .ok (.invokevirtual 135, 3) := by decide +kernel
theorem d_Mail_identities_29 : decode prog_1_method_10_code 29 = .ok (.ireturn, 1) := by decide +kernel
theorem d_Mail_date_0 : decode prog_1_method_11_code 0 = .ok (.aload_n 0, 1) := by decide +kernel
theorem d_Mail_date_1 : decode prog_1_method_11_code 1 = .ok (.getfield 30, 3) := by decide +kernel
theorem d_Mail_date_4 : decode prog_1_method_11_code 4 = .ok (.aload_n 0, 1) := by decide +kernel
theorem d_Mail_date_5 : decode prog_1_method_11_code 5 = .ok (.getfield 23, 3) := by decide +kernel
theorem d_Mail_date_8 : decode prog_1_method_11_code 8 = .ok (.invokevirtual 102, 3) := by decide +kernel
theorem d_Mail_date_11 : decode prog_1_method_11_code 11 = .ok (.aload_n 0, 1) := by decide +kernel
theorem d_Mail_date_12 : decode prog_1_method_11_code 12 = .ok (.iload_n 1, 1) := by decide +kernel
theorem d_Mail_date_13 : decode prog_1_method_11_code 13 = .ok (.invokevirtual 117, 3) := by decide +kernel
theorem d_Mail_date_16 : decode prog_1_method_11_code 16 = .ok (.ldc 120, 2) := by decide +kernel
theorem d_Mail_date_18 : decode prog_1_method_11_code 18 = .ok (.iconst 0, 1) := by decide +kernel
theorem d_Mail_date_19 : decode prog_1_method_11_code 19 = .ok (.invokevirtual 122, 3) := by decide +kernel
theorem d_Mail_date_22 : decode prog_1_method_11_code 22 = .ok (.aload_n 0, 1) := by decide +kernel
theorem d_Mail_date_23 : decode prog_1_method_11_code 23 = .ok (.getfield 53, 3) := by decide +kernel
theorem d_Mail_date_26 : decode prog_1_method_11_code 26 = .ok (.invokevirtual 136, 3) := by decide +kernel
theorem d_Mail_date_29 : decode prog_1_method_11_code 29 = .ok (.lreturn, 1) := by decide +kernel
theorem d_Mail_type_0 : decode prog_1_method_12_code 0 = .ok (.aload_n 0, 1) := by decide +kernel
theorem d_Mail_type_1 : decode prog_1_method_12_code 1 = .ok (.getfield 30, 3) := by decide +kernel
theorem d_Mail_type_4 : decode prog_1_method_12_code 4 = .ok (.aload_n 0, 1) := by decide +kernel
theorem d_Mail_type_5 : decode prog_1_method_12_code 5 = .ok (.getfield 23, 3) := by decide +kernel
theorem d_Mail_type_8 : decode prog_1_method_12_code 8 = .ok (.invokevirtual 102, 3) := by decide +kernel
theorem d_Mail_type_11 : decode prog_1_method_12_code 11 = .ok (.aload_n 0, 1) := by decide +kernel
theorem d_Mail_type_12 : decode prog_1_method_12_code 12 = .ok (.iload_n 1, 1) := by decide +kernel
theorem d_Mail_type_13 : decode prog_1_method_12_code 13 = .ok (.invokevirtual 117, 3) := by decide +kernel
theorem d_Mail_type_16 : decode prog_1_method_12_code 16 = .ok (.ldc 140, 2) := by decide +kernel
theorem d_Mail_type_18 : decode prog_1_method_12_code 18 = .ok (.iconst 0, 1) := by decide +kernel
theorem d_Mail_type_19 : decode prog_1_method_12_code 19 = .ok (.invokevirtual 122, 3) := by decide +kernel
theorem d_Mail_type_22 : decode prog_1_method_12_code 22 = .ok (.aload_n 0, 1) := by decide +kernel
theorem d_Mail_type_23 : decode prog_1_method_12_code 23 = .ok (.getfield 60, 3) := by decide +kernel
theorem d_Mail_type_26 : decode prog_1_method_12_code 26 = .ok (.invokevirtual 142, 3) := by decide +kernel
theorem d_Mail_type_29 : decode prog_1_method_12_code 29 = .ok (.ireturn, 1) := by decide +kernel
theorem d_Mail_group_0 : decode prog_1_method_13_code 0 = .ok (.iload_n 1, 1) := by decide +kernel
theorem d_Mail_group_1 : decode prog_1_method_13_code 1 = .ok (.tableswitch 55 0 2 #[27, 38, 46], 27) := by decide +kernel
theorem d_Mail_group_28 : decode prog_1_method_13_code 28 = .ok (.aload_n 0, 1) := by decide +kernel
theorem d_Mail_group_29 : decode prog_1_method_13_code 29 = .ok (.getfield 39, 3) := by decide +kernel
theorem d_Mail_group_32 : decode prog_1_method_13_code 32 = .ok (.invokevirtual 145, 3) := by decide +kernel
theorem d_Mail_group_35 : decode prog_1_method_13_code 35 = .ok (.invokevirtual 135, 3) := by decide +kernel
theorem d_Mail_group_38 : decode prog_1_method_13_code 38 = .ok (.ireturn, 1) := by decide +kernel
theorem d_Mail_group_39 : decode prog_1_method_13_code 39 = .ok (.aload_n 0, 1) := by decide +kernel
theorem d_Mail_group_40 : decode prog_1_method_13_code 40 = .ok (.getfield 39, 3) := by decide +kernel
theorem d_Mail_group_43 : decode prog_1_method_13_code 43 = .ok (.invokevirtual 148, 3) := by decide +kernel
theorem d_Mail_group_46 : decode prog_1_method_13_code 46 = .ok (.ireturn, 1) := by decide +kernel
theorem d_Mail_group_47 : decode prog_1_method_13_code 47 = .ok (.aload_n 0, 1) := by decide +kernel
theorem d_Mail_group_48 : decode prog_1_method_13_code 48 = .ok (.getfield 39, 3) := by decide +kernel
theorem d_Mail_group_51 : decode prog_1_method_13_code 51 = .ok (.iload_n 2, 1) := by decide +kernel
theorem d_Mail_group_52 : decode prog_1_method_13_code 52 = .ok (.invokevirtual 151, 3) := by decide +kernel
theorem d_Mail_group_55 : decode prog_1_method_13_code 55 = .ok (.ireturn, 1) := by decide +kernel
theorem d_Mail_group_56 : decode prog_1_method_13_code 56 = .ok (.iconst (-1), 1) := by decide +kernel
theorem d_Mail_group_57 : decode prog_1_method_13_code 57 = .ok (.ireturn, 1) := by decide +kernel
theorem d_Mail_length_0 : decode prog_1_method_14_code 0 = .ok (.aload_n 0, 1) := by decide +kernel
theorem d_Mail_length_1 : decode prog_1_method_14_code 1 = .ok (.iload_n 1, 1) := by decide +kernel
theorem d_Mail_length_2 : decode prog_1_method_14_code 2 = .ok (.invokevirtual 154, 3) := by decide +kernel
theorem d_Mail_length_5 : decode prog_1_method_14_code 5 = .ok (.aload_n 0, 1) := by decide +kernel
theorem d_Mail_length_6 : decode prog_1_method_14_code 6 = .ok (.iload_n 1, 1) := by decide +kernel
theorem d_Mail_length_7 : decode prog_1_method_14_code 7 = .ok (.iload_n 2, 1) := by decide +kernel
theorem d_Mail_length_8 : decode prog_1_method_14_code 8 = .ok (.invokevirtual 158, 3) := by decide +kernel
theorem d_Mail_length_11 : decode prog_1_method_14_code 11 = .ok (.invokevirtual 110, 3) := by decide +kernel
theorem d_Mail_length_14 : decode prog_1_method_14_code 14 = .ok (.ireturn, 1) := by decide +kernel
theorem d_Mail_at_0 : decode prog_1_method_15_code 0 = .ok (.aload_n 0, 1) := by decide +kernel
theorem d_Mail_at_1 : decode prog_1_method_15_code 1 = .ok (.iload_n 1, 1) := by decide +kernel
theorem d_Mail_at_2 : decode prog_1_method_15_code 2 = .ok (.invokevirtual 154, 3) := by decide +kernel
theorem d_Mail_at_5 : decode prog_1_method_15_code 5 = .ok (.aload_n 0, 1) := by decide +kernel
theorem d_Mail_at_6 : decode prog_1_method_15_code 6 = .ok (.iload_n 1, 1) := by decide +kernel
theorem d_Mail_at_7 : decode prog_1_method_15_code 7 = .ok (.iload_n 2, 1) := by decide +kernel
theorem d_Mail_at_8 : decode prog_1_method_15_code 8 = .ok (.invokevirtual 158, 3) := by decide +kernel
theorem d_Mail_at_11 : decode prog_1_method_15_code 11 = .ok (.iload_n 3, 1) := by decide +kernel
theorem d_Mail_at_12 : decode prog_1_method_15_code 12 = .ok (.invokevirtual 114, 3) := by decide +kernel
theorem d_Mail_at_15 : decode prog_1_method_15_code 15 = .ok (.ireturn, 1) := by decide +kernel
theorem d_Mail_parameter_0 : decode prog_1_method_16_code 0 = .ok (.aload_n 0, 1) := by decide +kernel
theorem d_Mail_parameter_1 : decode prog_1_method_16_code 1 = .ok (.getfield 60, 3) := by decide +kernel
theorem d_Mail_parameter_4 : decode prog_1_method_16_code 4 = .ok (.aload_n 0, 1) := by decide +kernel
theorem d_Mail_parameter_5 : decode prog_1_method_16_code 5 = .ok (.getfield 16, 3) := by decide +kernel
theorem d_Mail_parameter_8 : decode prog_1_method_16_code 8 = .ok (.invokevirtual 161, 3) := by decide +kernel
theorem d_Mail_parameter_11 : decode prog_1_method_16_code 11 = .ok (.istore_n 1, 1) := by decide +kernel
theorem d_Mail_parameter_12 : decode prog_1_method_16_code 12 = .ok (.aload_n 0, 1) := by decide +kernel
theorem d_Mail_parameter_13 : decode prog_1_method_16_code 13 = .ok (.getfield 16, 3) := by decide +kernel
theorem d_Mail_parameter_16 : decode prog_1_method_16_code 16 = .ok (.iconst 0, 1) := by decide +kernel
theorem d_Mail_parameter_17 : decode prog_1_method_16_code 17 = .ok (.invokevirtual 89, 3) := by decide +kernel
theorem d_Mail_parameter_20 : decode prog_1_method_16_code 20 = .ok (.iload_n 1, 1) := by decide +kernel
theorem d_Mail_parameter_21 : decode prog_1_method_16_code 21 = .ok (.ireturn, 1) := by decide +kernel
theorem d_Mail_parameterByte_0 : decode prog_1_method_17_code 0 = .ok (.aload_n 0, 1) := by decide +kernel
theorem d_Mail_parameterByte_1 : decode prog_1_method_17_code 1 = .ok (.getfield 60, 3) := by decide +kernel
theorem d_Mail_parameterByte_4 : decode prog_1_method_17_code 4 = .ok (.iload_n 1, 1) := by decide +kernel
theorem d_Mail_parameterByte_5 : decode prog_1_method_17_code 5 = .ok (.iload_n 2, 1) := by decide +kernel
theorem d_Mail_parameterByte_6 : decode prog_1_method_17_code 6 = .ok (.invokevirtual 164, 3) := by decide +kernel
theorem d_Mail_parameterByte_9 : decode prog_1_method_17_code 9 = .ok (.ireturn, 1) := by decide +kernel
theorem d_Mail_valueOf_0 : decode prog_1_method_18_code 0 = .ok (.aload_n 0, 1) := by decide +kernel
theorem d_Mail_valueOf_1 : decode prog_1_method_18_code 1 = .ok (.getfield 23, 3) := by decide +kernel
theorem d_Mail_valueOf_4 : decode prog_1_method_18_code 4 = .ok (.iload_n 1, 1) := by decide +kernel
theorem d_Mail_valueOf_5 : decode prog_1_method_18_code 5 = .ok (.iconst 1, 1) := by decide +kernel
theorem d_Mail_valueOf_6 : decode prog_1_method_18_code 6 = .ok (.invokevirtual 106, 3) := by decide +kernel
theorem d_Mail_valueOf_9 : decode prog_1_method_18_code 9 = .ok (.istore_n 2, 1) := by decide +kernel
theorem d_Mail_valueOf_10 : decode prog_1_method_18_code 10 = .ok (.iload_n 2, 1) := by decide +kernel
theorem d_Mail_valueOf_11 : decode prog_1_method_18_code 11 = .ok (.iconst (-1), 1) := by decide +kernel
theorem d_Mail_valueOf_12 : decode prog_1_method_18_code 12 = .ok (.if_icmp .ne 13, 3) := by decide +kernel
theorem d_Mail_valueOf_15 : decode prog_1_method_18_code 15 = .ok (.new 168, 3) := by decide +kernel
theorem d_Mail_valueOf_18 : decode prog_1_method_18_code 18 = .ok (.dup, 1) := by decide +kernel
theorem d_Mail_valueOf_19 : decode prog_1_method_18_code 19 = .ok (.ldc 170, 2) := by decide +kernel
theorem d_Mail_valueOf_21 : decode prog_1_method_18_code 21 = .ok (.invokespecial 172, 3) := by decide +kernel
theorem d_Mail_valueOf_24 : decode prog_1_method_18_code 24 = .ok (.athrow, 1) := by decide +kernel
theorem d_Mail_valueOf_25 : decode prog_1_method_18_code 25 = .ok (.iload_n 2, 1) := by decide +kernel
theorem d_Mail_valueOf_26 : decode prog_1_method_18_code 26 = .ok (.ireturn, 1) := by decide +kernel
theorem d_Mail_textsFor_0 : decode prog_1_method_19_code 0 = .ok (.iload_n 1, 1) := by decide +kernel
theorem d_Mail_textsFor_1 : decode prog_1_method_19_code 1 = .ok (.tableswitch 75 0 6 #[43, 43, 43, 51, 59, 67, 67], 43) := by decide +kernel
theorem d_Mail_textsFor_44 : decode prog_1_method_19_code 44 = .ok (.aload_n 0, 1) := by decide +kernel
theorem d_Mail_textsFor_45 : decode prog_1_method_19_code 45 = .ok (.getfield 39, 3) := by decide +kernel
theorem d_Mail_textsFor_48 : decode prog_1_method_19_code 48 = .ok (.invokevirtual 175, 3) := by decide +kernel
theorem d_Mail_textsFor_51 : decode prog_1_method_19_code 51 = .ok (.areturn, 1) := by decide +kernel
theorem d_Mail_textsFor_52 : decode prog_1_method_19_code 52 = .ok (.aload_n 0, 1) := by decide +kernel
theorem d_Mail_textsFor_53 : decode prog_1_method_19_code 53 = .ok (.getfield 39, 3) := by decide +kernel
theorem d_Mail_textsFor_56 : decode prog_1_method_19_code 56 = .ok (.invokevirtual 145, 3) := by decide +kernel
theorem d_Mail_textsFor_59 : decode prog_1_method_19_code 59 = .ok (.areturn, 1) := by decide +kernel
theorem d_Mail_textsFor_60 : decode prog_1_method_19_code 60 = .ok (.aload_n 0, 1) := by decide +kernel
theorem d_Mail_textsFor_61 : decode prog_1_method_19_code 61 = .ok (.getfield 46, 3) := by decide +kernel
theorem d_Mail_textsFor_64 : decode prog_1_method_19_code 64 = .ok (.invokevirtual 134, 3) := by decide +kernel
theorem d_Mail_textsFor_67 : decode prog_1_method_19_code 67 = .ok (.areturn, 1) := by decide +kernel
theorem d_Mail_textsFor_68 : decode prog_1_method_19_code 68 = .ok (.aload_n 0, 1) := by decide +kernel
theorem d_Mail_textsFor_69 : decode prog_1_method_19_code 69 = .ok (.getfield 60, 3) := by decide +kernel
theorem d_Mail_textsFor_72 : decode prog_1_method_19_code 72 = .ok (.invokevirtual 176, 3) := by decide +kernel
theorem d_Mail_textsFor_75 : decode prog_1_method_19_code 75 = .ok (.areturn, 1) := by decide +kernel
theorem d_Mail_textsFor_76 : decode prog_1_method_19_code 76 = .ok (.aload_n 0, 1) := by decide +kernel
theorem d_Mail_textsFor_77 : decode prog_1_method_19_code 77 = .ok (.getfield 67, 3) := by decide +kernel
theorem d_Mail_textsFor_80 : decode prog_1_method_19_code 80 = .ok (.areturn, 1) := by decide +kernel
theorem d_Mail_textFor_0 : decode prog_1_method_20_code 0 = .ok (.iload_n 1, 1) := by decide +kernel
theorem d_Mail_textFor_1 : decode prog_1_method_20_code 1 = .ok (.tableswitch 65 0 6 #[43, 43, 43, 65, 65, 53, 53], 43) := by decide +kernel
theorem d_Mail_textFor_44 : decode prog_1_method_20_code 44 = .ok (.aload_n 0, 1) := by decide +kernel
theorem d_Mail_textFor_45 : decode prog_1_method_20_code 45 = .ok (.getfield 39, 3) := by decide +kernel
theorem d_Mail_textFor_48 : decode prog_1_method_20_code 48 = .ok (.iload_n 2, 1) := by decide +kernel
theorem d_Mail_textFor_49 : decode prog_1_method_20_code 49 = .ok (.iload_n 1, 1) := by decide +kernel
theorem d_Mail_textFor_50 : decode prog_1_method_20_code 50 = .ok (.invokevirtual 179, 3) := by decide +kernel
theorem d_Mail_textFor_53 : decode prog_1_method_20_code 53 = .ok (.ireturn, 1) := by decide +kernel
theorem d_Mail_textFor_54 : decode prog_1_method_20_code 54 = .ok (.iload_n 2, 1) := by decide +kernel
theorem d_Mail_textFor_55 : decode prog_1_method_20_code 55 = .ok (.ifCond .ne 9, 3) := by decide +kernel
theorem d_Mail_textFor_58 : decode prog_1_method_20_code 58 = .ok (.iload_n 1, 1) := by decide +kernel
theorem d_Mail_textFor_59 : decode prog_1_method_20_code 59 = .ok (.iconst 5, 1) := by decide +kernel
theorem d_Mail_textFor_60 : decode prog_1_method_20_code 60 = .ok (.isub, 1) := by decide +kernel
theorem d_Mail_textFor_61 : decode prog_1_method_20_code 61 = .ok (.goto 4, 3) := by decide +kernel
theorem d_Mail_textFor_64 : decode prog_1_method_20_code 64 = .ok (.iconst (-1), 1) := by decide +kernel
theorem d_Mail_textFor_65 : decode prog_1_method_20_code 65 = .ok (.ireturn, 1) := by decide +kernel
theorem d_Mail_textFor_66 : decode prog_1_method_20_code 66 = .ok (.iload_n 2, 1) := by decide +kernel
theorem d_Mail_textFor_67 : decode prog_1_method_20_code 67 = .ok (.ireturn, 1) := by decide +kernel
theorem d_Texts_init_0 : decode prog_8_method_1_code 0 = .ok (.aload_n 0, 1) := by decide +kernel
theorem d_Texts_init_1 : decode prog_8_method_1_code 1 = .ok (.invokespecial 3, 3) := by decide +kernel
theorem d_Texts_init_4 : decode prog_8_method_1_code 4 = .ok (.aload_n 0, 1) := by decide +kernel
theorem d_Texts_init_5 : decode prog_8_method_1_code 5 = .ok (.new 9, 3) := by decide +kernel
theorem d_Texts_init_8 : decode prog_8_method_1_code 8 = .ok (.dup, 1) := by decide +kernel
theorem d_Texts_init_9 : decode prog_8_method_1_code 9 = .ok (.invokespecial 11, 3) := by decide +kernel
theorem d_Texts_init_12 : decode prog_8_method_1_code 12 = .ok (.putfield 12, 3) := by decide +kernel
theorem d_Texts_init_15 : decode prog_8_method_1_code 15 = .ok (.aload_n 0, 1) := by decide +kernel
theorem d_Texts_init_16 : decode prog_8_method_1_code 16 = .ok (.new 9, 3) := by decide +kernel
theorem d_Texts_init_19 : decode prog_8_method_1_code 19 = .ok (.dup, 1) := by decide +kernel
theorem d_Texts_init_20 : decode prog_8_method_1_code 20 = .ok (.invokespecial 11, 3) := by decide +kernel
theorem d_Texts_init_23 : decode prog_8_method_1_code 23 = .ok (.putfield 18, 3) := by decide +kernel
theorem d_Texts_init_26 : decode prog_8_method_1_code 26 = .ok (.aload_n 0, 1) := by decide +kernel
theorem d_Texts_init_27 : decode prog_8_method_1_code 27 = .ok (.getfield 18, 3) := by decide +kernel
theorem d_Texts_init_30 : decode prog_8_method_1_code 30 = .ok (.iconst 0, 1) := by decide +kernel
theorem d_Texts_init_31 : decode prog_8_method_1_code 31 = .ok (.invokevirtual 21, 3) := by decide +kernel
theorem d_Texts_init_34 : decode prog_8_method_1_code 34 = .ok (.return_, 1) := by decide +kernel
theorem d_Texts_count_0 : decode prog_8_method_2_code 0 = .ok (.aload_n 0, 1) := by decide +kernel
theorem d_Texts_count_1 : decode prog_8_method_2_code 1 = .ok (.getfield 18, 3) := by decide +kernel
theorem d_Texts_count_4 : decode prog_8_method_2_code 4 = .ok (.invokevirtual 25, 3) := by decide +kernel
theorem d_Texts_count_7 : decode prog_8_method_2_code 7 = .ok (.iconst 1, 1) := by decide +kernel
theorem d_Texts_count_8 : decode prog_8_method_2_code 8 = .ok (.isub, 1) := by decide +kernel
theorem d_Texts_count_9 : decode prog_8_method_2_code 9 = .ok (.ireturn, 1) := by decide +kernel
theorem d_Texts_sizeOf_0 : decode prog_8_method_3_code 0 = .ok (.iload_n 1, 1) := by decide +kernel
theorem d_Texts_sizeOf_1 : decode prog_8_method_3_code 1 = .ok (.ifCond .lt 38, 3) := by decide +kernel
theorem d_Texts_sizeOf_4 : decode prog_8_method_3_code 4 = .ok (.iload_n 1, 1) := by decide +kernel
theorem d_Texts_sizeOf_5 : decode prog_8_method_3_code 5 = .ok (.aload_n 0, 1) := by decide +kernel
theorem d_Texts_sizeOf_6 : decode prog_8_method_3_code 6 = .ok (.getfield 18, 3) := by decide +kernel
theorem d_Texts_sizeOf_9 : decode prog_8_method_3_code 9 = .ok (.invokevirtual 25, 3) := by decide +kernel
theorem d_Texts_sizeOf_12 : decode prog_8_method_3_code 12 = .ok (.iconst 1, 1) := by decide +kernel
theorem d_Texts_sizeOf_13 : decode prog_8_method_3_code 13 = .ok (.isub, 1) := by decide +kernel
theorem d_Texts_sizeOf_14 : decode prog_8_method_3_code 14 = .ok (.if_icmp .ge 25, 3) := by decide +kernel
theorem d_Texts_sizeOf_17 : decode prog_8_method_3_code 17 = .ok (.aload_n 0, 1) := by decide +kernel
theorem d_Texts_sizeOf_18 : decode prog_8_method_3_code 18 = .ok (.getfield 18, 3) := by decide +kernel
theorem d_Texts_sizeOf_21 : decode prog_8_method_3_code 21 = .ok (.iload_n 1, 1) := by decide +kernel
theorem d_Texts_sizeOf_22 : decode prog_8_method_3_code 22 = .ok (.iconst 1, 1) := by decide +kernel
theorem d_Texts_sizeOf_23 : decode prog_8_method_3_code 23 = .ok (.iadd, 1) := by decide +kernel
theorem d_Texts_sizeOf_24 : decode prog_8_method_3_code 24 = .ok (.invokevirtual 29, 3) := by decide +kernel
theorem d_Texts_sizeOf_27 : decode prog_8_method_3_code 27 = .ok (.aload_n 0, 1) := by decide +kernel
theorem d_Texts_sizeOf_28 : decode prog_8_method_3_code 28 = .ok (.getfield 18, 3) := by decide +kernel
theorem d_Texts_sizeOf_31 : decode prog_8_method_3_code 31 = .ok (.iload_n 1, 1) := by decide +kernel
theorem d_Texts_sizeOf_32 : decode prog_8_method_3_code 32 = .ok (.invokevirtual 29, 3) := by decide +kernel
theorem d_Texts_sizeOf_35 : decode prog_8_method_3_code 35 = .ok (.isub, 1) := by decide +kernel
theorem d_Texts_sizeOf_36 : decode prog_8_method_3_code 36 = .ok (.goto 4, 3) := by decide +kernel
theorem d_Texts_sizeOf_39 : decode prog_8_method_3_code 39 = .ok (.iconst (-1), 1) := by decide +kernel
theorem d_Texts_sizeOf_40 : decode prog_8_method_3_code 40 = .ok (.ireturn, 1) := by decide +kernel
theorem d_Texts_byteOf_0 : decode prog_8_method_4_code 0 = .ok (.iload_n 2, 1) := by decide +kernel
theorem d_Texts_byteOf_1 : decode prog_8_method_4_code 1 = .ok (.ifCond .lt 32, 3) := by decide +kernel
theorem d_Texts_byteOf_4 : decode prog_8_method_4_code 4 = .ok (.iload_n 2, 1) := by decide +kernel
theorem d_Texts_byteOf_5 : decode prog_8_method_4_code 5 = .ok (.aload_n 0, 1) := by decide +kernel
theorem d_Texts_byteOf_6 : decode prog_8_method_4_code 6 = .ok (.iload_n 1, 1) := by decide +kernel
theorem d_Texts_byteOf_7 : decode prog_8_method_4_code 7 = .ok (.invokevirtual 33, 3) := by decide +kernel
theorem d_Texts_byteOf_10 : decode prog_8_method_4_code 10 = .ok (.if_icmp .ge 23, 3) := by decide +kernel
theorem d_Texts_byteOf_13 : decode prog_8_method_4_code 13 = .ok (.aload_n 0, 1) := by decide +kernel
theorem d_Texts_byteOf_14 : decode prog_8_method_4_code 14 = .ok (.getfield 12, 3) := by decide +kernel
theorem d_Texts_byteOf_17 : decode prog_8_method_4_code 17 = .ok (.aload_n 0, 1) := by decide +kernel
theorem d_Texts_byteOf_18 : decode prog_8_method_4_code 18 = .ok (.getfield 18, 3) := by decide +kernel
theorem d_Texts_byteOf_21 : decode prog_8_method_4_code 21 = .ok (.iload_n 1, 1) := by decide +kernel
theorem d_Texts_byteOf_22 : decode prog_8_method_4_code 22 = .ok (.invokevirtual 29, 3) := by decide +kernel
theorem d_Texts_byteOf_25 : decode prog_8_method_4_code 25 = .ok (.iload_n 2, 1) := by decide +kernel
theorem d_Texts_byteOf_26 : decode prog_8_method_4_code 26 = .ok (.iadd, 1) := by decide +kernel
theorem d_Texts_byteOf_27 : decode prog_8_method_4_code 27 = .ok (.invokevirtual 29, 3) := by decide +kernel
theorem d_Texts_byteOf_30 : decode prog_8_method_4_code 30 = .ok (.goto 4, 3) := by decide +kernel
theorem d_Texts_byteOf_33 : decode prog_8_method_4_code 33 = .ok (.iconst (-1), 1) := by decide +kernel
theorem d_Texts_byteOf_34 : decode prog_8_method_4_code 34 = .ok (.ireturn, 1) := by decide +kernel
theorem d_Texts_clear_0 : decode prog_8_method_10_code 0 = .ok (.aload_n 0, 1) := by decide +kernel
theorem d_Texts_clear_1 : decode prog_8_method_10_code 1 = .ok (.getfield 12, 3) := by decide +kernel
theorem d_Texts_clear_4 : decode prog_8_method_10_code 4 = .ok (.iconst 0, 1) := by decide +kernel
theorem d_Texts_clear_5 : decode prog_8_method_10_code 5 = .ok (.invokevirtual 43, 3) := by decide +kernel
theorem d_Texts_clear_8 : decode prog_8_method_10_code 8 = .ok (.aload_n 0, 1) := by decide +kernel
theorem d_Texts_clear_9 : decode prog_8_method_10_code 9 = .ok (.getfield 18, 3) := by decide +kernel
theorem d_Texts_clear_12 : decode prog_8_method_10_code 12 = .ok (.iconst 1, 1) := by decide +kernel
theorem d_Texts_clear_13 : decode prog_8_method_10_code 13 = .ok (.invokevirtual 43, 3) := by decide +kernel
theorem d_Texts_clear_16 : decode prog_8_method_10_code 16 = .ok (.return_, 1) := by decide +kernel
theorem d_Texts_close_0 : decode prog_8_method_8_code 0 = .ok (.aload_n 0, 1) := by decide +kernel
theorem d_Texts_close_1 : decode prog_8_method_8_code 1 = .ok (.getfield 18, 3) := by decide +kernel
theorem d_Texts_close_4 : decode prog_8_method_8_code 4 = .ok (.aload_n 0, 1) := by decide +kernel
theorem d_Texts_close_5 : decode prog_8_method_8_code 5 = .ok (.getfield 12, 3) := by decide +kernel
theorem d_Texts_close_8 : decode prog_8_method_8_code 8 = .ok (.invokevirtual 25, 3) := by decide +kernel
theorem d_Texts_close_11 : decode prog_8_method_8_code 11 = .ok (.invokevirtual 21, 3) := by decide +kernel
theorem d_Texts_close_14 : decode prog_8_method_8_code 14 = .ok (.return_, 1) := by decide +kernel
theorem d_Texts_put_0 : decode prog_8_method_5_code 0 = .ok (.aload_n 0, 1) := by decide +kernel
theorem d_Texts_put_1 : decode prog_8_method_5_code 1 = .ok (.getfield 12, 3) := by decide +kernel
theorem d_Texts_put_4 : decode prog_8_method_5_code 4 = .ok (.iload_n 1, 1) := by decide +kernel
theorem d_Texts_put_5 : decode prog_8_method_5_code 5 = .ok (.invokevirtual 21, 3) := by decide +kernel
theorem d_Texts_put_8 : decode prog_8_method_5_code 8 = .ok (.return_, 1) := by decide +kernel
theorem d_Head_init_0 : decode prog_5_method_1_code 0 = .ok (.aload_n 0, 1) := by decide +kernel
theorem d_Head_init_1 : decode prog_5_method_1_code 1 = .ok (.invokespecial 3, 3) := by decide +kernel
theorem d_Head_init_4 : decode prog_5_method_1_code 4 = .ok (.aload_n 0, 1) := by decide +kernel
theorem d_Head_init_5 : decode prog_5_method_1_code 5 = .ok (.new 9, 3) := by decide +kernel
theorem d_Head_init_8 : decode prog_5_method_1_code 8 = .ok (.dup, 1) := by decide +kernel
theorem d_Head_init_9 : decode prog_5_method_1_code 9 = .ok (.invokespecial 11, 3) := by decide +kernel
theorem d_Head_init_12 : decode prog_5_method_1_code 12 = .ok (.putfield 12, 3) := by decide +kernel
theorem d_Head_init_15 : decode prog_5_method_1_code 15 = .ok (.aload_n 0, 1) := by decide +kernel
theorem d_Head_init_16 : decode prog_5_method_1_code 16 = .ok (.iconst 0, 1) := by decide +kernel
theorem d_Head_init_17 : decode prog_5_method_1_code 17 = .ok (.putfield 18, 3) := by decide +kernel
theorem d_Head_init_20 : decode prog_5_method_1_code 20 = .ok (.aload_n 0, 1) := by decide +kernel
theorem d_Head_init_21 : decode prog_5_method_1_code 21 = .ok (.iconst 0, 1) := by decide +kernel
theorem d_Head_init_22 : decode prog_5_method_1_code 22 = .ok (.putfield 22, 3) := by decide +kernel
theorem d_Head_init_25 : decode prog_5_method_1_code 25 = .ok (.return_, 1) := by decide +kernel
theorem d_Head_texts_0 : decode prog_5_method_2_code 0 = .ok (.aload_n 0, 1) := by decide +kernel
theorem d_Head_texts_1 : decode prog_5_method_2_code 1 = .ok (.getfield 12, 3) := by decide +kernel
theorem d_Head_texts_4 : decode prog_5_method_2_code 4 = .ok (.areturn, 1) := by decide +kernel
theorem d_Head_count_0 : decode prog_5_method_3_code 0 = .ok (.aload_n 0, 1) := by decide +kernel
theorem d_Head_count_1 : decode prog_5_method_3_code 1 = .ok (.getfield 12, 3) := by decide +kernel
theorem d_Head_count_4 : decode prog_5_method_3_code 4 = .ok (.invokevirtual 26, 3) := by decide +kernel
theorem d_Head_count_7 : decode prog_5_method_3_code 7 = .ok (.iconst 2, 1) := by decide +kernel
theorem d_Head_count_8 : decode prog_5_method_3_code 8 = .ok (.idiv, 1) := by decide +kernel
theorem d_Head_count_9 : decode prog_5_method_3_code 9 = .ok (.ireturn, 1) := by decide +kernel
theorem d_Head_badLines_0 : decode prog_5_method_4_code 0 = .ok (.aload_n 0, 1) := by decide +kernel
theorem d_Head_badLines_1 : decode prog_5_method_4_code 1 = .ok (.getfield 18, 3) := by decide +kernel
theorem d_Head_badLines_4 : decode prog_5_method_4_code 4 = .ok (.ireturn, 1) := by decide +kernel
theorem d_Head_textOf_0 : decode prog_5_method_5_code 0 = .ok (.iload_n 1, 1) := by decide +kernel
theorem d_Head_textOf_1 : decode prog_5_method_5_code 1 = .ok (.ifCond .lt 24, 3) := by decide +kernel
theorem d_Head_textOf_4 : decode prog_5_method_5_code 4 = .ok (.iload_n 1, 1) := by decide +kernel
theorem d_Head_textOf_5 : decode prog_5_method_5_code 5 = .ok (.aload_n 0, 1) := by decide +kernel
theorem d_Head_textOf_6 : decode prog_5_method_5_code 6 = .ok (.invokevirtual 30, 3) := by decide +kernel
theorem d_Head_textOf_9 : decode prog_5_method_5_code 9 = .ok (.if_icmp .ge 16, 3) := by decide +kernel
theorem d_Head_textOf_12 : decode prog_5_method_5_code 12 = .ok (.iload_n 2, 1) := by decide +kernel
theorem d_Head_textOf_13 : decode prog_5_method_5_code 13 = .ok (.ifCond .eq 8, 3) := by decide +kernel
theorem d_Head_textOf_16 : decode prog_5_method_5_code 16 = .ok (.iload_n 2, 1) := by decide +kernel
theorem d_Head_textOf_17 : decode prog_5_method_5_code 17 = .ok (.iconst 1, 1) := by decide +kernel
theorem d_Head_textOf_18 : decode prog_5_method_5_code 18 = .ok (.if_icmp .ne 7, 3) := by decide +kernel
theorem d_Head_textOf_21 : decode prog_5_method_5_code 21 = .ok (.iconst 1, 1) := by decide +kernel
theorem d_Head_textOf_22 : decode prog_5_method_5_code 22 = .ok (.goto 4, 3) := by decide +kernel
theorem d_Head_textOf_25 : decode prog_5_method_5_code 25 = .ok (.iconst 0, 1) := by decide +kernel
theorem d_Head_textOf_26 : decode prog_5_method_5_code 26 = .ok (.istore_n 3, 1) := by decide +kernel
theorem d_Head_textOf_27 : decode prog_5_method_5_code 27 = .ok (.iload_n 3, 1) := by decide +kernel
theorem d_Head_textOf_28 : decode prog_5_method_5_code 28 = .ok (.ifCond .eq 11, 3) := by decide +kernel
theorem d_Head_textOf_31 : decode prog_5_method_5_code 31 = .ok (.iconst 2, 1) := by decide +kernel
theorem d_Head_textOf_32 : decode prog_5_method_5_code 32 = .ok (.iload_n 1, 1) := by decide +kernel
theorem d_Head_textOf_33 : decode prog_5_method_5_code 33 = .ok (.imul, 1) := by decide +kernel
theorem d_Head_textOf_34 : decode prog_5_method_5_code 34 = .ok (.iload_n 2, 1) := by decide +kernel
theorem d_Head_textOf_35 : decode prog_5_method_5_code 35 = .ok (.iadd, 1) := by decide +kernel
theorem d_Head_textOf_36 : decode prog_5_method_5_code 36 = .ok (.goto 4, 3) := by decide +kernel
theorem d_Head_textOf_39 : decode prog_5_method_5_code 39 = .ok (.iconst (-1), 1) := by decide +kernel
theorem d_Head_textOf_40 : decode prog_5_method_5_code 40 = .ok (.ireturn, 1) := by decide +kernel
theorem d_Head_firstNamed_0 : decode prog_5_method_6_code 0 = .ok (.iconst 0, 1) := by decide +kernel
theorem d_Head_firstNamed_1 : decode prog_5_method_6_code 1 = .ok (.istore_n 2, 1) := by decide +kernel
theorem d_Head_firstNamed_2 : decode prog_5_method_6_code 2 = .ok (.iload_n 2, 1) := by decide +kernel
theorem d_Head_firstNamed_3 : decode prog_5_method_6_code 3 = .ok (.aload_n 0, 1) := by decide +kernel
theorem d_Head_firstNamed_4 : decode prog_5_method_6_code 4 = .ok (.invokevirtual 30, 3) := by decide +kernel
theorem d_Head_firstNamed_7 : decode prog_5_method_6_code 7 = .ok (.if_icmp .ge 25, 3) := by decide +kernel
theorem d_Head_firstNamed_10 : decode prog_5_method_6_code 10 = .ok (.aload_n 0, 1) := by decide +kernel
theorem d_Head_firstNamed_11 : decode prog_5_method_6_code 11 = .ok (.getfield 12, 3) := by decide +kernel
theorem d_Head_firstNamed_14 : decode prog_5_method_6_code 14 = .ok (.iconst 2, 1) := by decide +kernel
theorem d_Head_firstNamed_15 : decode prog_5_method_6_code 15 = .ok (.iload_n 2, 1) := by decide +kernel
theorem d_Head_firstNamed_16 : decode prog_5_method_6_code 16 = .ok (.imul, 1) := by decide +kernel
theorem d_Head_firstNamed_17 : decode prog_5_method_6_code 17 = .ok (.aload_n 1, 1) := by decide +kernel
theorem d_Head_firstNamed_18 : decode prog_5_method_6_code 18 = .ok (.invokevirtual 31, 3) := by decide +kernel
theorem d_Head_firstNamed_21 : decode prog_5_method_6_code 21 = .ok (.ifCond .eq 5, 3) := by decide +kernel
theorem d_Head_firstNamed_24 : decode prog_5_method_6_code 24 = .ok (.iload_n 2, 1) := by decide +kernel
theorem d_Head_firstNamed_25 : decode prog_5_method_6_code 25 = .ok (.ireturn, 1) := by decide +kernel
theorem d_Head_firstNamed_26 : decode prog_5_method_6_code 26 = .ok (.iinc 2 1, 3) := by decide +kernel
theorem d_Head_firstNamed_29 : decode prog_5_method_6_code 29 = .ok (.goto (-27), 3) := by decide +kernel
theorem d_Head_firstNamed_32 : decode prog_5_method_6_code 32 = .ok (.iconst (-1), 1) := by decide +kernel
theorem d_Head_firstNamed_33 : decode prog_5_method_6_code 33 = .ok (.ireturn, 1) := by decide +kernel
theorem d_Head_readLines_0 : decode prog_5_method_7_code 0 = .ok (.aload_n 0, 1) := by decide +kernel
theorem d_Head_readLines_1 : decode prog_5_method_7_code 1 = .ok (.getfield 12, 3) := by decide +kernel
theorem d_Head_readLines_4 : decode prog_5_method_7_code 4 = .ok (.invokevirtual 35, 3) := by decide +kernel
theorem d_Head_readLines_7 : decode prog_5_method_7_code 7 = .ok (.aload_n 0, 1) := by decide +kernel
theorem d_Head_readLines_8 : decode prog_5_method_7_code 8 = .ok (.iconst 0, 1) := by decide +kernel
theorem d_Head_readLines_9 : decode prog_5_method_7_code 9 = .ok (.putfield 18, 3) := by decide +kernel
theorem d_Head_readLines_12 : decode prog_5_method_7_code 12 = .ok (.aload_n 1, 1) := by decide +kernel
theorem d_Head_readLines_13 : decode prog_5_method_7_code 13 = .ok (.invokevirtual 38, 3) := by decide +kernel
theorem d_Head_readLines_16 : decode prog_5_method_7_code 16 = .ok (.istore_n 2, 1) := by decide +kernel
theorem d_Head_readLines_17 : decode prog_5_method_7_code 17 = .ok (.iconst 0, 1) := by decide +kernel
theorem d_Head_readLines_18 : decode prog_5_method_7_code 18 = .ok (.istore_n 3, 1) := by decide +kernel
theorem d_Head_readLines_19 : decode prog_5_method_7_code 19 = .ok (.iconst 0, 1) := by decide +kernel
theorem d_Head_readLines_20 : decode prog_5_method_7_code 20 = .ok (.istore 4, 2) := by decide +kernel
theorem d_Head_readLines_22 : decode prog_5_method_7_code 22 = .ok (.iload 4, 2) := by decide +kernel
theorem d_Head_readLines_24 : decode prog_5_method_7_code 24 = .ok (.iload_n 2, 1) := by decide +kernel
theorem d_Head_readLines_25 : decode prog_5_method_7_code 25 = .ok (.if_icmp .ge 102, 3) := by decide +kernel
theorem d_Head_readLines_28 : decode prog_5_method_7_code 28 = .ok (.aload_n 1, 1) := by decide +kernel
theorem d_Head_readLines_29 : decode prog_5_method_7_code 29 = .ok (.iload 4, 2) := by decide +kernel
theorem d_Head_readLines_31 : decode prog_5_method_7_code 31 = .ok (.invokevirtual 43, 3) := by decide +kernel
theorem d_Head_readLines_34 : decode prog_5_method_7_code 34 = .ok (.bipush 10, 2) := by decide +kernel
theorem d_Head_readLines_36 : decode prog_5_method_7_code 36 = .ok (.if_icmp .ne 7, 3) := by decide +kernel
theorem d_Head_readLines_39 : decode prog_5_method_7_code 39 = .ok (.iconst 1, 1) := by decide +kernel
theorem d_Head_readLines_40 : decode prog_5_method_7_code 40 = .ok (.goto 4, 3) := by decide +kernel
theorem d_Head_readLines_43 : decode prog_5_method_7_code 43 = .ok (.iconst 0, 1) := by decide +kernel
theorem d_Head_readLines_44 : decode prog_5_method_7_code 44 = .ok (.istore 5, 2) := by decide +kernel
theorem d_Head_readLines_46 : decode prog_5_method_7_code 46 = .ok (.iload 5, 2) := by decide +kernel
theorem d_Head_readLines_48 : decode prog_5_method_7_code 48 = .ok (.ifCond .ne 14, 3) := by decide +kernel
theorem d_Head_readLines_51 : decode prog_5_method_7_code 51 = .ok (.iload 4, 2) := by decide +kernel
theorem d_Head_readLines_53 : decode prog_5_method_7_code 53 = .ok (.iconst 1, 1) := by decide +kernel
theorem d_Head_readLines_54 : decode prog_5_method_7_code 54 = .ok (.iadd, 1) := by decide +kernel
theorem d_Head_readLines_55 : decode prog_5_method_7_code 55 = .ok (.iload_n 2, 1) := by decide +kernel
theorem d_Head_readLines_56 : decode prog_5_method_7_code 56 = .ok (.if_icmp .ge 6, 3) := by decide +kernel
theorem d_Head_readLines_59 : decode prog_5_method_7_code 59 = .ok (.goto 62, 3) := by decide +kernel
theorem d_Head_readLines_62 : decode prog_5_method_7_code 62 = .ok (.iload 5, 2) := by decide +kernel
theorem d_Head_readLines_64 : decode prog_5_method_7_code 64 = .ok (.ifCond .eq 8, 3) := by decide +kernel
theorem d_Head_readLines_67 : decode prog_5_method_7_code 67 = .ok (.iload 4, 2) := by decide +kernel
theorem d_Head_readLines_69 : decode prog_5_method_7_code 69 = .ok (.goto 4, 3) := by decide +kernel
theorem d_Head_readLines_72 : decode prog_5_method_7_code 72 = .ok (.iload_n 2, 1) := by decide +kernel
theorem d_Head_readLines_73 : decode prog_5_method_7_code 73 = .ok (.istore 6, 2) := by decide +kernel
theorem d_Head_readLines_75 : decode prog_5_method_7_code 75 = .ok (.iload 5, 2) := by decide +kernel
theorem d_Head_readLines_77 : decode prog_5_method_7_code 77 = .ok (.ifCond .eq 25, 3) := by decide +kernel
theorem d_Head_readLines_80 : decode prog_5_method_7_code 80 = .ok (.iload 6, 2) := by decide +kernel
theorem d_Head_readLines_82 : decode prog_5_method_7_code 82 = .ok (.iload_n 3, 1) := by decide +kernel
theorem d_Head_readLines_83 : decode prog_5_method_7_code 83 = .ok (.if_icmp .le 19, 3) := by decide +kernel
theorem d_Head_readLines_86 : decode prog_5_method_7_code 86 = .ok (.aload_n 1, 1) := by decide +kernel
theorem d_Head_readLines_87 : decode prog_5_method_7_code 87 = .ok (.iload 6, 2) := by decide +kernel
theorem d_Head_readLines_89 : decode prog_5_method_7_code 89 = .ok (.iconst 1, 1) := by decide +kernel
theorem d_Head_readLines_90 : decode prog_5_method_7_code 90 = .ok (.isub, 1) := by decide +kernel
theorem d_Head_readLines_91 : decode prog_5_method_7_code 91 = .ok (.invokevirtual 43, 3) := by decide +kernel
theorem d_Head_readLines_94 : decode prog_5_method_7_code 94 = .ok (.bipush 13, 2) := by decide +kernel
theorem d_Head_readLines_96 : decode prog_5_method_7_code 96 = .ok (.if_icmp .ne 6, 3) := by decide +kernel
theorem d_Head_readLines_99 : decode prog_5_method_7_code 99 = .ok (.iinc 6 (-1), 3) := by decide +kernel
theorem d_Head_readLines_102 : decode prog_5_method_7_code 102 = .ok (.aload_n 0, 1) := by decide +kernel
theorem d_Head_readLines_103 : decode prog_5_method_7_code 103 = .ok (.aload_n 1, 1) := by decide +kernel
theorem d_Head_readLines_104 : decode prog_5_method_7_code 104 = .ok (.iload_n 3, 1) := by decide +kernel
theorem d_Head_readLines_105 : decode prog_5_method_7_code 105 = .ok (.iload 6, 2) := by decide +kernel
theorem d_Head_readLines_107 : decode prog_5_method_7_code 107 = .ok (.invokevirtual 47, 3) := by decide +kernel
theorem d_Head_readLines_110 : decode prog_5_method_7_code 110 = .ok (.ifCond .ne 6, 3) := by decide +kernel
theorem d_Head_readLines_113 : decode prog_5_method_7_code 113 = .ok (.goto 14, 3) := by decide +kernel
theorem d_Head_readLines_116 : decode prog_5_method_7_code 116 = .ok (.iload 4, 2) := by decide +kernel
theorem d_Head_readLines_118 : decode prog_5_method_7_code 118 = .ok (.iconst 1, 1) := by decide +kernel
theorem d_Head_readLines_119 : decode prog_5_method_7_code 119 = .ok (.iadd, 1) := by decide +kernel
theorem d_Head_readLines_120 : decode prog_5_method_7_code 120 = .ok (.istore_n 3, 1) := by decide +kernel
theorem d_Head_readLines_121 : decode prog_5_method_7_code 121 = .ok (.iinc 4 1, 3) := by decide +kernel
theorem d_Head_readLines_124 : decode prog_5_method_7_code 124 = .ok (.goto (-102), 3) := by decide +kernel
theorem d_Head_readLines_127 : decode prog_5_method_7_code 127 = .ok (.aload_n 0, 1) := by decide +kernel
theorem d_Head_readLines_128 : decode prog_5_method_7_code 128 = .ok (.invokevirtual 51, 3) := by decide +kernel
theorem d_Head_readLines_131 : decode prog_5_method_7_code 131 = .ok (.return_, 1) := by decide +kernel
theorem d_Words_init_0 : decode prog_9_method_1_code 0 = .ok (.aload_n 0, 1) := by decide +kernel
theorem d_Words_init_1 : decode prog_9_method_1_code 1 = .ok (.invokespecial 3, 3) := by decide +kernel
theorem d_Words_init_4 : decode prog_9_method_1_code 4 = .ok (.aload_n 0, 1) := by decide +kernel
theorem d_Words_init_5 : decode prog_9_method_1_code 5 = .ok (.new 9, 3) := by decide +kernel
theorem d_Words_init_8 : decode prog_9_method_1_code 8 = .ok (.dup, 1) := by decide +kernel
theorem d_Words_init_9 : decode prog_9_method_1_code 9 = .ok (.invokespecial 11, 3) := by decide +kernel
theorem d_Words_init_12 : decode prog_9_method_1_code 12 = .ok (.putfield 12, 3) := by decide +kernel
theorem d_Words_init_15 : decode prog_9_method_1_code 15 = .ok (.aload_n 0, 1) := by decide +kernel
theorem d_Words_init_16 : decode prog_9_method_1_code 16 = .ok (.new 18, 3) := by decide +kernel
theorem d_Words_init_19 : decode prog_9_method_1_code 19 = .ok (.dup, 1) := by decide +kernel
theorem d_Words_init_20 : decode prog_9_method_1_code 20 = .ok (.invokespecial 20, 3) := by decide +kernel
theorem d_Words_init_23 : decode prog_9_method_1_code 23 = .ok (.putfield 21, 3) := by decide +kernel
theorem d_Words_init_26 : decode prog_9_method_1_code 26 = .ok (.aload_n 0, 1) := by decide +kernel
theorem d_Words_init_27 : decode prog_9_method_1_code 27 = .ok (.aload_n 0, 1) := by decide +kernel
theorem d_Words_init_28 : decode prog_9_method_1_code 28 = .ok (.getfield 12, 3) := by decide +kernel
theorem d_Words_init_31 : decode prog_9_method_1_code 31 = .ok (.putfield 25, 3) := by decide +kernel
theorem d_Words_init_34 : decode prog_9_method_1_code 34 = .ok (.aload_n 0, 1) := by decide +kernel
theorem d_Words_init_35 : decode prog_9_method_1_code 35 = .ok (.iconst (-1), 1) := by decide +kernel
theorem d_Words_init_36 : decode prog_9_method_1_code 36 = .ok (.putfield 28, 3) := by decide +kernel
theorem d_Words_init_39 : decode prog_9_method_1_code 39 = .ok (.aload_n 0, 1) := by decide +kernel
theorem d_Words_init_40 : decode prog_9_method_1_code 40 = .ok (.ldc 32, 2) := by decide +kernel
theorem d_Words_init_42 : decode prog_9_method_1_code 42 = .ok (.putfield 34, 3) := by decide +kernel
theorem d_Words_init_45 : decode prog_9_method_1_code 45 = .ok (.return_, 1) := by decide +kernel
theorem d_Addresses_init_0 : decode prog_2_method_1_code 0 = .ok (.aload_n 0, 1) := by decide +kernel
theorem d_Addresses_init_1 : decode prog_2_method_1_code 1 = .ok (.invokespecial 3, 3) := by decide +kernel
theorem d_Addresses_init_4 : decode prog_2_method_1_code 4 = .ok (.aload_n 0, 1) := by decide +kernel
theorem d_Addresses_init_5 : decode prog_2_method_1_code 5 = .ok (.aload_n 1, 1) := by decide +kernel
theorem d_Addresses_init_6 : decode prog_2_method_1_code 6 = .ok (.putfield 9, 3) := by decide +kernel
theorem d_Addresses_init_9 : decode prog_2_method_1_code 9 = .ok (.aload_n 0, 1) := by decide +kernel
theorem d_Addresses_init_10 : decode prog_2_method_1_code 10 = .ok (.new 15, 3) := by decide +kernel
theorem d_Addresses_init_13 : decode prog_2_method_1_code 13 = .ok (.dup, 1) := by decide +kernel
theorem d_Addresses_init_14 : decode prog_2_method_1_code 14 = .ok (.invokespecial 17, 3) := by decide +kernel
theorem d_Addresses_init_17 : decode prog_2_method_1_code 17 = .ok (.putfield 18, 3) := by decide +kernel
theorem d_Addresses_init_20 : decode prog_2_method_1_code 20 = .ok (.aload_n 0, 1) := by decide +kernel
theorem d_Addresses_init_21 : decode prog_2_method_1_code 21 = .ok (.new 22, 3) := by decide +kernel
theorem d_Addresses_init_24 : decode prog_2_method_1_code 24 = .ok (.dup, 1) := by decide +kernel
theorem d_Addresses_init_25 : decode prog_2_method_1_code 25 = .ok (.invokespecial 24, 3) := by decide +kernel
theorem d_Addresses_init_28 : decode prog_2_method_1_code 28 = .ok (.putfield 25, 3) := by decide +kernel
theorem d_Addresses_init_31 : decode prog_2_method_1_code 31 = .ok (.aload_n 0, 1) := by decide +kernel
theorem d_Addresses_init_32 : decode prog_2_method_1_code 32 = .ok (.new 15, 3) := by decide +kernel
theorem d_Addresses_init_35 : decode prog_2_method_1_code 35 = .ok (.dup, 1) := by decide +kernel
theorem d_Addresses_init_36 : decode prog_2_method_1_code 36 = .ok (.invokespecial 17, 3) := by decide +kernel
theorem d_Addresses_init_39 : decode prog_2_method_1_code 39 = .ok (.putfield 29, 3) := by decide +kernel
theorem d_Addresses_init_42 : decode prog_2_method_1_code 42 = .ok (.aload_n 0, 1) := by decide +kernel
theorem d_Addresses_init_43 : decode prog_2_method_1_code 43 = .ok (.new 22, 3) := by decide +kernel
theorem d_Addresses_init_46 : decode prog_2_method_1_code 46 = .ok (.dup, 1) := by decide +kernel
theorem d_Addresses_init_47 : decode prog_2_method_1_code 47 = .ok (.invokespecial 24, 3) := by decide +kernel
theorem d_Addresses_init_50 : decode prog_2_method_1_code 50 = .ok (.putfield 32, 3) := by decide +kernel
theorem d_Addresses_init_53 : decode prog_2_method_1_code 53 = .ok (.aload_n 0, 1) := by decide +kernel
theorem d_Addresses_init_54 : decode prog_2_method_1_code 54 = .ok (.iconst 0, 1) := by decide +kernel
theorem d_Addresses_init_55 : decode prog_2_method_1_code 55 = .ok (.putfield 35, 3) := by decide +kernel
theorem d_Addresses_init_58 : decode prog_2_method_1_code 58 = .ok (.aload_n 0, 1) := by decide +kernel
theorem d_Addresses_init_59 : decode prog_2_method_1_code 59 = .ok (.iconst (-1), 1) := by decide +kernel
theorem d_Addresses_init_60 : decode prog_2_method_1_code 60 = .ok (.putfield 39, 3) := by decide +kernel
theorem d_Addresses_init_63 : decode prog_2_method_1_code 63 = .ok (.aload_n 0, 1) := by decide +kernel
theorem d_Addresses_init_64 : decode prog_2_method_1_code 64 = .ok (.iconst (-1), 1) := by decide +kernel
theorem d_Addresses_init_65 : decode prog_2_method_1_code 65 = .ok (.putfield 42, 3) := by decide +kernel
theorem d_Addresses_init_68 : decode prog_2_method_1_code 68 = .ok (.return_, 1) := by decide +kernel
theorem d_Addresses_texts_0 : decode prog_2_method_2_code 0 = .ok (.aload_n 0, 1) := by decide +kernel
theorem d_Addresses_texts_1 : decode prog_2_method_2_code 1 = .ok (.getfield 18, 3) := by decide +kernel
theorem d_Addresses_texts_4 : decode prog_2_method_2_code 4 = .ok (.areturn, 1) := by decide +kernel
theorem d_Addresses_groupNames_0 : decode prog_2_method_3_code 0 = .ok (.aload_n 0, 1) := by decide +kernel
theorem d_Addresses_groupNames_1 : decode prog_2_method_3_code 1 = .ok (.getfield 29, 3) := by decide +kernel
theorem d_Addresses_groupNames_4 : decode prog_2_method_3_code 4 = .ok (.areturn, 1) := by decide +kernel
theorem d_Addresses_count_0 : decode prog_2_method_4_code 0 = .ok (.aload_n 0, 1) := by decide +kernel
theorem d_Addresses_count_1 : decode prog_2_method_4_code 1 = .ok (.getfield 25, 3) := by decide +kernel
theorem d_Addresses_count_4 : decode prog_2_method_4_code 4 = .ok (.invokevirtual 45, 3) := by decide +kernel
theorem d_Addresses_count_7 : decode prog_2_method_4_code 7 = .ok (.ireturn, 1) := by decide +kernel
theorem d_Addresses_badOnes_0 : decode prog_2_method_5_code 0 = .ok (.aload_n 0, 1) := by decide +kernel
theorem d_Addresses_badOnes_1 : decode prog_2_method_5_code 1 = .ok (.getfield 35, 3) := by decide +kernel
theorem d_Addresses_badOnes_4 : decode prog_2_method_5_code 4 = .ok (.ireturn, 1) := by decide +kernel
theorem d_Addresses_groupOf_0 : decode prog_2_method_6_code 0 = .ok (.aload_n 0, 1) := by decide +kernel
theorem d_Addresses_groupOf_1 : decode prog_2_method_6_code 1 = .ok (.getfield 25, 3) := by decide +kernel
theorem d_Addresses_groupOf_4 : decode prog_2_method_6_code 4 = .ok (.iload_n 1, 1) := by decide +kernel
theorem d_Addresses_groupOf_5 : decode prog_2_method_6_code 5 = .ok (.invokevirtual 49, 3) := by decide +kernel
theorem d_Addresses_groupOf_8 : decode prog_2_method_6_code 8 = .ok (.ireturn, 1) := by decide +kernel
theorem d_Addresses_textOf_0 : decode prog_2_method_7_code 0 = .ok (.iload_n 1, 1) := by decide +kernel
theorem d_Addresses_textOf_1 : decode prog_2_method_7_code 1 = .ok (.ifCond .lt 19, 3) := by decide +kernel
theorem d_Addresses_textOf_4 : decode prog_2_method_7_code 4 = .ok (.iload_n 1, 1) := by decide +kernel
theorem d_Addresses_textOf_5 : decode prog_2_method_7_code 5 = .ok (.aload_n 0, 1) := by decide +kernel
theorem d_Addresses_textOf_6 : decode prog_2_method_7_code 6 = .ok (.invokevirtual 53, 3) := by decide +kernel
theorem d_Addresses_textOf_9 : decode prog_2_method_7_code 9 = .ok (.if_icmp .ge 11, 3) := by decide +kernel
theorem d_Addresses_textOf_12 : decode prog_2_method_7_code 12 = .ok (.iconst 3, 1) := by decide +kernel
theorem d_Addresses_textOf_13 : decode prog_2_method_7_code 13 = .ok (.iload_n 1, 1) := by decide +kernel
theorem d_Addresses_textOf_14 : decode prog_2_method_7_code 14 = .ok (.imul, 1) := by decide +kernel
theorem d_Addresses_textOf_15 : decode prog_2_method_7_code 15 = .ok (.iload_n 2, 1) := by decide +kernel
theorem d_Addresses_textOf_16 : decode prog_2_method_7_code 16 = .ok (.iadd, 1) := by decide +kernel
theorem d_Addresses_textOf_17 : decode prog_2_method_7_code 17 = .ok (.goto 4, 3) := by decide +kernel
theorem d_Addresses_textOf_20 : decode prog_2_method_7_code 20 = .ok (.iconst (-1), 1) := by decide +kernel
theorem d_Addresses_textOf_21 : decode prog_2_method_7_code 21 = .ok (.ireturn, 1) := by decide +kernel
theorem d_Identities_init_0 : decode prog_6_method_1_code 0 = .ok (.aload_n 0, 1) := by decide +kernel
theorem d_Identities_init_1 : decode prog_6_method_1_code 1 = .ok (.invokespecial 3, 3) := by decide +kernel
theorem d_Identities_init_4 : decode prog_6_method_1_code 4 = .ok (.aload_n 0, 1) := by decide +kernel
theorem d_Identities_init_5 : decode prog_6_method_1_code 5 = .ok (.new 9, 3) := by decide +kernel
theorem d_Identities_init_8 : decode prog_6_method_1_code 8 = .ok (.dup, 1) := by decide +kernel
theorem d_Identities_init_9 : decode prog_6_method_1_code 9 = .ok (.invokespecial 11, 3) := by decide +kernel
theorem d_Identities_init_12 : decode prog_6_method_1_code 12 = .ok (.putfield 12, 3) := by decide +kernel
theorem d_Identities_init_15 : decode prog_6_method_1_code 15 = .ok (.return_, 1) := by decide +kernel
theorem d_Identities_texts_0 : decode prog_6_method_2_code 0 = .ok (.aload_n 0, 1) := by decide +kernel
theorem d_Identities_texts_1 : decode prog_6_method_2_code 1 = .ok (.getfield 12, 3) := by decide +kernel
theorem d_Identities_texts_4 : decode prog_6_method_2_code 4 = .ok (.areturn, 1) := by decide +kernel
theorem d_DateReader_init_0 : decode prog_4_method_1_code 0 = .ok (.aload_n 0, 1) := by decide +kernel
theorem d_DateReader_init_1 : decode prog_4_method_1_code 1 = .ok (.invokespecial 5, 3) := by decide +kernel
theorem d_DateReader_init_4 : decode prog_4_method_1_code 4 = .ok (.aload_n 0, 1) := by decide +kernel
theorem d_DateReader_init_5 : decode prog_4_method_1_code 5 = .ok (.aload_n 1, 1) := by decide +kernel
theorem d_DateReader_init_6 : decode prog_4_method_1_code 6 = .ok (.putfield 11, 3) := by decide +kernel
theorem d_DateReader_init_9 : decode prog_4_method_1_code 9 = .ok (.aload_n 0, 1) := by decide +kernel
theorem d_DateReader_init_10 : decode prog_4_method_1_code 10 = .ok (.iconst 0, 1) := by decide +kernel
theorem d_DateReader_init_11 : decode prog_4_method_1_code 11 = .ok (.putfield 17, 3) := by decide +kernel
theorem d_DateReader_init_14 : decode prog_4_method_1_code 14 = .ok (.return_, 1) := by decide +kernel
theorem d_ContentType_init_0 : decode prog_3_method_1_code 0 = .ok (.aload_n 0, 1) := by decide +kernel
theorem d_ContentType_init_1 : decode prog_3_method_1_code 1 = .ok (.invokespecial 3, 3) := by decide +kernel
theorem d_ContentType_init_4 : decode prog_3_method_1_code 4 = .ok (.aload_n 0, 1) := by decide +kernel
theorem d_ContentType_init_5 : decode prog_3_method_1_code 5 = .ok (.aload_n 1, 1) := by decide +kernel
theorem d_ContentType_init_6 : decode prog_3_method_1_code 6 = .ok (.putfield 9, 3) := by decide +kernel
theorem d_ContentType_init_9 : decode prog_3_method_1_code 9 = .ok (.aload_n 0, 1) := by decide +kernel
theorem d_ContentType_init_10 : decode prog_3_method_1_code 10 = .ok (.new 15, 3) := by decide +kernel
theorem d_ContentType_init_13 : decode prog_3_method_1_code 13 = .ok (.dup, 1) := by decide +kernel
theorem d_ContentType_init_14 : decode prog_3_method_1_code 14 = .ok (.invokespecial 17, 3) := by decide +kernel
theorem d_ContentType_init_17 : decode prog_3_method_1_code 17 = .ok (.putfield 18, 3) := by decide +kernel
theorem d_ContentType_init_20 : decode prog_3_method_1_code 20 = .ok (.aload_n 0, 1) := by decide +kernel
theorem d_ContentType_init_21 : decode prog_3_method_1_code 21 = .ok (.new 15, 3) := by decide +kernel
theorem d_ContentType_init_24 : decode prog_3_method_1_code 24 = .ok (.dup, 1) := by decide +kernel
theorem d_ContentType_init_25 : decode prog_3_method_1_code 25 = .ok (.invokespecial 17, 3) := by decide +kernel
theorem d_ContentType_init_28 : decode prog_3_method_1_code 28 = .ok (.putfield 22, 3) := by decide +kernel
theorem d_ContentType_init_31 : decode prog_3_method_1_code 31 = .ok (.aload_n 0, 1) := by decide +kernel
theorem d_ContentType_init_32 : decode prog_3_method_1_code 32 = .ok (.new 15, 3) := by decide +kernel
theorem d_ContentType_init_35 : decode prog_3_method_1_code 35 = .ok (.dup, 1) := by decide +kernel
theorem d_ContentType_init_36 : decode prog_3_method_1_code 36 = .ok (.invokespecial 17, 3) := by decide +kernel
theorem d_ContentType_init_39 : decode prog_3_method_1_code 39 = .ok (.putfield 25, 3) := by decide +kernel
theorem d_ContentType_init_42 : decode prog_3_method_1_code 42 = .ok (.aload_n 0, 1) := by decide +kernel
theorem d_ContentType_init_43 : decode prog_3_method_1_code 43 = .ok (.new 28, 3) := by decide +kernel
theorem d_ContentType_init_46 : decode prog_3_method_1_code 46 = .ok (.dup, 1) := by decide +kernel
theorem d_ContentType_init_47 : decode prog_3_method_1_code 47 = .ok (.invokespecial 30, 3) := by decide +kernel
theorem d_ContentType_init_50 : decode prog_3_method_1_code 50 = .ok (.putfield 31, 3) := by decide +kernel
theorem d_ContentType_init_53 : decode prog_3_method_1_code 53 = .ok (.aload_n 0, 1) := by decide +kernel
theorem d_ContentType_init_54 : decode prog_3_method_1_code 54 = .ok (.new 28, 3) := by decide +kernel
theorem d_ContentType_init_57 : decode prog_3_method_1_code 57 = .ok (.dup, 1) := by decide +kernel
theorem d_ContentType_init_58 : decode prog_3_method_1_code 58 = .ok (.invokespecial 30, 3) := by decide +kernel
theorem d_ContentType_init_61 : decode prog_3_method_1_code 61 = .ok (.putfield 35, 3) := by decide +kernel
theorem d_ContentType_init_64 : decode prog_3_method_1_code 64 = .ok (.aload_n 0, 1) := by decide +kernel
theorem d_ContentType_init_65 : decode prog_3_method_1_code 65 = .ok (.new 15, 3) := by decide +kernel
theorem d_ContentType_init_68 : decode prog_3_method_1_code 68 = .ok (.dup, 1) := by decide +kernel
theorem d_ContentType_init_69 : decode prog_3_method_1_code 69 = .ok (.invokespecial 17, 3) := by decide +kernel
theorem d_ContentType_init_72 : decode prog_3_method_1_code 72 = .ok (.putfield 38, 3) := by decide +kernel
theorem d_ContentType_init_75 : decode prog_3_method_1_code 75 = .ok (.return_, 1) := by decide +kernel
theorem d_ContentType_parts_0 : decode prog_3_method_2_code 0 = .ok (.aload_n 0, 1) := by decide +kernel
theorem d_ContentType_parts_1 : decode prog_3_method_2_code 1 = .ok (.getfield 18, 3) := by decide +kernel
theorem d_ContentType_parts_4 : decode prog_3_method_2_code 4 = .ok (.areturn, 1) := by decide +kernel
theorem d_ContentType_takeInHand_0 : decode prog_3_method_6_code 0 = .ok (.aload_n 0, 1) := by decide +kernel
theorem d_ContentType_takeInHand_1 : decode prog_3_method_6_code 1 = .ok (.getfield 38, 3) := by decide +kernel
theorem d_ContentType_takeInHand_4 : decode prog_3_method_6_code 4 = .ok (.invokevirtual 41, 3) := by decide +kernel
theorem d_ContentType_takeInHand_7 : decode prog_3_method_6_code 7 = .ok (.aload_n 0, 1) := by decide +kernel
theorem d_ContentType_takeInHand_8 : decode prog_3_method_6_code 8 = .ok (.aload_n 1, 1) := by decide +kernel
theorem d_ContentType_takeInHand_9 : decode prog_3_method_6_code 9 = .ok (.iconst (-1), 1) := by decide +kernel
theorem d_ContentType_takeInHand_10 : decode prog_3_method_6_code 10 = .ok (.invokevirtual 96, 3) := by decide +kernel
theorem d_ContentType_takeInHand_13 : decode prog_3_method_6_code 13 = .ok (.istore_n 2, 1) := by decide +kernel
theorem d_ContentType_takeInHand_14 : decode prog_3_method_6_code 14 = .ok (.iload_n 2, 1) := by decide +kernel
theorem d_ContentType_takeInHand_15 : decode prog_3_method_6_code 15 = .ok (.iconst (-1), 1) := by decide +kernel
theorem d_ContentType_takeInHand_16 : decode prog_3_method_6_code 16 = .ok (.if_icmp .ne 7, 3) := by decide +kernel
theorem d_ContentType_takeInHand_19 : decode prog_3_method_6_code 19 = .ok (.iconst 1, 1) := by decide +kernel
theorem d_ContentType_takeInHand_20 : decode prog_3_method_6_code 20 = .ok (.goto 4, 3) := by decide +kernel
theorem d_ContentType_takeInHand_23 : decode prog_3_method_6_code 23 = .ok (.iconst 0, 1) := by decide +kernel
theorem d_ContentType_takeInHand_24 : decode prog_3_method_6_code 24 = .ok (.istore_n 3, 1) := by decide +kernel
theorem d_ContentType_takeInHand_25 : decode prog_3_method_6_code 25 = .ok (.iload_n 3, 1) := by decide +kernel
theorem d_ContentType_takeInHand_26 : decode prog_3_method_6_code 26 = .ok (.ifCond .eq 10, 3) := by decide +kernel
theorem d_ContentType_takeInHand_29 : decode prog_3_method_6_code 29 = .ok (.aload_n 0, 1) := by decide +kernel
theorem d_ContentType_takeInHand_30 : decode prog_3_method_6_code 30 = .ok (.aload_n 1, 1) := by decide +kernel
theorem d_ContentType_takeInHand_31 : decode prog_3_method_6_code 31 = .ok (.iconst 0, 1) := by decide +kernel
theorem d_ContentType_takeInHand_32 : decode prog_3_method_6_code 32 = .ok (.invokevirtual 96, 3) := by decide +kernel
theorem d_ContentType_takeInHand_35 : decode prog_3_method_6_code 35 = .ok (.istore_n 2, 1) := by decide +kernel
theorem d_ContentType_takeInHand_36 : decode prog_3_method_6_code 36 = .ok (.iload_n 2, 1) := by decide +kernel
theorem d_ContentType_takeInHand_37 : decode prog_3_method_6_code 37 = .ok (.iconst (-1), 1) := by decide +kernel
theorem d_ContentType_takeInHand_38 : decode prog_3_method_6_code 38 = .ok (.if_icmp .ne 5, 3) := by decide +kernel
theorem d_ContentType_takeInHand_41 : decode prog_3_method_6_code 41 = .ok (.iconst (-1), 1) := by decide +kernel
theorem d_ContentType_takeInHand_42 : decode prog_3_method_6_code 42 = .ok (.ireturn, 1) := by decide +kernel
theorem d_ContentType_takeInHand_43 : decode prog_3_method_6_code 43 = .ok (.aload_n 0, 1) := by decide +kernel
theorem d_ContentType_takeInHand_44 : decode prog_3_method_6_code 44 = .ok (.iload_n 2, 1) := by decide +kernel
theorem d_ContentType_takeInHand_45 : decode prog_3_method_6_code 45 = .ok (.aload_n 0, 1) := by decide +kernel
theorem d_ContentType_takeInHand_46 : decode prog_3_method_6_code 46 = .ok (.iload_n 2, 1) := by decide +kernel
theorem d_ContentType_takeInHand_47 : decode prog_3_method_6_code 47 = .ok (.invokevirtual 100, 3) := by decide +kernel
theorem d_ContentType_takeInHand_50 : decode prog_3_method_6_code 50 = .ok (.invokevirtual 103, 3) := by decide +kernel
theorem d_ContentType_takeInHand_53 : decode prog_3_method_6_code 53 = .ok (.iconst 1, 1) := by decide +kernel
theorem d_ContentType_takeInHand_54 : decode prog_3_method_6_code 54 = .ok (.istore 4, 2) := by decide +kernel
theorem d_ContentType_takeInHand_56 : decode prog_3_method_6_code 56 = .ok (.iload_n 3, 1) := by decide +kernel
theorem d_ContentType_takeInHand_57 : decode prog_3_method_6_code 57 = .ok (.ifCond .eq 41, 3) := by decide +kernel
theorem d_ContentType_takeInHand_60 : decode prog_3_method_6_code 60 = .ok (.iload 4, 2) := by decide +kernel
theorem d_ContentType_takeInHand_62 : decode prog_3_method_6_code 62 = .ok (.bipush 9, 2) := by decide +kernel
theorem d_ContentType_takeInHand_64 : decode prog_3_method_6_code 64 = .ok (.if_icmp .gt 34, 3) := by decide +kernel
theorem d_ContentType_takeInHand_67 : decode prog_3_method_6_code 67 = .ok (.aload_n 0, 1) := by decide +kernel
theorem d_ContentType_takeInHand_68 : decode prog_3_method_6_code 68 = .ok (.aload_n 1, 1) := by decide +kernel
theorem d_ContentType_takeInHand_69 : decode prog_3_method_6_code 69 = .ok (.iload 4, 2) := by decide +kernel
theorem d_ContentType_takeInHand_71 : decode prog_3_method_6_code 71 = .ok (.invokevirtual 96, 3) := by decide +kernel
theorem d_ContentType_takeInHand_74 : decode prog_3_method_6_code 74 = .ok (.istore 5, 2) := by decide +kernel
theorem d_ContentType_takeInHand_76 : decode prog_3_method_6_code 76 = .ok (.iload 5, 2) := by decide +kernel
theorem d_ContentType_takeInHand_78 : decode prog_3_method_6_code 78 = .ok (.iconst (-1), 1) := by decide +kernel
theorem d_ContentType_takeInHand_79 : decode prog_3_method_6_code 79 = .ok (.if_icmp .ne 6, 3) := by decide +kernel
theorem d_ContentType_takeInHand_82 : decode prog_3_method_6_code 82 = .ok (.goto 16, 3) := by decide +kernel
theorem d_ContentType_takeInHand_85 : decode prog_3_method_6_code 85 = .ok (.aload_n 0, 1) := by decide +kernel
theorem d_ContentType_takeInHand_86 : decode prog_3_method_6_code 86 = .ok (.iload 5, 2) := by decide +kernel
theorem d_ContentType_takeInHand_88 : decode prog_3_method_6_code 88 = .ok (.iconst 0, 1) := by decide +kernel
theorem d_ContentType_takeInHand_89 : decode prog_3_method_6_code 89 = .ok (.invokevirtual 103, 3) := by decide +kernel
theorem d_ContentType_takeInHand_92 : decode prog_3_method_6_code 92 = .ok (.iinc 4 1, 3) := by decide +kernel
theorem d_ContentType_takeInHand_95 : decode prog_3_method_6_code 95 = .ok (.goto (-39), 3) := by decide +kernel
theorem d_ContentType_takeInHand_98 : decode prog_3_method_6_code 98 = .ok (.aload_n 0, 1) := by decide +kernel
theorem d_ContentType_takeInHand_99 : decode prog_3_method_6_code 99 = .ok (.getfield 38, 3) := by decide +kernel
theorem d_ContentType_takeInHand_102 : decode prog_3_method_6_code 102 = .ok (.invokevirtual 79, 3) := by decide +kernel
theorem d_ContentType_takeInHand_105 : decode prog_3_method_6_code 105 = .ok (.aload_n 0, 1) := by decide +kernel
theorem d_ContentType_takeInHand_106 : decode prog_3_method_6_code 106 = .ok (.getfield 38, 3) := by decide +kernel
theorem d_ContentType_takeInHand_109 : decode prog_3_method_6_code 109 = .ok (.iconst 1, 1) := by decide +kernel
theorem d_ContentType_takeInHand_110 : decode prog_3_method_6_code 110 = .ok (.invokevirtual 72, 3) := by decide +kernel
theorem d_ContentType_takeInHand_113 : decode prog_3_method_6_code 113 = .ok (.ireturn, 1) := by decide +kernel
theorem d_ContentType_byteInHand_0 : decode prog_3_method_7_code 0 = .ok (.aload_n 0, 1) := by decide +kernel
theorem d_ContentType_byteInHand_1 : decode prog_3_method_7_code 1 = .ok (.getfield 38, 3) := by decide +kernel
theorem d_ContentType_byteInHand_4 : decode prog_3_method_7_code 4 = .ok (.iload_n 1, 1) := by decide +kernel
theorem d_ContentType_byteInHand_5 : decode prog_3_method_7_code 5 = .ok (.ifCond .eq 7, 3) := by decide +kernel
theorem d_ContentType_byteInHand_8 : decode prog_3_method_7_code 8 = .ok (.iconst 0, 1) := by decide +kernel
theorem d_ContentType_byteInHand_9 : decode prog_3_method_7_code 9 = .ok (.goto 4, 3) := by decide +kernel
theorem d_ContentType_byteInHand_12 : decode prog_3_method_7_code 12 = .ok (.iconst 1, 1) := by decide +kernel
theorem d_ContentType_byteInHand_13 : decode prog_3_method_7_code 13 = .ok (.iload_n 2, 1) := by decide +kernel
theorem d_ContentType_byteInHand_14 : decode prog_3_method_7_code 14 = .ok (.invokevirtual 82, 3) := by decide +kernel
theorem d_ContentType_byteInHand_17 : decode prog_3_method_7_code 17 = .ok (.ireturn, 1) := by decide +kernel
theorem d_ContentType_firstOf_0 : decode prog_3_method_8_code 0 = .ok (.iconst 0, 1) := by decide +kernel
theorem d_ContentType_firstOf_1 : decode prog_3_method_8_code 1 = .ok (.istore_n 3, 1) := by decide +kernel
theorem d_ContentType_firstOf_2 : decode prog_3_method_8_code 2 = .ok (.iload_n 3, 1) := by decide +kernel
theorem d_ContentType_firstOf_3 : decode prog_3_method_8_code 3 = .ok (.aload_n 0, 1) := by decide +kernel
theorem d_ContentType_firstOf_4 : decode prog_3_method_8_code 4 = .ok (.getfield 22, 3) := by decide +kernel
theorem d_ContentType_firstOf_7 : decode prog_3_method_8_code 7 = .ok (.invokevirtual 107, 3) := by decide +kernel
theorem d_ContentType_firstOf_10 : decode prog_3_method_8_code 10 = .ok (.if_icmp .ge 35, 3) := by decide +kernel
theorem d_ContentType_firstOf_13 : decode prog_3_method_8_code 13 = .ok (.aload_n 0, 1) := by decide +kernel
theorem d_ContentType_firstOf_14 : decode prog_3_method_8_code 14 = .ok (.getfield 31, 3) := by decide +kernel
theorem d_ContentType_firstOf_17 : decode prog_3_method_8_code 17 = .ok (.iload_n 3, 1) := by decide +kernel
theorem d_ContentType_firstOf_18 : decode prog_3_method_8_code 18 = .ok (.invokevirtual 54, 3) := by decide +kernel
theorem d_ContentType_firstOf_21 : decode prog_3_method_8_code 21 = .ok (.iload_n 2, 1) := by decide +kernel
theorem d_ContentType_firstOf_22 : decode prog_3_method_8_code 22 = .ok (.if_icmp .ne 17, 3) := by decide +kernel
theorem d_ContentType_firstOf_25 : decode prog_3_method_8_code 25 = .ok (.aload_n 0, 1) := by decide +kernel
theorem d_ContentType_firstOf_26 : decode prog_3_method_8_code 26 = .ok (.getfield 22, 3) := by decide +kernel
theorem d_ContentType_firstOf_29 : decode prog_3_method_8_code 29 = .ok (.iload_n 3, 1) := by decide +kernel
theorem d_ContentType_firstOf_30 : decode prog_3_method_8_code 30 = .ok (.aload_n 1, 1) := by decide +kernel
theorem d_ContentType_firstOf_31 : decode prog_3_method_8_code 31 = .ok (.invokevirtual 110, 3) := by decide +kernel
theorem d_ContentType_firstOf_34 : decode prog_3_method_8_code 34 = .ok (.ifCond .eq 5, 3) := by decide +kernel
theorem d_ContentType_firstOf_37 : decode prog_3_method_8_code 37 = .ok (.iload_n 3, 1) := by decide +kernel
theorem d_ContentType_firstOf_38 : decode prog_3_method_8_code 38 = .ok (.ireturn, 1) := by decide +kernel
theorem d_ContentType_firstOf_39 : decode prog_3_method_8_code 39 = .ok (.iinc 3 1, 3) := by decide +kernel
theorem d_ContentType_firstOf_42 : decode prog_3_method_8_code 42 = .ok (.goto (-40), 3) := by decide +kernel
theorem d_ContentType_firstOf_45 : decode prog_3_method_8_code 45 = .ok (.iconst (-1), 1) := by decide +kernel
theorem d_ContentType_firstOf_46 : decode prog_3_method_8_code 46 = .ok (.ireturn, 1) := by decide +kernel
theorem d_Arrays_copyOf_0 : decode prog_23_method_123_code 0 = .ok (.iload_n 1, 1) := by decide +kernel
theorem d_Arrays_copyOf_1 : decode prog_23_method_123_code 1 = .ok (.aload_n 0, 1) := by decide +kernel
theorem d_Arrays_copyOf_2 : decode prog_23_method_123_code 2 = .ok (.arraylength, 1) := by decide +kernel
theorem d_Arrays_copyOf_3 : decode prog_23_method_123_code 3 = .ok (.if_icmp .ne 11, 3) := by decide +kernel
theorem d_Arrays_copyOf_6 : decode prog_23_method_123_code 6 = .ok (.aload_n 0, 1) := by decide +kernel
theorem d_Arrays_copyOf_7 : decode prog_23_method_123_code 7 = .ok (.invokevirtual 316, 3) := by decide +kernel
theorem d_Arrays_copyOf_10 : decode prog_23_method_123_code 10 = .ok (.checkcast 317, 3) := by decide +kernel
theorem d_Arrays_copyOf_13 : decode prog_23_method_123_code 13 = .ok (.areturn, 1) := by decide +kernel
theorem d_Arrays_copyOf_14 : decode prog_23_method_123_code 14 = .ok (.iload_n 1, 1) := by decide +kernel
theorem d_Arrays_copyOf_15 : decode prog_23_method_123_code 15 = .ok (.newarray .int, 2) := by decide +kernel
theorem d_Arrays_copyOf_17 : decode prog_23_method_123_code 17 = .ok (.astore_n 2, 1) := by decide +kernel
theorem d_Arrays_copyOf_18 : decode prog_23_method_123_code 18 = .ok (.aload_n 0, 1) := by decide +kernel
theorem d_Arrays_copyOf_19 : decode prog_23_method_123_code 19 = .ok (.iconst 0, 1) := by decide +kernel
theorem d_Arrays_copyOf_20 : decode prog_23_method_123_code 20 = .ok (.aload_n 2, 1) := by decide +kernel
theorem d_Arrays_copyOf_21 : decode prog_23_method_123_code 21 = .ok (.iconst 0, 1) := by decide +kernel
theorem d_Arrays_copyOf_22 : decode prog_23_method_123_code 22 = .ok (.aload_n 0, 1) := by decide +kernel
theorem d_Arrays_copyOf_23 : decode prog_23_method_123_code 23 = .ok (.arraylength, 1) := by decide +kernel
theorem d_Arrays_copyOf_24 : decode prog_23_method_123_code 24 = .ok (.iload_n 1, 1) := by decide +kernel
theorem d_Arrays_copyOf_25 : decode prog_23_method_123_code 25 = .ok (.invokestatic 304, 3) := by decide +kernel
theorem d_Arrays_copyOf_28 : decode prog_23_method_123_code 28 = .ok (.invokestatic 150, 3) := by decide +kernel
theorem d_Arrays_copyOf_31 : decode prog_23_method_123_code 31 = .ok (.aload_n 2, 1) := by decide +kernel
theorem d_Arrays_copyOf_32 : decode prog_23_method_123_code 32 = .ok (.areturn, 1) := by decide +kernel
theorem d_Arrays_fill_0 : decode prog_23_method_103_code 0 = .ok (.iconst 0, 1) := by decide +kernel
theorem d_Arrays_fill_1 : decode prog_23_method_103_code 1 = .ok (.istore_n 2, 1) := by decide +kernel
theorem d_Arrays_fill_2 : decode prog_23_method_103_code 2 = .ok (.aload_n 0, 1) := by decide +kernel
theorem d_Arrays_fill_3 : decode prog_23_method_103_code 3 = .ok (.arraylength, 1) := by decide +kernel
theorem d_Arrays_fill_4 : decode prog_23_method_103_code 4 = .ok (.istore_n 3, 1) := by decide +kernel
theorem d_Arrays_fill_5 : decode prog_23_method_103_code 5 = .ok (.iload_n 2, 1) := by decide +kernel
theorem d_Arrays_fill_6 : decode prog_23_method_103_code 6 = .ok (.iload_n 3, 1) := by decide +kernel
theorem d_Arrays_fill_7 : decode prog_23_method_103_code 7 = .ok (.if_icmp .ge 13, 3) := by decide +kernel
theorem d_Arrays_fill_10 : decode prog_23_method_103_code 10 = .ok (.aload_n 0, 1) := by decide +kernel
theorem d_Arrays_fill_11 : decode prog_23_method_103_code 11 = .ok (.iload_n 2, 1) := by decide +kernel
theorem d_Arrays_fill_12 : decode prog_23_method_103_code 12 = .ok (.iload_n 1, 1) := by decide +kernel
theorem d_Arrays_fill_13 : decode prog_23_method_103_code 13 = .ok (.iastore, 1) := by decide +kernel
theorem d_Arrays_fill_14 : decode prog_23_method_103_code 14 = .ok (.iinc 2 1, 3) := by decide +kernel
theorem d_Arrays_fill_17 : decode prog_23_method_103_code 17 = .ok (.goto (-12), 3) := by decide +kernel
theorem d_Arrays_fill_20 : decode prog_23_method_103_code 20 = .ok (.return_, 1) := by decide +kernel
theorem d_Math_min_0 : decode prog_16_method_69_code 0 = .ok (.iload_n 0, 1) := by decide +kernel
theorem d_Math_min_1 : decode prog_16_method_69_code 1 = .ok (.iload_n 1, 1) := by decide +kernel
theorem d_Math_min_2 : decode prog_16_method_69_code 2 = .ok (.if_icmp .gt 7, 3) := by decide +kernel
theorem d_Math_min_5 : decode prog_16_method_69_code 5 = .ok (.iload_n 0, 1) := by decide +kernel
theorem d_Math_min_6 : decode prog_16_method_69_code 6 = .ok (.goto 4, 3) := by decide +kernel
theorem d_Math_min_9 : decode prog_16_method_69_code 9 = .ok (.iload_n 1, 1) := by decide +kernel
theorem d_Math_min_10 : decode prog_16_method_69_code 10 = .ok (.ireturn, 1) := by decide +kernel
theorem d_Head_closeValue_0 : decode prog_5_method_13_code 0 = .ok (.aload_n 0, 1) := by decide +kernel
theorem d_Head_closeValue_1 : decode prog_5_method_13_code 1 = .ok (.getfield 22, 3) := by decide +kernel
theorem d_Head_closeValue_4 : decode prog_5_method_13_code 4 = .ok (.ifCond .eq 15, 3) := by decide +kernel
theorem d_Head_closeValue_7 : decode prog_5_method_13_code 7 = .ok (.aload_n 0, 1) := by decide +kernel
theorem d_Head_closeValue_8 : decode prog_5_method_13_code 8 = .ok (.getfield 12, 3) := by decide +kernel
theorem d_Head_closeValue_11 : decode prog_5_method_13_code 11 = .ok (.invokevirtual 72, 3) := by decide +kernel
theorem d_Head_closeValue_14 : decode prog_5_method_13_code 14 = .ok (.aload_n 0, 1) := by decide +kernel
theorem d_Head_closeValue_15 : decode prog_5_method_13_code 15 = .ok (.iconst 0, 1) := by decide +kernel
theorem d_Head_closeValue_16 : decode prog_5_method_13_code 16 = .ok (.putfield 22, 3) := by decide +kernel
theorem d_Head_closeValue_19 : decode prog_5_method_13_code 19 = .ok (.return_, 1) := by decide +kernel
