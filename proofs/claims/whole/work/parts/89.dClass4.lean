theorem d_DateReader_isDay_21 : decode prog_4_method_13_code 21 = .ok (.iload_n 1, 1) := by decide +kernel
theorem d_DateReader_isDay_22 : decode prog_4_method_13_code 22 = .ok (.invokestatic 117, 3) := by decide +kernel
theorem d_DateReader_isDay_25 : decode prog_4_method_13_code 25 = .ok (.if_icmp .gt 7, 3) := by decide +kernel
theorem d_DateReader_isDay_28 : decode prog_4_method_13_code 28 = .ok (.iconst 1, 1) := by decide +kernel
theorem d_DateReader_isDay_29 : decode prog_4_method_13_code 29 = .ok (.goto 4, 3) := by decide +kernel
theorem d_DateReader_isDay_32 : decode prog_4_method_13_code 32 = .ok (.iconst 0, 1) := by decide +kernel
theorem d_DateReader_isDay_33 : decode prog_4_method_13_code 33 = .ok (.ireturn, 1) := by decide +kernel
theorem d_DateReader_daysOf_0 : decode prog_4_method_14_code 0 = .ok (.iload_n 1, 1) := by decide +kernel
theorem d_DateReader_daysOf_1 : decode prog_4_method_14_code 1 = .ok (.ifCond .lt 11, 3) := by decide +kernel
theorem d_DateReader_daysOf_4 : decode prog_4_method_14_code 4 = .ok (.iload_n 1, 1) := by decide +kernel
theorem d_DateReader_daysOf_5 : decode prog_4_method_14_code 5 = .ok (.getstatic 120, 3) := by decide +kernel
theorem d_DateReader_daysOf_8 : decode prog_4_method_14_code 8 = .ok (.arraylength, 1) := by decide +kernel
theorem d_DateReader_daysOf_9 : decode prog_4_method_14_code 9 = .ok (.if_icmp .lt 5, 3) := by decide +kernel
theorem d_DateReader_daysOf_12 : decode prog_4_method_14_code 12 = .ok (.iconst 0, 1) := by decide +kernel
theorem d_DateReader_daysOf_13 : decode prog_4_method_14_code 13 = .ok (.ireturn, 1) := by decide +kernel
theorem d_DateReader_daysOf_14 : decode prog_4_method_14_code 14 = .ok (.iload_n 0, 1) := by decide +kernel
theorem d_DateReader_daysOf_15 : decode prog_4_method_14_code 15 = .ok (.iconst 4, 1) := by decide +kernel
theorem d_DateReader_daysOf_16 : decode prog_4_method_14_code 16 = .ok (.irem, 1) := by decide +kernel
theorem d_DateReader_daysOf_17 : decode prog_4_method_14_code 17 = .ok (.ifCond .ne 22, 3) := by decide +kernel
theorem d_DateReader_daysOf_20 : decode prog_4_method_14_code 20 = .ok (.iload_n 0, 1) := by decide +kernel
theorem d_DateReader_daysOf_21 : decode prog_4_method_14_code 21 = .ok (.bipush 100, 2) := by decide +kernel
theorem d_DateReader_daysOf_23 : decode prog_4_method_14_code 23 = .ok (.irem, 1) := by decide +kernel
theorem d_DateReader_daysOf_24 : decode prog_4_method_14_code 24 = .ok (.ifCond .ne 11, 3) := by decide +kernel
theorem d_DateReader_daysOf_27 : decode prog_4_method_14_code 27 = .ok (.iload_n 0, 1) := by decide +kernel
theorem d_DateReader_daysOf_28 : decode prog_4_method_14_code 28 = .ok (.sipush 400, 3) := by decide +kernel
theorem d_DateReader_daysOf_31 : decode prog_4_method_14_code 31 = .ok (.irem, 1) := by decide +kernel
theorem d_DateReader_daysOf_32 : decode prog_4_method_14_code 32 = .ok (.ifCond .ne 7, 3) := by decide +kernel
theorem d_DateReader_daysOf_35 : decode prog_4_method_14_code 35 = .ok (.iconst 1, 1) := by decide +kernel
theorem d_DateReader_daysOf_36 : decode prog_4_method_14_code 36 = .ok (.goto 4, 3) := by decide +kernel
theorem d_DateReader_daysOf_39 : decode prog_4_method_14_code 39 = .ok (.iconst 0, 1) := by decide +kernel
theorem d_DateReader_daysOf_40 : decode prog_4_method_14_code 40 = .ok (.istore_n 2, 1) := by decide +kernel
theorem d_DateReader_daysOf_41 : decode prog_4_method_14_code 41 = .ok (.iload_n 1, 1) := by decide +kernel
theorem d_DateReader_daysOf_42 : decode prog_4_method_14_code 42 = .ok (.iconst 1, 1) := by decide +kernel
theorem d_DateReader_daysOf_43 : decode prog_4_method_14_code 43 = .ok (.if_icmp .ne 12, 3) := by decide +kernel
theorem d_DateReader_daysOf_46 : decode prog_4_method_14_code 46 = .ok (.iload_n 2, 1) := by decide +kernel
theorem d_DateReader_daysOf_47 : decode prog_4_method_14_code 47 = .ok (.ifCond .eq 8, 3) := by decide +kernel
theorem d_DateReader_daysOf_50 : decode prog_4_method_14_code 50 = .ok (.bipush 29, 2) := by decide +kernel
theorem d_DateReader_daysOf_52 : decode prog_4_method_14_code 52 = .ok (.goto 8, 3) := by decide +kernel
theorem d_DateReader_daysOf_55 : decode prog_4_method_14_code 55 = .ok (.getstatic 120, 3) := by decide +kernel
theorem d_DateReader_daysOf_58 : decode prog_4_method_14_code 58 = .ok (.iload_n 1, 1) := by decide +kernel
theorem d_DateReader_daysOf_59 : decode prog_4_method_14_code 59 = .ok (.iaload, 1) := by decide +kernel
theorem d_DateReader_daysOf_60 : decode prog_4_method_14_code 60 = .ok (.ireturn, 1) := by decide +kernel
theorem d_DateReader_daysSince1970_0 : decode prog_4_method_15_code 0 = .ok (.iload_n 0, 1) := by decide +kernel
theorem d_DateReader_daysSince1970_1 : decode prog_4_method_15_code 1 = .ok (.invokestatic 123, 3) := by decide +kernel
theorem d_DateReader_daysSince1970_4 : decode prog_4_method_15_code 4 = .ok (.sipush 1970, 3) := by decide +kernel
theorem d_DateReader_daysSince1970_7 : decode prog_4_method_15_code 7 = .ok (.invokestatic 123, 3) := by decide +kernel
theorem d_DateReader_daysSince1970_10 : decode prog_4_method_15_code 10 = .ok (.isub, 1) := by decide +kernel
theorem d_DateReader_daysSince1970_11 : decode prog_4_method_15_code 11 = .ok (.iload_n 2, 1) := by decide +kernel
theorem d_DateReader_daysSince1970_12 : decode prog_4_method_15_code 12 = .ok (.iadd, 1) := by decide +kernel
theorem d_DateReader_daysSince1970_13 : decode prog_4_method_15_code 13 = .ok (.iconst 1, 1) := by decide +kernel
theorem d_DateReader_daysSince1970_14 : decode prog_4_method_15_code 14 = .ok (.isub, 1) := by decide +kernel
theorem d_DateReader_daysSince1970_15 : decode prog_4_method_15_code 15 = .ok (.istore_n 3, 1) := by decide +kernel
theorem d_DateReader_daysSince1970_16 : decode prog_4_method_15_code 16 = .ok (.iconst 0, 1) := by decide +kernel
theorem d_DateReader_daysSince1970_17 : decode prog_4_method_15_code 17 = .ok (.istore 4, 2) := by decide +kernel
theorem d_DateReader_daysSince1970_19 : decode prog_4_method_15_code 19 = .ok (.iload 4, 2) := by decide +kernel
theorem d_DateReader_daysSince1970_21 : decode prog_4_method_15_code 21 = .ok (.iload_n 1, 1) := by decide +kernel
theorem d_DateReader_daysSince1970_22 : decode prog_4_method_15_code 22 = .ok (.if_icmp .ge 18, 3) := by decide +kernel
theorem d_DateReader_daysSince1970_25 : decode prog_4_method_15_code 25 = .ok (.iload_n 3, 1) := by decide +kernel
theorem d_DateReader_daysSince1970_26 : decode prog_4_method_15_code 26 = .ok (.iload_n 0, 1) := by decide +kernel
theorem d_DateReader_daysSince1970_27 : decode prog_4_method_15_code 27 = .ok (.iload 4, 2) := by decide +kernel
theorem d_DateReader_daysSince1970_29 : decode prog_4_method_15_code 29 = .ok (.invokestatic 117, 3) := by decide +kernel
theorem d_DateReader_daysSince1970_32 : decode prog_4_method_15_code 32 = .ok (.iadd, 1) := by decide +kernel
theorem d_DateReader_daysSince1970_33 : decode prog_4_method_15_code 33 = .ok (.istore_n 3, 1) := by decide +kernel
theorem d_DateReader_daysSince1970_34 : decode prog_4_method_15_code 34 = .ok (.iinc 4 1, 3) := by decide +kernel
theorem d_DateReader_daysSince1970_37 : decode prog_4_method_15_code 37 = .ok (.goto (-18), 3) := by decide +kernel
theorem d_DateReader_daysSince1970_40 : decode prog_4_method_15_code 40 = .ok (.iload_n 3, 1) := by decide +kernel
theorem d_DateReader_daysSince1970_41 : decode prog_4_method_15_code 41 = .ok (.ireturn, 1) := by decide +kernel
theorem d_DateReader_daysAhead_0 : decode prog_4_method_16_code 0 = .ok (.iload_n 0, 1) := by decide +kernel
theorem d_DateReader_daysAhead_1 : decode prog_4_method_16_code 1 = .ok (.iconst 1, 1) := by decide +kernel
theorem d_DateReader_daysAhead_2 : decode prog_4_method_16_code 2 = .ok (.isub, 1) := by decide +kernel
theorem d_DateReader_daysAhead_3 : decode prog_4_method_16_code 3 = .ok (.istore_n 1, 1) := by decide +kernel
theorem d_DateReader_daysAhead_4 : decode prog_4_method_16_code 4 = .ok (.sipush 365, 3) := by decide +kernel
theorem d_DateReader_daysAhead_7 : decode prog_4_method_16_code 7 = .ok (.iload_n 1, 1) := by decide +kernel
theorem d_DateReader_daysAhead_8 : decode prog_4_method_16_code 8 = .ok (.imul, 1) := by decide +kernel
theorem d_DateReader_daysAhead_9 : decode prog_4_method_16_code 9 = .ok (.iload_n 1, 1) := by decide +kernel
theorem d_DateReader_daysAhead_10 : decode prog_4_method_16_code 10 = .ok (.iconst 4, 1) := by decide +kernel
theorem d_DateReader_daysAhead_11 : decode prog_4_method_16_code 11 = .ok (.idiv, 1) := by decide +kernel
theorem d_DateReader_daysAhead_12 : decode prog_4_method_16_code 12 = .ok (.iadd, 1) := by decide +kernel
theorem d_DateReader_daysAhead_13 : decode prog_4_method_16_code 13 = .ok (.iload_n 1, 1) := by decide +kernel
theorem d_DateReader_daysAhead_14 : decode prog_4_method_16_code 14 = .ok (.bipush 100, 2) := by decide +kernel
theorem d_DateReader_daysAhead_16 : decode prog_4_method_16_code 16 = .ok (.idiv, 1) := by decide +kernel
theorem d_DateReader_daysAhead_17 : decode prog_4_method_16_code 17 = .ok (.isub, 1) := by decide +kernel
theorem d_DateReader_daysAhead_18 : decode prog_4_method_16_code 18 = .ok (.iload_n 1, 1) := by decide +kernel
theorem d_DateReader_daysAhead_19 : decode prog_4_method_16_code 19 = .ok (.sipush 400, 3) := by decide +kernel
theorem d_DateReader_daysAhead_22 : decode prog_4_method_16_code 22 = .ok (.idiv, 1) := by decide +kernel
theorem d_DateReader_daysAhead_23 : decode prog_4_method_16_code 23 = .ok (.iadd, 1) := by decide +kernel
theorem d_DateReader_daysAhead_24 : decode prog_4_method_16_code 24 = .ok (.ireturn, 1) := by decide +kernel
theorem d_DateReader_zoneSeconds_0 : decode prog_4_method_10_code 0 = .ok (.aload_n 0, 1) := by decide +kernel
theorem d_DateReader_zoneSeconds_1 : decode prog_4_method_10_code 1 = .ok (.getfield 11, 3) := by decide +kernel
theorem d_DateReader_zoneSeconds_4 : decode prog_4_method_10_code 4 = .ok (.invokevirtual 69, 3) := by decide +kernel
theorem d_DateReader_zoneSeconds_7 : decode prog_4_method_10_code 7 = .ok (.aload_n 0, 1) := by decide +kernel
theorem d_DateReader_zoneSeconds_8 : decode prog_4_method_10_code 8 = .ok (.getfield 17, 3) := by decide +kernel
theorem d_DateReader_zoneSeconds_11 : decode prog_4_method_10_code 11 = .ok (.invokevirtual 73, 3) := by decide +kernel
theorem d_DateReader_zoneSeconds_14 : decode prog_4_method_10_code 14 = .ok (.istore_n 1, 1) := by decide +kernel
theorem d_DateReader_zoneSeconds_15 : decode prog_4_method_10_code 15 = .ok (.aload_n 0, 1) := by decide +kernel
theorem d_DateReader_zoneSeconds_16 : decode prog_4_method_10_code 16 = .ok (.getfield 11, 3) := by decide +kernel
theorem d_DateReader_zoneSeconds_19 : decode prog_4_method_10_code 19 = .ok (.invokevirtual 21, 3) := by decide +kernel
theorem d_DateReader_zoneSeconds_22 : decode prog_4_method_10_code 22 = .ok (.aload_n 0, 1) := by decide +kernel
theorem d_DateReader_zoneSeconds_23 : decode prog_4_method_10_code 23 = .ok (.getfield 17, 3) := by decide +kernel
theorem d_DateReader_zoneSeconds_26 : decode prog_4_method_10_code 26 = .ok (.invokevirtual 27, 3) := by decide +kernel
theorem d_DateReader_zoneSeconds_29 : decode prog_4_method_10_code 29 = .ok (.iconst 1, 1) := by decide +kernel
theorem d_DateReader_zoneSeconds_30 : decode prog_4_method_10_code 30 = .ok (.if_icmp .eq 5, 3) := by decide +kernel
theorem d_DateReader_zoneSeconds_33 : decode prog_4_method_10_code 33 = .ok (.iconst 0, 1) := by decide +kernel
theorem d_DateReader_zoneSeconds_34 : decode prog_4_method_10_code 34 = .ok (.ireturn, 1) := by decide +kernel
theorem d_DateReader_zoneSeconds_35 : decode prog_4_method_10_code 35 = .ok (.iload_n 1, 1) := by decide +kernel
theorem d_DateReader_zoneSeconds_36 : decode prog_4_method_10_code 36 = .ok (.iconst 3, 1) := by decide +kernel
theorem d_DateReader_zoneSeconds_37 : decode prog_4_method_10_code 37 = .ok (.if_icmp .ne 36, 3) := by decide +kernel
theorem d_DateReader_zoneSeconds_40 : decode prog_4_method_10_code 40 = .ok (.aload_n 0, 1) := by decide +kernel
theorem d_DateReader_zoneSeconds_41 : decode prog_4_method_10_code 41 = .ok (.ldc 108, 2) := by decide +kernel
theorem d_DateReader_zoneSeconds_43 : decode prog_4_method_10_code 43 = .ok (.invokevirtual 83, 3) := by decide +kernel
theorem d_DateReader_zoneSeconds_46 : decode prog_4_method_10_code 46 = .ok (.istore_n 2, 1) := by decide +kernel
theorem d_DateReader_zoneSeconds_47 : decode prog_4_method_10_code 47 = .ok (.iload_n 2, 1) := by decide +kernel
theorem d_DateReader_zoneSeconds_48 : decode prog_4_method_10_code 48 = .ok (.ifCond .lt 23, 3) := by decide +kernel
theorem d_DateReader_zoneSeconds_51 : decode prog_4_method_10_code 51 = .ok (.iload_n 2, 1) := by decide +kernel
theorem d_DateReader_zoneSeconds_52 : decode prog_4_method_10_code 52 = .ok (.getstatic 110, 3) := by decide +kernel
theorem d_DateReader_zoneSeconds_55 : decode prog_4_method_10_code 55 = .ok (.arraylength, 1) := by decide +kernel
theorem d_DateReader_zoneSeconds_56 : decode prog_4_method_10_code 56 = .ok (.if_icmp .ge 15, 3) := by decide +kernel
theorem d_DateReader_zoneSeconds_59 : decode prog_4_method_10_code 59 = .ok (.sipush 3600, 3) := by decide +kernel
theorem d_DateReader_zoneSeconds_62 : decode prog_4_method_10_code 62 = .ok (.getstatic 110, 3) := by decide +kernel
theorem d_DateReader_zoneSeconds_65 : decode prog_4_method_10_code 65 = .ok (.iload_n 2, 1) := by decide +kernel
theorem d_DateReader_zoneSeconds_66 : decode prog_4_method_10_code 66 = .ok (.iaload, 1) := by decide +kernel
theorem d_DateReader_zoneSeconds_67 : decode prog_4_method_10_code 67 = .ok (.imul, 1) := by decide +kernel
theorem d_DateReader_zoneSeconds_68 : decode prog_4_method_10_code 68 = .ok (.goto 4, 3) := by decide +kernel
theorem d_DateReader_zoneSeconds_71 : decode prog_4_method_10_code 71 = .ok (.iconst 0, 1) := by decide +kernel
theorem d_DateReader_zoneSeconds_72 : decode prog_4_method_10_code 72 = .ok (.ireturn, 1) := by decide +kernel
theorem d_DateReader_zoneSeconds_73 : decode prog_4_method_10_code 73 = .ok (.iload_n 1, 1) := by decide +kernel
theorem d_DateReader_zoneSeconds_74 : decode prog_4_method_10_code 74 = .ok (.iconst 5, 1) := by decide +kernel
theorem d_DateReader_zoneSeconds_75 : decode prog_4_method_10_code 75 = .ok (.if_icmp .ne 25, 3) := by decide +kernel
theorem d_DateReader_zoneSeconds_78 : decode prog_4_method_10_code 78 = .ok (.aload_n 0, 1) := by decide +kernel
theorem d_DateReader_zoneSeconds_79 : decode prog_4_method_10_code 79 = .ok (.aload_n 0, 1) := by decide +kernel
theorem d_DateReader_zoneSeconds_80 : decode prog_4_method_10_code 80 = .ok (.getfield 11, 3) := by decide +kernel
theorem d_DateReader_zoneSeconds_83 : decode prog_4_method_10_code 83 = .ok (.invokevirtual 69, 3) := by decide +kernel
theorem d_DateReader_zoneSeconds_86 : decode prog_4_method_10_code 86 = .ok (.aload_n 0, 1) := by decide +kernel
theorem d_DateReader_zoneSeconds_87 : decode prog_4_method_10_code 87 = .ok (.getfield 17, 3) := by decide +kernel
theorem d_DateReader_zoneSeconds_90 : decode prog_4_method_10_code 90 = .ok (.iconst 0, 1) := by decide +kernel
theorem d_DateReader_zoneSeconds_91 : decode prog_4_method_10_code 91 = .ok (.invokevirtual 87, 3) := by decide +kernel
theorem d_DateReader_zoneSeconds_94 : decode prog_4_method_10_code 94 = .ok (.invokevirtual 114, 3) := by decide +kernel
theorem d_DateReader_zoneSeconds_97 : decode prog_4_method_10_code 97 = .ok (.goto 4, 3) := by decide +kernel
theorem d_DateReader_zoneSeconds_100 : decode prog_4_method_10_code 100 = .ok (.iconst 0, 1) := by decide +kernel
theorem d_DateReader_zoneSeconds_101 : decode prog_4_method_10_code 101 = .ok (.ireturn, 1) := by decide +kernel
theorem d_DateReader_signedZone_0 : decode prog_4_method_11_code 0 = .ok (.aload_n 0, 1) := by decide +kernel
theorem d_DateReader_signedZone_1 : decode prog_4_method_11_code 1 = .ok (.iconst 1, 1) := by decide +kernel
theorem d_DateReader_signedZone_2 : decode prog_4_method_11_code 2 = .ok (.iconst 3, 1) := by decide +kernel
theorem d_DateReader_signedZone_3 : decode prog_4_method_11_code 3 = .ok (.invokevirtual 78, 3) := by decide +kernel
theorem d_DateReader_signedZone_6 : decode prog_4_method_11_code 6 = .ok (.istore_n 2, 1) := by decide +kernel
theorem d_DateReader_signedZone_7 : decode prog_4_method_11_code 7 = .ok (.aload_n 0, 1) := by decide +kernel
theorem d_DateReader_signedZone_8 : decode prog_4_method_11_code 8 = .ok (.iconst 3, 1) := by decide +kernel
theorem d_DateReader_signedZone_9 : decode prog_4_method_11_code 9 = .ok (.iconst 5, 1) := by decide +kernel
theorem d_DateReader_signedZone_10 : decode prog_4_method_11_code 10 = .ok (.invokevirtual 78, 3) := by decide +kernel
theorem d_DateReader_signedZone_13 : decode prog_4_method_11_code 13 = .ok (.istore_n 3, 1) := by decide +kernel
theorem d_DateReader_signedZone_14 : decode prog_4_method_11_code 14 = .ok (.iload_n 1, 1) := by decide +kernel
theorem d_DateReader_signedZone_15 : decode prog_4_method_11_code 15 = .ok (.bipush 43, 2) := by decide +kernel
theorem d_DateReader_signedZone_17 : decode prog_4_method_11_code 17 = .ok (.if_icmp .eq 9, 3) := by decide +kernel
theorem d_DateReader_signedZone_20 : decode prog_4_method_11_code 20 = .ok (.iload_n 1, 1) := by decide +kernel
theorem d_DateReader_signedZone_21 : decode prog_4_method_11_code 21 = .ok (.bipush 45, 2) := by decide +kernel
theorem d_DateReader_signedZone_23 : decode prog_4_method_11_code 23 = .ok (.if_icmp .ne 21, 3) := by decide +kernel
theorem d_DateReader_signedZone_26 : decode prog_4_method_11_code 26 = .ok (.iload_n 2, 1) := by decide +kernel
theorem d_DateReader_signedZone_27 : decode prog_4_method_11_code 27 = .ok (.bipush 24, 2) := by decide +kernel
theorem d_DateReader_signedZone_29 : decode prog_4_method_11_code 29 = .ok (.invokestatic 48, 3) := by decide +kernel
theorem d_DateReader_signedZone_32 : decode prog_4_method_11_code 32 = .ok (.ifCond .eq 12, 3) := by decide +kernel
theorem d_DateReader_signedZone_35 : decode prog_4_method_11_code 35 = .ok (.iload_n 3, 1) := by decide +kernel
theorem d_DateReader_signedZone_36 : decode prog_4_method_11_code 36 = .ok (.bipush 60, 2) := by decide +kernel
theorem d_DateReader_signedZone_38 : decode prog_4_method_11_code 38 = .ok (.invokestatic 48, 3) := by decide +kernel
theorem d_DateReader_signedZone_41 : decode prog_4_method_11_code 41 = .ok (.ifCond .ne 5, 3) := by decide +kernel
theorem d_DateReader_signedZone_44 : decode prog_4_method_11_code 44 = .ok (.iconst 0, 1) := by decide +kernel
theorem d_DateReader_signedZone_45 : decode prog_4_method_11_code 45 = .ok (.ireturn, 1) := by decide +kernel
theorem d_DateReader_signedZone_46 : decode prog_4_method_11_code 46 = .ok (.bipush 60, 2) := by decide +kernel
theorem d_DateReader_signedZone_48 : decode prog_4_method_11_code 48 = .ok (.bipush 60, 2) := by decide +kernel
theorem d_DateReader_signedZone_50 : decode prog_4_method_11_code 50 = .ok (.iload_n 2, 1) := by decide +kernel
theorem d_DateReader_signedZone_51 : decode prog_4_method_11_code 51 = .ok (.imul, 1) := by decide +kernel
theorem d_DateReader_signedZone_52 : decode prog_4_method_11_code 52 = .ok (.iload_n 3, 1) := by decide +kernel
theorem d_DateReader_signedZone_53 : decode prog_4_method_11_code 53 = .ok (.iadd, 1) := by decide +kernel
theorem d_DateReader_signedZone_54 : decode prog_4_method_11_code 54 = .ok (.imul, 1) := by decide +kernel
theorem d_DateReader_signedZone_55 : decode prog_4_method_11_code 55 = .ok (.istore 4, 2) := by decide +kernel
theorem d_DateReader_signedZone_57 : decode prog_4_method_11_code 57 = .ok (.iload_n 1, 1) := by decide +kernel
theorem d_DateReader_signedZone_58 : decode prog_4_method_11_code 58 = .ok (.bipush 45, 2) := by decide +kernel
theorem d_DateReader_signedZone_60 : decode prog_4_method_11_code 60 = .ok (.if_icmp .ne 9, 3) := by decide +kernel
theorem d_DateReader_signedZone_63 : decode prog_4_method_11_code 63 = .ok (.iload 4, 2) := by decide +kernel
theorem d_DateReader_signedZone_65 : decode prog_4_method_11_code 65 = .ok (.ineg, 1) := by decide +kernel
theorem d_DateReader_signedZone_66 : decode prog_4_method_11_code 66 = .ok (.goto 5, 3) := by decide +kernel
theorem d_DateReader_signedZone_69 : decode prog_4_method_11_code 69 = .ok (.iload 4, 2) := by decide +kernel
theorem d_DateReader_signedZone_71 : decode prog_4_method_11_code 71 = .ok (.ireturn, 1) := by decide +kernel
theorem d_ContentType_readWords_0 : decode prog_3_method_3_code 0 = .ok (.aload_n 0, 1) := by decide +kernel
theorem d_ContentType_readWords_1 : decode prog_3_method_3_code 1 = .ok (.getfield 18, 3) := by decide +kernel
theorem d_ContentType_readWords_4 : decode prog_3_method_3_code 4 = .ok (.invokevirtual 41, 3) := by decide +kernel
theorem d_ContentType_readWords_7 : decode prog_3_method_3_code 7 = .ok (.aload_n 0, 1) := by decide +kernel
theorem d_ContentType_readWords_8 : decode prog_3_method_3_code 8 = .ok (.getfield 22, 3) := by decide +kernel
theorem d_ContentType_readWords_11 : decode prog_3_method_3_code 11 = .ok (.invokevirtual 41, 3) := by decide +kernel
theorem d_ContentType_readWords_14 : decode prog_3_method_3_code 14 = .ok (.aload_n 0, 1) := by decide +kernel
theorem d_ContentType_readWords_15 : decode prog_3_method_3_code 15 = .ok (.getfield 25, 3) := by decide +kernel
theorem d_ContentType_readWords_18 : decode prog_3_method_3_code 18 = .ok (.invokevirtual 41, 3) := by decide +kernel
theorem d_ContentType_readWords_21 : decode prog_3_method_3_code 21 = .ok (.aload_n 0, 1) := by decide +kernel
theorem d_ContentType_readWords_22 : decode prog_3_method_3_code 22 = .ok (.getfield 31, 3) := by decide +kernel
theorem d_ContentType_readWords_25 : decode prog_3_method_3_code 25 = .ok (.iconst 0, 1) := by decide +kernel
theorem d_ContentType_readWords_26 : decode prog_3_method_3_code 26 = .ok (.invokevirtual 44, 3) := by decide +kernel
theorem d_ContentType_readWords_29 : decode prog_3_method_3_code 29 = .ok (.aload_n 0, 1) := by decide +kernel
theorem d_ContentType_readWords_30 : decode prog_3_method_3_code 30 = .ok (.getfield 35, 3) := by decide +kernel
theorem d_ContentType_readWords_33 : decode prog_3_method_3_code 33 = .ok (.iconst 0, 1) := by decide +kernel
theorem d_ContentType_readWords_34 : decode prog_3_method_3_code 34 = .ok (.invokevirtual 44, 3) := by decide +kernel
theorem d_ContentType_readWords_37 : decode prog_3_method_3_code 37 = .ok (.aload_n 0, 1) := by decide +kernel
theorem d_ContentType_readWords_38 : decode prog_3_method_3_code 38 = .ok (.getfield 9, 3) := by decide +kernel
theorem d_ContentType_readWords_41 : decode prog_3_method_3_code 41 = .ok (.invokevirtual 48, 3) := by decide +kernel
theorem d_ContentType_readWords_44 : decode prog_3_method_3_code 44 = .ok (.iconst 0, 1) := by decide +kernel
theorem d_ContentType_readWords_45 : decode prog_3_method_3_code 45 = .ok (.invokevirtual 54, 3) := by decide +kernel
theorem d_ContentType_readWords_48 : decode prog_3_method_3_code 48 = .ok (.iconst 1, 1) := by decide +kernel
theorem d_ContentType_readWords_49 : decode prog_3_method_3_code 49 = .ok (.if_icmp .ne 34, 3) := by decide +kernel
theorem d_ContentType_readWords_52 : decode prog_3_method_3_code 52 = .ok (.aload_n 0, 1) := by decide +kernel
theorem d_ContentType_readWords_53 : decode prog_3_method_3_code 53 = .ok (.getfield 9, 3) := by decide +kernel
theorem d_ContentType_readWords_56 : decode prog_3_method_3_code 56 = .ok (.invokevirtual 48, 3) := by decide +kernel
theorem d_ContentType_readWords_59 : decode prog_3_method_3_code 59 = .ok (.iconst 1, 1) := by decide +kernel
theorem d_ContentType_readWords_60 : decode prog_3_method_3_code 60 = .ok (.invokevirtual 54, 3) := by decide +kernel
theorem d_ContentType_readWords_63 : decode prog_3_method_3_code 63 = .ok (.bipush 47, 2) := by decide +kernel
theorem d_ContentType_readWords_65 : decode prog_3_method_3_code 65 = .ok (.if_icmp .ne 18, 3) := by decide +kernel
theorem d_ContentType_readWords_68 : decode prog_3_method_3_code 68 = .ok (.aload_n 0, 1) := by decide +kernel
theorem d_ContentType_readWords_69 : decode prog_3_method_3_code 69 = .ok (.getfield 9, 3) := by decide +kernel
theorem d_ContentType_readWords_72 : decode prog_3_method_3_code 72 = .ok (.invokevirtual 48, 3) := by decide +kernel
theorem d_ContentType_readWords_75 : decode prog_3_method_3_code 75 = .ok (.iconst 2, 1) := by decide +kernel
theorem d_ContentType_readWords_76 : decode prog_3_method_3_code 76 = .ok (.invokevirtual 54, 3) := by decide +kernel
theorem d_ContentType_readWords_79 : decode prog_3_method_3_code 79 = .ok (.iconst 1, 1) := by decide +kernel
theorem d_ContentType_readWords_80 : decode prog_3_method_3_code 80 = .ok (.if_icmp .eq 5, 3) := by decide +kernel
theorem d_ContentType_readWords_83 : decode prog_3_method_3_code 83 = .ok (.iconst 0, 1) := by decide +kernel
theorem d_ContentType_readWords_84 : decode prog_3_method_3_code 84 = .ok (.ireturn, 1) := by decide +kernel
theorem d_ContentType_readWords_85 : decode prog_3_method_3_code 85 = .ok (.aload_n 0, 1) := by decide +kernel
theorem d_ContentType_readWords_86 : decode prog_3_method_3_code 86 = .ok (.iconst 0, 1) := by decide +kernel
theorem d_ContentType_readWords_87 : decode prog_3_method_3_code 87 = .ok (.invokevirtual 58, 3) := by decide +kernel
theorem d_ContentType_readWords_90 : decode prog_3_method_3_code 90 = .ok (.aload_n 0, 1) := by decide +kernel
theorem d_ContentType_readWords_91 : decode prog_3_method_3_code 91 = .ok (.iconst 2, 1) := by decide +kernel
theorem d_ContentType_readWords_92 : decode prog_3_method_3_code 92 = .ok (.invokevirtual 58, 3) := by decide +kernel
theorem d_ContentType_readWords_95 : decode prog_3_method_3_code 95 = .ok (.iconst 3, 1) := by decide +kernel
theorem d_ContentType_readWords_96 : decode prog_3_method_3_code 96 = .ok (.istore_n 1, 1) := by decide +kernel
theorem d_ContentType_readWords_97 : decode prog_3_method_3_code 97 = .ok (.iload_n 1, 1) := by decide +kernel
theorem d_ContentType_readWords_98 : decode prog_3_method_3_code 98 = .ok (.aload_n 0, 1) := by decide +kernel
theorem d_ContentType_readWords_99 : decode prog_3_method_3_code 99 = .ok (.getfield 9, 3) := by decide +kernel
theorem d_ContentType_readWords_102 : decode prog_3_method_3_code 102 = .ok (.invokevirtual 48, 3) := by decide +kernel
theorem d_ContentType_readWords_105 : decode prog_3_method_3_code 105 = .ok (.invokevirtual 61, 3) := by decide +kernel
theorem d_ContentType_readWords_108 : decode prog_3_method_3_code 108 = .ok (.if_icmp .ge 32, 3) := by decide +kernel
theorem d_ContentType_readWords_111 : decode prog_3_method_3_code 111 = .ok (.aload_n 0, 1) := by decide +kernel
theorem d_ContentType_readWords_112 : decode prog_3_method_3_code 112 = .ok (.getfield 9, 3) := by decide +kernel
theorem d_ContentType_readWords_115 : decode prog_3_method_3_code 115 = .ok (.invokevirtual 48, 3) := by decide +kernel
theorem d_ContentType_readWords_118 : decode prog_3_method_3_code 118 = .ok (.iload_n 1, 1) := by decide +kernel
theorem d_ContentType_readWords_119 : decode prog_3_method_3_code 119 = .ok (.invokevirtual 54, 3) := by decide +kernel
theorem d_ContentType_readWords_122 : decode prog_3_method_3_code 122 = .ok (.bipush 59, 2) := by decide +kernel
theorem d_ContentType_readWords_124 : decode prog_3_method_3_code 124 = .ok (.if_icmp .ne 10, 3) := by decide +kernel
theorem d_ContentType_readWords_127 : decode prog_3_method_3_code 127 = .ok (.aload_n 0, 1) := by decide +kernel
theorem d_ContentType_readWords_128 : decode prog_3_method_3_code 128 = .ok (.iload_n 1, 1) := by decide +kernel
theorem d_ContentType_readWords_129 : decode prog_3_method_3_code 129 = .ok (.iconst 1, 1) := by decide +kernel
theorem d_ContentType_readWords_130 : decode prog_3_method_3_code 130 = .ok (.iadd, 1) := by decide +kernel
theorem d_ContentType_readWords_131 : decode prog_3_method_3_code 131 = .ok (.invokevirtual 65, 3) := by decide +kernel
theorem d_ContentType_readWords_134 : decode prog_3_method_3_code 134 = .ok (.iinc 1 1, 3) := by decide +kernel
theorem d_ContentType_readWords_137 : decode prog_3_method_3_code 137 = .ok (.goto (-40), 3) := by decide +kernel
theorem d_ContentType_readWords_140 : decode prog_3_method_3_code 140 = .ok (.iconst 1, 1) := by decide +kernel
theorem d_ContentType_readWords_141 : decode prog_3_method_3_code 141 = .ok (.ireturn, 1) := by decide +kernel
theorem d_ContentType_takePart_0 : decode prog_3_method_4_code 0 = .ok (.aload_n 0, 1) := by decide +kernel
theorem d_ContentType_takePart_1 : decode prog_3_method_4_code 1 = .ok (.getfield 18, 3) := by decide +kernel
theorem d_ContentType_takePart_4 : decode prog_3_method_4_code 4 = .ok (.aload_n 0, 1) := by decide +kernel
theorem d_ContentType_takePart_5 : decode prog_3_method_4_code 5 = .ok (.getfield 9, 3) := by decide +kernel
theorem d_ContentType_takePart_8 : decode prog_3_method_4_code 8 = .ok (.invokevirtual 68, 3) := by decide +kernel
theorem d_ContentType_takePart_11 : decode prog_3_method_4_code 11 = .ok (.iload_n 1, 1) := by decide +kernel
theorem d_ContentType_takePart_12 : decode prog_3_method_4_code 12 = .ok (.aload_n 0, 1) := by decide +kernel
theorem d_ContentType_takePart_13 : decode prog_3_method_4_code 13 = .ok (.getfield 9, 3) := by decide +kernel
theorem d_ContentType_takePart_16 : decode prog_3_method_4_code 16 = .ok (.invokevirtual 68, 3) := by decide +kernel
theorem d_ContentType_takePart_19 : decode prog_3_method_4_code 19 = .ok (.iload_n 1, 1) := by decide +kernel
theorem d_ContentType_takePart_20 : decode prog_3_method_4_code 20 = .ok (.invokevirtual 72, 3) := by decide +kernel
theorem d_ContentType_takePart_23 : decode prog_3_method_4_code 23 = .ok (.invokevirtual 75, 3) := by decide +kernel
theorem d_ContentType_takePart_26 : decode prog_3_method_4_code 26 = .ok (.aload_n 0, 1) := by decide +kernel
theorem d_ContentType_takePart_27 : decode prog_3_method_4_code 27 = .ok (.getfield 18, 3) := by decide +kernel
theorem d_ContentType_takePart_30 : decode prog_3_method_4_code 30 = .ok (.invokevirtual 79, 3) := by decide +kernel
theorem d_ContentType_takePart_33 : decode prog_3_method_4_code 33 = .ok (.return_, 1) := by decide +kernel
theorem d_ContentType_takeParameter_0 : decode prog_3_method_5_code 0 = .ok (.aload_n 0, 1) := by decide +kernel
theorem d_ContentType_takeParameter_1 : decode prog_3_method_5_code 1 = .ok (.getfield 9, 3) := by decide +kernel
theorem d_ContentType_takeParameter_4 : decode prog_3_method_5_code 4 = .ok (.invokevirtual 48, 3) := by decide +kernel
theorem d_ContentType_takeParameter_7 : decode prog_3_method_5_code 7 = .ok (.iload_n 1, 1) := by decide +kernel
theorem d_ContentType_takeParameter_8 : decode prog_3_method_5_code 8 = .ok (.iconst 2, 1) := by decide +kernel
theorem d_ContentType_takeParameter_9 : decode prog_3_method_5_code 9 = .ok (.iadd, 1) := by decide +kernel
theorem d_ContentType_takeParameter_10 : decode prog_3_method_5_code 10 = .ok (.invokevirtual 54, 3) := by decide +kernel
theorem d_ContentType_takeParameter_13 : decode prog_3_method_5_code 13 = .ok (.istore_n 2, 1) := by decide +kernel
theorem d_ContentType_takeParameter_14 : decode prog_3_method_5_code 14 = .ok (.iload_n 2, 1) := by decide +kernel
theorem d_ContentType_takeParameter_15 : decode prog_3_method_5_code 15 = .ok (.iconst 1, 1) := by decide +kernel
theorem d_ContentType_takeParameter_16 : decode prog_3_method_5_code 16 = .ok (.if_icmp .eq 8, 3) := by decide +kernel
theorem d_ContentType_takeParameter_19 : decode prog_3_method_5_code 19 = .ok (.iload_n 2, 1) := by decide +kernel
theorem d_ContentType_takeParameter_20 : decode prog_3_method_5_code 20 = .ok (.iconst 2, 1) := by decide +kernel
theorem d_ContentType_takeParameter_21 : decode prog_3_method_5_code 21 = .ok (.if_icmp .ne 7, 3) := by decide +kernel
theorem d_ContentType_takeParameter_24 : decode prog_3_method_5_code 24 = .ok (.iconst 1, 1) := by decide +kernel
theorem d_ContentType_takeParameter_25 : decode prog_3_method_5_code 25 = .ok (.goto 4, 3) := by decide +kernel
theorem d_ContentType_takeParameter_28 : decode prog_3_method_5_code 28 = .ok (.iconst 0, 1) := by decide +kernel
theorem d_ContentType_takeParameter_29 : decode prog_3_method_5_code 29 = .ok (.istore_n 3, 1) := by decide +kernel
theorem d_ContentType_takeParameter_30 : decode prog_3_method_5_code 30 = .ok (.aload_n 0, 1) := by decide +kernel
theorem d_ContentType_takeParameter_31 : decode prog_3_method_5_code 31 = .ok (.getfield 9, 3) := by decide +kernel
theorem d_ContentType_takeParameter_34 : decode prog_3_method_5_code 34 = .ok (.invokevirtual 48, 3) := by decide +kernel
theorem d_ContentType_takeParameter_37 : decode prog_3_method_5_code 37 = .ok (.iload_n 1, 1) := by decide +kernel
theorem d_ContentType_takeParameter_38 : decode prog_3_method_5_code 38 = .ok (.invokevirtual 54, 3) := by decide +kernel
theorem d_ContentType_takeParameter_41 : decode prog_3_method_5_code 41 = .ok (.iconst 1, 1) := by decide +kernel
theorem d_ContentType_takeParameter_42 : decode prog_3_method_5_code 42 = .ok (.if_icmp .ne 25, 3) := by decide +kernel
theorem d_ContentType_takeParameter_45 : decode prog_3_method_5_code 45 = .ok (.aload_n 0, 1) := by decide +kernel
theorem d_ContentType_takeParameter_46 : decode prog_3_method_5_code 46 = .ok (.getfield 9, 3) := by decide +kernel
theorem d_ContentType_takeParameter_49 : decode prog_3_method_5_code 49 = .ok (.invokevirtual 48, 3) := by decide +kernel
theorem d_ContentType_takeParameter_52 : decode prog_3_method_5_code 52 = .ok (.iload_n 1, 1) := by decide +kernel
theorem d_ContentType_takeParameter_53 : decode prog_3_method_5_code 53 = .ok (.iconst 1, 1) := by decide +kernel
theorem d_ContentType_takeParameter_54 : decode prog_3_method_5_code 54 = .ok (.iadd, 1) := by decide +kernel
theorem d_ContentType_takeParameter_55 : decode prog_3_method_5_code 55 = .ok (.invokevirtual 54, 3) := by decide +kernel
theorem d_ContentType_takeParameter_58 : decode prog_3_method_5_code 58 = .ok (.bipush 61, 2) := by decide +kernel
theorem d_ContentType_takeParameter_60 : decode prog_3_method_5_code 60 = .ok (.if_icmp .ne 7, 3) := by decide +kernel
theorem d_ContentType_takeParameter_63 : decode prog_3_method_5_code 63 = .ok (.iload_n 3, 1) := by decide +kernel
theorem d_ContentType_takeParameter_64 : decode prog_3_method_5_code 64 = .ok (.ifCond .ne 4, 3) := by decide +kernel
theorem d_ContentType_takeParameter_67 : decode prog_3_method_5_code 67 = .ok (.return_, 1) := by decide +kernel
theorem d_ContentType_takeParameter_68 : decode prog_3_method_5_code 68 = .ok (.aload_n 0, 1) := by decide +kernel
theorem d_ContentType_takeParameter_69 : decode prog_3_method_5_code 69 = .ok (.getfield 9, 3) := by decide +kernel
theorem d_ContentType_takeParameter_72 : decode prog_3_method_5_code 72 = .ok (.invokevirtual 68, 3) := by decide +kernel
theorem d_ContentType_takeParameter_75 : decode prog_3_method_5_code 75 = .ok (.astore 4, 2) := by decide +kernel
theorem d_ContentType_takeParameter_77 : decode prog_3_method_5_code 77 = .ok (.aload 4, 2) := by decide +kernel
theorem d_ContentType_takeParameter_79 : decode prog_3_method_5_code 79 = .ok (.iload_n 1, 1) := by decide +kernel
theorem d_ContentType_takeParameter_80 : decode prog_3_method_5_code 80 = .ok (.invokevirtual 72, 3) := by decide +kernel
theorem d_ContentType_takeParameter_83 : decode prog_3_method_5_code 83 = .ok (.istore 5, 2) := by decide +kernel
theorem d_ContentType_takeParameter_85 : decode prog_3_method_5_code 85 = .ok (.aload 4, 2) := by decide +kernel
theorem d_ContentType_takeParameter_87 : decode prog_3_method_5_code 87 = .ok (.iload_n 1, 1) := by decide +kernel
theorem d_ContentType_takeParameter_88 : decode prog_3_method_5_code 88 = .ok (.iload 5, 2) := by decide +kernel
theorem d_ContentType_takeParameter_90 : decode prog_3_method_5_code 90 = .ok (.iconst 1, 1) := by decide +kernel
theorem d_ContentType_takeParameter_91 : decode prog_3_method_5_code 91 = .ok (.isub, 1) := by decide +kernel
theorem d_ContentType_takeParameter_92 : decode prog_3_method_5_code 92 = .ok (.invokevirtual 82, 3) := by decide +kernel
theorem d_ContentType_takeParameter_95 : decode prog_3_method_5_code 95 = .ok (.bipush 42, 2) := by decide +kernel
theorem d_ContentType_takeParameter_97 : decode prog_3_method_5_code 97 = .ok (.if_icmp .ne 7, 3) := by decide +kernel
theorem d_ContentType_takeParameter_100 : decode prog_3_method_5_code 100 = .ok (.iconst 1, 1) := by decide +kernel
theorem d_ContentType_takeParameter_101 : decode prog_3_method_5_code 101 = .ok (.goto 4, 3) := by decide +kernel
theorem d_ContentType_takeParameter_104 : decode prog_3_method_5_code 104 = .ok (.iconst 0, 1) := by decide +kernel
theorem d_ContentType_takeParameter_105 : decode prog_3_method_5_code 105 = .ok (.istore 6, 2) := by decide +kernel
theorem d_ContentType_takeParameter_107 : decode prog_3_method_5_code 107 = .ok (.iload 6, 2) := by decide +kernel
theorem d_ContentType_takeParameter_109 : decode prog_3_method_5_code 109 = .ok (.ifCond .eq 6, 3) := by decide +kernel
theorem d_ContentType_takeParameter_112 : decode prog_3_method_5_code 112 = .ok (.iinc 5 (-1), 3) := by decide +kernel
theorem d_ContentType_takeParameter_115 : decode prog_3_method_5_code 115 = .ok (.aload 4, 2) := by decide +kernel
theorem d_ContentType_takeParameter_117 : decode prog_3_method_5_code 117 = .ok (.iload_n 1, 1) := by decide +kernel
theorem d_ContentType_takeParameter_118 : decode prog_3_method_5_code 118 = .ok (.iload 5, 2) := by decide +kernel
theorem d_ContentType_takeParameter_120 : decode prog_3_method_5_code 120 = .ok (.iconst 2, 1) := by decide +kernel
theorem d_ContentType_takeParameter_121 : decode prog_3_method_5_code 121 = .ok (.isub, 1) := by decide +kernel
theorem d_ContentType_takeParameter_122 : decode prog_3_method_5_code 122 = .ok (.invokevirtual 82, 3) := by decide +kernel
theorem d_ContentType_takeParameter_125 : decode prog_3_method_5_code 125 = .ok (.bipush 42, 2) := by decide +kernel
theorem d_ContentType_takeParameter_127 : decode prog_3_method_5_code 127 = .ok (.if_icmp .ne 19, 3) := by decide +kernel
theorem d_ContentType_takeParameter_130 : decode prog_3_method_5_code 130 = .ok (.aload 4, 2) := by decide +kernel
theorem d_ContentType_takeParameter_132 : decode prog_3_method_5_code 132 = .ok (.iload_n 1, 1) := by decide +kernel
theorem d_ContentType_takeParameter_133 : decode prog_3_method_5_code 133 = .ok (.iload 5, 2) := by decide +kernel
theorem d_ContentType_takeParameter_135 : decode prog_3_method_5_code 135 = .ok (.iconst 1, 1) := by decide +kernel
theorem d_ContentType_takeParameter_136 : decode prog_3_method_5_code 136 = .ok (.isub, 1) := by decide +kernel
theorem d_ContentType_takeParameter_137 : decode prog_3_method_5_code 137 = .ok (.invokevirtual 82, 3) := by decide +kernel
theorem d_ContentType_takeParameter_140 : decode prog_3_method_5_code 140 = .ok (.invokestatic 86, 3) := by decide +kernel
theorem d_ContentType_takeParameter_143 : decode prog_3_method_5_code 143 = .ok (.goto 4, 3) := by decide +kernel
theorem d_ContentType_takeParameter_146 : decode prog_3_method_5_code 146 = .ok (.iconst (-1), 1) := by decide +kernel
theorem d_ContentType_takeParameter_147 : decode prog_3_method_5_code 147 = .ok (.istore 7, 2) := by decide +kernel
theorem d_ContentType_takeParameter_149 : decode prog_3_method_5_code 149 = .ok (.iload 7, 2) := by decide +kernel
theorem d_ContentType_takeParameter_151 : decode prog_3_method_5_code 151 = .ok (.iconst (-1), 1) := by decide +kernel
theorem d_ContentType_takeParameter_152 : decode prog_3_method_5_code 152 = .ok (.if_icmp .eq 6, 3) := by decide +kernel
theorem d_ContentType_takeParameter_155 : decode prog_3_method_5_code 155 = .ok (.iinc 5 (-2), 3) := by decide +kernel
theorem d_ContentType_takeParameter_158 : decode prog_3_method_5_code 158 = .ok (.iload 5, 2) := by decide +kernel
theorem d_ContentType_takeParameter_160 : decode prog_3_method_5_code 160 = .ok (.ifCond .gt 4, 3) := by decide +kernel
theorem d_ContentType_takeParameter_163 : decode prog_3_method_5_code 163 = .ok (.return_, 1) := by decide +kernel
theorem d_ContentType_takeParameter_164 : decode prog_3_method_5_code 164 = .ok (.aload_n 0, 1) := by decide +kernel
theorem d_ContentType_takeParameter_165 : decode prog_3_method_5_code 165 = .ok (.getfield 22, 3) := by decide +kernel
theorem d_ContentType_takeParameter_168 : decode prog_3_method_5_code 168 = .ok (.aload 4, 2) := by decide +kernel
theorem d_ContentType_takeParameter_170 : decode prog_3_method_5_code 170 = .ok (.iload_n 1, 1) := by decide +kernel
theorem d_ContentType_takeParameter_171 : decode prog_3_method_5_code 171 = .ok (.iload 5, 2) := by decide +kernel
theorem d_ContentType_takeParameter_173 : decode prog_3_method_5_code 173 = .ok (.invokevirtual 75, 3) := by decide +kernel
theorem d_ContentType_takeParameter_176 : decode prog_3_method_5_code 176 = .ok (.aload_n 0, 1) := by decide +kernel
theorem d_ContentType_takeParameter_177 : decode prog_3_method_5_code 177 = .ok (.getfield 22, 3) := by decide +kernel
theorem d_ContentType_takeParameter_180 : decode prog_3_method_5_code 180 = .ok (.invokevirtual 79, 3) := by decide +kernel
theorem d_ContentType_takeParameter_183 : decode prog_3_method_5_code 183 = .ok (.aload_n 0, 1) := by decide +kernel
theorem d_ContentType_takeParameter_184 : decode prog_3_method_5_code 184 = .ok (.getfield 25, 3) := by decide +kernel
theorem d_ContentType_takeParameter_187 : decode prog_3_method_5_code 187 = .ok (.aload 4, 2) := by decide +kernel
theorem d_ContentType_takeParameter_189 : decode prog_3_method_5_code 189 = .ok (.iload_n 1, 1) := by decide +kernel
theorem d_ContentType_takeParameter_190 : decode prog_3_method_5_code 190 = .ok (.iconst 2, 1) := by decide +kernel
theorem d_ContentType_takeParameter_191 : decode prog_3_method_5_code 191 = .ok (.iadd, 1) := by decide +kernel
theorem d_ContentType_takeParameter_192 : decode prog_3_method_5_code 192 = .ok (.invokevirtual 89, 3) := by decide +kernel
theorem d_ContentType_takeParameter_195 : decode prog_3_method_5_code 195 = .ok (.aload_n 0, 1) := by decide +kernel
theorem d_ContentType_takeParameter_196 : decode prog_3_method_5_code 196 = .ok (.getfield 25, 3) := by decide +kernel
theorem d_ContentType_takeParameter_199 : decode prog_3_method_5_code 199 = .ok (.invokevirtual 79, 3) := by decide +kernel
theorem d_ContentType_takeParameter_202 : decode prog_3_method_5_code 202 = .ok (.aload_n 0, 1) := by decide +kernel
theorem d_ContentType_takeParameter_203 : decode prog_3_method_5_code 203 = .ok (.getfield 31, 3) := by decide +kernel
theorem d_ContentType_takeParameter_206 : decode prog_3_method_5_code 206 = .ok (.iload 7, 2) := by decide +kernel
theorem d_ContentType_takeParameter_208 : decode prog_3_method_5_code 208 = .ok (.invokevirtual 93, 3) := by decide +kernel
theorem d_ContentType_takeParameter_211 : decode prog_3_method_5_code 211 = .ok (.aload_n 0, 1) := by decide +kernel
theorem d_ContentType_takeParameter_212 : decode prog_3_method_5_code 212 = .ok (.getfield 35, 3) := by decide +kernel
theorem d_ContentType_takeParameter_215 : decode prog_3_method_5_code 215 = .ok (.iload 6, 2) := by decide +kernel
theorem d_ContentType_takeParameter_217 : decode prog_3_method_5_code 217 = .ok (.ifCond .eq 7, 3) := by decide +kernel
theorem d_ContentType_takeParameter_220 : decode prog_3_method_5_code 220 = .ok (.iconst 1, 1) := by decide +kernel
theorem d_ContentType_takeParameter_221 : decode prog_3_method_5_code 221 = .ok (.goto 4, 3) := by decide +kernel
theorem d_ContentType_takeParameter_224 : decode prog_3_method_5_code 224 = .ok (.iconst 0, 1) := by decide +kernel
theorem d_ContentType_takeParameter_225 : decode prog_3_method_5_code 225 = .ok (.invokevirtual 93, 3) := by decide +kernel
theorem d_ContentType_takeParameter_228 : decode prog_3_method_5_code 228 = .ok (.return_, 1) := by decide +kernel
