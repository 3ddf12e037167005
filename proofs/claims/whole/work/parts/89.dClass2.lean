theorem d_Addresses_takeGathered_52 : decode prog_2_method_10_code 52 = .ok (.invokevirtual 63, 3) := by decide +kernel
theorem d_Addresses_takeGathered_55 : decode prog_2_method_10_code 55 = .ok (.return_, 1) := by decide +kernel
theorem d_Addresses_takeColon_0 : decode prog_2_method_11_code 0 = .ok (.aload_n 0, 1) := by decide +kernel
theorem d_Addresses_takeColon_1 : decode prog_2_method_11_code 1 = .ok (.getfield 39, 3) := by decide +kernel
theorem d_Addresses_takeColon_4 : decode prog_2_method_11_code 4 = .ok (.iconst (-1), 1) := by decide +kernel
theorem d_Addresses_takeColon_5 : decode prog_2_method_11_code 5 = .ok (.if_icmp .eq 14, 3) := by decide +kernel
theorem d_Addresses_takeColon_8 : decode prog_2_method_11_code 8 = .ok (.aload_n 0, 1) := by decide +kernel
theorem d_Addresses_takeColon_9 : decode prog_2_method_11_code 9 = .ok (.dup, 1) := by decide +kernel
theorem d_Addresses_takeColon_10 : decode prog_2_method_11_code 10 = .ok (.getfield 35, 3) := by decide +kernel
theorem d_Addresses_takeColon_13 : decode prog_2_method_11_code 13 = .ok (.iconst 1, 1) := by decide +kernel
theorem d_Addresses_takeColon_14 : decode prog_2_method_11_code 14 = .ok (.iadd, 1) := by decide +kernel
theorem d_Addresses_takeColon_15 : decode prog_2_method_11_code 15 = .ok (.putfield 35, 3) := by decide +kernel
theorem d_Addresses_takeColon_18 : decode prog_2_method_11_code 18 = .ok (.return_, 1) := by decide +kernel
theorem d_Addresses_takeColon_19 : decode prog_2_method_11_code 19 = .ok (.aload_n 0, 1) := by decide +kernel
theorem d_Addresses_takeColon_20 : decode prog_2_method_11_code 20 = .ok (.aload_n 0, 1) := by decide +kernel
theorem d_Addresses_takeColon_21 : decode prog_2_method_11_code 21 = .ok (.getfield 29, 3) := by decide +kernel
theorem d_Addresses_takeColon_24 : decode prog_2_method_11_code 24 = .ok (.invokevirtual 85, 3) := by decide +kernel
theorem d_Addresses_takeColon_27 : decode prog_2_method_11_code 27 = .ok (.putfield 39, 3) := by decide +kernel
theorem d_Addresses_takeColon_30 : decode prog_2_method_11_code 30 = .ok (.aload_n 0, 1) := by decide +kernel
theorem d_Addresses_takeColon_31 : decode prog_2_method_11_code 31 = .ok (.aload_n 0, 1) := by decide +kernel
theorem d_Addresses_takeColon_32 : decode prog_2_method_11_code 32 = .ok (.getfield 32, 3) := by decide +kernel
theorem d_Addresses_takeColon_35 : decode prog_2_method_11_code 35 = .ok (.invokevirtual 45, 3) := by decide +kernel
theorem d_Addresses_takeColon_38 : decode prog_2_method_11_code 38 = .ok (.invokevirtual 86, 3) := by decide +kernel
theorem d_Addresses_takeColon_41 : decode prog_2_method_11_code 41 = .ok (.ifCond .eq 21, 3) := by decide +kernel
theorem d_Addresses_takeColon_44 : decode prog_2_method_11_code 44 = .ok (.aload_n 0, 1) := by decide +kernel
theorem d_Addresses_takeColon_45 : decode prog_2_method_11_code 45 = .ok (.aload_n 0, 1) := by decide +kernel
theorem d_Addresses_takeColon_46 : decode prog_2_method_11_code 46 = .ok (.getfield 29, 3) := by decide +kernel
theorem d_Addresses_takeColon_49 : decode prog_2_method_11_code 49 = .ok (.aload_n 0, 1) := by decide +kernel
theorem d_Addresses_takeColon_50 : decode prog_2_method_11_code 50 = .ok (.getfield 32, 3) := by decide +kernel
theorem d_Addresses_takeColon_53 : decode prog_2_method_11_code 53 = .ok (.invokevirtual 45, 3) := by decide +kernel
theorem d_Addresses_takeColon_56 : decode prog_2_method_11_code 56 = .ok (.invokevirtual 90, 3) := by decide +kernel
theorem d_Addresses_takeColon_59 : decode prog_2_method_11_code 59 = .ok (.goto 13, 3) := by decide +kernel
theorem d_Addresses_takeColon_62 : decode prog_2_method_11_code 62 = .ok (.aload_n 0, 1) := by decide +kernel
theorem d_Addresses_takeColon_63 : decode prog_2_method_11_code 63 = .ok (.dup, 1) := by decide +kernel
theorem d_Addresses_takeColon_64 : decode prog_2_method_11_code 64 = .ok (.getfield 35, 3) := by decide +kernel
theorem d_Addresses_takeColon_67 : decode prog_2_method_11_code 67 = .ok (.iconst 1, 1) := by decide +kernel
theorem d_Addresses_takeColon_68 : decode prog_2_method_11_code 68 = .ok (.iadd, 1) := by decide +kernel
theorem d_Addresses_takeColon_69 : decode prog_2_method_11_code 69 = .ok (.putfield 35, 3) := by decide +kernel
theorem d_Addresses_takeColon_72 : decode prog_2_method_11_code 72 = .ok (.aload_n 0, 1) := by decide +kernel
theorem d_Addresses_takeColon_73 : decode prog_2_method_11_code 73 = .ok (.getfield 29, 3) := by decide +kernel
theorem d_Addresses_takeColon_76 : decode prog_2_method_11_code 76 = .ok (.invokevirtual 94, 3) := by decide +kernel
theorem d_Addresses_takeColon_79 : decode prog_2_method_11_code 79 = .ok (.return_, 1) := by decide +kernel
theorem d_Addresses_isName_0 : decode prog_2_method_15_code 0 = .ok (.iconst 0, 1) := by decide +kernel
theorem d_Addresses_isName_1 : decode prog_2_method_15_code 1 = .ok (.istore_n 2, 1) := by decide +kernel
theorem d_Addresses_isName_2 : decode prog_2_method_15_code 2 = .ok (.iload_n 2, 1) := by decide +kernel
theorem d_Addresses_isName_3 : decode prog_2_method_15_code 3 = .ok (.iload_n 1, 1) := by decide +kernel
theorem d_Addresses_isName_4 : decode prog_2_method_15_code 4 = .ok (.if_icmp .ge 33, 3) := by decide +kernel
theorem d_Addresses_isName_7 : decode prog_2_method_15_code 7 = .ok (.aload_n 0, 1) := by decide +kernel
theorem d_Addresses_isName_8 : decode prog_2_method_15_code 8 = .ok (.iload_n 2, 1) := by decide +kernel
theorem d_Addresses_isName_9 : decode prog_2_method_15_code 9 = .ok (.invokevirtual 100, 3) := by decide +kernel
theorem d_Addresses_isName_12 : decode prog_2_method_15_code 12 = .ok (.istore_n 3, 1) := by decide +kernel
theorem d_Addresses_isName_13 : decode prog_2_method_15_code 13 = .ok (.iload_n 3, 1) := by decide +kernel
theorem d_Addresses_isName_14 : decode prog_2_method_15_code 14 = .ok (.iconst 1, 1) := by decide +kernel
theorem d_Addresses_isName_15 : decode prog_2_method_15_code 15 = .ok (.if_icmp .eq 16, 3) := by decide +kernel
theorem d_Addresses_isName_18 : decode prog_2_method_15_code 18 = .ok (.iload_n 3, 1) := by decide +kernel
theorem d_Addresses_isName_19 : decode prog_2_method_15_code 19 = .ok (.iconst 2, 1) := by decide +kernel
theorem d_Addresses_isName_20 : decode prog_2_method_15_code 20 = .ok (.if_icmp .eq 11, 3) := by decide +kernel
theorem d_Addresses_isName_23 : decode prog_2_method_15_code 23 = .ok (.iload_n 3, 1) := by decide +kernel
theorem d_Addresses_isName_24 : decode prog_2_method_15_code 24 = .ok (.bipush 46, 2) := by decide +kernel
theorem d_Addresses_isName_26 : decode prog_2_method_15_code 26 = .ok (.if_icmp .eq 5, 3) := by decide +kernel
theorem d_Addresses_isName_29 : decode prog_2_method_15_code 29 = .ok (.iconst 0, 1) := by decide +kernel
theorem d_Addresses_isName_30 : decode prog_2_method_15_code 30 = .ok (.ireturn, 1) := by decide +kernel
theorem d_Addresses_isName_31 : decode prog_2_method_15_code 31 = .ok (.iinc 2 1, 3) := by decide +kernel
theorem d_Addresses_isName_34 : decode prog_2_method_15_code 34 = .ok (.goto (-32), 3) := by decide +kernel
theorem d_Addresses_isName_37 : decode prog_2_method_15_code 37 = .ok (.iconst 1, 1) := by decide +kernel
theorem d_Addresses_isName_38 : decode prog_2_method_15_code 38 = .ok (.ireturn, 1) := by decide +kernel
theorem d_Addresses_kindAt_0 : decode prog_2_method_13_code 0 = .ok (.aload_n 0, 1) := by decide +kernel
theorem d_Addresses_kindAt_1 : decode prog_2_method_13_code 1 = .ok (.getfield 9, 3) := by decide +kernel
theorem d_Addresses_kindAt_4 : decode prog_2_method_13_code 4 = .ok (.invokevirtual 66, 3) := by decide +kernel
theorem d_Addresses_kindAt_7 : decode prog_2_method_13_code 7 = .ok (.aload_n 0, 1) := by decide +kernel
theorem d_Addresses_kindAt_8 : decode prog_2_method_13_code 8 = .ok (.getfield 32, 3) := by decide +kernel
theorem d_Addresses_kindAt_11 : decode prog_2_method_13_code 11 = .ok (.iload_n 1, 1) := by decide +kernel
theorem d_Addresses_kindAt_12 : decode prog_2_method_13_code 12 = .ok (.invokevirtual 49, 3) := by decide +kernel
theorem d_Addresses_kindAt_15 : decode prog_2_method_13_code 15 = .ok (.invokevirtual 49, 3) := by decide +kernel
theorem d_Addresses_kindAt_18 : decode prog_2_method_13_code 18 = .ok (.ireturn, 1) := by decide +kernel
theorem d_Addresses_putName_0 : decode prog_2_method_19_code 0 = .ok (.iconst 0, 1) := by decide +kernel
theorem d_Addresses_putName_1 : decode prog_2_method_19_code 1 = .ok (.istore_n 3, 1) := by decide +kernel
theorem d_Addresses_putName_2 : decode prog_2_method_19_code 2 = .ok (.iload_n 3, 1) := by decide +kernel
theorem d_Addresses_putName_3 : decode prog_2_method_19_code 3 = .ok (.iload_n 2, 1) := by decide +kernel
theorem d_Addresses_putName_4 : decode prog_2_method_19_code 4 = .ok (.if_icmp .ge 48, 3) := by decide +kernel
theorem d_Addresses_putName_7 : decode prog_2_method_19_code 7 = .ok (.iload_n 3, 1) := by decide +kernel
theorem d_Addresses_putName_8 : decode prog_2_method_19_code 8 = .ok (.ifCond .le 19, 3) := by decide +kernel
theorem d_Addresses_putName_11 : decode prog_2_method_19_code 11 = .ok (.aload_n 0, 1) := by decide +kernel
theorem d_Addresses_putName_12 : decode prog_2_method_19_code 12 = .ok (.iload_n 3, 1) := by decide +kernel
theorem d_Addresses_putName_13 : decode prog_2_method_19_code 13 = .ok (.invokevirtual 100, 3) := by decide +kernel
theorem d_Addresses_putName_16 : decode prog_2_method_19_code 16 = .ok (.bipush 46, 2) := by decide +kernel
theorem d_Addresses_putName_18 : decode prog_2_method_19_code 18 = .ok (.if_icmp .eq 9, 3) := by decide +kernel
theorem d_Addresses_putName_21 : decode prog_2_method_19_code 21 = .ok (.aload_n 1, 1) := by decide +kernel
theorem d_Addresses_putName_22 : decode prog_2_method_19_code 22 = .ok (.bipush 32, 2) := by decide +kernel
theorem d_Addresses_putName_24 : decode prog_2_method_19_code 24 = .ok (.invokevirtual 125, 3) := by decide +kernel
theorem d_Addresses_putName_27 : decode prog_2_method_19_code 27 = .ok (.aload_n 1, 1) := by decide +kernel
theorem d_Addresses_putName_28 : decode prog_2_method_19_code 28 = .ok (.aload_n 0, 1) := by decide +kernel
theorem d_Addresses_putName_29 : decode prog_2_method_19_code 29 = .ok (.getfield 9, 3) := by decide +kernel
theorem d_Addresses_putName_32 : decode prog_2_method_19_code 32 = .ok (.invokevirtual 115, 3) := by decide +kernel
theorem d_Addresses_putName_35 : decode prog_2_method_19_code 35 = .ok (.aload_n 0, 1) := by decide +kernel
theorem d_Addresses_putName_36 : decode prog_2_method_19_code 36 = .ok (.getfield 32, 3) := by decide +kernel
theorem d_Addresses_putName_39 : decode prog_2_method_19_code 39 = .ok (.iload_n 3, 1) := by decide +kernel
theorem d_Addresses_putName_40 : decode prog_2_method_19_code 40 = .ok (.invokevirtual 49, 3) := by decide +kernel
theorem d_Addresses_putName_43 : decode prog_2_method_19_code 43 = .ok (.invokevirtual 118, 3) := by decide +kernel
theorem d_Addresses_putName_46 : decode prog_2_method_19_code 46 = .ok (.iinc 3 1, 3) := by decide +kernel
theorem d_Addresses_putName_49 : decode prog_2_method_19_code 49 = .ok (.goto (-47), 3) := by decide +kernel
theorem d_Addresses_putName_52 : decode prog_2_method_19_code 52 = .ok (.return_, 1) := by decide +kernel
theorem d_Words_texts_0 : decode prog_9_method_2_code 0 = .ok (.aload_n 0, 1) := by decide +kernel
theorem d_Words_texts_1 : decode prog_9_method_2_code 1 = .ok (.getfield 12, 3) := by decide +kernel
theorem d_Words_texts_4 : decode prog_9_method_2_code 4 = .ok (.areturn, 1) := by decide +kernel
theorem d_Texts_putText_0 : decode prog_8_method_6_code 0 = .ok (.aload_n 1, 1) := by decide +kernel
theorem d_Texts_putText_1 : decode prog_8_method_6_code 1 = .ok (.getfield 18, 3) := by decide +kernel
theorem d_Texts_putText_4 : decode prog_8_method_6_code 4 = .ok (.iload_n 2, 1) := by decide +kernel
theorem d_Texts_putText_5 : decode prog_8_method_6_code 5 = .ok (.invokevirtual 29, 3) := by decide +kernel
theorem d_Texts_putText_8 : decode prog_8_method_6_code 8 = .ok (.istore_n 3, 1) := by decide +kernel
theorem d_Texts_putText_9 : decode prog_8_method_6_code 9 = .ok (.aload_n 1, 1) := by decide +kernel
theorem d_Texts_putText_10 : decode prog_8_method_6_code 10 = .ok (.iload_n 2, 1) := by decide +kernel
theorem d_Texts_putText_11 : decode prog_8_method_6_code 11 = .ok (.invokevirtual 33, 3) := by decide +kernel
theorem d_Texts_putText_14 : decode prog_8_method_6_code 14 = .ok (.istore 4, 2) := by decide +kernel
theorem d_Texts_putText_16 : decode prog_8_method_6_code 16 = .ok (.iconst 0, 1) := by decide +kernel
theorem d_Texts_putText_17 : decode prog_8_method_6_code 17 = .ok (.istore 5, 2) := by decide +kernel
theorem d_Texts_putText_19 : decode prog_8_method_6_code 19 = .ok (.iload 5, 2) := by decide +kernel
theorem d_Texts_putText_21 : decode prog_8_method_6_code 21 = .ok (.iload 4, 2) := by decide +kernel
theorem d_Texts_putText_23 : decode prog_8_method_6_code 23 = .ok (.if_icmp .ge 27, 3) := by decide +kernel
theorem d_Texts_putText_26 : decode prog_8_method_6_code 26 = .ok (.aload_n 0, 1) := by decide +kernel
theorem d_Texts_putText_27 : decode prog_8_method_6_code 27 = .ok (.getfield 12, 3) := by decide +kernel
theorem d_Texts_putText_30 : decode prog_8_method_6_code 30 = .ok (.aload_n 1, 1) := by decide +kernel
theorem d_Texts_putText_31 : decode prog_8_method_6_code 31 = .ok (.getfield 12, 3) := by decide +kernel
theorem d_Texts_putText_34 : decode prog_8_method_6_code 34 = .ok (.iload_n 3, 1) := by decide +kernel
theorem d_Texts_putText_35 : decode prog_8_method_6_code 35 = .ok (.iload 5, 2) := by decide +kernel
theorem d_Texts_putText_37 : decode prog_8_method_6_code 37 = .ok (.iadd, 1) := by decide +kernel
theorem d_Texts_putText_38 : decode prog_8_method_6_code 38 = .ok (.invokevirtual 29, 3) := by decide +kernel
theorem d_Texts_putText_41 : decode prog_8_method_6_code 41 = .ok (.invokevirtual 21, 3) := by decide +kernel
theorem d_Texts_putText_44 : decode prog_8_method_6_code 44 = .ok (.iinc 5 1, 3) := by decide +kernel
theorem d_Texts_putText_47 : decode prog_8_method_6_code 47 = .ok (.goto (-28), 3) := by decide +kernel
theorem d_Texts_putText_50 : decode prog_8_method_6_code 50 = .ok (.return_, 1) := by decide +kernel
theorem d_Addresses_takeMailbox_0 : decode prog_2_method_12_code 0 = .ok (.aload_n 0, 1) := by decide +kernel
theorem d_Addresses_takeMailbox_1 : decode prog_2_method_12_code 1 = .ok (.invokevirtual 97, 3) := by decide +kernel
theorem d_Addresses_takeMailbox_4 : decode prog_2_method_12_code 4 = .ok (.istore_n 1, 1) := by decide +kernel
theorem d_Addresses_takeMailbox_5 : decode prog_2_method_12_code 5 = .ok (.iconst 0, 1) := by decide +kernel
theorem d_Addresses_takeMailbox_6 : decode prog_2_method_12_code 6 = .ok (.istore_n 2, 1) := by decide +kernel
theorem d_Addresses_takeMailbox_7 : decode prog_2_method_12_code 7 = .ok (.aload_n 0, 1) := by decide +kernel
theorem d_Addresses_takeMailbox_8 : decode prog_2_method_12_code 8 = .ok (.getfield 32, 3) := by decide +kernel
theorem d_Addresses_takeMailbox_11 : decode prog_2_method_12_code 11 = .ok (.invokevirtual 45, 3) := by decide +kernel
theorem d_Addresses_takeMailbox_14 : decode prog_2_method_12_code 14 = .ok (.istore_n 3, 1) := by decide +kernel
theorem d_Addresses_takeMailbox_15 : decode prog_2_method_12_code 15 = .ok (.iload_n 1, 1) := by decide +kernel
theorem d_Addresses_takeMailbox_16 : decode prog_2_method_12_code 16 = .ok (.iconst (-1), 1) := by decide +kernel
theorem d_Addresses_takeMailbox_17 : decode prog_2_method_12_code 17 = .ok (.if_icmp .eq 35, 3) := by decide +kernel
theorem d_Addresses_takeMailbox_20 : decode prog_2_method_12_code 20 = .ok (.iinc 3 (-1), 3) := by decide +kernel
theorem d_Addresses_takeMailbox_23 : decode prog_2_method_12_code 23 = .ok (.aload_n 0, 1) := by decide +kernel
theorem d_Addresses_takeMailbox_24 : decode prog_2_method_12_code 24 = .ok (.iload_n 3, 1) := by decide +kernel
theorem d_Addresses_takeMailbox_25 : decode prog_2_method_12_code 25 = .ok (.invokevirtual 100, 3) := by decide +kernel
theorem d_Addresses_takeMailbox_28 : decode prog_2_method_12_code 28 = .ok (.bipush 62, 2) := by decide +kernel
theorem d_Addresses_takeMailbox_30 : decode prog_2_method_12_code 30 = .ok (.if_icmp .ne 11, 3) := by decide +kernel
theorem d_Addresses_takeMailbox_33 : decode prog_2_method_12_code 33 = .ok (.aload_n 0, 1) := by decide +kernel
theorem d_Addresses_takeMailbox_34 : decode prog_2_method_12_code 34 = .ok (.iload_n 1, 1) := by decide +kernel
theorem d_Addresses_takeMailbox_35 : decode prog_2_method_12_code 35 = .ok (.invokevirtual 86, 3) := by decide +kernel
theorem d_Addresses_takeMailbox_38 : decode prog_2_method_12_code 38 = .ok (.ifCond .ne 5, 3) := by decide +kernel
theorem d_Addresses_takeMailbox_41 : decode prog_2_method_12_code 41 = .ok (.iconst 0, 1) := by decide +kernel
theorem d_Addresses_takeMailbox_42 : decode prog_2_method_12_code 42 = .ok (.ireturn, 1) := by decide +kernel
theorem d_Addresses_takeMailbox_43 : decode prog_2_method_12_code 43 = .ok (.aload_n 0, 1) := by decide +kernel
theorem d_Addresses_takeMailbox_44 : decode prog_2_method_12_code 44 = .ok (.iload_n 1, 1) := by decide +kernel
theorem d_Addresses_takeMailbox_45 : decode prog_2_method_12_code 45 = .ok (.iconst 1, 1) := by decide +kernel
theorem d_Addresses_takeMailbox_46 : decode prog_2_method_12_code 46 = .ok (.iadd, 1) := by decide +kernel
theorem d_Addresses_takeMailbox_47 : decode prog_2_method_12_code 47 = .ok (.iload_n 3, 1) := by decide +kernel
theorem d_Addresses_takeMailbox_48 : decode prog_2_method_12_code 48 = .ok (.invokevirtual 103, 3) := by decide +kernel
theorem d_Addresses_takeMailbox_51 : decode prog_2_method_12_code 51 = .ok (.istore_n 2, 1) := by decide +kernel
theorem d_Addresses_takeMailbox_52 : decode prog_2_method_12_code 52 = .ok (.aload_n 0, 1) := by decide +kernel
theorem d_Addresses_takeMailbox_53 : decode prog_2_method_12_code 53 = .ok (.iload_n 2, 1) := by decide +kernel
theorem d_Addresses_takeMailbox_54 : decode prog_2_method_12_code 54 = .ok (.iload_n 3, 1) := by decide +kernel
theorem d_Addresses_takeMailbox_55 : decode prog_2_method_12_code 55 = .ok (.iconst 1, 1) := by decide +kernel
theorem d_Addresses_takeMailbox_56 : decode prog_2_method_12_code 56 = .ok (.invokevirtual 107, 3) := by decide +kernel
theorem d_Addresses_takeMailbox_59 : decode prog_2_method_12_code 59 = .ok (.istore 4, 2) := by decide +kernel
theorem d_Addresses_takeMailbox_61 : decode prog_2_method_12_code 61 = .ok (.iload 4, 2) := by decide +kernel
theorem d_Addresses_takeMailbox_63 : decode prog_2_method_12_code 63 = .ok (.iconst (-1), 1) := by decide +kernel
theorem d_Addresses_takeMailbox_64 : decode prog_2_method_12_code 64 = .ok (.if_icmp .eq 19, 3) := by decide +kernel
theorem d_Addresses_takeMailbox_67 : decode prog_2_method_12_code 67 = .ok (.iload 4, 2) := by decide +kernel
theorem d_Addresses_takeMailbox_69 : decode prog_2_method_12_code 69 = .ok (.iload_n 3, 1) := by decide +kernel
theorem d_Addresses_takeMailbox_70 : decode prog_2_method_12_code 70 = .ok (.if_icmp .ge 15, 3) := by decide +kernel
theorem d_Addresses_takeMailbox_73 : decode prog_2_method_12_code 73 = .ok (.aload_n 0, 1) := by decide +kernel
theorem d_Addresses_takeMailbox_74 : decode prog_2_method_12_code 74 = .ok (.iload 4, 2) := by decide +kernel
theorem d_Addresses_takeMailbox_76 : decode prog_2_method_12_code 76 = .ok (.iload_n 3, 1) := by decide +kernel
theorem d_Addresses_takeMailbox_77 : decode prog_2_method_12_code 77 = .ok (.invokevirtual 111, 3) := by decide +kernel
theorem d_Addresses_takeMailbox_80 : decode prog_2_method_12_code 80 = .ok (.ifCond .ne 5, 3) := by decide +kernel
theorem d_Addresses_takeMailbox_83 : decode prog_2_method_12_code 83 = .ok (.iconst 0, 1) := by decide +kernel
theorem d_Addresses_takeMailbox_84 : decode prog_2_method_12_code 84 = .ok (.ireturn, 1) := by decide +kernel
theorem d_Addresses_takeMailbox_85 : decode prog_2_method_12_code 85 = .ok (.iload_n 1, 1) := by decide +kernel
theorem d_Addresses_takeMailbox_86 : decode prog_2_method_12_code 86 = .ok (.ifCond .le 15, 3) := by decide +kernel
theorem d_Addresses_takeMailbox_89 : decode prog_2_method_12_code 89 = .ok (.aload_n 0, 1) := by decide +kernel
theorem d_Addresses_takeMailbox_90 : decode prog_2_method_12_code 90 = .ok (.aload_n 0, 1) := by decide +kernel
theorem d_Addresses_takeMailbox_91 : decode prog_2_method_12_code 91 = .ok (.getfield 18, 3) := by decide +kernel
theorem d_Addresses_takeMailbox_94 : decode prog_2_method_12_code 94 = .ok (.iload_n 1, 1) := by decide +kernel
theorem d_Addresses_takeMailbox_95 : decode prog_2_method_12_code 95 = .ok (.invokevirtual 90, 3) := by decide +kernel
theorem d_Addresses_takeMailbox_98 : decode prog_2_method_12_code 98 = .ok (.goto 21, 3) := by decide +kernel
theorem d_Addresses_takeMailbox_101 : decode prog_2_method_12_code 101 = .ok (.aload_n 0, 1) := by decide +kernel
theorem d_Addresses_takeMailbox_102 : decode prog_2_method_12_code 102 = .ok (.getfield 18, 3) := by decide +kernel
theorem d_Addresses_takeMailbox_105 : decode prog_2_method_12_code 105 = .ok (.aload_n 0, 1) := by decide +kernel
theorem d_Addresses_takeMailbox_106 : decode prog_2_method_12_code 106 = .ok (.getfield 9, 3) := by decide +kernel
theorem d_Addresses_takeMailbox_109 : decode prog_2_method_12_code 109 = .ok (.invokevirtual 115, 3) := by decide +kernel
theorem d_Addresses_takeMailbox_112 : decode prog_2_method_12_code 112 = .ok (.aload_n 0, 1) := by decide +kernel
theorem d_Addresses_takeMailbox_113 : decode prog_2_method_12_code 113 = .ok (.getfield 42, 3) := by decide +kernel
theorem d_Addresses_takeMailbox_116 : decode prog_2_method_12_code 116 = .ok (.invokevirtual 118, 3) := by decide +kernel
theorem d_Addresses_takeMailbox_119 : decode prog_2_method_12_code 119 = .ok (.aload_n 0, 1) := by decide +kernel
theorem d_Addresses_takeMailbox_120 : decode prog_2_method_12_code 120 = .ok (.getfield 18, 3) := by decide +kernel
theorem d_Addresses_takeMailbox_123 : decode prog_2_method_12_code 123 = .ok (.invokevirtual 94, 3) := by decide +kernel
theorem d_Addresses_takeMailbox_126 : decode prog_2_method_12_code 126 = .ok (.aload_n 0, 1) := by decide +kernel
theorem d_Addresses_takeMailbox_127 : decode prog_2_method_12_code 127 = .ok (.iload_n 2, 1) := by decide +kernel
theorem d_Addresses_takeMailbox_128 : decode prog_2_method_12_code 128 = .ok (.iload 4, 2) := by decide +kernel
theorem d_Addresses_takeMailbox_130 : decode prog_2_method_12_code 130 = .ok (.invokevirtual 121, 3) := by decide +kernel
theorem d_Addresses_takeMailbox_133 : decode prog_2_method_12_code 133 = .ok (.aload_n 0, 1) := by decide +kernel
theorem d_Addresses_takeMailbox_134 : decode prog_2_method_12_code 134 = .ok (.iload 4, 2) := by decide +kernel
theorem d_Addresses_takeMailbox_136 : decode prog_2_method_12_code 136 = .ok (.iconst 1, 1) := by decide +kernel
theorem d_Addresses_takeMailbox_137 : decode prog_2_method_12_code 137 = .ok (.iadd, 1) := by decide +kernel
theorem d_Addresses_takeMailbox_138 : decode prog_2_method_12_code 138 = .ok (.iload_n 3, 1) := by decide +kernel
theorem d_Addresses_takeMailbox_139 : decode prog_2_method_12_code 139 = .ok (.invokevirtual 121, 3) := by decide +kernel
theorem d_Addresses_takeMailbox_142 : decode prog_2_method_12_code 142 = .ok (.aload_n 0, 1) := by decide +kernel
theorem d_Addresses_takeMailbox_143 : decode prog_2_method_12_code 143 = .ok (.getfield 25, 3) := by decide +kernel
theorem d_Addresses_takeMailbox_146 : decode prog_2_method_12_code 146 = .ok (.aload_n 0, 1) := by decide +kernel
theorem d_Addresses_takeMailbox_147 : decode prog_2_method_12_code 147 = .ok (.getfield 39, 3) := by decide +kernel
theorem d_Addresses_takeMailbox_150 : decode prog_2_method_12_code 150 = .ok (.invokevirtual 75, 3) := by decide +kernel
theorem d_Addresses_takeMailbox_153 : decode prog_2_method_12_code 153 = .ok (.iconst 1, 1) := by decide +kernel
theorem d_Addresses_takeMailbox_154 : decode prog_2_method_12_code 154 = .ok (.ireturn, 1) := by decide +kernel
theorem d_Addresses_firstOpen_0 : decode prog_2_method_14_code 0 = .ok (.iconst 0, 1) := by decide +kernel
theorem d_Addresses_firstOpen_1 : decode prog_2_method_14_code 1 = .ok (.istore_n 1, 1) := by decide +kernel
theorem d_Addresses_firstOpen_2 : decode prog_2_method_14_code 2 = .ok (.iload_n 1, 1) := by decide +kernel
theorem d_Addresses_firstOpen_3 : decode prog_2_method_14_code 3 = .ok (.aload_n 0, 1) := by decide +kernel
theorem d_Addresses_firstOpen_4 : decode prog_2_method_14_code 4 = .ok (.getfield 32, 3) := by decide +kernel
theorem d_Addresses_firstOpen_7 : decode prog_2_method_14_code 7 = .ok (.invokevirtual 45, 3) := by decide +kernel
theorem d_Addresses_firstOpen_10 : decode prog_2_method_14_code 10 = .ok (.if_icmp .ge 21, 3) := by decide +kernel
theorem d_Addresses_firstOpen_13 : decode prog_2_method_14_code 13 = .ok (.aload_n 0, 1) := by decide +kernel
theorem d_Addresses_firstOpen_14 : decode prog_2_method_14_code 14 = .ok (.iload_n 1, 1) := by decide +kernel
theorem d_Addresses_firstOpen_15 : decode prog_2_method_14_code 15 = .ok (.invokevirtual 100, 3) := by decide +kernel
theorem d_Addresses_firstOpen_18 : decode prog_2_method_14_code 18 = .ok (.bipush 60, 2) := by decide +kernel
theorem d_Addresses_firstOpen_20 : decode prog_2_method_14_code 20 = .ok (.if_icmp .ne 5, 3) := by decide +kernel
theorem d_Addresses_firstOpen_23 : decode prog_2_method_14_code 23 = .ok (.iload_n 1, 1) := by decide +kernel
theorem d_Addresses_firstOpen_24 : decode prog_2_method_14_code 24 = .ok (.ireturn, 1) := by decide +kernel
theorem d_Addresses_firstOpen_25 : decode prog_2_method_14_code 25 = .ok (.iinc 1 1, 3) := by decide +kernel
theorem d_Addresses_firstOpen_28 : decode prog_2_method_14_code 28 = .ok (.goto (-26), 3) := by decide +kernel
theorem d_Addresses_firstOpen_31 : decode prog_2_method_14_code 31 = .ok (.iconst (-1), 1) := by decide +kernel
theorem d_Addresses_firstOpen_32 : decode prog_2_method_14_code 32 = .ok (.ireturn, 1) := by decide +kernel
theorem d_Addresses_behindRoute_0 : decode prog_2_method_16_code 0 = .ok (.iload_n 1, 1) := by decide +kernel
theorem d_Addresses_behindRoute_1 : decode prog_2_method_16_code 1 = .ok (.istore_n 3, 1) := by decide +kernel
theorem d_Addresses_behindRoute_2 : decode prog_2_method_16_code 2 = .ok (.iload_n 3, 1) := by decide +kernel
theorem d_Addresses_behindRoute_3 : decode prog_2_method_16_code 3 = .ok (.iload_n 2, 1) := by decide +kernel
theorem d_Addresses_behindRoute_4 : decode prog_2_method_16_code 4 = .ok (.if_icmp .ge 56, 3) := by decide +kernel
theorem d_Addresses_behindRoute_7 : decode prog_2_method_16_code 7 = .ok (.aload_n 0, 1) := by decide +kernel
theorem d_Addresses_behindRoute_8 : decode prog_2_method_16_code 8 = .ok (.iload_n 3, 1) := by decide +kernel
theorem d_Addresses_behindRoute_9 : decode prog_2_method_16_code 9 = .ok (.invokevirtual 100, 3) := by decide +kernel
theorem d_Addresses_behindRoute_12 : decode prog_2_method_16_code 12 = .ok (.istore 4, 2) := by decide +kernel
theorem d_Addresses_behindRoute_14 : decode prog_2_method_16_code 14 = .ok (.iload 4, 2) := by decide +kernel
theorem d_Addresses_behindRoute_16 : decode prog_2_method_16_code 16 = .ok (.bipush 58, 2) := by decide +kernel
theorem d_Addresses_behindRoute_18 : decode prog_2_method_16_code 18 = .ok (.if_icmp .ne 7, 3) := by decide +kernel
theorem d_Addresses_behindRoute_21 : decode prog_2_method_16_code 21 = .ok (.iload_n 3, 1) := by decide +kernel
theorem d_Addresses_behindRoute_22 : decode prog_2_method_16_code 22 = .ok (.iconst 1, 1) := by decide +kernel
theorem d_Addresses_behindRoute_23 : decode prog_2_method_16_code 23 = .ok (.iadd, 1) := by decide +kernel
theorem d_Addresses_behindRoute_24 : decode prog_2_method_16_code 24 = .ok (.ireturn, 1) := by decide +kernel
theorem d_Addresses_behindRoute_25 : decode prog_2_method_16_code 25 = .ok (.iload 4, 2) := by decide +kernel
theorem d_Addresses_behindRoute_27 : decode prog_2_method_16_code 27 = .ok (.bipush 64, 2) := by decide +kernel
theorem d_Addresses_behindRoute_29 : decode prog_2_method_16_code 29 = .ok (.if_icmp .eq 25, 3) := by decide +kernel
theorem d_Addresses_behindRoute_32 : decode prog_2_method_16_code 32 = .ok (.iload 4, 2) := by decide +kernel
theorem d_Addresses_behindRoute_34 : decode prog_2_method_16_code 34 = .ok (.bipush 44, 2) := by decide +kernel
theorem d_Addresses_behindRoute_36 : decode prog_2_method_16_code 36 = .ok (.if_icmp .eq 18, 3) := by decide +kernel
theorem d_Addresses_behindRoute_39 : decode prog_2_method_16_code 39 = .ok (.iload 4, 2) := by decide +kernel
theorem d_Addresses_behindRoute_41 : decode prog_2_method_16_code 41 = .ok (.bipush 46, 2) := by decide +kernel
theorem d_Addresses_behindRoute_43 : decode prog_2_method_16_code 43 = .ok (.if_icmp .eq 11, 3) := by decide +kernel
theorem d_Addresses_behindRoute_46 : decode prog_2_method_16_code 46 = .ok (.iload 4, 2) := by decide +kernel
theorem d_Addresses_behindRoute_48 : decode prog_2_method_16_code 48 = .ok (.iconst 1, 1) := by decide +kernel
theorem d_Addresses_behindRoute_49 : decode prog_2_method_16_code 49 = .ok (.if_icmp .eq 5, 3) := by decide +kernel
theorem d_Addresses_behindRoute_52 : decode prog_2_method_16_code 52 = .ok (.iload_n 1, 1) := by decide +kernel
theorem d_Addresses_behindRoute_53 : decode prog_2_method_16_code 53 = .ok (.ireturn, 1) := by decide +kernel
theorem d_Addresses_behindRoute_54 : decode prog_2_method_16_code 54 = .ok (.iinc 3 1, 3) := by decide +kernel
theorem d_Addresses_behindRoute_57 : decode prog_2_method_16_code 57 = .ok (.goto (-55), 3) := by decide +kernel
theorem d_Addresses_behindRoute_60 : decode prog_2_method_16_code 60 = .ok (.iload_n 1, 1) := by decide +kernel
theorem d_Addresses_behindRoute_61 : decode prog_2_method_16_code 61 = .ok (.ireturn, 1) := by decide +kernel
theorem d_Addresses_dottedEnd_0 : decode prog_2_method_17_code 0 = .ok (.iload_n 1, 1) := by decide +kernel
theorem d_Addresses_dottedEnd_1 : decode prog_2_method_17_code 1 = .ok (.istore 4, 2) := by decide +kernel
theorem d_Addresses_dottedEnd_3 : decode prog_2_method_17_code 3 = .ok (.iload 4, 2) := by decide +kernel
theorem d_Addresses_dottedEnd_5 : decode prog_2_method_17_code 5 = .ok (.iload_n 2, 1) := by decide +kernel
theorem d_Addresses_dottedEnd_6 : decode prog_2_method_17_code 6 = .ok (.if_icmp .ge 61, 3) := by decide +kernel
theorem d_Addresses_dottedEnd_9 : decode prog_2_method_17_code 9 = .ok (.aload_n 0, 1) := by decide +kernel
theorem d_Addresses_dottedEnd_10 : decode prog_2_method_17_code 10 = .ok (.iload 4, 2) := by decide +kernel
theorem d_Addresses_dottedEnd_12 : decode prog_2_method_17_code 12 = .ok (.invokevirtual 100, 3) := by decide +kernel
theorem d_Addresses_dottedEnd_15 : decode prog_2_method_17_code 15 = .ok (.istore 5, 2) := by decide +kernel
theorem d_Addresses_dottedEnd_17 : decode prog_2_method_17_code 17 = .ok (.iload 5, 2) := by decide +kernel
theorem d_Addresses_dottedEnd_19 : decode prog_2_method_17_code 19 = .ok (.iconst 1, 1) := by decide +kernel
theorem d_Addresses_dottedEnd_20 : decode prog_2_method_17_code 20 = .ok (.if_icmp .eq 15, 3) := by decide +kernel
theorem d_Addresses_dottedEnd_23 : decode prog_2_method_17_code 23 = .ok (.iload_n 3, 1) := by decide +kernel
theorem d_Addresses_dottedEnd_24 : decode prog_2_method_17_code 24 = .ok (.ifCond .eq 9, 3) := by decide +kernel
theorem d_Addresses_dottedEnd_27 : decode prog_2_method_17_code 27 = .ok (.iload 5, 2) := by decide +kernel
theorem d_Addresses_dottedEnd_29 : decode prog_2_method_17_code 29 = .ok (.iconst 2, 1) := by decide +kernel
theorem d_Addresses_dottedEnd_30 : decode prog_2_method_17_code 30 = .ok (.if_icmp .eq 5, 3) := by decide +kernel
theorem d_Addresses_dottedEnd_33 : decode prog_2_method_17_code 33 = .ok (.iconst (-1), 1) := by decide +kernel
theorem d_Addresses_dottedEnd_34 : decode prog_2_method_17_code 34 = .ok (.ireturn, 1) := by decide +kernel
theorem d_Addresses_dottedEnd_35 : decode prog_2_method_17_code 35 = .ok (.iload 4, 2) := by decide +kernel
theorem d_Addresses_dottedEnd_37 : decode prog_2_method_17_code 37 = .ok (.iconst 1, 1) := by decide +kernel
theorem d_Addresses_dottedEnd_38 : decode prog_2_method_17_code 38 = .ok (.iadd, 1) := by decide +kernel
theorem d_Addresses_dottedEnd_39 : decode prog_2_method_17_code 39 = .ok (.iload_n 2, 1) := by decide +kernel
theorem d_Addresses_dottedEnd_40 : decode prog_2_method_17_code 40 = .ok (.if_icmp .ge 16, 3) := by decide +kernel
theorem d_Addresses_dottedEnd_43 : decode prog_2_method_17_code 43 = .ok (.aload_n 0, 1) := by decide +kernel
theorem d_Addresses_dottedEnd_44 : decode prog_2_method_17_code 44 = .ok (.iload 4, 2) := by decide +kernel
theorem d_Addresses_dottedEnd_46 : decode prog_2_method_17_code 46 = .ok (.iconst 1, 1) := by decide +kernel
theorem d_Addresses_dottedEnd_47 : decode prog_2_method_17_code 47 = .ok (.iadd, 1) := by decide +kernel
theorem d_Addresses_dottedEnd_48 : decode prog_2_method_17_code 48 = .ok (.invokevirtual 100, 3) := by decide +kernel
theorem d_Addresses_dottedEnd_51 : decode prog_2_method_17_code 51 = .ok (.bipush 46, 2) := by decide +kernel
theorem d_Addresses_dottedEnd_53 : decode prog_2_method_17_code 53 = .ok (.if_icmp .eq 8, 3) := by decide +kernel
theorem d_Addresses_dottedEnd_56 : decode prog_2_method_17_code 56 = .ok (.iload 4, 2) := by decide +kernel
theorem d_Addresses_dottedEnd_58 : decode prog_2_method_17_code 58 = .ok (.iconst 1, 1) := by decide +kernel
theorem d_Addresses_dottedEnd_59 : decode prog_2_method_17_code 59 = .ok (.iadd, 1) := by decide +kernel
theorem d_Addresses_dottedEnd_60 : decode prog_2_method_17_code 60 = .ok (.ireturn, 1) := by decide +kernel
theorem d_Addresses_dottedEnd_61 : decode prog_2_method_17_code 61 = .ok (.iinc 4 2, 3) := by decide +kernel
theorem d_Addresses_dottedEnd_64 : decode prog_2_method_17_code 64 = .ok (.goto (-61), 3) := by decide +kernel
theorem d_Addresses_dottedEnd_67 : decode prog_2_method_17_code 67 = .ok (.iconst (-1), 1) := by decide +kernel
theorem d_Addresses_dottedEnd_68 : decode prog_2_method_17_code 68 = .ok (.ireturn, 1) := by decide +kernel
theorem d_Addresses_isDomainBehind_0 : decode prog_2_method_18_code 0 = .ok (.iload_n 1, 1) := by decide +kernel
theorem d_Addresses_isDomainBehind_1 : decode prog_2_method_18_code 1 = .ok (.iconst 1, 1) := by decide +kernel
theorem d_Addresses_isDomainBehind_2 : decode prog_2_method_18_code 2 = .ok (.iadd, 1) := by decide +kernel
theorem d_Addresses_isDomainBehind_3 : decode prog_2_method_18_code 3 = .ok (.istore_n 3, 1) := by decide +kernel
theorem d_Addresses_isDomainBehind_4 : decode prog_2_method_18_code 4 = .ok (.aload_n 0, 1) := by decide +kernel
theorem d_Addresses_isDomainBehind_5 : decode prog_2_method_18_code 5 = .ok (.iload_n 1, 1) := by decide +kernel
theorem d_Addresses_isDomainBehind_6 : decode prog_2_method_18_code 6 = .ok (.invokevirtual 100, 3) := by decide +kernel
theorem d_Addresses_isDomainBehind_9 : decode prog_2_method_18_code 9 = .ok (.bipush 64, 2) := by decide +kernel
theorem d_Addresses_isDomainBehind_11 : decode prog_2_method_18_code 11 = .ok (.if_icmp .eq 5, 3) := by decide +kernel
theorem d_Addresses_isDomainBehind_14 : decode prog_2_method_18_code 14 = .ok (.iconst 0, 1) := by decide +kernel
theorem d_Addresses_isDomainBehind_15 : decode prog_2_method_18_code 15 = .ok (.ireturn, 1) := by decide +kernel
theorem d_Addresses_isDomainBehind_16 : decode prog_2_method_18_code 16 = .ok (.iload_n 2, 1) := by decide +kernel
theorem d_Addresses_isDomainBehind_17 : decode prog_2_method_18_code 17 = .ok (.iload_n 3, 1) := by decide +kernel
theorem d_Addresses_isDomainBehind_18 : decode prog_2_method_18_code 18 = .ok (.isub, 1) := by decide +kernel
theorem d_Addresses_isDomainBehind_19 : decode prog_2_method_18_code 19 = .ok (.iconst 1, 1) := by decide +kernel
theorem d_Addresses_isDomainBehind_20 : decode prog_2_method_18_code 20 = .ok (.if_icmp .ne 14, 3) := by decide +kernel
theorem d_Addresses_isDomainBehind_23 : decode prog_2_method_18_code 23 = .ok (.aload_n 0, 1) := by decide +kernel
theorem d_Addresses_isDomainBehind_24 : decode prog_2_method_18_code 24 = .ok (.iload_n 3, 1) := by decide +kernel
theorem d_Addresses_isDomainBehind_25 : decode prog_2_method_18_code 25 = .ok (.invokevirtual 100, 3) := by decide +kernel
theorem d_Addresses_isDomainBehind_28 : decode prog_2_method_18_code 28 = .ok (.iconst 3, 1) := by decide +kernel
theorem d_Addresses_isDomainBehind_29 : decode prog_2_method_18_code 29 = .ok (.if_icmp .ne 5, 3) := by decide +kernel
theorem d_Addresses_isDomainBehind_32 : decode prog_2_method_18_code 32 = .ok (.iconst 1, 1) := by decide +kernel
theorem d_Addresses_isDomainBehind_33 : decode prog_2_method_18_code 33 = .ok (.ireturn, 1) := by decide +kernel
theorem d_Addresses_isDomainBehind_34 : decode prog_2_method_18_code 34 = .ok (.aload_n 0, 1) := by decide +kernel
theorem d_Addresses_isDomainBehind_35 : decode prog_2_method_18_code 35 = .ok (.iload_n 3, 1) := by decide +kernel
theorem d_Addresses_isDomainBehind_36 : decode prog_2_method_18_code 36 = .ok (.iload_n 2, 1) := by decide +kernel
theorem d_Addresses_isDomainBehind_37 : decode prog_2_method_18_code 37 = .ok (.iconst 0, 1) := by decide +kernel
theorem d_Addresses_isDomainBehind_38 : decode prog_2_method_18_code 38 = .ok (.invokevirtual 107, 3) := by decide +kernel
theorem d_Addresses_isDomainBehind_41 : decode prog_2_method_18_code 41 = .ok (.iload_n 2, 1) := by decide +kernel
theorem d_Addresses_isDomainBehind_42 : decode prog_2_method_18_code 42 = .ok (.if_icmp .ne 7, 3) := by decide +kernel
theorem d_Addresses_isDomainBehind_45 : decode prog_2_method_18_code 45 = .ok (.iconst 1, 1) := by decide +kernel
theorem d_Addresses_isDomainBehind_46 : decode prog_2_method_18_code 46 = .ok (.goto 4, 3) := by decide +kernel
theorem d_Addresses_isDomainBehind_49 : decode prog_2_method_18_code 49 = .ok (.iconst 0, 1) := by decide +kernel
theorem d_Addresses_isDomainBehind_50 : decode prog_2_method_18_code 50 = .ok (.ireturn, 1) := by decide +kernel
theorem d_Addresses_putWords_0 : decode prog_2_method_20_code 0 = .ok (.iload_n 1, 1) := by decide +kernel
theorem d_Addresses_putWords_1 : decode prog_2_method_20_code 1 = .ok (.istore_n 3, 1) := by decide +kernel
theorem d_Addresses_putWords_2 : decode prog_2_method_20_code 2 = .ok (.iload_n 3, 1) := by decide +kernel
theorem d_Addresses_putWords_3 : decode prog_2_method_20_code 3 = .ok (.iload_n 2, 1) := by decide +kernel
theorem d_Addresses_putWords_4 : decode prog_2_method_20_code 4 = .ok (.if_icmp .ge 75, 3) := by decide +kernel
theorem d_Addresses_putWords_7 : decode prog_2_method_20_code 7 = .ok (.aload_n 0, 1) := by decide +kernel
theorem d_Addresses_putWords_8 : decode prog_2_method_20_code 8 = .ok (.iload_n 3, 1) := by decide +kernel
theorem d_Addresses_putWords_9 : decode prog_2_method_20_code 9 = .ok (.invokevirtual 100, 3) := by decide +kernel
theorem d_Addresses_putWords_12 : decode prog_2_method_20_code 12 = .ok (.iconst 3, 1) := by decide +kernel
theorem d_Addresses_putWords_13 : decode prog_2_method_20_code 13 = .ok (.if_icmp .ne 7, 3) := by decide +kernel
theorem d_Addresses_putWords_16 : decode prog_2_method_20_code 16 = .ok (.iconst 1, 1) := by decide +kernel
theorem d_Addresses_putWords_17 : decode prog_2_method_20_code 17 = .ok (.goto 4, 3) := by decide +kernel
theorem d_Addresses_putWords_20 : decode prog_2_method_20_code 20 = .ok (.iconst 0, 1) := by decide +kernel
theorem d_Addresses_putWords_21 : decode prog_2_method_20_code 21 = .ok (.istore 4, 2) := by decide +kernel
theorem d_Addresses_putWords_23 : decode prog_2_method_20_code 23 = .ok (.iload 4, 2) := by decide +kernel
theorem d_Addresses_putWords_25 : decode prog_2_method_20_code 25 = .ok (.ifCond .eq 12, 3) := by decide +kernel
theorem d_Addresses_putWords_28 : decode prog_2_method_20_code 28 = .ok (.aload_n 0, 1) := by decide +kernel
theorem d_Addresses_putWords_29 : decode prog_2_method_20_code 29 = .ok (.getfield 18, 3) := by decide +kernel
theorem d_Addresses_putWords_32 : decode prog_2_method_20_code 32 = .ok (.bipush 91, 2) := by decide +kernel
theorem d_Addresses_putWords_34 : decode prog_2_method_20_code 34 = .ok (.invokevirtual 125, 3) := by decide +kernel
theorem d_Addresses_putWords_37 : decode prog_2_method_20_code 37 = .ok (.aload_n 0, 1) := by decide +kernel
theorem d_Addresses_putWords_38 : decode prog_2_method_20_code 38 = .ok (.getfield 18, 3) := by decide +kernel
theorem d_Addresses_putWords_41 : decode prog_2_method_20_code 41 = .ok (.aload_n 0, 1) := by decide +kernel
theorem d_Addresses_putWords_42 : decode prog_2_method_20_code 42 = .ok (.getfield 9, 3) := by decide +kernel
theorem d_Addresses_putWords_45 : decode prog_2_method_20_code 45 = .ok (.invokevirtual 115, 3) := by decide +kernel
theorem d_Addresses_putWords_48 : decode prog_2_method_20_code 48 = .ok (.aload_n 0, 1) := by decide +kernel
theorem d_Addresses_putWords_49 : decode prog_2_method_20_code 49 = .ok (.getfield 32, 3) := by decide +kernel
theorem d_Addresses_putWords_52 : decode prog_2_method_20_code 52 = .ok (.iload_n 3, 1) := by decide +kernel
theorem d_Addresses_putWords_53 : decode prog_2_method_20_code 53 = .ok (.invokevirtual 49, 3) := by decide +kernel
theorem d_Addresses_putWords_56 : decode prog_2_method_20_code 56 = .ok (.invokevirtual 118, 3) := by decide +kernel
theorem d_Addresses_putWords_59 : decode prog_2_method_20_code 59 = .ok (.iload 4, 2) := by decide +kernel
theorem d_Addresses_putWords_61 : decode prog_2_method_20_code 61 = .ok (.ifCond .eq 12, 3) := by decide +kernel
theorem d_Addresses_putWords_64 : decode prog_2_method_20_code 64 = .ok (.aload_n 0, 1) := by decide +kernel
theorem d_Addresses_putWords_65 : decode prog_2_method_20_code 65 = .ok (.getfield 18, 3) := by decide +kernel
theorem d_Addresses_putWords_68 : decode prog_2_method_20_code 68 = .ok (.bipush 93, 2) := by decide +kernel
theorem d_Addresses_putWords_70 : decode prog_2_method_20_code 70 = .ok (.invokevirtual 125, 3) := by decide +kernel
theorem d_Addresses_putWords_73 : decode prog_2_method_20_code 73 = .ok (.iinc 3 1, 3) := by decide +kernel
theorem d_Addresses_putWords_76 : decode prog_2_method_20_code 76 = .ok (.goto (-74), 3) := by decide +kernel
theorem d_Addresses_putWords_79 : decode prog_2_method_20_code 79 = .ok (.aload_n 0, 1) := by decide +kernel
theorem d_Addresses_putWords_80 : decode prog_2_method_20_code 80 = .ok (.getfield 18, 3) := by decide +kernel
theorem d_Addresses_putWords_83 : decode prog_2_method_20_code 83 = .ok (.invokevirtual 94, 3) := by decide +kernel
theorem d_Addresses_putWords_86 : decode prog_2_method_20_code 86 = .ok (.return_, 1) := by decide +kernel
theorem d_Identities_readBytes_0 : decode prog_6_method_3_code 0 = .ok (.aload_n 0, 1) := by decide +kernel
theorem d_Identities_readBytes_1 : decode prog_6_method_3_code 1 = .ok (.getfield 12, 3) := by decide +kernel
theorem d_Identities_readBytes_4 : decode prog_6_method_3_code 4 = .ok (.invokevirtual 18, 3) := by decide +kernel
theorem d_Identities_readBytes_7 : decode prog_6_method_3_code 7 = .ok (.aload_n 1, 1) := by decide +kernel
theorem d_Identities_readBytes_8 : decode prog_6_method_3_code 8 = .ok (.iload_n 2, 1) := by decide +kernel
theorem d_Identities_readBytes_9 : decode prog_6_method_3_code 9 = .ok (.invokevirtual 21, 3) := by decide +kernel
theorem d_Identities_readBytes_12 : decode prog_6_method_3_code 12 = .ok (.istore_n 3, 1) := by decide +kernel
theorem d_Identities_readBytes_13 : decode prog_6_method_3_code 13 = .ok (.iconst (-1), 1) := by decide +kernel
theorem d_Identities_readBytes_14 : decode prog_6_method_3_code 14 = .ok (.istore 4, 2) := by decide +kernel
theorem d_Identities_readBytes_16 : decode prog_6_method_3_code 16 = .ok (.iconst 0, 1) := by decide +kernel
theorem d_Identities_readBytes_17 : decode prog_6_method_3_code 17 = .ok (.istore 5, 2) := by decide +kernel
theorem d_Identities_readBytes_19 : decode prog_6_method_3_code 19 = .ok (.iload 5, 2) := by decide +kernel
theorem d_Identities_readBytes_21 : decode prog_6_method_3_code 21 = .ok (.iload_n 3, 1) := by decide +kernel
theorem d_Identities_readBytes_22 : decode prog_6_method_3_code 22 = .ok (.if_icmp .ge 66, 3) := by decide +kernel
theorem d_Identities_readBytes_25 : decode prog_6_method_3_code 25 = .ok (.aload_n 1, 1) := by decide +kernel
theorem d_Identities_readBytes_26 : decode prog_6_method_3_code 26 = .ok (.iload_n 2, 1) := by decide +kernel
