theorem d_Row_size_0 : decode prog_7_method_2_code 0 = .ok (.aload_n 0, 1) := by decide +kernel
theorem d_Row_size_1 : decode prog_7_method_2_code 1 = .ok (.getfield 15, 3) := by decide +kernel
theorem d_Row_size_4 : decode prog_7_method_2_code 4 = .ok (.ireturn, 1) := by decide +kernel
theorem d_Row_add_0 : decode prog_7_method_4_code 0 = .ok (.aload_n 0, 1) := by decide +kernel
theorem d_Row_add_1 : decode prog_7_method_4_code 1 = .ok (.getfield 15, 3) := by decide +kernel
theorem d_Row_add_4 : decode prog_7_method_4_code 4 = .ok (.sipush 4096, 3) := by decide +kernel
theorem d_Row_add_7 : decode prog_7_method_4_code 7 = .ok (.if_icmp .lt 4, 3) := by decide +kernel
theorem d_Row_add_10 : decode prog_7_method_4_code 10 = .ok (.return_, 1) := by decide +kernel
theorem d_Row_add_11 : decode prog_7_method_4_code 11 = .ok (.aload_n 0, 1) := by decide +kernel
theorem d_Row_add_12 : decode prog_7_method_4_code 12 = .ok (.getfield 15, 3) := by decide +kernel
theorem d_Row_add_15 : decode prog_7_method_4_code 15 = .ok (.aload_n 0, 1) := by decide +kernel
theorem d_Row_add_16 : decode prog_7_method_4_code 16 = .ok (.getfield 11, 3) := by decide +kernel
theorem d_Row_add_19 : decode prog_7_method_4_code 19 = .ok (.arraylength, 1) := by decide +kernel
theorem d_Row_add_20 : decode prog_7_method_4_code 20 = .ok (.if_icmp .lt 20, 3) := by decide +kernel
theorem d_Row_add_23 : decode prog_7_method_4_code 23 = .ok (.aload_n 0, 1) := by decide +kernel
theorem d_Row_add_24 : decode prog_7_method_4_code 24 = .ok (.aload_n 0, 1) := by decide +kernel
theorem d_Row_add_25 : decode prog_7_method_4_code 25 = .ok (.getfield 11, 3) := by decide +kernel
theorem d_Row_add_28 : decode prog_7_method_4_code 28 = .ok (.iconst 2, 1) := by decide +kernel
theorem d_Row_add_29 : decode prog_7_method_4_code 29 = .ok (.aload_n 0, 1) := by decide +kernel
theorem d_Row_add_30 : decode prog_7_method_4_code 30 = .ok (.getfield 15, 3) := by decide +kernel
theorem d_Row_add_33 : decode prog_7_method_4_code 33 = .ok (.imul, 1) := by decide +kernel
theorem d_Row_add_34 : decode prog_7_method_4_code 34 = .ok (.invokestatic 19, 3) := by decide +kernel
theorem d_Row_add_37 : decode prog_7_method_4_code 37 = .ok (.putfield 11, 3) := by decide +kernel
theorem d_Row_add_40 : decode prog_7_method_4_code 40 = .ok (.aload_n 0, 1) := by decide +kernel
theorem d_Row_add_41 : decode prog_7_method_4_code 41 = .ok (.getfield 11, 3) := by decide +kernel
theorem d_Row_add_44 : decode prog_7_method_4_code 44 = .ok (.aload_n 0, 1) := by decide +kernel
theorem d_Row_add_45 : decode prog_7_method_4_code 45 = .ok (.getfield 15, 3) := by decide +kernel
theorem d_Row_add_48 : decode prog_7_method_4_code 48 = .ok (.iload_n 1, 1) := by decide +kernel
theorem d_Row_add_49 : decode prog_7_method_4_code 49 = .ok (.iastore, 1) := by decide +kernel
theorem d_Row_add_50 : decode prog_7_method_4_code 50 = .ok (.aload_n 0, 1) := by decide +kernel
theorem d_Row_add_51 : decode prog_7_method_4_code 51 = .ok (.dup, 1) := by decide +kernel
theorem d_Row_add_52 : decode prog_7_method_4_code 52 = .ok (.getfield 15, 3) := by decide +kernel
theorem d_Row_add_55 : decode prog_7_method_4_code 55 = .ok (.iconst 1, 1) := by decide +kernel
theorem d_Row_add_56 : decode prog_7_method_4_code 56 = .ok (.iadd, 1) := by decide +kernel
theorem d_Row_add_57 : decode prog_7_method_4_code 57 = .ok (.putfield 15, 3) := by decide +kernel
theorem d_Row_add_60 : decode prog_7_method_4_code 60 = .ok (.return_, 1) := by decide +kernel
theorem d_Row_get_0 : decode prog_7_method_3_code 0 = .ok (.iload_n 1, 1) := by decide +kernel
theorem d_Row_get_1 : decode prog_7_method_3_code 1 = .ok (.ifCond .lt 20, 3) := by decide +kernel
theorem d_Row_get_4 : decode prog_7_method_3_code 4 = .ok (.iload_n 1, 1) := by decide +kernel
theorem d_Row_get_5 : decode prog_7_method_3_code 5 = .ok (.aload_n 0, 1) := by decide +kernel
theorem d_Row_get_6 : decode prog_7_method_3_code 6 = .ok (.getfield 15, 3) := by decide +kernel
theorem d_Row_get_9 : decode prog_7_method_3_code 9 = .ok (.if_icmp .ge 12, 3) := by decide +kernel
theorem d_Row_get_12 : decode prog_7_method_3_code 12 = .ok (.aload_n 0, 1) := by decide +kernel
theorem d_Row_get_13 : decode prog_7_method_3_code 13 = .ok (.getfield 11, 3) := by decide +kernel
theorem d_Row_get_16 : decode prog_7_method_3_code 16 = .ok (.iload_n 1, 1) := by decide +kernel
theorem d_Row_get_17 : decode prog_7_method_3_code 17 = .ok (.iaload, 1) := by decide +kernel
theorem d_Row_get_18 : decode prog_7_method_3_code 18 = .ok (.goto 4, 3) := by decide +kernel
theorem d_Row_get_21 : decode prog_7_method_3_code 21 = .ok (.iconst (-1), 1) := by decide +kernel
theorem d_Row_get_22 : decode prog_7_method_3_code 22 = .ok (.ireturn, 1) := by decide +kernel
theorem d_Row_cutTo_0 : decode prog_7_method_5_code 0 = .ok (.iload_n 1, 1) := by decide +kernel
theorem d_Row_cutTo_1 : decode prog_7_method_5_code 1 = .ok (.ifCond .lt 16, 3) := by decide +kernel
theorem d_Row_cutTo_4 : decode prog_7_method_5_code 4 = .ok (.iload_n 1, 1) := by decide +kernel
theorem d_Row_cutTo_5 : decode prog_7_method_5_code 5 = .ok (.aload_n 0, 1) := by decide +kernel
theorem d_Row_cutTo_6 : decode prog_7_method_5_code 6 = .ok (.getfield 15, 3) := by decide +kernel
theorem d_Row_cutTo_9 : decode prog_7_method_5_code 9 = .ok (.if_icmp .ge 8, 3) := by decide +kernel
theorem d_Row_cutTo_12 : decode prog_7_method_5_code 12 = .ok (.aload_n 0, 1) := by decide +kernel
theorem d_Row_cutTo_13 : decode prog_7_method_5_code 13 = .ok (.iload_n 1, 1) := by decide +kernel
theorem d_Row_cutTo_14 : decode prog_7_method_5_code 14 = .ok (.putfield 15, 3) := by decide +kernel
theorem d_Row_cutTo_17 : decode prog_7_method_5_code 17 = .ok (.return_, 1) := by decide +kernel
theorem d_Row_init_0 : decode prog_7_method_1_code 0 = .ok (.aload_n 0, 1) := by decide +kernel
theorem d_Row_init_1 : decode prog_7_method_1_code 1 = .ok (.invokespecial 3, 3) := by decide +kernel
theorem d_Row_init_4 : decode prog_7_method_1_code 4 = .ok (.aload_n 0, 1) := by decide +kernel
theorem d_Row_init_5 : decode prog_7_method_1_code 5 = .ok (.bipush 16, 2) := by decide +kernel
theorem d_Row_init_7 : decode prog_7_method_1_code 7 = .ok (.newarray .int, 2) := by decide +kernel
theorem d_Row_init_9 : decode prog_7_method_1_code 9 = .ok (.putfield 11, 3) := by decide +kernel
theorem d_Row_init_12 : decode prog_7_method_1_code 12 = .ok (.aload_n 0, 1) := by decide +kernel
theorem d_Row_init_13 : decode prog_7_method_1_code 13 = .ok (.iconst 0, 1) := by decide +kernel
theorem d_Row_init_14 : decode prog_7_method_1_code 14 = .ok (.putfield 15, 3) := by decide +kernel
theorem d_Row_init_17 : decode prog_7_method_1_code 17 = .ok (.return_, 1) := by decide +kernel
