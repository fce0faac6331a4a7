theorem d_Mo_init_0 : decode prog_11_method_1_code 0 = .ok (.aload_n 0, 1) := by decide +kernel
theorem d_Mo_init_1 : decode prog_11_method_1_code 1 = .ok (.invokespecial 1, 3) := by decide +kernel
theorem d_Mo_init_4 : decode prog_11_method_1_code 4 = .ok (.aload_n 0, 1) := by decide +kernel
theorem d_Mo_init_5 : decode prog_11_method_1_code 5 = .ok (.ldc 9, 2) := by decide +kernel
theorem d_Mo_init_7 : decode prog_11_method_1_code 7 = .ok (.newarray .byte, 2) := by decide +kernel
theorem d_Mo_init_9 : decode prog_11_method_1_code 9 = .ok (.putfield 10, 3) := by decide +kernel
theorem d_Mo_init_12 : decode prog_11_method_1_code 12 = .ok (.aload_n 0, 1) := by decide +kernel
theorem d_Mo_init_13 : decode prog_11_method_1_code 13 = .ok (.ldc 9, 2) := by decide +kernel
theorem d_Mo_init_15 : decode prog_11_method_1_code 15 = .ok (.newarray .byte, 2) := by decide +kernel
theorem d_Mo_init_17 : decode prog_11_method_1_code 17 = .ok (.putfield 14, 3) := by decide +kernel
theorem d_Mo_init_20 : decode prog_11_method_1_code 20 = .ok (.aload_n 0, 1) := by decide +kernel
theorem d_Mo_init_21 : decode prog_11_method_1_code 21 = .ok (.ldc 9, 2) := by decide +kernel
theorem d_Mo_init_23 : decode prog_11_method_1_code 23 = .ok (.newarray .byte, 2) := by decide +kernel
theorem d_Mo_init_25 : decode prog_11_method_1_code 25 = .ok (.putfield 17, 3) := by decide +kernel
theorem d_Mo_init_28 : decode prog_11_method_1_code 28 = .ok (.aload_n 0, 1) := by decide +kernel
theorem d_Mo_init_29 : decode prog_11_method_1_code 29 = .ok (.ldc 9, 2) := by decide +kernel
theorem d_Mo_init_31 : decode prog_11_method_1_code 31 = .ok (.newarray .int, 2) := by decide +kernel
theorem d_Mo_init_33 : decode prog_11_method_1_code 33 = .ok (.putfield 20, 3) := by decide +kernel
theorem d_Mo_init_36 : decode prog_11_method_1_code 36 = .ok (.aload_n 0, 1) := by decide +kernel
theorem d_Mo_init_37 : decode prog_11_method_1_code 37 = .ok (.ldc 9, 2) := by decide +kernel
theorem d_Mo_init_39 : decode prog_11_method_1_code 39 = .ok (.newarray .int, 2) := by decide +kernel
theorem d_Mo_init_41 : decode prog_11_method_1_code 41 = .ok (.putfield 24, 3) := by decide +kernel
theorem d_Mo_init_44 : decode prog_11_method_1_code 44 = .ok (.aload_n 0, 1) := by decide +kernel
theorem d_Mo_init_45 : decode prog_11_method_1_code 45 = .ok (.ldc 9, 2) := by decide +kernel
theorem d_Mo_init_47 : decode prog_11_method_1_code 47 = .ok (.newarray .int, 2) := by decide +kernel
theorem d_Mo_init_49 : decode prog_11_method_1_code 49 = .ok (.putfield 27, 3) := by decide +kernel
theorem d_Mo_init_52 : decode prog_11_method_1_code 52 = .ok (.return_, 1) := by decide +kernel
theorem d_Mo_feed0_0 : decode prog_11_method_2_code 0 = .ok (.aload_n 0, 1) := by decide +kernel
theorem d_Mo_feed0_1 : decode prog_11_method_2_code 1 = .ok (.getfield 30, 3) := by decide +kernel
theorem d_Mo_feed0_4 : decode prog_11_method_2_code 4 = .ok (.bipush 20, 2) := by decide +kernel
theorem d_Mo_feed0_6 : decode prog_11_method_2_code 6 = .ok (.iadd, 1) := by decide +kernel
theorem d_Mo_feed0_7 : decode prog_11_method_2_code 7 = .ok (.ldc 9, 2) := by decide +kernel
theorem d_Mo_feed0_9 : decode prog_11_method_2_code 9 = .ok (.if_icmp .le 11, 3) := by decide +kernel
theorem d_Mo_feed0_12 : decode prog_11_method_2_code 12 = .ok (.new 34, 3) := by decide +kernel
theorem d_Mo_feed0_15 : decode prog_11_method_2_code 15 = .ok (.dup, 1) := by decide +kernel
theorem d_Mo_feed0_16 : decode prog_11_method_2_code 16 = .ok (.invokespecial 36, 3) := by decide +kernel
theorem d_Mo_feed0_19 : decode prog_11_method_2_code 19 = .ok (.athrow, 1) := by decide +kernel
theorem d_Mo_feed0_20 : decode prog_11_method_2_code 20 = .ok (.iconst 5, 1) := by decide +kernel
theorem d_Mo_feed0_21 : decode prog_11_method_2_code 21 = .ok (.newarray .int, 2) := by decide +kernel
theorem d_Mo_feed0_23 : decode prog_11_method_2_code 23 = .ok (.dup, 1) := by decide +kernel
theorem d_Mo_feed0_24 : decode prog_11_method_2_code 24 = .ok (.iconst 0, 1) := by decide +kernel
theorem d_Mo_feed0_25 : decode prog_11_method_2_code 25 = .ok (.iload_n 1, 1) := by decide +kernel
theorem d_Mo_feed0_26 : decode prog_11_method_2_code 26 = .ok (.iastore, 1) := by decide +kernel
theorem d_Mo_feed0_27 : decode prog_11_method_2_code 27 = .ok (.dup, 1) := by decide +kernel
theorem d_Mo_feed0_28 : decode prog_11_method_2_code 28 = .ok (.iconst 1, 1) := by decide +kernel
theorem d_Mo_feed0_29 : decode prog_11_method_2_code 29 = .ok (.iload_n 2, 1) := by decide +kernel
theorem d_Mo_feed0_30 : decode prog_11_method_2_code 30 = .ok (.iastore, 1) := by decide +kernel
theorem d_Mo_feed0_31 : decode prog_11_method_2_code 31 = .ok (.dup, 1) := by decide +kernel
theorem d_Mo_feed0_32 : decode prog_11_method_2_code 32 = .ok (.iconst 2, 1) := by decide +kernel
theorem d_Mo_feed0_33 : decode prog_11_method_2_code 33 = .ok (.iload_n 3, 1) := by decide +kernel
theorem d_Mo_feed0_34 : decode prog_11_method_2_code 34 = .ok (.iastore, 1) := by decide +kernel
theorem d_Mo_feed0_35 : decode prog_11_method_2_code 35 = .ok (.dup, 1) := by decide +kernel
theorem d_Mo_feed0_36 : decode prog_11_method_2_code 36 = .ok (.iconst 3, 1) := by decide +kernel
theorem d_Mo_feed0_37 : decode prog_11_method_2_code 37 = .ok (.iload 4, 2) := by decide +kernel
theorem d_Mo_feed0_39 : decode prog_11_method_2_code 39 = .ok (.iastore, 1) := by decide +kernel
theorem d_Mo_feed0_40 : decode prog_11_method_2_code 40 = .ok (.dup, 1) := by decide +kernel
theorem d_Mo_feed0_41 : decode prog_11_method_2_code 41 = .ok (.iconst 4, 1) := by decide +kernel
theorem d_Mo_feed0_42 : decode prog_11_method_2_code 42 = .ok (.iload 5, 2) := by decide +kernel
theorem d_Mo_feed0_44 : decode prog_11_method_2_code 44 = .ok (.iastore, 1) := by decide +kernel
theorem d_Mo_feed0_45 : decode prog_11_method_2_code 45 = .ok (.astore 6, 2) := by decide +kernel
theorem d_Mo_feed0_47 : decode prog_11_method_2_code 47 = .ok (.iconst 0, 1) := by decide +kernel
theorem d_Mo_feed0_48 : decode prog_11_method_2_code 48 = .ok (.istore 7, 2) := by decide +kernel
theorem d_Mo_feed0_50 : decode prog_11_method_2_code 50 = .ok (.iload 7, 2) := by decide +kernel
theorem d_Mo_feed0_52 : decode prog_11_method_2_code 52 = .ok (.bipush 20, 2) := by decide +kernel
theorem d_Mo_feed0_54 : decode prog_11_method_2_code 54 = .ok (.if_icmp .ge 40, 3) := by decide +kernel
theorem d_Mo_feed0_57 : decode prog_11_method_2_code 57 = .ok (.aload_n 0, 1) := by decide +kernel
theorem d_Mo_feed0_58 : decode prog_11_method_2_code 58 = .ok (.getfield 10, 3) := by decide +kernel
theorem d_Mo_feed0_61 : decode prog_11_method_2_code 61 = .ok (.aload_n 0, 1) := by decide +kernel
theorem d_Mo_feed0_62 : decode prog_11_method_2_code 62 = .ok (.getfield 30, 3) := by decide +kernel
theorem d_Mo_feed0_65 : decode prog_11_method_2_code 65 = .ok (.iload 7, 2) := by decide +kernel
theorem d_Mo_feed0_67 : decode prog_11_method_2_code 67 = .ok (.iadd, 1) := by decide +kernel
theorem d_Mo_feed0_68 : decode prog_11_method_2_code 68 = .ok (.aload 6, 2) := by decide +kernel
theorem d_Mo_feed0_70 : decode prog_11_method_2_code 70 = .ok (.iload 7, 2) := by decide +kernel
theorem d_Mo_feed0_72 : decode prog_11_method_2_code 72 = .ok (.iconst 4, 1) := by decide +kernel
theorem d_Mo_feed0_73 : decode prog_11_method_2_code 73 = .ok (.idiv, 1) := by decide +kernel
theorem d_Mo_feed0_74 : decode prog_11_method_2_code 74 = .ok (.iaload, 1) := by decide +kernel
theorem d_Mo_feed0_75 : decode prog_11_method_2_code 75 = .ok (.bipush 24, 2) := by decide +kernel
theorem d_Mo_feed0_77 : decode prog_11_method_2_code 77 = .ok (.bipush 8, 2) := by decide +kernel
theorem d_Mo_feed0_79 : decode prog_11_method_2_code 79 = .ok (.iload 7, 2) := by decide +kernel
theorem d_Mo_feed0_81 : decode prog_11_method_2_code 81 = .ok (.iconst 4, 1) := by decide +kernel
theorem d_Mo_feed0_82 : decode prog_11_method_2_code 82 = .ok (.irem, 1) := by decide +kernel
theorem d_Mo_feed0_83 : decode prog_11_method_2_code 83 = .ok (.imul, 1) := by decide +kernel
theorem d_Mo_feed0_84 : decode prog_11_method_2_code 84 = .ok (.isub, 1) := by decide +kernel
theorem d_Mo_feed0_85 : decode prog_11_method_2_code 85 = .ok (.ishr, 1) := by decide +kernel
theorem d_Mo_feed0_86 : decode prog_11_method_2_code 86 = .ok (.i2b, 1) := by decide +kernel
theorem d_Mo_feed0_87 : decode prog_11_method_2_code 87 = .ok (.bastore, 1) := by decide +kernel
theorem d_Mo_feed0_88 : decode prog_11_method_2_code 88 = .ok (.iinc 7 1, 3) := by decide +kernel
theorem d_Mo_feed0_91 : decode prog_11_method_2_code 91 = .ok (.goto (-41), 3) := by decide +kernel
theorem d_Mo_feed0_94 : decode prog_11_method_2_code 94 = .ok (.aload_n 0, 1) := by decide +kernel
theorem d_Mo_feed0_95 : decode prog_11_method_2_code 95 = .ok (.dup, 1) := by decide +kernel
theorem d_Mo_feed0_96 : decode prog_11_method_2_code 96 = .ok (.getfield 30, 3) := by decide +kernel
theorem d_Mo_feed0_99 : decode prog_11_method_2_code 99 = .ok (.bipush 20, 2) := by decide +kernel
theorem d_Mo_feed0_101 : decode prog_11_method_2_code 101 = .ok (.iadd, 1) := by decide +kernel
theorem d_Mo_feed0_102 : decode prog_11_method_2_code 102 = .ok (.putfield 30, 3) := by decide +kernel
theorem d_Mo_feed0_105 : decode prog_11_method_2_code 105 = .ok (.return_, 1) := by decide +kernel
theorem d_Mo_end0_0 : decode prog_11_method_3_code 0 = .ok (.iload_n 1, 1) := by decide +kernel
theorem d_Mo_end0_1 : decode prog_11_method_3_code 1 = .ok (.ifCond .lt 11, 3) := by decide +kernel
theorem d_Mo_end0_4 : decode prog_11_method_3_code 4 = .ok (.iload_n 1, 1) := by decide +kernel
theorem d_Mo_end0_5 : decode prog_11_method_3_code 5 = .ok (.aload_n 0, 1) := by decide +kernel
theorem d_Mo_end0_6 : decode prog_11_method_3_code 6 = .ok (.getfield 30, 3) := by decide +kernel
theorem d_Mo_end0_9 : decode prog_11_method_3_code 9 = .ok (.if_icmp .le 11, 3) := by decide +kernel
theorem d_Mo_end0_12 : decode prog_11_method_3_code 12 = .ok (.new 37, 3) := by decide +kernel
theorem d_Mo_end0_15 : decode prog_11_method_3_code 15 = .ok (.dup, 1) := by decide +kernel
theorem d_Mo_end0_16 : decode prog_11_method_3_code 16 = .ok (.invokespecial 39, 3) := by decide +kernel
theorem d_Mo_end0_19 : decode prog_11_method_3_code 19 = .ok (.athrow, 1) := by decide +kernel
theorem d_Mo_end0_20 : decode prog_11_method_3_code 20 = .ok (.aload_n 0, 1) := by decide +kernel
theorem d_Mo_end0_21 : decode prog_11_method_3_code 21 = .ok (.getfield 30, 3) := by decide +kernel
theorem d_Mo_end0_24 : decode prog_11_method_3_code 24 = .ok (.iload_n 1, 1) := by decide +kernel
theorem d_Mo_end0_25 : decode prog_11_method_3_code 25 = .ok (.isub, 1) := by decide +kernel
theorem d_Mo_end0_26 : decode prog_11_method_3_code 26 = .ok (.istore_n 2, 1) := by decide +kernel
theorem d_Mo_end0_27 : decode prog_11_method_3_code 27 = .ok (.aload_n 0, 1) := by decide +kernel
theorem d_Mo_end0_28 : decode prog_11_method_3_code 28 = .ok (.iload_n 1, 1) := by decide +kernel
theorem d_Mo_end0_29 : decode prog_11_method_3_code 29 = .ok (.putfield 30, 3) := by decide +kernel
theorem d_Mo_end0_32 : decode prog_11_method_3_code 32 = .ok (.iload_n 2, 1) := by decide +kernel
theorem d_Mo_end0_33 : decode prog_11_method_3_code 33 = .ok (.ireturn, 1) := by decide +kernel
theorem d_Mo_one_0 : decode prog_11_method_4_code 0 = .ok (.aload_n 0, 1) := by decide +kernel
theorem d_Mo_one_1 : decode prog_11_method_4_code 1 = .ok (.getfield 40, 3) := by decide +kernel
theorem d_Mo_one_4 : decode prog_11_method_4_code 4 = .ok (.ldc 9, 2) := by decide +kernel
theorem d_Mo_one_6 : decode prog_11_method_4_code 6 = .ok (.if_icmp .ne 5, 3) := by decide +kernel
theorem d_Mo_one_9 : decode prog_11_method_4_code 9 = .ok (.iconst 0, 1) := by decide +kernel
theorem d_Mo_one_10 : decode prog_11_method_4_code 10 = .ok (.ireturn, 1) := by decide +kernel
theorem d_Mo_one_11 : decode prog_11_method_4_code 11 = .ok (.aload_n 0, 1) := by decide +kernel
theorem d_Mo_one_12 : decode prog_11_method_4_code 12 = .ok (.getfield 17, 3) := by decide +kernel
theorem d_Mo_one_15 : decode prog_11_method_4_code 15 = .ok (.aload_n 0, 1) := by decide +kernel
theorem d_Mo_one_16 : decode prog_11_method_4_code 16 = .ok (.getfield 40, 3) := by decide +kernel
theorem d_Mo_one_19 : decode prog_11_method_4_code 19 = .ok (.iload_n 1, 1) := by decide +kernel
theorem d_Mo_one_20 : decode prog_11_method_4_code 20 = .ok (.i2b, 1) := by decide +kernel
theorem d_Mo_one_21 : decode prog_11_method_4_code 21 = .ok (.bastore, 1) := by decide +kernel
theorem d_Mo_one_22 : decode prog_11_method_4_code 22 = .ok (.aload_n 0, 1) := by decide +kernel
theorem d_Mo_one_23 : decode prog_11_method_4_code 23 = .ok (.dup, 1) := by decide +kernel
theorem d_Mo_one_24 : decode prog_11_method_4_code 24 = .ok (.getfield 40, 3) := by decide +kernel
theorem d_Mo_one_27 : decode prog_11_method_4_code 27 = .ok (.iconst 1, 1) := by decide +kernel
theorem d_Mo_one_28 : decode prog_11_method_4_code 28 = .ok (.iadd, 1) := by decide +kernel
theorem d_Mo_one_29 : decode prog_11_method_4_code 29 = .ok (.putfield 40, 3) := by decide +kernel
theorem d_Mo_one_32 : decode prog_11_method_4_code 32 = .ok (.iconst 1, 1) := by decide +kernel
theorem d_Mo_one_33 : decode prog_11_method_4_code 33 = .ok (.ireturn, 1) := by decide +kernel
theorem d_Mo_write_0 : decode prog_11_method_5_code 0 = .ok (.iload_n 1, 1) := by decide +kernel
theorem d_Mo_write_1 : decode prog_11_method_5_code 1 = .ok (.istore_n 2, 1) := by decide +kernel
theorem d_Mo_write_2 : decode prog_11_method_5_code 2 = .ok (.iconst 1, 1) := by decide +kernel
theorem d_Mo_write_3 : decode prog_11_method_5_code 3 = .ok (.istore_n 3, 1) := by decide +kernel
theorem d_Mo_write_4 : decode prog_11_method_5_code 4 = .ok (.iload_n 2, 1) := by decide +kernel
theorem d_Mo_write_5 : decode prog_11_method_5_code 5 = .ok (.bipush 127, 2) := by decide +kernel
theorem d_Mo_write_7 : decode prog_11_method_5_code 7 = .ok (.if_icmp .le 26, 3) := by decide +kernel
theorem d_Mo_write_10 : decode prog_11_method_5_code 10 = .ok (.iload_n 3, 1) := by decide +kernel
theorem d_Mo_write_11 : decode prog_11_method_5_code 11 = .ok (.aload_n 0, 1) := by decide +kernel
theorem d_Mo_write_12 : decode prog_11_method_5_code 12 = .ok (.iload_n 2, 1) := by decide +kernel
theorem d_Mo_write_13 : decode prog_11_method_5_code 13 = .ok (.bipush 127, 2) := by decide +kernel
theorem d_Mo_write_15 : decode prog_11_method_5_code 15 = .ok (.iand, 1) := by decide +kernel
theorem d_Mo_write_16 : decode prog_11_method_5_code 16 = .ok (.sipush 128, 3) := by decide +kernel
theorem d_Mo_write_19 : decode prog_11_method_5_code 19 = .ok (.ior, 1) := by decide +kernel
theorem d_Mo_write_20 : decode prog_11_method_5_code 20 = .ok (.invokevirtual 43, 3) := by decide +kernel
theorem d_Mo_write_23 : decode prog_11_method_5_code 23 = .ok (.iand, 1) := by decide +kernel
theorem d_Mo_write_24 : decode prog_11_method_5_code 24 = .ok (.istore_n 3, 1) := by decide +kernel
theorem d_Mo_write_25 : decode prog_11_method_5_code 25 = .ok (.iload_n 2, 1) := by decide +kernel
theorem d_Mo_write_26 : decode prog_11_method_5_code 26 = .ok (.bipush 7, 2) := by decide +kernel
theorem d_Mo_write_28 : decode prog_11_method_5_code 28 = .ok (.ishr, 1) := by decide +kernel
theorem d_Mo_write_29 : decode prog_11_method_5_code 29 = .ok (.istore_n 2, 1) := by decide +kernel
theorem d_Mo_write_30 : decode prog_11_method_5_code 30 = .ok (.goto (-26), 3) := by decide +kernel
theorem d_Mo_write_33 : decode prog_11_method_5_code 33 = .ok (.aload_n 0, 1) := by decide +kernel
theorem d_Mo_write_34 : decode prog_11_method_5_code 34 = .ok (.iload_n 2, 1) := by decide +kernel
theorem d_Mo_write_35 : decode prog_11_method_5_code 35 = .ok (.invokevirtual 43, 3) := by decide +kernel
theorem d_Mo_write_38 : decode prog_11_method_5_code 38 = .ok (.ifCond .eq 11, 3) := by decide +kernel
theorem d_Mo_write_41 : decode prog_11_method_5_code 41 = .ok (.iload_n 3, 1) := by decide +kernel
theorem d_Mo_write_42 : decode prog_11_method_5_code 42 = .ok (.ifCond .eq 7, 3) := by decide +kernel
theorem d_Mo_write_45 : decode prog_11_method_5_code 45 = .ok (.iconst 1, 1) := by decide +kernel
theorem d_Mo_write_46 : decode prog_11_method_5_code 46 = .ok (.goto 4, 3) := by decide +kernel
theorem d_Mo_write_49 : decode prog_11_method_5_code 49 = .ok (.iconst 0, 1) := by decide +kernel
theorem d_Mo_write_50 : decode prog_11_method_5_code 50 = .ok (.ireturn, 1) := by decide +kernel
theorem d_Mo_keep_0 : decode prog_11_method_6_code 0 = .ok (.aload_n 0, 1) := by decide +kernel
theorem d_Mo_keep_1 : decode prog_11_method_6_code 1 = .ok (.getfield 17, 3) := by decide +kernel
theorem d_Mo_keep_4 : decode prog_11_method_6_code 4 = .ok (.iconst 0, 1) := by decide +kernel
theorem d_Mo_keep_5 : decode prog_11_method_6_code 5 = .ok (.aload_n 0, 1) := by decide +kernel
theorem d_Mo_keep_6 : decode prog_11_method_6_code 6 = .ok (.getfield 14, 3) := by decide +kernel
theorem d_Mo_keep_9 : decode prog_11_method_6_code 9 = .ok (.iconst 0, 1) := by decide +kernel
theorem d_Mo_keep_10 : decode prog_11_method_6_code 10 = .ok (.aload_n 0, 1) := by decide +kernel
theorem d_Mo_keep_11 : decode prog_11_method_6_code 11 = .ok (.getfield 40, 3) := by decide +kernel
theorem d_Mo_keep_14 : decode prog_11_method_6_code 14 = .ok (.invokestatic 47, 3) := by decide +kernel
theorem d_Mo_keep_17 : decode prog_11_method_6_code 17 = .ok (.aload_n 0, 1) := by decide +kernel
theorem d_Mo_keep_18 : decode prog_11_method_6_code 18 = .ok (.aload_n 0, 1) := by decide +kernel
theorem d_Mo_keep_19 : decode prog_11_method_6_code 19 = .ok (.getfield 40, 3) := by decide +kernel
theorem d_Mo_keep_22 : decode prog_11_method_6_code 22 = .ok (.putfield 53, 3) := by decide +kernel
theorem d_Mo_keep_25 : decode prog_11_method_6_code 25 = .ok (.return_, 1) := by decide +kernel
theorem d_Mo_longest_0 : decode prog_11_method_7_code 0 = .ok (.iconst 0, 1) := by decide +kernel
theorem d_Mo_longest_1 : decode prog_11_method_7_code 1 = .ok (.istore_n 3, 1) := by decide +kernel
theorem d_Mo_longest_2 : decode prog_11_method_7_code 2 = .ok (.iload_n 3, 1) := by decide +kernel
theorem d_Mo_longest_3 : decode prog_11_method_7_code 3 = .ok (.bipush 64, 2) := by decide +kernel
theorem d_Mo_longest_5 : decode prog_11_method_7_code 5 = .ok (.if_icmp .ge 40, 3) := by decide +kernel
theorem d_Mo_longest_8 : decode prog_11_method_7_code 8 = .ok (.iload_n 2, 1) := by decide +kernel
theorem d_Mo_longest_9 : decode prog_11_method_7_code 9 = .ok (.iload_n 3, 1) := by decide +kernel
theorem d_Mo_longest_10 : decode prog_11_method_7_code 10 = .ok (.iadd, 1) := by decide +kernel
theorem d_Mo_longest_11 : decode prog_11_method_7_code 11 = .ok (.aload_n 0, 1) := by decide +kernel
theorem d_Mo_longest_12 : decode prog_11_method_7_code 12 = .ok (.getfield 30, 3) := by decide +kernel
theorem d_Mo_longest_15 : decode prog_11_method_7_code 15 = .ok (.if_icmp .ge 30, 3) := by decide +kernel
theorem d_Mo_longest_18 : decode prog_11_method_7_code 18 = .ok (.aload_n 0, 1) := by decide +kernel
theorem d_Mo_longest_19 : decode prog_11_method_7_code 19 = .ok (.getfield 10, 3) := by decide +kernel
theorem d_Mo_longest_22 : decode prog_11_method_7_code 22 = .ok (.iload_n 2, 1) := by decide +kernel
theorem d_Mo_longest_23 : decode prog_11_method_7_code 23 = .ok (.iload_n 3, 1) := by decide +kernel
theorem d_Mo_longest_24 : decode prog_11_method_7_code 24 = .ok (.iadd, 1) := by decide +kernel
theorem d_Mo_longest_25 : decode prog_11_method_7_code 25 = .ok (.baload, 1) := by decide +kernel
theorem d_Mo_longest_26 : decode prog_11_method_7_code 26 = .ok (.aload_n 0, 1) := by decide +kernel
theorem d_Mo_longest_27 : decode prog_11_method_7_code 27 = .ok (.getfield 10, 3) := by decide +kernel
theorem d_Mo_longest_30 : decode prog_11_method_7_code 30 = .ok (.iload_n 2, 1) := by decide +kernel
theorem d_Mo_longest_31 : decode prog_11_method_7_code 31 = .ok (.iload_n 3, 1) := by decide +kernel
theorem d_Mo_longest_32 : decode prog_11_method_7_code 32 = .ok (.iadd, 1) := by decide +kernel
theorem d_Mo_longest_33 : decode prog_11_method_7_code 33 = .ok (.iload_n 1, 1) := by decide +kernel
theorem d_Mo_longest_34 : decode prog_11_method_7_code 34 = .ok (.isub, 1) := by decide +kernel
theorem d_Mo_longest_35 : decode prog_11_method_7_code 35 = .ok (.baload, 1) := by decide +kernel
theorem d_Mo_longest_36 : decode prog_11_method_7_code 36 = .ok (.if_icmp .ne 9, 3) := by decide +kernel
theorem d_Mo_longest_39 : decode prog_11_method_7_code 39 = .ok (.iinc 3 1, 3) := by decide +kernel
theorem d_Mo_longest_42 : decode prog_11_method_7_code 42 = .ok (.goto (-40), 3) := by decide +kernel
theorem d_Mo_longest_45 : decode prog_11_method_7_code 45 = .ok (.iload_n 3, 1) := by decide +kernel
theorem d_Mo_longest_46 : decode prog_11_method_7_code 46 = .ok (.ireturn, 1) := by decide +kernel
theorem d_Mo_plain_0 : decode prog_11_method_8_code 0 = .ok (.iload_n 1, 1) := by decide +kernel
theorem d_Mo_plain_1 : decode prog_11_method_8_code 1 = .ok (.iload_n 2, 1) := by decide +kernel
theorem d_Mo_plain_2 : decode prog_11_method_8_code 2 = .ok (.if_icmp .ne 5, 3) := by decide +kernel
theorem d_Mo_plain_5 : decode prog_11_method_8_code 5 = .ok (.iconst 1, 1) := by decide +kernel
theorem d_Mo_plain_6 : decode prog_11_method_8_code 6 = .ok (.ireturn, 1) := by decide +kernel
theorem d_Mo_plain_7 : decode prog_11_method_8_code 7 = .ok (.aload_n 0, 1) := by decide +kernel
theorem d_Mo_plain_8 : decode prog_11_method_8_code 8 = .ok (.iconst 2, 1) := by decide +kernel
theorem d_Mo_plain_9 : decode prog_11_method_8_code 9 = .ok (.iload_n 2, 1) := by decide +kernel
theorem d_Mo_plain_10 : decode prog_11_method_8_code 10 = .ok (.iload_n 1, 1) := by decide +kernel
theorem d_Mo_plain_11 : decode prog_11_method_8_code 11 = .ok (.isub, 1) := by decide +kernel
theorem d_Mo_plain_12 : decode prog_11_method_8_code 12 = .ok (.imul, 1) := by decide +kernel
theorem d_Mo_plain_13 : decode prog_11_method_8_code 13 = .ok (.invokevirtual 56, 3) := by decide +kernel
theorem d_Mo_plain_16 : decode prog_11_method_8_code 16 = .ok (.istore_n 3, 1) := by decide +kernel
theorem d_Mo_plain_17 : decode prog_11_method_8_code 17 = .ok (.iload_n 1, 1) := by decide +kernel
theorem d_Mo_plain_18 : decode prog_11_method_8_code 18 = .ok (.istore 4, 2) := by decide +kernel
theorem d_Mo_plain_20 : decode prog_11_method_8_code 20 = .ok (.iload 4, 2) := by decide +kernel
theorem d_Mo_plain_22 : decode prog_11_method_8_code 22 = .ok (.iload_n 2, 1) := by decide +kernel
theorem d_Mo_plain_23 : decode prog_11_method_8_code 23 = .ok (.if_icmp .ge 23, 3) := by decide +kernel
theorem d_Mo_plain_26 : decode prog_11_method_8_code 26 = .ok (.iload_n 3, 1) := by decide +kernel
theorem d_Mo_plain_27 : decode prog_11_method_8_code 27 = .ok (.aload_n 0, 1) := by decide +kernel
theorem d_Mo_plain_28 : decode prog_11_method_8_code 28 = .ok (.aload_n 0, 1) := by decide +kernel
theorem d_Mo_plain_29 : decode prog_11_method_8_code 29 = .ok (.getfield 10, 3) := by decide +kernel
theorem d_Mo_plain_32 : decode prog_11_method_8_code 32 = .ok (.iload 4, 2) := by decide +kernel
theorem d_Mo_plain_34 : decode prog_11_method_8_code 34 = .ok (.baload, 1) := by decide +kernel
theorem d_Mo_plain_35 : decode prog_11_method_8_code 35 = .ok (.invokevirtual 43, 3) := by decide +kernel
theorem d_Mo_plain_38 : decode prog_11_method_8_code 38 = .ok (.iand, 1) := by decide +kernel
theorem d_Mo_plain_39 : decode prog_11_method_8_code 39 = .ok (.istore_n 3, 1) := by decide +kernel
theorem d_Mo_plain_40 : decode prog_11_method_8_code 40 = .ok (.iinc 4 1, 3) := by decide +kernel
theorem d_Mo_plain_43 : decode prog_11_method_8_code 43 = .ok (.goto (-23), 3) := by decide +kernel
theorem d_Mo_plain_46 : decode prog_11_method_8_code 46 = .ok (.iload_n 3, 1) := by decide +kernel
theorem d_Mo_plain_47 : decode prog_11_method_8_code 47 = .ok (.ireturn, 1) := by decide +kernel
theorem d_Mo_pack0_0 : decode prog_11_method_9_code 0 = .ok (.aload_n 0, 1) := by decide +kernel
theorem d_Mo_pack0_1 : decode prog_11_method_9_code 1 = .ok (.iconst 0, 1) := by decide +kernel
theorem d_Mo_pack0_2 : decode prog_11_method_9_code 2 = .ok (.putfield 40, 3) := by decide +kernel
theorem d_Mo_pack0_5 : decode prog_11_method_9_code 5 = .ok (.aload_n 0, 1) := by decide +kernel
theorem d_Mo_pack0_6 : decode prog_11_method_9_code 6 = .ok (.aload_n 0, 1) := by decide +kernel
theorem d_Mo_pack0_7 : decode prog_11_method_9_code 7 = .ok (.getfield 30, 3) := by decide +kernel
theorem d_Mo_pack0_10 : decode prog_11_method_9_code 10 = .ok (.invokevirtual 56, 3) := by decide +kernel
theorem d_Mo_pack0_13 : decode prog_11_method_9_code 13 = .ok (.istore_n 1, 1) := by decide +kernel
theorem d_Mo_pack0_14 : decode prog_11_method_9_code 14 = .ok (.iconst 0, 1) := by decide +kernel
theorem d_Mo_pack0_15 : decode prog_11_method_9_code 15 = .ok (.istore_n 2, 1) := by decide +kernel
theorem d_Mo_pack0_16 : decode prog_11_method_9_code 16 = .ok (.iconst 0, 1) := by decide +kernel
theorem d_Mo_pack0_17 : decode prog_11_method_9_code 17 = .ok (.istore_n 3, 1) := by decide +kernel
theorem d_Mo_pack0_18 : decode prog_11_method_9_code 18 = .ok (.iload_n 3, 1) := by decide +kernel
theorem d_Mo_pack0_19 : decode prog_11_method_9_code 19 = .ok (.aload_n 0, 1) := by decide +kernel
theorem d_Mo_pack0_20 : decode prog_11_method_9_code 20 = .ok (.getfield 30, 3) := by decide +kernel
theorem d_Mo_pack0_23 : decode prog_11_method_9_code 23 = .ok (.if_icmp .ge 120, 3) := by decide +kernel
theorem d_Mo_pack0_26 : decode prog_11_method_9_code 26 = .ok (.iconst 0, 1) := by decide +kernel
theorem d_Mo_pack0_27 : decode prog_11_method_9_code 27 = .ok (.istore 4, 2) := by decide +kernel
theorem d_Mo_pack0_29 : decode prog_11_method_9_code 29 = .ok (.iconst 0, 1) := by decide +kernel
theorem d_Mo_pack0_30 : decode prog_11_method_9_code 30 = .ok (.istore 5, 2) := by decide +kernel
theorem d_Mo_pack0_32 : decode prog_11_method_9_code 32 = .ok (.iconst 1, 1) := by decide +kernel
theorem d_Mo_pack0_33 : decode prog_11_method_9_code 33 = .ok (.istore 6, 2) := by decide +kernel
theorem d_Mo_pack0_35 : decode prog_11_method_9_code 35 = .ok (.iload 6, 2) := by decide +kernel
theorem d_Mo_pack0_37 : decode prog_11_method_9_code 37 = .ok (.iload_n 3, 1) := by decide +kernel
theorem d_Mo_pack0_38 : decode prog_11_method_9_code 38 = .ok (.if_icmp .gt 44, 3) := by decide +kernel
theorem d_Mo_pack0_41 : decode prog_11_method_9_code 41 = .ok (.iload 6, 2) := by decide +kernel
theorem d_Mo_pack0_43 : decode prog_11_method_9_code 43 = .ok (.sipush 4095, 3) := by decide +kernel
theorem d_Mo_pack0_46 : decode prog_11_method_9_code 46 = .ok (.if_icmp .gt 36, 3) := by decide +kernel
theorem d_Mo_pack0_49 : decode prog_11_method_9_code 49 = .ok (.aload_n 0, 1) := by decide +kernel
theorem d_Mo_pack0_50 : decode prog_11_method_9_code 50 = .ok (.iload 6, 2) := by decide +kernel
theorem d_Mo_pack0_52 : decode prog_11_method_9_code 52 = .ok (.iload_n 3, 1) := by decide +kernel
theorem d_Mo_pack0_53 : decode prog_11_method_9_code 53 = .ok (.invokevirtual 59, 3) := by decide +kernel
theorem d_Mo_pack0_56 : decode prog_11_method_9_code 56 = .ok (.istore 7, 2) := by decide +kernel
theorem d_Mo_pack0_58 : decode prog_11_method_9_code 58 = .ok (.iload 7, 2) := by decide +kernel
theorem d_Mo_pack0_60 : decode prog_11_method_9_code 60 = .ok (.iload 4, 2) := by decide +kernel
theorem d_Mo_pack0_62 : decode prog_11_method_9_code 62 = .ok (.if_icmp .gt 6, 3) := by decide +kernel
theorem d_Mo_pack0_65 : decode prog_11_method_9_code 65 = .ok (.goto 11, 3) := by decide +kernel
theorem d_Mo_pack0_68 : decode prog_11_method_9_code 68 = .ok (.iload 7, 2) := by decide +kernel
theorem d_Mo_pack0_70 : decode prog_11_method_9_code 70 = .ok (.istore 4, 2) := by decide +kernel
theorem d_Mo_pack0_72 : decode prog_11_method_9_code 72 = .ok (.iload 6, 2) := by decide +kernel
theorem d_Mo_pack0_74 : decode prog_11_method_9_code 74 = .ok (.istore 5, 2) := by decide +kernel
theorem d_Mo_pack0_76 : decode prog_11_method_9_code 76 = .ok (.iinc 6 1, 3) := by decide +kernel
theorem d_Mo_pack0_79 : decode prog_11_method_9_code 79 = .ok (.goto (-44), 3) := by decide +kernel
theorem d_Mo_pack0_82 : decode prog_11_method_9_code 82 = .ok (.iload 4, 2) := by decide +kernel
theorem d_Mo_pack0_84 : decode prog_11_method_9_code 84 = .ok (.iconst 4, 1) := by decide +kernel
theorem d_Mo_pack0_85 : decode prog_11_method_9_code 85 = .ok (.if_icmp .ge 9, 3) := by decide +kernel
theorem d_Mo_pack0_88 : decode prog_11_method_9_code 88 = .ok (.iinc 3 1, 3) := by decide +kernel
theorem d_Mo_pack0_91 : decode prog_11_method_9_code 91 = .ok (.goto (-73), 3) := by decide +kernel
theorem d_Mo_pack0_94 : decode prog_11_method_9_code 94 = .ok (.iload_n 1, 1) := by decide +kernel
theorem d_Mo_pack0_95 : decode prog_11_method_9_code 95 = .ok (.aload_n 0, 1) := by decide +kernel
theorem d_Mo_pack0_96 : decode prog_11_method_9_code 96 = .ok (.iload_n 2, 1) := by decide +kernel
theorem d_Mo_pack0_97 : decode prog_11_method_9_code 97 = .ok (.iload_n 3, 1) := by decide +kernel
theorem d_Mo_pack0_98 : decode prog_11_method_9_code 98 = .ok (.invokevirtual 63, 3) := by decide +kernel
theorem d_Mo_pack0_101 : decode prog_11_method_9_code 101 = .ok (.ifCond .eq 29, 3) := by decide +kernel
theorem d_Mo_pack0_104 : decode prog_11_method_9_code 104 = .ok (.aload_n 0, 1) := by decide +kernel
theorem d_Mo_pack0_105 : decode prog_11_method_9_code 105 = .ok (.iconst 2, 1) := by decide +kernel
theorem d_Mo_pack0_106 : decode prog_11_method_9_code 106 = .ok (.iload 4, 2) := by decide +kernel
theorem d_Mo_pack0_108 : decode prog_11_method_9_code 108 = .ok (.imul, 1) := by decide +kernel
theorem d_Mo_pack0_109 : decode prog_11_method_9_code 109 = .ok (.iconst 1, 1) := by decide +kernel
theorem d_Mo_pack0_110 : decode prog_11_method_9_code 110 = .ok (.iadd, 1) := by decide +kernel
theorem d_Mo_pack0_111 : decode prog_11_method_9_code 111 = .ok (.invokevirtual 56, 3) := by decide +kernel
theorem d_Mo_pack0_114 : decode prog_11_method_9_code 114 = .ok (.ifCond .eq 16, 3) := by decide +kernel
theorem d_Mo_pack0_117 : decode prog_11_method_9_code 117 = .ok (.aload_n 0, 1) := by decide +kernel
theorem d_Mo_pack0_118 : decode prog_11_method_9_code 118 = .ok (.iload 5, 2) := by decide +kernel
theorem d_Mo_pack0_120 : decode prog_11_method_9_code 120 = .ok (.invokevirtual 56, 3) := by decide +kernel
theorem d_Mo_pack0_123 : decode prog_11_method_9_code 123 = .ok (.ifCond .eq 7, 3) := by decide +kernel
theorem d_Mo_pack0_126 : decode prog_11_method_9_code 126 = .ok (.iconst 1, 1) := by decide +kernel
theorem d_Mo_pack0_127 : decode prog_11_method_9_code 127 = .ok (.goto 4, 3) := by decide +kernel
theorem d_Mo_pack0_130 : decode prog_11_method_9_code 130 = .ok (.iconst 0, 1) := by decide +kernel
theorem d_Mo_pack0_131 : decode prog_11_method_9_code 131 = .ok (.iand, 1) := by decide +kernel
theorem d_Mo_pack0_132 : decode prog_11_method_9_code 132 = .ok (.istore_n 1, 1) := by decide +kernel
theorem d_Mo_pack0_133 : decode prog_11_method_9_code 133 = .ok (.iload_n 3, 1) := by decide +kernel
theorem d_Mo_pack0_134 : decode prog_11_method_9_code 134 = .ok (.iload 4, 2) := by decide +kernel
theorem d_Mo_pack0_136 : decode prog_11_method_9_code 136 = .ok (.iadd, 1) := by decide +kernel
theorem d_Mo_pack0_137 : decode prog_11_method_9_code 137 = .ok (.istore_n 3, 1) := by decide +kernel
theorem d_Mo_pack0_138 : decode prog_11_method_9_code 138 = .ok (.iload_n 3, 1) := by decide +kernel
theorem d_Mo_pack0_139 : decode prog_11_method_9_code 139 = .ok (.istore_n 2, 1) := by decide +kernel
theorem d_Mo_pack0_140 : decode prog_11_method_9_code 140 = .ok (.goto (-122), 3) := by decide +kernel
theorem d_Mo_pack0_143 : decode prog_11_method_9_code 143 = .ok (.iload_n 1, 1) := by decide +kernel
theorem d_Mo_pack0_144 : decode prog_11_method_9_code 144 = .ok (.aload_n 0, 1) := by decide +kernel
theorem d_Mo_pack0_145 : decode prog_11_method_9_code 145 = .ok (.iload_n 2, 1) := by decide +kernel
theorem d_Mo_pack0_146 : decode prog_11_method_9_code 146 = .ok (.iload_n 3, 1) := by decide +kernel
theorem d_Mo_pack0_147 : decode prog_11_method_9_code 147 = .ok (.invokevirtual 63, 3) := by decide +kernel
theorem d_Mo_pack0_150 : decode prog_11_method_9_code 150 = .ok (.iand, 1) := by decide +kernel
theorem d_Mo_pack0_151 : decode prog_11_method_9_code 151 = .ok (.istore_n 1, 1) := by decide +kernel
theorem d_Mo_pack0_152 : decode prog_11_method_9_code 152 = .ok (.iload_n 1, 1) := by decide +kernel
theorem d_Mo_pack0_153 : decode prog_11_method_9_code 153 = .ok (.ifCond .ne 11, 3) := by decide +kernel
theorem d_Mo_pack0_156 : decode prog_11_method_9_code 156 = .ok (.new 34, 3) := by decide +kernel
theorem d_Mo_pack0_159 : decode prog_11_method_9_code 159 = .ok (.dup, 1) := by decide +kernel
theorem d_Mo_pack0_160 : decode prog_11_method_9_code 160 = .ok (.invokespecial 36, 3) := by decide +kernel
theorem d_Mo_pack0_163 : decode prog_11_method_9_code 163 = .ok (.athrow, 1) := by decide +kernel
theorem d_Mo_pack0_164 : decode prog_11_method_9_code 164 = .ok (.aload_n 0, 1) := by decide +kernel
theorem d_Mo_pack0_165 : decode prog_11_method_9_code 165 = .ok (.iconst 0, 1) := by decide +kernel
theorem d_Mo_pack0_166 : decode prog_11_method_9_code 166 = .ok (.putfield 30, 3) := by decide +kernel
theorem d_Mo_pack0_169 : decode prog_11_method_9_code 169 = .ok (.aload_n 0, 1) := by decide +kernel
theorem d_Mo_pack0_170 : decode prog_11_method_9_code 170 = .ok (.invokevirtual 67, 3) := by decide +kernel
theorem d_Mo_pack0_173 : decode prog_11_method_9_code 173 = .ok (.aload_n 0, 1) := by decide +kernel
theorem d_Mo_pack0_174 : decode prog_11_method_9_code 174 = .ok (.getfield 53, 3) := by decide +kernel
theorem d_Mo_pack0_177 : decode prog_11_method_9_code 177 = .ok (.ireturn, 1) := by decide +kernel
theorem d_Mo_read_0 : decode prog_11_method_10_code 0 = .ok (.lconst 0, 1) := by decide +kernel
theorem d_Mo_read_1 : decode prog_11_method_10_code 1 = .ok (.lstore_n 2, 1) := by decide +kernel
theorem d_Mo_read_2 : decode prog_11_method_10_code 2 = .ok (.iconst 0, 1) := by decide +kernel
theorem d_Mo_read_3 : decode prog_11_method_10_code 3 = .ok (.istore 4, 2) := by decide +kernel
theorem d_Mo_read_5 : decode prog_11_method_10_code 5 = .ok (.iload 4, 2) := by decide +kernel
theorem d_Mo_read_7 : decode prog_11_method_10_code 7 = .ok (.iconst 5, 1) := by decide +kernel
theorem d_Mo_read_8 : decode prog_11_method_10_code 8 = .ok (.if_icmp .ge 92, 3) := by decide +kernel
theorem d_Mo_read_11 : decode prog_11_method_10_code 11 = .ok (.aload_n 0, 1) := by decide +kernel
theorem d_Mo_read_12 : decode prog_11_method_10_code 12 = .ok (.getfield 70, 3) := by decide +kernel
theorem d_Mo_read_15 : decode prog_11_method_10_code 15 = .ok (.iload_n 1, 1) := by decide +kernel
theorem d_Mo_read_16 : decode prog_11_method_10_code 16 = .ok (.if_icmp .lt 5, 3) := by decide +kernel
theorem d_Mo_read_19 : decode prog_11_method_10_code 19 = .ok (.iconst (-1), 1) := by decide +kernel
theorem d_Mo_read_20 : decode prog_11_method_10_code 20 = .ok (.ireturn, 1) := by decide +kernel
theorem d_Mo_read_21 : decode prog_11_method_10_code 21 = .ok (.aload_n 0, 1) := by decide +kernel
theorem d_Mo_read_22 : decode prog_11_method_10_code 22 = .ok (.getfield 10, 3) := by decide +kernel
theorem d_Mo_read_25 : decode prog_11_method_10_code 25 = .ok (.aload_n 0, 1) := by decide +kernel
theorem d_Mo_read_26 : decode prog_11_method_10_code 26 = .ok (.getfield 70, 3) := by decide +kernel
theorem d_Mo_read_29 : decode prog_11_method_10_code 29 = .ok (.baload, 1) := by decide +kernel
theorem d_Mo_read_30 : decode prog_11_method_10_code 30 = .ok (.sipush 255, 3) := by decide +kernel
theorem d_Mo_read_33 : decode prog_11_method_10_code 33 = .ok (.iand, 1) := by decide +kernel
theorem d_Mo_read_34 : decode prog_11_method_10_code 34 = .ok (.istore 5, 2) := by decide +kernel
theorem d_Mo_read_36 : decode prog_11_method_10_code 36 = .ok (.aload_n 0, 1) := by decide +kernel
theorem d_Mo_read_37 : decode prog_11_method_10_code 37 = .ok (.dup, 1) := by decide +kernel
theorem d_Mo_read_38 : decode prog_11_method_10_code 38 = .ok (.getfield 70, 3) := by decide +kernel
theorem d_Mo_read_41 : decode prog_11_method_10_code 41 = .ok (.iconst 1, 1) := by decide +kernel
theorem d_Mo_read_42 : decode prog_11_method_10_code 42 = .ok (.iadd, 1) := by decide +kernel
theorem d_Mo_read_43 : decode prog_11_method_10_code 43 = .ok (.putfield 70, 3) := by decide +kernel
theorem d_Mo_read_46 : decode prog_11_method_10_code 46 = .ok (.lload_n 2, 1) := by decide +kernel
theorem d_Mo_read_47 : decode prog_11_method_10_code 47 = .ok (.iload 5, 2) := by decide +kernel
theorem d_Mo_read_49 : decode prog_11_method_10_code 49 = .ok (.bipush 127, 2) := by decide +kernel
theorem d_Mo_read_51 : decode prog_11_method_10_code 51 = .ok (.iand, 1) := by decide +kernel
theorem d_Mo_read_52 : decode prog_11_method_10_code 52 = .ok (.i2l, 1) := by decide +kernel
theorem d_Mo_read_53 : decode prog_11_method_10_code 53 = .ok (.bipush 7, 2) := by decide +kernel
theorem d_Mo_read_55 : decode prog_11_method_10_code 55 = .ok (.iload 4, 2) := by decide +kernel
theorem d_Mo_read_57 : decode prog_11_method_10_code 57 = .ok (.imul, 1) := by decide +kernel
theorem d_Mo_read_58 : decode prog_11_method_10_code 58 = .ok (.lshl, 1) := by decide +kernel
theorem d_Mo_read_59 : decode prog_11_method_10_code 59 = .ok (.ladd, 1) := by decide +kernel
theorem d_Mo_read_60 : decode prog_11_method_10_code 60 = .ok (.lstore_n 2, 1) := by decide +kernel
theorem d_Mo_read_61 : decode prog_11_method_10_code 61 = .ok (.iload 5, 2) := by decide +kernel
theorem d_Mo_read_63 : decode prog_11_method_10_code 63 = .ok (.sipush 128, 3) := by decide +kernel
theorem d_Mo_read_66 : decode prog_11_method_10_code 66 = .ok (.if_icmp .ge 28, 3) := by decide +kernel
theorem d_Mo_read_69 : decode prog_11_method_10_code 69 = .ok (.iload 5, 2) := by decide +kernel
theorem d_Mo_read_71 : decode prog_11_method_10_code 71 = .ok (.ifCond .ne 8, 3) := by decide +kernel
theorem d_Mo_read_74 : decode prog_11_method_10_code 74 = .ok (.iload 4, 2) := by decide +kernel
theorem d_Mo_read_76 : decode prog_11_method_10_code 76 = .ok (.ifCond .gt 11, 3) := by decide +kernel
theorem d_Mo_read_79 : decode prog_11_method_10_code 79 = .ok (.lload_n 2, 1) := by decide +kernel
theorem d_Mo_read_80 : decode prog_11_method_10_code 80 = .ok (.ldc2_w 73, 3) := by decide +kernel
theorem d_Mo_read_83 : decode prog_11_method_10_code 83 = .ok (.lcmp, 1) := by decide +kernel
theorem d_Mo_read_84 : decode prog_11_method_10_code 84 = .ok (.ifCond .le 7, 3) := by decide +kernel
theorem d_Mo_read_87 : decode prog_11_method_10_code 87 = .ok (.iconst (-1), 1) := by decide +kernel
theorem d_Mo_read_88 : decode prog_11_method_10_code 88 = .ok (.goto 5, 3) := by decide +kernel
theorem d_Mo_read_91 : decode prog_11_method_10_code 91 = .ok (.lload_n 2, 1) := by decide +kernel
theorem d_Mo_read_92 : decode prog_11_method_10_code 92 = .ok (.l2i, 1) := by decide +kernel
theorem d_Mo_read_93 : decode prog_11_method_10_code 93 = .ok (.ireturn, 1) := by decide +kernel
theorem d_Mo_read_94 : decode prog_11_method_10_code 94 = .ok (.iinc 4 1, 3) := by decide +kernel
theorem d_Mo_read_97 : decode prog_11_method_10_code 97 = .ok (.goto (-92), 3) := by decide +kernel
theorem d_Mo_read_100 : decode prog_11_method_10_code 100 = .ok (.iconst (-1), 1) := by decide +kernel
theorem d_Mo_read_101 : decode prog_11_method_10_code 101 = .ok (.ireturn, 1) := by decide +kernel
theorem d_Mo_unpacks_0 : decode prog_11_method_11_code 0 = .ok (.aload_n 0, 1) := by decide +kernel
theorem d_Mo_unpacks_1 : decode prog_11_method_11_code 1 = .ok (.iconst 0, 1) := by decide +kernel
theorem d_Mo_unpacks_2 : decode prog_11_method_11_code 2 = .ok (.putfield 70, 3) := by decide +kernel
theorem d_Mo_unpacks_5 : decode prog_11_method_11_code 5 = .ok (.aload_n 0, 1) := by decide +kernel
theorem d_Mo_unpacks_6 : decode prog_11_method_11_code 6 = .ok (.iconst 0, 1) := by decide +kernel
theorem d_Mo_unpacks_7 : decode prog_11_method_11_code 7 = .ok (.putfield 40, 3) := by decide +kernel
theorem d_Mo_unpacks_10 : decode prog_11_method_11_code 10 = .ok (.aload_n 0, 1) := by decide +kernel
theorem d_Mo_unpacks_11 : decode prog_11_method_11_code 11 = .ok (.iload_n 1, 1) := by decide +kernel
theorem d_Mo_unpacks_12 : decode prog_11_method_11_code 12 = .ok (.invokevirtual 75, 3) := by decide +kernel
theorem d_Mo_unpacks_15 : decode prog_11_method_11_code 15 = .ok (.istore_n 2, 1) := by decide +kernel
theorem d_Mo_unpacks_16 : decode prog_11_method_11_code 16 = .ok (.iload_n 2, 1) := by decide +kernel
theorem d_Mo_unpacks_17 : decode prog_11_method_11_code 17 = .ok (.ifCond .lt 9, 3) := by decide +kernel
theorem d_Mo_unpacks_20 : decode prog_11_method_11_code 20 = .ok (.iload_n 2, 1) := by decide +kernel
theorem d_Mo_unpacks_21 : decode prog_11_method_11_code 21 = .ok (.ldc 9, 2) := by decide +kernel
theorem d_Mo_unpacks_23 : decode prog_11_method_11_code 23 = .ok (.if_icmp .le 5, 3) := by decide +kernel
theorem d_Mo_unpacks_26 : decode prog_11_method_11_code 26 = .ok (.iconst 0, 1) := by decide +kernel
theorem d_Mo_unpacks_27 : decode prog_11_method_11_code 27 = .ok (.ireturn, 1) := by decide +kernel
theorem d_Mo_unpacks_28 : decode prog_11_method_11_code 28 = .ok (.aload_n 0, 1) := by decide +kernel
theorem d_Mo_unpacks_29 : decode prog_11_method_11_code 29 = .ok (.getfield 40, 3) := by decide +kernel
theorem d_Mo_unpacks_32 : decode prog_11_method_11_code 32 = .ok (.iload_n 2, 1) := by decide +kernel
theorem d_Mo_unpacks_33 : decode prog_11_method_11_code 33 = .ok (.if_icmp .ge 179, 3) := by decide +kernel
theorem d_Mo_unpacks_36 : decode prog_11_method_11_code 36 = .ok (.aload_n 0, 1) := by decide +kernel
theorem d_Mo_unpacks_37 : decode prog_11_method_11_code 37 = .ok (.iload_n 1, 1) := by decide +kernel
theorem d_Mo_unpacks_38 : decode prog_11_method_11_code 38 = .ok (.invokevirtual 75, 3) := by decide +kernel
theorem d_Mo_unpacks_41 : decode prog_11_method_11_code 41 = .ok (.istore_n 3, 1) := by decide +kernel
theorem d_Mo_unpacks_42 : decode prog_11_method_11_code 42 = .ok (.iload_n 3, 1) := by decide +kernel
theorem d_Mo_unpacks_43 : decode prog_11_method_11_code 43 = .ok (.iconst 2, 1) := by decide +kernel
theorem d_Mo_unpacks_44 : decode prog_11_method_11_code 44 = .ok (.idiv, 1) := by decide +kernel
theorem d_Mo_unpacks_45 : decode prog_11_method_11_code 45 = .ok (.istore 4, 2) := by decide +kernel
theorem d_Mo_unpacks_47 : decode prog_11_method_11_code 47 = .ok (.iload_n 3, 1) := by decide +kernel
theorem d_Mo_unpacks_48 : decode prog_11_method_11_code 48 = .ok (.ifCond .lt 14, 3) := by decide +kernel
theorem d_Mo_unpacks_51 : decode prog_11_method_11_code 51 = .ok (.iload 4, 2) := by decide +kernel
theorem d_Mo_unpacks_53 : decode prog_11_method_11_code 53 = .ok (.iload_n 2, 1) := by decide +kernel
theorem d_Mo_unpacks_54 : decode prog_11_method_11_code 54 = .ok (.aload_n 0, 1) := by decide +kernel
theorem d_Mo_unpacks_55 : decode prog_11_method_11_code 55 = .ok (.getfield 40, 3) := by decide +kernel
theorem d_Mo_unpacks_58 : decode prog_11_method_11_code 58 = .ok (.isub, 1) := by decide +kernel
theorem d_Mo_unpacks_59 : decode prog_11_method_11_code 59 = .ok (.if_icmp .le 5, 3) := by decide +kernel
theorem d_Mo_unpacks_62 : decode prog_11_method_11_code 62 = .ok (.iconst 0, 1) := by decide +kernel
theorem d_Mo_unpacks_63 : decode prog_11_method_11_code 63 = .ok (.ireturn, 1) := by decide +kernel
theorem d_Mo_unpacks_64 : decode prog_11_method_11_code 64 = .ok (.iload_n 3, 1) := by decide +kernel
theorem d_Mo_unpacks_65 : decode prog_11_method_11_code 65 = .ok (.iconst 2, 1) := by decide +kernel
theorem d_Mo_unpacks_66 : decode prog_11_method_11_code 66 = .ok (.irem, 1) := by decide +kernel
theorem d_Mo_unpacks_67 : decode prog_11_method_11_code 67 = .ok (.iconst 1, 1) := by decide +kernel
theorem d_Mo_unpacks_68 : decode prog_11_method_11_code 68 = .ok (.if_icmp .ne 11, 3) := by decide +kernel
theorem d_Mo_unpacks_71 : decode prog_11_method_11_code 71 = .ok (.aload_n 0, 1) := by decide +kernel
theorem d_Mo_unpacks_72 : decode prog_11_method_11_code 72 = .ok (.iload_n 1, 1) := by decide +kernel
theorem d_Mo_unpacks_73 : decode prog_11_method_11_code 73 = .ok (.invokevirtual 75, 3) := by decide +kernel
theorem d_Mo_unpacks_76 : decode prog_11_method_11_code 76 = .ok (.goto 4, 3) := by decide +kernel
theorem d_Mo_unpacks_79 : decode prog_11_method_11_code 79 = .ok (.iconst 0, 1) := by decide +kernel
theorem d_Mo_unpacks_80 : decode prog_11_method_11_code 80 = .ok (.istore 5, 2) := by decide +kernel
theorem d_Mo_unpacks_82 : decode prog_11_method_11_code 82 = .ok (.iload_n 3, 1) := by decide +kernel
theorem d_Mo_unpacks_83 : decode prog_11_method_11_code 83 = .ok (.iconst 2, 1) := by decide +kernel
theorem d_Mo_unpacks_84 : decode prog_11_method_11_code 84 = .ok (.irem, 1) := by decide +kernel
theorem d_Mo_unpacks_85 : decode prog_11_method_11_code 85 = .ok (.iconst 1, 1) := by decide +kernel
theorem d_Mo_unpacks_86 : decode prog_11_method_11_code 86 = .ok (.if_icmp .ne 27, 3) := by decide +kernel
theorem d_Mo_unpacks_89 : decode prog_11_method_11_code 89 = .ok (.iload 4, 2) := by decide +kernel
theorem d_Mo_unpacks_91 : decode prog_11_method_11_code 91 = .ok (.iconst 4, 1) := by decide +kernel
theorem d_Mo_unpacks_92 : decode prog_11_method_11_code 92 = .ok (.if_icmp .lt 38, 3) := by decide +kernel
theorem d_Mo_unpacks_95 : decode prog_11_method_11_code 95 = .ok (.iload 5, 2) := by decide +kernel
theorem d_Mo_unpacks_97 : decode prog_11_method_11_code 97 = .ok (.iconst 1, 1) := by decide +kernel
theorem d_Mo_unpacks_98 : decode prog_11_method_11_code 98 = .ok (.if_icmp .lt 32, 3) := by decide +kernel
theorem d_Mo_unpacks_101 : decode prog_11_method_11_code 101 = .ok (.iload 5, 2) := by decide +kernel
theorem d_Mo_unpacks_103 : decode prog_11_method_11_code 103 = .ok (.aload_n 0, 1) := by decide +kernel
theorem d_Mo_unpacks_104 : decode prog_11_method_11_code 104 = .ok (.getfield 40, 3) := by decide +kernel
theorem d_Mo_unpacks_107 : decode prog_11_method_11_code 107 = .ok (.if_icmp .le 25, 3) := by decide +kernel
theorem d_Mo_unpacks_110 : decode prog_11_method_11_code 110 = .ok (.goto 20, 3) := by decide +kernel
theorem d_Mo_unpacks_113 : decode prog_11_method_11_code 113 = .ok (.iload 4, 2) := by decide +kernel
theorem d_Mo_unpacks_115 : decode prog_11_method_11_code 115 = .ok (.iconst 1, 1) := by decide +kernel
theorem d_Mo_unpacks_116 : decode prog_11_method_11_code 116 = .ok (.if_icmp .lt 14, 3) := by decide +kernel
theorem d_Mo_unpacks_119 : decode prog_11_method_11_code 119 = .ok (.iload 4, 2) := by decide +kernel
theorem d_Mo_unpacks_121 : decode prog_11_method_11_code 121 = .ok (.iload_n 1, 1) := by decide +kernel
theorem d_Mo_unpacks_122 : decode prog_11_method_11_code 122 = .ok (.aload_n 0, 1) := by decide +kernel
theorem d_Mo_unpacks_123 : decode prog_11_method_11_code 123 = .ok (.getfield 70, 3) := by decide +kernel
theorem d_Mo_unpacks_126 : decode prog_11_method_11_code 126 = .ok (.isub, 1) := by decide +kernel
theorem d_Mo_unpacks_127 : decode prog_11_method_11_code 127 = .ok (.if_icmp .le 5, 3) := by decide +kernel
theorem d_Mo_unpacks_130 : decode prog_11_method_11_code 130 = .ok (.iconst 0, 1) := by decide +kernel
theorem d_Mo_unpacks_131 : decode prog_11_method_11_code 131 = .ok (.ireturn, 1) := by decide +kernel
theorem d_Mo_unpacks_132 : decode prog_11_method_11_code 132 = .ok (.iconst 0, 1) := by decide +kernel
theorem d_Mo_unpacks_133 : decode prog_11_method_11_code 133 = .ok (.istore 6, 2) := by decide +kernel
theorem d_Mo_unpacks_135 : decode prog_11_method_11_code 135 = .ok (.iload 6, 2) := by decide +kernel
theorem d_Mo_unpacks_137 : decode prog_11_method_11_code 137 = .ok (.iload 4, 2) := by decide +kernel
theorem d_Mo_unpacks_139 : decode prog_11_method_11_code 139 = .ok (.if_icmp .ge 53, 3) := by decide +kernel
theorem d_Mo_unpacks_142 : decode prog_11_method_11_code 142 = .ok (.iload_n 3, 1) := by decide +kernel
theorem d_Mo_unpacks_143 : decode prog_11_method_11_code 143 = .ok (.iconst 2, 1) := by decide +kernel
theorem d_Mo_unpacks_144 : decode prog_11_method_11_code 144 = .ok (.irem, 1) := by decide +kernel
theorem d_Mo_unpacks_145 : decode prog_11_method_11_code 145 = .ok (.iconst 1, 1) := by decide +kernel
theorem d_Mo_unpacks_146 : decode prog_11_method_11_code 146 = .ok (.if_icmp .ne 23, 3) := by decide +kernel
theorem d_Mo_unpacks_149 : decode prog_11_method_11_code 149 = .ok (.aload_n 0, 1) := by decide +kernel
theorem d_Mo_unpacks_150 : decode prog_11_method_11_code 150 = .ok (.aload_n 0, 1) := by decide +kernel
theorem d_Mo_unpacks_151 : decode prog_11_method_11_code 151 = .ok (.getfield 17, 3) := by decide +kernel
theorem d_Mo_unpacks_154 : decode prog_11_method_11_code 154 = .ok (.aload_n 0, 1) := by decide +kernel
theorem d_Mo_unpacks_155 : decode prog_11_method_11_code 155 = .ok (.getfield 40, 3) := by decide +kernel
theorem d_Mo_unpacks_158 : decode prog_11_method_11_code 158 = .ok (.iload 5, 2) := by decide +kernel
theorem d_Mo_unpacks_160 : decode prog_11_method_11_code 160 = .ok (.isub, 1) := by decide +kernel
theorem d_Mo_unpacks_161 : decode prog_11_method_11_code 161 = .ok (.baload, 1) := by decide +kernel
theorem d_Mo_unpacks_162 : decode prog_11_method_11_code 162 = .ok (.invokevirtual 43, 3) := by decide +kernel
theorem d_Mo_unpacks_165 : decode prog_11_method_11_code 165 = .ok (.pop, 1) := by decide +kernel
theorem d_Mo_unpacks_166 : decode prog_11_method_11_code 166 = .ok (.goto 20, 3) := by decide +kernel
theorem d_Mo_unpacks_169 : decode prog_11_method_11_code 169 = .ok (.aload_n 0, 1) := by decide +kernel
theorem d_Mo_unpacks_170 : decode prog_11_method_11_code 170 = .ok (.aload_n 0, 1) := by decide +kernel
theorem d_Mo_unpacks_171 : decode prog_11_method_11_code 171 = .ok (.getfield 10, 3) := by decide +kernel
theorem d_Mo_unpacks_174 : decode prog_11_method_11_code 174 = .ok (.aload_n 0, 1) := by decide +kernel
theorem d_Mo_unpacks_175 : decode prog_11_method_11_code 175 = .ok (.getfield 70, 3) := by decide +kernel
theorem d_Mo_unpacks_178 : decode prog_11_method_11_code 178 = .ok (.iload 6, 2) := by decide +kernel
theorem d_Mo_unpacks_180 : decode prog_11_method_11_code 180 = .ok (.iadd, 1) := by decide +kernel
theorem d_Mo_unpacks_181 : decode prog_11_method_11_code 181 = .ok (.baload, 1) := by decide +kernel
theorem d_Mo_unpacks_182 : decode prog_11_method_11_code 182 = .ok (.invokevirtual 43, 3) := by decide +kernel
theorem d_Mo_unpacks_185 : decode prog_11_method_11_code 185 = .ok (.pop, 1) := by decide +kernel
theorem d_Mo_unpacks_186 : decode prog_11_method_11_code 186 = .ok (.iinc 6 1, 3) := by decide +kernel
theorem d_Mo_unpacks_189 : decode prog_11_method_11_code 189 = .ok (.goto (-54), 3) := by decide +kernel
theorem d_Mo_unpacks_192 : decode prog_11_method_11_code 192 = .ok (.iload_n 3, 1) := by decide +kernel
theorem d_Mo_unpacks_193 : decode prog_11_method_11_code 193 = .ok (.iconst 2, 1) := by decide +kernel
theorem d_Mo_unpacks_194 : decode prog_11_method_11_code 194 = .ok (.irem, 1) := by decide +kernel
theorem d_Mo_unpacks_195 : decode prog_11_method_11_code 195 = .ok (.ifCond .ne 14, 3) := by decide +kernel
theorem d_Mo_unpacks_198 : decode prog_11_method_11_code 198 = .ok (.aload_n 0, 1) := by decide +kernel
theorem d_Mo_unpacks_199 : decode prog_11_method_11_code 199 = .ok (.dup, 1) := by decide +kernel
theorem d_Mo_unpacks_200 : decode prog_11_method_11_code 200 = .ok (.getfield 70, 3) := by decide +kernel
theorem d_Mo_unpacks_203 : decode prog_11_method_11_code 203 = .ok (.iload 4, 2) := by decide +kernel
theorem d_Mo_unpacks_205 : decode prog_11_method_11_code 205 = .ok (.iadd, 1) := by decide +kernel
theorem d_Mo_unpacks_206 : decode prog_11_method_11_code 206 = .ok (.putfield 70, 3) := by decide +kernel
theorem d_Mo_unpacks_209 : decode prog_11_method_11_code 209 = .ok (.goto (-181), 3) := by decide +kernel
theorem d_Mo_unpacks_212 : decode prog_11_method_11_code 212 = .ok (.aload_n 0, 1) := by decide +kernel
theorem d_Mo_unpacks_213 : decode prog_11_method_11_code 213 = .ok (.getfield 70, 3) := by decide +kernel
theorem d_Mo_unpacks_216 : decode prog_11_method_11_code 216 = .ok (.iload_n 1, 1) := by decide +kernel
theorem d_Mo_unpacks_217 : decode prog_11_method_11_code 217 = .ok (.if_icmp .ne 7, 3) := by decide +kernel
theorem d_Mo_unpacks_220 : decode prog_11_method_11_code 220 = .ok (.iconst 1, 1) := by decide +kernel
theorem d_Mo_unpacks_221 : decode prog_11_method_11_code 221 = .ok (.goto 4, 3) := by decide +kernel
theorem d_Mo_unpacks_224 : decode prog_11_method_11_code 224 = .ok (.iconst 0, 1) := by decide +kernel
theorem d_Mo_unpacks_225 : decode prog_11_method_11_code 225 = .ok (.ireturn, 1) := by decide +kernel
theorem d_Mo_unpack0_0 : decode prog_11_method_12_code 0 = .ok (.aload_n 0, 1) := by decide +kernel
theorem d_Mo_unpack0_1 : decode prog_11_method_12_code 1 = .ok (.getfield 30, 3) := by decide +kernel
theorem d_Mo_unpack0_4 : decode prog_11_method_12_code 4 = .ok (.istore_n 1, 1) := by decide +kernel
theorem d_Mo_unpack0_5 : decode prog_11_method_12_code 5 = .ok (.aload_n 0, 1) := by decide +kernel
theorem d_Mo_unpack0_6 : decode prog_11_method_12_code 6 = .ok (.iconst 0, 1) := by decide +kernel
theorem d_Mo_unpack0_7 : decode prog_11_method_12_code 7 = .ok (.putfield 30, 3) := by decide +kernel
theorem d_Mo_unpack0_10 : decode prog_11_method_12_code 10 = .ok (.aload_n 0, 1) := by decide +kernel
theorem d_Mo_unpack0_11 : decode prog_11_method_12_code 11 = .ok (.iload_n 1, 1) := by decide +kernel
theorem d_Mo_unpack0_12 : decode prog_11_method_12_code 12 = .ok (.invokevirtual 79, 3) := by decide +kernel
theorem d_Mo_unpack0_15 : decode prog_11_method_12_code 15 = .ok (.ifCond .ne 11, 3) := by decide +kernel
theorem d_Mo_unpack0_18 : decode prog_11_method_12_code 18 = .ok (.new 37, 3) := by decide +kernel
theorem d_Mo_unpack0_21 : decode prog_11_method_12_code 21 = .ok (.dup, 1) := by decide +kernel
theorem d_Mo_unpack0_22 : decode prog_11_method_12_code 22 = .ok (.invokespecial 39, 3) := by decide +kernel
theorem d_Mo_unpack0_25 : decode prog_11_method_12_code 25 = .ok (.athrow, 1) := by decide +kernel
theorem d_Mo_unpack0_26 : decode prog_11_method_12_code 26 = .ok (.aload_n 0, 1) := by decide +kernel
theorem d_Mo_unpack0_27 : decode prog_11_method_12_code 27 = .ok (.invokevirtual 67, 3) := by decide +kernel
theorem d_Mo_unpack0_30 : decode prog_11_method_12_code 30 = .ok (.aload_n 0, 1) := by decide +kernel
theorem d_Mo_unpack0_31 : decode prog_11_method_12_code 31 = .ok (.getfield 53, 3) := by decide +kernel
theorem d_Mo_unpack0_34 : decode prog_11_method_12_code 34 = .ok (.ireturn, 1) := by decide +kernel
theorem d_Mo_isCharacter_0 : decode prog_11_method_13_code 0 = .ok (.iload_n 0, 1) := by decide +kernel
theorem d_Mo_isCharacter_1 : decode prog_11_method_13_code 1 = .ok (.ifCond .lt 25, 3) := by decide +kernel
theorem d_Mo_isCharacter_4 : decode prog_11_method_13_code 4 = .ok (.iload_n 0, 1) := by decide +kernel
theorem d_Mo_isCharacter_5 : decode prog_11_method_13_code 5 = .ok (.ldc 82, 2) := by decide +kernel
theorem d_Mo_isCharacter_7 : decode prog_11_method_13_code 7 = .ok (.if_icmp .gt 19, 3) := by decide +kernel
theorem d_Mo_isCharacter_10 : decode prog_11_method_13_code 10 = .ok (.iload_n 0, 1) := by decide +kernel
theorem d_Mo_isCharacter_11 : decode prog_11_method_13_code 11 = .ok (.ldc 83, 2) := by decide +kernel
theorem d_Mo_isCharacter_13 : decode prog_11_method_13_code 13 = .ok (.if_icmp .lt 9, 3) := by decide +kernel
theorem d_Mo_isCharacter_16 : decode prog_11_method_13_code 16 = .ok (.iload_n 0, 1) := by decide +kernel
theorem d_Mo_isCharacter_17 : decode prog_11_method_13_code 17 = .ok (.ldc 84, 2) := by decide +kernel
theorem d_Mo_isCharacter_19 : decode prog_11_method_13_code 19 = .ok (.if_icmp .le 7, 3) := by decide +kernel
theorem d_Mo_isCharacter_22 : decode prog_11_method_13_code 22 = .ok (.iconst 1, 1) := by decide +kernel
theorem d_Mo_isCharacter_23 : decode prog_11_method_13_code 23 = .ok (.goto 4, 3) := by decide +kernel
theorem d_Mo_isCharacter_26 : decode prog_11_method_13_code 26 = .ok (.iconst 0, 1) := by decide +kernel
theorem d_Mo_isCharacter_27 : decode prog_11_method_13_code 27 = .ok (.ireturn, 1) := by decide +kernel
theorem d_Mo_width_0 : decode prog_11_method_14_code 0 = .ok (.iload_n 0, 1) := by decide +kernel
theorem d_Mo_width_1 : decode prog_11_method_14_code 1 = .ok (.sipush 128, 3) := by decide +kernel
theorem d_Mo_width_4 : decode prog_11_method_14_code 4 = .ok (.if_icmp .ge 7, 3) := by decide +kernel
theorem d_Mo_width_7 : decode prog_11_method_14_code 7 = .ok (.iconst 1, 1) := by decide +kernel
theorem d_Mo_width_8 : decode prog_11_method_14_code 8 = .ok (.goto 25, 3) := by decide +kernel
theorem d_Mo_width_11 : decode prog_11_method_14_code 11 = .ok (.iload_n 0, 1) := by decide +kernel
theorem d_Mo_width_12 : decode prog_11_method_14_code 12 = .ok (.sipush 2048, 3) := by decide +kernel
theorem d_Mo_width_15 : decode prog_11_method_14_code 15 = .ok (.if_icmp .ge 7, 3) := by decide +kernel
theorem d_Mo_width_18 : decode prog_11_method_14_code 18 = .ok (.iconst 2, 1) := by decide +kernel
theorem d_Mo_width_19 : decode prog_11_method_14_code 19 = .ok (.goto 14, 3) := by decide +kernel
theorem d_Mo_width_22 : decode prog_11_method_14_code 22 = .ok (.iload_n 0, 1) := by decide +kernel
theorem d_Mo_width_23 : decode prog_11_method_14_code 23 = .ok (.ldc 85, 2) := by decide +kernel
theorem d_Mo_width_25 : decode prog_11_method_14_code 25 = .ok (.if_icmp .ge 7, 3) := by decide +kernel
theorem d_Mo_width_28 : decode prog_11_method_14_code 28 = .ok (.iconst 3, 1) := by decide +kernel
theorem d_Mo_width_29 : decode prog_11_method_14_code 29 = .ok (.goto 4, 3) := by decide +kernel
theorem d_Mo_width_32 : decode prog_11_method_14_code 32 = .ok (.iconst 4, 1) := by decide +kernel
theorem d_Mo_width_33 : decode prog_11_method_14_code 33 = .ok (.ireturn, 1) := by decide +kernel
theorem d_Mo_character_0 : decode prog_11_method_15_code 0 = .ok (.aload_n 0, 1) := by decide +kernel
theorem d_Mo_character_1 : decode prog_11_method_15_code 1 = .ok (.getfield 10, 3) := by decide +kernel
theorem d_Mo_character_4 : decode prog_11_method_15_code 4 = .ok (.iload_n 1, 1) := by decide +kernel
theorem d_Mo_character_5 : decode prog_11_method_15_code 5 = .ok (.baload, 1) := by decide +kernel
theorem d_Mo_character_6 : decode prog_11_method_15_code 6 = .ok (.sipush 255, 3) := by decide +kernel
theorem d_Mo_character_9 : decode prog_11_method_15_code 9 = .ok (.iand, 1) := by decide +kernel
theorem d_Mo_character_10 : decode prog_11_method_15_code 10 = .ok (.istore_n 3, 1) := by decide +kernel
theorem d_Mo_character_11 : decode prog_11_method_15_code 11 = .ok (.iload_n 3, 1) := by decide +kernel
theorem d_Mo_character_12 : decode prog_11_method_15_code 12 = .ok (.sipush 128, 3) := by decide +kernel
theorem d_Mo_character_15 : decode prog_11_method_15_code 15 = .ok (.if_icmp .ge 7, 3) := by decide +kernel
theorem d_Mo_character_18 : decode prog_11_method_15_code 18 = .ok (.iconst 1, 1) := by decide +kernel
theorem d_Mo_character_19 : decode prog_11_method_15_code 19 = .ok (.goto 48, 3) := by decide +kernel
theorem d_Mo_character_22 : decode prog_11_method_15_code 22 = .ok (.iload_n 3, 1) := by decide +kernel
theorem d_Mo_character_23 : decode prog_11_method_15_code 23 = .ok (.sipush 192, 3) := by decide +kernel
theorem d_Mo_character_26 : decode prog_11_method_15_code 26 = .ok (.if_icmp .ge 7, 3) := by decide +kernel
theorem d_Mo_character_29 : decode prog_11_method_15_code 29 = .ok (.iconst 0, 1) := by decide +kernel
theorem d_Mo_character_30 : decode prog_11_method_15_code 30 = .ok (.goto 37, 3) := by decide +kernel
theorem d_Mo_character_33 : decode prog_11_method_15_code 33 = .ok (.iload_n 3, 1) := by decide +kernel
theorem d_Mo_character_34 : decode prog_11_method_15_code 34 = .ok (.sipush 224, 3) := by decide +kernel
theorem d_Mo_character_37 : decode prog_11_method_15_code 37 = .ok (.if_icmp .ge 7, 3) := by decide +kernel
theorem d_Mo_character_40 : decode prog_11_method_15_code 40 = .ok (.iconst 2, 1) := by decide +kernel
theorem d_Mo_character_41 : decode prog_11_method_15_code 41 = .ok (.goto 26, 3) := by decide +kernel
theorem d_Mo_character_44 : decode prog_11_method_15_code 44 = .ok (.iload_n 3, 1) := by decide +kernel
theorem d_Mo_character_45 : decode prog_11_method_15_code 45 = .ok (.sipush 240, 3) := by decide +kernel
theorem d_Mo_character_48 : decode prog_11_method_15_code 48 = .ok (.if_icmp .ge 7, 3) := by decide +kernel
theorem d_Mo_character_51 : decode prog_11_method_15_code 51 = .ok (.iconst 3, 1) := by decide +kernel
theorem d_Mo_character_52 : decode prog_11_method_15_code 52 = .ok (.goto 15, 3) := by decide +kernel
theorem d_Mo_character_55 : decode prog_11_method_15_code 55 = .ok (.iload_n 3, 1) := by decide +kernel
theorem d_Mo_character_56 : decode prog_11_method_15_code 56 = .ok (.sipush 248, 3) := by decide +kernel
theorem d_Mo_character_59 : decode prog_11_method_15_code 59 = .ok (.if_icmp .ge 7, 3) := by decide +kernel
theorem d_Mo_character_62 : decode prog_11_method_15_code 62 = .ok (.iconst 4, 1) := by decide +kernel
theorem d_Mo_character_63 : decode prog_11_method_15_code 63 = .ok (.goto 4, 3) := by decide +kernel
theorem d_Mo_character_66 : decode prog_11_method_15_code 66 = .ok (.iconst 0, 1) := by decide +kernel
theorem d_Mo_character_67 : decode prog_11_method_15_code 67 = .ok (.istore 4, 2) := by decide +kernel
theorem d_Mo_character_69 : decode prog_11_method_15_code 69 = .ok (.iload 4, 2) := by decide +kernel
theorem d_Mo_character_71 : decode prog_11_method_15_code 71 = .ok (.ifCond .eq 11, 3) := by decide +kernel
theorem d_Mo_character_74 : decode prog_11_method_15_code 74 = .ok (.iload_n 1, 1) := by decide +kernel
theorem d_Mo_character_75 : decode prog_11_method_15_code 75 = .ok (.iload 4, 2) := by decide +kernel
theorem d_Mo_character_77 : decode prog_11_method_15_code 77 = .ok (.iadd, 1) := by decide +kernel
theorem d_Mo_character_78 : decode prog_11_method_15_code 78 = .ok (.iload_n 2, 1) := by decide +kernel
theorem d_Mo_character_79 : decode prog_11_method_15_code 79 = .ok (.if_icmp .le 5, 3) := by decide +kernel
theorem d_Mo_character_82 : decode prog_11_method_15_code 82 = .ok (.iconst (-1), 1) := by decide +kernel
theorem d_Mo_character_83 : decode prog_11_method_15_code 83 = .ok (.ireturn, 1) := by decide +kernel
theorem d_Mo_character_84 : decode prog_11_method_15_code 84 = .ok (.iload 4, 2) := by decide +kernel
theorem d_Mo_character_86 : decode prog_11_method_15_code 86 = .ok (.iconst 1, 1) := by decide +kernel
theorem d_Mo_character_87 : decode prog_11_method_15_code 87 = .ok (.if_icmp .ne 7, 3) := by decide +kernel
theorem d_Mo_character_90 : decode prog_11_method_15_code 90 = .ok (.iload_n 3, 1) := by decide +kernel
theorem d_Mo_character_91 : decode prog_11_method_15_code 91 = .ok (.goto 36, 3) := by decide +kernel
theorem d_Mo_character_94 : decode prog_11_method_15_code 94 = .ok (.iload 4, 2) := by decide +kernel
theorem d_Mo_character_96 : decode prog_11_method_15_code 96 = .ok (.iconst 2, 1) := by decide +kernel
theorem d_Mo_character_97 : decode prog_11_method_15_code 97 = .ok (.if_icmp .ne 11, 3) := by decide +kernel
theorem d_Mo_character_100 : decode prog_11_method_15_code 100 = .ok (.iload_n 3, 1) := by decide +kernel
theorem d_Mo_character_101 : decode prog_11_method_15_code 101 = .ok (.sipush 192, 3) := by decide +kernel
theorem d_Mo_character_104 : decode prog_11_method_15_code 104 = .ok (.isub, 1) := by decide +kernel
theorem d_Mo_character_105 : decode prog_11_method_15_code 105 = .ok (.goto 22, 3) := by decide +kernel
theorem d_Mo_character_108 : decode prog_11_method_15_code 108 = .ok (.iload 4, 2) := by decide +kernel
theorem d_Mo_character_110 : decode prog_11_method_15_code 110 = .ok (.iconst 3, 1) := by decide +kernel
theorem d_Mo_character_111 : decode prog_11_method_15_code 111 = .ok (.if_icmp .ne 11, 3) := by decide +kernel
theorem d_Mo_character_114 : decode prog_11_method_15_code 114 = .ok (.iload_n 3, 1) := by decide +kernel
theorem d_Mo_character_115 : decode prog_11_method_15_code 115 = .ok (.sipush 224, 3) := by decide +kernel
theorem d_Mo_character_118 : decode prog_11_method_15_code 118 = .ok (.isub, 1) := by decide +kernel
theorem d_Mo_character_119 : decode prog_11_method_15_code 119 = .ok (.goto 8, 3) := by decide +kernel
theorem d_Mo_character_122 : decode prog_11_method_15_code 122 = .ok (.iload_n 3, 1) := by decide +kernel
theorem d_Mo_character_123 : decode prog_11_method_15_code 123 = .ok (.sipush 240, 3) := by decide +kernel
theorem d_Mo_character_126 : decode prog_11_method_15_code 126 = .ok (.isub, 1) := by decide +kernel
theorem d_Mo_character_127 : decode prog_11_method_15_code 127 = .ok (.istore 5, 2) := by decide +kernel
theorem d_Mo_character_129 : decode prog_11_method_15_code 129 = .ok (.iconst 1, 1) := by decide +kernel
theorem d_Mo_character_130 : decode prog_11_method_15_code 130 = .ok (.istore 6, 2) := by decide +kernel
theorem d_Mo_character_132 : decode prog_11_method_15_code 132 = .ok (.iload 6, 2) := by decide +kernel
theorem d_Mo_character_134 : decode prog_11_method_15_code 134 = .ok (.iload 4, 2) := by decide +kernel
theorem d_Mo_character_136 : decode prog_11_method_15_code 136 = .ok (.if_icmp .ge 56, 3) := by decide +kernel
theorem d_Mo_character_139 : decode prog_11_method_15_code 139 = .ok (.aload_n 0, 1) := by decide +kernel
theorem d_Mo_character_140 : decode prog_11_method_15_code 140 = .ok (.getfield 10, 3) := by decide +kernel
theorem d_Mo_character_143 : decode prog_11_method_15_code 143 = .ok (.iload_n 1, 1) := by decide +kernel
theorem d_Mo_character_144 : decode prog_11_method_15_code 144 = .ok (.iload 6, 2) := by decide +kernel
theorem d_Mo_character_146 : decode prog_11_method_15_code 146 = .ok (.iadd, 1) := by decide +kernel
theorem d_Mo_character_147 : decode prog_11_method_15_code 147 = .ok (.baload, 1) := by decide +kernel
theorem d_Mo_character_148 : decode prog_11_method_15_code 148 = .ok (.sipush 255, 3) := by decide +kernel
