theorem d_Bytes_init_0 : decode prog_2_method_1_code 0 = .ok (.aload_n 0, 1) := by decide +kernel
theorem d_Bytes_init_1 : decode prog_2_method_1_code 1 = .ok (.invokespecial 3, 3) := by decide +kernel
theorem d_Bytes_init_4 : decode prog_2_method_1_code 4 = .ok (.aload_n 0, 1) := by decide +kernel
theorem d_Bytes_init_5 : decode prog_2_method_1_code 5 = .ok (.ldc 9, 2) := by decide +kernel
theorem d_Bytes_init_7 : decode prog_2_method_1_code 7 = .ok (.newarray .byte, 2) := by decide +kernel
theorem d_Bytes_init_9 : decode prog_2_method_1_code 9 = .ok (.putfield 10, 3) := by decide +kernel
theorem d_Bytes_init_12 : decode prog_2_method_1_code 12 = .ok (.aload_n 0, 1) := by decide +kernel
theorem d_Bytes_init_13 : decode prog_2_method_1_code 13 = .ok (.iconst 0, 1) := by decide +kernel
theorem d_Bytes_init_14 : decode prog_2_method_1_code 14 = .ok (.putfield 16, 3) := by decide +kernel
theorem d_Bytes_init_17 : decode prog_2_method_1_code 17 = .ok (.return_, 1) := by decide +kernel
theorem d_Bytes_hasRoomFor_0 : decode prog_2_method_2_code 0 = .ok (.iload_n 1, 1) := by decide +kernel
theorem d_Bytes_hasRoomFor_1 : decode prog_2_method_2_code 1 = .ok (.ldc 9, 2) := by decide +kernel
theorem d_Bytes_hasRoomFor_3 : decode prog_2_method_2_code 3 = .ok (.aload_n 0, 1) := by decide +kernel
theorem d_Bytes_hasRoomFor_4 : decode prog_2_method_2_code 4 = .ok (.getfield 16, 3) := by decide +kernel
theorem d_Bytes_hasRoomFor_7 : decode prog_2_method_2_code 7 = .ok (.isub, 1) := by decide +kernel
theorem d_Bytes_hasRoomFor_8 : decode prog_2_method_2_code 8 = .ok (.if_icmp .gt 7, 3) := by decide +kernel
theorem d_Bytes_hasRoomFor_11 : decode prog_2_method_2_code 11 = .ok (.iconst 1, 1) := by decide +kernel
theorem d_Bytes_hasRoomFor_12 : decode prog_2_method_2_code 12 = .ok (.goto 4, 3) := by decide +kernel
theorem d_Bytes_hasRoomFor_15 : decode prog_2_method_2_code 15 = .ok (.iconst 0, 1) := by decide +kernel
theorem d_Bytes_hasRoomFor_16 : decode prog_2_method_2_code 16 = .ok (.ireturn, 1) := by decide +kernel
theorem d_Bytes_at_0 : decode prog_2_method_3_code 0 = .ok (.aload_n 0, 1) := by decide +kernel
theorem d_Bytes_at_1 : decode prog_2_method_3_code 1 = .ok (.getfield 10, 3) := by decide +kernel
theorem d_Bytes_at_4 : decode prog_2_method_3_code 4 = .ok (.iload_n 1, 1) := by decide +kernel
theorem d_Bytes_at_5 : decode prog_2_method_3_code 5 = .ok (.baload, 1) := by decide +kernel
theorem d_Bytes_at_6 : decode prog_2_method_3_code 6 = .ok (.sipush 255, 3) := by decide +kernel
theorem d_Bytes_at_9 : decode prog_2_method_3_code 9 = .ok (.iand, 1) := by decide +kernel
theorem d_Bytes_at_10 : decode prog_2_method_3_code 10 = .ok (.ireturn, 1) := by decide +kernel
theorem d_Bytes_add_0 : decode prog_2_method_4_code 0 = .ok (.aload_n 0, 1) := by decide +kernel
theorem d_Bytes_add_1 : decode prog_2_method_4_code 1 = .ok (.getfield 10, 3) := by decide +kernel
theorem d_Bytes_add_4 : decode prog_2_method_4_code 4 = .ok (.aload_n 0, 1) := by decide +kernel
theorem d_Bytes_add_5 : decode prog_2_method_4_code 5 = .ok (.getfield 16, 3) := by decide +kernel
theorem d_Bytes_add_8 : decode prog_2_method_4_code 8 = .ok (.iload_n 1, 1) := by decide +kernel
theorem d_Bytes_add_9 : decode prog_2_method_4_code 9 = .ok (.i2b, 1) := by decide +kernel
theorem d_Bytes_add_10 : decode prog_2_method_4_code 10 = .ok (.bastore, 1) := by decide +kernel
theorem d_Bytes_add_11 : decode prog_2_method_4_code 11 = .ok (.aload_n 0, 1) := by decide +kernel
theorem d_Bytes_add_12 : decode prog_2_method_4_code 12 = .ok (.dup, 1) := by decide +kernel
theorem d_Bytes_add_13 : decode prog_2_method_4_code 13 = .ok (.getfield 16, 3) := by decide +kernel
theorem d_Bytes_add_16 : decode prog_2_method_4_code 16 = .ok (.iconst 1, 1) := by decide +kernel
theorem d_Bytes_add_17 : decode prog_2_method_4_code 17 = .ok (.iadd, 1) := by decide +kernel
theorem d_Bytes_add_18 : decode prog_2_method_4_code 18 = .ok (.putfield 16, 3) := by decide +kernel
theorem d_Bytes_add_21 : decode prog_2_method_4_code 21 = .ok (.return_, 1) := by decide +kernel
theorem d_Bytes_addFour_0 : decode prog_2_method_5_code 0 = .ok (.aload_n 0, 1) := by decide +kernel
theorem d_Bytes_addFour_1 : decode prog_2_method_5_code 1 = .ok (.iload_n 1, 1) := by decide +kernel
theorem d_Bytes_addFour_2 : decode prog_2_method_5_code 2 = .ok (.bipush 24, 2) := by decide +kernel
theorem d_Bytes_addFour_4 : decode prog_2_method_5_code 4 = .ok (.iushr, 1) := by decide +kernel
theorem d_Bytes_addFour_5 : decode prog_2_method_5_code 5 = .ok (.invokevirtual 20, 3) := by decide +kernel
theorem d_Bytes_addFour_8 : decode prog_2_method_5_code 8 = .ok (.aload_n 0, 1) := by decide +kernel
theorem d_Bytes_addFour_9 : decode prog_2_method_5_code 9 = .ok (.iload_n 1, 1) := by decide +kernel
theorem d_Bytes_addFour_10 : decode prog_2_method_5_code 10 = .ok (.bipush 16, 2) := by decide +kernel
theorem d_Bytes_addFour_12 : decode prog_2_method_5_code 12 = .ok (.iushr, 1) := by decide +kernel
theorem d_Bytes_addFour_13 : decode prog_2_method_5_code 13 = .ok (.invokevirtual 20, 3) := by decide +kernel
theorem d_Bytes_addFour_16 : decode prog_2_method_5_code 16 = .ok (.aload_n 0, 1) := by decide +kernel
theorem d_Bytes_addFour_17 : decode prog_2_method_5_code 17 = .ok (.iload_n 1, 1) := by decide +kernel
theorem d_Bytes_addFour_18 : decode prog_2_method_5_code 18 = .ok (.bipush 8, 2) := by decide +kernel
theorem d_Bytes_addFour_20 : decode prog_2_method_5_code 20 = .ok (.iushr, 1) := by decide +kernel
theorem d_Bytes_addFour_21 : decode prog_2_method_5_code 21 = .ok (.invokevirtual 20, 3) := by decide +kernel
theorem d_Bytes_addFour_24 : decode prog_2_method_5_code 24 = .ok (.aload_n 0, 1) := by decide +kernel
theorem d_Bytes_addFour_25 : decode prog_2_method_5_code 25 = .ok (.iload_n 1, 1) := by decide +kernel
theorem d_Bytes_addFour_26 : decode prog_2_method_5_code 26 = .ok (.invokevirtual 20, 3) := by decide +kernel
theorem d_Bytes_addFour_29 : decode prog_2_method_5_code 29 = .ok (.return_, 1) := by decide +kernel
theorem d_Bytes_addRun_0 : decode prog_2_method_6_code 0 = .ok (.aload_n 1, 1) := by decide +kernel
theorem d_Bytes_addRun_1 : decode prog_2_method_6_code 1 = .ok (.getfield 10, 3) := by decide +kernel
theorem d_Bytes_addRun_4 : decode prog_2_method_6_code 4 = .ok (.iload_n 2, 1) := by decide +kernel
theorem d_Bytes_addRun_5 : decode prog_2_method_6_code 5 = .ok (.aload_n 0, 1) := by decide +kernel
theorem d_Bytes_addRun_6 : decode prog_2_method_6_code 6 = .ok (.getfield 10, 3) := by decide +kernel
theorem d_Bytes_addRun_9 : decode prog_2_method_6_code 9 = .ok (.aload_n 0, 1) := by decide +kernel
theorem d_Bytes_addRun_10 : decode prog_2_method_6_code 10 = .ok (.getfield 16, 3) := by decide +kernel
theorem d_Bytes_addRun_13 : decode prog_2_method_6_code 13 = .ok (.iload_n 3, 1) := by decide +kernel
theorem d_Bytes_addRun_14 : decode prog_2_method_6_code 14 = .ok (.invokestatic 24, 3) := by decide +kernel
theorem d_Bytes_addRun_17 : decode prog_2_method_6_code 17 = .ok (.aload_n 0, 1) := by decide +kernel
theorem d_Bytes_addRun_18 : decode prog_2_method_6_code 18 = .ok (.dup, 1) := by decide +kernel
theorem d_Bytes_addRun_19 : decode prog_2_method_6_code 19 = .ok (.getfield 16, 3) := by decide +kernel
theorem d_Bytes_addRun_22 : decode prog_2_method_6_code 22 = .ok (.iload_n 3, 1) := by decide +kernel
theorem d_Bytes_addRun_23 : decode prog_2_method_6_code 23 = .ok (.iadd, 1) := by decide +kernel
theorem d_Bytes_addRun_24 : decode prog_2_method_6_code 24 = .ok (.putfield 16, 3) := by decide +kernel
theorem d_Bytes_addRun_27 : decode prog_2_method_6_code 27 = .ok (.return_, 1) := by decide +kernel
theorem d_Bytes_addFromBack_0 : decode prog_2_method_7_code 0 = .ok (.iconst 0, 1) := by decide +kernel
theorem d_Bytes_addFromBack_1 : decode prog_2_method_7_code 1 = .ok (.istore_n 3, 1) := by decide +kernel
theorem d_Bytes_addFromBack_2 : decode prog_2_method_7_code 2 = .ok (.iload_n 3, 1) := by decide +kernel
theorem d_Bytes_addFromBack_3 : decode prog_2_method_7_code 3 = .ok (.iload_n 2, 1) := by decide +kernel
theorem d_Bytes_addFromBack_4 : decode prog_2_method_7_code 4 = .ok (.if_icmp .ge 23, 3) := by decide +kernel
theorem d_Bytes_addFromBack_7 : decode prog_2_method_7_code 7 = .ok (.aload_n 0, 1) := by decide +kernel
theorem d_Bytes_addFromBack_8 : decode prog_2_method_7_code 8 = .ok (.aload_n 0, 1) := by decide +kernel
theorem d_Bytes_addFromBack_9 : decode prog_2_method_7_code 9 = .ok (.aload_n 0, 1) := by decide +kernel
theorem d_Bytes_addFromBack_10 : decode prog_2_method_7_code 10 = .ok (.getfield 16, 3) := by decide +kernel
theorem d_Bytes_addFromBack_13 : decode prog_2_method_7_code 13 = .ok (.iload_n 1, 1) := by decide +kernel
theorem d_Bytes_addFromBack_14 : decode prog_2_method_7_code 14 = .ok (.isub, 1) := by decide +kernel
theorem d_Bytes_addFromBack_15 : decode prog_2_method_7_code 15 = .ok (.invokevirtual 30, 3) := by decide +kernel
theorem d_Bytes_addFromBack_18 : decode prog_2_method_7_code 18 = .ok (.invokevirtual 20, 3) := by decide +kernel
theorem d_Bytes_addFromBack_21 : decode prog_2_method_7_code 21 = .ok (.iinc 3 1, 3) := by decide +kernel
theorem d_Bytes_addFromBack_24 : decode prog_2_method_7_code 24 = .ok (.goto (-22), 3) := by decide +kernel
theorem d_Bytes_addFromBack_27 : decode prog_2_method_7_code 27 = .ok (.return_, 1) := by decide +kernel
theorem d_Bytes_countSame_0 : decode prog_2_method_8_code 0 = .ok (.iconst 0, 1) := by decide +kernel
theorem d_Bytes_countSame_1 : decode prog_2_method_8_code 1 = .ok (.istore 4, 2) := by decide +kernel
theorem d_Bytes_countSame_3 : decode prog_2_method_8_code 3 = .ok (.iload 4, 2) := by decide +kernel
theorem d_Bytes_countSame_5 : decode prog_2_method_8_code 5 = .ok (.iload_n 3, 1) := by decide +kernel
theorem d_Bytes_countSame_6 : decode prog_2_method_8_code 6 = .ok (.if_icmp .ge 30, 3) := by decide +kernel
theorem d_Bytes_countSame_9 : decode prog_2_method_8_code 9 = .ok (.aload_n 0, 1) := by decide +kernel
theorem d_Bytes_countSame_10 : decode prog_2_method_8_code 10 = .ok (.getfield 10, 3) := by decide +kernel
theorem d_Bytes_countSame_13 : decode prog_2_method_8_code 13 = .ok (.iload_n 1, 1) := by decide +kernel
theorem d_Bytes_countSame_14 : decode prog_2_method_8_code 14 = .ok (.iload 4, 2) := by decide +kernel
theorem d_Bytes_countSame_16 : decode prog_2_method_8_code 16 = .ok (.iadd, 1) := by decide +kernel
theorem d_Bytes_countSame_17 : decode prog_2_method_8_code 17 = .ok (.baload, 1) := by decide +kernel
theorem d_Bytes_countSame_18 : decode prog_2_method_8_code 18 = .ok (.aload_n 0, 1) := by decide +kernel
theorem d_Bytes_countSame_19 : decode prog_2_method_8_code 19 = .ok (.getfield 10, 3) := by decide +kernel
theorem d_Bytes_countSame_22 : decode prog_2_method_8_code 22 = .ok (.iload_n 2, 1) := by decide +kernel
theorem d_Bytes_countSame_23 : decode prog_2_method_8_code 23 = .ok (.iload 4, 2) := by decide +kernel
theorem d_Bytes_countSame_25 : decode prog_2_method_8_code 25 = .ok (.iadd, 1) := by decide +kernel
theorem d_Bytes_countSame_26 : decode prog_2_method_8_code 26 = .ok (.baload, 1) := by decide +kernel
theorem d_Bytes_countSame_27 : decode prog_2_method_8_code 27 = .ok (.if_icmp .ne 9, 3) := by decide +kernel
theorem d_Bytes_countSame_30 : decode prog_2_method_8_code 30 = .ok (.iinc 4 1, 3) := by decide +kernel
theorem d_Bytes_countSame_33 : decode prog_2_method_8_code 33 = .ok (.goto (-30), 3) := by decide +kernel
theorem d_Bytes_countSame_36 : decode prog_2_method_8_code 36 = .ok (.iload 4, 2) := by decide +kernel
theorem d_Bytes_countSame_38 : decode prog_2_method_8_code 38 = .ok (.ireturn, 1) := by decide +kernel
theorem d_Crc_ofFirst_0 : decode prog_3_method_2_code 0 = .ok (.iconst (-1), 1) := by decide +kernel
theorem d_Crc_ofFirst_1 : decode prog_3_method_2_code 1 = .ok (.istore_n 2, 1) := by decide +kernel
theorem d_Crc_ofFirst_2 : decode prog_3_method_2_code 2 = .ok (.iconst 0, 1) := by decide +kernel
theorem d_Crc_ofFirst_3 : decode prog_3_method_2_code 3 = .ok (.istore_n 3, 1) := by decide +kernel
theorem d_Crc_ofFirst_4 : decode prog_3_method_2_code 4 = .ok (.iload_n 3, 1) := by decide +kernel
theorem d_Crc_ofFirst_5 : decode prog_3_method_2_code 5 = .ok (.iload_n 0, 1) := by decide +kernel
theorem d_Crc_ofFirst_6 : decode prog_3_method_2_code 6 = .ok (.if_icmp .ge 43, 3) := by decide +kernel
theorem d_Crc_ofFirst_9 : decode prog_3_method_2_code 9 = .ok (.iload_n 2, 1) := by decide +kernel
theorem d_Crc_ofFirst_10 : decode prog_3_method_2_code 10 = .ok (.aload_n 1, 1) := by decide +kernel
theorem d_Crc_ofFirst_11 : decode prog_3_method_2_code 11 = .ok (.iload_n 3, 1) := by decide +kernel
theorem d_Crc_ofFirst_12 : decode prog_3_method_2_code 12 = .ok (.invokevirtual 7, 3) := by decide +kernel
theorem d_Crc_ofFirst_15 : decode prog_3_method_2_code 15 = .ok (.ixor, 1) := by decide +kernel
theorem d_Crc_ofFirst_16 : decode prog_3_method_2_code 16 = .ok (.istore_n 2, 1) := by decide +kernel
theorem d_Crc_ofFirst_17 : decode prog_3_method_2_code 17 = .ok (.getstatic 13, 3) := by decide +kernel
theorem d_Crc_ofFirst_20 : decode prog_3_method_2_code 20 = .ok (.iload_n 2, 1) := by decide +kernel
theorem d_Crc_ofFirst_21 : decode prog_3_method_2_code 21 = .ok (.bipush 15, 2) := by decide +kernel
theorem d_Crc_ofFirst_23 : decode prog_3_method_2_code 23 = .ok (.iand, 1) := by decide +kernel
theorem d_Crc_ofFirst_24 : decode prog_3_method_2_code 24 = .ok (.iaload, 1) := by decide +kernel
theorem d_Crc_ofFirst_25 : decode prog_3_method_2_code 25 = .ok (.iload_n 2, 1) := by decide +kernel
theorem d_Crc_ofFirst_26 : decode prog_3_method_2_code 26 = .ok (.iconst 4, 1) := by decide +kernel
theorem d_Crc_ofFirst_27 : decode prog_3_method_2_code 27 = .ok (.iushr, 1) := by decide +kernel
theorem d_Crc_ofFirst_28 : decode prog_3_method_2_code 28 = .ok (.ixor, 1) := by decide +kernel
theorem d_Crc_ofFirst_29 : decode prog_3_method_2_code 29 = .ok (.istore_n 2, 1) := by decide +kernel
theorem d_Crc_ofFirst_30 : decode prog_3_method_2_code 30 = .ok (.getstatic 13, 3) := by decide +kernel
theorem d_Crc_ofFirst_33 : decode prog_3_method_2_code 33 = .ok (.iload_n 2, 1) := by decide +kernel
theorem d_Crc_ofFirst_34 : decode prog_3_method_2_code 34 = .ok (.bipush 15, 2) := by decide +kernel
theorem d_Crc_ofFirst_36 : decode prog_3_method_2_code 36 = .ok (.iand, 1) := by decide +kernel
theorem d_Crc_ofFirst_37 : decode prog_3_method_2_code 37 = .ok (.iaload, 1) := by decide +kernel
theorem d_Crc_ofFirst_38 : decode prog_3_method_2_code 38 = .ok (.iload_n 2, 1) := by decide +kernel
theorem d_Crc_ofFirst_39 : decode prog_3_method_2_code 39 = .ok (.iconst 4, 1) := by decide +kernel
theorem d_Crc_ofFirst_40 : decode prog_3_method_2_code 40 = .ok (.iushr, 1) := by decide +kernel
theorem d_Crc_ofFirst_41 : decode prog_3_method_2_code 41 = .ok (.ixor, 1) := by decide +kernel
theorem d_Crc_ofFirst_42 : decode prog_3_method_2_code 42 = .ok (.istore_n 2, 1) := by decide +kernel
theorem d_Crc_ofFirst_43 : decode prog_3_method_2_code 43 = .ok (.iinc 3 1, 3) := by decide +kernel
theorem d_Crc_ofFirst_46 : decode prog_3_method_2_code 46 = .ok (.goto (-42), 3) := by decide +kernel
theorem d_Crc_ofFirst_49 : decode prog_3_method_2_code 49 = .ok (.iload_n 2, 1) := by decide +kernel
theorem d_Crc_ofFirst_50 : decode prog_3_method_2_code 50 = .ok (.iconst (-1), 1) := by decide +kernel
theorem d_Crc_ofFirst_51 : decode prog_3_method_2_code 51 = .ok (.ixor, 1) := by decide +kernel
theorem d_Crc_ofFirst_52 : decode prog_3_method_2_code 52 = .ok (.ireturn, 1) := by decide +kernel
theorem d_Ints_init_0 : decode prog_4_method_1_code 0 = .ok (.aload_n 0, 1) := by decide +kernel
theorem d_Ints_init_1 : decode prog_4_method_1_code 1 = .ok (.invokespecial 3, 3) := by decide +kernel
theorem d_Ints_init_4 : decode prog_4_method_1_code 4 = .ok (.aload_n 0, 1) := by decide +kernel
theorem d_Ints_init_5 : decode prog_4_method_1_code 5 = .ok (.ldc 9, 2) := by decide +kernel
theorem d_Ints_init_7 : decode prog_4_method_1_code 7 = .ok (.newarray .int, 2) := by decide +kernel
theorem d_Ints_init_9 : decode prog_4_method_1_code 9 = .ok (.putfield 10, 3) := by decide +kernel
theorem d_Ints_init_12 : decode prog_4_method_1_code 12 = .ok (.aload_n 0, 1) := by decide +kernel
theorem d_Ints_init_13 : decode prog_4_method_1_code 13 = .ok (.iconst 0, 1) := by decide +kernel
theorem d_Ints_init_14 : decode prog_4_method_1_code 14 = .ok (.putfield 16, 3) := by decide +kernel
theorem d_Ints_init_17 : decode prog_4_method_1_code 17 = .ok (.return_, 1) := by decide +kernel
theorem d_Ints_add_0 : decode prog_4_method_2_code 0 = .ok (.aload_n 0, 1) := by decide +kernel
theorem d_Ints_add_1 : decode prog_4_method_2_code 1 = .ok (.getfield 10, 3) := by decide +kernel
theorem d_Ints_add_4 : decode prog_4_method_2_code 4 = .ok (.aload_n 0, 1) := by decide +kernel
theorem d_Ints_add_5 : decode prog_4_method_2_code 5 = .ok (.getfield 16, 3) := by decide +kernel
theorem d_Ints_add_8 : decode prog_4_method_2_code 8 = .ok (.iload_n 1, 1) := by decide +kernel
theorem d_Ints_add_9 : decode prog_4_method_2_code 9 = .ok (.iastore, 1) := by decide +kernel
theorem d_Ints_add_10 : decode prog_4_method_2_code 10 = .ok (.aload_n 0, 1) := by decide +kernel
theorem d_Ints_add_11 : decode prog_4_method_2_code 11 = .ok (.dup, 1) := by decide +kernel
theorem d_Ints_add_12 : decode prog_4_method_2_code 12 = .ok (.getfield 16, 3) := by decide +kernel
theorem d_Ints_add_15 : decode prog_4_method_2_code 15 = .ok (.iconst 1, 1) := by decide +kernel
theorem d_Ints_add_16 : decode prog_4_method_2_code 16 = .ok (.iadd, 1) := by decide +kernel
theorem d_Ints_add_17 : decode prog_4_method_2_code 17 = .ok (.putfield 16, 3) := by decide +kernel
theorem d_Ints_add_20 : decode prog_4_method_2_code 20 = .ok (.return_, 1) := by decide +kernel
theorem d_Packer_init_0 : decode prog_5_method_1_code 0 = .ok (.aload_n 0, 1) := by decide +kernel
theorem d_Packer_init_1 : decode prog_5_method_1_code 1 = .ok (.invokespecial 3, 3) := by decide +kernel
theorem d_Packer_init_4 : decode prog_5_method_1_code 4 = .ok (.aload_n 0, 1) := by decide +kernel
theorem d_Packer_init_5 : decode prog_5_method_1_code 5 = .ok (.sipush 4096, 3) := by decide +kernel
theorem d_Packer_init_8 : decode prog_5_method_1_code 8 = .ok (.newarray .int, 2) := by decide +kernel
theorem d_Packer_init_10 : decode prog_5_method_1_code 10 = .ok (.putfield 11, 3) := by decide +kernel
theorem d_Packer_init_13 : decode prog_5_method_1_code 13 = .ok (.aload_n 0, 1) := by decide +kernel
theorem d_Packer_init_14 : decode prog_5_method_1_code 14 = .ok (.sipush 4096, 3) := by decide +kernel
theorem d_Packer_init_17 : decode prog_5_method_1_code 17 = .ok (.newarray .int, 2) := by decide +kernel
theorem d_Packer_init_19 : decode prog_5_method_1_code 19 = .ok (.putfield 15, 3) := by decide +kernel
theorem d_Packer_init_22 : decode prog_5_method_1_code 22 = .ok (.aload_n 0, 1) := by decide +kernel
theorem d_Packer_init_23 : decode prog_5_method_1_code 23 = .ok (.iconst 0, 1) := by decide +kernel
theorem d_Packer_init_24 : decode prog_5_method_1_code 24 = .ok (.putfield 18, 3) := by decide +kernel
theorem d_Packer_init_27 : decode prog_5_method_1_code 27 = .ok (.aload_n 0, 1) := by decide +kernel
theorem d_Packer_init_28 : decode prog_5_method_1_code 28 = .ok (.iconst 0, 1) := by decide +kernel
theorem d_Packer_init_29 : decode prog_5_method_1_code 29 = .ok (.putfield 22, 3) := by decide +kernel
theorem d_Packer_init_32 : decode prog_5_method_1_code 32 = .ok (.return_, 1) := by decide +kernel
theorem d_Packer_write_0 : decode prog_5_method_2_code 0 = .ok (.aload_n 0, 1) := by decide +kernel
theorem d_Packer_write_1 : decode prog_5_method_2_code 1 = .ok (.getfield 11, 3) := by decide +kernel
theorem d_Packer_write_4 : decode prog_5_method_2_code 4 = .ok (.iconst (-1), 1) := by decide +kernel
theorem d_Packer_write_5 : decode prog_5_method_2_code 5 = .ok (.invokestatic 25, 3) := by decide +kernel
theorem d_Packer_write_8 : decode prog_5_method_2_code 8 = .ok (.aload_n 2, 1) := by decide +kernel
theorem d_Packer_write_9 : decode prog_5_method_2_code 9 = .ok (.iconst 0, 1) := by decide +kernel
theorem d_Packer_write_10 : decode prog_5_method_2_code 10 = .ok (.putfield 31, 3) := by decide +kernel
theorem d_Packer_write_13 : decode prog_5_method_2_code 13 = .ok (.aload_n 1, 1) := by decide +kernel
theorem d_Packer_write_14 : decode prog_5_method_2_code 14 = .ok (.getfield 31, 3) := by decide +kernel
theorem d_Packer_write_17 : decode prog_5_method_2_code 17 = .ok (.aload_n 2, 1) := by decide +kernel
theorem d_Packer_write_18 : decode prog_5_method_2_code 18 = .ok (.invokestatic 36, 3) := by decide +kernel
theorem d_Packer_write_21 : decode prog_5_method_2_code 21 = .ok (.iconst 0, 1) := by decide +kernel
theorem d_Packer_write_22 : decode prog_5_method_2_code 22 = .ok (.istore_n 3, 1) := by decide +kernel
theorem d_Packer_write_23 : decode prog_5_method_2_code 23 = .ok (.iconst 0, 1) := by decide +kernel
theorem d_Packer_write_24 : decode prog_5_method_2_code 24 = .ok (.istore 4, 2) := by decide +kernel
theorem d_Packer_write_26 : decode prog_5_method_2_code 26 = .ok (.iconst 0, 1) := by decide +kernel
theorem d_Packer_write_27 : decode prog_5_method_2_code 27 = .ok (.istore 5, 2) := by decide +kernel
theorem d_Packer_write_29 : decode prog_5_method_2_code 29 = .ok (.iload 5, 2) := by decide +kernel
theorem d_Packer_write_31 : decode prog_5_method_2_code 31 = .ok (.aload_n 1, 1) := by decide +kernel
theorem d_Packer_write_32 : decode prog_5_method_2_code 32 = .ok (.getfield 31, 3) := by decide +kernel
theorem d_Packer_write_35 : decode prog_5_method_2_code 35 = .ok (.if_icmp .ge 71, 3) := by decide +kernel
theorem d_Packer_write_38 : decode prog_5_method_2_code 38 = .ok (.iload 5, 2) := by decide +kernel
theorem d_Packer_write_40 : decode prog_5_method_2_code 40 = .ok (.iload 4, 2) := by decide +kernel
theorem d_Packer_write_42 : decode prog_5_method_2_code 42 = .ok (.if_icmp .lt 51, 3) := by decide +kernel
theorem d_Packer_write_45 : decode prog_5_method_2_code 45 = .ok (.aload_n 0, 1) := by decide +kernel
theorem d_Packer_write_46 : decode prog_5_method_2_code 46 = .ok (.aload_n 1, 1) := by decide +kernel
theorem d_Packer_write_47 : decode prog_5_method_2_code 47 = .ok (.iload 5, 2) := by decide +kernel
theorem d_Packer_write_49 : decode prog_5_method_2_code 49 = .ok (.invokevirtual 42, 3) := by decide +kernel
theorem d_Packer_write_52 : decode prog_5_method_2_code 52 = .ok (.aload_n 0, 1) := by decide +kernel
theorem d_Packer_write_53 : decode prog_5_method_2_code 53 = .ok (.getfield 18, 3) := by decide +kernel
theorem d_Packer_write_56 : decode prog_5_method_2_code 56 = .ok (.iconst 4, 1) := by decide +kernel
theorem d_Packer_write_57 : decode prog_5_method_2_code 57 = .ok (.if_icmp .lt 36, 3) := by decide +kernel
theorem d_Packer_write_60 : decode prog_5_method_2_code 60 = .ok (.aload_n 1, 1) := by decide +kernel
theorem d_Packer_write_61 : decode prog_5_method_2_code 61 = .ok (.iload_n 3, 1) := by decide +kernel
theorem d_Packer_write_62 : decode prog_5_method_2_code 62 = .ok (.iload 5, 2) := by decide +kernel
theorem d_Packer_write_64 : decode prog_5_method_2_code 64 = .ok (.aload_n 2, 1) := by decide +kernel
theorem d_Packer_write_65 : decode prog_5_method_2_code 65 = .ok (.invokestatic 46, 3) := by decide +kernel
theorem d_Packer_write_68 : decode prog_5_method_2_code 68 = .ok (.ifCond .eq 11, 3) := by decide +kernel
theorem d_Packer_write_71 : decode prog_5_method_2_code 71 = .ok (.aload_n 0, 1) := by decide +kernel
theorem d_Packer_write_72 : decode prog_5_method_2_code 72 = .ok (.aload_n 2, 1) := by decide +kernel
theorem d_Packer_write_73 : decode prog_5_method_2_code 73 = .ok (.invokevirtual 50, 3) := by decide +kernel
theorem d_Packer_write_76 : decode prog_5_method_2_code 76 = .ok (.ifCond .ne 5, 3) := by decide +kernel
theorem d_Packer_write_79 : decode prog_5_method_2_code 79 = .ok (.iconst 0, 1) := by decide +kernel
theorem d_Packer_write_80 : decode prog_5_method_2_code 80 = .ok (.ireturn, 1) := by decide +kernel
theorem d_Packer_write_81 : decode prog_5_method_2_code 81 = .ok (.iload 5, 2) := by decide +kernel
theorem d_Packer_write_83 : decode prog_5_method_2_code 83 = .ok (.aload_n 0, 1) := by decide +kernel
theorem d_Packer_write_84 : decode prog_5_method_2_code 84 = .ok (.getfield 18, 3) := by decide +kernel
theorem d_Packer_write_87 : decode prog_5_method_2_code 87 = .ok (.iadd, 1) := by decide +kernel
theorem d_Packer_write_88 : decode prog_5_method_2_code 88 = .ok (.istore 4, 2) := by decide +kernel
theorem d_Packer_write_90 : decode prog_5_method_2_code 90 = .ok (.iload 4, 2) := by decide +kernel
theorem d_Packer_write_92 : decode prog_5_method_2_code 92 = .ok (.istore_n 3, 1) := by decide +kernel
theorem d_Packer_write_93 : decode prog_5_method_2_code 93 = .ok (.aload_n 0, 1) := by decide +kernel
theorem d_Packer_write_94 : decode prog_5_method_2_code 94 = .ok (.aload_n 1, 1) := by decide +kernel
theorem d_Packer_write_95 : decode prog_5_method_2_code 95 = .ok (.iload 5, 2) := by decide +kernel
theorem d_Packer_write_97 : decode prog_5_method_2_code 97 = .ok (.invokevirtual 54, 3) := by decide +kernel
theorem d_Packer_write_100 : decode prog_5_method_2_code 100 = .ok (.iinc 5 1, 3) := by decide +kernel
theorem d_Packer_write_103 : decode prog_5_method_2_code 103 = .ok (.goto (-74), 3) := by decide +kernel
theorem d_Packer_write_106 : decode prog_5_method_2_code 106 = .ok (.aload_n 1, 1) := by decide +kernel
theorem d_Packer_write_107 : decode prog_5_method_2_code 107 = .ok (.iload_n 3, 1) := by decide +kernel
theorem d_Packer_write_108 : decode prog_5_method_2_code 108 = .ok (.aload_n 1, 1) := by decide +kernel
theorem d_Packer_write_109 : decode prog_5_method_2_code 109 = .ok (.getfield 31, 3) := by decide +kernel
theorem d_Packer_write_112 : decode prog_5_method_2_code 112 = .ok (.aload_n 2, 1) := by decide +kernel
theorem d_Packer_write_113 : decode prog_5_method_2_code 113 = .ok (.invokestatic 46, 3) := by decide +kernel
theorem d_Packer_write_116 : decode prog_5_method_2_code 116 = .ok (.ireturn, 1) := by decide +kernel
theorem d_Packer_search_0 : decode prog_5_method_3_code 0 = .ok (.aload_n 0, 1) := by decide +kernel
theorem d_Packer_search_1 : decode prog_5_method_3_code 1 = .ok (.iconst 0, 1) := by decide +kernel
theorem d_Packer_search_2 : decode prog_5_method_3_code 2 = .ok (.putfield 18, 3) := by decide +kernel
theorem d_Packer_search_5 : decode prog_5_method_3_code 5 = .ok (.aload_n 0, 1) := by decide +kernel
theorem d_Packer_search_6 : decode prog_5_method_3_code 6 = .ok (.iconst 0, 1) := by decide +kernel
theorem d_Packer_search_7 : decode prog_5_method_3_code 7 = .ok (.putfield 22, 3) := by decide +kernel
theorem d_Packer_search_10 : decode prog_5_method_3_code 10 = .ok (.bipush 64, 2) := by decide +kernel
theorem d_Packer_search_12 : decode prog_5_method_3_code 12 = .ok (.aload_n 1, 1) := by decide +kernel
theorem d_Packer_search_13 : decode prog_5_method_3_code 13 = .ok (.getfield 31, 3) := by decide +kernel
theorem d_Packer_search_16 : decode prog_5_method_3_code 16 = .ok (.iload_n 2, 1) := by decide +kernel
theorem d_Packer_search_17 : decode prog_5_method_3_code 17 = .ok (.isub, 1) := by decide +kernel
theorem d_Packer_search_18 : decode prog_5_method_3_code 18 = .ok (.invokestatic 57, 3) := by decide +kernel
theorem d_Packer_search_21 : decode prog_5_method_3_code 21 = .ok (.istore_n 3, 1) := by decide +kernel
theorem d_Packer_search_22 : decode prog_5_method_3_code 22 = .ok (.iload_n 3, 1) := by decide +kernel
theorem d_Packer_search_23 : decode prog_5_method_3_code 23 = .ok (.iconst 4, 1) := by decide +kernel
theorem d_Packer_search_24 : decode prog_5_method_3_code 24 = .ok (.if_icmp .ge 4, 3) := by decide +kernel
theorem d_Packer_search_27 : decode prog_5_method_3_code 27 = .ok (.return_, 1) := by decide +kernel
theorem d_Packer_search_28 : decode prog_5_method_3_code 28 = .ok (.iconst 0, 1) := by decide +kernel
theorem d_Packer_search_29 : decode prog_5_method_3_code 29 = .ok (.iload_n 2, 1) := by decide +kernel
theorem d_Packer_search_30 : decode prog_5_method_3_code 30 = .ok (.sipush 4095, 3) := by decide +kernel
theorem d_Packer_search_33 : decode prog_5_method_3_code 33 = .ok (.isub, 1) := by decide +kernel
theorem d_Packer_search_34 : decode prog_5_method_3_code 34 = .ok (.invokestatic 63, 3) := by decide +kernel
theorem d_Packer_search_37 : decode prog_5_method_3_code 37 = .ok (.istore 4, 2) := by decide +kernel
theorem d_Packer_search_39 : decode prog_5_method_3_code 39 = .ok (.aload_n 0, 1) := by decide +kernel
theorem d_Packer_search_40 : decode prog_5_method_3_code 40 = .ok (.getfield 11, 3) := by decide +kernel
theorem d_Packer_search_43 : decode prog_5_method_3_code 43 = .ok (.aload_n 1, 1) := by decide +kernel
theorem d_Packer_search_44 : decode prog_5_method_3_code 44 = .ok (.iload_n 2, 1) := by decide +kernel
theorem d_Packer_search_45 : decode prog_5_method_3_code 45 = .ok (.invokestatic 66, 3) := by decide +kernel
theorem d_Packer_search_48 : decode prog_5_method_3_code 48 = .ok (.iaload, 1) := by decide +kernel
theorem d_Packer_search_49 : decode prog_5_method_3_code 49 = .ok (.istore 5, 2) := by decide +kernel
theorem d_Packer_search_51 : decode prog_5_method_3_code 51 = .ok (.iconst 0, 1) := by decide +kernel
theorem d_Packer_search_52 : decode prog_5_method_3_code 52 = .ok (.istore 6, 2) := by decide +kernel
theorem d_Packer_search_54 : decode prog_5_method_3_code 54 = .ok (.iload 6, 2) := by decide +kernel
theorem d_Packer_search_56 : decode prog_5_method_3_code 56 = .ok (.sipush 4095, 3) := by decide +kernel
theorem d_Packer_search_59 : decode prog_5_method_3_code 59 = .ok (.if_icmp .ge 70, 3) := by decide +kernel
theorem d_Packer_search_62 : decode prog_5_method_3_code 62 = .ok (.iload 5, 2) := by decide +kernel
theorem d_Packer_search_64 : decode prog_5_method_3_code 64 = .ok (.iload 4, 2) := by decide +kernel
theorem d_Packer_search_66 : decode prog_5_method_3_code 66 = .ok (.if_icmp .lt 63, 3) := by decide +kernel
theorem d_Packer_search_69 : decode prog_5_method_3_code 69 = .ok (.aload_n 0, 1) := by decide +kernel
theorem d_Packer_search_70 : decode prog_5_method_3_code 70 = .ok (.getfield 18, 3) := by decide +kernel
theorem d_Packer_search_73 : decode prog_5_method_3_code 73 = .ok (.iload_n 3, 1) := by decide +kernel
theorem d_Packer_search_74 : decode prog_5_method_3_code 74 = .ok (.if_icmp .ge 55, 3) := by decide +kernel
theorem d_Packer_search_77 : decode prog_5_method_3_code 77 = .ok (.aload_n 1, 1) := by decide +kernel
theorem d_Packer_search_78 : decode prog_5_method_3_code 78 = .ok (.iload 5, 2) := by decide +kernel
theorem d_Packer_search_80 : decode prog_5_method_3_code 80 = .ok (.iload_n 2, 1) := by decide +kernel
theorem d_Packer_search_81 : decode prog_5_method_3_code 81 = .ok (.iload_n 3, 1) := by decide +kernel
theorem d_Packer_search_82 : decode prog_5_method_3_code 82 = .ok (.invokevirtual 70, 3) := by decide +kernel
theorem d_Packer_search_85 : decode prog_5_method_3_code 85 = .ok (.istore 7, 2) := by decide +kernel
theorem d_Packer_search_87 : decode prog_5_method_3_code 87 = .ok (.iload 7, 2) := by decide +kernel
theorem d_Packer_search_89 : decode prog_5_method_3_code 89 = .ok (.aload_n 0, 1) := by decide +kernel
theorem d_Packer_search_90 : decode prog_5_method_3_code 90 = .ok (.getfield 18, 3) := by decide +kernel
theorem d_Packer_search_93 : decode prog_5_method_3_code 93 = .ok (.if_icmp .le 17, 3) := by decide +kernel
theorem d_Packer_search_96 : decode prog_5_method_3_code 96 = .ok (.aload_n 0, 1) := by decide +kernel
theorem d_Packer_search_97 : decode prog_5_method_3_code 97 = .ok (.iload 7, 2) := by decide +kernel
theorem d_Packer_search_99 : decode prog_5_method_3_code 99 = .ok (.putfield 18, 3) := by decide +kernel
theorem d_Packer_search_102 : decode prog_5_method_3_code 102 = .ok (.aload_n 0, 1) := by decide +kernel
theorem d_Packer_search_103 : decode prog_5_method_3_code 103 = .ok (.iload_n 2, 1) := by decide +kernel
theorem d_Packer_search_104 : decode prog_5_method_3_code 104 = .ok (.iload 5, 2) := by decide +kernel
theorem d_Packer_search_106 : decode prog_5_method_3_code 106 = .ok (.isub, 1) := by decide +kernel
theorem d_Packer_search_107 : decode prog_5_method_3_code 107 = .ok (.putfield 22, 3) := by decide +kernel
theorem d_Packer_search_110 : decode prog_5_method_3_code 110 = .ok (.aload_n 0, 1) := by decide +kernel
theorem d_Packer_search_111 : decode prog_5_method_3_code 111 = .ok (.getfield 15, 3) := by decide +kernel
theorem d_Packer_search_114 : decode prog_5_method_3_code 114 = .ok (.iload 5, 2) := by decide +kernel
theorem d_Packer_search_116 : decode prog_5_method_3_code 116 = .ok (.sipush 4095, 3) := by decide +kernel
theorem d_Packer_search_119 : decode prog_5_method_3_code 119 = .ok (.iand, 1) := by decide +kernel
theorem d_Packer_search_120 : decode prog_5_method_3_code 120 = .ok (.iaload, 1) := by decide +kernel
theorem d_Packer_search_121 : decode prog_5_method_3_code 121 = .ok (.istore 5, 2) := by decide +kernel
theorem d_Packer_search_123 : decode prog_5_method_3_code 123 = .ok (.iinc 6 1, 3) := by decide +kernel
theorem d_Packer_search_126 : decode prog_5_method_3_code 126 = .ok (.goto (-72), 3) := by decide +kernel
theorem d_Packer_search_129 : decode prog_5_method_3_code 129 = .ok (.return_, 1) := by decide +kernel
theorem d_Packer_remember_0 : decode prog_5_method_4_code 0 = .ok (.aload_n 1, 1) := by decide +kernel
theorem d_Packer_remember_1 : decode prog_5_method_4_code 1 = .ok (.getfield 31, 3) := by decide +kernel
theorem d_Packer_remember_4 : decode prog_5_method_4_code 4 = .ok (.iload_n 2, 1) := by decide +kernel
theorem d_Packer_remember_5 : decode prog_5_method_4_code 5 = .ok (.isub, 1) := by decide +kernel
theorem d_Packer_remember_6 : decode prog_5_method_4_code 6 = .ok (.iconst 4, 1) := by decide +kernel
theorem d_Packer_remember_7 : decode prog_5_method_4_code 7 = .ok (.if_icmp .lt 32, 3) := by decide +kernel
theorem d_Packer_remember_10 : decode prog_5_method_4_code 10 = .ok (.aload_n 1, 1) := by decide +kernel
theorem d_Packer_remember_11 : decode prog_5_method_4_code 11 = .ok (.iload_n 2, 1) := by decide +kernel
theorem d_Packer_remember_12 : decode prog_5_method_4_code 12 = .ok (.invokestatic 66, 3) := by decide +kernel
theorem d_Packer_remember_15 : decode prog_5_method_4_code 15 = .ok (.istore_n 3, 1) := by decide +kernel
theorem d_Packer_remember_16 : decode prog_5_method_4_code 16 = .ok (.aload_n 0, 1) := by decide +kernel
theorem d_Packer_remember_17 : decode prog_5_method_4_code 17 = .ok (.getfield 15, 3) := by decide +kernel
theorem d_Packer_remember_20 : decode prog_5_method_4_code 20 = .ok (.iload_n 2, 1) := by decide +kernel
theorem d_Packer_remember_21 : decode prog_5_method_4_code 21 = .ok (.sipush 4095, 3) := by decide +kernel
theorem d_Packer_remember_24 : decode prog_5_method_4_code 24 = .ok (.iand, 1) := by decide +kernel
theorem d_Packer_remember_25 : decode prog_5_method_4_code 25 = .ok (.aload_n 0, 1) := by decide +kernel
theorem d_Packer_remember_26 : decode prog_5_method_4_code 26 = .ok (.getfield 11, 3) := by decide +kernel
theorem d_Packer_remember_29 : decode prog_5_method_4_code 29 = .ok (.iload_n 3, 1) := by decide +kernel
theorem d_Packer_remember_30 : decode prog_5_method_4_code 30 = .ok (.iaload, 1) := by decide +kernel
theorem d_Packer_remember_31 : decode prog_5_method_4_code 31 = .ok (.iastore, 1) := by decide +kernel
theorem d_Packer_remember_32 : decode prog_5_method_4_code 32 = .ok (.aload_n 0, 1) := by decide +kernel
theorem d_Packer_remember_33 : decode prog_5_method_4_code 33 = .ok (.getfield 11, 3) := by decide +kernel
theorem d_Packer_remember_36 : decode prog_5_method_4_code 36 = .ok (.iload_n 3, 1) := by decide +kernel
theorem d_Packer_remember_37 : decode prog_5_method_4_code 37 = .ok (.iload_n 2, 1) := by decide +kernel
theorem d_Packer_remember_38 : decode prog_5_method_4_code 38 = .ok (.iastore, 1) := by decide +kernel
theorem d_Packer_remember_39 : decode prog_5_method_4_code 39 = .ok (.return_, 1) := by decide +kernel
theorem d_Packer_bucket_0 : decode prog_5_method_5_code 0 = .ok (.aload_n 0, 1) := by decide +kernel
theorem d_Packer_bucket_1 : decode prog_5_method_5_code 1 = .ok (.iload_n 1, 1) := by decide +kernel
theorem d_Packer_bucket_2 : decode prog_5_method_5_code 2 = .ok (.invokevirtual 74, 3) := by decide +kernel
theorem d_Packer_bucket_5 : decode prog_5_method_5_code 5 = .ok (.bipush 24, 2) := by decide +kernel
theorem d_Packer_bucket_7 : decode prog_5_method_5_code 7 = .ok (.ishl, 1) := by decide +kernel
theorem d_Packer_bucket_8 : decode prog_5_method_5_code 8 = .ok (.aload_n 0, 1) := by decide +kernel
theorem d_Packer_bucket_9 : decode prog_5_method_5_code 9 = .ok (.iload_n 1, 1) := by decide +kernel
theorem d_Packer_bucket_10 : decode prog_5_method_5_code 10 = .ok (.iconst 1, 1) := by decide +kernel
theorem d_Packer_bucket_11 : decode prog_5_method_5_code 11 = .ok (.iadd, 1) := by decide +kernel
theorem d_Packer_bucket_12 : decode prog_5_method_5_code 12 = .ok (.invokevirtual 74, 3) := by decide +kernel
theorem d_Packer_bucket_15 : decode prog_5_method_5_code 15 = .ok (.bipush 16, 2) := by decide +kernel
theorem d_Packer_bucket_17 : decode prog_5_method_5_code 17 = .ok (.ishl, 1) := by decide +kernel
theorem d_Packer_bucket_18 : decode prog_5_method_5_code 18 = .ok (.ior, 1) := by decide +kernel
theorem d_Packer_bucket_19 : decode prog_5_method_5_code 19 = .ok (.aload_n 0, 1) := by decide +kernel
theorem d_Packer_bucket_20 : decode prog_5_method_5_code 20 = .ok (.iload_n 1, 1) := by decide +kernel
theorem d_Packer_bucket_21 : decode prog_5_method_5_code 21 = .ok (.iconst 2, 1) := by decide +kernel
theorem d_Packer_bucket_22 : decode prog_5_method_5_code 22 = .ok (.iadd, 1) := by decide +kernel
theorem d_Packer_bucket_23 : decode prog_5_method_5_code 23 = .ok (.invokevirtual 74, 3) := by decide +kernel
theorem d_Packer_bucket_26 : decode prog_5_method_5_code 26 = .ok (.bipush 8, 2) := by decide +kernel
theorem d_Packer_bucket_28 : decode prog_5_method_5_code 28 = .ok (.ishl, 1) := by decide +kernel
theorem d_Packer_bucket_29 : decode prog_5_method_5_code 29 = .ok (.ior, 1) := by decide +kernel
theorem d_Packer_bucket_30 : decode prog_5_method_5_code 30 = .ok (.aload_n 0, 1) := by decide +kernel
theorem d_Packer_bucket_31 : decode prog_5_method_5_code 31 = .ok (.iload_n 1, 1) := by decide +kernel
theorem d_Packer_bucket_32 : decode prog_5_method_5_code 32 = .ok (.iconst 3, 1) := by decide +kernel
theorem d_Packer_bucket_33 : decode prog_5_method_5_code 33 = .ok (.iadd, 1) := by decide +kernel
theorem d_Packer_bucket_34 : decode prog_5_method_5_code 34 = .ok (.invokevirtual 74, 3) := by decide +kernel
theorem d_Packer_bucket_37 : decode prog_5_method_5_code 37 = .ok (.ior, 1) := by decide +kernel
theorem d_Packer_bucket_38 : decode prog_5_method_5_code 38 = .ok (.istore_n 2, 1) := by decide +kernel
theorem d_Packer_bucket_39 : decode prog_5_method_5_code 39 = .ok (.iload_n 2, 1) := by decide +kernel
theorem d_Packer_bucket_40 : decode prog_5_method_5_code 40 = .ok (.ldc 78, 2) := by decide +kernel
theorem d_Packer_bucket_42 : decode prog_5_method_5_code 42 = .ok (.imul, 1) := by decide +kernel
theorem d_Packer_bucket_43 : decode prog_5_method_5_code 43 = .ok (.bipush 20, 2) := by decide +kernel
theorem d_Packer_bucket_45 : decode prog_5_method_5_code 45 = .ok (.iushr, 1) := by decide +kernel
theorem d_Packer_bucket_46 : decode prog_5_method_5_code 46 = .ok (.ireturn, 1) := by decide +kernel
theorem d_Packer_writePlain_0 : decode prog_5_method_6_code 0 = .ok (.iload_n 2, 1) := by decide +kernel
theorem d_Packer_writePlain_1 : decode prog_5_method_6_code 1 = .ok (.iload_n 1, 1) := by decide +kernel
theorem d_Packer_writePlain_2 : decode prog_5_method_6_code 2 = .ok (.isub, 1) := by decide +kernel
theorem d_Packer_writePlain_3 : decode prog_5_method_6_code 3 = .ok (.istore 4, 2) := by decide +kernel
theorem d_Packer_writePlain_5 : decode prog_5_method_6_code 5 = .ok (.iload 4, 2) := by decide +kernel
theorem d_Packer_writePlain_7 : decode prog_5_method_6_code 7 = .ok (.ifCond .gt 5, 3) := by decide +kernel
theorem d_Packer_writePlain_10 : decode prog_5_method_6_code 10 = .ok (.iconst 1, 1) := by decide +kernel
theorem d_Packer_writePlain_11 : decode prog_5_method_6_code 11 = .ok (.ireturn, 1) := by decide +kernel
theorem d_Packer_writePlain_12 : decode prog_5_method_6_code 12 = .ok (.aload_n 3, 1) := by decide +kernel
theorem d_Packer_writePlain_13 : decode prog_5_method_6_code 13 = .ok (.iconst 2, 1) := by decide +kernel
theorem d_Packer_writePlain_14 : decode prog_5_method_6_code 14 = .ok (.iload 4, 2) := by decide +kernel
theorem d_Packer_writePlain_16 : decode prog_5_method_6_code 16 = .ok (.imul, 1) := by decide +kernel
theorem d_Packer_writePlain_17 : decode prog_5_method_6_code 17 = .ok (.invokestatic 79, 3) := by decide +kernel
theorem d_Packer_writePlain_20 : decode prog_5_method_6_code 20 = .ok (.iload 4, 2) := by decide +kernel
theorem d_Packer_writePlain_22 : decode prog_5_method_6_code 22 = .ok (.iadd, 1) := by decide +kernel
theorem d_Packer_writePlain_23 : decode prog_5_method_6_code 23 = .ok (.invokevirtual 82, 3) := by decide +kernel
theorem d_Packer_writePlain_26 : decode prog_5_method_6_code 26 = .ok (.ifCond .ne 5, 3) := by decide +kernel
theorem d_Packer_writePlain_29 : decode prog_5_method_6_code 29 = .ok (.iconst 0, 1) := by decide +kernel
theorem d_Packer_writePlain_30 : decode prog_5_method_6_code 30 = .ok (.ireturn, 1) := by decide +kernel
theorem d_Packer_writePlain_31 : decode prog_5_method_6_code 31 = .ok (.iconst 2, 1) := by decide +kernel
theorem d_Packer_writePlain_32 : decode prog_5_method_6_code 32 = .ok (.iload 4, 2) := by decide +kernel
theorem d_Packer_writePlain_34 : decode prog_5_method_6_code 34 = .ok (.imul, 1) := by decide +kernel
theorem d_Packer_writePlain_35 : decode prog_5_method_6_code 35 = .ok (.aload_n 3, 1) := by decide +kernel
theorem d_Packer_writePlain_36 : decode prog_5_method_6_code 36 = .ok (.invokestatic 36, 3) := by decide +kernel
theorem d_Packer_writePlain_39 : decode prog_5_method_6_code 39 = .ok (.aload_n 3, 1) := by decide +kernel
theorem d_Packer_writePlain_40 : decode prog_5_method_6_code 40 = .ok (.aload_n 0, 1) := by decide +kernel
theorem d_Packer_writePlain_41 : decode prog_5_method_6_code 41 = .ok (.iload_n 1, 1) := by decide +kernel
theorem d_Packer_writePlain_42 : decode prog_5_method_6_code 42 = .ok (.iload 4, 2) := by decide +kernel
theorem d_Packer_writePlain_44 : decode prog_5_method_6_code 44 = .ok (.invokevirtual 86, 3) := by decide +kernel
theorem d_Packer_writePlain_47 : decode prog_5_method_6_code 47 = .ok (.iconst 1, 1) := by decide +kernel
theorem d_Packer_writePlain_48 : decode prog_5_method_6_code 48 = .ok (.ireturn, 1) := by decide +kernel
theorem d_Packer_writePointer_0 : decode prog_5_method_7_code 0 = .ok (.iconst 2, 1) := by decide +kernel
theorem d_Packer_writePointer_1 : decode prog_5_method_7_code 1 = .ok (.aload_n 0, 1) := by decide +kernel
theorem d_Packer_writePointer_2 : decode prog_5_method_7_code 2 = .ok (.getfield 18, 3) := by decide +kernel
theorem d_Packer_writePointer_5 : decode prog_5_method_7_code 5 = .ok (.imul, 1) := by decide +kernel
theorem d_Packer_writePointer_6 : decode prog_5_method_7_code 6 = .ok (.iconst 1, 1) := by decide +kernel
theorem d_Packer_writePointer_7 : decode prog_5_method_7_code 7 = .ok (.iadd, 1) := by decide +kernel
theorem d_Packer_writePointer_8 : decode prog_5_method_7_code 8 = .ok (.istore_n 2, 1) := by decide +kernel
theorem d_Packer_writePointer_9 : decode prog_5_method_7_code 9 = .ok (.aload_n 1, 1) := by decide +kernel
theorem d_Packer_writePointer_10 : decode prog_5_method_7_code 10 = .ok (.iload_n 2, 1) := by decide +kernel
theorem d_Packer_writePointer_11 : decode prog_5_method_7_code 11 = .ok (.invokestatic 79, 3) := by decide +kernel
theorem d_Packer_writePointer_14 : decode prog_5_method_7_code 14 = .ok (.aload_n 0, 1) := by decide +kernel
theorem d_Packer_writePointer_15 : decode prog_5_method_7_code 15 = .ok (.getfield 22, 3) := by decide +kernel
theorem d_Packer_writePointer_18 : decode prog_5_method_7_code 18 = .ok (.invokestatic 79, 3) := by decide +kernel
theorem d_Packer_writePointer_21 : decode prog_5_method_7_code 21 = .ok (.iadd, 1) := by decide +kernel
theorem d_Packer_writePointer_22 : decode prog_5_method_7_code 22 = .ok (.invokevirtual 82, 3) := by decide +kernel
theorem d_Packer_writePointer_25 : decode prog_5_method_7_code 25 = .ok (.ifCond .ne 5, 3) := by decide +kernel
theorem d_Packer_writePointer_28 : decode prog_5_method_7_code 28 = .ok (.iconst 0, 1) := by decide +kernel
theorem d_Packer_writePointer_29 : decode prog_5_method_7_code 29 = .ok (.ireturn, 1) := by decide +kernel
theorem d_Packer_writePointer_30 : decode prog_5_method_7_code 30 = .ok (.iload_n 2, 1) := by decide +kernel
theorem d_Packer_writePointer_31 : decode prog_5_method_7_code 31 = .ok (.aload_n 1, 1) := by decide +kernel
theorem d_Packer_writePointer_32 : decode prog_5_method_7_code 32 = .ok (.invokestatic 36, 3) := by decide +kernel
theorem d_Packer_writePointer_35 : decode prog_5_method_7_code 35 = .ok (.aload_n 0, 1) := by decide +kernel
theorem d_Packer_writePointer_36 : decode prog_5_method_7_code 36 = .ok (.getfield 22, 3) := by decide +kernel
theorem d_Packer_writePointer_39 : decode prog_5_method_7_code 39 = .ok (.aload_n 1, 1) := by decide +kernel
theorem d_Packer_writePointer_40 : decode prog_5_method_7_code 40 = .ok (.invokestatic 36, 3) := by decide +kernel
theorem d_Packer_writePointer_43 : decode prog_5_method_7_code 43 = .ok (.iconst 1, 1) := by decide +kernel
theorem d_Packer_writePointer_44 : decode prog_5_method_7_code 44 = .ok (.ireturn, 1) := by decide +kernel
theorem d_Reader_init_0 : decode prog_6_method_1_code 0 = .ok (.aload_n 0, 1) := by decide +kernel
theorem d_Reader_init_1 : decode prog_6_method_1_code 1 = .ok (.invokespecial 3, 3) := by decide +kernel
theorem d_Reader_init_4 : decode prog_6_method_1_code 4 = .ok (.aload_n 0, 1) := by decide +kernel
theorem d_Reader_init_5 : decode prog_6_method_1_code 5 = .ok (.iconst 0, 1) := by decide +kernel
theorem d_Reader_init_6 : decode prog_6_method_1_code 6 = .ok (.putfield 9, 3) := by decide +kernel
theorem d_Reader_init_9 : decode prog_6_method_1_code 9 = .ok (.aload_n 0, 1) := by decide +kernel
theorem d_Reader_init_10 : decode prog_6_method_1_code 10 = .ok (.aload_n 1, 1) := by decide +kernel
theorem d_Reader_init_11 : decode prog_6_method_1_code 11 = .ok (.putfield 15, 3) := by decide +kernel
theorem d_Reader_init_14 : decode prog_6_method_1_code 14 = .ok (.return_, 1) := by decide +kernel
theorem d_Reader_left_0 : decode prog_6_method_2_code 0 = .ok (.aload_n 0, 1) := by decide +kernel
theorem d_Reader_left_1 : decode prog_6_method_2_code 1 = .ok (.getfield 15, 3) := by decide +kernel
theorem d_Reader_left_4 : decode prog_6_method_2_code 4 = .ok (.getfield 19, 3) := by decide +kernel
theorem d_Reader_left_7 : decode prog_6_method_2_code 7 = .ok (.aload_n 0, 1) := by decide +kernel
theorem d_Reader_left_8 : decode prog_6_method_2_code 8 = .ok (.getfield 9, 3) := by decide +kernel
theorem d_Reader_left_11 : decode prog_6_method_2_code 11 = .ok (.isub, 1) := by decide +kernel
theorem d_Reader_left_12 : decode prog_6_method_2_code 12 = .ok (.ireturn, 1) := by decide +kernel
