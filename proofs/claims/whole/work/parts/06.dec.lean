theorem d_Pk_init_0 : decode prog_1_method_1_code 0 = .ok (.aload_n 0, 1) := by decide +kernel
theorem d_Pk_init_1 : decode prog_1_method_1_code 1 = .ok (.invokespecial 1, 3) := by decide +kernel
theorem d_Pk_init_4 : decode prog_1_method_1_code 4 = .ok (.aload_n 0, 1) := by decide +kernel
theorem d_Pk_init_5 : decode prog_1_method_1_code 5 = .ok (.new 7, 3) := by decide +kernel
theorem d_Pk_init_8 : decode prog_1_method_1_code 8 = .ok (.dup, 1) := by decide +kernel
theorem d_Pk_init_9 : decode prog_1_method_1_code 9 = .ok (.invokespecial 9, 3) := by decide +kernel
theorem d_Pk_init_12 : decode prog_1_method_1_code 12 = .ok (.putfield 10, 3) := by decide +kernel
theorem d_Pk_init_15 : decode prog_1_method_1_code 15 = .ok (.aload_n 0, 1) := by decide +kernel
theorem d_Pk_init_16 : decode prog_1_method_1_code 16 = .ok (.new 16, 3) := by decide +kernel
theorem d_Pk_init_19 : decode prog_1_method_1_code 19 = .ok (.dup, 1) := by decide +kernel
theorem d_Pk_init_20 : decode prog_1_method_1_code 20 = .ok (.invokespecial 18, 3) := by decide +kernel
theorem d_Pk_init_23 : decode prog_1_method_1_code 23 = .ok (.putfield 19, 3) := by decide +kernel
theorem d_Pk_init_26 : decode prog_1_method_1_code 26 = .ok (.aload_n 0, 1) := by decide +kernel
theorem d_Pk_init_27 : decode prog_1_method_1_code 27 = .ok (.new 7, 3) := by decide +kernel
theorem d_Pk_init_30 : decode prog_1_method_1_code 30 = .ok (.dup, 1) := by decide +kernel
theorem d_Pk_init_31 : decode prog_1_method_1_code 31 = .ok (.invokespecial 9, 3) := by decide +kernel
theorem d_Pk_init_34 : decode prog_1_method_1_code 34 = .ok (.putfield 23, 3) := by decide +kernel
theorem d_Pk_init_37 : decode prog_1_method_1_code 37 = .ok (.aload_n 0, 1) := by decide +kernel
theorem d_Pk_init_38 : decode prog_1_method_1_code 38 = .ok (.new 7, 3) := by decide +kernel
theorem d_Pk_init_41 : decode prog_1_method_1_code 41 = .ok (.dup, 1) := by decide +kernel
theorem d_Pk_init_42 : decode prog_1_method_1_code 42 = .ok (.invokespecial 9, 3) := by decide +kernel
theorem d_Pk_init_45 : decode prog_1_method_1_code 45 = .ok (.putfield 26, 3) := by decide +kernel
theorem d_Pk_init_48 : decode prog_1_method_1_code 48 = .ok (.aload_n 0, 1) := by decide +kernel
theorem d_Pk_init_49 : decode prog_1_method_1_code 49 = .ok (.new 29, 3) := by decide +kernel
theorem d_Pk_init_52 : decode prog_1_method_1_code 52 = .ok (.dup, 1) := by decide +kernel
theorem d_Pk_init_53 : decode prog_1_method_1_code 53 = .ok (.invokespecial 31, 3) := by decide +kernel
theorem d_Pk_init_56 : decode prog_1_method_1_code 56 = .ok (.putfield 32, 3) := by decide +kernel
theorem d_Pk_init_59 : decode prog_1_method_1_code 59 = .ok (.aload_n 0, 1) := by decide +kernel
theorem d_Pk_init_60 : decode prog_1_method_1_code 60 = .ok (.new 29, 3) := by decide +kernel
theorem d_Pk_init_63 : decode prog_1_method_1_code 63 = .ok (.dup, 1) := by decide +kernel
theorem d_Pk_init_64 : decode prog_1_method_1_code 64 = .ok (.invokespecial 31, 3) := by decide +kernel
theorem d_Pk_init_67 : decode prog_1_method_1_code 67 = .ok (.putfield 36, 3) := by decide +kernel
theorem d_Pk_init_70 : decode prog_1_method_1_code 70 = .ok (.aload_n 0, 1) := by decide +kernel
theorem d_Pk_init_71 : decode prog_1_method_1_code 71 = .ok (.new 29, 3) := by decide +kernel
theorem d_Pk_init_74 : decode prog_1_method_1_code 74 = .ok (.dup, 1) := by decide +kernel
theorem d_Pk_init_75 : decode prog_1_method_1_code 75 = .ok (.invokespecial 31, 3) := by decide +kernel
theorem d_Pk_init_78 : decode prog_1_method_1_code 78 = .ok (.putfield 39, 3) := by decide +kernel
theorem d_Pk_init_81 : decode prog_1_method_1_code 81 = .ok (.return_, 1) := by decide +kernel
theorem d_Pk_feed_0 : decode prog_1_method_2_code 0 = .ok (.aload_n 0, 1) := by decide +kernel
theorem d_Pk_feed_1 : decode prog_1_method_2_code 1 = .ok (.getfield 10, 3) := by decide +kernel
theorem d_Pk_feed_4 : decode prog_1_method_2_code 4 = .ok (.bipush 20, 2) := by decide +kernel
theorem d_Pk_feed_6 : decode prog_1_method_2_code 6 = .ok (.invokevirtual 42, 3) := by decide +kernel
theorem d_Pk_feed_9 : decode prog_1_method_2_code 9 = .ok (.ifCond .ne 11, 3) := by decide +kernel
theorem d_Pk_feed_12 : decode prog_1_method_2_code 12 = .ok (.new 46, 3) := by decide +kernel
theorem d_Pk_feed_15 : decode prog_1_method_2_code 15 = .ok (.dup, 1) := by decide +kernel
theorem d_Pk_feed_16 : decode prog_1_method_2_code 16 = .ok (.invokespecial 48, 3) := by decide +kernel
theorem d_Pk_feed_19 : decode prog_1_method_2_code 19 = .ok (.athrow, 1) := by decide +kernel
theorem d_Pk_feed_20 : decode prog_1_method_2_code 20 = .ok (.aload_n 0, 1) := by decide +kernel
theorem d_Pk_feed_21 : decode prog_1_method_2_code 21 = .ok (.getfield 10, 3) := by decide +kernel
theorem d_Pk_feed_24 : decode prog_1_method_2_code 24 = .ok (.iload_n 1, 1) := by decide +kernel
theorem d_Pk_feed_25 : decode prog_1_method_2_code 25 = .ok (.invokevirtual 49, 3) := by decide +kernel
theorem d_Pk_feed_28 : decode prog_1_method_2_code 28 = .ok (.aload_n 0, 1) := by decide +kernel
theorem d_Pk_feed_29 : decode prog_1_method_2_code 29 = .ok (.getfield 10, 3) := by decide +kernel
theorem d_Pk_feed_32 : decode prog_1_method_2_code 32 = .ok (.iload_n 2, 1) := by decide +kernel
theorem d_Pk_feed_33 : decode prog_1_method_2_code 33 = .ok (.invokevirtual 49, 3) := by decide +kernel
theorem d_Pk_feed_36 : decode prog_1_method_2_code 36 = .ok (.aload_n 0, 1) := by decide +kernel
theorem d_Pk_feed_37 : decode prog_1_method_2_code 37 = .ok (.getfield 10, 3) := by decide +kernel
theorem d_Pk_feed_40 : decode prog_1_method_2_code 40 = .ok (.iload_n 3, 1) := by decide +kernel
theorem d_Pk_feed_41 : decode prog_1_method_2_code 41 = .ok (.invokevirtual 49, 3) := by decide +kernel
theorem d_Pk_feed_44 : decode prog_1_method_2_code 44 = .ok (.aload_n 0, 1) := by decide +kernel
theorem d_Pk_feed_45 : decode prog_1_method_2_code 45 = .ok (.getfield 10, 3) := by decide +kernel
theorem d_Pk_feed_48 : decode prog_1_method_2_code 48 = .ok (.iload 4, 2) := by decide +kernel
theorem d_Pk_feed_50 : decode prog_1_method_2_code 50 = .ok (.invokevirtual 49, 3) := by decide +kernel
theorem d_Pk_feed_53 : decode prog_1_method_2_code 53 = .ok (.aload_n 0, 1) := by decide +kernel
theorem d_Pk_feed_54 : decode prog_1_method_2_code 54 = .ok (.getfield 10, 3) := by decide +kernel
theorem d_Pk_feed_57 : decode prog_1_method_2_code 57 = .ok (.iload 5, 2) := by decide +kernel
theorem d_Pk_feed_59 : decode prog_1_method_2_code 59 = .ok (.invokevirtual 49, 3) := by decide +kernel
theorem d_Pk_feed_62 : decode prog_1_method_2_code 62 = .ok (.return_, 1) := by decide +kernel
theorem d_Pk_end_0 : decode prog_1_method_3_code 0 = .ok (.iload_n 1, 1) := by decide +kernel
theorem d_Pk_end_1 : decode prog_1_method_3_code 1 = .ok (.ifCond .lt 14, 3) := by decide +kernel
theorem d_Pk_end_4 : decode prog_1_method_3_code 4 = .ok (.iload_n 1, 1) := by decide +kernel
theorem d_Pk_end_5 : decode prog_1_method_3_code 5 = .ok (.aload_n 0, 1) := by decide +kernel
theorem d_Pk_end_6 : decode prog_1_method_3_code 6 = .ok (.getfield 10, 3) := by decide +kernel
theorem d_Pk_end_9 : decode prog_1_method_3_code 9 = .ok (.getfield 53, 3) := by decide +kernel
theorem d_Pk_end_12 : decode prog_1_method_3_code 12 = .ok (.if_icmp .le 11, 3) := by decide +kernel
theorem d_Pk_end_15 : decode prog_1_method_3_code 15 = .ok (.new 57, 3) := by decide +kernel
theorem d_Pk_end_18 : decode prog_1_method_3_code 18 = .ok (.dup, 1) := by decide +kernel
theorem d_Pk_end_19 : decode prog_1_method_3_code 19 = .ok (.invokespecial 59, 3) := by decide +kernel
theorem d_Pk_end_22 : decode prog_1_method_3_code 22 = .ok (.athrow, 1) := by decide +kernel
theorem d_Pk_end_23 : decode prog_1_method_3_code 23 = .ok (.aload_n 0, 1) := by decide +kernel
theorem d_Pk_end_24 : decode prog_1_method_3_code 24 = .ok (.getfield 10, 3) := by decide +kernel
theorem d_Pk_end_27 : decode prog_1_method_3_code 27 = .ok (.getfield 53, 3) := by decide +kernel
theorem d_Pk_end_30 : decode prog_1_method_3_code 30 = .ok (.iload_n 1, 1) := by decide +kernel
theorem d_Pk_end_31 : decode prog_1_method_3_code 31 = .ok (.isub, 1) := by decide +kernel
theorem d_Pk_end_32 : decode prog_1_method_3_code 32 = .ok (.istore_n 2, 1) := by decide +kernel
theorem d_Pk_end_33 : decode prog_1_method_3_code 33 = .ok (.aload_n 0, 1) := by decide +kernel
theorem d_Pk_end_34 : decode prog_1_method_3_code 34 = .ok (.getfield 10, 3) := by decide +kernel
theorem d_Pk_end_37 : decode prog_1_method_3_code 37 = .ok (.iload_n 1, 1) := by decide +kernel
theorem d_Pk_end_38 : decode prog_1_method_3_code 38 = .ok (.putfield 53, 3) := by decide +kernel
theorem d_Pk_end_41 : decode prog_1_method_3_code 41 = .ok (.iload_n 2, 1) := by decide +kernel
theorem d_Pk_end_42 : decode prog_1_method_3_code 42 = .ok (.ireturn, 1) := by decide +kernel
theorem d_Pk_pack_0 : decode prog_1_method_4_code 0 = .ok (.aload_n 0, 1) := by decide +kernel
theorem d_Pk_pack_1 : decode prog_1_method_4_code 1 = .ok (.getfield 19, 3) := by decide +kernel
theorem d_Pk_pack_4 : decode prog_1_method_4_code 4 = .ok (.aload_n 0, 1) := by decide +kernel
theorem d_Pk_pack_5 : decode prog_1_method_4_code 5 = .ok (.getfield 10, 3) := by decide +kernel
theorem d_Pk_pack_8 : decode prog_1_method_4_code 8 = .ok (.aload_n 0, 1) := by decide +kernel
theorem d_Pk_pack_9 : decode prog_1_method_4_code 9 = .ok (.getfield 26, 3) := by decide +kernel
theorem d_Pk_pack_12 : decode prog_1_method_4_code 12 = .ok (.invokevirtual 60, 3) := by decide +kernel
theorem d_Pk_pack_15 : decode prog_1_method_4_code 15 = .ok (.ifCond .ne 11, 3) := by decide +kernel
theorem d_Pk_pack_18 : decode prog_1_method_4_code 18 = .ok (.new 46, 3) := by decide +kernel
theorem d_Pk_pack_21 : decode prog_1_method_4_code 21 = .ok (.dup, 1) := by decide +kernel
theorem d_Pk_pack_22 : decode prog_1_method_4_code 22 = .ok (.invokespecial 48, 3) := by decide +kernel
theorem d_Pk_pack_25 : decode prog_1_method_4_code 25 = .ok (.athrow, 1) := by decide +kernel
theorem d_Pk_pack_26 : decode prog_1_method_4_code 26 = .ok (.aload_n 0, 1) := by decide +kernel
theorem d_Pk_pack_27 : decode prog_1_method_4_code 27 = .ok (.getfield 10, 3) := by decide +kernel
theorem d_Pk_pack_30 : decode prog_1_method_4_code 30 = .ok (.iconst 0, 1) := by decide +kernel
theorem d_Pk_pack_31 : decode prog_1_method_4_code 31 = .ok (.putfield 53, 3) := by decide +kernel
theorem d_Pk_pack_34 : decode prog_1_method_4_code 34 = .ok (.aload_n 0, 1) := by decide +kernel
theorem d_Pk_pack_35 : decode prog_1_method_4_code 35 = .ok (.invokevirtual 64, 3) := by decide +kernel
theorem d_Pk_pack_38 : decode prog_1_method_4_code 38 = .ok (.ireturn, 1) := by decide +kernel
theorem d_Pk_unpack_0 : decode prog_1_method_5_code 0 = .ok (.new 68, 3) := by decide +kernel
theorem d_Pk_unpack_3 : decode prog_1_method_5_code 3 = .ok (.dup, 1) := by decide +kernel
theorem d_Pk_unpack_4 : decode prog_1_method_5_code 4 = .ok (.aload_n 0, 1) := by decide +kernel
theorem d_Pk_unpack_5 : decode prog_1_method_5_code 5 = .ok (.getfield 10, 3) := by decide +kernel
theorem d_Pk_unpack_8 : decode prog_1_method_5_code 8 = .ok (.invokespecial 70, 3) := by decide +kernel
theorem d_Pk_unpack_11 : decode prog_1_method_5_code 11 = .ok (.aload_n 0, 1) := by decide +kernel
theorem d_Pk_unpack_12 : decode prog_1_method_5_code 12 = .ok (.getfield 26, 3) := by decide +kernel
theorem d_Pk_unpack_15 : decode prog_1_method_5_code 15 = .ok (.invokestatic 73, 3) := by decide +kernel
theorem d_Pk_unpack_18 : decode prog_1_method_5_code 18 = .ok (.istore_n 1, 1) := by decide +kernel
theorem d_Pk_unpack_19 : decode prog_1_method_5_code 19 = .ok (.aload_n 0, 1) := by decide +kernel
theorem d_Pk_unpack_20 : decode prog_1_method_5_code 20 = .ok (.getfield 10, 3) := by decide +kernel
theorem d_Pk_unpack_23 : decode prog_1_method_5_code 23 = .ok (.iconst 0, 1) := by decide +kernel
theorem d_Pk_unpack_24 : decode prog_1_method_5_code 24 = .ok (.putfield 53, 3) := by decide +kernel
theorem d_Pk_unpack_27 : decode prog_1_method_5_code 27 = .ok (.iload_n 1, 1) := by decide +kernel
theorem d_Pk_unpack_28 : decode prog_1_method_5_code 28 = .ok (.ifCond .ne 11, 3) := by decide +kernel
theorem d_Pk_unpack_31 : decode prog_1_method_5_code 31 = .ok (.new 57, 3) := by decide +kernel
theorem d_Pk_unpack_34 : decode prog_1_method_5_code 34 = .ok (.dup, 1) := by decide +kernel
theorem d_Pk_unpack_35 : decode prog_1_method_5_code 35 = .ok (.invokespecial 59, 3) := by decide +kernel
theorem d_Pk_unpack_38 : decode prog_1_method_5_code 38 = .ok (.athrow, 1) := by decide +kernel
theorem d_Pk_unpack_39 : decode prog_1_method_5_code 39 = .ok (.aload_n 0, 1) := by decide +kernel
theorem d_Pk_unpack_40 : decode prog_1_method_5_code 40 = .ok (.invokevirtual 64, 3) := by decide +kernel
theorem d_Pk_unpack_43 : decode prog_1_method_5_code 43 = .ok (.ireturn, 1) := by decide +kernel
theorem d_Pk_text_0 : decode prog_1_method_6_code 0 = .ok (.new 68, 3) := by decide +kernel
theorem d_Pk_text_3 : decode prog_1_method_6_code 3 = .ok (.dup, 1) := by decide +kernel
theorem d_Pk_text_4 : decode prog_1_method_6_code 4 = .ok (.aload_n 0, 1) := by decide +kernel
theorem d_Pk_text_5 : decode prog_1_method_6_code 5 = .ok (.getfield 10, 3) := by decide +kernel
theorem d_Pk_text_8 : decode prog_1_method_6_code 8 = .ok (.invokespecial 70, 3) := by decide +kernel
theorem d_Pk_text_11 : decode prog_1_method_6_code 11 = .ok (.aload_n 0, 1) := by decide +kernel
theorem d_Pk_text_12 : decode prog_1_method_6_code 12 = .ok (.getfield 39, 3) := by decide +kernel
theorem d_Pk_text_15 : decode prog_1_method_6_code 15 = .ok (.invokevirtual 78, 3) := by decide +kernel
theorem d_Pk_text_18 : decode prog_1_method_6_code 18 = .ok (.istore_n 1, 1) := by decide +kernel
theorem d_Pk_text_19 : decode prog_1_method_6_code 19 = .ok (.aload_n 0, 1) := by decide +kernel
theorem d_Pk_text_20 : decode prog_1_method_6_code 20 = .ok (.getfield 10, 3) := by decide +kernel
theorem d_Pk_text_23 : decode prog_1_method_6_code 23 = .ok (.iconst 0, 1) := by decide +kernel
theorem d_Pk_text_24 : decode prog_1_method_6_code 24 = .ok (.putfield 53, 3) := by decide +kernel
theorem d_Pk_text_27 : decode prog_1_method_6_code 27 = .ok (.iload_n 1, 1) := by decide +kernel
theorem d_Pk_text_28 : decode prog_1_method_6_code 28 = .ok (.ifCond .ne 11, 3) := by decide +kernel
theorem d_Pk_text_31 : decode prog_1_method_6_code 31 = .ok (.new 57, 3) := by decide +kernel
theorem d_Pk_text_34 : decode prog_1_method_6_code 34 = .ok (.dup, 1) := by decide +kernel
theorem d_Pk_text_35 : decode prog_1_method_6_code 35 = .ok (.invokespecial 59, 3) := by decide +kernel
theorem d_Pk_text_38 : decode prog_1_method_6_code 38 = .ok (.athrow, 1) := by decide +kernel
theorem d_Pk_text_39 : decode prog_1_method_6_code 39 = .ok (.aload_n 0, 1) := by decide +kernel
theorem d_Pk_text_40 : decode prog_1_method_6_code 40 = .ok (.getfield 32, 3) := by decide +kernel
theorem d_Pk_text_43 : decode prog_1_method_6_code 43 = .ok (.astore_n 2, 1) := by decide +kernel
theorem d_Pk_text_44 : decode prog_1_method_6_code 44 = .ok (.aload_n 0, 1) := by decide +kernel
theorem d_Pk_text_45 : decode prog_1_method_6_code 45 = .ok (.aload_n 0, 1) := by decide +kernel
theorem d_Pk_text_46 : decode prog_1_method_6_code 46 = .ok (.getfield 39, 3) := by decide +kernel
theorem d_Pk_text_49 : decode prog_1_method_6_code 49 = .ok (.putfield 32, 3) := by decide +kernel
theorem d_Pk_text_52 : decode prog_1_method_6_code 52 = .ok (.aload_n 0, 1) := by decide +kernel
theorem d_Pk_text_53 : decode prog_1_method_6_code 53 = .ok (.aload_n 2, 1) := by decide +kernel
theorem d_Pk_text_54 : decode prog_1_method_6_code 54 = .ok (.putfield 39, 3) := by decide +kernel
theorem d_Pk_text_57 : decode prog_1_method_6_code 57 = .ok (.aload_n 0, 1) := by decide +kernel
theorem d_Pk_text_58 : decode prog_1_method_6_code 58 = .ok (.getfield 32, 3) := by decide +kernel
theorem d_Pk_text_61 : decode prog_1_method_6_code 61 = .ok (.getfield 82, 3) := by decide +kernel
theorem d_Pk_text_64 : decode prog_1_method_6_code 64 = .ok (.ireturn, 1) := by decide +kernel
theorem d_Pk_code_0 : decode prog_1_method_7_code 0 = .ok (.iload_n 1, 1) := by decide +kernel
theorem d_Pk_code_1 : decode prog_1_method_7_code 1 = .ok (.ifCond .lt 14, 3) := by decide +kernel
theorem d_Pk_code_4 : decode prog_1_method_7_code 4 = .ok (.iload_n 1, 1) := by decide +kernel
theorem d_Pk_code_5 : decode prog_1_method_7_code 5 = .ok (.aload_n 0, 1) := by decide +kernel
theorem d_Pk_code_6 : decode prog_1_method_7_code 6 = .ok (.getfield 32, 3) := by decide +kernel
theorem d_Pk_code_9 : decode prog_1_method_7_code 9 = .ok (.getfield 82, 3) := by decide +kernel
theorem d_Pk_code_12 : decode prog_1_method_7_code 12 = .ok (.if_icmp .lt 11, 3) := by decide +kernel
theorem d_Pk_code_15 : decode prog_1_method_7_code 15 = .ok (.new 83, 3) := by decide +kernel
theorem d_Pk_code_18 : decode prog_1_method_7_code 18 = .ok (.dup, 1) := by decide +kernel
theorem d_Pk_code_19 : decode prog_1_method_7_code 19 = .ok (.invokespecial 85, 3) := by decide +kernel
theorem d_Pk_code_22 : decode prog_1_method_7_code 22 = .ok (.athrow, 1) := by decide +kernel
theorem d_Pk_code_23 : decode prog_1_method_7_code 23 = .ok (.aload_n 0, 1) := by decide +kernel
theorem d_Pk_code_24 : decode prog_1_method_7_code 24 = .ok (.getfield 32, 3) := by decide +kernel
theorem d_Pk_code_27 : decode prog_1_method_7_code 27 = .ok (.getfield 86, 3) := by decide +kernel
theorem d_Pk_code_30 : decode prog_1_method_7_code 30 = .ok (.iload_n 1, 1) := by decide +kernel
theorem d_Pk_code_31 : decode prog_1_method_7_code 31 = .ok (.iaload, 1) := by decide +kernel
theorem d_Pk_code_32 : decode prog_1_method_7_code 32 = .ok (.ireturn, 1) := by decide +kernel
theorem d_Pk_letter_0 : decode prog_1_method_8_code 0 = .ok (.iload_n 1, 1) := by decide +kernel
theorem d_Pk_letter_1 : decode prog_1_method_8_code 1 = .ok (.invokestatic 90, 3) := by decide +kernel
theorem d_Pk_letter_4 : decode prog_1_method_8_code 4 = .ok (.ifCond .ne 11, 3) := by decide +kernel
theorem d_Pk_letter_7 : decode prog_1_method_8_code 7 = .ok (.new 57, 3) := by decide +kernel
theorem d_Pk_letter_10 : decode prog_1_method_8_code 10 = .ok (.dup, 1) := by decide +kernel
theorem d_Pk_letter_11 : decode prog_1_method_8_code 11 = .ok (.invokespecial 59, 3) := by decide +kernel
theorem d_Pk_letter_14 : decode prog_1_method_8_code 14 = .ok (.athrow, 1) := by decide +kernel
theorem d_Pk_letter_15 : decode prog_1_method_8_code 15 = .ok (.iload_n 1, 1) := by decide +kernel
theorem d_Pk_letter_16 : decode prog_1_method_8_code 16 = .ok (.invokestatic 95, 3) := by decide +kernel
theorem d_Pk_letter_19 : decode prog_1_method_8_code 19 = .ok (.istore_n 2, 1) := by decide +kernel
theorem d_Pk_letter_20 : decode prog_1_method_8_code 20 = .ok (.aload_n 0, 1) := by decide +kernel
theorem d_Pk_letter_21 : decode prog_1_method_8_code 21 = .ok (.getfield 23, 3) := by decide +kernel
theorem d_Pk_letter_24 : decode prog_1_method_8_code 24 = .ok (.iload_n 2, 1) := by decide +kernel
theorem d_Pk_letter_25 : decode prog_1_method_8_code 25 = .ok (.invokevirtual 42, 3) := by decide +kernel
theorem d_Pk_letter_28 : decode prog_1_method_8_code 28 = .ok (.ifCond .ne 11, 3) := by decide +kernel
theorem d_Pk_letter_31 : decode prog_1_method_8_code 31 = .ok (.new 46, 3) := by decide +kernel
theorem d_Pk_letter_34 : decode prog_1_method_8_code 34 = .ok (.dup, 1) := by decide +kernel
theorem d_Pk_letter_35 : decode prog_1_method_8_code 35 = .ok (.invokespecial 48, 3) := by decide +kernel
theorem d_Pk_letter_38 : decode prog_1_method_8_code 38 = .ok (.athrow, 1) := by decide +kernel
theorem d_Pk_letter_39 : decode prog_1_method_8_code 39 = .ok (.iload_n 1, 1) := by decide +kernel
theorem d_Pk_letter_40 : decode prog_1_method_8_code 40 = .ok (.aload_n 0, 1) := by decide +kernel
theorem d_Pk_letter_41 : decode prog_1_method_8_code 41 = .ok (.getfield 23, 3) := by decide +kernel
theorem d_Pk_letter_44 : decode prog_1_method_8_code 44 = .ok (.invokestatic 99, 3) := by decide +kernel
theorem d_Pk_letter_47 : decode prog_1_method_8_code 47 = .ok (.iload_n 2, 1) := by decide +kernel
theorem d_Pk_letter_48 : decode prog_1_method_8_code 48 = .ok (.ireturn, 1) := by decide +kernel
theorem d_Pk_varint_0 : decode prog_1_method_9_code 0 = .ok (.iload_n 1, 1) := by decide +kernel
theorem d_Pk_varint_1 : decode prog_1_method_9_code 1 = .ok (.ifCond .ge 11, 3) := by decide +kernel
theorem d_Pk_varint_4 : decode prog_1_method_9_code 4 = .ok (.new 57, 3) := by decide +kernel
theorem d_Pk_varint_7 : decode prog_1_method_9_code 7 = .ok (.dup, 1) := by decide +kernel
theorem d_Pk_varint_8 : decode prog_1_method_9_code 8 = .ok (.invokespecial 59, 3) := by decide +kernel
theorem d_Pk_varint_11 : decode prog_1_method_9_code 11 = .ok (.athrow, 1) := by decide +kernel
theorem d_Pk_varint_12 : decode prog_1_method_9_code 12 = .ok (.iload_n 1, 1) := by decide +kernel
theorem d_Pk_varint_13 : decode prog_1_method_9_code 13 = .ok (.invokestatic 102, 3) := by decide +kernel
theorem d_Pk_varint_16 : decode prog_1_method_9_code 16 = .ok (.istore_n 2, 1) := by decide +kernel
theorem d_Pk_varint_17 : decode prog_1_method_9_code 17 = .ok (.aload_n 0, 1) := by decide +kernel
theorem d_Pk_varint_18 : decode prog_1_method_9_code 18 = .ok (.getfield 23, 3) := by decide +kernel
theorem d_Pk_varint_21 : decode prog_1_method_9_code 21 = .ok (.iload_n 2, 1) := by decide +kernel
theorem d_Pk_varint_22 : decode prog_1_method_9_code 22 = .ok (.invokevirtual 42, 3) := by decide +kernel
theorem d_Pk_varint_25 : decode prog_1_method_9_code 25 = .ok (.ifCond .ne 11, 3) := by decide +kernel
theorem d_Pk_varint_28 : decode prog_1_method_9_code 28 = .ok (.new 46, 3) := by decide +kernel
theorem d_Pk_varint_31 : decode prog_1_method_9_code 31 = .ok (.dup, 1) := by decide +kernel
theorem d_Pk_varint_32 : decode prog_1_method_9_code 32 = .ok (.invokespecial 48, 3) := by decide +kernel
theorem d_Pk_varint_35 : decode prog_1_method_9_code 35 = .ok (.athrow, 1) := by decide +kernel
theorem d_Pk_varint_36 : decode prog_1_method_9_code 36 = .ok (.iload_n 1, 1) := by decide +kernel
theorem d_Pk_varint_37 : decode prog_1_method_9_code 37 = .ok (.aload_n 0, 1) := by decide +kernel
theorem d_Pk_varint_38 : decode prog_1_method_9_code 38 = .ok (.getfield 23, 3) := by decide +kernel
theorem d_Pk_varint_41 : decode prog_1_method_9_code 41 = .ok (.invokestatic 105, 3) := by decide +kernel
theorem d_Pk_varint_44 : decode prog_1_method_9_code 44 = .ok (.iload_n 2, 1) := by decide +kernel
theorem d_Pk_varint_45 : decode prog_1_method_9_code 45 = .ok (.ireturn, 1) := by decide +kernel
theorem d_Pk_zigzag_0 : decode prog_1_method_10_code 0 = .ok (.iload_n 1, 1) := by decide +kernel
theorem d_Pk_zigzag_1 : decode prog_1_method_10_code 1 = .ok (.ldc 106, 2) := by decide +kernel
theorem d_Pk_zigzag_3 : decode prog_1_method_10_code 3 = .ok (.if_icmp .lt 9, 3) := by decide +kernel
theorem d_Pk_zigzag_6 : decode prog_1_method_10_code 6 = .ok (.iload_n 1, 1) := by decide +kernel
theorem d_Pk_zigzag_7 : decode prog_1_method_10_code 7 = .ok (.ldc 107, 2) := by decide +kernel
theorem d_Pk_zigzag_9 : decode prog_1_method_10_code 9 = .ok (.if_icmp .le 11, 3) := by decide +kernel
theorem d_Pk_zigzag_12 : decode prog_1_method_10_code 12 = .ok (.new 57, 3) := by decide +kernel
theorem d_Pk_zigzag_15 : decode prog_1_method_10_code 15 = .ok (.dup, 1) := by decide +kernel
theorem d_Pk_zigzag_16 : decode prog_1_method_10_code 16 = .ok (.invokespecial 59, 3) := by decide +kernel
theorem d_Pk_zigzag_19 : decode prog_1_method_10_code 19 = .ok (.athrow, 1) := by decide +kernel
theorem d_Pk_zigzag_20 : decode prog_1_method_10_code 20 = .ok (.iload_n 1, 1) := by decide +kernel
theorem d_Pk_zigzag_21 : decode prog_1_method_10_code 21 = .ok (.ifCond .lt 9, 3) := by decide +kernel
theorem d_Pk_zigzag_24 : decode prog_1_method_10_code 24 = .ok (.iconst 2, 1) := by decide +kernel
theorem d_Pk_zigzag_25 : decode prog_1_method_10_code 25 = .ok (.iload_n 1, 1) := by decide +kernel
theorem d_Pk_zigzag_26 : decode prog_1_method_10_code 26 = .ok (.imul, 1) := by decide +kernel
theorem d_Pk_zigzag_27 : decode prog_1_method_10_code 27 = .ok (.goto 9, 3) := by decide +kernel
theorem d_Pk_zigzag_30 : decode prog_1_method_10_code 30 = .ok (.bipush (-2), 2) := by decide +kernel
theorem d_Pk_zigzag_32 : decode prog_1_method_10_code 32 = .ok (.iload_n 1, 1) := by decide +kernel
theorem d_Pk_zigzag_33 : decode prog_1_method_10_code 33 = .ok (.imul, 1) := by decide +kernel
theorem d_Pk_zigzag_34 : decode prog_1_method_10_code 34 = .ok (.iconst 1, 1) := by decide +kernel
theorem d_Pk_zigzag_35 : decode prog_1_method_10_code 35 = .ok (.isub, 1) := by decide +kernel
theorem d_Pk_zigzag_36 : decode prog_1_method_10_code 36 = .ok (.ireturn, 1) := by decide +kernel
theorem d_Pk_unzigzag_0 : decode prog_1_method_11_code 0 = .ok (.iload_n 1, 1) := by decide +kernel
theorem d_Pk_unzigzag_1 : decode prog_1_method_11_code 1 = .ok (.ifCond .ge 11, 3) := by decide +kernel
theorem d_Pk_unzigzag_4 : decode prog_1_method_11_code 4 = .ok (.new 57, 3) := by decide +kernel
theorem d_Pk_unzigzag_7 : decode prog_1_method_11_code 7 = .ok (.dup, 1) := by decide +kernel
theorem d_Pk_unzigzag_8 : decode prog_1_method_11_code 8 = .ok (.invokespecial 59, 3) := by decide +kernel
theorem d_Pk_unzigzag_11 : decode prog_1_method_11_code 11 = .ok (.athrow, 1) := by decide +kernel
theorem d_Pk_unzigzag_12 : decode prog_1_method_11_code 12 = .ok (.iload_n 1, 1) := by decide +kernel
theorem d_Pk_unzigzag_13 : decode prog_1_method_11_code 13 = .ok (.iconst 2, 1) := by decide +kernel
theorem d_Pk_unzigzag_14 : decode prog_1_method_11_code 14 = .ok (.irem, 1) := by decide +kernel
theorem d_Pk_unzigzag_15 : decode prog_1_method_11_code 15 = .ok (.ifCond .ne 9, 3) := by decide +kernel
theorem d_Pk_unzigzag_18 : decode prog_1_method_11_code 18 = .ok (.iload_n 1, 1) := by decide +kernel
theorem d_Pk_unzigzag_19 : decode prog_1_method_11_code 19 = .ok (.iconst 2, 1) := by decide +kernel
theorem d_Pk_unzigzag_20 : decode prog_1_method_11_code 20 = .ok (.idiv, 1) := by decide +kernel
theorem d_Pk_unzigzag_21 : decode prog_1_method_11_code 21 = .ok (.goto 9, 3) := by decide +kernel
theorem d_Pk_unzigzag_24 : decode prog_1_method_11_code 24 = .ok (.iload_n 1, 1) := by decide +kernel
theorem d_Pk_unzigzag_25 : decode prog_1_method_11_code 25 = .ok (.iconst 2, 1) := by decide +kernel
theorem d_Pk_unzigzag_26 : decode prog_1_method_11_code 26 = .ok (.idiv, 1) := by decide +kernel
theorem d_Pk_unzigzag_27 : decode prog_1_method_11_code 27 = .ok (.ineg, 1) := by decide +kernel
theorem d_Pk_unzigzag_28 : decode prog_1_method_11_code 28 = .ok (.iconst 1, 1) := by decide +kernel
theorem d_Pk_unzigzag_29 : decode prog_1_method_11_code 29 = .ok (.isub, 1) := by decide +kernel
theorem d_Pk_unzigzag_30 : decode prog_1_method_11_code 30 = .ok (.ireturn, 1) := by decide +kernel
theorem d_Pk_numbers_0 : decode prog_1_method_12_code 0 = .ok (.new 68, 3) := by decide +kernel
theorem d_Pk_numbers_3 : decode prog_1_method_12_code 3 = .ok (.dup, 1) := by decide +kernel
theorem d_Pk_numbers_4 : decode prog_1_method_12_code 4 = .ok (.aload_n 0, 1) := by decide +kernel
theorem d_Pk_numbers_5 : decode prog_1_method_12_code 5 = .ok (.getfield 10, 3) := by decide +kernel
theorem d_Pk_numbers_8 : decode prog_1_method_12_code 8 = .ok (.invokespecial 70, 3) := by decide +kernel
theorem d_Pk_numbers_11 : decode prog_1_method_12_code 11 = .ok (.aload_n 0, 1) := by decide +kernel
theorem d_Pk_numbers_12 : decode prog_1_method_12_code 12 = .ok (.getfield 39, 3) := by decide +kernel
theorem d_Pk_numbers_15 : decode prog_1_method_12_code 15 = .ok (.invokevirtual 108, 3) := by decide +kernel
theorem d_Pk_numbers_18 : decode prog_1_method_12_code 18 = .ok (.istore_n 1, 1) := by decide +kernel
theorem d_Pk_numbers_19 : decode prog_1_method_12_code 19 = .ok (.aload_n 0, 1) := by decide +kernel
theorem d_Pk_numbers_20 : decode prog_1_method_12_code 20 = .ok (.getfield 10, 3) := by decide +kernel
theorem d_Pk_numbers_23 : decode prog_1_method_12_code 23 = .ok (.iconst 0, 1) := by decide +kernel
theorem d_Pk_numbers_24 : decode prog_1_method_12_code 24 = .ok (.putfield 53, 3) := by decide +kernel
theorem d_Pk_numbers_27 : decode prog_1_method_12_code 27 = .ok (.iload_n 1, 1) := by decide +kernel
theorem d_Pk_numbers_28 : decode prog_1_method_12_code 28 = .ok (.ifCond .ne 11, 3) := by decide +kernel
theorem d_Pk_numbers_31 : decode prog_1_method_12_code 31 = .ok (.new 57, 3) := by decide +kernel
theorem d_Pk_numbers_34 : decode prog_1_method_12_code 34 = .ok (.dup, 1) := by decide +kernel
theorem d_Pk_numbers_35 : decode prog_1_method_12_code 35 = .ok (.invokespecial 59, 3) := by decide +kernel
theorem d_Pk_numbers_38 : decode prog_1_method_12_code 38 = .ok (.athrow, 1) := by decide +kernel
theorem d_Pk_numbers_39 : decode prog_1_method_12_code 39 = .ok (.aload_n 0, 1) := by decide +kernel
theorem d_Pk_numbers_40 : decode prog_1_method_12_code 40 = .ok (.getfield 36, 3) := by decide +kernel
theorem d_Pk_numbers_43 : decode prog_1_method_12_code 43 = .ok (.astore_n 2, 1) := by decide +kernel
theorem d_Pk_numbers_44 : decode prog_1_method_12_code 44 = .ok (.aload_n 0, 1) := by decide +kernel
theorem d_Pk_numbers_45 : decode prog_1_method_12_code 45 = .ok (.aload_n 0, 1) := by decide +kernel
theorem d_Pk_numbers_46 : decode prog_1_method_12_code 46 = .ok (.getfield 39, 3) := by decide +kernel
theorem d_Pk_numbers_49 : decode prog_1_method_12_code 49 = .ok (.putfield 36, 3) := by decide +kernel
theorem d_Pk_numbers_52 : decode prog_1_method_12_code 52 = .ok (.aload_n 0, 1) := by decide +kernel
theorem d_Pk_numbers_53 : decode prog_1_method_12_code 53 = .ok (.aload_n 2, 1) := by decide +kernel
theorem d_Pk_numbers_54 : decode prog_1_method_12_code 54 = .ok (.putfield 39, 3) := by decide +kernel
theorem d_Pk_numbers_57 : decode prog_1_method_12_code 57 = .ok (.aload_n 0, 1) := by decide +kernel
theorem d_Pk_numbers_58 : decode prog_1_method_12_code 58 = .ok (.getfield 36, 3) := by decide +kernel
theorem d_Pk_numbers_61 : decode prog_1_method_12_code 61 = .ok (.getfield 82, 3) := by decide +kernel
theorem d_Pk_numbers_64 : decode prog_1_method_12_code 64 = .ok (.ireturn, 1) := by decide +kernel
theorem d_Pk_number_0 : decode prog_1_method_13_code 0 = .ok (.iload_n 1, 1) := by decide +kernel
theorem d_Pk_number_1 : decode prog_1_method_13_code 1 = .ok (.ifCond .lt 14, 3) := by decide +kernel
theorem d_Pk_number_4 : decode prog_1_method_13_code 4 = .ok (.iload_n 1, 1) := by decide +kernel
theorem d_Pk_number_5 : decode prog_1_method_13_code 5 = .ok (.aload_n 0, 1) := by decide +kernel
theorem d_Pk_number_6 : decode prog_1_method_13_code 6 = .ok (.getfield 36, 3) := by decide +kernel
theorem d_Pk_number_9 : decode prog_1_method_13_code 9 = .ok (.getfield 82, 3) := by decide +kernel
theorem d_Pk_number_12 : decode prog_1_method_13_code 12 = .ok (.if_icmp .lt 11, 3) := by decide +kernel
theorem d_Pk_number_15 : decode prog_1_method_13_code 15 = .ok (.new 83, 3) := by decide +kernel
theorem d_Pk_number_18 : decode prog_1_method_13_code 18 = .ok (.dup, 1) := by decide +kernel
theorem d_Pk_number_19 : decode prog_1_method_13_code 19 = .ok (.invokespecial 85, 3) := by decide +kernel
theorem d_Pk_number_22 : decode prog_1_method_13_code 22 = .ok (.athrow, 1) := by decide +kernel
theorem d_Pk_number_23 : decode prog_1_method_13_code 23 = .ok (.aload_n 0, 1) := by decide +kernel
theorem d_Pk_number_24 : decode prog_1_method_13_code 24 = .ok (.getfield 36, 3) := by decide +kernel
theorem d_Pk_number_27 : decode prog_1_method_13_code 27 = .ok (.getfield 86, 3) := by decide +kernel
theorem d_Pk_number_30 : decode prog_1_method_13_code 30 = .ok (.iload_n 1, 1) := by decide +kernel
theorem d_Pk_number_31 : decode prog_1_method_13_code 31 = .ok (.iaload, 1) := by decide +kernel
theorem d_Pk_number_32 : decode prog_1_method_13_code 32 = .ok (.ireturn, 1) := by decide +kernel
theorem d_Pk_checksum_0 : decode prog_1_method_14_code 0 = .ok (.iload_n 1, 1) := by decide +kernel
theorem d_Pk_checksum_1 : decode prog_1_method_14_code 1 = .ok (.ifCond .lt 14, 3) := by decide +kernel
theorem d_Pk_checksum_4 : decode prog_1_method_14_code 4 = .ok (.iload_n 1, 1) := by decide +kernel
theorem d_Pk_checksum_5 : decode prog_1_method_14_code 5 = .ok (.aload_n 0, 1) := by decide +kernel
theorem d_Pk_checksum_6 : decode prog_1_method_14_code 6 = .ok (.getfield 23, 3) := by decide +kernel
theorem d_Pk_checksum_9 : decode prog_1_method_14_code 9 = .ok (.getfield 53, 3) := by decide +kernel
theorem d_Pk_checksum_12 : decode prog_1_method_14_code 12 = .ok (.if_icmp .le 11, 3) := by decide +kernel
theorem d_Pk_checksum_15 : decode prog_1_method_14_code 15 = .ok (.new 57, 3) := by decide +kernel
theorem d_Pk_checksum_18 : decode prog_1_method_14_code 18 = .ok (.dup, 1) := by decide +kernel
theorem d_Pk_checksum_19 : decode prog_1_method_14_code 19 = .ok (.invokespecial 59, 3) := by decide +kernel
theorem d_Pk_checksum_22 : decode prog_1_method_14_code 22 = .ok (.athrow, 1) := by decide +kernel
theorem d_Pk_checksum_23 : decode prog_1_method_14_code 23 = .ok (.iload_n 1, 1) := by decide +kernel
theorem d_Pk_checksum_24 : decode prog_1_method_14_code 24 = .ok (.aload_n 0, 1) := by decide +kernel
theorem d_Pk_checksum_25 : decode prog_1_method_14_code 25 = .ok (.getfield 23, 3) := by decide +kernel
theorem d_Pk_checksum_28 : decode prog_1_method_14_code 28 = .ok (.invokestatic 111, 3) := by decide +kernel
theorem d_Pk_checksum_31 : decode prog_1_method_14_code 31 = .ok (.ireturn, 1) := by decide +kernel
theorem d_Pk_octet_0 : decode prog_1_method_15_code 0 = .ok (.iload_n 1, 1) := by decide +kernel
theorem d_Pk_octet_1 : decode prog_1_method_15_code 1 = .ok (.iconst (-1), 1) := by decide +kernel
theorem d_Pk_octet_2 : decode prog_1_method_15_code 2 = .ok (.if_icmp .lt 14, 3) := by decide +kernel
theorem d_Pk_octet_5 : decode prog_1_method_15_code 5 = .ok (.iload_n 1, 1) := by decide +kernel
theorem d_Pk_octet_6 : decode prog_1_method_15_code 6 = .ok (.aload_n 0, 1) := by decide +kernel
theorem d_Pk_octet_7 : decode prog_1_method_15_code 7 = .ok (.getfield 23, 3) := by decide +kernel
theorem d_Pk_octet_10 : decode prog_1_method_15_code 10 = .ok (.getfield 53, 3) := by decide +kernel
theorem d_Pk_octet_13 : decode prog_1_method_15_code 13 = .ok (.if_icmp .lt 11, 3) := by decide +kernel
theorem d_Pk_octet_16 : decode prog_1_method_15_code 16 = .ok (.new 83, 3) := by decide +kernel
theorem d_Pk_octet_19 : decode prog_1_method_15_code 19 = .ok (.dup, 1) := by decide +kernel
theorem d_Pk_octet_20 : decode prog_1_method_15_code 20 = .ok (.invokespecial 85, 3) := by decide +kernel
theorem d_Pk_octet_23 : decode prog_1_method_15_code 23 = .ok (.athrow, 1) := by decide +kernel
theorem d_Pk_octet_24 : decode prog_1_method_15_code 24 = .ok (.iload_n 1, 1) := by decide +kernel
theorem d_Pk_octet_25 : decode prog_1_method_15_code 25 = .ok (.iconst (-1), 1) := by decide +kernel
theorem d_Pk_octet_26 : decode prog_1_method_15_code 26 = .ok (.if_icmp .ne 13, 3) := by decide +kernel
theorem d_Pk_octet_29 : decode prog_1_method_15_code 29 = .ok (.aload_n 0, 1) := by decide +kernel
theorem d_Pk_octet_30 : decode prog_1_method_15_code 30 = .ok (.getfield 23, 3) := by decide +kernel
theorem d_Pk_octet_33 : decode prog_1_method_15_code 33 = .ok (.getfield 53, 3) := by decide +kernel
theorem d_Pk_octet_36 : decode prog_1_method_15_code 36 = .ok (.goto 11, 3) := by decide +kernel
theorem d_Pk_octet_39 : decode prog_1_method_15_code 39 = .ok (.aload_n 0, 1) := by decide +kernel
theorem d_Pk_octet_40 : decode prog_1_method_15_code 40 = .ok (.getfield 23, 3) := by decide +kernel
theorem d_Pk_octet_43 : decode prog_1_method_15_code 43 = .ok (.iload_n 1, 1) := by decide +kernel
theorem d_Pk_octet_44 : decode prog_1_method_15_code 44 = .ok (.invokevirtual 117, 3) := by decide +kernel
theorem d_Pk_octet_47 : decode prog_1_method_15_code 47 = .ok (.ireturn, 1) := by decide +kernel
theorem d_Pk_back_0 : decode prog_1_method_16_code 0 = .ok (.aload_n 0, 1) := by decide +kernel
theorem d_Pk_back_1 : decode prog_1_method_16_code 1 = .ok (.getfield 10, 3) := by decide +kernel
theorem d_Pk_back_4 : decode prog_1_method_16_code 4 = .ok (.aload_n 0, 1) := by decide +kernel
theorem d_Pk_back_5 : decode prog_1_method_16_code 5 = .ok (.getfield 23, 3) := by decide +kernel
theorem d_Pk_back_8 : decode prog_1_method_16_code 8 = .ok (.getfield 53, 3) := by decide +kernel
theorem d_Pk_back_11 : decode prog_1_method_16_code 11 = .ok (.invokevirtual 42, 3) := by decide +kernel
theorem d_Pk_back_14 : decode prog_1_method_16_code 14 = .ok (.ifCond .ne 11, 3) := by decide +kernel
theorem d_Pk_back_17 : decode prog_1_method_16_code 17 = .ok (.new 46, 3) := by decide +kernel
theorem d_Pk_back_20 : decode prog_1_method_16_code 20 = .ok (.dup, 1) := by decide +kernel
theorem d_Pk_back_21 : decode prog_1_method_16_code 21 = .ok (.invokespecial 48, 3) := by decide +kernel
theorem d_Pk_back_24 : decode prog_1_method_16_code 24 = .ok (.athrow, 1) := by decide +kernel
theorem d_Pk_back_25 : decode prog_1_method_16_code 25 = .ok (.aload_n 0, 1) := by decide +kernel
theorem d_Pk_back_26 : decode prog_1_method_16_code 26 = .ok (.getfield 10, 3) := by decide +kernel
theorem d_Pk_back_29 : decode prog_1_method_16_code 29 = .ok (.aload_n 0, 1) := by decide +kernel
theorem d_Pk_back_30 : decode prog_1_method_16_code 30 = .ok (.getfield 23, 3) := by decide +kernel
theorem d_Pk_back_33 : decode prog_1_method_16_code 33 = .ok (.iconst 0, 1) := by decide +kernel
theorem d_Pk_back_34 : decode prog_1_method_16_code 34 = .ok (.aload_n 0, 1) := by decide +kernel
theorem d_Pk_back_35 : decode prog_1_method_16_code 35 = .ok (.getfield 23, 3) := by decide +kernel
theorem d_Pk_back_38 : decode prog_1_method_16_code 38 = .ok (.getfield 53, 3) := by decide +kernel
theorem d_Pk_back_41 : decode prog_1_method_16_code 41 = .ok (.invokevirtual 120, 3) := by decide +kernel
theorem d_Pk_back_44 : decode prog_1_method_16_code 44 = .ok (.aload_n 0, 1) := by decide +kernel
theorem d_Pk_back_45 : decode prog_1_method_16_code 45 = .ok (.getfield 23, 3) := by decide +kernel
theorem d_Pk_back_48 : decode prog_1_method_16_code 48 = .ok (.iconst 0, 1) := by decide +kernel
theorem d_Pk_back_49 : decode prog_1_method_16_code 49 = .ok (.putfield 53, 3) := by decide +kernel
theorem d_Pk_back_52 : decode prog_1_method_16_code 52 = .ok (.aload_n 0, 1) := by decide +kernel
theorem d_Pk_back_53 : decode prog_1_method_16_code 53 = .ok (.getfield 10, 3) := by decide +kernel
theorem d_Pk_back_56 : decode prog_1_method_16_code 56 = .ok (.getfield 53, 3) := by decide +kernel
theorem d_Pk_back_59 : decode prog_1_method_16_code 59 = .ok (.ireturn, 1) := by decide +kernel
theorem d_Pk_takeSpareAsOut_0 : decode prog_1_method_17_code 0 = .ok (.aload_n 0, 1) := by decide +kernel
theorem d_Pk_takeSpareAsOut_1 : decode prog_1_method_17_code 1 = .ok (.getfield 23, 3) := by decide +kernel
theorem d_Pk_takeSpareAsOut_4 : decode prog_1_method_17_code 4 = .ok (.astore_n 1, 1) := by decide +kernel
theorem d_Pk_takeSpareAsOut_5 : decode prog_1_method_17_code 5 = .ok (.aload_n 0, 1) := by decide +kernel
theorem d_Pk_takeSpareAsOut_6 : decode prog_1_method_17_code 6 = .ok (.aload_n 0, 1) := by decide +kernel
theorem d_Pk_takeSpareAsOut_7 : decode prog_1_method_17_code 7 = .ok (.getfield 26, 3) := by decide +kernel
theorem d_Pk_takeSpareAsOut_10 : decode prog_1_method_17_code 10 = .ok (.putfield 23, 3) := by decide +kernel
theorem d_Pk_takeSpareAsOut_13 : decode prog_1_method_17_code 13 = .ok (.aload_n 0, 1) := by decide +kernel
theorem d_Pk_takeSpareAsOut_14 : decode prog_1_method_17_code 14 = .ok (.aload_n 1, 1) := by decide +kernel
theorem d_Pk_takeSpareAsOut_15 : decode prog_1_method_17_code 15 = .ok (.putfield 26, 3) := by decide +kernel
theorem d_Pk_takeSpareAsOut_18 : decode prog_1_method_17_code 18 = .ok (.aload_n 0, 1) := by decide +kernel
theorem d_Pk_takeSpareAsOut_19 : decode prog_1_method_17_code 19 = .ok (.getfield 23, 3) := by decide +kernel
theorem d_Pk_takeSpareAsOut_22 : decode prog_1_method_17_code 22 = .ok (.getfield 53, 3) := by decide +kernel
theorem d_Pk_takeSpareAsOut_25 : decode prog_1_method_17_code 25 = .ok (.ireturn, 1) := by decide +kernel
