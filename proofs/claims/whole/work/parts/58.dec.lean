theorem d_Law_feed_0 : decode method_3_code 0 = .ok (.aload_n 0, 1) := by decide +kernel
theorem d_Law_feed_1 : decode method_3_code 1 = .ok (.iload_n 1, 1) := by decide +kernel
theorem d_Law_feed_2 : decode method_3_code 2 = .ok (.iload_n 2, 1) := by decide +kernel
theorem d_Law_feed_3 : decode method_3_code 3 = .ok (.iload_n 3, 1) := by decide +kernel
theorem d_Law_feed_4 : decode method_3_code 4 = .ok (.iload 4, 2) := by decide +kernel
theorem d_Law_feed_6 : decode method_3_code 6 = .ok (.iload 5, 2) := by decide +kernel
theorem d_Law_feed_8 : decode method_3_code 8 = .ok (.invokevirtual 7, 3) := by decide +kernel
theorem d_Law_feed_11 : decode method_3_code 11 = .ok (.goto 7, 3) := by decide +kernel
theorem d_Law_feed_14 : decode method_3_code 14 = .ok (.astore 6, 2) := by decide +kernel
theorem d_Law_feed_16 : decode method_3_code 16 = .ok (.iconst 1, 1) := by decide +kernel
theorem d_Law_feed_17 : decode method_3_code 17 = .ok (.ireturn, 1) := by decide +kernel
theorem d_Law_feed_18 : decode method_3_code 18 = .ok (.iconst 0, 1) := by decide +kernel
theorem d_Law_feed_19 : decode method_3_code 19 = .ok (.ireturn, 1) := by decide +kernel
theorem d_Law_end_0 : decode method_4_code 0 = .ok (.aload_n 2, 1) := by decide +kernel
theorem d_Law_end_1 : decode method_4_code 1 = .ok (.iconst 0, 1) := by decide +kernel
theorem d_Law_end_2 : decode method_4_code 2 = .ok (.aload_n 0, 1) := by decide +kernel
theorem d_Law_end_3 : decode method_4_code 3 = .ok (.iload_n 1, 1) := by decide +kernel
theorem d_Law_end_4 : decode method_4_code 4 = .ok (.invokevirtual 15, 3) := by decide +kernel
theorem d_Law_end_7 : decode method_4_code 7 = .ok (.i2l, 1) := by decide +kernel
theorem d_Law_end_8 : decode method_4_code 8 = .ok (.lastore, 1) := by decide +kernel
theorem d_Law_end_9 : decode method_4_code 9 = .ok (.goto 6, 3) := by decide +kernel
theorem d_Law_end_12 : decode method_4_code 12 = .ok (.astore_n 3, 1) := by decide +kernel
theorem d_Law_end_13 : decode method_4_code 13 = .ok (.iconst 1, 1) := by decide +kernel
theorem d_Law_end_14 : decode method_4_code 14 = .ok (.ireturn, 1) := by decide +kernel
theorem d_Law_end_15 : decode method_4_code 15 = .ok (.iconst 0, 1) := by decide +kernel
theorem d_Law_end_16 : decode method_4_code 16 = .ok (.ireturn, 1) := by decide +kernel
theorem d_Law_pack_0 : decode method_5_code 0 = .ok (.aload_n 1, 1) := by decide +kernel
theorem d_Law_pack_1 : decode method_5_code 1 = .ok (.iconst 0, 1) := by decide +kernel
theorem d_Law_pack_2 : decode method_5_code 2 = .ok (.aload_n 0, 1) := by decide +kernel
theorem d_Law_pack_3 : decode method_5_code 3 = .ok (.invokevirtual 21, 3) := by decide +kernel
theorem d_Law_pack_6 : decode method_5_code 6 = .ok (.i2l, 1) := by decide +kernel
theorem d_Law_pack_7 : decode method_5_code 7 = .ok (.lastore, 1) := by decide +kernel
theorem d_Law_pack_8 : decode method_5_code 8 = .ok (.goto 6, 3) := by decide +kernel
theorem d_Law_pack_11 : decode method_5_code 11 = .ok (.astore_n 2, 1) := by decide +kernel
theorem d_Law_pack_12 : decode method_5_code 12 = .ok (.iconst 1, 1) := by decide +kernel
theorem d_Law_pack_13 : decode method_5_code 13 = .ok (.ireturn, 1) := by decide +kernel
theorem d_Law_pack_14 : decode method_5_code 14 = .ok (.iconst 0, 1) := by decide +kernel
theorem d_Law_pack_15 : decode method_5_code 15 = .ok (.ireturn, 1) := by decide +kernel
theorem d_Law_unpack_0 : decode method_6_code 0 = .ok (.aload_n 1, 1) := by decide +kernel
theorem d_Law_unpack_1 : decode method_6_code 1 = .ok (.iconst 0, 1) := by decide +kernel
theorem d_Law_unpack_2 : decode method_6_code 2 = .ok (.aload_n 0, 1) := by decide +kernel
theorem d_Law_unpack_3 : decode method_6_code 3 = .ok (.invokevirtual 25, 3) := by decide +kernel
theorem d_Law_unpack_6 : decode method_6_code 6 = .ok (.i2l, 1) := by decide +kernel
theorem d_Law_unpack_7 : decode method_6_code 7 = .ok (.lastore, 1) := by decide +kernel
theorem d_Law_unpack_8 : decode method_6_code 8 = .ok (.goto 6, 3) := by decide +kernel
theorem d_Law_unpack_11 : decode method_6_code 11 = .ok (.astore_n 2, 1) := by decide +kernel
theorem d_Law_unpack_12 : decode method_6_code 12 = .ok (.iconst 1, 1) := by decide +kernel
theorem d_Law_unpack_13 : decode method_6_code 13 = .ok (.ireturn, 1) := by decide +kernel
theorem d_Law_unpack_14 : decode method_6_code 14 = .ok (.iconst 0, 1) := by decide +kernel
theorem d_Law_unpack_15 : decode method_6_code 15 = .ok (.ireturn, 1) := by decide +kernel
theorem d_Law_text_0 : decode method_7_code 0 = .ok (.aload_n 1, 1) := by decide +kernel
theorem d_Law_text_1 : decode method_7_code 1 = .ok (.iconst 0, 1) := by decide +kernel
theorem d_Law_text_2 : decode method_7_code 2 = .ok (.aload_n 0, 1) := by decide +kernel
theorem d_Law_text_3 : decode method_7_code 3 = .ok (.invokevirtual 28, 3) := by decide +kernel
theorem d_Law_text_6 : decode method_7_code 6 = .ok (.i2l, 1) := by decide +kernel
theorem d_Law_text_7 : decode method_7_code 7 = .ok (.lastore, 1) := by decide +kernel
theorem d_Law_text_8 : decode method_7_code 8 = .ok (.goto 6, 3) := by decide +kernel
theorem d_Law_text_11 : decode method_7_code 11 = .ok (.astore_n 2, 1) := by decide +kernel
theorem d_Law_text_12 : decode method_7_code 12 = .ok (.iconst 1, 1) := by decide +kernel
theorem d_Law_text_13 : decode method_7_code 13 = .ok (.ireturn, 1) := by decide +kernel
theorem d_Law_text_14 : decode method_7_code 14 = .ok (.iconst 0, 1) := by decide +kernel
theorem d_Law_text_15 : decode method_7_code 15 = .ok (.ireturn, 1) := by decide +kernel
theorem d_Law_code_0 : decode method_8_code 0 = .ok (.aload_n 2, 1) := by decide +kernel
theorem d_Law_code_1 : decode method_8_code 1 = .ok (.iconst 0, 1) := by decide +kernel
theorem d_Law_code_2 : decode method_8_code 2 = .ok (.aload_n 0, 1) := by decide +kernel
theorem d_Law_code_3 : decode method_8_code 3 = .ok (.iload_n 1, 1) := by decide +kernel
theorem d_Law_code_4 : decode method_8_code 4 = .ok (.invokevirtual 31, 3) := by decide +kernel
theorem d_Law_code_7 : decode method_8_code 7 = .ok (.i2l, 1) := by decide +kernel
theorem d_Law_code_8 : decode method_8_code 8 = .ok (.lastore, 1) := by decide +kernel
theorem d_Law_code_9 : decode method_8_code 9 = .ok (.goto 6, 3) := by decide +kernel
theorem d_Law_code_12 : decode method_8_code 12 = .ok (.astore_n 3, 1) := by decide +kernel
theorem d_Law_code_13 : decode method_8_code 13 = .ok (.iconst 1, 1) := by decide +kernel
theorem d_Law_code_14 : decode method_8_code 14 = .ok (.ireturn, 1) := by decide +kernel
theorem d_Law_code_15 : decode method_8_code 15 = .ok (.iconst 0, 1) := by decide +kernel
theorem d_Law_code_16 : decode method_8_code 16 = .ok (.ireturn, 1) := by decide +kernel
theorem d_Law_letter_0 : decode method_9_code 0 = .ok (.aload_n 2, 1) := by decide +kernel
theorem d_Law_letter_1 : decode method_9_code 1 = .ok (.iconst 0, 1) := by decide +kernel
theorem d_Law_letter_2 : decode method_9_code 2 = .ok (.aload_n 0, 1) := by decide +kernel
theorem d_Law_letter_3 : decode method_9_code 3 = .ok (.iload_n 1, 1) := by decide +kernel
theorem d_Law_letter_4 : decode method_9_code 4 = .ok (.invokevirtual 36, 3) := by decide +kernel
theorem d_Law_letter_7 : decode method_9_code 7 = .ok (.i2l, 1) := by decide +kernel
theorem d_Law_letter_8 : decode method_9_code 8 = .ok (.lastore, 1) := by decide +kernel
theorem d_Law_letter_9 : decode method_9_code 9 = .ok (.goto 9, 3) := by decide +kernel
theorem d_Law_letter_12 : decode method_9_code 12 = .ok (.astore_n 3, 1) := by decide +kernel
theorem d_Law_letter_13 : decode method_9_code 13 = .ok (.iconst 1, 1) := by decide +kernel
theorem d_Law_letter_14 : decode method_9_code 14 = .ok (.ireturn, 1) := by decide +kernel
theorem d_Law_letter_15 : decode method_9_code 15 = .ok (.astore_n 3, 1) := by decide +kernel
theorem d_Law_letter_16 : decode method_9_code 16 = .ok (.iconst 2, 1) := by decide +kernel
theorem d_Law_letter_17 : decode method_9_code 17 = .ok (.ireturn, 1) := by decide +kernel
theorem d_Law_letter_18 : decode method_9_code 18 = .ok (.iconst 0, 1) := by decide +kernel
theorem d_Law_letter_19 : decode method_9_code 19 = .ok (.ireturn, 1) := by decide +kernel
theorem d_Law_varint_0 : decode method_10_code 0 = .ok (.aload_n 2, 1) := by decide +kernel
theorem d_Law_varint_1 : decode method_10_code 1 = .ok (.iconst 0, 1) := by decide +kernel
theorem d_Law_varint_2 : decode method_10_code 2 = .ok (.aload_n 0, 1) := by decide +kernel
theorem d_Law_varint_3 : decode method_10_code 3 = .ok (.iload_n 1, 1) := by decide +kernel
theorem d_Law_varint_4 : decode method_10_code 4 = .ok (.invokevirtual 39, 3) := by decide +kernel
theorem d_Law_varint_7 : decode method_10_code 7 = .ok (.i2l, 1) := by decide +kernel
theorem d_Law_varint_8 : decode method_10_code 8 = .ok (.lastore, 1) := by decide +kernel
theorem d_Law_varint_9 : decode method_10_code 9 = .ok (.goto 9, 3) := by decide +kernel
theorem d_Law_varint_12 : decode method_10_code 12 = .ok (.astore_n 3, 1) := by decide +kernel
theorem d_Law_varint_13 : decode method_10_code 13 = .ok (.iconst 1, 1) := by decide +kernel
theorem d_Law_varint_14 : decode method_10_code 14 = .ok (.ireturn, 1) := by decide +kernel
theorem d_Law_varint_15 : decode method_10_code 15 = .ok (.astore_n 3, 1) := by decide +kernel
theorem d_Law_varint_16 : decode method_10_code 16 = .ok (.iconst 2, 1) := by decide +kernel
theorem d_Law_varint_17 : decode method_10_code 17 = .ok (.ireturn, 1) := by decide +kernel
theorem d_Law_varint_18 : decode method_10_code 18 = .ok (.iconst 0, 1) := by decide +kernel
theorem d_Law_varint_19 : decode method_10_code 19 = .ok (.ireturn, 1) := by decide +kernel
theorem d_Law_zigzag_0 : decode method_11_code 0 = .ok (.aload_n 2, 1) := by decide +kernel
theorem d_Law_zigzag_1 : decode method_11_code 1 = .ok (.iconst 0, 1) := by decide +kernel
theorem d_Law_zigzag_2 : decode method_11_code 2 = .ok (.aload_n 0, 1) := by decide +kernel
theorem d_Law_zigzag_3 : decode method_11_code 3 = .ok (.iload_n 1, 1) := by decide +kernel
theorem d_Law_zigzag_4 : decode method_11_code 4 = .ok (.invokevirtual 42, 3) := by decide +kernel
theorem d_Law_zigzag_7 : decode method_11_code 7 = .ok (.i2l, 1) := by decide +kernel
theorem d_Law_zigzag_8 : decode method_11_code 8 = .ok (.lastore, 1) := by decide +kernel
theorem d_Law_zigzag_9 : decode method_11_code 9 = .ok (.goto 6, 3) := by decide +kernel
theorem d_Law_zigzag_12 : decode method_11_code 12 = .ok (.astore_n 3, 1) := by decide +kernel
theorem d_Law_zigzag_13 : decode method_11_code 13 = .ok (.iconst 1, 1) := by decide +kernel
theorem d_Law_zigzag_14 : decode method_11_code 14 = .ok (.ireturn, 1) := by decide +kernel
theorem d_Law_zigzag_15 : decode method_11_code 15 = .ok (.iconst 0, 1) := by decide +kernel
theorem d_Law_zigzag_16 : decode method_11_code 16 = .ok (.ireturn, 1) := by decide +kernel
theorem d_Law_unzigzag_0 : decode method_12_code 0 = .ok (.aload_n 2, 1) := by decide +kernel
theorem d_Law_unzigzag_1 : decode method_12_code 1 = .ok (.iconst 0, 1) := by decide +kernel
theorem d_Law_unzigzag_2 : decode method_12_code 2 = .ok (.aload_n 0, 1) := by decide +kernel
theorem d_Law_unzigzag_3 : decode method_12_code 3 = .ok (.iload_n 1, 1) := by decide +kernel
theorem d_Law_unzigzag_4 : decode method_12_code 4 = .ok (.invokevirtual 45, 3) := by decide +kernel
theorem d_Law_unzigzag_7 : decode method_12_code 7 = .ok (.i2l, 1) := by decide +kernel
theorem d_Law_unzigzag_8 : decode method_12_code 8 = .ok (.lastore, 1) := by decide +kernel
theorem d_Law_unzigzag_9 : decode method_12_code 9 = .ok (.goto 6, 3) := by decide +kernel
theorem d_Law_unzigzag_12 : decode method_12_code 12 = .ok (.astore_n 3, 1) := by decide +kernel
theorem d_Law_unzigzag_13 : decode method_12_code 13 = .ok (.iconst 1, 1) := by decide +kernel
theorem d_Law_unzigzag_14 : decode method_12_code 14 = .ok (.ireturn, 1) := by decide +kernel
theorem d_Law_unzigzag_15 : decode method_12_code 15 = .ok (.iconst 0, 1) := by decide +kernel
theorem d_Law_unzigzag_16 : decode method_12_code 16 = .ok (.ireturn, 1) := by decide +kernel
theorem d_Law_numbers_0 : decode method_13_code 0 = .ok (.aload_n 1, 1) := by decide +kernel
theorem d_Law_numbers_1 : decode method_13_code 1 = .ok (.iconst 0, 1) := by decide +kernel
theorem d_Law_numbers_2 : decode method_13_code 2 = .ok (.aload_n 0, 1) := by decide +kernel
theorem d_Law_numbers_3 : decode method_13_code 3 = .ok (.invokevirtual 48, 3) := by decide +kernel
theorem d_Law_numbers_6 : decode method_13_code 6 = .ok (.i2l, 1) := by decide +kernel
theorem d_Law_numbers_7 : decode method_13_code 7 = .ok (.lastore, 1) := by decide +kernel
theorem d_Law_numbers_8 : decode method_13_code 8 = .ok (.goto 6, 3) := by decide +kernel
theorem d_Law_numbers_11 : decode method_13_code 11 = .ok (.astore_n 2, 1) := by decide +kernel
theorem d_Law_numbers_12 : decode method_13_code 12 = .ok (.iconst 1, 1) := by decide +kernel
theorem d_Law_numbers_13 : decode method_13_code 13 = .ok (.ireturn, 1) := by decide +kernel
theorem d_Law_numbers_14 : decode method_13_code 14 = .ok (.iconst 0, 1) := by decide +kernel
theorem d_Law_numbers_15 : decode method_13_code 15 = .ok (.ireturn, 1) := by decide +kernel
theorem d_Law_number_0 : decode method_14_code 0 = .ok (.aload_n 2, 1) := by decide +kernel
theorem d_Law_number_1 : decode method_14_code 1 = .ok (.iconst 0, 1) := by decide +kernel
theorem d_Law_number_2 : decode method_14_code 2 = .ok (.aload_n 0, 1) := by decide +kernel
theorem d_Law_number_3 : decode method_14_code 3 = .ok (.iload_n 1, 1) := by decide +kernel
theorem d_Law_number_4 : decode method_14_code 4 = .ok (.invokevirtual 51, 3) := by decide +kernel
theorem d_Law_number_7 : decode method_14_code 7 = .ok (.i2l, 1) := by decide +kernel
theorem d_Law_number_8 : decode method_14_code 8 = .ok (.lastore, 1) := by decide +kernel
theorem d_Law_number_9 : decode method_14_code 9 = .ok (.goto 6, 3) := by decide +kernel
theorem d_Law_number_12 : decode method_14_code 12 = .ok (.astore_n 3, 1) := by decide +kernel
theorem d_Law_number_13 : decode method_14_code 13 = .ok (.iconst 1, 1) := by decide +kernel
theorem d_Law_number_14 : decode method_14_code 14 = .ok (.ireturn, 1) := by decide +kernel
theorem d_Law_number_15 : decode method_14_code 15 = .ok (.iconst 0, 1) := by decide +kernel
theorem d_Law_number_16 : decode method_14_code 16 = .ok (.ireturn, 1) := by decide +kernel
theorem d_Law_checksum_0 : decode method_15_code 0 = .ok (.aload_n 2, 1) := by decide +kernel
theorem d_Law_checksum_1 : decode method_15_code 1 = .ok (.iconst 0, 1) := by decide +kernel
theorem d_Law_checksum_2 : decode method_15_code 2 = .ok (.aload_n 0, 1) := by decide +kernel
theorem d_Law_checksum_3 : decode method_15_code 3 = .ok (.iload_n 1, 1) := by decide +kernel
theorem d_Law_checksum_4 : decode method_15_code 4 = .ok (.invokevirtual 54, 3) := by decide +kernel
theorem d_Law_checksum_7 : decode method_15_code 7 = .ok (.i2l, 1) := by decide +kernel
theorem d_Law_checksum_8 : decode method_15_code 8 = .ok (.lastore, 1) := by decide +kernel
theorem d_Law_checksum_9 : decode method_15_code 9 = .ok (.goto 6, 3) := by decide +kernel
theorem d_Law_checksum_12 : decode method_15_code 12 = .ok (.astore_n 3, 1) := by decide +kernel
theorem d_Law_checksum_13 : decode method_15_code 13 = .ok (.iconst 1, 1) := by decide +kernel
theorem d_Law_checksum_14 : decode method_15_code 14 = .ok (.ireturn, 1) := by decide +kernel
theorem d_Law_checksum_15 : decode method_15_code 15 = .ok (.iconst 0, 1) := by decide +kernel
theorem d_Law_checksum_16 : decode method_15_code 16 = .ok (.ireturn, 1) := by decide +kernel
theorem d_Law_octet_0 : decode method_16_code 0 = .ok (.aload_n 2, 1) := by decide +kernel
theorem d_Law_octet_1 : decode method_16_code 1 = .ok (.iconst 0, 1) := by decide +kernel
theorem d_Law_octet_2 : decode method_16_code 2 = .ok (.aload_n 0, 1) := by decide +kernel
theorem d_Law_octet_3 : decode method_16_code 3 = .ok (.iload_n 1, 1) := by decide +kernel
theorem d_Law_octet_4 : decode method_16_code 4 = .ok (.invokevirtual 57, 3) := by decide +kernel
theorem d_Law_octet_7 : decode method_16_code 7 = .ok (.i2l, 1) := by decide +kernel
theorem d_Law_octet_8 : decode method_16_code 8 = .ok (.lastore, 1) := by decide +kernel
theorem d_Law_octet_9 : decode method_16_code 9 = .ok (.goto 6, 3) := by decide +kernel
theorem d_Law_octet_12 : decode method_16_code 12 = .ok (.astore_n 3, 1) := by decide +kernel
theorem d_Law_octet_13 : decode method_16_code 13 = .ok (.iconst 1, 1) := by decide +kernel
theorem d_Law_octet_14 : decode method_16_code 14 = .ok (.ireturn, 1) := by decide +kernel
theorem d_Law_octet_15 : decode method_16_code 15 = .ok (.iconst 0, 1) := by decide +kernel
theorem d_Law_octet_16 : decode method_16_code 16 = .ok (.ireturn, 1) := by decide +kernel
theorem d_Law_back_0 : decode method_17_code 0 = .ok (.aload_n 1, 1) := by decide +kernel
theorem d_Law_back_1 : decode method_17_code 1 = .ok (.iconst 0, 1) := by decide +kernel
theorem d_Law_back_2 : decode method_17_code 2 = .ok (.aload_n 0, 1) := by decide +kernel
theorem d_Law_back_3 : decode method_17_code 3 = .ok (.invokevirtual 60, 3) := by decide +kernel
theorem d_Law_back_6 : decode method_17_code 6 = .ok (.i2l, 1) := by decide +kernel
theorem d_Law_back_7 : decode method_17_code 7 = .ok (.lastore, 1) := by decide +kernel
theorem d_Law_back_8 : decode method_17_code 8 = .ok (.goto 6, 3) := by decide +kernel
theorem d_Law_back_11 : decode method_17_code 11 = .ok (.astore_n 2, 1) := by decide +kernel
theorem d_Law_back_12 : decode method_17_code 12 = .ok (.iconst 1, 1) := by decide +kernel
theorem d_Law_back_13 : decode method_17_code 13 = .ok (.ireturn, 1) := by decide +kernel
theorem d_Law_back_14 : decode method_17_code 14 = .ok (.iconst 0, 1) := by decide +kernel
theorem d_Law_back_15 : decode method_17_code 15 = .ok (.ireturn, 1) := by decide +kernel
theorem d_Law_law_0 : decode code 0 = .ok (.new 8, 3) := by decide +kernel
theorem d_Law_law_3 : decode code 3 = .ok (.dup, 1) := by decide +kernel
theorem d_Law_law_4 : decode code 4 = .ok (.invokespecial 63, 3) := by decide +kernel
theorem d_Law_law_7 : decode code 7 = .ok (.astore_n 1, 1) := by decide +kernel
theorem d_Law_law_8 : decode code 8 = .ok (.new 64, 3) := by decide +kernel
theorem d_Law_law_11 : decode code 11 = .ok (.dup, 1) := by decide +kernel
theorem d_Law_law_12 : decode code 12 = .ok (.invokespecial 66, 3) := by decide +kernel
theorem d_Law_law_15 : decode code 15 = .ok (.astore_n 2, 1) := by decide +kernel
theorem d_Law_law_16 : decode code 16 = .ok (.iconst 1, 1) := by decide +kernel
theorem d_Law_law_17 : decode code 17 = .ok (.newarray .long, 2) := by decide +kernel
theorem d_Law_law_19 : decode code 19 = .ok (.astore_n 3, 1) := by decide +kernel
theorem d_Law_law_20 : decode code 20 = .ok (.iconst 0, 1) := by decide +kernel
theorem d_Law_law_21 : decode code 21 = .ok (.istore 4, 2) := by decide +kernel
theorem d_Law_law_23 : decode code 23 = .ok (.iload 4, 2) := by decide +kernel
theorem d_Law_law_25 : decode code 25 = .ok (.aload_n 0, 1) := by decide +kernel
theorem d_Law_law_26 : decode code 26 = .ok (.arraylength, 1) := by decide +kernel
theorem d_Law_law_27 : decode code 27 = .ok (.bipush 6, 2) := by decide +kernel
theorem d_Law_law_29 : decode code 29 = .ok (.isub, 1) := by decide +kernel
theorem d_Law_law_30 : decode code 30 = .ok (.if_icmp .gt 900, 3) := by decide +kernel
theorem d_Law_law_33 : decode code 33 = .ok (.aload_n 0, 1) := by decide +kernel
theorem d_Law_law_34 : decode code 34 = .ok (.iload 4, 2) := by decide +kernel
theorem d_Law_law_36 : decode code 36 = .ok (.iaload, 1) := by decide +kernel
theorem d_Law_law_37 : decode code 37 = .ok (.bipush 15, 2) := by decide +kernel
theorem d_Law_law_39 : decode code 39 = .ok (.iand, 1) := by decide +kernel
theorem d_Law_law_40 : decode code 40 = .ok (.tableswitch 884 0 14 #[76, 160, 216, 260, 304, 348, 404, 460, 516, 572, 628, 672, 728, 784, 840], 76) := by decide +kernel
theorem d_Law_law_116 : decode code 116 = .ok (.aload_n 1, 1) := by decide +kernel
theorem d_Law_law_117 : decode code 117 = .ok (.aload_n 0, 1) := by decide +kernel
theorem d_Law_law_118 : decode code 118 = .ok (.iload 4, 2) := by decide +kernel
theorem d_Law_law_120 : decode code 120 = .ok (.iconst 1, 1) := by decide +kernel
theorem d_Law_law_121 : decode code 121 = .ok (.iadd, 1) := by decide +kernel
theorem d_Law_law_122 : decode code 122 = .ok (.iaload, 1) := by decide +kernel
theorem d_Law_law_123 : decode code 123 = .ok (.aload_n 0, 1) := by decide +kernel
theorem d_Law_law_124 : decode code 124 = .ok (.iload 4, 2) := by decide +kernel
theorem d_Law_law_126 : decode code 126 = .ok (.iconst 2, 1) := by decide +kernel
theorem d_Law_law_127 : decode code 127 = .ok (.iadd, 1) := by decide +kernel
theorem d_Law_law_128 : decode code 128 = .ok (.iaload, 1) := by decide +kernel
theorem d_Law_law_129 : decode code 129 = .ok (.aload_n 0, 1) := by decide +kernel
theorem d_Law_law_130 : decode code 130 = .ok (.iload 4, 2) := by decide +kernel
theorem d_Law_law_132 : decode code 132 = .ok (.iconst 3, 1) := by decide +kernel
theorem d_Law_law_133 : decode code 133 = .ok (.iadd, 1) := by decide +kernel
theorem d_Law_law_134 : decode code 134 = .ok (.iaload, 1) := by decide +kernel
theorem d_Law_law_135 : decode code 135 = .ok (.aload_n 0, 1) := by decide +kernel
theorem d_Law_law_136 : decode code 136 = .ok (.iload 4, 2) := by decide +kernel
theorem d_Law_law_138 : decode code 138 = .ok (.iconst 4, 1) := by decide +kernel
theorem d_Law_law_139 : decode code 139 = .ok (.iadd, 1) := by decide +kernel
theorem d_Law_law_140 : decode code 140 = .ok (.iaload, 1) := by decide +kernel
theorem d_Law_law_141 : decode code 141 = .ok (.aload_n 0, 1) := by decide +kernel
theorem d_Law_law_142 : decode code 142 = .ok (.iload 4, 2) := by decide +kernel
theorem d_Law_law_144 : decode code 144 = .ok (.iconst 5, 1) := by decide +kernel
theorem d_Law_law_145 : decode code 145 = .ok (.iadd, 1) := by decide +kernel
theorem d_Law_law_146 : decode code 146 = .ok (.iaload, 1) := by decide +kernel
theorem d_Law_law_147 : decode code 147 = .ok (.invokestatic 67, 3) := by decide +kernel
theorem d_Law_law_150 : decode code 150 = .ok (.istore 5, 2) := by decide +kernel
theorem d_Law_law_152 : decode code 152 = .ok (.aload_n 2, 1) := by decide +kernel
theorem d_Law_law_153 : decode code 153 = .ok (.aload_n 0, 1) := by decide +kernel
theorem d_Law_law_154 : decode code 154 = .ok (.iload 4, 2) := by decide +kernel
theorem d_Law_law_156 : decode code 156 = .ok (.iconst 1, 1) := by decide +kernel
theorem d_Law_law_157 : decode code 157 = .ok (.iadd, 1) := by decide +kernel
theorem d_Law_law_158 : decode code 158 = .ok (.iaload, 1) := by decide +kernel
theorem d_Law_law_159 : decode code 159 = .ok (.aload_n 0, 1) := by decide +kernel
theorem d_Law_law_160 : decode code 160 = .ok (.iload 4, 2) := by decide +kernel
theorem d_Law_law_162 : decode code 162 = .ok (.iconst 2, 1) := by decide +kernel
theorem d_Law_law_163 : decode code 163 = .ok (.iadd, 1) := by decide +kernel
theorem d_Law_law_164 : decode code 164 = .ok (.iaload, 1) := by decide +kernel
theorem d_Law_law_165 : decode code 165 = .ok (.aload_n 0, 1) := by decide +kernel
theorem d_Law_law_166 : decode code 166 = .ok (.iload 4, 2) := by decide +kernel
theorem d_Law_law_168 : decode code 168 = .ok (.iconst 3, 1) := by decide +kernel
theorem d_Law_law_169 : decode code 169 = .ok (.iadd, 1) := by decide +kernel
theorem d_Law_law_170 : decode code 170 = .ok (.iaload, 1) := by decide +kernel
theorem d_Law_law_171 : decode code 171 = .ok (.aload_n 0, 1) := by decide +kernel
theorem d_Law_law_172 : decode code 172 = .ok (.iload 4, 2) := by decide +kernel
theorem d_Law_law_174 : decode code 174 = .ok (.iconst 4, 1) := by decide +kernel
theorem d_Law_law_175 : decode code 175 = .ok (.iadd, 1) := by decide +kernel
theorem d_Law_law_176 : decode code 176 = .ok (.iaload, 1) := by decide +kernel
theorem d_Law_law_177 : decode code 177 = .ok (.aload_n 0, 1) := by decide +kernel
theorem d_Law_law_178 : decode code 178 = .ok (.iload 4, 2) := by decide +kernel
theorem d_Law_law_180 : decode code 180 = .ok (.iconst 5, 1) := by decide +kernel
theorem d_Law_law_181 : decode code 181 = .ok (.iadd, 1) := by decide +kernel
theorem d_Law_law_182 : decode code 182 = .ok (.iaload, 1) := by decide +kernel
theorem d_Law_law_183 : decode code 183 = .ok (.invokevirtual 72, 3) := by decide +kernel
theorem d_Law_law_186 : decode code 186 = .ok (.aload_n 2, 1) := by decide +kernel
theorem d_Law_law_187 : decode code 187 = .ok (.invokevirtual 73, 3) := by decide +kernel
theorem d_Law_law_190 : decode code 190 = .ok (.iload 5, 2) := by decide +kernel
theorem d_Law_law_192 : decode code 192 = .ok (.if_icmp .eq 5, 3) := by decide +kernel
theorem d_Law_law_195 : decode code 195 = .ok (.iconst 0, 1) := by decide +kernel
theorem d_Law_law_196 : decode code 196 = .ok (.ireturn, 1) := by decide +kernel
theorem d_Law_law_197 : decode code 197 = .ok (.goto 727, 3) := by decide +kernel
theorem d_Law_law_200 : decode code 200 = .ok (.aload_n 1, 1) := by decide +kernel
theorem d_Law_law_201 : decode code 201 = .ok (.aload_n 0, 1) := by decide +kernel
theorem d_Law_law_202 : decode code 202 = .ok (.iload 4, 2) := by decide +kernel
theorem d_Law_law_204 : decode code 204 = .ok (.iconst 1, 1) := by decide +kernel
theorem d_Law_law_205 : decode code 205 = .ok (.iadd, 1) := by decide +kernel
theorem d_Law_law_206 : decode code 206 = .ok (.iaload, 1) := by decide +kernel
theorem d_Law_law_207 : decode code 207 = .ok (.aload_n 3, 1) := by decide +kernel
theorem d_Law_law_208 : decode code 208 = .ok (.invokestatic 76, 3) := by decide +kernel
theorem d_Law_law_211 : decode code 211 = .ok (.istore 5, 2) := by decide +kernel
theorem d_Law_law_213 : decode code 213 = .ok (.aload_n 2, 1) := by decide +kernel
theorem d_Law_law_214 : decode code 214 = .ok (.aload_n 0, 1) := by decide +kernel
theorem d_Law_law_215 : decode code 215 = .ok (.iload 4, 2) := by decide +kernel
theorem d_Law_law_217 : decode code 217 = .ok (.iconst 1, 1) := by decide +kernel
theorem d_Law_law_218 : decode code 218 = .ok (.iadd, 1) := by decide +kernel
theorem d_Law_law_219 : decode code 219 = .ok (.iaload, 1) := by decide +kernel
theorem d_Law_law_220 : decode code 220 = .ok (.invokevirtual 79, 3) := by decide +kernel
theorem d_Law_law_223 : decode code 223 = .ok (.istore 6, 2) := by decide +kernel
theorem d_Law_law_225 : decode code 225 = .ok (.aload_n 2, 1) := by decide +kernel
theorem d_Law_law_226 : decode code 226 = .ok (.invokevirtual 73, 3) := by decide +kernel
theorem d_Law_law_229 : decode code 229 = .ok (.iload 5, 2) := by decide +kernel
theorem d_Law_law_231 : decode code 231 = .ok (.if_icmp .eq 5, 3) := by decide +kernel
theorem d_Law_law_234 : decode code 234 = .ok (.iconst 0, 1) := by decide +kernel
theorem d_Law_law_235 : decode code 235 = .ok (.ireturn, 1) := by decide +kernel
theorem d_Law_law_236 : decode code 236 = .ok (.iload 5, 2) := by decide +kernel
theorem d_Law_law_238 : decode code 238 = .ok (.ifCond .ne 15, 3) := by decide +kernel
theorem d_Law_law_241 : decode code 241 = .ok (.aload_n 3, 1) := by decide +kernel
theorem d_Law_law_242 : decode code 242 = .ok (.iconst 0, 1) := by decide +kernel
theorem d_Law_law_243 : decode code 243 = .ok (.laload, 1) := by decide +kernel
theorem d_Law_law_244 : decode code 244 = .ok (.iload 6, 2) := by decide +kernel
theorem d_Law_law_246 : decode code 246 = .ok (.i2l, 1) := by decide +kernel
theorem d_Law_law_247 : decode code 247 = .ok (.lcmp, 1) := by decide +kernel
theorem d_Law_law_248 : decode code 248 = .ok (.ifCond .eq 5, 3) := by decide +kernel
theorem d_Law_law_251 : decode code 251 = .ok (.iconst 0, 1) := by decide +kernel
theorem d_Law_law_252 : decode code 252 = .ok (.ireturn, 1) := by decide +kernel
theorem d_Law_law_253 : decode code 253 = .ok (.goto 671, 3) := by decide +kernel
theorem d_Law_law_256 : decode code 256 = .ok (.aload_n 1, 1) := by decide +kernel
theorem d_Law_law_257 : decode code 257 = .ok (.aload_n 3, 1) := by decide +kernel
theorem d_Law_law_258 : decode code 258 = .ok (.invokestatic 80, 3) := by decide +kernel
theorem d_Law_law_261 : decode code 261 = .ok (.istore 5, 2) := by decide +kernel
theorem d_Law_law_263 : decode code 263 = .ok (.aload_n 2, 1) := by decide +kernel
theorem d_Law_law_264 : decode code 264 = .ok (.invokevirtual 83, 3) := by decide +kernel
theorem d_Law_law_267 : decode code 267 = .ok (.istore 6, 2) := by decide +kernel
theorem d_Law_law_269 : decode code 269 = .ok (.aload_n 2, 1) := by decide +kernel
theorem d_Law_law_270 : decode code 270 = .ok (.invokevirtual 73, 3) := by decide +kernel
theorem d_Law_law_273 : decode code 273 = .ok (.iload 5, 2) := by decide +kernel
theorem d_Law_law_275 : decode code 275 = .ok (.if_icmp .eq 5, 3) := by decide +kernel
theorem d_Law_law_278 : decode code 278 = .ok (.iconst 0, 1) := by decide +kernel
theorem d_Law_law_279 : decode code 279 = .ok (.ireturn, 1) := by decide +kernel
theorem d_Law_law_280 : decode code 280 = .ok (.iload 5, 2) := by decide +kernel
theorem d_Law_law_282 : decode code 282 = .ok (.ifCond .ne 15, 3) := by decide +kernel
theorem d_Law_law_285 : decode code 285 = .ok (.aload_n 3, 1) := by decide +kernel
theorem d_Law_law_286 : decode code 286 = .ok (.iconst 0, 1) := by decide +kernel
theorem d_Law_law_287 : decode code 287 = .ok (.laload, 1) := by decide +kernel
theorem d_Law_law_288 : decode code 288 = .ok (.iload 6, 2) := by decide +kernel
theorem d_Law_law_290 : decode code 290 = .ok (.i2l, 1) := by decide +kernel
theorem d_Law_law_291 : decode code 291 = .ok (.lcmp, 1) := by decide +kernel
theorem d_Law_law_292 : decode code 292 = .ok (.ifCond .eq 5, 3) := by decide +kernel
theorem d_Law_law_295 : decode code 295 = .ok (.iconst 0, 1) := by decide +kernel
theorem d_Law_law_296 : decode code 296 = .ok (.ireturn, 1) := by decide +kernel
theorem d_Law_law_297 : decode code 297 = .ok (.goto 627, 3) := by decide +kernel
theorem d_Law_law_300 : decode code 300 = .ok (.aload_n 1, 1) := by decide +kernel
theorem d_Law_law_301 : decode code 301 = .ok (.aload_n 3, 1) := by decide +kernel
theorem d_Law_law_302 : decode code 302 = .ok (.invokestatic 84, 3) := by decide +kernel
theorem d_Law_law_305 : decode code 305 = .ok (.istore 5, 2) := by decide +kernel
theorem d_Law_law_307 : decode code 307 = .ok (.aload_n 2, 1) := by decide +kernel
theorem d_Law_law_308 : decode code 308 = .ok (.invokevirtual 86, 3) := by decide +kernel
theorem d_Law_law_311 : decode code 311 = .ok (.istore 6, 2) := by decide +kernel
theorem d_Law_law_313 : decode code 313 = .ok (.aload_n 2, 1) := by decide +kernel
theorem d_Law_law_314 : decode code 314 = .ok (.invokevirtual 73, 3) := by decide +kernel
theorem d_Law_law_317 : decode code 317 = .ok (.iload 5, 2) := by decide +kernel
theorem d_Law_law_319 : decode code 319 = .ok (.if_icmp .eq 5, 3) := by decide +kernel
theorem d_Law_law_322 : decode code 322 = .ok (.iconst 0, 1) := by decide +kernel
theorem d_Law_law_323 : decode code 323 = .ok (.ireturn, 1) := by decide +kernel
theorem d_Law_law_324 : decode code 324 = .ok (.iload 5, 2) := by decide +kernel
theorem d_Law_law_326 : decode code 326 = .ok (.ifCond .ne 15, 3) := by decide +kernel
theorem d_Law_law_329 : decode code 329 = .ok (.aload_n 3, 1) := by decide +kernel
theorem d_Law_law_330 : decode code 330 = .ok (.iconst 0, 1) := by decide +kernel
theorem d_Law_law_331 : decode code 331 = .ok (.laload, 1) := by decide +kernel
theorem d_Law_law_332 : decode code 332 = .ok (.iload 6, 2) := by decide +kernel
theorem d_Law_law_334 : decode code 334 = .ok (.i2l, 1) := by decide +kernel
theorem d_Law_law_335 : decode code 335 = .ok (.lcmp, 1) := by decide +kernel
theorem d_Law_law_336 : decode code 336 = .ok (.ifCond .eq 5, 3) := by decide +kernel
theorem d_Law_law_339 : decode code 339 = .ok (.iconst 0, 1) := by decide +kernel
theorem d_Law_law_340 : decode code 340 = .ok (.ireturn, 1) := by decide +kernel
theorem d_Law_law_341 : decode code 341 = .ok (.goto 583, 3) := by decide +kernel
theorem d_Law_law_344 : decode code 344 = .ok (.aload_n 1, 1) := by decide +kernel
theorem d_Law_law_345 : decode code 345 = .ok (.aload_n 3, 1) := by decide +kernel
theorem d_Law_law_346 : decode code 346 = .ok (.invokestatic 87, 3) := by decide +kernel
theorem d_Law_law_349 : decode code 349 = .ok (.istore 5, 2) := by decide +kernel
theorem d_Law_law_351 : decode code 351 = .ok (.aload_n 2, 1) := by decide +kernel
theorem d_Law_law_352 : decode code 352 = .ok (.invokevirtual 89, 3) := by decide +kernel
theorem d_Law_law_355 : decode code 355 = .ok (.istore 6, 2) := by decide +kernel
theorem d_Law_law_357 : decode code 357 = .ok (.aload_n 2, 1) := by decide +kernel
theorem d_Law_law_358 : decode code 358 = .ok (.invokevirtual 73, 3) := by decide +kernel
theorem d_Law_law_361 : decode code 361 = .ok (.iload 5, 2) := by decide +kernel
theorem d_Law_law_363 : decode code 363 = .ok (.if_icmp .eq 5, 3) := by decide +kernel
theorem d_Law_law_366 : decode code 366 = .ok (.iconst 0, 1) := by decide +kernel
theorem d_Law_law_367 : decode code 367 = .ok (.ireturn, 1) := by decide +kernel
theorem d_Law_law_368 : decode code 368 = .ok (.iload 5, 2) := by decide +kernel
theorem d_Law_law_370 : decode code 370 = .ok (.ifCond .ne 15, 3) := by decide +kernel
theorem d_Law_law_373 : decode code 373 = .ok (.aload_n 3, 1) := by decide +kernel
theorem d_Law_law_374 : decode code 374 = .ok (.iconst 0, 1) := by decide +kernel
theorem d_Law_law_375 : decode code 375 = .ok (.laload, 1) := by decide +kernel
theorem d_Law_law_376 : decode code 376 = .ok (.iload 6, 2) := by decide +kernel
theorem d_Law_law_378 : decode code 378 = .ok (.i2l, 1) := by decide +kernel
theorem d_Law_law_379 : decode code 379 = .ok (.lcmp, 1) := by decide +kernel
theorem d_Law_law_380 : decode code 380 = .ok (.ifCond .eq 5, 3) := by decide +kernel
theorem d_Law_law_383 : decode code 383 = .ok (.iconst 0, 1) := by decide +kernel
theorem d_Law_law_384 : decode code 384 = .ok (.ireturn, 1) := by decide +kernel
theorem d_Law_law_385 : decode code 385 = .ok (.goto 539, 3) := by decide +kernel
theorem d_Law_law_388 : decode code 388 = .ok (.aload_n 1, 1) := by decide +kernel
theorem d_Law_law_389 : decode code 389 = .ok (.aload_n 0, 1) := by decide +kernel
theorem d_Law_law_390 : decode code 390 = .ok (.iload 4, 2) := by decide +kernel
theorem d_Law_law_392 : decode code 392 = .ok (.iconst 1, 1) := by decide +kernel
theorem d_Law_law_393 : decode code 393 = .ok (.iadd, 1) := by decide +kernel
theorem d_Law_law_394 : decode code 394 = .ok (.iaload, 1) := by decide +kernel
theorem d_Law_law_395 : decode code 395 = .ok (.aload_n 3, 1) := by decide +kernel
theorem d_Law_law_396 : decode code 396 = .ok (.invokestatic 90, 3) := by decide +kernel
theorem d_Law_law_399 : decode code 399 = .ok (.istore 5, 2) := by decide +kernel
theorem d_Law_law_401 : decode code 401 = .ok (.aload_n 2, 1) := by decide +kernel
theorem d_Law_law_402 : decode code 402 = .ok (.aload_n 0, 1) := by decide +kernel
theorem d_Law_law_403 : decode code 403 = .ok (.iload 4, 2) := by decide +kernel
theorem d_Law_law_405 : decode code 405 = .ok (.iconst 1, 1) := by decide +kernel
theorem d_Law_law_406 : decode code 406 = .ok (.iadd, 1) := by decide +kernel
theorem d_Law_law_407 : decode code 407 = .ok (.iaload, 1) := by decide +kernel
theorem d_Law_law_408 : decode code 408 = .ok (.invokevirtual 92, 3) := by decide +kernel
theorem d_Law_law_411 : decode code 411 = .ok (.istore 6, 2) := by decide +kernel
theorem d_Law_law_413 : decode code 413 = .ok (.aload_n 2, 1) := by decide +kernel
theorem d_Law_law_414 : decode code 414 = .ok (.invokevirtual 73, 3) := by decide +kernel
theorem d_Law_law_417 : decode code 417 = .ok (.iload 5, 2) := by decide +kernel
theorem d_Law_law_419 : decode code 419 = .ok (.if_icmp .eq 5, 3) := by decide +kernel
theorem d_Law_law_422 : decode code 422 = .ok (.iconst 0, 1) := by decide +kernel
theorem d_Law_law_423 : decode code 423 = .ok (.ireturn, 1) := by decide +kernel
theorem d_Law_law_424 : decode code 424 = .ok (.iload 5, 2) := by decide +kernel
theorem d_Law_law_426 : decode code 426 = .ok (.ifCond .ne 15, 3) := by decide +kernel
theorem d_Law_law_429 : decode code 429 = .ok (.aload_n 3, 1) := by decide +kernel
theorem d_Law_law_430 : decode code 430 = .ok (.iconst 0, 1) := by decide +kernel
theorem d_Law_law_431 : decode code 431 = .ok (.laload, 1) := by decide +kernel
theorem d_Law_law_432 : decode code 432 = .ok (.iload 6, 2) := by decide +kernel
theorem d_Law_law_434 : decode code 434 = .ok (.i2l, 1) := by decide +kernel
theorem d_Law_law_435 : decode code 435 = .ok (.lcmp, 1) := by decide +kernel
theorem d_Law_law_436 : decode code 436 = .ok (.ifCond .eq 5, 3) := by decide +kernel
theorem d_Law_law_439 : decode code 439 = .ok (.iconst 0, 1) := by decide +kernel
theorem d_Law_law_440 : decode code 440 = .ok (.ireturn, 1) := by decide +kernel
theorem d_Law_law_441 : decode code 441 = .ok (.goto 483, 3) := by decide +kernel
theorem d_Law_law_444 : decode code 444 = .ok (.aload_n 1, 1) := by decide +kernel
theorem d_Law_law_445 : decode code 445 = .ok (.aload_n 0, 1) := by decide +kernel
theorem d_Law_law_446 : decode code 446 = .ok (.iload 4, 2) := by decide +kernel
theorem d_Law_law_448 : decode code 448 = .ok (.iconst 1, 1) := by decide +kernel
theorem d_Law_law_449 : decode code 449 = .ok (.iadd, 1) := by decide +kernel
theorem d_Law_law_450 : decode code 450 = .ok (.iaload, 1) := by decide +kernel
theorem d_Law_law_451 : decode code 451 = .ok (.aload_n 3, 1) := by decide +kernel
theorem d_Law_law_452 : decode code 452 = .ok (.invokestatic 93, 3) := by decide +kernel
theorem d_Law_law_455 : decode code 455 = .ok (.istore 5, 2) := by decide +kernel
theorem d_Law_law_457 : decode code 457 = .ok (.aload_n 2, 1) := by decide +kernel
theorem d_Law_law_458 : decode code 458 = .ok (.aload_n 0, 1) := by decide +kernel
theorem d_Law_law_459 : decode code 459 = .ok (.iload 4, 2) := by decide +kernel
theorem d_Law_law_461 : decode code 461 = .ok (.iconst 1, 1) := by decide +kernel
theorem d_Law_law_462 : decode code 462 = .ok (.iadd, 1) := by decide +kernel
theorem d_Law_law_463 : decode code 463 = .ok (.iaload, 1) := by decide +kernel
theorem d_Law_law_464 : decode code 464 = .ok (.invokevirtual 95, 3) := by decide +kernel
theorem d_Law_law_467 : decode code 467 = .ok (.istore 6, 2) := by decide +kernel
theorem d_Law_law_469 : decode code 469 = .ok (.aload_n 2, 1) := by decide +kernel
theorem d_Law_law_470 : decode code 470 = .ok (.invokevirtual 73, 3) := by decide +kernel
theorem d_Law_law_473 : decode code 473 = .ok (.iload 5, 2) := by decide +kernel
theorem d_Law_law_475 : decode code 475 = .ok (.if_icmp .eq 5, 3) := by decide +kernel
theorem d_Law_law_478 : decode code 478 = .ok (.iconst 0, 1) := by decide +kernel
theorem d_Law_law_479 : decode code 479 = .ok (.ireturn, 1) := by decide +kernel
theorem d_Law_law_480 : decode code 480 = .ok (.iload 5, 2) := by decide +kernel
theorem d_Law_law_482 : decode code 482 = .ok (.ifCond .ne 15, 3) := by decide +kernel
theorem d_Law_law_485 : decode code 485 = .ok (.aload_n 3, 1) := by decide +kernel
theorem d_Law_law_486 : decode code 486 = .ok (.iconst 0, 1) := by decide +kernel
theorem d_Law_law_487 : decode code 487 = .ok (.laload, 1) := by decide +kernel
theorem d_Law_law_488 : decode code 488 = .ok (.iload 6, 2) := by decide +kernel
theorem d_Law_law_490 : decode code 490 = .ok (.i2l, 1) := by decide +kernel
theorem d_Law_law_491 : decode code 491 = .ok (.lcmp, 1) := by decide +kernel
theorem d_Law_law_492 : decode code 492 = .ok (.ifCond .eq 5, 3) := by decide +kernel
theorem d_Law_law_495 : decode code 495 = .ok (.iconst 0, 1) := by decide +kernel
theorem d_Law_law_496 : decode code 496 = .ok (.ireturn, 1) := by decide +kernel
theorem d_Law_law_497 : decode code 497 = .ok (.goto 427, 3) := by decide +kernel
theorem d_Law_law_500 : decode code 500 = .ok (.aload_n 1, 1) := by decide +kernel
theorem d_Law_law_501 : decode code 501 = .ok (.aload_n 0, 1) := by decide +kernel
theorem d_Law_law_502 : decode code 502 = .ok (.iload 4, 2) := by decide +kernel
theorem d_Law_law_504 : decode code 504 = .ok (.iconst 1, 1) := by decide +kernel
theorem d_Law_law_505 : decode code 505 = .ok (.iadd, 1) := by decide +kernel
theorem d_Law_law_506 : decode code 506 = .ok (.iaload, 1) := by decide +kernel
theorem d_Law_law_507 : decode code 507 = .ok (.aload_n 3, 1) := by decide +kernel
theorem d_Law_law_508 : decode code 508 = .ok (.invokestatic 96, 3) := by decide +kernel
theorem d_Law_law_511 : decode code 511 = .ok (.istore 5, 2) := by decide +kernel
theorem d_Law_law_513 : decode code 513 = .ok (.aload_n 2, 1) := by decide +kernel
theorem d_Law_law_514 : decode code 514 = .ok (.aload_n 0, 1) := by decide +kernel
theorem d_Law_law_515 : decode code 515 = .ok (.iload 4, 2) := by decide +kernel
theorem d_Law_law_517 : decode code 517 = .ok (.iconst 1, 1) := by decide +kernel
theorem d_Law_law_518 : decode code 518 = .ok (.iadd, 1) := by decide +kernel
theorem d_Law_law_519 : decode code 519 = .ok (.iaload, 1) := by decide +kernel
theorem d_Law_law_520 : decode code 520 = .ok (.invokevirtual 98, 3) := by decide +kernel
theorem d_Law_law_523 : decode code 523 = .ok (.istore 6, 2) := by decide +kernel
theorem d_Law_law_525 : decode code 525 = .ok (.aload_n 2, 1) := by decide +kernel
theorem d_Law_law_526 : decode code 526 = .ok (.invokevirtual 73, 3) := by decide +kernel
theorem d_Law_law_529 : decode code 529 = .ok (.iload 5, 2) := by decide +kernel
theorem d_Law_law_531 : decode code 531 = .ok (.if_icmp .eq 5, 3) := by decide +kernel
theorem d_Law_law_534 : decode code 534 = .ok (.iconst 0, 1) := by decide +kernel
theorem d_Law_law_535 : decode code 535 = .ok (.ireturn, 1) := by decide +kernel
theorem d_Law_law_536 : decode code 536 = .ok (.iload 5, 2) := by decide +kernel
theorem d_Law_law_538 : decode code 538 = .ok (.ifCond .ne 15, 3) := by decide +kernel
theorem d_Law_law_541 : decode code 541 = .ok (.aload_n 3, 1) := by decide +kernel
theorem d_Law_law_542 : decode code 542 = .ok (.iconst 0, 1) := by decide +kernel
theorem d_Law_law_543 : decode code 543 = .ok (.laload, 1) := by decide +kernel
theorem d_Law_law_544 : decode code 544 = .ok (.iload 6, 2) := by decide +kernel
theorem d_Law_law_546 : decode code 546 = .ok (.i2l, 1) := by decide +kernel
theorem d_Law_law_547 : decode code 547 = .ok (.lcmp, 1) := by decide +kernel
theorem d_Law_law_548 : decode code 548 = .ok (.ifCond .eq 5, 3) := by decide +kernel
theorem d_Law_law_551 : decode code 551 = .ok (.iconst 0, 1) := by decide +kernel
theorem d_Law_law_552 : decode code 552 = .ok (.ireturn, 1) := by decide +kernel
theorem d_Law_law_553 : decode code 553 = .ok (.goto 371, 3) := by decide +kernel
theorem d_Law_law_556 : decode code 556 = .ok (.aload_n 1, 1) := by decide +kernel
theorem d_Law_law_557 : decode code 557 = .ok (.aload_n 0, 1) := by decide +kernel
theorem d_Law_law_558 : decode code 558 = .ok (.iload 4, 2) := by decide +kernel
theorem d_Law_law_560 : decode code 560 = .ok (.iconst 1, 1) := by decide +kernel
theorem d_Law_law_561 : decode code 561 = .ok (.iadd, 1) := by decide +kernel
theorem d_Law_law_562 : decode code 562 = .ok (.iaload, 1) := by decide +kernel
theorem d_Law_law_563 : decode code 563 = .ok (.aload_n 3, 1) := by decide +kernel
theorem d_Law_law_564 : decode code 564 = .ok (.invokestatic 99, 3) := by decide +kernel
theorem d_Law_law_567 : decode code 567 = .ok (.istore 5, 2) := by decide +kernel
theorem d_Law_law_569 : decode code 569 = .ok (.aload_n 2, 1) := by decide +kernel
theorem d_Law_law_570 : decode code 570 = .ok (.aload_n 0, 1) := by decide +kernel
theorem d_Law_law_571 : decode code 571 = .ok (.iload 4, 2) := by decide +kernel
theorem d_Law_law_573 : decode code 573 = .ok (.iconst 1, 1) := by decide +kernel
theorem d_Law_law_574 : decode code 574 = .ok (.iadd, 1) := by decide +kernel
theorem d_Law_law_575 : decode code 575 = .ok (.iaload, 1) := by decide +kernel
theorem d_Law_law_576 : decode code 576 = .ok (.invokevirtual 101, 3) := by decide +kernel
theorem d_Law_law_579 : decode code 579 = .ok (.istore 6, 2) := by decide +kernel
theorem d_Law_law_581 : decode code 581 = .ok (.aload_n 2, 1) := by decide +kernel
theorem d_Law_law_582 : decode code 582 = .ok (.invokevirtual 73, 3) := by decide +kernel
theorem d_Law_law_585 : decode code 585 = .ok (.iload 5, 2) := by decide +kernel
theorem d_Law_law_587 : decode code 587 = .ok (.if_icmp .eq 5, 3) := by decide +kernel
theorem d_Law_law_590 : decode code 590 = .ok (.iconst 0, 1) := by decide +kernel
theorem d_Law_law_591 : decode code 591 = .ok (.ireturn, 1) := by decide +kernel
theorem d_Law_law_592 : decode code 592 = .ok (.iload 5, 2) := by decide +kernel
theorem d_Law_law_594 : decode code 594 = .ok (.ifCond .ne 15, 3) := by decide +kernel
theorem d_Law_law_597 : decode code 597 = .ok (.aload_n 3, 1) := by decide +kernel
theorem d_Law_law_598 : decode code 598 = .ok (.iconst 0, 1) := by decide +kernel
theorem d_Law_law_599 : decode code 599 = .ok (.laload, 1) := by decide +kernel
theorem d_Law_law_600 : decode code 600 = .ok (.iload 6, 2) := by decide +kernel
theorem d_Law_law_602 : decode code 602 = .ok (.i2l, 1) := by decide +kernel
theorem d_Law_law_603 : decode code 603 = .ok (.lcmp, 1) := by decide +kernel
theorem d_Law_law_604 : decode code 604 = .ok (.ifCond .eq 5, 3) := by decide +kernel
theorem d_Law_law_607 : decode code 607 = .ok (.iconst 0, 1) := by decide +kernel
theorem d_Law_law_608 : decode code 608 = .ok (.ireturn, 1) := by decide +kernel
theorem d_Law_law_609 : decode code 609 = .ok (.goto 315, 3) := by decide +kernel
theorem d_Law_law_612 : decode code 612 = .ok (.aload_n 1, 1) := by decide +kernel
theorem d_Law_law_613 : decode code 613 = .ok (.aload_n 0, 1) := by decide +kernel
theorem d_Law_law_614 : decode code 614 = .ok (.iload 4, 2) := by decide +kernel
theorem d_Law_law_616 : decode code 616 = .ok (.iconst 1, 1) := by decide +kernel
theorem d_Law_law_617 : decode code 617 = .ok (.iadd, 1) := by decide +kernel
theorem d_Law_law_618 : decode code 618 = .ok (.iaload, 1) := by decide +kernel
theorem d_Law_law_619 : decode code 619 = .ok (.aload_n 3, 1) := by decide +kernel
theorem d_Law_law_620 : decode code 620 = .ok (.invokestatic 102, 3) := by decide +kernel
theorem d_Law_law_623 : decode code 623 = .ok (.istore 5, 2) := by decide +kernel
theorem d_Law_law_625 : decode code 625 = .ok (.aload_n 2, 1) := by decide +kernel
theorem d_Law_law_626 : decode code 626 = .ok (.aload_n 0, 1) := by decide +kernel
theorem d_Law_law_627 : decode code 627 = .ok (.iload 4, 2) := by decide +kernel
theorem d_Law_law_629 : decode code 629 = .ok (.iconst 1, 1) := by decide +kernel
theorem d_Law_law_630 : decode code 630 = .ok (.iadd, 1) := by decide +kernel
theorem d_Law_law_631 : decode code 631 = .ok (.iaload, 1) := by decide +kernel
theorem d_Law_law_632 : decode code 632 = .ok (.invokevirtual 104, 3) := by decide +kernel
theorem d_Law_law_635 : decode code 635 = .ok (.istore 6, 2) := by decide +kernel
theorem d_Law_law_637 : decode code 637 = .ok (.aload_n 2, 1) := by decide +kernel
theorem d_Law_law_638 : decode code 638 = .ok (.invokevirtual 73, 3) := by decide +kernel
theorem d_Law_law_641 : decode code 641 = .ok (.iload 5, 2) := by decide +kernel
theorem d_Law_law_643 : decode code 643 = .ok (.if_icmp .eq 5, 3) := by decide +kernel
theorem d_Law_law_646 : decode code 646 = .ok (.iconst 0, 1) := by decide +kernel
theorem d_Law_law_647 : decode code 647 = .ok (.ireturn, 1) := by decide +kernel
theorem d_Law_law_648 : decode code 648 = .ok (.iload 5, 2) := by decide +kernel
theorem d_Law_law_650 : decode code 650 = .ok (.ifCond .ne 15, 3) := by decide +kernel
theorem d_Law_law_653 : decode code 653 = .ok (.aload_n 3, 1) := by decide +kernel
theorem d_Law_law_654 : decode code 654 = .ok (.iconst 0, 1) := by decide +kernel
theorem d_Law_law_655 : decode code 655 = .ok (.laload, 1) := by decide +kernel
theorem d_Law_law_656 : decode code 656 = .ok (.iload 6, 2) := by decide +kernel
theorem d_Law_law_658 : decode code 658 = .ok (.i2l, 1) := by decide +kernel
theorem d_Law_law_659 : decode code 659 = .ok (.lcmp, 1) := by decide +kernel
theorem d_Law_law_660 : decode code 660 = .ok (.ifCond .eq 5, 3) := by decide +kernel
theorem d_Law_law_663 : decode code 663 = .ok (.iconst 0, 1) := by decide +kernel
theorem d_Law_law_664 : decode code 664 = .ok (.ireturn, 1) := by decide +kernel
theorem d_Law_law_665 : decode code 665 = .ok (.goto 259, 3) := by decide +kernel
theorem d_Law_law_668 : decode code 668 = .ok (.aload_n 1, 1) := by decide +kernel
theorem d_Law_law_669 : decode code 669 = .ok (.aload_n 3, 1) := by decide +kernel
theorem d_Law_law_670 : decode code 670 = .ok (.invokestatic 105, 3) := by decide +kernel
theorem d_Law_law_673 : decode code 673 = .ok (.istore 5, 2) := by decide +kernel
theorem d_Law_law_675 : decode code 675 = .ok (.aload_n 2, 1) := by decide +kernel
theorem d_Law_law_676 : decode code 676 = .ok (.invokevirtual 107, 3) := by decide +kernel
theorem d_Law_law_679 : decode code 679 = .ok (.istore 6, 2) := by decide +kernel
theorem d_Law_law_681 : decode code 681 = .ok (.aload_n 2, 1) := by decide +kernel
theorem d_Law_law_682 : decode code 682 = .ok (.invokevirtual 73, 3) := by decide +kernel
theorem d_Law_law_685 : decode code 685 = .ok (.iload 5, 2) := by decide +kernel
theorem d_Law_law_687 : decode code 687 = .ok (.if_icmp .eq 5, 3) := by decide +kernel
theorem d_Law_law_690 : decode code 690 = .ok (.iconst 0, 1) := by decide +kernel
theorem d_Law_law_691 : decode code 691 = .ok (.ireturn, 1) := by decide +kernel
theorem d_Law_law_692 : decode code 692 = .ok (.iload 5, 2) := by decide +kernel
theorem d_Law_law_694 : decode code 694 = .ok (.ifCond .ne 15, 3) := by decide +kernel
theorem d_Law_law_697 : decode code 697 = .ok (.aload_n 3, 1) := by decide +kernel
theorem d_Law_law_698 : decode code 698 = .ok (.iconst 0, 1) := by decide +kernel
theorem d_Law_law_699 : decode code 699 = .ok (.laload, 1) := by decide +kernel
theorem d_Law_law_700 : decode code 700 = .ok (.iload 6, 2) := by decide +kernel
theorem d_Law_law_702 : decode code 702 = .ok (.i2l, 1) := by decide +kernel
theorem d_Law_law_703 : decode code 703 = .ok (.lcmp, 1) := by decide +kernel
theorem d_Law_law_704 : decode code 704 = .ok (.ifCond .eq 5, 3) := by decide +kernel
theorem d_Law_law_707 : decode code 707 = .ok (.iconst 0, 1) := by decide +kernel
theorem d_Law_law_708 : decode code 708 = .ok (.ireturn, 1) := by decide +kernel
theorem d_Law_law_709 : decode code 709 = .ok (.goto 215, 3) := by decide +kernel
theorem d_Law_law_712 : decode code 712 = .ok (.aload_n 1, 1) := by decide +kernel
theorem d_Law_law_713 : decode code 713 = .ok (.aload_n 0, 1) := by decide +kernel
theorem d_Law_law_714 : decode code 714 = .ok (.iload 4, 2) := by decide +kernel
theorem d_Law_law_716 : decode code 716 = .ok (.iconst 1, 1) := by decide +kernel
theorem d_Law_law_717 : decode code 717 = .ok (.iadd, 1) := by decide +kernel
theorem d_Law_law_718 : decode code 718 = .ok (.iaload, 1) := by decide +kernel
theorem d_Law_law_719 : decode code 719 = .ok (.aload_n 3, 1) := by decide +kernel
theorem d_Law_law_720 : decode code 720 = .ok (.invokestatic 108, 3) := by decide +kernel
theorem d_Law_law_723 : decode code 723 = .ok (.istore 5, 2) := by decide +kernel
theorem d_Law_law_725 : decode code 725 = .ok (.aload_n 2, 1) := by decide +kernel
theorem d_Law_law_726 : decode code 726 = .ok (.aload_n 0, 1) := by decide +kernel
theorem d_Law_law_727 : decode code 727 = .ok (.iload 4, 2) := by decide +kernel
theorem d_Law_law_729 : decode code 729 = .ok (.iconst 1, 1) := by decide +kernel
theorem d_Law_law_730 : decode code 730 = .ok (.iadd, 1) := by decide +kernel
theorem d_Law_law_731 : decode code 731 = .ok (.iaload, 1) := by decide +kernel
theorem d_Law_law_732 : decode code 732 = .ok (.invokevirtual 110, 3) := by decide +kernel
theorem d_Law_law_735 : decode code 735 = .ok (.istore 6, 2) := by decide +kernel
theorem d_Law_law_737 : decode code 737 = .ok (.aload_n 2, 1) := by decide +kernel
theorem d_Law_law_738 : decode code 738 = .ok (.invokevirtual 73, 3) := by decide +kernel
theorem d_Law_law_741 : decode code 741 = .ok (.iload 5, 2) := by decide +kernel
theorem d_Law_law_743 : decode code 743 = .ok (.if_icmp .eq 5, 3) := by decide +kernel
theorem d_Law_law_746 : decode code 746 = .ok (.iconst 0, 1) := by decide +kernel
theorem d_Law_law_747 : decode code 747 = .ok (.ireturn, 1) := by decide +kernel
theorem d_Law_law_748 : decode code 748 = .ok (.iload 5, 2) := by decide +kernel
theorem d_Law_law_750 : decode code 750 = .ok (.ifCond .ne 15, 3) := by decide +kernel
theorem d_Law_law_753 : decode code 753 = .ok (.aload_n 3, 1) := by decide +kernel
theorem d_Law_law_754 : decode code 754 = .ok (.iconst 0, 1) := by decide +kernel
theorem d_Law_law_755 : decode code 755 = .ok (.laload, 1) := by decide +kernel
theorem d_Law_law_756 : decode code 756 = .ok (.iload 6, 2) := by decide +kernel
theorem d_Law_law_758 : decode code 758 = .ok (.i2l, 1) := by decide +kernel
theorem d_Law_law_759 : decode code 759 = .ok (.lcmp, 1) := by decide +kernel
theorem d_Law_law_760 : decode code 760 = .ok (.ifCond .eq 5, 3) := by decide +kernel
theorem d_Law_law_763 : decode code 763 = .ok (.iconst 0, 1) := by decide +kernel
theorem d_Law_law_764 : decode code 764 = .ok (.ireturn, 1) := by decide +kernel
theorem d_Law_law_765 : decode code 765 = .ok (.goto 159, 3) := by decide +kernel
theorem d_Law_law_768 : decode code 768 = .ok (.aload_n 1, 1) := by decide +kernel
theorem d_Law_law_769 : decode code 769 = .ok (.aload_n 0, 1) := by decide +kernel
theorem d_Law_law_770 : decode code 770 = .ok (.iload 4, 2) := by decide +kernel
theorem d_Law_law_772 : decode code 772 = .ok (.iconst 1, 1) := by decide +kernel
theorem d_Law_law_773 : decode code 773 = .ok (.iadd, 1) := by decide +kernel
theorem d_Law_law_774 : decode code 774 = .ok (.iaload, 1) := by decide +kernel
theorem d_Law_law_775 : decode code 775 = .ok (.aload_n 3, 1) := by decide +kernel
theorem d_Law_law_776 : decode code 776 = .ok (.invokestatic 111, 3) := by decide +kernel
theorem d_Law_law_779 : decode code 779 = .ok (.istore 5, 2) := by decide +kernel
theorem d_Law_law_781 : decode code 781 = .ok (.aload_n 2, 1) := by decide +kernel
theorem d_Law_law_782 : decode code 782 = .ok (.aload_n 0, 1) := by decide +kernel
theorem d_Law_law_783 : decode code 783 = .ok (.iload 4, 2) := by decide +kernel
theorem d_Law_law_785 : decode code 785 = .ok (.iconst 1, 1) := by decide +kernel
theorem d_Law_law_786 : decode code 786 = .ok (.iadd, 1) := by decide +kernel
theorem d_Law_law_787 : decode code 787 = .ok (.iaload, 1) := by decide +kernel
theorem d_Law_law_788 : decode code 788 = .ok (.invokevirtual 113, 3) := by decide +kernel
theorem d_Law_law_791 : decode code 791 = .ok (.istore 6, 2) := by decide +kernel
theorem d_Law_law_793 : decode code 793 = .ok (.aload_n 2, 1) := by decide +kernel
theorem d_Law_law_794 : decode code 794 = .ok (.invokevirtual 73, 3) := by decide +kernel
theorem d_Law_law_797 : decode code 797 = .ok (.iload 5, 2) := by decide +kernel
theorem d_Law_law_799 : decode code 799 = .ok (.if_icmp .eq 5, 3) := by decide +kernel
theorem d_Law_law_802 : decode code 802 = .ok (.iconst 0, 1) := by decide +kernel
theorem d_Law_law_803 : decode code 803 = .ok (.ireturn, 1) := by decide +kernel
theorem d_Law_law_804 : decode code 804 = .ok (.iload 5, 2) := by decide +kernel
theorem d_Law_law_806 : decode code 806 = .ok (.ifCond .ne 15, 3) := by decide +kernel
theorem d_Law_law_809 : decode code 809 = .ok (.aload_n 3, 1) := by decide +kernel
theorem d_Law_law_810 : decode code 810 = .ok (.iconst 0, 1) := by decide +kernel
theorem d_Law_law_811 : decode code 811 = .ok (.laload, 1) := by decide +kernel
theorem d_Law_law_812 : decode code 812 = .ok (.iload 6, 2) := by decide +kernel
theorem d_Law_law_814 : decode code 814 = .ok (.i2l, 1) := by decide +kernel
theorem d_Law_law_815 : decode code 815 = .ok (.lcmp, 1) := by decide +kernel
theorem d_Law_law_816 : decode code 816 = .ok (.ifCond .eq 5, 3) := by decide +kernel
theorem d_Law_law_819 : decode code 819 = .ok (.iconst 0, 1) := by decide +kernel
theorem d_Law_law_820 : decode code 820 = .ok (.ireturn, 1) := by decide +kernel
theorem d_Law_law_821 : decode code 821 = .ok (.goto 103, 3) := by decide +kernel
theorem d_Law_law_824 : decode code 824 = .ok (.aload_n 1, 1) := by decide +kernel
theorem d_Law_law_825 : decode code 825 = .ok (.aload_n 0, 1) := by decide +kernel
theorem d_Law_law_826 : decode code 826 = .ok (.iload 4, 2) := by decide +kernel
theorem d_Law_law_828 : decode code 828 = .ok (.iconst 1, 1) := by decide +kernel
theorem d_Law_law_829 : decode code 829 = .ok (.iadd, 1) := by decide +kernel
theorem d_Law_law_830 : decode code 830 = .ok (.iaload, 1) := by decide +kernel
theorem d_Law_law_831 : decode code 831 = .ok (.aload_n 3, 1) := by decide +kernel
theorem d_Law_law_832 : decode code 832 = .ok (.invokestatic 114, 3) := by decide +kernel
theorem d_Law_law_835 : decode code 835 = .ok (.istore 5, 2) := by decide +kernel
theorem d_Law_law_837 : decode code 837 = .ok (.aload_n 2, 1) := by decide +kernel
theorem d_Law_law_838 : decode code 838 = .ok (.aload_n 0, 1) := by decide +kernel
theorem d_Law_law_839 : decode code 839 = .ok (.iload 4, 2) := by decide +kernel
theorem d_Law_law_841 : decode code 841 = .ok (.iconst 1, 1) := by decide +kernel
theorem d_Law_law_842 : decode code 842 = .ok (.iadd, 1) := by decide +kernel
theorem d_Law_law_843 : decode code 843 = .ok (.iaload, 1) := by decide +kernel
theorem d_Law_law_844 : decode code 844 = .ok (.invokevirtual 116, 3) := by decide +kernel
theorem d_Law_law_847 : decode code 847 = .ok (.istore 6, 2) := by decide +kernel
theorem d_Law_law_849 : decode code 849 = .ok (.aload_n 2, 1) := by decide +kernel
theorem d_Law_law_850 : decode code 850 = .ok (.invokevirtual 73, 3) := by decide +kernel
theorem d_Law_law_853 : decode code 853 = .ok (.iload 5, 2) := by decide +kernel
theorem d_Law_law_855 : decode code 855 = .ok (.if_icmp .eq 5, 3) := by decide +kernel
theorem d_Law_law_858 : decode code 858 = .ok (.iconst 0, 1) := by decide +kernel
theorem d_Law_law_859 : decode code 859 = .ok (.ireturn, 1) := by decide +kernel
theorem d_Law_law_860 : decode code 860 = .ok (.iload 5, 2) := by decide +kernel
theorem d_Law_law_862 : decode code 862 = .ok (.ifCond .ne 15, 3) := by decide +kernel
theorem d_Law_law_865 : decode code 865 = .ok (.aload_n 3, 1) := by decide +kernel
theorem d_Law_law_866 : decode code 866 = .ok (.iconst 0, 1) := by decide +kernel
theorem d_Law_law_867 : decode code 867 = .ok (.laload, 1) := by decide +kernel
theorem d_Law_law_868 : decode code 868 = .ok (.iload 6, 2) := by decide +kernel
theorem d_Law_law_870 : decode code 870 = .ok (.i2l, 1) := by decide +kernel
theorem d_Law_law_871 : decode code 871 = .ok (.lcmp, 1) := by decide +kernel
theorem d_Law_law_872 : decode code 872 = .ok (.ifCond .eq 5, 3) := by decide +kernel
theorem d_Law_law_875 : decode code 875 = .ok (.iconst 0, 1) := by decide +kernel
theorem d_Law_law_876 : decode code 876 = .ok (.ireturn, 1) := by decide +kernel
theorem d_Law_law_877 : decode code 877 = .ok (.goto 47, 3) := by decide +kernel
theorem d_Law_law_880 : decode code 880 = .ok (.aload_n 1, 1) := by decide +kernel
theorem d_Law_law_881 : decode code 881 = .ok (.aload_n 3, 1) := by decide +kernel
theorem d_Law_law_882 : decode code 882 = .ok (.invokestatic 117, 3) := by decide +kernel
theorem d_Law_law_885 : decode code 885 = .ok (.istore 5, 2) := by decide +kernel
theorem d_Law_law_887 : decode code 887 = .ok (.aload_n 2, 1) := by decide +kernel
theorem d_Law_law_888 : decode code 888 = .ok (.invokevirtual 119, 3) := by decide +kernel
theorem d_Law_law_891 : decode code 891 = .ok (.istore 6, 2) := by decide +kernel
theorem d_Law_law_893 : decode code 893 = .ok (.aload_n 2, 1) := by decide +kernel
theorem d_Law_law_894 : decode code 894 = .ok (.invokevirtual 73, 3) := by decide +kernel
theorem d_Law_law_897 : decode code 897 = .ok (.iload 5, 2) := by decide +kernel
theorem d_Law_law_899 : decode code 899 = .ok (.if_icmp .eq 5, 3) := by decide +kernel
theorem d_Law_law_902 : decode code 902 = .ok (.iconst 0, 1) := by decide +kernel
theorem d_Law_law_903 : decode code 903 = .ok (.ireturn, 1) := by decide +kernel
theorem d_Law_law_904 : decode code 904 = .ok (.iload 5, 2) := by decide +kernel
theorem d_Law_law_906 : decode code 906 = .ok (.ifCond .ne 15, 3) := by decide +kernel
theorem d_Law_law_909 : decode code 909 = .ok (.aload_n 3, 1) := by decide +kernel
theorem d_Law_law_910 : decode code 910 = .ok (.iconst 0, 1) := by decide +kernel
theorem d_Law_law_911 : decode code 911 = .ok (.laload, 1) := by decide +kernel
theorem d_Law_law_912 : decode code 912 = .ok (.iload 6, 2) := by decide +kernel
theorem d_Law_law_914 : decode code 914 = .ok (.i2l, 1) := by decide +kernel
theorem d_Law_law_915 : decode code 915 = .ok (.lcmp, 1) := by decide +kernel
theorem d_Law_law_916 : decode code 916 = .ok (.ifCond .eq 5, 3) := by decide +kernel
theorem d_Law_law_919 : decode code 919 = .ok (.iconst 0, 1) := by decide +kernel
theorem d_Law_law_920 : decode code 920 = .ok (.ireturn, 1) := by decide +kernel
theorem d_Law_law_921 : decode code 921 = .ok (.goto 3, 3) := by decide +kernel
theorem d_Law_law_924 : decode code 924 = .ok (.iinc 4 6, 3) := by decide +kernel
theorem d_Law_law_927 : decode code 927 = .ok (.goto (-904), 3) := by decide +kernel
theorem d_Law_law_930 : decode code 930 = .ok (.iconst 1, 1) := by decide +kernel
theorem d_Law_law_931 : decode code 931 = .ok (.ireturn, 1) := by decide +kernel
