theorem d_Mo_character_151 : decode prog_11_method_15_code 151 = .ok (.iand, 1) := by decide +kernel
theorem d_Mo_character_152 : decode prog_11_method_15_code 152 = .ok (.istore 7, 2) := by decide +kernel
theorem d_Mo_character_154 : decode prog_11_method_15_code 154 = .ok (.iload 7, 2) := by decide +kernel
theorem d_Mo_character_156 : decode prog_11_method_15_code 156 = .ok (.sipush 128, 3) := by decide +kernel
theorem d_Mo_character_159 : decode prog_11_method_15_code 159 = .ok (.if_icmp .lt 11, 3) := by decide +kernel
theorem d_Mo_character_162 : decode prog_11_method_15_code 162 = .ok (.iload 7, 2) := by decide +kernel
theorem d_Mo_character_164 : decode prog_11_method_15_code 164 = .ok (.sipush 191, 3) := by decide +kernel
theorem d_Mo_character_167 : decode prog_11_method_15_code 167 = .ok (.if_icmp .le 5, 3) := by decide +kernel
theorem d_Mo_character_170 : decode prog_11_method_15_code 170 = .ok (.iconst (-1), 1) := by decide +kernel
theorem d_Mo_character_171 : decode prog_11_method_15_code 171 = .ok (.ireturn, 1) := by decide +kernel
theorem d_Mo_character_172 : decode prog_11_method_15_code 172 = .ok (.bipush 64, 2) := by decide +kernel
theorem d_Mo_character_174 : decode prog_11_method_15_code 174 = .ok (.iload 5, 2) := by decide +kernel
theorem d_Mo_character_176 : decode prog_11_method_15_code 176 = .ok (.imul, 1) := by decide +kernel
theorem d_Mo_character_177 : decode prog_11_method_15_code 177 = .ok (.iload 7, 2) := by decide +kernel
theorem d_Mo_character_179 : decode prog_11_method_15_code 179 = .ok (.iadd, 1) := by decide +kernel
theorem d_Mo_character_180 : decode prog_11_method_15_code 180 = .ok (.sipush 128, 3) := by decide +kernel
theorem d_Mo_character_183 : decode prog_11_method_15_code 183 = .ok (.isub, 1) := by decide +kernel
theorem d_Mo_character_184 : decode prog_11_method_15_code 184 = .ok (.istore 5, 2) := by decide +kernel
theorem d_Mo_character_186 : decode prog_11_method_15_code 186 = .ok (.iinc 6 1, 3) := by decide +kernel
theorem d_Mo_character_189 : decode prog_11_method_15_code 189 = .ok (.goto (-57), 3) := by decide +kernel
theorem d_Mo_character_192 : decode prog_11_method_15_code 192 = .ok (.iload 5, 2) := by decide +kernel
theorem d_Mo_character_194 : decode prog_11_method_15_code 194 = .ok (.invokestatic 86, 3) := by decide +kernel
theorem d_Mo_character_197 : decode prog_11_method_15_code 197 = .ok (.ifCond .eq 18, 3) := by decide +kernel
theorem d_Mo_character_200 : decode prog_11_method_15_code 200 = .ok (.iload 5, 2) := by decide +kernel
theorem d_Mo_character_202 : decode prog_11_method_15_code 202 = .ok (.invokestatic 89, 3) := by decide +kernel
theorem d_Mo_character_205 : decode prog_11_method_15_code 205 = .ok (.iload 4, 2) := by decide +kernel
theorem d_Mo_character_207 : decode prog_11_method_15_code 207 = .ok (.if_icmp .ne 8, 3) := by decide +kernel
theorem d_Mo_character_210 : decode prog_11_method_15_code 210 = .ok (.iload 5, 2) := by decide +kernel
theorem d_Mo_character_212 : decode prog_11_method_15_code 212 = .ok (.goto 4, 3) := by decide +kernel
theorem d_Mo_character_215 : decode prog_11_method_15_code 215 = .ok (.iconst (-1), 1) := by decide +kernel
theorem d_Mo_character_216 : decode prog_11_method_15_code 216 = .ok (.ireturn, 1) := by decide +kernel
theorem d_Mo_text0_0 : decode prog_11_method_16_code 0 = .ok (.aload_n 0, 1) := by decide +kernel
theorem d_Mo_text0_1 : decode prog_11_method_16_code 1 = .ok (.getfield 30, 3) := by decide +kernel
theorem d_Mo_text0_4 : decode prog_11_method_16_code 4 = .ok (.istore_n 1, 1) := by decide +kernel
theorem d_Mo_text0_5 : decode prog_11_method_16_code 5 = .ok (.iconst 0, 1) := by decide +kernel
theorem d_Mo_text0_6 : decode prog_11_method_16_code 6 = .ok (.istore_n 2, 1) := by decide +kernel
theorem d_Mo_text0_7 : decode prog_11_method_16_code 7 = .ok (.iconst 0, 1) := by decide +kernel
theorem d_Mo_text0_8 : decode prog_11_method_16_code 8 = .ok (.istore_n 3, 1) := by decide +kernel
theorem d_Mo_text0_9 : decode prog_11_method_16_code 9 = .ok (.aload_n 0, 1) := by decide +kernel
theorem d_Mo_text0_10 : decode prog_11_method_16_code 10 = .ok (.iconst 0, 1) := by decide +kernel
theorem d_Mo_text0_11 : decode prog_11_method_16_code 11 = .ok (.putfield 30, 3) := by decide +kernel
theorem d_Mo_text0_14 : decode prog_11_method_16_code 14 = .ok (.iload_n 2, 1) := by decide +kernel
theorem d_Mo_text0_15 : decode prog_11_method_16_code 15 = .ok (.iload_n 1, 1) := by decide +kernel
theorem d_Mo_text0_16 : decode prog_11_method_16_code 16 = .ok (.if_icmp .ge 46, 3) := by decide +kernel
theorem d_Mo_text0_19 : decode prog_11_method_16_code 19 = .ok (.aload_n 0, 1) := by decide +kernel
theorem d_Mo_text0_20 : decode prog_11_method_16_code 20 = .ok (.iload_n 2, 1) := by decide +kernel
theorem d_Mo_text0_21 : decode prog_11_method_16_code 21 = .ok (.iload_n 1, 1) := by decide +kernel
theorem d_Mo_text0_22 : decode prog_11_method_16_code 22 = .ok (.invokevirtual 92, 3) := by decide +kernel
theorem d_Mo_text0_25 : decode prog_11_method_16_code 25 = .ok (.istore 4, 2) := by decide +kernel
theorem d_Mo_text0_27 : decode prog_11_method_16_code 27 = .ok (.iload 4, 2) := by decide +kernel
theorem d_Mo_text0_29 : decode prog_11_method_16_code 29 = .ok (.ifCond .ge 11, 3) := by decide +kernel
theorem d_Mo_text0_32 : decode prog_11_method_16_code 32 = .ok (.new 37, 3) := by decide +kernel
theorem d_Mo_text0_35 : decode prog_11_method_16_code 35 = .ok (.dup, 1) := by decide +kernel
theorem d_Mo_text0_36 : decode prog_11_method_16_code 36 = .ok (.invokespecial 39, 3) := by decide +kernel
theorem d_Mo_text0_39 : decode prog_11_method_16_code 39 = .ok (.athrow, 1) := by decide +kernel
theorem d_Mo_text0_40 : decode prog_11_method_16_code 40 = .ok (.aload_n 0, 1) := by decide +kernel
theorem d_Mo_text0_41 : decode prog_11_method_16_code 41 = .ok (.getfield 27, 3) := by decide +kernel
theorem d_Mo_text0_44 : decode prog_11_method_16_code 44 = .ok (.iload_n 3, 1) := by decide +kernel
theorem d_Mo_text0_45 : decode prog_11_method_16_code 45 = .ok (.iload 4, 2) := by decide +kernel
theorem d_Mo_text0_47 : decode prog_11_method_16_code 47 = .ok (.iastore, 1) := by decide +kernel
theorem d_Mo_text0_48 : decode prog_11_method_16_code 48 = .ok (.iinc 3 1, 3) := by decide +kernel
theorem d_Mo_text0_51 : decode prog_11_method_16_code 51 = .ok (.iload_n 2, 1) := by decide +kernel
theorem d_Mo_text0_52 : decode prog_11_method_16_code 52 = .ok (.iload 4, 2) := by decide +kernel
theorem d_Mo_text0_54 : decode prog_11_method_16_code 54 = .ok (.invokestatic 89, 3) := by decide +kernel
theorem d_Mo_text0_57 : decode prog_11_method_16_code 57 = .ok (.iadd, 1) := by decide +kernel
theorem d_Mo_text0_58 : decode prog_11_method_16_code 58 = .ok (.istore_n 2, 1) := by decide +kernel
theorem d_Mo_text0_59 : decode prog_11_method_16_code 59 = .ok (.goto (-45), 3) := by decide +kernel
theorem d_Mo_text0_62 : decode prog_11_method_16_code 62 = .ok (.aload_n 0, 1) := by decide +kernel
theorem d_Mo_text0_63 : decode prog_11_method_16_code 63 = .ok (.getfield 27, 3) := by decide +kernel
theorem d_Mo_text0_66 : decode prog_11_method_16_code 66 = .ok (.iconst 0, 1) := by decide +kernel
theorem d_Mo_text0_67 : decode prog_11_method_16_code 67 = .ok (.aload_n 0, 1) := by decide +kernel
theorem d_Mo_text0_68 : decode prog_11_method_16_code 68 = .ok (.getfield 20, 3) := by decide +kernel
theorem d_Mo_text0_71 : decode prog_11_method_16_code 71 = .ok (.iconst 0, 1) := by decide +kernel
theorem d_Mo_text0_72 : decode prog_11_method_16_code 72 = .ok (.iload_n 3, 1) := by decide +kernel
theorem d_Mo_text0_73 : decode prog_11_method_16_code 73 = .ok (.invokestatic 47, 3) := by decide +kernel
theorem d_Mo_text0_76 : decode prog_11_method_16_code 76 = .ok (.aload_n 0, 1) := by decide +kernel
theorem d_Mo_text0_77 : decode prog_11_method_16_code 77 = .ok (.iload_n 3, 1) := by decide +kernel
theorem d_Mo_text0_78 : decode prog_11_method_16_code 78 = .ok (.putfield 95, 3) := by decide +kernel
theorem d_Mo_text0_81 : decode prog_11_method_16_code 81 = .ok (.iload_n 3, 1) := by decide +kernel
theorem d_Mo_text0_82 : decode prog_11_method_16_code 82 = .ok (.ireturn, 1) := by decide +kernel
theorem d_Mo_code0_0 : decode prog_11_method_17_code 0 = .ok (.iload_n 1, 1) := by decide +kernel
theorem d_Mo_code0_1 : decode prog_11_method_17_code 1 = .ok (.ifCond .lt 11, 3) := by decide +kernel
theorem d_Mo_code0_4 : decode prog_11_method_17_code 4 = .ok (.iload_n 1, 1) := by decide +kernel
theorem d_Mo_code0_5 : decode prog_11_method_17_code 5 = .ok (.aload_n 0, 1) := by decide +kernel
theorem d_Mo_code0_6 : decode prog_11_method_17_code 6 = .ok (.getfield 95, 3) := by decide +kernel
theorem d_Mo_code0_9 : decode prog_11_method_17_code 9 = .ok (.if_icmp .lt 11, 3) := by decide +kernel
theorem d_Mo_code0_12 : decode prog_11_method_17_code 12 = .ok (.new 98, 3) := by decide +kernel
theorem d_Mo_code0_15 : decode prog_11_method_17_code 15 = .ok (.dup, 1) := by decide +kernel
theorem d_Mo_code0_16 : decode prog_11_method_17_code 16 = .ok (.invokespecial 100, 3) := by decide +kernel
theorem d_Mo_code0_19 : decode prog_11_method_17_code 19 = .ok (.athrow, 1) := by decide +kernel
theorem d_Mo_code0_20 : decode prog_11_method_17_code 20 = .ok (.aload_n 0, 1) := by decide +kernel
theorem d_Mo_code0_21 : decode prog_11_method_17_code 21 = .ok (.getfield 20, 3) := by decide +kernel
theorem d_Mo_code0_24 : decode prog_11_method_17_code 24 = .ok (.iload_n 1, 1) := by decide +kernel
theorem d_Mo_code0_25 : decode prog_11_method_17_code 25 = .ok (.iaload, 1) := by decide +kernel
theorem d_Mo_code0_26 : decode prog_11_method_17_code 26 = .ok (.ireturn, 1) := by decide +kernel
theorem d_Mo_room_0 : decode prog_11_method_18_code 0 = .ok (.aload_n 0, 1) := by decide +kernel
theorem d_Mo_room_1 : decode prog_11_method_18_code 1 = .ok (.getfield 53, 3) := by decide +kernel
theorem d_Mo_room_4 : decode prog_11_method_18_code 4 = .ok (.iload_n 1, 1) := by decide +kernel
theorem d_Mo_room_5 : decode prog_11_method_18_code 5 = .ok (.iadd, 1) := by decide +kernel
theorem d_Mo_room_6 : decode prog_11_method_18_code 6 = .ok (.ldc 9, 2) := by decide +kernel
theorem d_Mo_room_8 : decode prog_11_method_18_code 8 = .ok (.if_icmp .le 11, 3) := by decide +kernel
theorem d_Mo_room_11 : decode prog_11_method_18_code 11 = .ok (.new 34, 3) := by decide +kernel
theorem d_Mo_room_14 : decode prog_11_method_18_code 14 = .ok (.dup, 1) := by decide +kernel
theorem d_Mo_room_15 : decode prog_11_method_18_code 15 = .ok (.invokespecial 36, 3) := by decide +kernel
theorem d_Mo_room_18 : decode prog_11_method_18_code 18 = .ok (.athrow, 1) := by decide +kernel
theorem d_Mo_room_19 : decode prog_11_method_18_code 19 = .ok (.return_, 1) := by decide +kernel
theorem d_Mo_letter0_0 : decode prog_11_method_19_code 0 = .ok (.iload_n 1, 1) := by decide +kernel
theorem d_Mo_letter0_1 : decode prog_11_method_19_code 1 = .ok (.invokestatic 86, 3) := by decide +kernel
theorem d_Mo_letter0_4 : decode prog_11_method_19_code 4 = .ok (.ifCond .ne 11, 3) := by decide +kernel
theorem d_Mo_letter0_7 : decode prog_11_method_19_code 7 = .ok (.new 37, 3) := by decide +kernel
theorem d_Mo_letter0_10 : decode prog_11_method_19_code 10 = .ok (.dup, 1) := by decide +kernel
theorem d_Mo_letter0_11 : decode prog_11_method_19_code 11 = .ok (.invokespecial 39, 3) := by decide +kernel
theorem d_Mo_letter0_14 : decode prog_11_method_19_code 14 = .ok (.athrow, 1) := by decide +kernel
theorem d_Mo_letter0_15 : decode prog_11_method_19_code 15 = .ok (.iload_n 1, 1) := by decide +kernel
theorem d_Mo_letter0_16 : decode prog_11_method_19_code 16 = .ok (.invokestatic 89, 3) := by decide +kernel
theorem d_Mo_letter0_19 : decode prog_11_method_19_code 19 = .ok (.istore_n 2, 1) := by decide +kernel
theorem d_Mo_letter0_20 : decode prog_11_method_19_code 20 = .ok (.aload_n 0, 1) := by decide +kernel
theorem d_Mo_letter0_21 : decode prog_11_method_19_code 21 = .ok (.iload_n 2, 1) := by decide +kernel
theorem d_Mo_letter0_22 : decode prog_11_method_19_code 22 = .ok (.invokevirtual 101, 3) := by decide +kernel
theorem d_Mo_letter0_25 : decode prog_11_method_19_code 25 = .ok (.iload_n 2, 1) := by decide +kernel
theorem d_Mo_letter0_26 : decode prog_11_method_19_code 26 = .ok (.iconst 1, 1) := by decide +kernel
theorem d_Mo_letter0_27 : decode prog_11_method_19_code 27 = .ok (.if_icmp .ne 7, 3) := by decide +kernel
theorem d_Mo_letter0_30 : decode prog_11_method_19_code 30 = .ok (.iconst 0, 1) := by decide +kernel
theorem d_Mo_letter0_31 : decode prog_11_method_19_code 31 = .ok (.goto 28, 3) := by decide +kernel
theorem d_Mo_letter0_34 : decode prog_11_method_19_code 34 = .ok (.iload_n 2, 1) := by decide +kernel
theorem d_Mo_letter0_35 : decode prog_11_method_19_code 35 = .ok (.iconst 2, 1) := by decide +kernel
theorem d_Mo_letter0_36 : decode prog_11_method_19_code 36 = .ok (.if_icmp .ne 9, 3) := by decide +kernel
theorem d_Mo_letter0_39 : decode prog_11_method_19_code 39 = .ok (.sipush 192, 3) := by decide +kernel
theorem d_Mo_letter0_42 : decode prog_11_method_19_code 42 = .ok (.goto 17, 3) := by decide +kernel
theorem d_Mo_letter0_45 : decode prog_11_method_19_code 45 = .ok (.iload_n 2, 1) := by decide +kernel
theorem d_Mo_letter0_46 : decode prog_11_method_19_code 46 = .ok (.iconst 3, 1) := by decide +kernel
theorem d_Mo_letter0_47 : decode prog_11_method_19_code 47 = .ok (.if_icmp .ne 9, 3) := by decide +kernel
theorem d_Mo_letter0_50 : decode prog_11_method_19_code 50 = .ok (.sipush 224, 3) := by decide +kernel
theorem d_Mo_letter0_53 : decode prog_11_method_19_code 53 = .ok (.goto 6, 3) := by decide +kernel
theorem d_Mo_letter0_56 : decode prog_11_method_19_code 56 = .ok (.sipush 240, 3) := by decide +kernel
theorem d_Mo_letter0_59 : decode prog_11_method_19_code 59 = .ok (.istore_n 3, 1) := by decide +kernel
theorem d_Mo_letter0_60 : decode prog_11_method_19_code 60 = .ok (.iconst 0, 1) := by decide +kernel
theorem d_Mo_letter0_61 : decode prog_11_method_19_code 61 = .ok (.istore 4, 2) := by decide +kernel
theorem d_Mo_letter0_63 : decode prog_11_method_19_code 63 = .ok (.iload 4, 2) := by decide +kernel
theorem d_Mo_letter0_65 : decode prog_11_method_19_code 65 = .ok (.iload_n 2, 1) := by decide +kernel
theorem d_Mo_letter0_66 : decode prog_11_method_19_code 66 = .ok (.if_icmp .ge 56, 3) := by decide +kernel
theorem d_Mo_letter0_69 : decode prog_11_method_19_code 69 = .ok (.iload_n 1, 1) := by decide +kernel
theorem d_Mo_letter0_70 : decode prog_11_method_19_code 70 = .ok (.bipush 6, 2) := by decide +kernel
theorem d_Mo_letter0_72 : decode prog_11_method_19_code 72 = .ok (.iload_n 2, 1) := by decide +kernel
theorem d_Mo_letter0_73 : decode prog_11_method_19_code 73 = .ok (.iconst 1, 1) := by decide +kernel
theorem d_Mo_letter0_74 : decode prog_11_method_19_code 74 = .ok (.isub, 1) := by decide +kernel
theorem d_Mo_letter0_75 : decode prog_11_method_19_code 75 = .ok (.iload 4, 2) := by decide +kernel
theorem d_Mo_letter0_77 : decode prog_11_method_19_code 77 = .ok (.isub, 1) := by decide +kernel
theorem d_Mo_letter0_78 : decode prog_11_method_19_code 78 = .ok (.imul, 1) := by decide +kernel
theorem d_Mo_letter0_79 : decode prog_11_method_19_code 79 = .ok (.ishr, 1) := by decide +kernel
theorem d_Mo_letter0_80 : decode prog_11_method_19_code 80 = .ok (.istore 5, 2) := by decide +kernel
theorem d_Mo_letter0_82 : decode prog_11_method_19_code 82 = .ok (.aload_n 0, 1) := by decide +kernel
theorem d_Mo_letter0_83 : decode prog_11_method_19_code 83 = .ok (.getfield 14, 3) := by decide +kernel
theorem d_Mo_letter0_86 : decode prog_11_method_19_code 86 = .ok (.aload_n 0, 1) := by decide +kernel
theorem d_Mo_letter0_87 : decode prog_11_method_19_code 87 = .ok (.getfield 53, 3) := by decide +kernel
theorem d_Mo_letter0_90 : decode prog_11_method_19_code 90 = .ok (.iload 4, 2) := by decide +kernel
theorem d_Mo_letter0_92 : decode prog_11_method_19_code 92 = .ok (.iadd, 1) := by decide +kernel
theorem d_Mo_letter0_93 : decode prog_11_method_19_code 93 = .ok (.iload 4, 2) := by decide +kernel
theorem d_Mo_letter0_95 : decode prog_11_method_19_code 95 = .ok (.ifCond .ne 10, 3) := by decide +kernel
theorem d_Mo_letter0_98 : decode prog_11_method_19_code 98 = .ok (.iload_n 3, 1) := by decide +kernel
theorem d_Mo_letter0_99 : decode prog_11_method_19_code 99 = .ok (.iload 5, 2) := by decide +kernel
theorem d_Mo_letter0_101 : decode prog_11_method_19_code 101 = .ok (.iadd, 1) := by decide +kernel
theorem d_Mo_letter0_102 : decode prog_11_method_19_code 102 = .ok (.goto 12, 3) := by decide +kernel
theorem d_Mo_letter0_105 : decode prog_11_method_19_code 105 = .ok (.sipush 128, 3) := by decide +kernel
theorem d_Mo_letter0_108 : decode prog_11_method_19_code 108 = .ok (.iload 5, 2) := by decide +kernel
theorem d_Mo_letter0_110 : decode prog_11_method_19_code 110 = .ok (.bipush 64, 2) := by decide +kernel
theorem d_Mo_letter0_112 : decode prog_11_method_19_code 112 = .ok (.irem, 1) := by decide +kernel
theorem d_Mo_letter0_113 : decode prog_11_method_19_code 113 = .ok (.iadd, 1) := by decide +kernel
theorem d_Mo_letter0_114 : decode prog_11_method_19_code 114 = .ok (.i2b, 1) := by decide +kernel
theorem d_Mo_letter0_115 : decode prog_11_method_19_code 115 = .ok (.bastore, 1) := by decide +kernel
theorem d_Mo_letter0_116 : decode prog_11_method_19_code 116 = .ok (.iinc 4 1, 3) := by decide +kernel
theorem d_Mo_letter0_119 : decode prog_11_method_19_code 119 = .ok (.goto (-56), 3) := by decide +kernel
theorem d_Mo_letter0_122 : decode prog_11_method_19_code 122 = .ok (.aload_n 0, 1) := by decide +kernel
theorem d_Mo_letter0_123 : decode prog_11_method_19_code 123 = .ok (.dup, 1) := by decide +kernel
theorem d_Mo_letter0_124 : decode prog_11_method_19_code 124 = .ok (.getfield 53, 3) := by decide +kernel
theorem d_Mo_letter0_127 : decode prog_11_method_19_code 127 = .ok (.iload_n 2, 1) := by decide +kernel
theorem d_Mo_letter0_128 : decode prog_11_method_19_code 128 = .ok (.iadd, 1) := by decide +kernel
theorem d_Mo_letter0_129 : decode prog_11_method_19_code 129 = .ok (.putfield 53, 3) := by decide +kernel
theorem d_Mo_letter0_132 : decode prog_11_method_19_code 132 = .ok (.iload_n 2, 1) := by decide +kernel
theorem d_Mo_letter0_133 : decode prog_11_method_19_code 133 = .ok (.ireturn, 1) := by decide +kernel
theorem d_Mo_varint0_0 : decode prog_11_method_20_code 0 = .ok (.iload_n 1, 1) := by decide +kernel
theorem d_Mo_varint0_1 : decode prog_11_method_20_code 1 = .ok (.ifCond .ge 11, 3) := by decide +kernel
theorem d_Mo_varint0_4 : decode prog_11_method_20_code 4 = .ok (.new 37, 3) := by decide +kernel
theorem d_Mo_varint0_7 : decode prog_11_method_20_code 7 = .ok (.dup, 1) := by decide +kernel
theorem d_Mo_varint0_8 : decode prog_11_method_20_code 8 = .ok (.invokespecial 39, 3) := by decide +kernel
theorem d_Mo_varint0_11 : decode prog_11_method_20_code 11 = .ok (.athrow, 1) := by decide +kernel
theorem d_Mo_varint0_12 : decode prog_11_method_20_code 12 = .ok (.iconst 1, 1) := by decide +kernel
theorem d_Mo_varint0_13 : decode prog_11_method_20_code 13 = .ok (.istore_n 2, 1) := by decide +kernel
theorem d_Mo_varint0_14 : decode prog_11_method_20_code 14 = .ok (.iload_n 2, 1) := by decide +kernel
theorem d_Mo_varint0_15 : decode prog_11_method_20_code 15 = .ok (.iconst 5, 1) := by decide +kernel
theorem d_Mo_varint0_16 : decode prog_11_method_20_code 16 = .ok (.if_icmp .ge 18, 3) := by decide +kernel
theorem d_Mo_varint0_19 : decode prog_11_method_20_code 19 = .ok (.iload_n 1, 1) := by decide +kernel
theorem d_Mo_varint0_20 : decode prog_11_method_20_code 20 = .ok (.bipush 7, 2) := by decide +kernel
theorem d_Mo_varint0_22 : decode prog_11_method_20_code 22 = .ok (.iload_n 2, 1) := by decide +kernel
theorem d_Mo_varint0_23 : decode prog_11_method_20_code 23 = .ok (.imul, 1) := by decide +kernel
theorem d_Mo_varint0_24 : decode prog_11_method_20_code 24 = .ok (.ishr, 1) := by decide +kernel
theorem d_Mo_varint0_25 : decode prog_11_method_20_code 25 = .ok (.ifCond .le 9, 3) := by decide +kernel
theorem d_Mo_varint0_28 : decode prog_11_method_20_code 28 = .ok (.iinc 2 1, 3) := by decide +kernel
theorem d_Mo_varint0_31 : decode prog_11_method_20_code 31 = .ok (.goto (-17), 3) := by decide +kernel
theorem d_Mo_varint0_34 : decode prog_11_method_20_code 34 = .ok (.aload_n 0, 1) := by decide +kernel
theorem d_Mo_varint0_35 : decode prog_11_method_20_code 35 = .ok (.iload_n 2, 1) := by decide +kernel
theorem d_Mo_varint0_36 : decode prog_11_method_20_code 36 = .ok (.invokevirtual 101, 3) := by decide +kernel
theorem d_Mo_varint0_39 : decode prog_11_method_20_code 39 = .ok (.iconst 0, 1) := by decide +kernel
theorem d_Mo_varint0_40 : decode prog_11_method_20_code 40 = .ok (.istore_n 3, 1) := by decide +kernel
theorem d_Mo_varint0_41 : decode prog_11_method_20_code 41 = .ok (.iload_n 3, 1) := by decide +kernel
theorem d_Mo_varint0_42 : decode prog_11_method_20_code 42 = .ok (.iload_n 2, 1) := by decide +kernel
theorem d_Mo_varint0_43 : decode prog_11_method_20_code 43 = .ok (.if_icmp .ge 46, 3) := by decide +kernel
theorem d_Mo_varint0_46 : decode prog_11_method_20_code 46 = .ok (.aload_n 0, 1) := by decide +kernel
theorem d_Mo_varint0_47 : decode prog_11_method_20_code 47 = .ok (.getfield 14, 3) := by decide +kernel
theorem d_Mo_varint0_50 : decode prog_11_method_20_code 50 = .ok (.aload_n 0, 1) := by decide +kernel
theorem d_Mo_varint0_51 : decode prog_11_method_20_code 51 = .ok (.getfield 53, 3) := by decide +kernel
theorem d_Mo_varint0_54 : decode prog_11_method_20_code 54 = .ok (.iload_n 3, 1) := by decide +kernel
theorem d_Mo_varint0_55 : decode prog_11_method_20_code 55 = .ok (.iadd, 1) := by decide +kernel
theorem d_Mo_varint0_56 : decode prog_11_method_20_code 56 = .ok (.iload_n 1, 1) := by decide +kernel
theorem d_Mo_varint0_57 : decode prog_11_method_20_code 57 = .ok (.bipush 7, 2) := by decide +kernel
theorem d_Mo_varint0_59 : decode prog_11_method_20_code 59 = .ok (.iload_n 3, 1) := by decide +kernel
theorem d_Mo_varint0_60 : decode prog_11_method_20_code 60 = .ok (.imul, 1) := by decide +kernel
theorem d_Mo_varint0_61 : decode prog_11_method_20_code 61 = .ok (.ishr, 1) := by decide +kernel
theorem d_Mo_varint0_62 : decode prog_11_method_20_code 62 = .ok (.sipush 128, 3) := by decide +kernel
theorem d_Mo_varint0_65 : decode prog_11_method_20_code 65 = .ok (.irem, 1) := by decide +kernel
theorem d_Mo_varint0_66 : decode prog_11_method_20_code 66 = .ok (.iload_n 3, 1) := by decide +kernel
theorem d_Mo_varint0_67 : decode prog_11_method_20_code 67 = .ok (.iload_n 2, 1) := by decide +kernel
theorem d_Mo_varint0_68 : decode prog_11_method_20_code 68 = .ok (.iconst 1, 1) := by decide +kernel
theorem d_Mo_varint0_69 : decode prog_11_method_20_code 69 = .ok (.isub, 1) := by decide +kernel
theorem d_Mo_varint0_70 : decode prog_11_method_20_code 70 = .ok (.if_icmp .ge 9, 3) := by decide +kernel
theorem d_Mo_varint0_73 : decode prog_11_method_20_code 73 = .ok (.sipush 128, 3) := by decide +kernel
theorem d_Mo_varint0_76 : decode prog_11_method_20_code 76 = .ok (.goto 4, 3) := by decide +kernel
theorem d_Mo_varint0_79 : decode prog_11_method_20_code 79 = .ok (.iconst 0, 1) := by decide +kernel
theorem d_Mo_varint0_80 : decode prog_11_method_20_code 80 = .ok (.iadd, 1) := by decide +kernel
theorem d_Mo_varint0_81 : decode prog_11_method_20_code 81 = .ok (.i2b, 1) := by decide +kernel
theorem d_Mo_varint0_82 : decode prog_11_method_20_code 82 = .ok (.bastore, 1) := by decide +kernel
theorem d_Mo_varint0_83 : decode prog_11_method_20_code 83 = .ok (.iinc 3 1, 3) := by decide +kernel
theorem d_Mo_varint0_86 : decode prog_11_method_20_code 86 = .ok (.goto (-45), 3) := by decide +kernel
theorem d_Mo_varint0_89 : decode prog_11_method_20_code 89 = .ok (.aload_n 0, 1) := by decide +kernel
theorem d_Mo_varint0_90 : decode prog_11_method_20_code 90 = .ok (.dup, 1) := by decide +kernel
theorem d_Mo_varint0_91 : decode prog_11_method_20_code 91 = .ok (.getfield 53, 3) := by decide +kernel
theorem d_Mo_varint0_94 : decode prog_11_method_20_code 94 = .ok (.iload_n 2, 1) := by decide +kernel
theorem d_Mo_varint0_95 : decode prog_11_method_20_code 95 = .ok (.iadd, 1) := by decide +kernel
theorem d_Mo_varint0_96 : decode prog_11_method_20_code 96 = .ok (.putfield 53, 3) := by decide +kernel
theorem d_Mo_varint0_99 : decode prog_11_method_20_code 99 = .ok (.iload_n 2, 1) := by decide +kernel
theorem d_Mo_varint0_100 : decode prog_11_method_20_code 100 = .ok (.ireturn, 1) := by decide +kernel
theorem d_Mo_zigzag0_0 : decode prog_11_method_21_code 0 = .ok (.iload_n 1, 1) := by decide +kernel
theorem d_Mo_zigzag0_1 : decode prog_11_method_21_code 1 = .ok (.ldc 105, 2) := by decide +kernel
theorem d_Mo_zigzag0_3 : decode prog_11_method_21_code 3 = .ok (.if_icmp .lt 9, 3) := by decide +kernel
theorem d_Mo_zigzag0_6 : decode prog_11_method_21_code 6 = .ok (.iload_n 1, 1) := by decide +kernel
theorem d_Mo_zigzag0_7 : decode prog_11_method_21_code 7 = .ok (.ldc 106, 2) := by decide +kernel
theorem d_Mo_zigzag0_9 : decode prog_11_method_21_code 9 = .ok (.if_icmp .le 11, 3) := by decide +kernel
theorem d_Mo_zigzag0_12 : decode prog_11_method_21_code 12 = .ok (.new 37, 3) := by decide +kernel
theorem d_Mo_zigzag0_15 : decode prog_11_method_21_code 15 = .ok (.dup, 1) := by decide +kernel
theorem d_Mo_zigzag0_16 : decode prog_11_method_21_code 16 = .ok (.invokespecial 39, 3) := by decide +kernel
theorem d_Mo_zigzag0_19 : decode prog_11_method_21_code 19 = .ok (.athrow, 1) := by decide +kernel
theorem d_Mo_zigzag0_20 : decode prog_11_method_21_code 20 = .ok (.iload_n 1, 1) := by decide +kernel
theorem d_Mo_zigzag0_21 : decode prog_11_method_21_code 21 = .ok (.ifCond .lt 9, 3) := by decide +kernel
theorem d_Mo_zigzag0_24 : decode prog_11_method_21_code 24 = .ok (.iconst 2, 1) := by decide +kernel
theorem d_Mo_zigzag0_25 : decode prog_11_method_21_code 25 = .ok (.iload_n 1, 1) := by decide +kernel
theorem d_Mo_zigzag0_26 : decode prog_11_method_21_code 26 = .ok (.imul, 1) := by decide +kernel
theorem d_Mo_zigzag0_27 : decode prog_11_method_21_code 27 = .ok (.goto 9, 3) := by decide +kernel
theorem d_Mo_zigzag0_30 : decode prog_11_method_21_code 30 = .ok (.bipush (-2), 2) := by decide +kernel
theorem d_Mo_zigzag0_32 : decode prog_11_method_21_code 32 = .ok (.iload_n 1, 1) := by decide +kernel
theorem d_Mo_zigzag0_33 : decode prog_11_method_21_code 33 = .ok (.imul, 1) := by decide +kernel
theorem d_Mo_zigzag0_34 : decode prog_11_method_21_code 34 = .ok (.iconst 1, 1) := by decide +kernel
theorem d_Mo_zigzag0_35 : decode prog_11_method_21_code 35 = .ok (.isub, 1) := by decide +kernel
theorem d_Mo_zigzag0_36 : decode prog_11_method_21_code 36 = .ok (.ireturn, 1) := by decide +kernel
theorem d_Mo_unzigzag0_0 : decode prog_11_method_22_code 0 = .ok (.iload_n 1, 1) := by decide +kernel
theorem d_Mo_unzigzag0_1 : decode prog_11_method_22_code 1 = .ok (.ifCond .ge 11, 3) := by decide +kernel
theorem d_Mo_unzigzag0_4 : decode prog_11_method_22_code 4 = .ok (.new 37, 3) := by decide +kernel
theorem d_Mo_unzigzag0_7 : decode prog_11_method_22_code 7 = .ok (.dup, 1) := by decide +kernel
theorem d_Mo_unzigzag0_8 : decode prog_11_method_22_code 8 = .ok (.invokespecial 39, 3) := by decide +kernel
theorem d_Mo_unzigzag0_11 : decode prog_11_method_22_code 11 = .ok (.athrow, 1) := by decide +kernel
theorem d_Mo_unzigzag0_12 : decode prog_11_method_22_code 12 = .ok (.iload_n 1, 1) := by decide +kernel
theorem d_Mo_unzigzag0_13 : decode prog_11_method_22_code 13 = .ok (.iconst 2, 1) := by decide +kernel
theorem d_Mo_unzigzag0_14 : decode prog_11_method_22_code 14 = .ok (.irem, 1) := by decide +kernel
theorem d_Mo_unzigzag0_15 : decode prog_11_method_22_code 15 = .ok (.ifCond .ne 9, 3) := by decide +kernel
theorem d_Mo_unzigzag0_18 : decode prog_11_method_22_code 18 = .ok (.iload_n 1, 1) := by decide +kernel
theorem d_Mo_unzigzag0_19 : decode prog_11_method_22_code 19 = .ok (.iconst 2, 1) := by decide +kernel
theorem d_Mo_unzigzag0_20 : decode prog_11_method_22_code 20 = .ok (.idiv, 1) := by decide +kernel
theorem d_Mo_unzigzag0_21 : decode prog_11_method_22_code 21 = .ok (.goto 9, 3) := by decide +kernel
theorem d_Mo_unzigzag0_24 : decode prog_11_method_22_code 24 = .ok (.iload_n 1, 1) := by decide +kernel
theorem d_Mo_unzigzag0_25 : decode prog_11_method_22_code 25 = .ok (.iconst 2, 1) := by decide +kernel
theorem d_Mo_unzigzag0_26 : decode prog_11_method_22_code 26 = .ok (.idiv, 1) := by decide +kernel
theorem d_Mo_unzigzag0_27 : decode prog_11_method_22_code 27 = .ok (.ineg, 1) := by decide +kernel
theorem d_Mo_unzigzag0_28 : decode prog_11_method_22_code 28 = .ok (.iconst 1, 1) := by decide +kernel
theorem d_Mo_unzigzag0_29 : decode prog_11_method_22_code 29 = .ok (.isub, 1) := by decide +kernel
theorem d_Mo_unzigzag0_30 : decode prog_11_method_22_code 30 = .ok (.ireturn, 1) := by decide +kernel
theorem d_Mo_numbers0_0 : decode prog_11_method_23_code 0 = .ok (.aload_n 0, 1) := by decide +kernel
theorem d_Mo_numbers0_1 : decode prog_11_method_23_code 1 = .ok (.getfield 30, 3) := by decide +kernel
theorem d_Mo_numbers0_4 : decode prog_11_method_23_code 4 = .ok (.istore_n 1, 1) := by decide +kernel
theorem d_Mo_numbers0_5 : decode prog_11_method_23_code 5 = .ok (.iconst 0, 1) := by decide +kernel
theorem d_Mo_numbers0_6 : decode prog_11_method_23_code 6 = .ok (.istore_n 2, 1) := by decide +kernel
theorem d_Mo_numbers0_7 : decode prog_11_method_23_code 7 = .ok (.aload_n 0, 1) := by decide +kernel
theorem d_Mo_numbers0_8 : decode prog_11_method_23_code 8 = .ok (.iconst 0, 1) := by decide +kernel
theorem d_Mo_numbers0_9 : decode prog_11_method_23_code 9 = .ok (.putfield 30, 3) := by decide +kernel
theorem d_Mo_numbers0_12 : decode prog_11_method_23_code 12 = .ok (.aload_n 0, 1) := by decide +kernel
theorem d_Mo_numbers0_13 : decode prog_11_method_23_code 13 = .ok (.iconst 0, 1) := by decide +kernel
theorem d_Mo_numbers0_14 : decode prog_11_method_23_code 14 = .ok (.putfield 70, 3) := by decide +kernel
theorem d_Mo_numbers0_17 : decode prog_11_method_23_code 17 = .ok (.aload_n 0, 1) := by decide +kernel
theorem d_Mo_numbers0_18 : decode prog_11_method_23_code 18 = .ok (.getfield 70, 3) := by decide +kernel
theorem d_Mo_numbers0_21 : decode prog_11_method_23_code 21 = .ok (.iload_n 1, 1) := by decide +kernel
theorem d_Mo_numbers0_22 : decode prog_11_method_23_code 22 = .ok (.if_icmp .ge 34, 3) := by decide +kernel
theorem d_Mo_numbers0_25 : decode prog_11_method_23_code 25 = .ok (.aload_n 0, 1) := by decide +kernel
theorem d_Mo_numbers0_26 : decode prog_11_method_23_code 26 = .ok (.iload_n 1, 1) := by decide +kernel
theorem d_Mo_numbers0_27 : decode prog_11_method_23_code 27 = .ok (.invokevirtual 75, 3) := by decide +kernel
theorem d_Mo_numbers0_30 : decode prog_11_method_23_code 30 = .ok (.istore_n 3, 1) := by decide +kernel
theorem d_Mo_numbers0_31 : decode prog_11_method_23_code 31 = .ok (.iload_n 3, 1) := by decide +kernel
theorem d_Mo_numbers0_32 : decode prog_11_method_23_code 32 = .ok (.ifCond .ge 11, 3) := by decide +kernel
theorem d_Mo_numbers0_35 : decode prog_11_method_23_code 35 = .ok (.new 37, 3) := by decide +kernel
theorem d_Mo_numbers0_38 : decode prog_11_method_23_code 38 = .ok (.dup, 1) := by decide +kernel
theorem d_Mo_numbers0_39 : decode prog_11_method_23_code 39 = .ok (.invokespecial 39, 3) := by decide +kernel
theorem d_Mo_numbers0_42 : decode prog_11_method_23_code 42 = .ok (.athrow, 1) := by decide +kernel
theorem d_Mo_numbers0_43 : decode prog_11_method_23_code 43 = .ok (.aload_n 0, 1) := by decide +kernel
theorem d_Mo_numbers0_44 : decode prog_11_method_23_code 44 = .ok (.getfield 27, 3) := by decide +kernel
theorem d_Mo_numbers0_47 : decode prog_11_method_23_code 47 = .ok (.iload_n 2, 1) := by decide +kernel
theorem d_Mo_numbers0_48 : decode prog_11_method_23_code 48 = .ok (.iload_n 3, 1) := by decide +kernel
theorem d_Mo_numbers0_49 : decode prog_11_method_23_code 49 = .ok (.iastore, 1) := by decide +kernel
theorem d_Mo_numbers0_50 : decode prog_11_method_23_code 50 = .ok (.iinc 2 1, 3) := by decide +kernel
theorem d_Mo_numbers0_53 : decode prog_11_method_23_code 53 = .ok (.goto (-36), 3) := by decide +kernel
theorem d_Mo_numbers0_56 : decode prog_11_method_23_code 56 = .ok (.aload_n 0, 1) := by decide +kernel
theorem d_Mo_numbers0_57 : decode prog_11_method_23_code 57 = .ok (.getfield 27, 3) := by decide +kernel
theorem d_Mo_numbers0_60 : decode prog_11_method_23_code 60 = .ok (.iconst 0, 1) := by decide +kernel
theorem d_Mo_numbers0_61 : decode prog_11_method_23_code 61 = .ok (.aload_n 0, 1) := by decide +kernel
theorem d_Mo_numbers0_62 : decode prog_11_method_23_code 62 = .ok (.getfield 24, 3) := by decide +kernel
theorem d_Mo_numbers0_65 : decode prog_11_method_23_code 65 = .ok (.iconst 0, 1) := by decide +kernel
theorem d_Mo_numbers0_66 : decode prog_11_method_23_code 66 = .ok (.iload_n 2, 1) := by decide +kernel
theorem d_Mo_numbers0_67 : decode prog_11_method_23_code 67 = .ok (.invokestatic 47, 3) := by decide +kernel
theorem d_Mo_numbers0_70 : decode prog_11_method_23_code 70 = .ok (.aload_n 0, 1) := by decide +kernel
theorem d_Mo_numbers0_71 : decode prog_11_method_23_code 71 = .ok (.iload_n 2, 1) := by decide +kernel
theorem d_Mo_numbers0_72 : decode prog_11_method_23_code 72 = .ok (.putfield 107, 3) := by decide +kernel
theorem d_Mo_numbers0_75 : decode prog_11_method_23_code 75 = .ok (.iload_n 2, 1) := by decide +kernel
theorem d_Mo_numbers0_76 : decode prog_11_method_23_code 76 = .ok (.ireturn, 1) := by decide +kernel
theorem d_Mo_number0_0 : decode prog_11_method_24_code 0 = .ok (.iload_n 1, 1) := by decide +kernel
theorem d_Mo_number0_1 : decode prog_11_method_24_code 1 = .ok (.ifCond .lt 11, 3) := by decide +kernel
theorem d_Mo_number0_4 : decode prog_11_method_24_code 4 = .ok (.iload_n 1, 1) := by decide +kernel
theorem d_Mo_number0_5 : decode prog_11_method_24_code 5 = .ok (.aload_n 0, 1) := by decide +kernel
theorem d_Mo_number0_6 : decode prog_11_method_24_code 6 = .ok (.getfield 107, 3) := by decide +kernel
theorem d_Mo_number0_9 : decode prog_11_method_24_code 9 = .ok (.if_icmp .lt 11, 3) := by decide +kernel
theorem d_Mo_number0_12 : decode prog_11_method_24_code 12 = .ok (.new 98, 3) := by decide +kernel
theorem d_Mo_number0_15 : decode prog_11_method_24_code 15 = .ok (.dup, 1) := by decide +kernel
theorem d_Mo_number0_16 : decode prog_11_method_24_code 16 = .ok (.invokespecial 100, 3) := by decide +kernel
theorem d_Mo_number0_19 : decode prog_11_method_24_code 19 = .ok (.athrow, 1) := by decide +kernel
theorem d_Mo_number0_20 : decode prog_11_method_24_code 20 = .ok (.aload_n 0, 1) := by decide +kernel
theorem d_Mo_number0_21 : decode prog_11_method_24_code 21 = .ok (.getfield 24, 3) := by decide +kernel
theorem d_Mo_number0_24 : decode prog_11_method_24_code 24 = .ok (.iload_n 1, 1) := by decide +kernel
theorem d_Mo_number0_25 : decode prog_11_method_24_code 25 = .ok (.iaload, 1) := by decide +kernel
theorem d_Mo_number0_26 : decode prog_11_method_24_code 26 = .ok (.ireturn, 1) := by decide +kernel
theorem d_Mo_checksum0_0 : decode prog_11_method_25_code 0 = .ok (.iload_n 1, 1) := by decide +kernel
theorem d_Mo_checksum0_1 : decode prog_11_method_25_code 1 = .ok (.ifCond .lt 11, 3) := by decide +kernel
theorem d_Mo_checksum0_4 : decode prog_11_method_25_code 4 = .ok (.iload_n 1, 1) := by decide +kernel
theorem d_Mo_checksum0_5 : decode prog_11_method_25_code 5 = .ok (.aload_n 0, 1) := by decide +kernel
theorem d_Mo_checksum0_6 : decode prog_11_method_25_code 6 = .ok (.getfield 53, 3) := by decide +kernel
theorem d_Mo_checksum0_9 : decode prog_11_method_25_code 9 = .ok (.if_icmp .le 11, 3) := by decide +kernel
theorem d_Mo_checksum0_12 : decode prog_11_method_25_code 12 = .ok (.new 37, 3) := by decide +kernel
theorem d_Mo_checksum0_15 : decode prog_11_method_25_code 15 = .ok (.dup, 1) := by decide +kernel
theorem d_Mo_checksum0_16 : decode prog_11_method_25_code 16 = .ok (.invokespecial 39, 3) := by decide +kernel
theorem d_Mo_checksum0_19 : decode prog_11_method_25_code 19 = .ok (.athrow, 1) := by decide +kernel
theorem d_Mo_checksum0_20 : decode prog_11_method_25_code 20 = .ok (.ldc2_w 110, 3) := by decide +kernel
theorem d_Mo_checksum0_23 : decode prog_11_method_25_code 23 = .ok (.lstore_n 2, 1) := by decide +kernel
theorem d_Mo_checksum0_24 : decode prog_11_method_25_code 24 = .ok (.iconst 0, 1) := by decide +kernel
theorem d_Mo_checksum0_25 : decode prog_11_method_25_code 25 = .ok (.istore 4, 2) := by decide +kernel
theorem d_Mo_checksum0_27 : decode prog_11_method_25_code 27 = .ok (.iload 4, 2) := by decide +kernel
theorem d_Mo_checksum0_29 : decode prog_11_method_25_code 29 = .ok (.bipush 8, 2) := by decide +kernel
theorem d_Mo_checksum0_31 : decode prog_11_method_25_code 31 = .ok (.iload_n 1, 1) := by decide +kernel
theorem d_Mo_checksum0_32 : decode prog_11_method_25_code 32 = .ok (.imul, 1) := by decide +kernel
theorem d_Mo_checksum0_33 : decode prog_11_method_25_code 33 = .ok (.if_icmp .ge 47, 3) := by decide +kernel
theorem d_Mo_checksum0_36 : decode prog_11_method_25_code 36 = .ok (.aload_n 0, 1) := by decide +kernel
theorem d_Mo_checksum0_37 : decode prog_11_method_25_code 37 = .ok (.getfield 14, 3) := by decide +kernel
theorem d_Mo_checksum0_40 : decode prog_11_method_25_code 40 = .ok (.iload 4, 2) := by decide +kernel
theorem d_Mo_checksum0_42 : decode prog_11_method_25_code 42 = .ok (.bipush 8, 2) := by decide +kernel
theorem d_Mo_checksum0_44 : decode prog_11_method_25_code 44 = .ok (.idiv, 1) := by decide +kernel
theorem d_Mo_checksum0_45 : decode prog_11_method_25_code 45 = .ok (.baload, 1) := by decide +kernel
theorem d_Mo_checksum0_46 : decode prog_11_method_25_code 46 = .ok (.iload 4, 2) := by decide +kernel
theorem d_Mo_checksum0_48 : decode prog_11_method_25_code 48 = .ok (.bipush 8, 2) := by decide +kernel
theorem d_Mo_checksum0_50 : decode prog_11_method_25_code 50 = .ok (.irem, 1) := by decide +kernel
theorem d_Mo_checksum0_51 : decode prog_11_method_25_code 51 = .ok (.ishr, 1) := by decide +kernel
theorem d_Mo_checksum0_52 : decode prog_11_method_25_code 52 = .ok (.iconst 1, 1) := by decide +kernel
theorem d_Mo_checksum0_53 : decode prog_11_method_25_code 53 = .ok (.iand, 1) := by decide +kernel
theorem d_Mo_checksum0_54 : decode prog_11_method_25_code 54 = .ok (.i2l, 1) := by decide +kernel
theorem d_Mo_checksum0_55 : decode prog_11_method_25_code 55 = .ok (.lload_n 2, 1) := by decide +kernel
theorem d_Mo_checksum0_56 : decode prog_11_method_25_code 56 = .ok (.lconst 1, 1) := by decide +kernel
theorem d_Mo_checksum0_57 : decode prog_11_method_25_code 57 = .ok (.land, 1) := by decide +kernel
theorem d_Mo_checksum0_58 : decode prog_11_method_25_code 58 = .ok (.lxor, 1) := by decide +kernel
theorem d_Mo_checksum0_59 : decode prog_11_method_25_code 59 = .ok (.lstore 5, 2) := by decide +kernel
theorem d_Mo_checksum0_61 : decode prog_11_method_25_code 61 = .ok (.lload_n 2, 1) := by decide +kernel
theorem d_Mo_checksum0_62 : decode prog_11_method_25_code 62 = .ok (.ldc2_w 112, 3) := by decide +kernel
theorem d_Mo_checksum0_65 : decode prog_11_method_25_code 65 = .ok (.ldiv, 1) := by decide +kernel
theorem d_Mo_checksum0_66 : decode prog_11_method_25_code 66 = .ok (.lload 5, 2) := by decide +kernel
theorem d_Mo_checksum0_68 : decode prog_11_method_25_code 68 = .ok (.ldc2_w 114, 3) := by decide +kernel
theorem d_Mo_checksum0_71 : decode prog_11_method_25_code 71 = .ok (.lmul, 1) := by decide +kernel
theorem d_Mo_checksum0_72 : decode prog_11_method_25_code 72 = .ok (.lxor, 1) := by decide +kernel
theorem d_Mo_checksum0_73 : decode prog_11_method_25_code 73 = .ok (.lstore_n 2, 1) := by decide +kernel
theorem d_Mo_checksum0_74 : decode prog_11_method_25_code 74 = .ok (.iinc 4 1, 3) := by decide +kernel
theorem d_Mo_checksum0_77 : decode prog_11_method_25_code 77 = .ok (.goto (-50), 3) := by decide +kernel
theorem d_Mo_checksum0_80 : decode prog_11_method_25_code 80 = .ok (.ldc2_w 110, 3) := by decide +kernel
theorem d_Mo_checksum0_83 : decode prog_11_method_25_code 83 = .ok (.lload_n 2, 1) := by decide +kernel
theorem d_Mo_checksum0_84 : decode prog_11_method_25_code 84 = .ok (.lsub, 1) := by decide +kernel
theorem d_Mo_checksum0_85 : decode prog_11_method_25_code 85 = .ok (.l2i, 1) := by decide +kernel
theorem d_Mo_checksum0_86 : decode prog_11_method_25_code 86 = .ok (.ireturn, 1) := by decide +kernel
theorem d_Mo_octet0_0 : decode prog_11_method_26_code 0 = .ok (.iload_n 1, 1) := by decide +kernel
theorem d_Mo_octet0_1 : decode prog_11_method_26_code 1 = .ok (.iconst (-1), 1) := by decide +kernel
theorem d_Mo_octet0_2 : decode prog_11_method_26_code 2 = .ok (.if_icmp .lt 11, 3) := by decide +kernel
theorem d_Mo_octet0_5 : decode prog_11_method_26_code 5 = .ok (.iload_n 1, 1) := by decide +kernel
theorem d_Mo_octet0_6 : decode prog_11_method_26_code 6 = .ok (.aload_n 0, 1) := by decide +kernel
theorem d_Mo_octet0_7 : decode prog_11_method_26_code 7 = .ok (.getfield 53, 3) := by decide +kernel
theorem d_Mo_octet0_10 : decode prog_11_method_26_code 10 = .ok (.if_icmp .lt 11, 3) := by decide +kernel
theorem d_Mo_octet0_13 : decode prog_11_method_26_code 13 = .ok (.new 98, 3) := by decide +kernel
theorem d_Mo_octet0_16 : decode prog_11_method_26_code 16 = .ok (.dup, 1) := by decide +kernel
theorem d_Mo_octet0_17 : decode prog_11_method_26_code 17 = .ok (.invokespecial 100, 3) := by decide +kernel
theorem d_Mo_octet0_20 : decode prog_11_method_26_code 20 = .ok (.athrow, 1) := by decide +kernel
theorem d_Mo_octet0_21 : decode prog_11_method_26_code 21 = .ok (.iload_n 1, 1) := by decide +kernel
theorem d_Mo_octet0_22 : decode prog_11_method_26_code 22 = .ok (.ifCond .ge 10, 3) := by decide +kernel
theorem d_Mo_octet0_25 : decode prog_11_method_26_code 25 = .ok (.aload_n 0, 1) := by decide +kernel
theorem d_Mo_octet0_26 : decode prog_11_method_26_code 26 = .ok (.getfield 53, 3) := by decide +kernel
theorem d_Mo_octet0_29 : decode prog_11_method_26_code 29 = .ok (.goto 13, 3) := by decide +kernel
theorem d_Mo_octet0_32 : decode prog_11_method_26_code 32 = .ok (.aload_n 0, 1) := by decide +kernel
theorem d_Mo_octet0_33 : decode prog_11_method_26_code 33 = .ok (.getfield 14, 3) := by decide +kernel
theorem d_Mo_octet0_36 : decode prog_11_method_26_code 36 = .ok (.iload_n 1, 1) := by decide +kernel
theorem d_Mo_octet0_37 : decode prog_11_method_26_code 37 = .ok (.baload, 1) := by decide +kernel
theorem d_Mo_octet0_38 : decode prog_11_method_26_code 38 = .ok (.sipush 255, 3) := by decide +kernel
theorem d_Mo_octet0_41 : decode prog_11_method_26_code 41 = .ok (.iand, 1) := by decide +kernel
theorem d_Mo_octet0_42 : decode prog_11_method_26_code 42 = .ok (.ireturn, 1) := by decide +kernel
theorem d_Mo_back0_0 : decode prog_11_method_27_code 0 = .ok (.aload_n 0, 1) := by decide +kernel
theorem d_Mo_back0_1 : decode prog_11_method_27_code 1 = .ok (.getfield 30, 3) := by decide +kernel
theorem d_Mo_back0_4 : decode prog_11_method_27_code 4 = .ok (.aload_n 0, 1) := by decide +kernel
theorem d_Mo_back0_5 : decode prog_11_method_27_code 5 = .ok (.getfield 53, 3) := by decide +kernel
theorem d_Mo_back0_8 : decode prog_11_method_27_code 8 = .ok (.iadd, 1) := by decide +kernel
theorem d_Mo_back0_9 : decode prog_11_method_27_code 9 = .ok (.ldc 9, 2) := by decide +kernel
theorem d_Mo_back0_11 : decode prog_11_method_27_code 11 = .ok (.if_icmp .le 11, 3) := by decide +kernel
theorem d_Mo_back0_14 : decode prog_11_method_27_code 14 = .ok (.new 34, 3) := by decide +kernel
theorem d_Mo_back0_17 : decode prog_11_method_27_code 17 = .ok (.dup, 1) := by decide +kernel
theorem d_Mo_back0_18 : decode prog_11_method_27_code 18 = .ok (.invokespecial 36, 3) := by decide +kernel
theorem d_Mo_back0_21 : decode prog_11_method_27_code 21 = .ok (.athrow, 1) := by decide +kernel
theorem d_Mo_back0_22 : decode prog_11_method_27_code 22 = .ok (.aload_n 0, 1) := by decide +kernel
theorem d_Mo_back0_23 : decode prog_11_method_27_code 23 = .ok (.getfield 14, 3) := by decide +kernel
theorem d_Mo_back0_26 : decode prog_11_method_27_code 26 = .ok (.iconst 0, 1) := by decide +kernel
theorem d_Mo_back0_27 : decode prog_11_method_27_code 27 = .ok (.aload_n 0, 1) := by decide +kernel
theorem d_Mo_back0_28 : decode prog_11_method_27_code 28 = .ok (.getfield 10, 3) := by decide +kernel
theorem d_Mo_back0_31 : decode prog_11_method_27_code 31 = .ok (.aload_n 0, 1) := by decide +kernel
theorem d_Mo_back0_32 : decode prog_11_method_27_code 32 = .ok (.getfield 30, 3) := by decide +kernel
theorem d_Mo_back0_35 : decode prog_11_method_27_code 35 = .ok (.aload_n 0, 1) := by decide +kernel
theorem d_Mo_back0_36 : decode prog_11_method_27_code 36 = .ok (.getfield 53, 3) := by decide +kernel
theorem d_Mo_back0_39 : decode prog_11_method_27_code 39 = .ok (.invokestatic 47, 3) := by decide +kernel
theorem d_Mo_back0_42 : decode prog_11_method_27_code 42 = .ok (.aload_n 0, 1) := by decide +kernel
theorem d_Mo_back0_43 : decode prog_11_method_27_code 43 = .ok (.dup, 1) := by decide +kernel
theorem d_Mo_back0_44 : decode prog_11_method_27_code 44 = .ok (.getfield 30, 3) := by decide +kernel
theorem d_Mo_back0_47 : decode prog_11_method_27_code 47 = .ok (.aload_n 0, 1) := by decide +kernel
theorem d_Mo_back0_48 : decode prog_11_method_27_code 48 = .ok (.getfield 53, 3) := by decide +kernel
theorem d_Mo_back0_51 : decode prog_11_method_27_code 51 = .ok (.iadd, 1) := by decide +kernel
theorem d_Mo_back0_52 : decode prog_11_method_27_code 52 = .ok (.putfield 30, 3) := by decide +kernel
theorem d_Mo_back0_55 : decode prog_11_method_27_code 55 = .ok (.aload_n 0, 1) := by decide +kernel
theorem d_Mo_back0_56 : decode prog_11_method_27_code 56 = .ok (.iconst 0, 1) := by decide +kernel
theorem d_Mo_back0_57 : decode prog_11_method_27_code 57 = .ok (.putfield 53, 3) := by decide +kernel
theorem d_Mo_back0_60 : decode prog_11_method_27_code 60 = .ok (.aload_n 0, 1) := by decide +kernel
theorem d_Mo_back0_61 : decode prog_11_method_27_code 61 = .ok (.getfield 30, 3) := by decide +kernel
theorem d_Mo_back0_64 : decode prog_11_method_27_code 64 = .ok (.ireturn, 1) := by decide +kernel
theorem d_Mo_thrown_0 : decode prog_11_method_28_code 0 = .ok (.aload_n 0, 1) := by decide +kernel
theorem d_Mo_thrown_1 : decode prog_11_method_28_code 1 = .ok (.getfield 116, 3) := by decide +kernel
theorem d_Mo_thrown_4 : decode prog_11_method_28_code 4 = .ok (.ireturn, 1) := by decide +kernel
theorem d_Mo_feed_0 : decode prog_11_method_29_code 0 = .ok (.aload_n 0, 1) := by decide +kernel
theorem d_Mo_feed_1 : decode prog_11_method_29_code 1 = .ok (.iconst 0, 1) := by decide +kernel
theorem d_Mo_feed_2 : decode prog_11_method_29_code 2 = .ok (.putfield 116, 3) := by decide +kernel
theorem d_Mo_feed_5 : decode prog_11_method_29_code 5 = .ok (.aload_n 0, 1) := by decide +kernel
theorem d_Mo_feed_6 : decode prog_11_method_29_code 6 = .ok (.iload_n 1, 1) := by decide +kernel
theorem d_Mo_feed_7 : decode prog_11_method_29_code 7 = .ok (.iload_n 2, 1) := by decide +kernel
theorem d_Mo_feed_8 : decode prog_11_method_29_code 8 = .ok (.iload_n 3, 1) := by decide +kernel
theorem d_Mo_feed_9 : decode prog_11_method_29_code 9 = .ok (.iload 4, 2) := by decide +kernel
theorem d_Mo_feed_11 : decode prog_11_method_29_code 11 = .ok (.iload 5, 2) := by decide +kernel
theorem d_Mo_feed_13 : decode prog_11_method_29_code 13 = .ok (.invokevirtual 119, 3) := by decide +kernel
theorem d_Mo_feed_16 : decode prog_11_method_29_code 16 = .ok (.goto 10, 3) := by decide +kernel
theorem d_Mo_feed_19 : decode prog_11_method_29_code 19 = .ok (.astore 6, 2) := by decide +kernel
theorem d_Mo_feed_21 : decode prog_11_method_29_code 21 = .ok (.aload_n 0, 1) := by decide +kernel
theorem d_Mo_feed_22 : decode prog_11_method_29_code 22 = .ok (.iconst 1, 1) := by decide +kernel
theorem d_Mo_feed_23 : decode prog_11_method_29_code 23 = .ok (.putfield 116, 3) := by decide +kernel
theorem d_Mo_feed_26 : decode prog_11_method_29_code 26 = .ok (.return_, 1) := by decide +kernel
theorem d_Mo_end_0 : decode prog_11_method_30_code 0 = .ok (.aload_n 0, 1) := by decide +kernel
theorem d_Mo_end_1 : decode prog_11_method_30_code 1 = .ok (.iconst 0, 1) := by decide +kernel
theorem d_Mo_end_2 : decode prog_11_method_30_code 2 = .ok (.putfield 116, 3) := by decide +kernel
theorem d_Mo_end_5 : decode prog_11_method_30_code 5 = .ok (.aload_n 0, 1) := by decide +kernel
theorem d_Mo_end_6 : decode prog_11_method_30_code 6 = .ok (.iload_n 1, 1) := by decide +kernel
theorem d_Mo_end_7 : decode prog_11_method_30_code 7 = .ok (.invokevirtual 123, 3) := by decide +kernel
theorem d_Mo_end_10 : decode prog_11_method_30_code 10 = .ok (.ireturn, 1) := by decide +kernel
theorem d_Mo_end_11 : decode prog_11_method_30_code 11 = .ok (.astore_n 2, 1) := by decide +kernel
theorem d_Mo_end_12 : decode prog_11_method_30_code 12 = .ok (.aload_n 0, 1) := by decide +kernel
theorem d_Mo_end_13 : decode prog_11_method_30_code 13 = .ok (.iconst 1, 1) := by decide +kernel
theorem d_Mo_end_14 : decode prog_11_method_30_code 14 = .ok (.putfield 116, 3) := by decide +kernel
theorem d_Mo_end_17 : decode prog_11_method_30_code 17 = .ok (.iconst 0, 1) := by decide +kernel
theorem d_Mo_end_18 : decode prog_11_method_30_code 18 = .ok (.ireturn, 1) := by decide +kernel
theorem d_Mo_pack_0 : decode prog_11_method_31_code 0 = .ok (.aload_n 0, 1) := by decide +kernel
theorem d_Mo_pack_1 : decode prog_11_method_31_code 1 = .ok (.iconst 0, 1) := by decide +kernel
theorem d_Mo_pack_2 : decode prog_11_method_31_code 2 = .ok (.putfield 116, 3) := by decide +kernel
theorem d_Mo_pack_5 : decode prog_11_method_31_code 5 = .ok (.aload_n 0, 1) := by decide +kernel
theorem d_Mo_pack_6 : decode prog_11_method_31_code 6 = .ok (.invokevirtual 126, 3) := by decide +kernel
theorem d_Mo_pack_9 : decode prog_11_method_31_code 9 = .ok (.ireturn, 1) := by decide +kernel
theorem d_Mo_pack_10 : decode prog_11_method_31_code 10 = .ok (.astore_n 1, 1) := by decide +kernel
theorem d_Mo_pack_11 : decode prog_11_method_31_code 11 = .ok (.aload_n 0, 1) := by decide +kernel
theorem d_Mo_pack_12 : decode prog_11_method_31_code 12 = .ok (.iconst 1, 1) := by decide +kernel
theorem d_Mo_pack_13 : decode prog_11_method_31_code 13 = .ok (.putfield 116, 3) := by decide +kernel
theorem d_Mo_pack_16 : decode prog_11_method_31_code 16 = .ok (.iconst 0, 1) := by decide +kernel
theorem d_Mo_pack_17 : decode prog_11_method_31_code 17 = .ok (.ireturn, 1) := by decide +kernel
theorem d_Mo_unpack_0 : decode prog_11_method_32_code 0 = .ok (.aload_n 0, 1) := by decide +kernel
theorem d_Mo_unpack_1 : decode prog_11_method_32_code 1 = .ok (.iconst 0, 1) := by decide +kernel
theorem d_Mo_unpack_2 : decode prog_11_method_32_code 2 = .ok (.putfield 116, 3) := by decide +kernel
theorem d_Mo_unpack_5 : decode prog_11_method_32_code 5 = .ok (.aload_n 0, 1) := by decide +kernel
theorem d_Mo_unpack_6 : decode prog_11_method_32_code 6 = .ok (.invokevirtual 130, 3) := by decide +kernel
theorem d_Mo_unpack_9 : decode prog_11_method_32_code 9 = .ok (.ireturn, 1) := by decide +kernel
theorem d_Mo_unpack_10 : decode prog_11_method_32_code 10 = .ok (.astore_n 1, 1) := by decide +kernel
theorem d_Mo_unpack_11 : decode prog_11_method_32_code 11 = .ok (.aload_n 0, 1) := by decide +kernel
theorem d_Mo_unpack_12 : decode prog_11_method_32_code 12 = .ok (.iconst 1, 1) := by decide +kernel
theorem d_Mo_unpack_13 : decode prog_11_method_32_code 13 = .ok (.putfield 116, 3) := by decide +kernel
theorem d_Mo_unpack_16 : decode prog_11_method_32_code 16 = .ok (.iconst 0, 1) := by decide +kernel
theorem d_Mo_unpack_17 : decode prog_11_method_32_code 17 = .ok (.ireturn, 1) := by decide +kernel
theorem d_Mo_text_0 : decode prog_11_method_33_code 0 = .ok (.aload_n 0, 1) := by decide +kernel
theorem d_Mo_text_1 : decode prog_11_method_33_code 1 = .ok (.iconst 0, 1) := by decide +kernel
theorem d_Mo_text_2 : decode prog_11_method_33_code 2 = .ok (.putfield 116, 3) := by decide +kernel
theorem d_Mo_text_5 : decode prog_11_method_33_code 5 = .ok (.aload_n 0, 1) := by decide +kernel
theorem d_Mo_text_6 : decode prog_11_method_33_code 6 = .ok (.invokevirtual 133, 3) := by decide +kernel
theorem d_Mo_text_9 : decode prog_11_method_33_code 9 = .ok (.ireturn, 1) := by decide +kernel
theorem d_Mo_text_10 : decode prog_11_method_33_code 10 = .ok (.astore_n 1, 1) := by decide +kernel
theorem d_Mo_text_11 : decode prog_11_method_33_code 11 = .ok (.aload_n 0, 1) := by decide +kernel
theorem d_Mo_text_12 : decode prog_11_method_33_code 12 = .ok (.iconst 1, 1) := by decide +kernel
theorem d_Mo_text_13 : decode prog_11_method_33_code 13 = .ok (.putfield 116, 3) := by decide +kernel
theorem d_Mo_text_16 : decode prog_11_method_33_code 16 = .ok (.iconst 0, 1) := by decide +kernel
theorem d_Mo_text_17 : decode prog_11_method_33_code 17 = .ok (.ireturn, 1) := by decide +kernel
theorem d_Mo_code_0 : decode prog_11_method_34_code 0 = .ok (.aload_n 0, 1) := by decide +kernel
theorem d_Mo_code_1 : decode prog_11_method_34_code 1 = .ok (.iconst 0, 1) := by decide +kernel
theorem d_Mo_code_2 : decode prog_11_method_34_code 2 = .ok (.putfield 116, 3) := by decide +kernel
theorem d_Mo_code_5 : decode prog_11_method_34_code 5 = .ok (.aload_n 0, 1) := by decide +kernel
theorem d_Mo_code_6 : decode prog_11_method_34_code 6 = .ok (.iload_n 1, 1) := by decide +kernel
theorem d_Mo_code_7 : decode prog_11_method_34_code 7 = .ok (.invokevirtual 136, 3) := by decide +kernel
theorem d_Mo_code_10 : decode prog_11_method_34_code 10 = .ok (.ireturn, 1) := by decide +kernel
theorem d_Mo_code_11 : decode prog_11_method_34_code 11 = .ok (.astore_n 2, 1) := by decide +kernel
theorem d_Mo_code_12 : decode prog_11_method_34_code 12 = .ok (.aload_n 0, 1) := by decide +kernel
theorem d_Mo_code_13 : decode prog_11_method_34_code 13 = .ok (.iconst 1, 1) := by decide +kernel
theorem d_Mo_code_14 : decode prog_11_method_34_code 14 = .ok (.putfield 116, 3) := by decide +kernel
theorem d_Mo_code_17 : decode prog_11_method_34_code 17 = .ok (.iconst 0, 1) := by decide +kernel
theorem d_Mo_code_18 : decode prog_11_method_34_code 18 = .ok (.ireturn, 1) := by decide +kernel
theorem d_Mo_letter_0 : decode prog_11_method_35_code 0 = .ok (.aload_n 0, 1) := by decide +kernel
theorem d_Mo_letter_1 : decode prog_11_method_35_code 1 = .ok (.iconst 0, 1) := by decide +kernel
theorem d_Mo_letter_2 : decode prog_11_method_35_code 2 = .ok (.putfield 116, 3) := by decide +kernel
theorem d_Mo_letter_5 : decode prog_11_method_35_code 5 = .ok (.aload_n 0, 1) := by decide +kernel
theorem d_Mo_letter_6 : decode prog_11_method_35_code 6 = .ok (.iload_n 1, 1) := by decide +kernel
theorem d_Mo_letter_7 : decode prog_11_method_35_code 7 = .ok (.invokevirtual 139, 3) := by decide +kernel
theorem d_Mo_letter_10 : decode prog_11_method_35_code 10 = .ok (.ireturn, 1) := by decide +kernel
theorem d_Mo_letter_11 : decode prog_11_method_35_code 11 = .ok (.astore_n 2, 1) := by decide +kernel
theorem d_Mo_letter_12 : decode prog_11_method_35_code 12 = .ok (.aload_n 0, 1) := by decide +kernel
theorem d_Mo_letter_13 : decode prog_11_method_35_code 13 = .ok (.iconst 1, 1) := by decide +kernel
theorem d_Mo_letter_14 : decode prog_11_method_35_code 14 = .ok (.putfield 116, 3) := by decide +kernel
theorem d_Mo_letter_17 : decode prog_11_method_35_code 17 = .ok (.goto 9, 3) := by decide +kernel
theorem d_Mo_letter_20 : decode prog_11_method_35_code 20 = .ok (.astore_n 2, 1) := by decide +kernel
theorem d_Mo_letter_21 : decode prog_11_method_35_code 21 = .ok (.aload_n 0, 1) := by decide +kernel
theorem d_Mo_letter_22 : decode prog_11_method_35_code 22 = .ok (.iconst 2, 1) := by decide +kernel
theorem d_Mo_letter_23 : decode prog_11_method_35_code 23 = .ok (.putfield 116, 3) := by decide +kernel
theorem d_Mo_letter_26 : decode prog_11_method_35_code 26 = .ok (.iconst 0, 1) := by decide +kernel
theorem d_Mo_letter_27 : decode prog_11_method_35_code 27 = .ok (.ireturn, 1) := by decide +kernel
theorem d_Mo_varint_0 : decode prog_11_method_36_code 0 = .ok (.aload_n 0, 1) := by decide +kernel
theorem d_Mo_varint_1 : decode prog_11_method_36_code 1 = .ok (.iconst 0, 1) := by decide +kernel
theorem d_Mo_varint_2 : decode prog_11_method_36_code 2 = .ok (.putfield 116, 3) := by decide +kernel
theorem d_Mo_varint_5 : decode prog_11_method_36_code 5 = .ok (.aload_n 0, 1) := by decide +kernel
theorem d_Mo_varint_6 : decode prog_11_method_36_code 6 = .ok (.iload_n 1, 1) := by decide +kernel
theorem d_Mo_varint_7 : decode prog_11_method_36_code 7 = .ok (.invokevirtual 142, 3) := by decide +kernel
theorem d_Mo_varint_10 : decode prog_11_method_36_code 10 = .ok (.ireturn, 1) := by decide +kernel
theorem d_Mo_varint_11 : decode prog_11_method_36_code 11 = .ok (.astore_n 2, 1) := by decide +kernel
theorem d_Mo_varint_12 : decode prog_11_method_36_code 12 = .ok (.aload_n 0, 1) := by decide +kernel
theorem d_Mo_varint_13 : decode prog_11_method_36_code 13 = .ok (.iconst 1, 1) := by decide +kernel
theorem d_Mo_varint_14 : decode prog_11_method_36_code 14 = .ok (.putfield 116, 3) := by decide +kernel
theorem d_Mo_varint_17 : decode prog_11_method_36_code 17 = .ok (.goto 9, 3) := by decide +kernel
theorem d_Mo_varint_20 : decode prog_11_method_36_code 20 = .ok (.astore_n 2, 1) := by decide +kernel
theorem d_Mo_varint_21 : decode prog_11_method_36_code 21 = .ok (.aload_n 0, 1) := by decide +kernel
theorem d_Mo_varint_22 : decode prog_11_method_36_code 22 = .ok (.iconst 2, 1) := by decide +kernel
theorem d_Mo_varint_23 : decode prog_11_method_36_code 23 = .ok (.putfield 116, 3) := by decide +kernel
theorem d_Mo_varint_26 : decode prog_11_method_36_code 26 = .ok (.iconst 0, 1) := by decide +kernel
theorem d_Mo_varint_27 : decode prog_11_method_36_code 27 = .ok (.ireturn, 1) := by decide +kernel
theorem d_Mo_zigzag_0 : decode prog_11_method_37_code 0 = .ok (.aload_n 0, 1) := by decide +kernel
theorem d_Mo_zigzag_1 : decode prog_11_method_37_code 1 = .ok (.iconst 0, 1) := by decide +kernel
theorem d_Mo_zigzag_2 : decode prog_11_method_37_code 2 = .ok (.putfield 116, 3) := by decide +kernel
theorem d_Mo_zigzag_5 : decode prog_11_method_37_code 5 = .ok (.aload_n 0, 1) := by decide +kernel
theorem d_Mo_zigzag_6 : decode prog_11_method_37_code 6 = .ok (.iload_n 1, 1) := by decide +kernel
theorem d_Mo_zigzag_7 : decode prog_11_method_37_code 7 = .ok (.invokevirtual 145, 3) := by decide +kernel
theorem d_Mo_zigzag_10 : decode prog_11_method_37_code 10 = .ok (.ireturn, 1) := by decide +kernel
theorem d_Mo_zigzag_11 : decode prog_11_method_37_code 11 = .ok (.astore_n 2, 1) := by decide +kernel
theorem d_Mo_zigzag_12 : decode prog_11_method_37_code 12 = .ok (.aload_n 0, 1) := by decide +kernel
theorem d_Mo_zigzag_13 : decode prog_11_method_37_code 13 = .ok (.iconst 1, 1) := by decide +kernel
theorem d_Mo_zigzag_14 : decode prog_11_method_37_code 14 = .ok (.putfield 116, 3) := by decide +kernel
theorem d_Mo_zigzag_17 : decode prog_11_method_37_code 17 = .ok (.iconst 0, 1) := by decide +kernel
theorem d_Mo_zigzag_18 : decode prog_11_method_37_code 18 = .ok (.ireturn, 1) := by decide +kernel
theorem d_Mo_unzigzag_0 : decode prog_11_method_38_code 0 = .ok (.aload_n 0, 1) := by decide +kernel
theorem d_Mo_unzigzag_1 : decode prog_11_method_38_code 1 = .ok (.iconst 0, 1) := by decide +kernel
theorem d_Mo_unzigzag_2 : decode prog_11_method_38_code 2 = .ok (.putfield 116, 3) := by decide +kernel
theorem d_Mo_unzigzag_5 : decode prog_11_method_38_code 5 = .ok (.aload_n 0, 1) := by decide +kernel
theorem d_Mo_unzigzag_6 : decode prog_11_method_38_code 6 = .ok (.iload_n 1, 1) := by decide +kernel
theorem d_Mo_unzigzag_7 : decode prog_11_method_38_code 7 = .ok (.invokevirtual 148, 3) := by decide +kernel
theorem d_Mo_unzigzag_10 : decode prog_11_method_38_code 10 = .ok (.ireturn, 1) := by decide +kernel
theorem d_Mo_unzigzag_11 : decode prog_11_method_38_code 11 = .ok (.astore_n 2, 1) := by decide +kernel
theorem d_Mo_unzigzag_12 : decode prog_11_method_38_code 12 = .ok (.aload_n 0, 1) := by decide +kernel
theorem d_Mo_unzigzag_13 : decode prog_11_method_38_code 13 = .ok (.iconst 1, 1) := by decide +kernel
theorem d_Mo_unzigzag_14 : decode prog_11_method_38_code 14 = .ok (.putfield 116, 3) := by decide +kernel
theorem d_Mo_unzigzag_17 : decode prog_11_method_38_code 17 = .ok (.iconst 0, 1) := by decide +kernel
theorem d_Mo_unzigzag_18 : decode prog_11_method_38_code 18 = .ok (.ireturn, 1) := by decide +kernel
theorem d_Mo_numbers_0 : decode prog_11_method_39_code 0 = .ok (.aload_n 0, 1) := by decide +kernel
theorem d_Mo_numbers_1 : decode prog_11_method_39_code 1 = .ok (.iconst 0, 1) := by decide +kernel
theorem d_Mo_numbers_2 : decode prog_11_method_39_code 2 = .ok (.putfield 116, 3) := by decide +kernel
theorem d_Mo_numbers_5 : decode prog_11_method_39_code 5 = .ok (.aload_n 0, 1) := by decide +kernel
theorem d_Mo_numbers_6 : decode prog_11_method_39_code 6 = .ok (.invokevirtual 151, 3) := by decide +kernel
theorem d_Mo_numbers_9 : decode prog_11_method_39_code 9 = .ok (.ireturn, 1) := by decide +kernel
theorem d_Mo_numbers_10 : decode prog_11_method_39_code 10 = .ok (.astore_n 1, 1) := by decide +kernel
theorem d_Mo_numbers_11 : decode prog_11_method_39_code 11 = .ok (.aload_n 0, 1) := by decide +kernel
theorem d_Mo_numbers_12 : decode prog_11_method_39_code 12 = .ok (.iconst 1, 1) := by decide +kernel
theorem d_Mo_numbers_13 : decode prog_11_method_39_code 13 = .ok (.putfield 116, 3) := by decide +kernel
theorem d_Mo_numbers_16 : decode prog_11_method_39_code 16 = .ok (.iconst 0, 1) := by decide +kernel
theorem d_Mo_numbers_17 : decode prog_11_method_39_code 17 = .ok (.ireturn, 1) := by decide +kernel
theorem d_Mo_number_0 : decode prog_11_method_40_code 0 = .ok (.aload_n 0, 1) := by decide +kernel
theorem d_Mo_number_1 : decode prog_11_method_40_code 1 = .ok (.iconst 0, 1) := by decide +kernel
theorem d_Mo_number_2 : decode prog_11_method_40_code 2 = .ok (.putfield 116, 3) := by decide +kernel
theorem d_Mo_number_5 : decode prog_11_method_40_code 5 = .ok (.aload_n 0, 1) := by decide +kernel
theorem d_Mo_number_6 : decode prog_11_method_40_code 6 = .ok (.iload_n 1, 1) := by decide +kernel
theorem d_Mo_number_7 : decode prog_11_method_40_code 7 = .ok (.invokevirtual 154, 3) := by decide +kernel
theorem d_Mo_number_10 : decode prog_11_method_40_code 10 = .ok (.ireturn, 1) := by decide +kernel
theorem d_Mo_number_11 : decode prog_11_method_40_code 11 = .ok (.astore_n 2, 1) := by decide +kernel
theorem d_Mo_number_12 : decode prog_11_method_40_code 12 = .ok (.aload_n 0, 1) := by decide +kernel
theorem d_Mo_number_13 : decode prog_11_method_40_code 13 = .ok (.iconst 1, 1) := by decide +kernel
theorem d_Mo_number_14 : decode prog_11_method_40_code 14 = .ok (.putfield 116, 3) := by decide +kernel
theorem d_Mo_number_17 : decode prog_11_method_40_code 17 = .ok (.iconst 0, 1) := by decide +kernel
theorem d_Mo_number_18 : decode prog_11_method_40_code 18 = .ok (.ireturn, 1) := by decide +kernel
theorem d_Mo_checksum_0 : decode prog_11_method_41_code 0 = .ok (.aload_n 0, 1) := by decide +kernel
theorem d_Mo_checksum_1 : decode prog_11_method_41_code 1 = .ok (.iconst 0, 1) := by decide +kernel
theorem d_Mo_checksum_2 : decode prog_11_method_41_code 2 = .ok (.putfield 116, 3) := by decide +kernel
theorem d_Mo_checksum_5 : decode prog_11_method_41_code 5 = .ok (.aload_n 0, 1) := by decide +kernel
theorem d_Mo_checksum_6 : decode prog_11_method_41_code 6 = .ok (.iload_n 1, 1) := by decide +kernel
theorem d_Mo_checksum_7 : decode prog_11_method_41_code 7 = .ok (.invokevirtual 157, 3) := by decide +kernel
theorem d_Mo_checksum_10 : decode prog_11_method_41_code 10 = .ok (.ireturn, 1) := by decide +kernel
theorem d_Mo_checksum_11 : decode prog_11_method_41_code 11 = .ok (.astore_n 2, 1) := by decide +kernel
theorem d_Mo_checksum_12 : decode prog_11_method_41_code 12 = .ok (.aload_n 0, 1) := by decide +kernel
theorem d_Mo_checksum_13 : decode prog_11_method_41_code 13 = .ok (.iconst 1, 1) := by decide +kernel
theorem d_Mo_checksum_14 : decode prog_11_method_41_code 14 = .ok (.putfield 116, 3) := by decide +kernel
theorem d_Mo_checksum_17 : decode prog_11_method_41_code 17 = .ok (.iconst 0, 1) := by decide +kernel
theorem d_Mo_checksum_18 : decode prog_11_method_41_code 18 = .ok (.ireturn, 1) := by decide +kernel
theorem d_Mo_octet_0 : decode prog_11_method_42_code 0 = .ok (.aload_n 0, 1) := by decide +kernel
theorem d_Mo_octet_1 : decode prog_11_method_42_code 1 = .ok (.iconst 0, 1) := by decide +kernel
theorem d_Mo_octet_2 : decode prog_11_method_42_code 2 = .ok (.putfield 116, 3) := by decide +kernel
theorem d_Mo_octet_5 : decode prog_11_method_42_code 5 = .ok (.aload_n 0, 1) := by decide +kernel
theorem d_Mo_octet_6 : decode prog_11_method_42_code 6 = .ok (.iload_n 1, 1) := by decide +kernel
theorem d_Mo_octet_7 : decode prog_11_method_42_code 7 = .ok (.invokevirtual 160, 3) := by decide +kernel
theorem d_Mo_octet_10 : decode prog_11_method_42_code 10 = .ok (.ireturn, 1) := by decide +kernel
theorem d_Mo_octet_11 : decode prog_11_method_42_code 11 = .ok (.astore_n 2, 1) := by decide +kernel
theorem d_Mo_octet_12 : decode prog_11_method_42_code 12 = .ok (.aload_n 0, 1) := by decide +kernel
theorem d_Mo_octet_13 : decode prog_11_method_42_code 13 = .ok (.iconst 1, 1) := by decide +kernel
theorem d_Mo_octet_14 : decode prog_11_method_42_code 14 = .ok (.putfield 116, 3) := by decide +kernel
theorem d_Mo_octet_17 : decode prog_11_method_42_code 17 = .ok (.iconst 0, 1) := by decide +kernel
theorem d_Mo_octet_18 : decode prog_11_method_42_code 18 = .ok (.ireturn, 1) := by decide +kernel
theorem d_Mo_back_0 : decode prog_11_method_43_code 0 = .ok (.aload_n 0, 1) := by decide +kernel
theorem d_Mo_back_1 : decode prog_11_method_43_code 1 = .ok (.iconst 0, 1) := by decide +kernel
theorem d_Mo_back_2 : decode prog_11_method_43_code 2 = .ok (.putfield 116, 3) := by decide +kernel
theorem d_Mo_back_5 : decode prog_11_method_43_code 5 = .ok (.aload_n 0, 1) := by decide +kernel
theorem d_Mo_back_6 : decode prog_11_method_43_code 6 = .ok (.invokevirtual 163, 3) := by decide +kernel
theorem d_Mo_back_9 : decode prog_11_method_43_code 9 = .ok (.ireturn, 1) := by decide +kernel
theorem d_Mo_back_10 : decode prog_11_method_43_code 10 = .ok (.astore_n 1, 1) := by decide +kernel
theorem d_Mo_back_11 : decode prog_11_method_43_code 11 = .ok (.aload_n 0, 1) := by decide +kernel
theorem d_Mo_back_12 : decode prog_11_method_43_code 12 = .ok (.iconst 1, 1) := by decide +kernel
theorem d_Mo_back_13 : decode prog_11_method_43_code 13 = .ok (.putfield 116, 3) := by decide +kernel
theorem d_Mo_back_16 : decode prog_11_method_43_code 16 = .ok (.iconst 0, 1) := by decide +kernel
theorem d_Mo_back_17 : decode prog_11_method_43_code 17 = .ok (.ireturn, 1) := by decide +kernel
