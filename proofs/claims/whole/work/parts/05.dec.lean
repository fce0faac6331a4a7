theorem d_Reader_takeByte_0 : decode prog_6_method_3_code 0 = .ok (.aload_n 0, 1) := by decide +kernel
theorem d_Reader_takeByte_1 : decode prog_6_method_3_code 1 = .ok (.invokevirtual 24, 3) := by decide +kernel
theorem d_Reader_takeByte_4 : decode prog_6_method_3_code 4 = .ok (.ifCond .gt 5, 3) := by decide +kernel
theorem d_Reader_takeByte_7 : decode prog_6_method_3_code 7 = .ok (.iconst (-1), 1) := by decide +kernel
theorem d_Reader_takeByte_8 : decode prog_6_method_3_code 8 = .ok (.ireturn, 1) := by decide +kernel
theorem d_Reader_takeByte_9 : decode prog_6_method_3_code 9 = .ok (.aload_n 0, 1) := by decide +kernel
theorem d_Reader_takeByte_10 : decode prog_6_method_3_code 10 = .ok (.getfield 15, 3) := by decide +kernel
theorem d_Reader_takeByte_13 : decode prog_6_method_3_code 13 = .ok (.aload_n 0, 1) := by decide +kernel
theorem d_Reader_takeByte_14 : decode prog_6_method_3_code 14 = .ok (.getfield 9, 3) := by decide +kernel
theorem d_Reader_takeByte_17 : decode prog_6_method_3_code 17 = .ok (.invokevirtual 28, 3) := by decide +kernel
theorem d_Reader_takeByte_20 : decode prog_6_method_3_code 20 = .ok (.istore_n 1, 1) := by decide +kernel
theorem d_Reader_takeByte_21 : decode prog_6_method_3_code 21 = .ok (.aload_n 0, 1) := by decide +kernel
theorem d_Reader_takeByte_22 : decode prog_6_method_3_code 22 = .ok (.dup, 1) := by decide +kernel
theorem d_Reader_takeByte_23 : decode prog_6_method_3_code 23 = .ok (.getfield 9, 3) := by decide +kernel
theorem d_Reader_takeByte_26 : decode prog_6_method_3_code 26 = .ok (.iconst 1, 1) := by decide +kernel
theorem d_Reader_takeByte_27 : decode prog_6_method_3_code 27 = .ok (.iadd, 1) := by decide +kernel
theorem d_Reader_takeByte_28 : decode prog_6_method_3_code 28 = .ok (.putfield 9, 3) := by decide +kernel
theorem d_Reader_takeByte_31 : decode prog_6_method_3_code 31 = .ok (.iload_n 1, 1) := by decide +kernel
theorem d_Reader_takeByte_32 : decode prog_6_method_3_code 32 = .ok (.ireturn, 1) := by decide +kernel
theorem d_Reader_takeRun_0 : decode prog_6_method_4_code 0 = .ok (.aload_n 2, 1) := by decide +kernel
theorem d_Reader_takeRun_1 : decode prog_6_method_4_code 1 = .ok (.aload_n 0, 1) := by decide +kernel
theorem d_Reader_takeRun_2 : decode prog_6_method_4_code 2 = .ok (.getfield 15, 3) := by decide +kernel
theorem d_Reader_takeRun_5 : decode prog_6_method_4_code 5 = .ok (.aload_n 0, 1) := by decide +kernel
theorem d_Reader_takeRun_6 : decode prog_6_method_4_code 6 = .ok (.getfield 9, 3) := by decide +kernel
theorem d_Reader_takeRun_9 : decode prog_6_method_4_code 9 = .ok (.iload_n 1, 1) := by decide +kernel
theorem d_Reader_takeRun_10 : decode prog_6_method_4_code 10 = .ok (.invokevirtual 32, 3) := by decide +kernel
theorem d_Reader_takeRun_13 : decode prog_6_method_4_code 13 = .ok (.aload_n 0, 1) := by decide +kernel
theorem d_Reader_takeRun_14 : decode prog_6_method_4_code 14 = .ok (.dup, 1) := by decide +kernel
theorem d_Reader_takeRun_15 : decode prog_6_method_4_code 15 = .ok (.getfield 9, 3) := by decide +kernel
theorem d_Reader_takeRun_18 : decode prog_6_method_4_code 18 = .ok (.iload_n 1, 1) := by decide +kernel
theorem d_Reader_takeRun_19 : decode prog_6_method_4_code 19 = .ok (.iadd, 1) := by decide +kernel
theorem d_Reader_takeRun_20 : decode prog_6_method_4_code 20 = .ok (.putfield 9, 3) := by decide +kernel
theorem d_Reader_takeRun_23 : decode prog_6_method_4_code 23 = .ok (.return_, 1) := by decide +kernel
theorem d_Reader_takeVarint_0 : decode prog_6_method_5_code 0 = .ok (.iconst 0, 1) := by decide +kernel
theorem d_Reader_takeVarint_1 : decode prog_6_method_5_code 1 = .ok (.istore_n 1, 1) := by decide +kernel
theorem d_Reader_takeVarint_2 : decode prog_6_method_5_code 2 = .ok (.iconst 0, 1) := by decide +kernel
theorem d_Reader_takeVarint_3 : decode prog_6_method_5_code 3 = .ok (.istore_n 2, 1) := by decide +kernel
theorem d_Reader_takeVarint_4 : decode prog_6_method_5_code 4 = .ok (.iload_n 2, 1) := by decide +kernel
theorem d_Reader_takeVarint_5 : decode prog_6_method_5_code 5 = .ok (.bipush 28, 2) := by decide +kernel
theorem d_Reader_takeVarint_7 : decode prog_6_method_5_code 7 = .ok (.if_icmp .gt 63, 3) := by decide +kernel
theorem d_Reader_takeVarint_10 : decode prog_6_method_5_code 10 = .ok (.aload_n 0, 1) := by decide +kernel
theorem d_Reader_takeVarint_11 : decode prog_6_method_5_code 11 = .ok (.invokevirtual 38, 3) := by decide +kernel
theorem d_Reader_takeVarint_14 : decode prog_6_method_5_code 14 = .ok (.istore_n 3, 1) := by decide +kernel
theorem d_Reader_takeVarint_15 : decode prog_6_method_5_code 15 = .ok (.iload_n 3, 1) := by decide +kernel
theorem d_Reader_takeVarint_16 : decode prog_6_method_5_code 16 = .ok (.iconst (-1), 1) := by decide +kernel
theorem d_Reader_takeVarint_17 : decode prog_6_method_5_code 17 = .ok (.if_icmp .eq 15, 3) := by decide +kernel
theorem d_Reader_takeVarint_20 : decode prog_6_method_5_code 20 = .ok (.iload_n 2, 1) := by decide +kernel
theorem d_Reader_takeVarint_21 : decode prog_6_method_5_code 21 = .ok (.bipush 28, 2) := by decide +kernel
theorem d_Reader_takeVarint_23 : decode prog_6_method_5_code 23 = .ok (.if_icmp .ne 11, 3) := by decide +kernel
theorem d_Reader_takeVarint_26 : decode prog_6_method_5_code 26 = .ok (.iload_n 3, 1) := by decide +kernel
theorem d_Reader_takeVarint_27 : decode prog_6_method_5_code 27 = .ok (.bipush 7, 2) := by decide +kernel
theorem d_Reader_takeVarint_29 : decode prog_6_method_5_code 29 = .ok (.if_icmp .le 5, 3) := by decide +kernel
theorem d_Reader_takeVarint_32 : decode prog_6_method_5_code 32 = .ok (.iconst (-1), 1) := by decide +kernel
theorem d_Reader_takeVarint_33 : decode prog_6_method_5_code 33 = .ok (.ireturn, 1) := by decide +kernel
theorem d_Reader_takeVarint_34 : decode prog_6_method_5_code 34 = .ok (.iload_n 1, 1) := by decide +kernel
theorem d_Reader_takeVarint_35 : decode prog_6_method_5_code 35 = .ok (.iload_n 3, 1) := by decide +kernel
theorem d_Reader_takeVarint_36 : decode prog_6_method_5_code 36 = .ok (.bipush 127, 2) := by decide +kernel
theorem d_Reader_takeVarint_38 : decode prog_6_method_5_code 38 = .ok (.iand, 1) := by decide +kernel
theorem d_Reader_takeVarint_39 : decode prog_6_method_5_code 39 = .ok (.iload_n 2, 1) := by decide +kernel
theorem d_Reader_takeVarint_40 : decode prog_6_method_5_code 40 = .ok (.ishl, 1) := by decide +kernel
theorem d_Reader_takeVarint_41 : decode prog_6_method_5_code 41 = .ok (.ior, 1) := by decide +kernel
theorem d_Reader_takeVarint_42 : decode prog_6_method_5_code 42 = .ok (.istore_n 1, 1) := by decide +kernel
theorem d_Reader_takeVarint_43 : decode prog_6_method_5_code 43 = .ok (.iload_n 3, 1) := by decide +kernel
theorem d_Reader_takeVarint_44 : decode prog_6_method_5_code 44 = .ok (.sipush 128, 3) := by decide +kernel
theorem d_Reader_takeVarint_47 : decode prog_6_method_5_code 47 = .ok (.if_icmp .ge 17, 3) := by decide +kernel
theorem d_Reader_takeVarint_50 : decode prog_6_method_5_code 50 = .ok (.iload_n 3, 1) := by decide +kernel
theorem d_Reader_takeVarint_51 : decode prog_6_method_5_code 51 = .ok (.ifCond .ne 11, 3) := by decide +kernel
theorem d_Reader_takeVarint_54 : decode prog_6_method_5_code 54 = .ok (.iload_n 2, 1) := by decide +kernel
theorem d_Reader_takeVarint_55 : decode prog_6_method_5_code 55 = .ok (.ifCond .le 7, 3) := by decide +kernel
theorem d_Reader_takeVarint_58 : decode prog_6_method_5_code 58 = .ok (.iconst (-1), 1) := by decide +kernel
theorem d_Reader_takeVarint_59 : decode prog_6_method_5_code 59 = .ok (.goto 4, 3) := by decide +kernel
theorem d_Reader_takeVarint_62 : decode prog_6_method_5_code 62 = .ok (.iload_n 1, 1) := by decide +kernel
theorem d_Reader_takeVarint_63 : decode prog_6_method_5_code 63 = .ok (.ireturn, 1) := by decide +kernel
theorem d_Reader_takeVarint_64 : decode prog_6_method_5_code 64 = .ok (.iinc 2 7, 3) := by decide +kernel
theorem d_Reader_takeVarint_67 : decode prog_6_method_5_code 67 = .ok (.goto (-63), 3) := by decide +kernel
theorem d_Reader_takeVarint_70 : decode prog_6_method_5_code 70 = .ok (.iconst (-1), 1) := by decide +kernel
theorem d_Reader_takeVarint_71 : decode prog_6_method_5_code 71 = .ok (.ireturn, 1) := by decide +kernel
theorem d_Reader_takeCharacter_0 : decode prog_6_method_6_code 0 = .ok (.aload_n 0, 1) := by decide +kernel
theorem d_Reader_takeCharacter_1 : decode prog_6_method_6_code 1 = .ok (.invokevirtual 38, 3) := by decide +kernel
theorem d_Reader_takeCharacter_4 : decode prog_6_method_6_code 4 = .ok (.istore_n 1, 1) := by decide +kernel
theorem d_Reader_takeCharacter_5 : decode prog_6_method_6_code 5 = .ok (.iload_n 1, 1) := by decide +kernel
theorem d_Reader_takeCharacter_6 : decode prog_6_method_6_code 6 = .ok (.invokestatic 41, 3) := by decide +kernel
theorem d_Reader_takeCharacter_9 : decode prog_6_method_6_code 9 = .ok (.istore_n 2, 1) := by decide +kernel
theorem d_Reader_takeCharacter_10 : decode prog_6_method_6_code 10 = .ok (.iload_n 2, 1) := by decide +kernel
theorem d_Reader_takeCharacter_11 : decode prog_6_method_6_code 11 = .ok (.iconst (-1), 1) := by decide +kernel
theorem d_Reader_takeCharacter_12 : decode prog_6_method_6_code 12 = .ok (.if_icmp .ne 5, 3) := by decide +kernel
theorem d_Reader_takeCharacter_15 : decode prog_6_method_6_code 15 = .ok (.iconst (-1), 1) := by decide +kernel
theorem d_Reader_takeCharacter_16 : decode prog_6_method_6_code 16 = .ok (.ireturn, 1) := by decide +kernel
theorem d_Reader_takeCharacter_17 : decode prog_6_method_6_code 17 = .ok (.iload_n 1, 1) := by decide +kernel
theorem d_Reader_takeCharacter_18 : decode prog_6_method_6_code 18 = .ok (.iload_n 2, 1) := by decide +kernel
theorem d_Reader_takeCharacter_19 : decode prog_6_method_6_code 19 = .ok (.invokestatic 46, 3) := by decide +kernel
theorem d_Reader_takeCharacter_22 : decode prog_6_method_6_code 22 = .ok (.isub, 1) := by decide +kernel
theorem d_Reader_takeCharacter_23 : decode prog_6_method_6_code 23 = .ok (.istore_n 3, 1) := by decide +kernel
theorem d_Reader_takeCharacter_24 : decode prog_6_method_6_code 24 = .ok (.iconst 1, 1) := by decide +kernel
theorem d_Reader_takeCharacter_25 : decode prog_6_method_6_code 25 = .ok (.istore 4, 2) := by decide +kernel
theorem d_Reader_takeCharacter_27 : decode prog_6_method_6_code 27 = .ok (.iload 4, 2) := by decide +kernel
theorem d_Reader_takeCharacter_29 : decode prog_6_method_6_code 29 = .ok (.iload_n 2, 1) := by decide +kernel
theorem d_Reader_takeCharacter_30 : decode prog_6_method_6_code 30 = .ok (.if_icmp .ge 45, 3) := by decide +kernel
theorem d_Reader_takeCharacter_33 : decode prog_6_method_6_code 33 = .ok (.aload_n 0, 1) := by decide +kernel
theorem d_Reader_takeCharacter_34 : decode prog_6_method_6_code 34 = .ok (.invokevirtual 38, 3) := by decide +kernel
theorem d_Reader_takeCharacter_37 : decode prog_6_method_6_code 37 = .ok (.istore 5, 2) := by decide +kernel
theorem d_Reader_takeCharacter_39 : decode prog_6_method_6_code 39 = .ok (.iload 5, 2) := by decide +kernel
theorem d_Reader_takeCharacter_41 : decode prog_6_method_6_code 41 = .ok (.sipush 128, 3) := by decide +kernel
theorem d_Reader_takeCharacter_44 : decode prog_6_method_6_code 44 = .ok (.if_icmp .lt 11, 3) := by decide +kernel
theorem d_Reader_takeCharacter_47 : decode prog_6_method_6_code 47 = .ok (.iload 5, 2) := by decide +kernel
theorem d_Reader_takeCharacter_49 : decode prog_6_method_6_code 49 = .ok (.sipush 192, 3) := by decide +kernel
theorem d_Reader_takeCharacter_52 : decode prog_6_method_6_code 52 = .ok (.if_icmp .lt 5, 3) := by decide +kernel
theorem d_Reader_takeCharacter_55 : decode prog_6_method_6_code 55 = .ok (.iconst (-1), 1) := by decide +kernel
theorem d_Reader_takeCharacter_56 : decode prog_6_method_6_code 56 = .ok (.ireturn, 1) := by decide +kernel
theorem d_Reader_takeCharacter_57 : decode prog_6_method_6_code 57 = .ok (.iload_n 3, 1) := by decide +kernel
theorem d_Reader_takeCharacter_58 : decode prog_6_method_6_code 58 = .ok (.bipush 64, 2) := by decide +kernel
theorem d_Reader_takeCharacter_60 : decode prog_6_method_6_code 60 = .ok (.imul, 1) := by decide +kernel
theorem d_Reader_takeCharacter_61 : decode prog_6_method_6_code 61 = .ok (.iload 5, 2) := by decide +kernel
theorem d_Reader_takeCharacter_63 : decode prog_6_method_6_code 63 = .ok (.sipush 128, 3) := by decide +kernel
theorem d_Reader_takeCharacter_66 : decode prog_6_method_6_code 66 = .ok (.isub, 1) := by decide +kernel
theorem d_Reader_takeCharacter_67 : decode prog_6_method_6_code 67 = .ok (.iadd, 1) := by decide +kernel
theorem d_Reader_takeCharacter_68 : decode prog_6_method_6_code 68 = .ok (.istore_n 3, 1) := by decide +kernel
theorem d_Reader_takeCharacter_69 : decode prog_6_method_6_code 69 = .ok (.iinc 4 1, 3) := by decide +kernel
theorem d_Reader_takeCharacter_72 : decode prog_6_method_6_code 72 = .ok (.goto (-45), 3) := by decide +kernel
theorem d_Reader_takeCharacter_75 : decode prog_6_method_6_code 75 = .ok (.iload_n 3, 1) := by decide +kernel
theorem d_Reader_takeCharacter_76 : decode prog_6_method_6_code 76 = .ok (.invokestatic 49, 3) := by decide +kernel
theorem d_Reader_takeCharacter_79 : decode prog_6_method_6_code 79 = .ok (.ifCond .eq 15, 3) := by decide +kernel
theorem d_Reader_takeCharacter_82 : decode prog_6_method_6_code 82 = .ok (.iload_n 3, 1) := by decide +kernel
theorem d_Reader_takeCharacter_83 : decode prog_6_method_6_code 83 = .ok (.invokestatic 53, 3) := by decide +kernel
theorem d_Reader_takeCharacter_86 : decode prog_6_method_6_code 86 = .ok (.iload_n 2, 1) := by decide +kernel
theorem d_Reader_takeCharacter_87 : decode prog_6_method_6_code 87 = .ok (.if_icmp .ne 7, 3) := by decide +kernel
theorem d_Reader_takeCharacter_90 : decode prog_6_method_6_code 90 = .ok (.iload_n 3, 1) := by decide +kernel
theorem d_Reader_takeCharacter_91 : decode prog_6_method_6_code 91 = .ok (.goto 4, 3) := by decide +kernel
theorem d_Reader_takeCharacter_94 : decode prog_6_method_6_code 94 = .ok (.iconst (-1), 1) := by decide +kernel
theorem d_Reader_takeCharacter_95 : decode prog_6_method_6_code 95 = .ok (.ireturn, 1) := by decide +kernel
theorem d_Reader_takeAllVarints_0 : decode prog_6_method_7_code 0 = .ok (.aload_n 1, 1) := by decide +kernel
theorem d_Reader_takeAllVarints_1 : decode prog_6_method_7_code 1 = .ok (.iconst 0, 1) := by decide +kernel
theorem d_Reader_takeAllVarints_2 : decode prog_6_method_7_code 2 = .ok (.putfield 56, 3) := by decide +kernel
theorem d_Reader_takeAllVarints_5 : decode prog_6_method_7_code 5 = .ok (.iconst 0, 1) := by decide +kernel
theorem d_Reader_takeAllVarints_6 : decode prog_6_method_7_code 6 = .ok (.istore_n 2, 1) := by decide +kernel
theorem d_Reader_takeAllVarints_7 : decode prog_6_method_7_code 7 = .ok (.iload_n 2, 1) := by decide +kernel
theorem d_Reader_takeAllVarints_8 : decode prog_6_method_7_code 8 = .ok (.ldc 59, 2) := by decide +kernel
theorem d_Reader_takeAllVarints_10 : decode prog_6_method_7_code 10 = .ok (.if_icmp .ge 33, 3) := by decide +kernel
theorem d_Reader_takeAllVarints_13 : decode prog_6_method_7_code 13 = .ok (.aload_n 0, 1) := by decide +kernel
theorem d_Reader_takeAllVarints_14 : decode prog_6_method_7_code 14 = .ok (.invokevirtual 24, 3) := by decide +kernel
theorem d_Reader_takeAllVarints_17 : decode prog_6_method_7_code 17 = .ok (.ifCond .le 26, 3) := by decide +kernel
theorem d_Reader_takeAllVarints_20 : decode prog_6_method_7_code 20 = .ok (.aload_n 0, 1) := by decide +kernel
theorem d_Reader_takeAllVarints_21 : decode prog_6_method_7_code 21 = .ok (.invokevirtual 60, 3) := by decide +kernel
theorem d_Reader_takeAllVarints_24 : decode prog_6_method_7_code 24 = .ok (.istore_n 3, 1) := by decide +kernel
theorem d_Reader_takeAllVarints_25 : decode prog_6_method_7_code 25 = .ok (.iload_n 3, 1) := by decide +kernel
theorem d_Reader_takeAllVarints_26 : decode prog_6_method_7_code 26 = .ok (.iconst (-1), 1) := by decide +kernel
theorem d_Reader_takeAllVarints_27 : decode prog_6_method_7_code 27 = .ok (.if_icmp .ne 5, 3) := by decide +kernel
theorem d_Reader_takeAllVarints_30 : decode prog_6_method_7_code 30 = .ok (.iconst 0, 1) := by decide +kernel
theorem d_Reader_takeAllVarints_31 : decode prog_6_method_7_code 31 = .ok (.ireturn, 1) := by decide +kernel
theorem d_Reader_takeAllVarints_32 : decode prog_6_method_7_code 32 = .ok (.aload_n 1, 1) := by decide +kernel
theorem d_Reader_takeAllVarints_33 : decode prog_6_method_7_code 33 = .ok (.iload_n 3, 1) := by decide +kernel
theorem d_Reader_takeAllVarints_34 : decode prog_6_method_7_code 34 = .ok (.invokevirtual 63, 3) := by decide +kernel
theorem d_Reader_takeAllVarints_37 : decode prog_6_method_7_code 37 = .ok (.iinc 2 1, 3) := by decide +kernel
theorem d_Reader_takeAllVarints_40 : decode prog_6_method_7_code 40 = .ok (.goto (-33), 3) := by decide +kernel
theorem d_Reader_takeAllVarints_43 : decode prog_6_method_7_code 43 = .ok (.aload_n 0, 1) := by decide +kernel
theorem d_Reader_takeAllVarints_44 : decode prog_6_method_7_code 44 = .ok (.invokevirtual 24, 3) := by decide +kernel
theorem d_Reader_takeAllVarints_47 : decode prog_6_method_7_code 47 = .ok (.ifCond .ne 7, 3) := by decide +kernel
theorem d_Reader_takeAllVarints_50 : decode prog_6_method_7_code 50 = .ok (.iconst 1, 1) := by decide +kernel
theorem d_Reader_takeAllVarints_51 : decode prog_6_method_7_code 51 = .ok (.goto 4, 3) := by decide +kernel
theorem d_Reader_takeAllVarints_54 : decode prog_6_method_7_code 54 = .ok (.iconst 0, 1) := by decide +kernel
theorem d_Reader_takeAllVarints_55 : decode prog_6_method_7_code 55 = .ok (.ireturn, 1) := by decide +kernel
theorem d_Reader_takeAllCharacters_0 : decode prog_6_method_8_code 0 = .ok (.aload_n 1, 1) := by decide +kernel
theorem d_Reader_takeAllCharacters_1 : decode prog_6_method_8_code 1 = .ok (.iconst 0, 1) := by decide +kernel
theorem d_Reader_takeAllCharacters_2 : decode prog_6_method_8_code 2 = .ok (.putfield 56, 3) := by decide +kernel
theorem d_Reader_takeAllCharacters_5 : decode prog_6_method_8_code 5 = .ok (.iconst 0, 1) := by decide +kernel
theorem d_Reader_takeAllCharacters_6 : decode prog_6_method_8_code 6 = .ok (.istore_n 2, 1) := by decide +kernel
theorem d_Reader_takeAllCharacters_7 : decode prog_6_method_8_code 7 = .ok (.iload_n 2, 1) := by decide +kernel
theorem d_Reader_takeAllCharacters_8 : decode prog_6_method_8_code 8 = .ok (.ldc 59, 2) := by decide +kernel
theorem d_Reader_takeAllCharacters_10 : decode prog_6_method_8_code 10 = .ok (.if_icmp .ge 33, 3) := by decide +kernel
theorem d_Reader_takeAllCharacters_13 : decode prog_6_method_8_code 13 = .ok (.aload_n 0, 1) := by decide +kernel
theorem d_Reader_takeAllCharacters_14 : decode prog_6_method_8_code 14 = .ok (.invokevirtual 24, 3) := by decide +kernel
theorem d_Reader_takeAllCharacters_17 : decode prog_6_method_8_code 17 = .ok (.ifCond .le 26, 3) := by decide +kernel
theorem d_Reader_takeAllCharacters_20 : decode prog_6_method_8_code 20 = .ok (.aload_n 0, 1) := by decide +kernel
theorem d_Reader_takeAllCharacters_21 : decode prog_6_method_8_code 21 = .ok (.invokevirtual 67, 3) := by decide +kernel
theorem d_Reader_takeAllCharacters_24 : decode prog_6_method_8_code 24 = .ok (.istore_n 3, 1) := by decide +kernel
theorem d_Reader_takeAllCharacters_25 : decode prog_6_method_8_code 25 = .ok (.iload_n 3, 1) := by decide +kernel
theorem d_Reader_takeAllCharacters_26 : decode prog_6_method_8_code 26 = .ok (.iconst (-1), 1) := by decide +kernel
theorem d_Reader_takeAllCharacters_27 : decode prog_6_method_8_code 27 = .ok (.if_icmp .ne 5, 3) := by decide +kernel
theorem d_Reader_takeAllCharacters_30 : decode prog_6_method_8_code 30 = .ok (.iconst 0, 1) := by decide +kernel
theorem d_Reader_takeAllCharacters_31 : decode prog_6_method_8_code 31 = .ok (.ireturn, 1) := by decide +kernel
theorem d_Reader_takeAllCharacters_32 : decode prog_6_method_8_code 32 = .ok (.aload_n 1, 1) := by decide +kernel
theorem d_Reader_takeAllCharacters_33 : decode prog_6_method_8_code 33 = .ok (.iload_n 3, 1) := by decide +kernel
theorem d_Reader_takeAllCharacters_34 : decode prog_6_method_8_code 34 = .ok (.invokevirtual 63, 3) := by decide +kernel
theorem d_Reader_takeAllCharacters_37 : decode prog_6_method_8_code 37 = .ok (.iinc 2 1, 3) := by decide +kernel
theorem d_Reader_takeAllCharacters_40 : decode prog_6_method_8_code 40 = .ok (.goto (-33), 3) := by decide +kernel
theorem d_Reader_takeAllCharacters_43 : decode prog_6_method_8_code 43 = .ok (.aload_n 0, 1) := by decide +kernel
theorem d_Reader_takeAllCharacters_44 : decode prog_6_method_8_code 44 = .ok (.invokevirtual 24, 3) := by decide +kernel
theorem d_Reader_takeAllCharacters_47 : decode prog_6_method_8_code 47 = .ok (.ifCond .ne 7, 3) := by decide +kernel
theorem d_Reader_takeAllCharacters_50 : decode prog_6_method_8_code 50 = .ok (.iconst 1, 1) := by decide +kernel
theorem d_Reader_takeAllCharacters_51 : decode prog_6_method_8_code 51 = .ok (.goto 4, 3) := by decide +kernel
theorem d_Reader_takeAllCharacters_54 : decode prog_6_method_8_code 54 = .ok (.iconst 0, 1) := by decide +kernel
theorem d_Reader_takeAllCharacters_55 : decode prog_6_method_8_code 55 = .ok (.ireturn, 1) := by decide +kernel
theorem d_Unpacker_write_0 : decode prog_7_method_2_code 0 = .ok (.aload_n 1, 1) := by decide +kernel
theorem d_Unpacker_write_1 : decode prog_7_method_2_code 1 = .ok (.iconst 0, 1) := by decide +kernel
theorem d_Unpacker_write_2 : decode prog_7_method_2_code 2 = .ok (.putfield 9, 3) := by decide +kernel
theorem d_Unpacker_write_5 : decode prog_7_method_2_code 5 = .ok (.aload_n 0, 1) := by decide +kernel
theorem d_Unpacker_write_6 : decode prog_7_method_2_code 6 = .ok (.invokevirtual 15, 3) := by decide +kernel
theorem d_Unpacker_write_9 : decode prog_7_method_2_code 9 = .ok (.istore_n 2, 1) := by decide +kernel
theorem d_Unpacker_write_10 : decode prog_7_method_2_code 10 = .ok (.iload_n 2, 1) := by decide +kernel
theorem d_Unpacker_write_11 : decode prog_7_method_2_code 11 = .ok (.iconst (-1), 1) := by decide +kernel
theorem d_Unpacker_write_12 : decode prog_7_method_2_code 12 = .ok (.if_icmp .eq 9, 3) := by decide +kernel
theorem d_Unpacker_write_15 : decode prog_7_method_2_code 15 = .ok (.iload_n 2, 1) := by decide +kernel
theorem d_Unpacker_write_16 : decode prog_7_method_2_code 16 = .ok (.ldc 21, 2) := by decide +kernel
theorem d_Unpacker_write_18 : decode prog_7_method_2_code 18 = .ok (.if_icmp .le 5, 3) := by decide +kernel
theorem d_Unpacker_write_21 : decode prog_7_method_2_code 21 = .ok (.iconst 0, 1) := by decide +kernel
theorem d_Unpacker_write_22 : decode prog_7_method_2_code 22 = .ok (.ireturn, 1) := by decide +kernel
theorem d_Unpacker_write_23 : decode prog_7_method_2_code 23 = .ok (.iconst 0, 1) := by decide +kernel
theorem d_Unpacker_write_24 : decode prog_7_method_2_code 24 = .ok (.istore_n 3, 1) := by decide +kernel
theorem d_Unpacker_write_25 : decode prog_7_method_2_code 25 = .ok (.iload_n 3, 1) := by decide +kernel
theorem d_Unpacker_write_26 : decode prog_7_method_2_code 26 = .ok (.ldc 21, 2) := by decide +kernel
theorem d_Unpacker_write_28 : decode prog_7_method_2_code 28 = .ok (.if_icmp .ge 33, 3) := by decide +kernel
theorem d_Unpacker_write_31 : decode prog_7_method_2_code 31 = .ok (.aload_n 1, 1) := by decide +kernel
theorem d_Unpacker_write_32 : decode prog_7_method_2_code 32 = .ok (.getfield 9, 3) := by decide +kernel
theorem d_Unpacker_write_35 : decode prog_7_method_2_code 35 = .ok (.iload_n 2, 1) := by decide +kernel
theorem d_Unpacker_write_36 : decode prog_7_method_2_code 36 = .ok (.if_icmp .ge 25, 3) := by decide +kernel
theorem d_Unpacker_write_39 : decode prog_7_method_2_code 39 = .ok (.aload_n 0, 1) := by decide +kernel
theorem d_Unpacker_write_40 : decode prog_7_method_2_code 40 = .ok (.aload_n 1, 1) := by decide +kernel
theorem d_Unpacker_write_41 : decode prog_7_method_2_code 41 = .ok (.iload_n 2, 1) := by decide +kernel
theorem d_Unpacker_write_42 : decode prog_7_method_2_code 42 = .ok (.aload_n 1, 1) := by decide +kernel
theorem d_Unpacker_write_43 : decode prog_7_method_2_code 43 = .ok (.getfield 9, 3) := by decide +kernel
theorem d_Unpacker_write_46 : decode prog_7_method_2_code 46 = .ok (.isub, 1) := by decide +kernel
theorem d_Unpacker_write_47 : decode prog_7_method_2_code 47 = .ok (.invokestatic 22, 3) := by decide +kernel
theorem d_Unpacker_write_50 : decode prog_7_method_2_code 50 = .ok (.ifCond .ne 5, 3) := by decide +kernel
theorem d_Unpacker_write_53 : decode prog_7_method_2_code 53 = .ok (.iconst 0, 1) := by decide +kernel
theorem d_Unpacker_write_54 : decode prog_7_method_2_code 54 = .ok (.ireturn, 1) := by decide +kernel
theorem d_Unpacker_write_55 : decode prog_7_method_2_code 55 = .ok (.iinc 3 1, 3) := by decide +kernel
theorem d_Unpacker_write_58 : decode prog_7_method_2_code 58 = .ok (.goto (-33), 3) := by decide +kernel
theorem d_Unpacker_write_61 : decode prog_7_method_2_code 61 = .ok (.aload_n 1, 1) := by decide +kernel
theorem d_Unpacker_write_62 : decode prog_7_method_2_code 62 = .ok (.getfield 9, 3) := by decide +kernel
theorem d_Unpacker_write_65 : decode prog_7_method_2_code 65 = .ok (.iload_n 2, 1) := by decide +kernel
theorem d_Unpacker_write_66 : decode prog_7_method_2_code 66 = .ok (.if_icmp .ne 14, 3) := by decide +kernel
theorem d_Unpacker_write_69 : decode prog_7_method_2_code 69 = .ok (.aload_n 0, 1) := by decide +kernel
theorem d_Unpacker_write_70 : decode prog_7_method_2_code 70 = .ok (.invokevirtual 28, 3) := by decide +kernel
theorem d_Unpacker_write_73 : decode prog_7_method_2_code 73 = .ok (.ifCond .ne 7, 3) := by decide +kernel
theorem d_Unpacker_write_76 : decode prog_7_method_2_code 76 = .ok (.iconst 1, 1) := by decide +kernel
theorem d_Unpacker_write_77 : decode prog_7_method_2_code 77 = .ok (.goto 4, 3) := by decide +kernel
theorem d_Unpacker_write_80 : decode prog_7_method_2_code 80 = .ok (.iconst 0, 1) := by decide +kernel
theorem d_Unpacker_write_81 : decode prog_7_method_2_code 81 = .ok (.ireturn, 1) := by decide +kernel
theorem d_Unpacker_writePiece_0 : decode prog_7_method_3_code 0 = .ok (.aload_n 0, 1) := by decide +kernel
theorem d_Unpacker_writePiece_1 : decode prog_7_method_3_code 1 = .ok (.invokevirtual 15, 3) := by decide +kernel
theorem d_Unpacker_writePiece_4 : decode prog_7_method_3_code 4 = .ok (.istore_n 3, 1) := by decide +kernel
theorem d_Unpacker_writePiece_5 : decode prog_7_method_3_code 5 = .ok (.iload_n 3, 1) := by decide +kernel
theorem d_Unpacker_writePiece_6 : decode prog_7_method_3_code 6 = .ok (.iconst (-1), 1) := by decide +kernel
theorem d_Unpacker_writePiece_7 : decode prog_7_method_3_code 7 = .ok (.if_icmp .eq 10, 3) := by decide +kernel
theorem d_Unpacker_writePiece_10 : decode prog_7_method_3_code 10 = .ok (.iload_n 3, 1) := by decide +kernel
theorem d_Unpacker_writePiece_11 : decode prog_7_method_3_code 11 = .ok (.iconst 2, 1) := by decide +kernel
theorem d_Unpacker_writePiece_12 : decode prog_7_method_3_code 12 = .ok (.idiv, 1) := by decide +kernel
theorem d_Unpacker_writePiece_13 : decode prog_7_method_3_code 13 = .ok (.iload_n 2, 1) := by decide +kernel
theorem d_Unpacker_writePiece_14 : decode prog_7_method_3_code 14 = .ok (.if_icmp .le 5, 3) := by decide +kernel
theorem d_Unpacker_writePiece_17 : decode prog_7_method_3_code 17 = .ok (.iconst 0, 1) := by decide +kernel
theorem d_Unpacker_writePiece_18 : decode prog_7_method_3_code 18 = .ok (.ireturn, 1) := by decide +kernel
theorem d_Unpacker_writePiece_19 : decode prog_7_method_3_code 19 = .ok (.iload_n 3, 1) := by decide +kernel
theorem d_Unpacker_writePiece_20 : decode prog_7_method_3_code 20 = .ok (.iconst 2, 1) := by decide +kernel
theorem d_Unpacker_writePiece_21 : decode prog_7_method_3_code 21 = .ok (.irem, 1) := by decide +kernel
theorem d_Unpacker_writePiece_22 : decode prog_7_method_3_code 22 = .ok (.ifCond .ne 14, 3) := by decide +kernel
theorem d_Unpacker_writePiece_25 : decode prog_7_method_3_code 25 = .ok (.aload_n 0, 1) := by decide +kernel
theorem d_Unpacker_writePiece_26 : decode prog_7_method_3_code 26 = .ok (.aload_n 1, 1) := by decide +kernel
theorem d_Unpacker_writePiece_27 : decode prog_7_method_3_code 27 = .ok (.iload_n 3, 1) := by decide +kernel
theorem d_Unpacker_writePiece_28 : decode prog_7_method_3_code 28 = .ok (.iconst 2, 1) := by decide +kernel
theorem d_Unpacker_writePiece_29 : decode prog_7_method_3_code 29 = .ok (.idiv, 1) := by decide +kernel
theorem d_Unpacker_writePiece_30 : decode prog_7_method_3_code 30 = .ok (.invokestatic 31, 3) := by decide +kernel
theorem d_Unpacker_writePiece_33 : decode prog_7_method_3_code 33 = .ok (.goto 11, 3) := by decide +kernel
theorem d_Unpacker_writePiece_36 : decode prog_7_method_3_code 36 = .ok (.aload_n 0, 1) := by decide +kernel
theorem d_Unpacker_writePiece_37 : decode prog_7_method_3_code 37 = .ok (.aload_n 1, 1) := by decide +kernel
theorem d_Unpacker_writePiece_38 : decode prog_7_method_3_code 38 = .ok (.iload_n 3, 1) := by decide +kernel
theorem d_Unpacker_writePiece_39 : decode prog_7_method_3_code 39 = .ok (.iconst 2, 1) := by decide +kernel
theorem d_Unpacker_writePiece_40 : decode prog_7_method_3_code 40 = .ok (.idiv, 1) := by decide +kernel
theorem d_Unpacker_writePiece_41 : decode prog_7_method_3_code 41 = .ok (.invokestatic 34, 3) := by decide +kernel
theorem d_Unpacker_writePiece_44 : decode prog_7_method_3_code 44 = .ok (.ireturn, 1) := by decide +kernel
theorem d_Unpacker_writePlain_0 : decode prog_7_method_4_code 0 = .ok (.iload_n 2, 1) := by decide +kernel
theorem d_Unpacker_writePlain_1 : decode prog_7_method_4_code 1 = .ok (.iconst 1, 1) := by decide +kernel
theorem d_Unpacker_writePlain_2 : decode prog_7_method_4_code 2 = .ok (.if_icmp .lt 11, 3) := by decide +kernel
theorem d_Unpacker_writePlain_5 : decode prog_7_method_4_code 5 = .ok (.iload_n 2, 1) := by decide +kernel
theorem d_Unpacker_writePlain_6 : decode prog_7_method_4_code 6 = .ok (.aload_n 0, 1) := by decide +kernel
theorem d_Unpacker_writePlain_7 : decode prog_7_method_4_code 7 = .ok (.invokevirtual 28, 3) := by decide +kernel
theorem d_Unpacker_writePlain_10 : decode prog_7_method_4_code 10 = .ok (.if_icmp .le 5, 3) := by decide +kernel
theorem d_Unpacker_writePlain_13 : decode prog_7_method_4_code 13 = .ok (.iconst 0, 1) := by decide +kernel
theorem d_Unpacker_writePlain_14 : decode prog_7_method_4_code 14 = .ok (.ireturn, 1) := by decide +kernel
theorem d_Unpacker_writePlain_15 : decode prog_7_method_4_code 15 = .ok (.aload_n 0, 1) := by decide +kernel
theorem d_Unpacker_writePlain_16 : decode prog_7_method_4_code 16 = .ok (.iload_n 2, 1) := by decide +kernel
theorem d_Unpacker_writePlain_17 : decode prog_7_method_4_code 17 = .ok (.aload_n 1, 1) := by decide +kernel
theorem d_Unpacker_writePlain_18 : decode prog_7_method_4_code 18 = .ok (.invokevirtual 37, 3) := by decide +kernel
theorem d_Unpacker_writePlain_21 : decode prog_7_method_4_code 21 = .ok (.iconst 1, 1) := by decide +kernel
theorem d_Unpacker_writePlain_22 : decode prog_7_method_4_code 22 = .ok (.ireturn, 1) := by decide +kernel
theorem d_Unpacker_writePointed_0 : decode prog_7_method_5_code 0 = .ok (.aload_n 0, 1) := by decide +kernel
theorem d_Unpacker_writePointed_1 : decode prog_7_method_5_code 1 = .ok (.invokevirtual 15, 3) := by decide +kernel
theorem d_Unpacker_writePointed_4 : decode prog_7_method_5_code 4 = .ok (.istore_n 3, 1) := by decide +kernel
theorem d_Unpacker_writePointed_5 : decode prog_7_method_5_code 5 = .ok (.iload_n 2, 1) := by decide +kernel
theorem d_Unpacker_writePointed_6 : decode prog_7_method_5_code 6 = .ok (.iconst 4, 1) := by decide +kernel
theorem d_Unpacker_writePointed_7 : decode prog_7_method_5_code 7 = .ok (.if_icmp .lt 16, 3) := by decide +kernel
theorem d_Unpacker_writePointed_10 : decode prog_7_method_5_code 10 = .ok (.iload_n 3, 1) := by decide +kernel
theorem d_Unpacker_writePointed_11 : decode prog_7_method_5_code 11 = .ok (.iconst 1, 1) := by decide +kernel
theorem d_Unpacker_writePointed_12 : decode prog_7_method_5_code 12 = .ok (.if_icmp .lt 11, 3) := by decide +kernel
theorem d_Unpacker_writePointed_15 : decode prog_7_method_5_code 15 = .ok (.iload_n 3, 1) := by decide +kernel
theorem d_Unpacker_writePointed_16 : decode prog_7_method_5_code 16 = .ok (.aload_n 1, 1) := by decide +kernel
theorem d_Unpacker_writePointed_17 : decode prog_7_method_5_code 17 = .ok (.getfield 9, 3) := by decide +kernel
theorem d_Unpacker_writePointed_20 : decode prog_7_method_5_code 20 = .ok (.if_icmp .le 5, 3) := by decide +kernel
theorem d_Unpacker_writePointed_23 : decode prog_7_method_5_code 23 = .ok (.iconst 0, 1) := by decide +kernel
theorem d_Unpacker_writePointed_24 : decode prog_7_method_5_code 24 = .ok (.ireturn, 1) := by decide +kernel
theorem d_Unpacker_writePointed_25 : decode prog_7_method_5_code 25 = .ok (.aload_n 1, 1) := by decide +kernel
theorem d_Unpacker_writePointed_26 : decode prog_7_method_5_code 26 = .ok (.iload_n 3, 1) := by decide +kernel
theorem d_Unpacker_writePointed_27 : decode prog_7_method_5_code 27 = .ok (.iload_n 2, 1) := by decide +kernel
theorem d_Unpacker_writePointed_28 : decode prog_7_method_5_code 28 = .ok (.invokevirtual 41, 3) := by decide +kernel
theorem d_Unpacker_writePointed_31 : decode prog_7_method_5_code 31 = .ok (.iconst 1, 1) := by decide +kernel
theorem d_Unpacker_writePointed_32 : decode prog_7_method_5_code 32 = .ok (.ireturn, 1) := by decide +kernel
theorem d_Utf8_isCharacter_0 : decode prog_8_method_2_code 0 = .ok (.iload_n 0, 1) := by decide +kernel
theorem d_Utf8_isCharacter_1 : decode prog_8_method_2_code 1 = .ok (.ifCond .lt 25, 3) := by decide +kernel
theorem d_Utf8_isCharacter_4 : decode prog_8_method_2_code 4 = .ok (.iload_n 0, 1) := by decide +kernel
theorem d_Utf8_isCharacter_5 : decode prog_8_method_2_code 5 = .ok (.ldc 11, 2) := by decide +kernel
theorem d_Utf8_isCharacter_7 : decode prog_8_method_2_code 7 = .ok (.if_icmp .gt 19, 3) := by decide +kernel
theorem d_Utf8_isCharacter_10 : decode prog_8_method_2_code 10 = .ok (.iload_n 0, 1) := by decide +kernel
theorem d_Utf8_isCharacter_11 : decode prog_8_method_2_code 11 = .ok (.ldc 12, 2) := by decide +kernel
theorem d_Utf8_isCharacter_13 : decode prog_8_method_2_code 13 = .ok (.if_icmp .lt 9, 3) := by decide +kernel
theorem d_Utf8_isCharacter_16 : decode prog_8_method_2_code 16 = .ok (.iload_n 0, 1) := by decide +kernel
theorem d_Utf8_isCharacter_17 : decode prog_8_method_2_code 17 = .ok (.ldc 13, 2) := by decide +kernel
theorem d_Utf8_isCharacter_19 : decode prog_8_method_2_code 19 = .ok (.if_icmp .le 7, 3) := by decide +kernel
theorem d_Utf8_isCharacter_22 : decode prog_8_method_2_code 22 = .ok (.iconst 1, 1) := by decide +kernel
theorem d_Utf8_isCharacter_23 : decode prog_8_method_2_code 23 = .ok (.goto 4, 3) := by decide +kernel
theorem d_Utf8_isCharacter_26 : decode prog_8_method_2_code 26 = .ok (.iconst 0, 1) := by decide +kernel
theorem d_Utf8_isCharacter_27 : decode prog_8_method_2_code 27 = .ok (.ireturn, 1) := by decide +kernel
theorem d_Utf8_size_0 : decode prog_8_method_3_code 0 = .ok (.iload_n 0, 1) := by decide +kernel
theorem d_Utf8_size_1 : decode prog_8_method_3_code 1 = .ok (.sipush 128, 3) := by decide +kernel
theorem d_Utf8_size_4 : decode prog_8_method_3_code 4 = .ok (.if_icmp .ge 5, 3) := by decide +kernel
theorem d_Utf8_size_7 : decode prog_8_method_3_code 7 = .ok (.iconst 1, 1) := by decide +kernel
theorem d_Utf8_size_8 : decode prog_8_method_3_code 8 = .ok (.ireturn, 1) := by decide +kernel
theorem d_Utf8_size_9 : decode prog_8_method_3_code 9 = .ok (.iload_n 0, 1) := by decide +kernel
theorem d_Utf8_size_10 : decode prog_8_method_3_code 10 = .ok (.sipush 2048, 3) := by decide +kernel
theorem d_Utf8_size_13 : decode prog_8_method_3_code 13 = .ok (.if_icmp .ge 5, 3) := by decide +kernel
theorem d_Utf8_size_16 : decode prog_8_method_3_code 16 = .ok (.iconst 2, 1) := by decide +kernel
theorem d_Utf8_size_17 : decode prog_8_method_3_code 17 = .ok (.ireturn, 1) := by decide +kernel
theorem d_Utf8_size_18 : decode prog_8_method_3_code 18 = .ok (.iload_n 0, 1) := by decide +kernel
theorem d_Utf8_size_19 : decode prog_8_method_3_code 19 = .ok (.ldc 14, 2) := by decide +kernel
theorem d_Utf8_size_21 : decode prog_8_method_3_code 21 = .ok (.if_icmp .ge 7, 3) := by decide +kernel
theorem d_Utf8_size_24 : decode prog_8_method_3_code 24 = .ok (.iconst 3, 1) := by decide +kernel
theorem d_Utf8_size_25 : decode prog_8_method_3_code 25 = .ok (.goto 4, 3) := by decide +kernel
theorem d_Utf8_size_28 : decode prog_8_method_3_code 28 = .ok (.iconst 4, 1) := by decide +kernel
theorem d_Utf8_size_29 : decode prog_8_method_3_code 29 = .ok (.ireturn, 1) := by decide +kernel
theorem d_Utf8_sizeByFirst_0 : decode prog_8_method_4_code 0 = .ok (.iload_n 0, 1) := by decide +kernel
theorem d_Utf8_sizeByFirst_1 : decode prog_8_method_4_code 1 = .ok (.ifCond .lt 24, 3) := by decide +kernel
theorem d_Utf8_sizeByFirst_4 : decode prog_8_method_4_code 4 = .ok (.iload_n 0, 1) := by decide +kernel
theorem d_Utf8_sizeByFirst_5 : decode prog_8_method_4_code 5 = .ok (.sipush 128, 3) := by decide +kernel
theorem d_Utf8_sizeByFirst_8 : decode prog_8_method_4_code 8 = .ok (.if_icmp .lt 10, 3) := by decide +kernel
theorem d_Utf8_sizeByFirst_11 : decode prog_8_method_4_code 11 = .ok (.iload_n 0, 1) := by decide +kernel
theorem d_Utf8_sizeByFirst_12 : decode prog_8_method_4_code 12 = .ok (.sipush 192, 3) := by decide +kernel
theorem d_Utf8_sizeByFirst_15 : decode prog_8_method_4_code 15 = .ok (.if_icmp .lt 10, 3) := by decide +kernel
theorem d_Utf8_sizeByFirst_18 : decode prog_8_method_4_code 18 = .ok (.iload_n 0, 1) := by decide +kernel
theorem d_Utf8_sizeByFirst_19 : decode prog_8_method_4_code 19 = .ok (.sipush 248, 3) := by decide +kernel
theorem d_Utf8_sizeByFirst_22 : decode prog_8_method_4_code 22 = .ok (.if_icmp .lt 5, 3) := by decide +kernel
theorem d_Utf8_sizeByFirst_25 : decode prog_8_method_4_code 25 = .ok (.iconst (-1), 1) := by decide +kernel
theorem d_Utf8_sizeByFirst_26 : decode prog_8_method_4_code 26 = .ok (.ireturn, 1) := by decide +kernel
theorem d_Utf8_sizeByFirst_27 : decode prog_8_method_4_code 27 = .ok (.iload_n 0, 1) := by decide +kernel
theorem d_Utf8_sizeByFirst_28 : decode prog_8_method_4_code 28 = .ok (.sipush 128, 3) := by decide +kernel
theorem d_Utf8_sizeByFirst_31 : decode prog_8_method_4_code 31 = .ok (.if_icmp .ge 5, 3) := by decide +kernel
theorem d_Utf8_sizeByFirst_34 : decode prog_8_method_4_code 34 = .ok (.iconst 1, 1) := by decide +kernel
theorem d_Utf8_sizeByFirst_35 : decode prog_8_method_4_code 35 = .ok (.ireturn, 1) := by decide +kernel
theorem d_Utf8_sizeByFirst_36 : decode prog_8_method_4_code 36 = .ok (.iload_n 0, 1) := by decide +kernel
theorem d_Utf8_sizeByFirst_37 : decode prog_8_method_4_code 37 = .ok (.sipush 224, 3) := by decide +kernel
theorem d_Utf8_sizeByFirst_40 : decode prog_8_method_4_code 40 = .ok (.if_icmp .ge 5, 3) := by decide +kernel
theorem d_Utf8_sizeByFirst_43 : decode prog_8_method_4_code 43 = .ok (.iconst 2, 1) := by decide +kernel
theorem d_Utf8_sizeByFirst_44 : decode prog_8_method_4_code 44 = .ok (.ireturn, 1) := by decide +kernel
theorem d_Utf8_sizeByFirst_45 : decode prog_8_method_4_code 45 = .ok (.iload_n 0, 1) := by decide +kernel
theorem d_Utf8_sizeByFirst_46 : decode prog_8_method_4_code 46 = .ok (.sipush 240, 3) := by decide +kernel
theorem d_Utf8_sizeByFirst_49 : decode prog_8_method_4_code 49 = .ok (.if_icmp .ge 7, 3) := by decide +kernel
theorem d_Utf8_sizeByFirst_52 : decode prog_8_method_4_code 52 = .ok (.iconst 3, 1) := by decide +kernel
theorem d_Utf8_sizeByFirst_53 : decode prog_8_method_4_code 53 = .ok (.goto 4, 3) := by decide +kernel
theorem d_Utf8_sizeByFirst_56 : decode prog_8_method_4_code 56 = .ok (.iconst 4, 1) := by decide +kernel
theorem d_Utf8_sizeByFirst_57 : decode prog_8_method_4_code 57 = .ok (.ireturn, 1) := by decide +kernel
theorem d_Utf8_markOfFirst_0 : decode prog_8_method_5_code 0 = .ok (.iload_n 0, 1) := by decide +kernel
theorem d_Utf8_markOfFirst_1 : decode prog_8_method_5_code 1 = .ok (.tableswitch 39 2 4 #[27, 31, 35], 27) := by decide +kernel
theorem d_Utf8_markOfFirst_28 : decode prog_8_method_5_code 28 = .ok (.sipush 192, 3) := by decide +kernel
theorem d_Utf8_markOfFirst_31 : decode prog_8_method_5_code 31 = .ok (.ireturn, 1) := by decide +kernel
theorem d_Utf8_markOfFirst_32 : decode prog_8_method_5_code 32 = .ok (.sipush 224, 3) := by decide +kernel
theorem d_Utf8_markOfFirst_35 : decode prog_8_method_5_code 35 = .ok (.ireturn, 1) := by decide +kernel
theorem d_Utf8_markOfFirst_36 : decode prog_8_method_5_code 36 = .ok (.sipush 240, 3) := by decide +kernel
theorem d_Utf8_markOfFirst_39 : decode prog_8_method_5_code 39 = .ok (.ireturn, 1) := by decide +kernel
theorem d_Utf8_markOfFirst_40 : decode prog_8_method_5_code 40 = .ok (.iconst 0, 1) := by decide +kernel
theorem d_Utf8_markOfFirst_41 : decode prog_8_method_5_code 41 = .ok (.ireturn, 1) := by decide +kernel
theorem d_Utf8_write_0 : decode prog_8_method_6_code 0 = .ok (.iload_n 0, 1) := by decide +kernel
theorem d_Utf8_write_1 : decode prog_8_method_6_code 1 = .ok (.invokestatic 15, 3) := by decide +kernel
theorem d_Utf8_write_4 : decode prog_8_method_6_code 4 = .ok (.istore_n 2, 1) := by decide +kernel
theorem d_Utf8_write_5 : decode prog_8_method_6_code 5 = .ok (.aload_n 1, 1) := by decide +kernel
theorem d_Utf8_write_6 : decode prog_8_method_6_code 6 = .ok (.iload_n 2, 1) := by decide +kernel
theorem d_Utf8_write_7 : decode prog_8_method_6_code 7 = .ok (.invokestatic 19, 3) := by decide +kernel
theorem d_Utf8_write_10 : decode prog_8_method_6_code 10 = .ok (.iload_n 0, 1) := by decide +kernel
theorem d_Utf8_write_11 : decode prog_8_method_6_code 11 = .ok (.bipush 6, 2) := by decide +kernel
theorem d_Utf8_write_13 : decode prog_8_method_6_code 13 = .ok (.iload_n 2, 1) := by decide +kernel
theorem d_Utf8_write_14 : decode prog_8_method_6_code 14 = .ok (.iconst 1, 1) := by decide +kernel
theorem d_Utf8_write_15 : decode prog_8_method_6_code 15 = .ok (.isub, 1) := by decide +kernel
theorem d_Utf8_write_16 : decode prog_8_method_6_code 16 = .ok (.imul, 1) := by decide +kernel
theorem d_Utf8_write_17 : decode prog_8_method_6_code 17 = .ok (.iushr, 1) := by decide +kernel
theorem d_Utf8_write_18 : decode prog_8_method_6_code 18 = .ok (.iadd, 1) := by decide +kernel
theorem d_Utf8_write_19 : decode prog_8_method_6_code 19 = .ok (.invokevirtual 22, 3) := by decide +kernel
theorem d_Utf8_write_22 : decode prog_8_method_6_code 22 = .ok (.iload_n 2, 1) := by decide +kernel
theorem d_Utf8_write_23 : decode prog_8_method_6_code 23 = .ok (.iconst 2, 1) := by decide +kernel
theorem d_Utf8_write_24 : decode prog_8_method_6_code 24 = .ok (.isub, 1) := by decide +kernel
theorem d_Utf8_write_25 : decode prog_8_method_6_code 25 = .ok (.istore_n 3, 1) := by decide +kernel
theorem d_Utf8_write_26 : decode prog_8_method_6_code 26 = .ok (.iload_n 3, 1) := by decide +kernel
theorem d_Utf8_write_27 : decode prog_8_method_6_code 27 = .ok (.ifCond .lt 26, 3) := by decide +kernel
theorem d_Utf8_write_30 : decode prog_8_method_6_code 30 = .ok (.aload_n 1, 1) := by decide +kernel
theorem d_Utf8_write_31 : decode prog_8_method_6_code 31 = .ok (.sipush 128, 3) := by decide +kernel
theorem d_Utf8_write_34 : decode prog_8_method_6_code 34 = .ok (.iload_n 0, 1) := by decide +kernel
theorem d_Utf8_write_35 : decode prog_8_method_6_code 35 = .ok (.bipush 6, 2) := by decide +kernel
theorem d_Utf8_write_37 : decode prog_8_method_6_code 37 = .ok (.iload_n 3, 1) := by decide +kernel
theorem d_Utf8_write_38 : decode prog_8_method_6_code 38 = .ok (.imul, 1) := by decide +kernel
theorem d_Utf8_write_39 : decode prog_8_method_6_code 39 = .ok (.iushr, 1) := by decide +kernel
theorem d_Utf8_write_40 : decode prog_8_method_6_code 40 = .ok (.bipush 63, 2) := by decide +kernel
theorem d_Utf8_write_42 : decode prog_8_method_6_code 42 = .ok (.iand, 1) := by decide +kernel
theorem d_Utf8_write_43 : decode prog_8_method_6_code 43 = .ok (.iadd, 1) := by decide +kernel
theorem d_Utf8_write_44 : decode prog_8_method_6_code 44 = .ok (.invokevirtual 22, 3) := by decide +kernel
theorem d_Utf8_write_47 : decode prog_8_method_6_code 47 = .ok (.iinc 3 (-1), 3) := by decide +kernel
theorem d_Utf8_write_50 : decode prog_8_method_6_code 50 = .ok (.goto (-24), 3) := by decide +kernel
theorem d_Utf8_write_53 : decode prog_8_method_6_code 53 = .ok (.return_, 1) := by decide +kernel
theorem d_Varints_size_0 : decode prog_9_method_2_code 0 = .ok (.iconst 1, 1) := by decide +kernel
theorem d_Varints_size_1 : decode prog_9_method_2_code 1 = .ok (.istore_n 1, 1) := by decide +kernel
theorem d_Varints_size_2 : decode prog_9_method_2_code 2 = .ok (.bipush 7, 2) := by decide +kernel
theorem d_Varints_size_4 : decode prog_9_method_2_code 4 = .ok (.istore_n 2, 1) := by decide +kernel
theorem d_Varints_size_5 : decode prog_9_method_2_code 5 = .ok (.iload_n 2, 1) := by decide +kernel
theorem d_Varints_size_6 : decode prog_9_method_2_code 6 = .ok (.bipush 28, 2) := by decide +kernel
theorem d_Varints_size_8 : decode prog_9_method_2_code 8 = .ok (.if_icmp .gt 18, 3) := by decide +kernel
theorem d_Varints_size_11 : decode prog_9_method_2_code 11 = .ok (.iload_n 0, 1) := by decide +kernel
theorem d_Varints_size_12 : decode prog_9_method_2_code 12 = .ok (.iload_n 2, 1) := by decide +kernel
theorem d_Varints_size_13 : decode prog_9_method_2_code 13 = .ok (.iushr, 1) := by decide +kernel
theorem d_Varints_size_14 : decode prog_9_method_2_code 14 = .ok (.ifCond .eq 12, 3) := by decide +kernel
theorem d_Varints_size_17 : decode prog_9_method_2_code 17 = .ok (.iinc 1 1, 3) := by decide +kernel
theorem d_Varints_size_20 : decode prog_9_method_2_code 20 = .ok (.iinc 2 7, 3) := by decide +kernel
theorem d_Varints_size_23 : decode prog_9_method_2_code 23 = .ok (.goto (-18), 3) := by decide +kernel
theorem d_Varints_size_26 : decode prog_9_method_2_code 26 = .ok (.iload_n 1, 1) := by decide +kernel
theorem d_Varints_size_27 : decode prog_9_method_2_code 27 = .ok (.ireturn, 1) := by decide +kernel
theorem d_Varints_write_0 : decode prog_9_method_3_code 0 = .ok (.iload_n 0, 1) := by decide +kernel
theorem d_Varints_write_1 : decode prog_9_method_3_code 1 = .ok (.invokestatic 9, 3) := by decide +kernel
theorem d_Varints_write_4 : decode prog_9_method_3_code 4 = .ok (.istore_n 2, 1) := by decide +kernel
theorem d_Varints_write_5 : decode prog_9_method_3_code 5 = .ok (.iconst 0, 1) := by decide +kernel
theorem d_Varints_write_6 : decode prog_9_method_3_code 6 = .ok (.istore_n 3, 1) := by decide +kernel
theorem d_Varints_write_7 : decode prog_9_method_3_code 7 = .ok (.iload_n 3, 1) := by decide +kernel
theorem d_Varints_write_8 : decode prog_9_method_3_code 8 = .ok (.iload_n 2, 1) := by decide +kernel
theorem d_Varints_write_9 : decode prog_9_method_3_code 9 = .ok (.iconst 1, 1) := by decide +kernel
theorem d_Varints_write_10 : decode prog_9_method_3_code 10 = .ok (.isub, 1) := by decide +kernel
theorem d_Varints_write_11 : decode prog_9_method_3_code 11 = .ok (.if_icmp .ge 26, 3) := by decide +kernel
theorem d_Varints_write_14 : decode prog_9_method_3_code 14 = .ok (.aload_n 1, 1) := by decide +kernel
theorem d_Varints_write_15 : decode prog_9_method_3_code 15 = .ok (.iload_n 0, 1) := by decide +kernel
theorem d_Varints_write_16 : decode prog_9_method_3_code 16 = .ok (.bipush 7, 2) := by decide +kernel
theorem d_Varints_write_18 : decode prog_9_method_3_code 18 = .ok (.iload_n 3, 1) := by decide +kernel
theorem d_Varints_write_19 : decode prog_9_method_3_code 19 = .ok (.imul, 1) := by decide +kernel
theorem d_Varints_write_20 : decode prog_9_method_3_code 20 = .ok (.iushr, 1) := by decide +kernel
theorem d_Varints_write_21 : decode prog_9_method_3_code 21 = .ok (.bipush 127, 2) := by decide +kernel
theorem d_Varints_write_23 : decode prog_9_method_3_code 23 = .ok (.iand, 1) := by decide +kernel
theorem d_Varints_write_24 : decode prog_9_method_3_code 24 = .ok (.sipush 128, 3) := by decide +kernel
theorem d_Varints_write_27 : decode prog_9_method_3_code 27 = .ok (.iadd, 1) := by decide +kernel
theorem d_Varints_write_28 : decode prog_9_method_3_code 28 = .ok (.invokevirtual 13, 3) := by decide +kernel
theorem d_Varints_write_31 : decode prog_9_method_3_code 31 = .ok (.iinc 3 1, 3) := by decide +kernel
theorem d_Varints_write_34 : decode prog_9_method_3_code 34 = .ok (.goto (-27), 3) := by decide +kernel
theorem d_Varints_write_37 : decode prog_9_method_3_code 37 = .ok (.aload_n 1, 1) := by decide +kernel
theorem d_Varints_write_38 : decode prog_9_method_3_code 38 = .ok (.iload_n 0, 1) := by decide +kernel
theorem d_Varints_write_39 : decode prog_9_method_3_code 39 = .ok (.bipush 7, 2) := by decide +kernel
theorem d_Varints_write_41 : decode prog_9_method_3_code 41 = .ok (.iload_n 2, 1) := by decide +kernel
theorem d_Varints_write_42 : decode prog_9_method_3_code 42 = .ok (.iconst 1, 1) := by decide +kernel
theorem d_Varints_write_43 : decode prog_9_method_3_code 43 = .ok (.isub, 1) := by decide +kernel
theorem d_Varints_write_44 : decode prog_9_method_3_code 44 = .ok (.imul, 1) := by decide +kernel
theorem d_Varints_write_45 : decode prog_9_method_3_code 45 = .ok (.iushr, 1) := by decide +kernel
theorem d_Varints_write_46 : decode prog_9_method_3_code 46 = .ok (.invokevirtual 13, 3) := by decide +kernel
theorem d_Varints_write_49 : decode prog_9_method_3_code 49 = .ok (.return_, 1) := by decide +kernel
