theorem dX4_init_0 : decode cX4_init 0 = .ok (.aload_n 0, 1) := by decide +kernel
theorem dX4_init_1 : decode cX4_init 1 = .ok (.invokespecial 1, 3) := by decide +kernel
theorem dX4_init_4 : decode cX4_init 4 = .ok (.aload_n 0, 1) := by decide +kernel
theorem dX4_init_5 : decode cX4_init 5 = .ok (.bipush 112, 2) := by decide +kernel
theorem dX4_init_7 : decode cX4_init 7 = .ok (.newarray .int, 2) := by decide +kernel
theorem dX4_init_9 : decode cX4_init 9 = .ok (.putfield 7, 3) := by decide +kernel
theorem dX4_init_12 : decode cX4_init 12 = .ok (.aload_n 0, 1) := by decide +kernel
theorem dX4_init_13 : decode cX4_init 13 = .ok (.sipush 672, 3) := by decide +kernel
theorem dX4_init_16 : decode cX4_init 16 = .ok (.newarray .int, 2) := by decide +kernel
theorem dX4_init_18 : decode cX4_init 18 = .ok (.putfield 13, 3) := by decide +kernel
theorem dX4_init_21 : decode cX4_init 21 = .ok (.aload_n 0, 1) := by decide +kernel
theorem dX4_init_22 : decode cX4_init 22 = .ok (.sipush 224, 3) := by decide +kernel
theorem dX4_init_25 : decode cX4_init 25 = .ok (.newarray .int, 2) := by decide +kernel
theorem dX4_init_27 : decode cX4_init 27 = .ok (.putfield 16, 3) := by decide +kernel
theorem dX4_init_30 : decode cX4_init 30 = .ok (.aload_n 0, 1) := by decide +kernel
theorem dX4_init_31 : decode cX4_init 31 = .ok (.iconst 2, 1) := by decide +kernel
theorem dX4_init_32 : decode cX4_init 32 = .ok (.newarray .int, 2) := by decide +kernel
theorem dX4_init_34 : decode cX4_init 34 = .ok (.putfield 19, 3) := by decide +kernel
theorem dX4_init_37 : decode cX4_init 37 = .ok (.aload_n 0, 1) := by decide +kernel
theorem dX4_init_38 : decode cX4_init 38 = .ok (.bipush 60, 2) := by decide +kernel
theorem dX4_init_40 : decode cX4_init 40 = .ok (.newarray .int, 2) := by decide +kernel
theorem dX4_init_42 : decode cX4_init 42 = .ok (.putfield 22, 3) := by decide +kernel
theorem dX4_init_45 : decode cX4_init 45 = .ok (.aload_n 0, 1) := by decide +kernel
theorem dX4_init_46 : decode cX4_init 46 = .ok (.sipush 425, 3) := by decide +kernel
theorem dX4_init_49 : decode cX4_init 49 = .ok (.newarray .int, 2) := by decide +kernel
theorem dX4_init_51 : decode cX4_init 51 = .ok (.putfield 25, 3) := by decide +kernel
theorem dX4_init_54 : decode cX4_init 54 = .ok (.aload_n 0, 1) := by decide +kernel
theorem dX4_init_55 : decode cX4_init 55 = .ok (.sipush 425, 3) := by decide +kernel
theorem dX4_init_58 : decode cX4_init 58 = .ok (.newarray .int, 2) := by decide +kernel
theorem dX4_init_60 : decode cX4_init 60 = .ok (.putfield 28, 3) := by decide +kernel
theorem dX4_init_63 : decode cX4_init 63 = .ok (.aload_n 0, 1) := by decide +kernel
theorem dX4_init_64 : decode cX4_init 64 = .ok (.sipush 425, 3) := by decide +kernel
theorem dX4_init_67 : decode cX4_init 67 = .ok (.newarray .int, 2) := by decide +kernel
theorem dX4_init_69 : decode cX4_init 69 = .ok (.putfield 31, 3) := by decide +kernel
theorem dX4_init_72 : decode cX4_init 72 = .ok (.aload_n 0, 1) := by decide +kernel
theorem dX4_init_73 : decode cX4_init 73 = .ok (.bipush 16, 2) := by decide +kernel
theorem dX4_init_75 : decode cX4_init 75 = .ok (.newarray .int, 2) := by decide +kernel
theorem dX4_init_77 : decode cX4_init 77 = .ok (.putfield 34, 3) := by decide +kernel
theorem dX4_init_80 : decode cX4_init 80 = .ok (.aload_n 0, 1) := by decide +kernel
theorem dX4_init_81 : decode cX4_init 81 = .ok (.bipush 16, 2) := by decide +kernel
theorem dX4_init_83 : decode cX4_init 83 = .ok (.newarray .int, 2) := by decide +kernel
theorem dX4_init_85 : decode cX4_init 85 = .ok (.putfield 37, 3) := by decide +kernel
theorem dX4_init_88 : decode cX4_init 88 = .ok (.aload_n 0, 1) := by decide +kernel
theorem dX4_init_89 : decode cX4_init 89 = .ok (.getfield 7, 3) := by decide +kernel
theorem dX4_init_92 : decode cX4_init 92 = .ok (.iconst 0, 1) := by decide +kernel
theorem dX4_init_93 : decode cX4_init 93 = .ok (.iconst 3, 1) := by decide +kernel
theorem dX4_init_94 : decode cX4_init 94 = .ok (.iastore, 1) := by decide +kernel
theorem dX4_init_95 : decode cX4_init 95 = .ok (.aload_n 0, 1) := by decide +kernel
theorem dX4_init_96 : decode cX4_init 96 = .ok (.getfield 7, 3) := by decide +kernel
theorem dX4_init_99 : decode cX4_init 99 = .ok (.iconst 1, 1) := by decide +kernel
theorem dX4_init_100 : decode cX4_init 100 = .ok (.iconst 1, 1) := by decide +kernel
theorem dX4_init_101 : decode cX4_init 101 = .ok (.iastore, 1) := by decide +kernel
theorem dX4_init_102 : decode cX4_init 102 = .ok (.aload_n 0, 1) := by decide +kernel
theorem dX4_init_103 : decode cX4_init 103 = .ok (.getfield 7, 3) := by decide +kernel
theorem dX4_init_106 : decode cX4_init 106 = .ok (.iconst 2, 1) := by decide +kernel
theorem dX4_init_107 : decode cX4_init 107 = .ok (.iconst 3, 1) := by decide +kernel
theorem dX4_init_108 : decode cX4_init 108 = .ok (.iastore, 1) := by decide +kernel
theorem dX4_init_109 : decode cX4_init 109 = .ok (.aload_n 0, 1) := by decide +kernel
theorem dX4_init_110 : decode cX4_init 110 = .ok (.getfield 7, 3) := by decide +kernel
theorem dX4_init_113 : decode cX4_init 113 = .ok (.iconst 3, 1) := by decide +kernel
theorem dX4_init_114 : decode cX4_init 114 = .ok (.bipush 7, 2) := by decide +kernel
theorem dX4_init_116 : decode cX4_init 116 = .ok (.iastore, 1) := by decide +kernel
theorem dX4_init_117 : decode cX4_init 117 = .ok (.return_, 1) := by decide +kernel
theorem dX4_moves_0 : decode cX4_moves 0 = .ok (.iconst 0, 1) := by decide +kernel
theorem dX4_moves_1 : decode cX4_moves 1 = .ok (.istore 4, 2) := by decide +kernel
theorem dX4_moves_3 : decode cX4_moves 3 = .ok (.iload 4, 2) := by decide +kernel
theorem dX4_moves_5 : decode cX4_moves 5 = .ok (.bipush 112, 2) := by decide +kernel
theorem dX4_moves_7 : decode cX4_moves 7 = .ok (.if_icmp .ge 21, 3) := by decide +kernel
theorem dX4_moves_10 : decode cX4_moves 10 = .ok (.aload_n 2, 1) := by decide +kernel
theorem dX4_moves_11 : decode cX4_moves 11 = .ok (.iload_n 3, 1) := by decide +kernel
theorem dX4_moves_12 : decode cX4_moves 12 = .ok (.iload 4, 2) := by decide +kernel
theorem dX4_moves_14 : decode cX4_moves 14 = .ok (.iadd, 1) := by decide +kernel
theorem dX4_moves_15 : decode cX4_moves 15 = .ok (.aload_n 0, 1) := by decide +kernel
theorem dX4_moves_16 : decode cX4_moves 16 = .ok (.iload_n 1, 1) := by decide +kernel
theorem dX4_moves_17 : decode cX4_moves 17 = .ok (.iload 4, 2) := by decide +kernel
theorem dX4_moves_19 : decode cX4_moves 19 = .ok (.iadd, 1) := by decide +kernel
theorem dX4_moves_20 : decode cX4_moves 20 = .ok (.iaload, 1) := by decide +kernel
theorem dX4_moves_21 : decode cX4_moves 21 = .ok (.iastore, 1) := by decide +kernel
theorem dX4_moves_22 : decode cX4_moves 22 = .ok (.iinc 4 1, 3) := by decide +kernel
theorem dX4_moves_25 : decode cX4_moves 25 = .ok (.goto (-22), 3) := by decide +kernel
theorem dX4_moves_28 : decode cX4_moves 28 = .ok (.return_, 1) := by decide +kernel
theorem dX4_within_0 : decode cX4_within 0 = .ok (.iload_n 0, 1) := by decide +kernel
theorem dX4_within_1 : decode cX4_within 1 = .ok (.iload_n 1, 1) := by decide +kernel
theorem dX4_within_2 : decode cX4_within 2 = .ok (.if_icmp .lt 12, 3) := by decide +kernel
theorem dX4_within_5 : decode cX4_within 5 = .ok (.iload_n 0, 1) := by decide +kernel
theorem dX4_within_6 : decode cX4_within 6 = .ok (.iload_n 2, 1) := by decide +kernel
theorem dX4_within_7 : decode cX4_within 7 = .ok (.if_icmp .gt 7, 3) := by decide +kernel
theorem dX4_within_10 : decode cX4_within 10 = .ok (.iconst 1, 1) := by decide +kernel
theorem dX4_within_11 : decode cX4_within 11 = .ok (.goto 4, 3) := by decide +kernel
theorem dX4_within_14 : decode cX4_within 14 = .ok (.iconst 0, 1) := by decide +kernel
theorem dX4_within_15 : decode cX4_within 15 = .ok (.ireturn, 1) := by decide +kernel
theorem dX4_has_0 : decode cX4_has 0 = .ok (.iload_n 0, 1) := by decide +kernel
theorem dX4_has_1 : decode cX4_has 1 = .ok (.iload_n 1, 1) := by decide +kernel
theorem dX4_has_2 : decode cX4_has 2 = .ok (.ishr, 1) := by decide +kernel
theorem dX4_has_3 : decode cX4_has 3 = .ok (.iconst 1, 1) := by decide +kernel
theorem dX4_has_4 : decode cX4_has 4 = .ok (.iand, 1) := by decide +kernel
theorem dX4_has_5 : decode cX4_has 5 = .ok (.iconst 1, 1) := by decide +kernel
theorem dX4_has_6 : decode cX4_has 6 = .ok (.if_icmp .ne 7, 3) := by decide +kernel
theorem dX4_has_9 : decode cX4_has 9 = .ok (.iconst 1, 1) := by decide +kernel
theorem dX4_has_10 : decode cX4_has 10 = .ok (.goto 4, 3) := by decide +kernel
theorem dX4_has_13 : decode cX4_has 13 = .ok (.iconst 0, 1) := by decide +kernel
theorem dX4_has_14 : decode cX4_has 14 = .ok (.ireturn, 1) := by decide +kernel
theorem dX4_bits_0 : decode cX4_bits 0 = .ok (.iconst 0, 1) := by decide +kernel
theorem dX4_bits_1 : decode cX4_bits 1 = .ok (.istore_n 1, 1) := by decide +kernel
theorem dX4_bits_2 : decode cX4_bits 2 = .ok (.iconst 0, 1) := by decide +kernel
theorem dX4_bits_3 : decode cX4_bits 3 = .ok (.istore_n 2, 1) := by decide +kernel
theorem dX4_bits_4 : decode cX4_bits 4 = .ok (.iload_n 2, 1) := by decide +kernel
theorem dX4_bits_5 : decode cX4_bits 5 = .ok (.bipush 24, 2) := by decide +kernel
theorem dX4_bits_7 : decode cX4_bits 7 = .ok (.if_icmp .ge 17, 3) := by decide +kernel
theorem dX4_bits_10 : decode cX4_bits 10 = .ok (.iload_n 1, 1) := by decide +kernel
theorem dX4_bits_11 : decode cX4_bits 11 = .ok (.iload_n 0, 1) := by decide +kernel
theorem dX4_bits_12 : decode cX4_bits 12 = .ok (.iload_n 2, 1) := by decide +kernel
theorem dX4_bits_13 : decode cX4_bits 13 = .ok (.ishr, 1) := by decide +kernel
theorem dX4_bits_14 : decode cX4_bits 14 = .ok (.iconst 1, 1) := by decide +kernel
theorem dX4_bits_15 : decode cX4_bits 15 = .ok (.iand, 1) := by decide +kernel
theorem dX4_bits_16 : decode cX4_bits 16 = .ok (.iadd, 1) := by decide +kernel
theorem dX4_bits_17 : decode cX4_bits 17 = .ok (.istore_n 1, 1) := by decide +kernel
theorem dX4_bits_18 : decode cX4_bits 18 = .ok (.iinc 2 1, 3) := by decide +kernel
theorem dX4_bits_21 : decode cX4_bits 21 = .ok (.goto (-17), 3) := by decide +kernel
theorem dX4_bits_24 : decode cX4_bits 24 = .ok (.iload_n 1, 1) := by decide +kernel
theorem dX4_bits_25 : decode cX4_bits 25 = .ok (.ireturn, 1) := by decide +kernel
theorem dX4_record_0 : decode cX4_record 0 = .ok (.aload_n 0, 1) := by decide +kernel
theorem dX4_record_1 : decode cX4_record 1 = .ok (.getfield 40, 3) := by decide +kernel
theorem dX4_record_4 : decode cX4_record 4 = .ok (.bipush 6, 2) := by decide +kernel
theorem dX4_record_6 : decode cX4_record 6 = .ok (.if_icmp .ne 43, 3) := by decide +kernel
theorem dX4_record_9 : decode cX4_record 9 = .ok (.iconst 0, 1) := by decide +kernel
theorem dX4_record_10 : decode cX4_record 10 = .ok (.istore_n 1, 1) := by decide +kernel
theorem dX4_record_11 : decode cX4_record 11 = .ok (.iload_n 1, 1) := by decide +kernel
theorem dX4_record_12 : decode cX4_record 12 = .ok (.sipush 560, 3) := by decide +kernel
theorem dX4_record_15 : decode cX4_record 15 = .ok (.if_icmp .ge 24, 3) := by decide +kernel
theorem dX4_record_18 : decode cX4_record 18 = .ok (.aload_n 0, 1) := by decide +kernel
theorem dX4_record_19 : decode cX4_record 19 = .ok (.getfield 13, 3) := by decide +kernel
theorem dX4_record_22 : decode cX4_record 22 = .ok (.iload_n 1, 1) := by decide +kernel
theorem dX4_record_23 : decode cX4_record 23 = .ok (.aload_n 0, 1) := by decide +kernel
theorem dX4_record_24 : decode cX4_record 24 = .ok (.getfield 13, 3) := by decide +kernel
theorem dX4_record_27 : decode cX4_record 27 = .ok (.iload_n 1, 1) := by decide +kernel
theorem dX4_record_28 : decode cX4_record 28 = .ok (.bipush 112, 2) := by decide +kernel
theorem dX4_record_30 : decode cX4_record 30 = .ok (.iadd, 1) := by decide +kernel
theorem dX4_record_31 : decode cX4_record 31 = .ok (.iaload, 1) := by decide +kernel
theorem dX4_record_32 : decode cX4_record 32 = .ok (.iastore, 1) := by decide +kernel
theorem dX4_record_33 : decode cX4_record 33 = .ok (.iinc 1 1, 3) := by decide +kernel
theorem dX4_record_36 : decode cX4_record 36 = .ok (.goto (-25), 3) := by decide +kernel
theorem dX4_record_39 : decode cX4_record 39 = .ok (.aload_n 0, 1) := by decide +kernel
theorem dX4_record_40 : decode cX4_record 40 = .ok (.dup, 1) := by decide +kernel
theorem dX4_record_41 : decode cX4_record 41 = .ok (.getfield 40, 3) := by decide +kernel
theorem dX4_record_44 : decode cX4_record 44 = .ok (.iconst 1, 1) := by decide +kernel
theorem dX4_record_45 : decode cX4_record 45 = .ok (.isub, 1) := by decide +kernel
theorem dX4_record_46 : decode cX4_record 46 = .ok (.putfield 40, 3) := by decide +kernel
theorem dX4_record_49 : decode cX4_record 49 = .ok (.aload_n 0, 1) := by decide +kernel
theorem dX4_record_50 : decode cX4_record 50 = .ok (.getfield 7, 3) := by decide +kernel
theorem dX4_record_53 : decode cX4_record 53 = .ok (.iconst 0, 1) := by decide +kernel
theorem dX4_record_54 : decode cX4_record 54 = .ok (.aload_n 0, 1) := by decide +kernel
theorem dX4_record_55 : decode cX4_record 55 = .ok (.getfield 13, 3) := by decide +kernel
theorem dX4_record_58 : decode cX4_record 58 = .ok (.aload_n 0, 1) := by decide +kernel
theorem dX4_record_59 : decode cX4_record 59 = .ok (.getfield 40, 3) := by decide +kernel
theorem dX4_record_62 : decode cX4_record 62 = .ok (.bipush 112, 2) := by decide +kernel
theorem dX4_record_64 : decode cX4_record 64 = .ok (.imul, 1) := by decide +kernel
theorem dX4_record_65 : decode cX4_record 65 = .ok (.invokestatic 44, 3) := by decide +kernel
theorem dX4_record_68 : decode cX4_record 68 = .ok (.aload_n 0, 1) := by decide +kernel
theorem dX4_record_69 : decode cX4_record 69 = .ok (.dup, 1) := by decide +kernel
theorem dX4_record_70 : decode cX4_record 70 = .ok (.getfield 40, 3) := by decide +kernel
theorem dX4_record_73 : decode cX4_record 73 = .ok (.iconst 1, 1) := by decide +kernel
theorem dX4_record_74 : decode cX4_record 74 = .ok (.iadd, 1) := by decide +kernel
theorem dX4_record_75 : decode cX4_record 75 = .ok (.putfield 40, 3) := by decide +kernel
theorem dX4_record_78 : decode cX4_record 78 = .ok (.return_, 1) := by decide +kernel
theorem dX4_isLine_0 : decode cX4_isLine 0 = .ok (.iload_n 1, 1) := by decide +kernel
theorem dX4_isLine_1 : decode cX4_isLine 1 = .ok (.iconst 0, 1) := by decide +kernel
theorem dX4_isLine_2 : decode cX4_isLine 2 = .ok (.aload_n 0, 1) := by decide +kernel
theorem dX4_isLine_3 : decode cX4_isLine 3 = .ok (.getfield 7, 3) := by decide +kernel
theorem dX4_isLine_6 : decode cX4_isLine 6 = .ok (.iconst 4, 1) := by decide +kernel
theorem dX4_isLine_7 : decode cX4_isLine 7 = .ok (.iaload, 1) := by decide +kernel
theorem dX4_isLine_8 : decode cX4_isLine 8 = .ok (.iconst 1, 1) := by decide +kernel
theorem dX4_isLine_9 : decode cX4_isLine 9 = .ok (.isub, 1) := by decide +kernel
theorem dX4_isLine_10 : decode cX4_isLine 10 = .ok (.invokestatic 48, 3) := by decide +kernel
theorem dX4_isLine_13 : decode cX4_isLine 13 = .ok (.ireturn, 1) := by decide +kernel
theorem dX4_isPhrase_0 : decode cX4_isPhrase 0 = .ok (.iload_n 1, 1) := by decide +kernel
theorem dX4_isPhrase_1 : decode cX4_isPhrase 1 = .ok (.iconst 0, 1) := by decide +kernel
theorem dX4_isPhrase_2 : decode cX4_isPhrase 2 = .ok (.aload_n 0, 1) := by decide +kernel
theorem dX4_isPhrase_3 : decode cX4_isPhrase 3 = .ok (.getfield 7, 3) := by decide +kernel
theorem dX4_isPhrase_6 : decode cX4_isPhrase 6 = .ok (.iconst 5, 1) := by decide +kernel
theorem dX4_isPhrase_7 : decode cX4_isPhrase 7 = .ok (.iaload, 1) := by decide +kernel
theorem dX4_isPhrase_8 : decode cX4_isPhrase 8 = .ok (.iconst 1, 1) := by decide +kernel
theorem dX4_isPhrase_9 : decode cX4_isPhrase 9 = .ok (.isub, 1) := by decide +kernel
theorem dX4_isPhrase_10 : decode cX4_isPhrase 10 = .ok (.invokestatic 48, 3) := by decide +kernel
theorem dX4_isPhrase_13 : decode cX4_isPhrase 13 = .ok (.ireturn, 1) := by decide +kernel
theorem dX4_lineLength_0 : decode cX4_lineLength 0 = .ok (.aload_n 0, 1) := by decide +kernel
theorem dX4_lineLength_1 : decode cX4_lineLength 1 = .ok (.getfield 7, 3) := by decide +kernel
theorem dX4_lineLength_4 : decode cX4_lineLength 4 = .ok (.bipush 8, 2) := by decide +kernel
theorem dX4_lineLength_6 : decode cX4_lineLength 6 = .ok (.iconst 2, 1) := by decide +kernel
theorem dX4_lineLength_7 : decode cX4_lineLength 7 = .ok (.iload_n 1, 1) := by decide +kernel
theorem dX4_lineLength_8 : decode cX4_lineLength 8 = .ok (.imul, 1) := by decide +kernel
theorem dX4_lineLength_9 : decode cX4_lineLength 9 = .ok (.iadd, 1) := by decide +kernel
theorem dX4_lineLength_10 : decode cX4_lineLength 10 = .ok (.iaload, 1) := by decide +kernel
theorem dX4_lineLength_11 : decode cX4_lineLength 11 = .ok (.ireturn, 1) := by decide +kernel
theorem dX4_phraseLength_0 : decode cX4_phraseLength 0 = .ok (.aload_n 0, 1) := by decide +kernel
theorem dX4_phraseLength_1 : decode cX4_phraseLength 1 = .ok (.getfield 7, 3) := by decide +kernel
theorem dX4_phraseLength_4 : decode cX4_phraseLength 4 = .ok (.bipush 40, 2) := by decide +kernel
theorem dX4_phraseLength_6 : decode cX4_phraseLength 6 = .ok (.iconst 3, 1) := by decide +kernel
theorem dX4_phraseLength_7 : decode cX4_phraseLength 7 = .ok (.iload_n 1, 1) := by decide +kernel
theorem dX4_phraseLength_8 : decode cX4_phraseLength 8 = .ok (.imul, 1) := by decide +kernel
theorem dX4_phraseLength_9 : decode cX4_phraseLength 9 = .ok (.iadd, 1) := by decide +kernel
theorem dX4_phraseLength_10 : decode cX4_phraseLength 10 = .ok (.iaload, 1) := by decide +kernel
theorem dX4_phraseLength_11 : decode cX4_phraseLength 11 = .ok (.ireturn, 1) := by decide +kernel
theorem dX4_isSyllable_0 : decode cX4_isSyllable 0 = .ok (.aload_n 0, 1) := by decide +kernel
theorem dX4_isSyllable_1 : decode cX4_isSyllable 1 = .ok (.iload_n 1, 1) := by decide +kernel
theorem dX4_isSyllable_2 : decode cX4_isSyllable 2 = .ok (.invokevirtual 52, 3) := by decide +kernel
theorem dX4_isSyllable_5 : decode cX4_isSyllable 5 = .ok (.ifCond .eq 22, 3) := by decide +kernel
theorem dX4_isSyllable_8 : decode cX4_isSyllable 8 = .ok (.iload_n 2, 1) := by decide +kernel
theorem dX4_isSyllable_9 : decode cX4_isSyllable 9 = .ok (.iconst 0, 1) := by decide +kernel
theorem dX4_isSyllable_10 : decode cX4_isSyllable 10 = .ok (.aload_n 0, 1) := by decide +kernel
theorem dX4_isSyllable_11 : decode cX4_isSyllable 11 = .ok (.iload_n 1, 1) := by decide +kernel
theorem dX4_isSyllable_12 : decode cX4_isSyllable 12 = .ok (.invokevirtual 56, 3) := by decide +kernel
theorem dX4_isSyllable_15 : decode cX4_isSyllable 15 = .ok (.iconst 1, 1) := by decide +kernel
theorem dX4_isSyllable_16 : decode cX4_isSyllable 16 = .ok (.isub, 1) := by decide +kernel
theorem dX4_isSyllable_17 : decode cX4_isSyllable 17 = .ok (.invokestatic 48, 3) := by decide +kernel
theorem dX4_isSyllable_20 : decode cX4_isSyllable 20 = .ok (.ifCond .eq 7, 3) := by decide +kernel
theorem dX4_isSyllable_23 : decode cX4_isSyllable 23 = .ok (.iconst 1, 1) := by decide +kernel
theorem dX4_isSyllable_24 : decode cX4_isSyllable 24 = .ok (.goto 4, 3) := by decide +kernel
theorem dX4_isSyllable_27 : decode cX4_isSyllable 27 = .ok (.iconst 0, 1) := by decide +kernel
theorem dX4_isSyllable_28 : decode cX4_isSyllable 28 = .ok (.ireturn, 1) := by decide +kernel
theorem dX4_isBeat_0 : decode cX4_isBeat 0 = .ok (.aload_n 0, 1) := by decide +kernel
theorem dX4_isBeat_1 : decode cX4_isBeat 1 = .ok (.iload_n 1, 1) := by decide +kernel
theorem dX4_isBeat_2 : decode cX4_isBeat 2 = .ok (.invokevirtual 60, 3) := by decide +kernel
theorem dX4_isBeat_5 : decode cX4_isBeat 5 = .ok (.ifCond .eq 22, 3) := by decide +kernel
theorem dX4_isBeat_8 : decode cX4_isBeat 8 = .ok (.iload_n 2, 1) := by decide +kernel
theorem dX4_isBeat_9 : decode cX4_isBeat 9 = .ok (.iconst 0, 1) := by decide +kernel
theorem dX4_isBeat_10 : decode cX4_isBeat 10 = .ok (.aload_n 0, 1) := by decide +kernel
theorem dX4_isBeat_11 : decode cX4_isBeat 11 = .ok (.iload_n 1, 1) := by decide +kernel
theorem dX4_isBeat_12 : decode cX4_isBeat 12 = .ok (.invokevirtual 63, 3) := by decide +kernel
theorem dX4_isBeat_15 : decode cX4_isBeat 15 = .ok (.iconst 1, 1) := by decide +kernel
theorem dX4_isBeat_16 : decode cX4_isBeat 16 = .ok (.isub, 1) := by decide +kernel
theorem dX4_isBeat_17 : decode cX4_isBeat 17 = .ok (.invokestatic 48, 3) := by decide +kernel
theorem dX4_isBeat_20 : decode cX4_isBeat 20 = .ok (.ifCond .eq 7, 3) := by decide +kernel
theorem dX4_isBeat_23 : decode cX4_isBeat 23 = .ok (.iconst 1, 1) := by decide +kernel
theorem dX4_isBeat_24 : decode cX4_isBeat 24 = .ok (.goto 4, 3) := by decide +kernel
theorem dX4_isBeat_27 : decode cX4_isBeat 27 = .ok (.iconst 0, 1) := by decide +kernel
theorem dX4_isBeat_28 : decode cX4_isBeat 28 = .ok (.ireturn, 1) := by decide +kernel
theorem dX4_sungTimes_0 : decode cX4_sungTimes 0 = .ok (.iconst 0, 1) := by decide +kernel
theorem dX4_sungTimes_1 : decode cX4_sungTimes 1 = .ok (.istore_n 2, 1) := by decide +kernel
theorem dX4_sungTimes_2 : decode cX4_sungTimes 2 = .ok (.iconst 0, 1) := by decide +kernel
theorem dX4_sungTimes_3 : decode cX4_sungTimes 3 = .ok (.istore_n 3, 1) := by decide +kernel
theorem dX4_sungTimes_4 : decode cX4_sungTimes 4 = .ok (.iload_n 3, 1) := by decide +kernel
theorem dX4_sungTimes_5 : decode cX4_sungTimes 5 = .ok (.aload_n 0, 1) := by decide +kernel
theorem dX4_sungTimes_6 : decode cX4_sungTimes 6 = .ok (.getfield 7, 3) := by decide +kernel
theorem dX4_sungTimes_9 : decode cX4_sungTimes 9 = .ok (.bipush 6, 2) := by decide +kernel
theorem dX4_sungTimes_11 : decode cX4_sungTimes 11 = .ok (.iaload, 1) := by decide +kernel
theorem dX4_sungTimes_12 : decode cX4_sungTimes 12 = .ok (.if_icmp .ge 30, 3) := by decide +kernel
theorem dX4_sungTimes_15 : decode cX4_sungTimes 15 = .ok (.iload_n 2, 1) := by decide +kernel
theorem dX4_sungTimes_16 : decode cX4_sungTimes 16 = .ok (.aload_n 0, 1) := by decide +kernel
theorem dX4_sungTimes_17 : decode cX4_sungTimes 17 = .ok (.getfield 7, 3) := by decide +kernel
theorem dX4_sungTimes_20 : decode cX4_sungTimes 20 = .ok (.bipush 64, 2) := by decide +kernel
theorem dX4_sungTimes_22 : decode cX4_sungTimes 22 = .ok (.iload_n 3, 1) := by decide +kernel
theorem dX4_sungTimes_23 : decode cX4_sungTimes 23 = .ok (.iadd, 1) := by decide +kernel
theorem dX4_sungTimes_24 : decode cX4_sungTimes 24 = .ok (.iaload, 1) := by decide +kernel
theorem dX4_sungTimes_25 : decode cX4_sungTimes 25 = .ok (.iload_n 1, 1) := by decide +kernel
theorem dX4_sungTimes_26 : decode cX4_sungTimes 26 = .ok (.if_icmp .ne 7, 3) := by decide +kernel
theorem dX4_sungTimes_29 : decode cX4_sungTimes 29 = .ok (.iconst 1, 1) := by decide +kernel
theorem dX4_sungTimes_30 : decode cX4_sungTimes 30 = .ok (.goto 4, 3) := by decide +kernel
theorem dX4_sungTimes_33 : decode cX4_sungTimes 33 = .ok (.iconst 0, 1) := by decide +kernel
theorem dX4_sungTimes_34 : decode cX4_sungTimes 34 = .ok (.iadd, 1) := by decide +kernel
theorem dX4_sungTimes_35 : decode cX4_sungTimes 35 = .ok (.istore_n 2, 1) := by decide +kernel
theorem dX4_sungTimes_36 : decode cX4_sungTimes 36 = .ok (.iinc 3 1, 3) := by decide +kernel
theorem dX4_sungTimes_39 : decode cX4_sungTimes 39 = .ok (.goto (-35), 3) := by decide +kernel
theorem dX4_sungTimes_42 : decode cX4_sungTimes 42 = .ok (.iload_n 2, 1) := by decide +kernel
theorem dX4_sungTimes_43 : decode cX4_sungTimes 43 = .ok (.ireturn, 1) := by decide +kernel
theorem dX4_playedTimes_0 : decode cX4_playedTimes 0 = .ok (.iconst 0, 1) := by decide +kernel
theorem dX4_playedTimes_1 : decode cX4_playedTimes 1 = .ok (.istore_n 2, 1) := by decide +kernel
theorem dX4_playedTimes_2 : decode cX4_playedTimes 2 = .ok (.iconst 0, 1) := by decide +kernel
theorem dX4_playedTimes_3 : decode cX4_playedTimes 3 = .ok (.istore_n 3, 1) := by decide +kernel
theorem dX4_playedTimes_4 : decode cX4_playedTimes 4 = .ok (.iload_n 3, 1) := by decide +kernel
theorem dX4_playedTimes_5 : decode cX4_playedTimes 5 = .ok (.aload_n 0, 1) := by decide +kernel
theorem dX4_playedTimes_6 : decode cX4_playedTimes 6 = .ok (.getfield 7, 3) := by decide +kernel
theorem dX4_playedTimes_9 : decode cX4_playedTimes 9 = .ok (.bipush 7, 2) := by decide +kernel
theorem dX4_playedTimes_11 : decode cX4_playedTimes 11 = .ok (.iaload, 1) := by decide +kernel
theorem dX4_playedTimes_12 : decode cX4_playedTimes 12 = .ok (.if_icmp .ge 30, 3) := by decide +kernel
theorem dX4_playedTimes_15 : decode cX4_playedTimes 15 = .ok (.iload_n 2, 1) := by decide +kernel
theorem dX4_playedTimes_16 : decode cX4_playedTimes 16 = .ok (.aload_n 0, 1) := by decide +kernel
theorem dX4_playedTimes_17 : decode cX4_playedTimes 17 = .ok (.getfield 7, 3) := by decide +kernel
theorem dX4_playedTimes_20 : decode cX4_playedTimes 20 = .ok (.bipush 104, 2) := by decide +kernel
theorem dX4_playedTimes_22 : decode cX4_playedTimes 22 = .ok (.iload_n 3, 1) := by decide +kernel
theorem dX4_playedTimes_23 : decode cX4_playedTimes 23 = .ok (.iadd, 1) := by decide +kernel
theorem dX4_playedTimes_24 : decode cX4_playedTimes 24 = .ok (.iaload, 1) := by decide +kernel
theorem dX4_playedTimes_25 : decode cX4_playedTimes 25 = .ok (.iload_n 1, 1) := by decide +kernel
theorem dX4_playedTimes_26 : decode cX4_playedTimes 26 = .ok (.if_icmp .ne 7, 3) := by decide +kernel
theorem dX4_playedTimes_29 : decode cX4_playedTimes 29 = .ok (.iconst 1, 1) := by decide +kernel
theorem dX4_playedTimes_30 : decode cX4_playedTimes 30 = .ok (.goto 4, 3) := by decide +kernel
theorem dX4_playedTimes_33 : decode cX4_playedTimes 33 = .ok (.iconst 0, 1) := by decide +kernel
theorem dX4_playedTimes_34 : decode cX4_playedTimes 34 = .ok (.iadd, 1) := by decide +kernel
theorem dX4_playedTimes_35 : decode cX4_playedTimes 35 = .ok (.istore_n 2, 1) := by decide +kernel
theorem dX4_playedTimes_36 : decode cX4_playedTimes 36 = .ok (.iinc 3 1, 3) := by decide +kernel
theorem dX4_playedTimes_39 : decode cX4_playedTimes 39 = .ok (.goto (-35), 3) := by decide +kernel
theorem dX4_playedTimes_42 : decode cX4_playedTimes 42 = .ok (.iload_n 2, 1) := by decide +kernel
theorem dX4_playedTimes_43 : decode cX4_playedTimes 43 = .ok (.ireturn, 1) := by decide +kernel
theorem dX4_look_0 : decode cX4_look 0 = .ok (.aload_n 0, 1) := by decide +kernel
theorem dX4_look_1 : decode cX4_look 1 = .ok (.aload_n 0, 1) := by decide +kernel
theorem dX4_look_2 : decode cX4_look 2 = .ok (.iload_n 1, 1) := by decide +kernel
theorem dX4_look_3 : decode cX4_look 3 = .ok (.invokevirtual 56, 3) := by decide +kernel
theorem dX4_look_6 : decode cX4_look 6 = .ok (.putfield 66, 3) := by decide +kernel
theorem dX4_look_9 : decode cX4_look 9 = .ok (.aload_n 0, 1) := by decide +kernel
theorem dX4_look_10 : decode cX4_look 10 = .ok (.aload_n 0, 1) := by decide +kernel
theorem dX4_look_11 : decode cX4_look 11 = .ok (.getfield 7, 3) := by decide +kernel
theorem dX4_look_14 : decode cX4_look 14 = .ok (.bipush 8, 2) := by decide +kernel
theorem dX4_look_16 : decode cX4_look 16 = .ok (.iconst 2, 1) := by decide +kernel
theorem dX4_look_17 : decode cX4_look 17 = .ok (.iload_n 1, 1) := by decide +kernel
theorem dX4_look_18 : decode cX4_look 18 = .ok (.imul, 1) := by decide +kernel
theorem dX4_look_19 : decode cX4_look 19 = .ok (.iadd, 1) := by decide +kernel
theorem dX4_look_20 : decode cX4_look 20 = .ok (.iconst 1, 1) := by decide +kernel
theorem dX4_look_21 : decode cX4_look 21 = .ok (.iadd, 1) := by decide +kernel
theorem dX4_look_22 : decode cX4_look 22 = .ok (.iaload, 1) := by decide +kernel
theorem dX4_look_23 : decode cX4_look 23 = .ok (.putfield 69, 3) := by decide +kernel
theorem dX4_look_26 : decode cX4_look 26 = .ok (.aload_n 0, 1) := by decide +kernel
theorem dX4_look_27 : decode cX4_look 27 = .ok (.aload_n 0, 1) := by decide +kernel
theorem dX4_look_28 : decode cX4_look 28 = .ok (.iload_n 2, 1) := by decide +kernel
theorem dX4_look_29 : decode cX4_look 29 = .ok (.invokevirtual 63, 3) := by decide +kernel
theorem dX4_look_32 : decode cX4_look 32 = .ok (.putfield 72, 3) := by decide +kernel
theorem dX4_look_35 : decode cX4_look 35 = .ok (.aload_n 0, 1) := by decide +kernel
theorem dX4_look_36 : decode cX4_look 36 = .ok (.aload_n 0, 1) := by decide +kernel
theorem dX4_look_37 : decode cX4_look 37 = .ok (.getfield 7, 3) := by decide +kernel
theorem dX4_look_40 : decode cX4_look 40 = .ok (.bipush 40, 2) := by decide +kernel
theorem dX4_look_42 : decode cX4_look 42 = .ok (.iconst 3, 1) := by decide +kernel
theorem dX4_look_43 : decode cX4_look 43 = .ok (.iload_n 2, 1) := by decide +kernel
theorem dX4_look_44 : decode cX4_look 44 = .ok (.imul, 1) := by decide +kernel
theorem dX4_look_45 : decode cX4_look 45 = .ok (.iadd, 1) := by decide +kernel
theorem dX4_look_46 : decode cX4_look 46 = .ok (.iconst 1, 1) := by decide +kernel
theorem dX4_look_47 : decode cX4_look 47 = .ok (.iadd, 1) := by decide +kernel
theorem dX4_look_48 : decode cX4_look 48 = .ok (.iaload, 1) := by decide +kernel
theorem dX4_look_49 : decode cX4_look 49 = .ok (.putfield 75, 3) := by decide +kernel
theorem dX4_look_52 : decode cX4_look 52 = .ok (.aload_n 0, 1) := by decide +kernel
theorem dX4_look_53 : decode cX4_look 53 = .ok (.aload_n 0, 1) := by decide +kernel
theorem dX4_look_54 : decode cX4_look 54 = .ok (.getfield 75, 3) := by decide +kernel
theorem dX4_look_57 : decode cX4_look 57 = .ok (.aload_n 0, 1) := by decide +kernel
theorem dX4_look_58 : decode cX4_look 58 = .ok (.getfield 7, 3) := by decide +kernel
theorem dX4_look_61 : decode cX4_look 61 = .ok (.bipush 40, 2) := by decide +kernel
theorem dX4_look_63 : decode cX4_look 63 = .ok (.iconst 3, 1) := by decide +kernel
theorem dX4_look_64 : decode cX4_look 64 = .ok (.iload_n 2, 1) := by decide +kernel
theorem dX4_look_65 : decode cX4_look 65 = .ok (.imul, 1) := by decide +kernel
theorem dX4_look_66 : decode cX4_look 66 = .ok (.iadd, 1) := by decide +kernel
theorem dX4_look_67 : decode cX4_look 67 = .ok (.iconst 2, 1) := by decide +kernel
theorem dX4_look_68 : decode cX4_look 68 = .ok (.iadd, 1) := by decide +kernel
theorem dX4_look_69 : decode cX4_look 69 = .ok (.iaload, 1) := by decide +kernel
theorem dX4_look_70 : decode cX4_look 70 = .ok (.ior, 1) := by decide +kernel
theorem dX4_look_71 : decode cX4_look 71 = .ok (.putfield 78, 3) := by decide +kernel
theorem dX4_look_74 : decode cX4_look 74 = .ok (.aload_n 0, 1) := by decide +kernel
theorem dX4_look_75 : decode cX4_look 75 = .ok (.aload_n 0, 1) := by decide +kernel
theorem dX4_look_76 : decode cX4_look 76 = .ok (.getfield 7, 3) := by decide +kernel
theorem dX4_look_79 : decode cX4_look 79 = .ok (.iconst 0, 1) := by decide +kernel
theorem dX4_look_80 : decode cX4_look 80 = .ok (.iaload, 1) := by decide +kernel
theorem dX4_look_81 : decode cX4_look 81 = .ok (.putfield 81, 3) := by decide +kernel
theorem dX4_look_84 : decode cX4_look 84 = .ok (.return_, 1) := by decide +kernel
theorem dX4_hurts_0 : decode cX4_hurts 0 = .ok (.aload_n 0, 1) := by decide +kernel
theorem dX4_hurts_1 : decode cX4_hurts 1 = .ok (.getfield 69, 3) := by decide +kernel
theorem dX4_hurts_4 : decode cX4_hurts 4 = .ok (.iload_n 1, 1) := by decide +kernel
theorem dX4_hurts_5 : decode cX4_hurts 5 = .ok (.invokestatic 84, 3) := by decide +kernel
theorem dX4_hurts_8 : decode cX4_hurts 8 = .ok (.aload_n 0, 1) := by decide +kernel
theorem dX4_hurts_9 : decode cX4_hurts 9 = .ok (.getfield 75, 3) := by decide +kernel
theorem dX4_hurts_12 : decode cX4_hurts 12 = .ok (.iload_n 2, 1) := by decide +kernel
theorem dX4_hurts_13 : decode cX4_hurts 13 = .ok (.invokestatic 84, 3) := by decide +kernel
theorem dX4_hurts_16 : decode cX4_hurts 16 = .ok (.if_icmp .eq 7, 3) := by decide +kernel
theorem dX4_hurts_19 : decode cX4_hurts 19 = .ok (.iconst 1, 1) := by decide +kernel
theorem dX4_hurts_20 : decode cX4_hurts 20 = .ok (.goto 4, 3) := by decide +kernel
theorem dX4_hurts_23 : decode cX4_hurts 23 = .ok (.iconst 0, 1) := by decide +kernel
theorem dX4_hurts_24 : decode cX4_hurts 24 = .ok (.ireturn, 1) := by decide +kernel
theorem dX4_costOn_0 : decode cX4_costOn 0 = .ok (.aload_n 0, 1) := by decide +kernel
theorem dX4_costOn_1 : decode cX4_costOn 1 = .ok (.getfield 25, 3) := by decide +kernel
theorem dX4_costOn_4 : decode cX4_costOn 4 = .ok (.bipush 25, 2) := by decide +kernel
theorem dX4_costOn_6 : decode cX4_costOn 6 = .ok (.iload_n 1, 1) := by decide +kernel
theorem dX4_costOn_7 : decode cX4_costOn 7 = .ok (.iconst 1, 1) := by decide +kernel
theorem dX4_costOn_8 : decode cX4_costOn 8 = .ok (.iadd, 1) := by decide +kernel
theorem dX4_costOn_9 : decode cX4_costOn 9 = .ok (.imul, 1) := by decide +kernel
theorem dX4_costOn_10 : decode cX4_costOn 10 = .ok (.iload_n 2, 1) := by decide +kernel
theorem dX4_costOn_11 : decode cX4_costOn 11 = .ok (.iadd, 1) := by decide +kernel
theorem dX4_costOn_12 : decode cX4_costOn 12 = .ok (.iload_n 3, 1) := by decide +kernel
theorem dX4_costOn_13 : decode cX4_costOn 13 = .ok (.iadd, 1) := by decide +kernel
theorem dX4_costOn_14 : decode cX4_costOn 14 = .ok (.iaload, 1) := by decide +kernel
theorem dX4_costOn_15 : decode cX4_costOn 15 = .ok (.istore 4, 2) := by decide +kernel
theorem dX4_costOn_17 : decode cX4_costOn 17 = .ok (.iload 4, 2) := by decide +kernel
theorem dX4_costOn_19 : decode cX4_costOn 19 = .ok (.ldc 88, 2) := by decide +kernel
theorem dX4_costOn_21 : decode cX4_costOn 21 = .ok (.if_icmp .ne 8, 3) := by decide +kernel
theorem dX4_costOn_24 : decode cX4_costOn 24 = .ok (.ldc 88, 2) := by decide +kernel
theorem dX4_costOn_26 : decode cX4_costOn 26 = .ok (.goto 36, 3) := by decide +kernel
theorem dX4_costOn_29 : decode cX4_costOn 29 = .ok (.iload 4, 2) := by decide +kernel
theorem dX4_costOn_31 : decode cX4_costOn 31 = .ok (.aload_n 0, 1) := by decide +kernel
theorem dX4_costOn_32 : decode cX4_costOn 32 = .ok (.getfield 7, 3) := by decide +kernel
theorem dX4_costOn_35 : decode cX4_costOn 35 = .ok (.iconst 1, 1) := by decide +kernel
theorem dX4_costOn_36 : decode cX4_costOn 36 = .ok (.iaload, 1) := by decide +kernel
theorem dX4_costOn_37 : decode cX4_costOn 37 = .ok (.iload_n 3, 1) := by decide +kernel
theorem dX4_costOn_38 : decode cX4_costOn 38 = .ok (.iconst 1, 1) := by decide +kernel
theorem dX4_costOn_39 : decode cX4_costOn 39 = .ok (.isub, 1) := by decide +kernel
theorem dX4_costOn_40 : decode cX4_costOn 40 = .ok (.imul, 1) := by decide +kernel
theorem dX4_costOn_41 : decode cX4_costOn 41 = .ok (.iadd, 1) := by decide +kernel
theorem dX4_costOn_42 : decode cX4_costOn 42 = .ok (.aload_n 0, 1) := by decide +kernel
theorem dX4_costOn_43 : decode cX4_costOn 43 = .ok (.iload_n 1, 1) := by decide +kernel
theorem dX4_costOn_44 : decode cX4_costOn 44 = .ok (.iload_n 2, 1) := by decide +kernel
theorem dX4_costOn_45 : decode cX4_costOn 45 = .ok (.invokevirtual 89, 3) := by decide +kernel
theorem dX4_costOn_48 : decode cX4_costOn 48 = .ok (.ifCond .eq 12, 3) := by decide +kernel
theorem dX4_costOn_51 : decode cX4_costOn 51 = .ok (.aload_n 0, 1) := by decide +kernel
theorem dX4_costOn_52 : decode cX4_costOn 52 = .ok (.getfield 7, 3) := by decide +kernel
theorem dX4_costOn_55 : decode cX4_costOn 55 = .ok (.iconst 3, 1) := by decide +kernel
theorem dX4_costOn_56 : decode cX4_costOn 56 = .ok (.iaload, 1) := by decide +kernel
theorem dX4_costOn_57 : decode cX4_costOn 57 = .ok (.goto 4, 3) := by decide +kernel
theorem dX4_costOn_60 : decode cX4_costOn 60 = .ok (.iconst 0, 1) := by decide +kernel
theorem dX4_costOn_61 : decode cX4_costOn 61 = .ok (.iadd, 1) := by decide +kernel
theorem dX4_costOn_62 : decode cX4_costOn 62 = .ok (.ireturn, 1) := by decide +kernel
theorem dX4_costFree_0 : decode cX4_costFree 0 = .ok (.aload_n 0, 1) := by decide +kernel
theorem dX4_costFree_1 : decode cX4_costFree 1 = .ok (.getfield 25, 3) := by decide +kernel
theorem dX4_costFree_4 : decode cX4_costFree 4 = .ok (.bipush 25, 2) := by decide +kernel
theorem dX4_costFree_6 : decode cX4_costFree 6 = .ok (.iload_n 1, 1) := by decide +kernel
theorem dX4_costFree_7 : decode cX4_costFree 7 = .ok (.imul, 1) := by decide +kernel
theorem dX4_costFree_8 : decode cX4_costFree 8 = .ok (.iload_n 2, 1) := by decide +kernel
theorem dX4_costFree_9 : decode cX4_costFree 9 = .ok (.iadd, 1) := by decide +kernel
theorem dX4_costFree_10 : decode cX4_costFree 10 = .ok (.iconst 1, 1) := by decide +kernel
theorem dX4_costFree_11 : decode cX4_costFree 11 = .ok (.iadd, 1) := by decide +kernel
theorem dX4_costFree_12 : decode cX4_costFree 12 = .ok (.iaload, 1) := by decide +kernel
theorem dX4_costFree_13 : decode cX4_costFree 13 = .ok (.istore_n 3, 1) := by decide +kernel
theorem dX4_costFree_14 : decode cX4_costFree 14 = .ok (.iload_n 3, 1) := by decide +kernel
theorem dX4_costFree_15 : decode cX4_costFree 15 = .ok (.ldc 88, 2) := by decide +kernel
theorem dX4_costFree_17 : decode cX4_costFree 17 = .ok (.if_icmp .ne 8, 3) := by decide +kernel
theorem dX4_costFree_20 : decode cX4_costFree 20 = .ok (.ldc 88, 2) := by decide +kernel
theorem dX4_costFree_22 : decode cX4_costFree 22 = .ok (.goto 26, 3) := by decide +kernel
theorem dX4_costFree_25 : decode cX4_costFree 25 = .ok (.iload_n 3, 1) := by decide +kernel
theorem dX4_costFree_26 : decode cX4_costFree 26 = .ok (.aload_n 0, 1) := by decide +kernel
theorem dX4_costFree_27 : decode cX4_costFree 27 = .ok (.getfield 78, 3) := by decide +kernel
theorem dX4_costFree_30 : decode cX4_costFree 30 = .ok (.iload_n 2, 1) := by decide +kernel
theorem dX4_costFree_31 : decode cX4_costFree 31 = .ok (.invokestatic 84, 3) := by decide +kernel
theorem dX4_costFree_34 : decode cX4_costFree 34 = .ok (.ifCond .eq 12, 3) := by decide +kernel
theorem dX4_costFree_37 : decode cX4_costFree 37 = .ok (.aload_n 0, 1) := by decide +kernel
theorem dX4_costFree_38 : decode cX4_costFree 38 = .ok (.getfield 7, 3) := by decide +kernel
theorem dX4_costFree_41 : decode cX4_costFree 41 = .ok (.iconst 2, 1) := by decide +kernel
theorem dX4_costFree_42 : decode cX4_costFree 42 = .ok (.iaload, 1) := by decide +kernel
theorem dX4_costFree_43 : decode cX4_costFree 43 = .ok (.goto 4, 3) := by decide +kernel
theorem dX4_costFree_46 : decode cX4_costFree 46 = .ok (.iconst 0, 1) := by decide +kernel
theorem dX4_costFree_47 : decode cX4_costFree 47 = .ok (.iadd, 1) := by decide +kernel
theorem dX4_costFree_48 : decode cX4_costFree 48 = .ok (.ireturn, 1) := by decide +kernel
theorem dX4_capped_0 : decode cX4_capped 0 = .ok (.iload_n 0, 1) := by decide +kernel
theorem dX4_capped_1 : decode cX4_capped 1 = .ok (.ldc 92, 2) := by decide +kernel
theorem dX4_capped_3 : decode cX4_capped 3 = .ok (.if_icmp .le 8, 3) := by decide +kernel
theorem dX4_capped_6 : decode cX4_capped 6 = .ok (.ldc 92, 2) := by decide +kernel
theorem dX4_capped_8 : decode cX4_capped 8 = .ok (.goto 4, 3) := by decide +kernel
theorem dX4_capped_11 : decode cX4_capped 11 = .ok (.iload_n 0, 1) := by decide +kernel
theorem dX4_capped_12 : decode cX4_capped 12 = .ok (.ireturn, 1) := by decide +kernel
theorem dX4_takesIn_0 : decode cX4_takesIn 0 = .ok (.iload_n 2, 1) := by decide +kernel
theorem dX4_takesIn_1 : decode cX4_takesIn 1 = .ok (.aload_n 0, 1) := by decide +kernel
theorem dX4_takesIn_2 : decode cX4_takesIn 2 = .ok (.getfield 25, 3) := by decide +kernel
theorem dX4_takesIn_5 : decode cX4_takesIn 5 = .ok (.iload_n 1, 1) := by decide +kernel
theorem dX4_takesIn_6 : decode cX4_takesIn 6 = .ok (.iaload, 1) := by decide +kernel
theorem dX4_takesIn_7 : decode cX4_takesIn 7 = .ok (.if_icmp .ge 17, 3) := by decide +kernel
theorem dX4_takesIn_10 : decode cX4_takesIn 10 = .ok (.aload_n 0, 1) := by decide +kernel
theorem dX4_takesIn_11 : decode cX4_takesIn 11 = .ok (.getfield 25, 3) := by decide +kernel
theorem dX4_takesIn_14 : decode cX4_takesIn 14 = .ok (.iload_n 1, 1) := by decide +kernel
theorem dX4_takesIn_15 : decode cX4_takesIn 15 = .ok (.iload_n 2, 1) := by decide +kernel
theorem dX4_takesIn_16 : decode cX4_takesIn 16 = .ok (.iastore, 1) := by decide +kernel
theorem dX4_takesIn_17 : decode cX4_takesIn 17 = .ok (.aload_n 0, 1) := by decide +kernel
theorem dX4_takesIn_18 : decode cX4_takesIn 18 = .ok (.getfield 31, 3) := by decide +kernel
theorem dX4_takesIn_21 : decode cX4_takesIn 21 = .ok (.iload_n 1, 1) := by decide +kernel
theorem dX4_takesIn_22 : decode cX4_takesIn 22 = .ok (.iconst 0, 1) := by decide +kernel
theorem dX4_takesIn_23 : decode cX4_takesIn 23 = .ok (.iastore, 1) := by decide +kernel
theorem dX4_takesIn_24 : decode cX4_takesIn 24 = .ok (.iload_n 2, 1) := by decide +kernel
theorem dX4_takesIn_25 : decode cX4_takesIn 25 = .ok (.aload_n 0, 1) := by decide +kernel
theorem dX4_takesIn_26 : decode cX4_takesIn 26 = .ok (.getfield 25, 3) := by decide +kernel
theorem dX4_takesIn_29 : decode cX4_takesIn 29 = .ok (.iload_n 1, 1) := by decide +kernel
theorem dX4_takesIn_30 : decode cX4_takesIn 30 = .ok (.iaload, 1) := by decide +kernel
theorem dX4_takesIn_31 : decode cX4_takesIn 31 = .ok (.if_icmp .ne 31, 3) := by decide +kernel
theorem dX4_takesIn_34 : decode cX4_takesIn 34 = .ok (.iload_n 2, 1) := by decide +kernel
theorem dX4_takesIn_35 : decode cX4_takesIn 35 = .ok (.ldc 88, 2) := by decide +kernel
theorem dX4_takesIn_37 : decode cX4_takesIn 37 = .ok (.if_icmp .eq 25, 3) := by decide +kernel
theorem dX4_takesIn_40 : decode cX4_takesIn 40 = .ok (.aload_n 0, 1) := by decide +kernel
theorem dX4_takesIn_41 : decode cX4_takesIn 41 = .ok (.getfield 31, 3) := by decide +kernel
theorem dX4_takesIn_44 : decode cX4_takesIn 44 = .ok (.iload_n 1, 1) := by decide +kernel
theorem dX4_takesIn_45 : decode cX4_takesIn 45 = .ok (.aload_n 0, 1) := by decide +kernel
theorem dX4_takesIn_46 : decode cX4_takesIn 46 = .ok (.getfield 31, 3) := by decide +kernel
theorem dX4_takesIn_49 : decode cX4_takesIn 49 = .ok (.iload_n 1, 1) := by decide +kernel
theorem dX4_takesIn_50 : decode cX4_takesIn 50 = .ok (.iaload, 1) := by decide +kernel
theorem dX4_takesIn_51 : decode cX4_takesIn 51 = .ok (.aload_n 0, 1) := by decide +kernel
theorem dX4_takesIn_52 : decode cX4_takesIn 52 = .ok (.getfield 31, 3) := by decide +kernel
theorem dX4_takesIn_55 : decode cX4_takesIn 55 = .ok (.iload_n 3, 1) := by decide +kernel
theorem dX4_takesIn_56 : decode cX4_takesIn 56 = .ok (.iaload, 1) := by decide +kernel
theorem dX4_takesIn_57 : decode cX4_takesIn 57 = .ok (.iadd, 1) := by decide +kernel
theorem dX4_takesIn_58 : decode cX4_takesIn 58 = .ok (.invokestatic 93, 3) := by decide +kernel
theorem dX4_takesIn_61 : decode cX4_takesIn 61 = .ok (.iastore, 1) := by decide +kernel
theorem dX4_takesIn_62 : decode cX4_takesIn 62 = .ok (.aload_n 0, 1) := by decide +kernel
theorem dX4_takesIn_63 : decode cX4_takesIn 63 = .ok (.getfield 28, 3) := by decide +kernel
theorem dX4_takesIn_66 : decode cX4_takesIn 66 = .ok (.iload_n 1, 1) := by decide +kernel
theorem dX4_takesIn_67 : decode cX4_takesIn 67 = .ok (.aload_n 0, 1) := by decide +kernel
theorem dX4_takesIn_68 : decode cX4_takesIn 68 = .ok (.getfield 28, 3) := by decide +kernel
theorem dX4_takesIn_71 : decode cX4_takesIn 71 = .ok (.iload_n 1, 1) := by decide +kernel
theorem dX4_takesIn_72 : decode cX4_takesIn 72 = .ok (.iaload, 1) := by decide +kernel
theorem dX4_takesIn_73 : decode cX4_takesIn 73 = .ok (.aload_n 0, 1) := by decide +kernel
theorem dX4_takesIn_74 : decode cX4_takesIn 74 = .ok (.getfield 28, 3) := by decide +kernel
theorem dX4_takesIn_77 : decode cX4_takesIn 77 = .ok (.iload_n 3, 1) := by decide +kernel
theorem dX4_takesIn_78 : decode cX4_takesIn 78 = .ok (.iaload, 1) := by decide +kernel
theorem dX4_takesIn_79 : decode cX4_takesIn 79 = .ok (.iadd, 1) := by decide +kernel
theorem dX4_takesIn_80 : decode cX4_takesIn 80 = .ok (.invokestatic 93, 3) := by decide +kernel
theorem dX4_takesIn_83 : decode cX4_takesIn 83 = .ok (.iastore, 1) := by decide +kernel
theorem dX4_takesIn_84 : decode cX4_takesIn 84 = .ok (.return_, 1) := by decide +kernel
theorem dX4_findAt_0 : decode cX4_findAt 0 = .ok (.bipush 25, 2) := by decide +kernel
theorem dX4_findAt_2 : decode cX4_findAt 2 = .ok (.iload_n 1, 1) := by decide +kernel
theorem dX4_findAt_3 : decode cX4_findAt 3 = .ok (.imul, 1) := by decide +kernel
theorem dX4_findAt_4 : decode cX4_findAt 4 = .ok (.iload_n 2, 1) := by decide +kernel
theorem dX4_findAt_5 : decode cX4_findAt 5 = .ok (.iadd, 1) := by decide +kernel
theorem dX4_findAt_6 : decode cX4_findAt 6 = .ok (.istore_n 3, 1) := by decide +kernel
theorem dX4_findAt_7 : decode cX4_findAt 7 = .ok (.aload_n 0, 1) := by decide +kernel
theorem dX4_findAt_8 : decode cX4_findAt 8 = .ok (.getfield 25, 3) := by decide +kernel
theorem dX4_findAt_11 : decode cX4_findAt 11 = .ok (.iload_n 3, 1) := by decide +kernel
theorem dX4_findAt_12 : decode cX4_findAt 12 = .ok (.ldc 88, 2) := by decide +kernel
theorem dX4_findAt_14 : decode cX4_findAt 14 = .ok (.iastore, 1) := by decide +kernel
theorem dX4_findAt_15 : decode cX4_findAt 15 = .ok (.aload_n 0, 1) := by decide +kernel
theorem dX4_findAt_16 : decode cX4_findAt 16 = .ok (.getfield 28, 3) := by decide +kernel
theorem dX4_findAt_19 : decode cX4_findAt 19 = .ok (.iload_n 3, 1) := by decide +kernel
theorem dX4_findAt_20 : decode cX4_findAt 20 = .ok (.iconst 0, 1) := by decide +kernel
theorem dX4_findAt_21 : decode cX4_findAt 21 = .ok (.iastore, 1) := by decide +kernel
theorem dX4_findAt_22 : decode cX4_findAt 22 = .ok (.aload_n 0, 1) := by decide +kernel
theorem dX4_findAt_23 : decode cX4_findAt 23 = .ok (.getfield 31, 3) := by decide +kernel
theorem dX4_findAt_26 : decode cX4_findAt 26 = .ok (.iload_n 3, 1) := by decide +kernel
theorem dX4_findAt_27 : decode cX4_findAt 27 = .ok (.iconst 0, 1) := by decide +kernel
theorem dX4_findAt_28 : decode cX4_findAt 28 = .ok (.iastore, 1) := by decide +kernel
theorem dX4_findAt_29 : decode cX4_findAt 29 = .ok (.iload_n 2, 1) := by decide +kernel
theorem dX4_findAt_30 : decode cX4_findAt 30 = .ok (.aload_n 0, 1) := by decide +kernel
theorem dX4_findAt_31 : decode cX4_findAt 31 = .ok (.getfield 72, 3) := by decide +kernel
theorem dX4_findAt_34 : decode cX4_findAt 34 = .ok (.if_icmp .ge 17, 3) := by decide +kernel
theorem dX4_findAt_37 : decode cX4_findAt 37 = .ok (.aload_n 0, 1) := by decide +kernel
theorem dX4_findAt_38 : decode cX4_findAt 38 = .ok (.iload_n 3, 1) := by decide +kernel
theorem dX4_findAt_39 : decode cX4_findAt 39 = .ok (.aload_n 0, 1) := by decide +kernel
theorem dX4_findAt_40 : decode cX4_findAt 40 = .ok (.iload_n 1, 1) := by decide +kernel
theorem dX4_findAt_41 : decode cX4_findAt 41 = .ok (.iload_n 2, 1) := by decide +kernel
theorem dX4_findAt_42 : decode cX4_findAt 42 = .ok (.invokevirtual 96, 3) := by decide +kernel
theorem dX4_findAt_45 : decode cX4_findAt 45 = .ok (.iload_n 3, 1) := by decide +kernel
theorem dX4_findAt_46 : decode cX4_findAt 46 = .ok (.iconst 1, 1) := by decide +kernel
theorem dX4_findAt_47 : decode cX4_findAt 47 = .ok (.iadd, 1) := by decide +kernel
theorem dX4_findAt_48 : decode cX4_findAt 48 = .ok (.invokevirtual 100, 3) := by decide +kernel
theorem dX4_findAt_51 : decode cX4_findAt 51 = .ok (.iconst 1, 1) := by decide +kernel
theorem dX4_findAt_52 : decode cX4_findAt 52 = .ok (.istore 4, 2) := by decide +kernel
theorem dX4_findAt_54 : decode cX4_findAt 54 = .ok (.iload_n 1, 1) := by decide +kernel
theorem dX4_findAt_55 : decode cX4_findAt 55 = .ok (.aload_n 0, 1) := by decide +kernel
theorem dX4_findAt_56 : decode cX4_findAt 56 = .ok (.getfield 66, 3) := by decide +kernel
theorem dX4_findAt_59 : decode cX4_findAt 59 = .ok (.if_icmp .ge 69, 3) := by decide +kernel
theorem dX4_findAt_62 : decode cX4_findAt 62 = .ok (.iload 4, 2) := by decide +kernel
theorem dX4_findAt_64 : decode cX4_findAt 64 = .ok (.aload_n 0, 1) := by decide +kernel
theorem dX4_findAt_65 : decode cX4_findAt 65 = .ok (.getfield 81, 3) := by decide +kernel
theorem dX4_findAt_68 : decode cX4_findAt 68 = .ok (.if_icmp .gt 60, 3) := by decide +kernel
theorem dX4_findAt_71 : decode cX4_findAt 71 = .ok (.iload_n 2, 1) := by decide +kernel
theorem dX4_findAt_72 : decode cX4_findAt 72 = .ok (.iload 4, 2) := by decide +kernel
theorem dX4_findAt_74 : decode cX4_findAt 74 = .ok (.iadd, 1) := by decide +kernel
theorem dX4_findAt_75 : decode cX4_findAt 75 = .ok (.aload_n 0, 1) := by decide +kernel
theorem dX4_findAt_76 : decode cX4_findAt 76 = .ok (.getfield 72, 3) := by decide +kernel
theorem dX4_findAt_79 : decode cX4_findAt 79 = .ok (.if_icmp .gt 49, 3) := by decide +kernel
theorem dX4_findAt_82 : decode cX4_findAt 82 = .ok (.aload_n 0, 1) := by decide +kernel
theorem dX4_findAt_83 : decode cX4_findAt 83 = .ok (.getfield 78, 3) := by decide +kernel
theorem dX4_findAt_86 : decode cX4_findAt 86 = .ok (.iload_n 2, 1) := by decide +kernel
theorem dX4_findAt_87 : decode cX4_findAt 87 = .ok (.iload 4, 2) := by decide +kernel
theorem dX4_findAt_89 : decode cX4_findAt 89 = .ok (.iadd, 1) := by decide +kernel
theorem dX4_findAt_90 : decode cX4_findAt 90 = .ok (.iconst 1, 1) := by decide +kernel
theorem dX4_findAt_91 : decode cX4_findAt 91 = .ok (.isub, 1) := by decide +kernel
theorem dX4_findAt_92 : decode cX4_findAt 92 = .ok (.invokestatic 84, 3) := by decide +kernel
theorem dX4_findAt_95 : decode cX4_findAt 95 = .ok (.ifCond .eq 33, 3) := by decide +kernel
theorem dX4_findAt_98 : decode cX4_findAt 98 = .ok (.aload_n 0, 1) := by decide +kernel
theorem dX4_findAt_99 : decode cX4_findAt 99 = .ok (.iload_n 3, 1) := by decide +kernel
theorem dX4_findAt_100 : decode cX4_findAt 100 = .ok (.aload_n 0, 1) := by decide +kernel
theorem dX4_findAt_101 : decode cX4_findAt 101 = .ok (.iload_n 1, 1) := by decide +kernel
theorem dX4_findAt_102 : decode cX4_findAt 102 = .ok (.iload_n 2, 1) := by decide +kernel
theorem dX4_findAt_103 : decode cX4_findAt 103 = .ok (.iload 4, 2) := by decide +kernel
theorem dX4_findAt_105 : decode cX4_findAt 105 = .ok (.invokevirtual 104, 3) := by decide +kernel
theorem dX4_findAt_108 : decode cX4_findAt 108 = .ok (.bipush 25, 2) := by decide +kernel
theorem dX4_findAt_110 : decode cX4_findAt 110 = .ok (.iload_n 1, 1) := by decide +kernel
theorem dX4_findAt_111 : decode cX4_findAt 111 = .ok (.iconst 1, 1) := by decide +kernel
theorem dX4_findAt_112 : decode cX4_findAt 112 = .ok (.iadd, 1) := by decide +kernel
theorem dX4_findAt_113 : decode cX4_findAt 113 = .ok (.imul, 1) := by decide +kernel
theorem dX4_findAt_114 : decode cX4_findAt 114 = .ok (.iload_n 2, 1) := by decide +kernel
theorem dX4_findAt_115 : decode cX4_findAt 115 = .ok (.iadd, 1) := by decide +kernel
theorem dX4_findAt_116 : decode cX4_findAt 116 = .ok (.iload 4, 2) := by decide +kernel
theorem dX4_findAt_118 : decode cX4_findAt 118 = .ok (.iadd, 1) := by decide +kernel
theorem dX4_findAt_119 : decode cX4_findAt 119 = .ok (.invokevirtual 100, 3) := by decide +kernel
theorem dX4_findAt_122 : decode cX4_findAt 122 = .ok (.iinc 4 1, 3) := by decide +kernel
theorem dX4_findAt_125 : decode cX4_findAt 125 = .ok (.goto (-71), 3) := by decide +kernel
theorem dX4_findAt_128 : decode cX4_findAt 128 = .ok (.return_, 1) := by decide +kernel
theorem dX4_findCost_0 : decode cX4_findCost 0 = .ok (.aload_n 0, 1) := by decide +kernel
theorem dX4_findCost_1 : decode cX4_findCost 1 = .ok (.getfield 66, 3) := by decide +kernel
theorem dX4_findCost_4 : decode cX4_findCost 4 = .ok (.istore_n 1, 1) := by decide +kernel
theorem dX4_findCost_5 : decode cX4_findCost 5 = .ok (.iload_n 1, 1) := by decide +kernel
theorem dX4_findCost_6 : decode cX4_findCost 6 = .ok (.ifCond .lt 82, 3) := by decide +kernel
theorem dX4_findCost_9 : decode cX4_findCost 9 = .ok (.aload_n 0, 1) := by decide +kernel
theorem dX4_findCost_10 : decode cX4_findCost 10 = .ok (.getfield 72, 3) := by decide +kernel
theorem dX4_findCost_13 : decode cX4_findCost 13 = .ok (.istore_n 2, 1) := by decide +kernel
theorem dX4_findCost_14 : decode cX4_findCost 14 = .ok (.iload_n 2, 1) := by decide +kernel
theorem dX4_findCost_15 : decode cX4_findCost 15 = .ok (.ifCond .lt 67, 3) := by decide +kernel
theorem dX4_findCost_18 : decode cX4_findCost 18 = .ok (.aload_n 0, 1) := by decide +kernel
theorem dX4_findCost_19 : decode cX4_findCost 19 = .ok (.iload_n 1, 1) := by decide +kernel
theorem dX4_findCost_20 : decode cX4_findCost 20 = .ok (.iload_n 2, 1) := by decide +kernel
theorem dX4_findCost_21 : decode cX4_findCost 21 = .ok (.invokevirtual 108, 3) := by decide +kernel
theorem dX4_findCost_24 : decode cX4_findCost 24 = .ok (.iload_n 1, 1) := by decide +kernel
theorem dX4_findCost_25 : decode cX4_findCost 25 = .ok (.aload_n 0, 1) := by decide +kernel
theorem dX4_findCost_26 : decode cX4_findCost 26 = .ok (.getfield 66, 3) := by decide +kernel
theorem dX4_findCost_29 : decode cX4_findCost 29 = .ok (.if_icmp .ne 47, 3) := by decide +kernel
theorem dX4_findCost_32 : decode cX4_findCost 32 = .ok (.iload_n 2, 1) := by decide +kernel
theorem dX4_findCost_33 : decode cX4_findCost 33 = .ok (.aload_n 0, 1) := by decide +kernel
theorem dX4_findCost_34 : decode cX4_findCost 34 = .ok (.getfield 72, 3) := by decide +kernel
theorem dX4_findCost_37 : decode cX4_findCost 37 = .ok (.if_icmp .ne 39, 3) := by decide +kernel
theorem dX4_findCost_40 : decode cX4_findCost 40 = .ok (.aload_n 0, 1) := by decide +kernel
theorem dX4_findCost_41 : decode cX4_findCost 41 = .ok (.getfield 25, 3) := by decide +kernel
theorem dX4_findCost_44 : decode cX4_findCost 44 = .ok (.bipush 25, 2) := by decide +kernel
theorem dX4_findCost_46 : decode cX4_findCost 46 = .ok (.iload_n 1, 1) := by decide +kernel
theorem dX4_findCost_47 : decode cX4_findCost 47 = .ok (.imul, 1) := by decide +kernel
theorem dX4_findCost_48 : decode cX4_findCost 48 = .ok (.iload_n 2, 1) := by decide +kernel
theorem dX4_findCost_49 : decode cX4_findCost 49 = .ok (.iadd, 1) := by decide +kernel
theorem dX4_findCost_50 : decode cX4_findCost 50 = .ok (.iconst 0, 1) := by decide +kernel
theorem dX4_findCost_51 : decode cX4_findCost 51 = .ok (.iastore, 1) := by decide +kernel
theorem dX4_findCost_52 : decode cX4_findCost 52 = .ok (.aload_n 0, 1) := by decide +kernel
theorem dX4_findCost_53 : decode cX4_findCost 53 = .ok (.getfield 28, 3) := by decide +kernel
theorem dX4_findCost_56 : decode cX4_findCost 56 = .ok (.bipush 25, 2) := by decide +kernel
theorem dX4_findCost_58 : decode cX4_findCost 58 = .ok (.iload_n 1, 1) := by decide +kernel
theorem dX4_findCost_59 : decode cX4_findCost 59 = .ok (.imul, 1) := by decide +kernel
theorem dX4_findCost_60 : decode cX4_findCost 60 = .ok (.iload_n 2, 1) := by decide +kernel
theorem dX4_findCost_61 : decode cX4_findCost 61 = .ok (.iadd, 1) := by decide +kernel
theorem dX4_findCost_62 : decode cX4_findCost 62 = .ok (.iconst 1, 1) := by decide +kernel
theorem dX4_findCost_63 : decode cX4_findCost 63 = .ok (.iastore, 1) := by decide +kernel
theorem dX4_findCost_64 : decode cX4_findCost 64 = .ok (.aload_n 0, 1) := by decide +kernel
theorem dX4_findCost_65 : decode cX4_findCost 65 = .ok (.getfield 31, 3) := by decide +kernel
theorem dX4_findCost_68 : decode cX4_findCost 68 = .ok (.bipush 25, 2) := by decide +kernel
theorem dX4_findCost_70 : decode cX4_findCost 70 = .ok (.iload_n 1, 1) := by decide +kernel
theorem dX4_findCost_71 : decode cX4_findCost 71 = .ok (.imul, 1) := by decide +kernel
theorem dX4_findCost_72 : decode cX4_findCost 72 = .ok (.iload_n 2, 1) := by decide +kernel
theorem dX4_findCost_73 : decode cX4_findCost 73 = .ok (.iadd, 1) := by decide +kernel
theorem dX4_findCost_74 : decode cX4_findCost 74 = .ok (.iconst 1, 1) := by decide +kernel
theorem dX4_findCost_75 : decode cX4_findCost 75 = .ok (.iastore, 1) := by decide +kernel
theorem dX4_findCost_76 : decode cX4_findCost 76 = .ok (.iinc 2 (-1), 3) := by decide +kernel
theorem dX4_findCost_79 : decode cX4_findCost 79 = .ok (.goto (-65), 3) := by decide +kernel
theorem dX4_findCost_82 : decode cX4_findCost 82 = .ok (.iinc 1 (-1), 3) := by decide +kernel
theorem dX4_findCost_85 : decode cX4_findCost 85 = .ok (.goto (-80), 3) := by decide +kernel
theorem dX4_findCost_88 : decode cX4_findCost 88 = .ok (.aload_n 0, 1) := by decide +kernel
theorem dX4_findCost_89 : decode cX4_findCost 89 = .ok (.getfield 25, 3) := by decide +kernel
theorem dX4_findCost_92 : decode cX4_findCost 92 = .ok (.iconst 0, 1) := by decide +kernel
theorem dX4_findCost_93 : decode cX4_findCost 93 = .ok (.iaload, 1) := by decide +kernel
theorem dX4_findCost_94 : decode cX4_findCost 94 = .ok (.ireturn, 1) := by decide +kernel
theorem dX4_beatsFrom_0 : decode cX4_beatsFrom 0 = .ok (.iconst 1, 1) := by decide +kernel
theorem dX4_beatsFrom_1 : decode cX4_beatsFrom 1 = .ok (.istore_n 3, 1) := by decide +kernel
theorem dX4_beatsFrom_2 : decode cX4_beatsFrom 2 = .ok (.iload_n 3, 1) := by decide +kernel
theorem dX4_beatsFrom_3 : decode cX4_beatsFrom 3 = .ok (.aload_n 0, 1) := by decide +kernel
theorem dX4_beatsFrom_4 : decode cX4_beatsFrom 4 = .ok (.getfield 81, 3) := by decide +kernel
theorem dX4_beatsFrom_7 : decode cX4_beatsFrom 7 = .ok (.if_icmp .gt 57, 3) := by decide +kernel
theorem dX4_beatsFrom_10 : decode cX4_beatsFrom 10 = .ok (.iload_n 2, 1) := by decide +kernel
theorem dX4_beatsFrom_11 : decode cX4_beatsFrom 11 = .ok (.iload_n 3, 1) := by decide +kernel
theorem dX4_beatsFrom_12 : decode cX4_beatsFrom 12 = .ok (.iadd, 1) := by decide +kernel
theorem dX4_beatsFrom_13 : decode cX4_beatsFrom 13 = .ok (.aload_n 0, 1) := by decide +kernel
theorem dX4_beatsFrom_14 : decode cX4_beatsFrom 14 = .ok (.getfield 72, 3) := by decide +kernel
theorem dX4_beatsFrom_17 : decode cX4_beatsFrom 17 = .ok (.if_icmp .gt 47, 3) := by decide +kernel
theorem dX4_beatsFrom_20 : decode cX4_beatsFrom 20 = .ok (.aload_n 0, 1) := by decide +kernel
theorem dX4_beatsFrom_21 : decode cX4_beatsFrom 21 = .ok (.getfield 78, 3) := by decide +kernel
theorem dX4_beatsFrom_24 : decode cX4_beatsFrom 24 = .ok (.iload_n 2, 1) := by decide +kernel
theorem dX4_beatsFrom_25 : decode cX4_beatsFrom 25 = .ok (.iload_n 3, 1) := by decide +kernel
theorem dX4_beatsFrom_26 : decode cX4_beatsFrom 26 = .ok (.iadd, 1) := by decide +kernel
theorem dX4_beatsFrom_27 : decode cX4_beatsFrom 27 = .ok (.iconst 1, 1) := by decide +kernel
theorem dX4_beatsFrom_28 : decode cX4_beatsFrom 28 = .ok (.isub, 1) := by decide +kernel
theorem dX4_beatsFrom_29 : decode cX4_beatsFrom 29 = .ok (.invokestatic 84, 3) := by decide +kernel
theorem dX4_beatsFrom_32 : decode cX4_beatsFrom 32 = .ok (.ifCond .eq 32, 3) := by decide +kernel
theorem dX4_beatsFrom_35 : decode cX4_beatsFrom 35 = .ok (.aload_n 0, 1) := by decide +kernel
theorem dX4_beatsFrom_36 : decode cX4_beatsFrom 36 = .ok (.iload_n 1, 1) := by decide +kernel
theorem dX4_beatsFrom_37 : decode cX4_beatsFrom 37 = .ok (.iload_n 2, 1) := by decide +kernel
theorem dX4_beatsFrom_38 : decode cX4_beatsFrom 38 = .ok (.iload_n 3, 1) := by decide +kernel
theorem dX4_beatsFrom_39 : decode cX4_beatsFrom 39 = .ok (.invokevirtual 104, 3) := by decide +kernel
theorem dX4_beatsFrom_42 : decode cX4_beatsFrom 42 = .ok (.aload_n 0, 1) := by decide +kernel
theorem dX4_beatsFrom_43 : decode cX4_beatsFrom 43 = .ok (.getfield 25, 3) := by decide +kernel
theorem dX4_beatsFrom_46 : decode cX4_beatsFrom 46 = .ok (.bipush 25, 2) := by decide +kernel
theorem dX4_beatsFrom_48 : decode cX4_beatsFrom 48 = .ok (.iload_n 1, 1) := by decide +kernel
theorem dX4_beatsFrom_49 : decode cX4_beatsFrom 49 = .ok (.imul, 1) := by decide +kernel
theorem dX4_beatsFrom_50 : decode cX4_beatsFrom 50 = .ok (.iload_n 2, 1) := by decide +kernel
theorem dX4_beatsFrom_51 : decode cX4_beatsFrom 51 = .ok (.iadd, 1) := by decide +kernel
theorem dX4_beatsFrom_52 : decode cX4_beatsFrom 52 = .ok (.iaload, 1) := by decide +kernel
theorem dX4_beatsFrom_53 : decode cX4_beatsFrom 53 = .ok (.if_icmp .ne 5, 3) := by decide +kernel
theorem dX4_beatsFrom_56 : decode cX4_beatsFrom 56 = .ok (.iload_n 3, 1) := by decide +kernel
theorem dX4_beatsFrom_57 : decode cX4_beatsFrom 57 = .ok (.ireturn, 1) := by decide +kernel
theorem dX4_beatsFrom_58 : decode cX4_beatsFrom 58 = .ok (.iinc 3 1, 3) := by decide +kernel
theorem dX4_beatsFrom_61 : decode cX4_beatsFrom 61 = .ok (.goto (-59), 3) := by decide +kernel
theorem dX4_beatsFrom_64 : decode cX4_beatsFrom 64 = .ok (.iconst 0, 1) := by decide +kernel
theorem dX4_beatsFrom_65 : decode cX4_beatsFrom 65 = .ok (.ireturn, 1) := by decide +kernel
theorem dX4_findWay_0 : decode cX4_findWay 0 = .ok (.iconst 0, 1) := by decide +kernel
theorem dX4_findWay_1 : decode cX4_findWay 1 = .ok (.istore_n 1, 1) := by decide +kernel
theorem dX4_findWay_2 : decode cX4_findWay 2 = .ok (.iconst 0, 1) := by decide +kernel
theorem dX4_findWay_3 : decode cX4_findWay 3 = .ok (.istore_n 2, 1) := by decide +kernel
theorem dX4_findWay_4 : decode cX4_findWay 4 = .ok (.iload_n 2, 1) := by decide +kernel
theorem dX4_findWay_5 : decode cX4_findWay 5 = .ok (.aload_n 0, 1) := by decide +kernel
theorem dX4_findWay_6 : decode cX4_findWay 6 = .ok (.getfield 66, 3) := by decide +kernel
theorem dX4_findWay_9 : decode cX4_findWay 9 = .ok (.if_icmp .ge 52, 3) := by decide +kernel
theorem dX4_findWay_12 : decode cX4_findWay 12 = .ok (.aload_n 0, 1) := by decide +kernel
theorem dX4_findWay_13 : decode cX4_findWay 13 = .ok (.iload_n 2, 1) := by decide +kernel
theorem dX4_findWay_14 : decode cX4_findWay 14 = .ok (.iload_n 1, 1) := by decide +kernel
theorem dX4_findWay_15 : decode cX4_findWay 15 = .ok (.invokevirtual 112, 3) := by decide +kernel
theorem dX4_findWay_18 : decode cX4_findWay 18 = .ok (.ifCond .ne 9, 3) := by decide +kernel
theorem dX4_findWay_21 : decode cX4_findWay 21 = .ok (.iinc 1 1, 3) := by decide +kernel
theorem dX4_findWay_24 : decode cX4_findWay 24 = .ok (.goto (-12), 3) := by decide +kernel
theorem dX4_findWay_27 : decode cX4_findWay 27 = .ok (.aload_n 0, 1) := by decide +kernel
theorem dX4_findWay_28 : decode cX4_findWay 28 = .ok (.getfield 34, 3) := by decide +kernel
theorem dX4_findWay_31 : decode cX4_findWay 31 = .ok (.iload_n 2, 1) := by decide +kernel
theorem dX4_findWay_32 : decode cX4_findWay 32 = .ok (.iload_n 1, 1) := by decide +kernel
theorem dX4_findWay_33 : decode cX4_findWay 33 = .ok (.iastore, 1) := by decide +kernel
theorem dX4_findWay_34 : decode cX4_findWay 34 = .ok (.aload_n 0, 1) := by decide +kernel
theorem dX4_findWay_35 : decode cX4_findWay 35 = .ok (.getfield 37, 3) := by decide +kernel
theorem dX4_findWay_38 : decode cX4_findWay 38 = .ok (.iload_n 2, 1) := by decide +kernel
theorem dX4_findWay_39 : decode cX4_findWay 39 = .ok (.aload_n 0, 1) := by decide +kernel
theorem dX4_findWay_40 : decode cX4_findWay 40 = .ok (.iload_n 2, 1) := by decide +kernel
theorem dX4_findWay_41 : decode cX4_findWay 41 = .ok (.iload_n 1, 1) := by decide +kernel
theorem dX4_findWay_42 : decode cX4_findWay 42 = .ok (.invokevirtual 112, 3) := by decide +kernel
theorem dX4_findWay_45 : decode cX4_findWay 45 = .ok (.iastore, 1) := by decide +kernel
theorem dX4_findWay_46 : decode cX4_findWay 46 = .ok (.iload_n 1, 1) := by decide +kernel
theorem dX4_findWay_47 : decode cX4_findWay 47 = .ok (.aload_n 0, 1) := by decide +kernel
theorem dX4_findWay_48 : decode cX4_findWay 48 = .ok (.getfield 37, 3) := by decide +kernel
theorem dX4_findWay_51 : decode cX4_findWay 51 = .ok (.iload_n 2, 1) := by decide +kernel
theorem dX4_findWay_52 : decode cX4_findWay 52 = .ok (.iaload, 1) := by decide +kernel
theorem dX4_findWay_53 : decode cX4_findWay 53 = .ok (.iadd, 1) := by decide +kernel
theorem dX4_findWay_54 : decode cX4_findWay 54 = .ok (.istore_n 1, 1) := by decide +kernel
theorem dX4_findWay_55 : decode cX4_findWay 55 = .ok (.iinc 2 1, 3) := by decide +kernel
theorem dX4_findWay_58 : decode cX4_findWay 58 = .ok (.goto (-54), 3) := by decide +kernel
theorem dX4_findWay_61 : decode cX4_findWay 61 = .ok (.return_, 1) := by decide +kernel
theorem dX4_costOf_0 : decode cX4_costOf 0 = .ok (.aload_n 0, 1) := by decide +kernel
theorem dX4_costOf_1 : decode cX4_costOf 1 = .ok (.iload_n 1, 1) := by decide +kernel
theorem dX4_costOf_2 : decode cX4_costOf 2 = .ok (.iload_n 2, 1) := by decide +kernel
theorem dX4_costOf_3 : decode cX4_costOf 3 = .ok (.invokevirtual 115, 3) := by decide +kernel
theorem dX4_costOf_6 : decode cX4_costOf 6 = .ok (.aload_n 0, 1) := by decide +kernel
theorem dX4_costOf_7 : decode cX4_costOf 7 = .ok (.invokevirtual 118, 3) := by decide +kernel
theorem dX4_costOf_10 : decode cX4_costOf 10 = .ok (.ireturn, 1) := by decide +kernel
theorem dX4_freeBeats_0 : decode cX4_freeBeats 0 = .ok (.aload_n 0, 1) := by decide +kernel
theorem dX4_freeBeats_1 : decode cX4_freeBeats 1 = .ok (.invokevirtual 122, 3) := by decide +kernel
theorem dX4_freeBeats_4 : decode cX4_freeBeats 4 = .ok (.aload_n 0, 1) := by decide +kernel
theorem dX4_freeBeats_5 : decode cX4_freeBeats 5 = .ok (.getfield 78, 3) := by decide +kernel
theorem dX4_freeBeats_8 : decode cX4_freeBeats 8 = .ok (.invokestatic 125, 3) := by decide +kernel
theorem dX4_freeBeats_11 : decode cX4_freeBeats 11 = .ok (.istore_n 1, 1) := by decide +kernel
theorem dX4_freeBeats_12 : decode cX4_freeBeats 12 = .ok (.iconst 0, 1) := by decide +kernel
theorem dX4_freeBeats_13 : decode cX4_freeBeats 13 = .ok (.istore_n 2, 1) := by decide +kernel
theorem dX4_freeBeats_14 : decode cX4_freeBeats 14 = .ok (.iload_n 2, 1) := by decide +kernel
theorem dX4_freeBeats_15 : decode cX4_freeBeats 15 = .ok (.aload_n 0, 1) := by decide +kernel
theorem dX4_freeBeats_16 : decode cX4_freeBeats 16 = .ok (.getfield 66, 3) := by decide +kernel
theorem dX4_freeBeats_19 : decode cX4_freeBeats 19 = .ok (.if_icmp .ge 18, 3) := by decide +kernel
theorem dX4_freeBeats_22 : decode cX4_freeBeats 22 = .ok (.iload_n 1, 1) := by decide +kernel
theorem dX4_freeBeats_23 : decode cX4_freeBeats 23 = .ok (.aload_n 0, 1) := by decide +kernel
theorem dX4_freeBeats_24 : decode cX4_freeBeats 24 = .ok (.getfield 37, 3) := by decide +kernel
theorem dX4_freeBeats_27 : decode cX4_freeBeats 27 = .ok (.iload_n 2, 1) := by decide +kernel
theorem dX4_freeBeats_28 : decode cX4_freeBeats 28 = .ok (.iaload, 1) := by decide +kernel
theorem dX4_freeBeats_29 : decode cX4_freeBeats 29 = .ok (.isub, 1) := by decide +kernel
theorem dX4_freeBeats_30 : decode cX4_freeBeats 30 = .ok (.istore_n 1, 1) := by decide +kernel
theorem dX4_freeBeats_31 : decode cX4_freeBeats 31 = .ok (.iinc 2 1, 3) := by decide +kernel
theorem dX4_freeBeats_34 : decode cX4_freeBeats 34 = .ok (.goto (-20), 3) := by decide +kernel
theorem dX4_freeBeats_37 : decode cX4_freeBeats 37 = .ok (.iload_n 1, 1) := by decide +kernel
theorem dX4_freeBeats_38 : decode cX4_freeBeats 38 = .ok (.ireturn, 1) := by decide +kernel
theorem dX4_hurting_0 : decode cX4_hurting 0 = .ok (.aload_n 0, 1) := by decide +kernel
theorem dX4_hurting_1 : decode cX4_hurting 1 = .ok (.invokevirtual 122, 3) := by decide +kernel
theorem dX4_hurting_4 : decode cX4_hurting 4 = .ok (.iconst 0, 1) := by decide +kernel
theorem dX4_hurting_5 : decode cX4_hurting 5 = .ok (.istore_n 1, 1) := by decide +kernel
theorem dX4_hurting_6 : decode cX4_hurting 6 = .ok (.iconst 0, 1) := by decide +kernel
theorem dX4_hurting_7 : decode cX4_hurting 7 = .ok (.istore_n 2, 1) := by decide +kernel
theorem dX4_hurting_8 : decode cX4_hurting 8 = .ok (.iload_n 2, 1) := by decide +kernel
theorem dX4_hurting_9 : decode cX4_hurting 9 = .ok (.aload_n 0, 1) := by decide +kernel
theorem dX4_hurting_10 : decode cX4_hurting 10 = .ok (.getfield 66, 3) := by decide +kernel
theorem dX4_hurting_13 : decode cX4_hurting 13 = .ok (.if_icmp .ge 31, 3) := by decide +kernel
theorem dX4_hurting_16 : decode cX4_hurting 16 = .ok (.iload_n 1, 1) := by decide +kernel
theorem dX4_hurting_17 : decode cX4_hurting 17 = .ok (.aload_n 0, 1) := by decide +kernel
theorem dX4_hurting_18 : decode cX4_hurting 18 = .ok (.iload_n 2, 1) := by decide +kernel
theorem dX4_hurting_19 : decode cX4_hurting 19 = .ok (.aload_n 0, 1) := by decide +kernel
theorem dX4_hurting_20 : decode cX4_hurting 20 = .ok (.getfield 34, 3) := by decide +kernel
theorem dX4_hurting_23 : decode cX4_hurting 23 = .ok (.iload_n 2, 1) := by decide +kernel
theorem dX4_hurting_24 : decode cX4_hurting 24 = .ok (.iaload, 1) := by decide +kernel
theorem dX4_hurting_25 : decode cX4_hurting 25 = .ok (.invokevirtual 89, 3) := by decide +kernel
theorem dX4_hurting_28 : decode cX4_hurting 28 = .ok (.ifCond .eq 7, 3) := by decide +kernel
theorem dX4_hurting_31 : decode cX4_hurting 31 = .ok (.iconst 1, 1) := by decide +kernel
theorem dX4_hurting_32 : decode cX4_hurting 32 = .ok (.goto 4, 3) := by decide +kernel
theorem dX4_hurting_35 : decode cX4_hurting 35 = .ok (.iconst 0, 1) := by decide +kernel
theorem dX4_hurting_36 : decode cX4_hurting 36 = .ok (.iadd, 1) := by decide +kernel
theorem dX4_hurting_37 : decode cX4_hurting 37 = .ok (.istore_n 1, 1) := by decide +kernel
theorem dX4_hurting_38 : decode cX4_hurting 38 = .ok (.iinc 2 1, 3) := by decide +kernel
theorem dX4_hurting_41 : decode cX4_hurting 41 = .ok (.goto (-33), 3) := by decide +kernel
theorem dX4_hurting_44 : decode cX4_hurting 44 = .ok (.iload_n 1, 1) := by decide +kernel
theorem dX4_hurting_45 : decode cX4_hurting 45 = .ok (.ireturn, 1) := by decide +kernel
theorem dX4_isValue_0 : decode cX4_isValue 0 = .ok (.iload_n 0, 1) := by decide +kernel
theorem dX4_isValue_1 : decode cX4_isValue 1 = .ok (.tableswitch 55 0 3 #[31, 39, 39, 47], 31) := by decide +kernel
theorem dX4_isValue_32 : decode cX4_isValue 32 = .ok (.iload_n 1, 1) := by decide +kernel
theorem dX4_isValue_33 : decode cX4_isValue 33 = .ok (.iconst 1, 1) := by decide +kernel
theorem dX4_isValue_34 : decode cX4_isValue 34 = .ok (.bipush 8, 2) := by decide +kernel
theorem dX4_isValue_36 : decode cX4_isValue 36 = .ok (.invokestatic 48, 3) := by decide +kernel
theorem dX4_isValue_39 : decode cX4_isValue 39 = .ok (.ireturn, 1) := by decide +kernel
theorem dX4_isValue_40 : decode cX4_isValue 40 = .ok (.iload_n 1, 1) := by decide +kernel
theorem dX4_isValue_41 : decode cX4_isValue 41 = .ok (.iconst 0, 1) := by decide +kernel
theorem dX4_isValue_42 : decode cX4_isValue 42 = .ok (.bipush 9, 2) := by decide +kernel
theorem dX4_isValue_44 : decode cX4_isValue 44 = .ok (.invokestatic 48, 3) := by decide +kernel
theorem dX4_isValue_47 : decode cX4_isValue 47 = .ok (.ireturn, 1) := by decide +kernel
theorem dX4_isValue_48 : decode cX4_isValue 48 = .ok (.iload_n 1, 1) := by decide +kernel
theorem dX4_isValue_49 : decode cX4_isValue 49 = .ok (.iconst 0, 1) := by decide +kernel
theorem dX4_isValue_50 : decode cX4_isValue 50 = .ok (.bipush 20, 2) := by decide +kernel
theorem dX4_isValue_52 : decode cX4_isValue 52 = .ok (.invokestatic 48, 3) := by decide +kernel
theorem dX4_isValue_55 : decode cX4_isValue 55 = .ok (.ireturn, 1) := by decide +kernel
theorem dX4_isValue_56 : decode cX4_isValue 56 = .ok (.iconst 0, 1) := by decide +kernel
theorem dX4_isValue_57 : decode cX4_isValue 57 = .ok (.ireturn, 1) := by decide +kernel
theorem dX4_set_0 : decode cX4_set 0 = .ok (.iload_n 1, 1) := by decide +kernel
theorem dX4_set_1 : decode cX4_set 1 = .ok (.iload_n 2, 1) := by decide +kernel
theorem dX4_set_2 : decode cX4_set 2 = .ok (.invokestatic 128, 3) := by decide +kernel
theorem dX4_set_5 : decode cX4_set 5 = .ok (.ifCond .ne 6, 3) := by decide +kernel
theorem dX4_set_8 : decode cX4_set 8 = .ok (.bipush (-2), 2) := by decide +kernel
theorem dX4_set_10 : decode cX4_set 10 = .ok (.ireturn, 1) := by decide +kernel
theorem dX4_set_11 : decode cX4_set 11 = .ok (.aload_n 0, 1) := by decide +kernel
theorem dX4_set_12 : decode cX4_set 12 = .ok (.invokevirtual 131, 3) := by decide +kernel
theorem dX4_set_15 : decode cX4_set 15 = .ok (.aload_n 0, 1) := by decide +kernel
theorem dX4_set_16 : decode cX4_set 16 = .ok (.getfield 7, 3) := by decide +kernel
theorem dX4_set_19 : decode cX4_set 19 = .ok (.iload_n 1, 1) := by decide +kernel
theorem dX4_set_20 : decode cX4_set 20 = .ok (.iaload, 1) := by decide +kernel
theorem dX4_set_21 : decode cX4_set 21 = .ok (.istore_n 3, 1) := by decide +kernel
theorem dX4_set_22 : decode cX4_set 22 = .ok (.aload_n 0, 1) := by decide +kernel
theorem dX4_set_23 : decode cX4_set 23 = .ok (.getfield 7, 3) := by decide +kernel
theorem dX4_set_26 : decode cX4_set 26 = .ok (.iload_n 1, 1) := by decide +kernel
theorem dX4_set_27 : decode cX4_set 27 = .ok (.iload_n 2, 1) := by decide +kernel
theorem dX4_set_28 : decode cX4_set 28 = .ok (.iastore, 1) := by decide +kernel
theorem dX4_set_29 : decode cX4_set 29 = .ok (.iload_n 3, 1) := by decide +kernel
theorem dX4_set_30 : decode cX4_set 30 = .ok (.ireturn, 1) := by decide +kernel
theorem dX4_parts_0 : decode cX4_parts 0 = .ok (.iconst 0, 1) := by decide +kernel
theorem dX4_parts_1 : decode cX4_parts 1 = .ok (.istore_n 2, 1) := by decide +kernel
theorem dX4_parts_2 : decode cX4_parts 2 = .ok (.iconst 0, 1) := by decide +kernel
theorem dX4_parts_3 : decode cX4_parts 3 = .ok (.istore_n 3, 1) := by decide +kernel
theorem dX4_parts_4 : decode cX4_parts 4 = .ok (.iload_n 3, 1) := by decide +kernel
theorem dX4_parts_5 : decode cX4_parts 5 = .ok (.aload_n 0, 1) := by decide +kernel
theorem dX4_parts_6 : decode cX4_parts 6 = .ok (.getfield 134, 3) := by decide +kernel
theorem dX4_parts_9 : decode cX4_parts 9 = .ok (.if_icmp .ge 66, 3) := by decide +kernel
theorem dX4_parts_12 : decode cX4_parts 12 = .ok (.iload_n 3, 1) := by decide +kernel
theorem dX4_parts_13 : decode cX4_parts 13 = .ok (.ifCond .eq 16, 3) := by decide +kernel
theorem dX4_parts_16 : decode cX4_parts 16 = .ok (.aload_n 0, 1) := by decide +kernel
theorem dX4_parts_17 : decode cX4_parts 17 = .ok (.getfield 22, 3) := by decide +kernel
theorem dX4_parts_20 : decode cX4_parts 20 = .ok (.iload_n 3, 1) := by decide +kernel
theorem dX4_parts_21 : decode cX4_parts 21 = .ok (.iconst 1, 1) := by decide +kernel
theorem dX4_parts_22 : decode cX4_parts 22 = .ok (.isub, 1) := by decide +kernel
theorem dX4_parts_23 : decode cX4_parts 23 = .ok (.iaload, 1) := by decide +kernel
theorem dX4_parts_24 : decode cX4_parts 24 = .ok (.bipush 59, 2) := by decide +kernel
theorem dX4_parts_26 : decode cX4_parts 26 = .ok (.if_icmp .ne 7, 3) := by decide +kernel
theorem dX4_parts_29 : decode cX4_parts 29 = .ok (.iconst 1, 1) := by decide +kernel
theorem dX4_parts_30 : decode cX4_parts 30 = .ok (.goto 4, 3) := by decide +kernel
theorem dX4_parts_33 : decode cX4_parts 33 = .ok (.iconst 0, 1) := by decide +kernel
theorem dX4_parts_34 : decode cX4_parts 34 = .ok (.istore 4, 2) := by decide +kernel
theorem dX4_parts_36 : decode cX4_parts 36 = .ok (.iload_n 2, 1) := by decide +kernel
theorem dX4_parts_37 : decode cX4_parts 37 = .ok (.iload 4, 2) := by decide +kernel
theorem dX4_parts_39 : decode cX4_parts 39 = .ok (.ifCond .eq 27, 3) := by decide +kernel
theorem dX4_parts_42 : decode cX4_parts 42 = .ok (.aload_n 0, 1) := by decide +kernel
theorem dX4_parts_43 : decode cX4_parts 43 = .ok (.getfield 22, 3) := by decide +kernel
theorem dX4_parts_46 : decode cX4_parts 46 = .ok (.iload_n 3, 1) := by decide +kernel
theorem dX4_parts_47 : decode cX4_parts 47 = .ok (.iaload, 1) := by decide +kernel
theorem dX4_parts_48 : decode cX4_parts 48 = .ok (.bipush 124, 2) := by decide +kernel
theorem dX4_parts_50 : decode cX4_parts 50 = .ok (.if_icmp .ne 7, 3) := by decide +kernel
theorem dX4_parts_53 : decode cX4_parts 53 = .ok (.iconst 1, 1) := by decide +kernel
theorem dX4_parts_54 : decode cX4_parts 54 = .ok (.goto 4, 3) := by decide +kernel
theorem dX4_parts_57 : decode cX4_parts 57 = .ok (.iconst 0, 1) := by decide +kernel
theorem dX4_parts_58 : decode cX4_parts 58 = .ok (.iload_n 1, 1) := by decide +kernel
theorem dX4_parts_59 : decode cX4_parts 59 = .ok (.if_icmp .ne 7, 3) := by decide +kernel
theorem dX4_parts_62 : decode cX4_parts 62 = .ok (.iconst 1, 1) := by decide +kernel
theorem dX4_parts_63 : decode cX4_parts 63 = .ok (.goto 4, 3) := by decide +kernel
theorem dX4_parts_66 : decode cX4_parts 66 = .ok (.iconst 0, 1) := by decide +kernel
theorem dX4_parts_67 : decode cX4_parts 67 = .ok (.iadd, 1) := by decide +kernel
theorem dX4_parts_68 : decode cX4_parts 68 = .ok (.istore_n 2, 1) := by decide +kernel
theorem dX4_parts_69 : decode cX4_parts 69 = .ok (.iinc 3 1, 3) := by decide +kernel
theorem dX4_parts_72 : decode cX4_parts 72 = .ok (.goto (-68), 3) := by decide +kernel
theorem dX4_parts_75 : decode cX4_parts 75 = .ok (.iload_n 2, 1) := by decide +kernel
theorem dX4_parts_76 : decode cX4_parts 76 = .ok (.ireturn, 1) := by decide +kernel
theorem dX4_writeLine_0 : decode cX4_writeLine 0 = .ok (.bipush 8, 2) := by decide +kernel
theorem dX4_writeLine_2 : decode cX4_writeLine 2 = .ok (.iconst 2, 1) := by decide +kernel
theorem dX4_writeLine_3 : decode cX4_writeLine 3 = .ok (.aload_n 0, 1) := by decide +kernel
theorem dX4_writeLine_4 : decode cX4_writeLine 4 = .ok (.getfield 7, 3) := by decide +kernel
theorem dX4_writeLine_7 : decode cX4_writeLine 7 = .ok (.iconst 4, 1) := by decide +kernel
theorem dX4_writeLine_8 : decode cX4_writeLine 8 = .ok (.iaload, 1) := by decide +kernel
theorem dX4_writeLine_9 : decode cX4_writeLine 9 = .ok (.imul, 1) := by decide +kernel
theorem dX4_writeLine_10 : decode cX4_writeLine 10 = .ok (.iadd, 1) := by decide +kernel
theorem dX4_writeLine_11 : decode cX4_writeLine 11 = .ok (.istore_n 2, 1) := by decide +kernel
theorem dX4_writeLine_12 : decode cX4_writeLine 12 = .ok (.iload_n 1, 1) := by decide +kernel
theorem dX4_writeLine_13 : decode cX4_writeLine 13 = .ok (.istore_n 3, 1) := by decide +kernel
theorem dX4_writeLine_14 : decode cX4_writeLine 14 = .ok (.aload_n 0, 1) := by decide +kernel
theorem dX4_writeLine_15 : decode cX4_writeLine 15 = .ok (.getfield 7, 3) := by decide +kernel
theorem dX4_writeLine_18 : decode cX4_writeLine 18 = .ok (.iload_n 2, 1) := by decide +kernel
theorem dX4_writeLine_19 : decode cX4_writeLine 19 = .ok (.iconst 0, 1) := by decide +kernel
theorem dX4_writeLine_20 : decode cX4_writeLine 20 = .ok (.iastore, 1) := by decide +kernel
theorem dX4_writeLine_21 : decode cX4_writeLine 21 = .ok (.aload_n 0, 1) := by decide +kernel
theorem dX4_writeLine_22 : decode cX4_writeLine 22 = .ok (.getfield 7, 3) := by decide +kernel
theorem dX4_writeLine_25 : decode cX4_writeLine 25 = .ok (.iload_n 2, 1) := by decide +kernel
theorem dX4_writeLine_26 : decode cX4_writeLine 26 = .ok (.iconst 1, 1) := by decide +kernel
theorem dX4_writeLine_27 : decode cX4_writeLine 27 = .ok (.iadd, 1) := by decide +kernel
theorem dX4_writeLine_28 : decode cX4_writeLine 28 = .ok (.iconst 0, 1) := by decide +kernel
theorem dX4_writeLine_29 : decode cX4_writeLine 29 = .ok (.iastore, 1) := by decide +kernel
theorem dX4_writeLine_30 : decode cX4_writeLine 30 = .ok (.iload_n 3, 1) := by decide +kernel
theorem dX4_writeLine_31 : decode cX4_writeLine 31 = .ok (.aload_n 0, 1) := by decide +kernel
theorem dX4_writeLine_32 : decode cX4_writeLine 32 = .ok (.getfield 134, 3) := by decide +kernel
theorem dX4_writeLine_35 : decode cX4_writeLine 35 = .ok (.if_icmp .ge 64, 3) := by decide +kernel
theorem dX4_writeLine_38 : decode cX4_writeLine 38 = .ok (.aload_n 0, 1) := by decide +kernel
theorem dX4_writeLine_39 : decode cX4_writeLine 39 = .ok (.getfield 22, 3) := by decide +kernel
theorem dX4_writeLine_42 : decode cX4_writeLine 42 = .ok (.iload_n 3, 1) := by decide +kernel
theorem dX4_writeLine_43 : decode cX4_writeLine 43 = .ok (.iaload, 1) := by decide +kernel
theorem dX4_writeLine_44 : decode cX4_writeLine 44 = .ok (.bipush 59, 2) := by decide +kernel
theorem dX4_writeLine_46 : decode cX4_writeLine 46 = .ok (.if_icmp .eq 53, 3) := by decide +kernel
theorem dX4_writeLine_49 : decode cX4_writeLine 49 = .ok (.aload_n 0, 1) := by decide +kernel
theorem dX4_writeLine_50 : decode cX4_writeLine 50 = .ok (.getfield 7, 3) := by decide +kernel
theorem dX4_writeLine_53 : decode cX4_writeLine 53 = .ok (.iload_n 2, 1) := by decide +kernel
theorem dX4_writeLine_54 : decode cX4_writeLine 54 = .ok (.iconst 1, 1) := by decide +kernel
theorem dX4_writeLine_55 : decode cX4_writeLine 55 = .ok (.iadd, 1) := by decide +kernel
theorem dX4_writeLine_56 : decode cX4_writeLine 56 = .ok (.dup2, 1) := by decide +kernel
theorem dX4_writeLine_57 : decode cX4_writeLine 57 = .ok (.iaload, 1) := by decide +kernel
theorem dX4_writeLine_58 : decode cX4_writeLine 58 = .ok (.aload_n 0, 1) := by decide +kernel
theorem dX4_writeLine_59 : decode cX4_writeLine 59 = .ok (.getfield 22, 3) := by decide +kernel
theorem dX4_writeLine_62 : decode cX4_writeLine 62 = .ok (.iload_n 3, 1) := by decide +kernel
theorem dX4_writeLine_63 : decode cX4_writeLine 63 = .ok (.iaload, 1) := by decide +kernel
theorem dX4_writeLine_64 : decode cX4_writeLine 64 = .ok (.bipush 88, 2) := by decide +kernel
theorem dX4_writeLine_66 : decode cX4_writeLine 66 = .ok (.if_icmp .ne 14, 3) := by decide +kernel
theorem dX4_writeLine_69 : decode cX4_writeLine 69 = .ok (.iconst 1, 1) := by decide +kernel
theorem dX4_writeLine_70 : decode cX4_writeLine 70 = .ok (.aload_n 0, 1) := by decide +kernel
theorem dX4_writeLine_71 : decode cX4_writeLine 71 = .ok (.getfield 7, 3) := by decide +kernel
theorem dX4_writeLine_74 : decode cX4_writeLine 74 = .ok (.iload_n 2, 1) := by decide +kernel
theorem dX4_writeLine_75 : decode cX4_writeLine 75 = .ok (.iaload, 1) := by decide +kernel
theorem dX4_writeLine_76 : decode cX4_writeLine 76 = .ok (.ishl, 1) := by decide +kernel
theorem dX4_writeLine_77 : decode cX4_writeLine 77 = .ok (.goto 4, 3) := by decide +kernel
theorem dX4_writeLine_80 : decode cX4_writeLine 80 = .ok (.iconst 0, 1) := by decide +kernel
theorem dX4_writeLine_81 : decode cX4_writeLine 81 = .ok (.ior, 1) := by decide +kernel
theorem dX4_writeLine_82 : decode cX4_writeLine 82 = .ok (.iastore, 1) := by decide +kernel
theorem dX4_writeLine_83 : decode cX4_writeLine 83 = .ok (.aload_n 0, 1) := by decide +kernel
theorem dX4_writeLine_84 : decode cX4_writeLine 84 = .ok (.getfield 7, 3) := by decide +kernel
theorem dX4_writeLine_87 : decode cX4_writeLine 87 = .ok (.iload_n 2, 1) := by decide +kernel
theorem dX4_writeLine_88 : decode cX4_writeLine 88 = .ok (.dup2, 1) := by decide +kernel
theorem dX4_writeLine_89 : decode cX4_writeLine 89 = .ok (.iaload, 1) := by decide +kernel
theorem dX4_writeLine_90 : decode cX4_writeLine 90 = .ok (.iconst 1, 1) := by decide +kernel
theorem dX4_writeLine_91 : decode cX4_writeLine 91 = .ok (.iadd, 1) := by decide +kernel
theorem dX4_writeLine_92 : decode cX4_writeLine 92 = .ok (.iastore, 1) := by decide +kernel
theorem dX4_writeLine_93 : decode cX4_writeLine 93 = .ok (.iinc 3 1, 3) := by decide +kernel
theorem dX4_writeLine_96 : decode cX4_writeLine 96 = .ok (.goto (-66), 3) := by decide +kernel
theorem dX4_writeLine_99 : decode cX4_writeLine 99 = .ok (.aload_n 0, 1) := by decide +kernel
theorem dX4_writeLine_100 : decode cX4_writeLine 100 = .ok (.getfield 7, 3) := by decide +kernel
theorem dX4_writeLine_103 : decode cX4_writeLine 103 = .ok (.iconst 4, 1) := by decide +kernel
theorem dX4_writeLine_104 : decode cX4_writeLine 104 = .ok (.dup2, 1) := by decide +kernel
theorem dX4_writeLine_105 : decode cX4_writeLine 105 = .ok (.iaload, 1) := by decide +kernel
theorem dX4_writeLine_106 : decode cX4_writeLine 106 = .ok (.iconst 1, 1) := by decide +kernel
theorem dX4_writeLine_107 : decode cX4_writeLine 107 = .ok (.iadd, 1) := by decide +kernel
theorem dX4_writeLine_108 : decode cX4_writeLine 108 = .ok (.iastore, 1) := by decide +kernel
theorem dX4_writeLine_109 : decode cX4_writeLine 109 = .ok (.iload_n 3, 1) := by decide +kernel
theorem dX4_writeLine_110 : decode cX4_writeLine 110 = .ok (.ireturn, 1) := by decide +kernel
theorem dX4_writePhrase_0 : decode cX4_writePhrase 0 = .ok (.bipush 40, 2) := by decide +kernel
theorem dX4_writePhrase_2 : decode cX4_writePhrase 2 = .ok (.iconst 3, 1) := by decide +kernel
theorem dX4_writePhrase_3 : decode cX4_writePhrase 3 = .ok (.aload_n 0, 1) := by decide +kernel
theorem dX4_writePhrase_4 : decode cX4_writePhrase 4 = .ok (.getfield 7, 3) := by decide +kernel
theorem dX4_writePhrase_7 : decode cX4_writePhrase 7 = .ok (.iconst 5, 1) := by decide +kernel
theorem dX4_writePhrase_8 : decode cX4_writePhrase 8 = .ok (.iaload, 1) := by decide +kernel
theorem dX4_writePhrase_9 : decode cX4_writePhrase 9 = .ok (.imul, 1) := by decide +kernel
theorem dX4_writePhrase_10 : decode cX4_writePhrase 10 = .ok (.iadd, 1) := by decide +kernel
theorem dX4_writePhrase_11 : decode cX4_writePhrase 11 = .ok (.istore_n 2, 1) := by decide +kernel
theorem dX4_writePhrase_12 : decode cX4_writePhrase 12 = .ok (.iload_n 1, 1) := by decide +kernel
theorem dX4_writePhrase_13 : decode cX4_writePhrase 13 = .ok (.iconst 1, 1) := by decide +kernel
theorem dX4_writePhrase_14 : decode cX4_writePhrase 14 = .ok (.iadd, 1) := by decide +kernel
theorem dX4_writePhrase_15 : decode cX4_writePhrase 15 = .ok (.istore_n 3, 1) := by decide +kernel
theorem dX4_writePhrase_16 : decode cX4_writePhrase 16 = .ok (.aload_n 0, 1) := by decide +kernel
theorem dX4_writePhrase_17 : decode cX4_writePhrase 17 = .ok (.getfield 7, 3) := by decide +kernel
theorem dX4_writePhrase_20 : decode cX4_writePhrase 20 = .ok (.iload_n 2, 1) := by decide +kernel
theorem dX4_writePhrase_21 : decode cX4_writePhrase 21 = .ok (.iconst 0, 1) := by decide +kernel
theorem dX4_writePhrase_22 : decode cX4_writePhrase 22 = .ok (.iastore, 1) := by decide +kernel
theorem dX4_writePhrase_23 : decode cX4_writePhrase 23 = .ok (.aload_n 0, 1) := by decide +kernel
theorem dX4_writePhrase_24 : decode cX4_writePhrase 24 = .ok (.getfield 7, 3) := by decide +kernel
theorem dX4_writePhrase_27 : decode cX4_writePhrase 27 = .ok (.iload_n 2, 1) := by decide +kernel
theorem dX4_writePhrase_28 : decode cX4_writePhrase 28 = .ok (.iconst 1, 1) := by decide +kernel
theorem dX4_writePhrase_29 : decode cX4_writePhrase 29 = .ok (.iadd, 1) := by decide +kernel
theorem dX4_writePhrase_30 : decode cX4_writePhrase 30 = .ok (.iconst 0, 1) := by decide +kernel
theorem dX4_writePhrase_31 : decode cX4_writePhrase 31 = .ok (.iastore, 1) := by decide +kernel
theorem dX4_writePhrase_32 : decode cX4_writePhrase 32 = .ok (.aload_n 0, 1) := by decide +kernel
theorem dX4_writePhrase_33 : decode cX4_writePhrase 33 = .ok (.getfield 7, 3) := by decide +kernel
theorem dX4_writePhrase_36 : decode cX4_writePhrase 36 = .ok (.iload_n 2, 1) := by decide +kernel
theorem dX4_writePhrase_37 : decode cX4_writePhrase 37 = .ok (.iconst 2, 1) := by decide +kernel
theorem dX4_writePhrase_38 : decode cX4_writePhrase 38 = .ok (.iadd, 1) := by decide +kernel
theorem dX4_writePhrase_39 : decode cX4_writePhrase 39 = .ok (.iconst 0, 1) := by decide +kernel
theorem dX4_writePhrase_40 : decode cX4_writePhrase 40 = .ok (.iastore, 1) := by decide +kernel
theorem dX4_writePhrase_41 : decode cX4_writePhrase 41 = .ok (.iload_n 3, 1) := by decide +kernel
theorem dX4_writePhrase_42 : decode cX4_writePhrase 42 = .ok (.aload_n 0, 1) := by decide +kernel
theorem dX4_writePhrase_43 : decode cX4_writePhrase 43 = .ok (.getfield 134, 3) := by decide +kernel
theorem dX4_writePhrase_46 : decode cX4_writePhrase 46 = .ok (.if_icmp .ge 98, 3) := by decide +kernel
theorem dX4_writePhrase_49 : decode cX4_writePhrase 49 = .ok (.aload_n 0, 1) := by decide +kernel
theorem dX4_writePhrase_50 : decode cX4_writePhrase 50 = .ok (.getfield 22, 3) := by decide +kernel
theorem dX4_writePhrase_53 : decode cX4_writePhrase 53 = .ok (.iload_n 3, 1) := by decide +kernel
theorem dX4_writePhrase_54 : decode cX4_writePhrase 54 = .ok (.iaload, 1) := by decide +kernel
theorem dX4_writePhrase_55 : decode cX4_writePhrase 55 = .ok (.bipush 59, 2) := by decide +kernel
theorem dX4_writePhrase_57 : decode cX4_writePhrase 57 = .ok (.if_icmp .eq 87, 3) := by decide +kernel
theorem dX4_writePhrase_60 : decode cX4_writePhrase 60 = .ok (.aload_n 0, 1) := by decide +kernel
theorem dX4_writePhrase_61 : decode cX4_writePhrase 61 = .ok (.getfield 7, 3) := by decide +kernel
theorem dX4_writePhrase_64 : decode cX4_writePhrase 64 = .ok (.iload_n 2, 1) := by decide +kernel
theorem dX4_writePhrase_65 : decode cX4_writePhrase 65 = .ok (.iconst 1, 1) := by decide +kernel
theorem dX4_writePhrase_66 : decode cX4_writePhrase 66 = .ok (.iadd, 1) := by decide +kernel
theorem dX4_writePhrase_67 : decode cX4_writePhrase 67 = .ok (.dup2, 1) := by decide +kernel
theorem dX4_writePhrase_68 : decode cX4_writePhrase 68 = .ok (.iaload, 1) := by decide +kernel
theorem dX4_writePhrase_69 : decode cX4_writePhrase 69 = .ok (.aload_n 0, 1) := by decide +kernel
theorem dX4_writePhrase_70 : decode cX4_writePhrase 70 = .ok (.getfield 22, 3) := by decide +kernel
theorem dX4_writePhrase_73 : decode cX4_writePhrase 73 = .ok (.iload_n 3, 1) := by decide +kernel
theorem dX4_writePhrase_74 : decode cX4_writePhrase 74 = .ok (.iaload, 1) := by decide +kernel
theorem dX4_writePhrase_75 : decode cX4_writePhrase 75 = .ok (.bipush 115, 2) := by decide +kernel
theorem dX4_writePhrase_77 : decode cX4_writePhrase 77 = .ok (.if_icmp .ne 14, 3) := by decide +kernel
theorem dX4_writePhrase_80 : decode cX4_writePhrase 80 = .ok (.iconst 1, 1) := by decide +kernel
theorem dX4_writePhrase_81 : decode cX4_writePhrase 81 = .ok (.aload_n 0, 1) := by decide +kernel
theorem dX4_writePhrase_82 : decode cX4_writePhrase 82 = .ok (.getfield 7, 3) := by decide +kernel
theorem dX4_writePhrase_85 : decode cX4_writePhrase 85 = .ok (.iload_n 2, 1) := by decide +kernel
theorem dX4_writePhrase_86 : decode cX4_writePhrase 86 = .ok (.iaload, 1) := by decide +kernel
theorem dX4_writePhrase_87 : decode cX4_writePhrase 87 = .ok (.ishl, 1) := by decide +kernel
theorem dX4_writePhrase_88 : decode cX4_writePhrase 88 = .ok (.goto 4, 3) := by decide +kernel
theorem dX4_writePhrase_91 : decode cX4_writePhrase 91 = .ok (.iconst 0, 1) := by decide +kernel
theorem dX4_writePhrase_92 : decode cX4_writePhrase 92 = .ok (.ior, 1) := by decide +kernel
theorem dX4_writePhrase_93 : decode cX4_writePhrase 93 = .ok (.iastore, 1) := by decide +kernel
theorem dX4_writePhrase_94 : decode cX4_writePhrase 94 = .ok (.aload_n 0, 1) := by decide +kernel
theorem dX4_writePhrase_95 : decode cX4_writePhrase 95 = .ok (.getfield 7, 3) := by decide +kernel
theorem dX4_writePhrase_98 : decode cX4_writePhrase 98 = .ok (.iload_n 2, 1) := by decide +kernel
theorem dX4_writePhrase_99 : decode cX4_writePhrase 99 = .ok (.iconst 2, 1) := by decide +kernel
theorem dX4_writePhrase_100 : decode cX4_writePhrase 100 = .ok (.iadd, 1) := by decide +kernel
theorem dX4_writePhrase_101 : decode cX4_writePhrase 101 = .ok (.dup2, 1) := by decide +kernel
theorem dX4_writePhrase_102 : decode cX4_writePhrase 102 = .ok (.iaload, 1) := by decide +kernel
theorem dX4_writePhrase_103 : decode cX4_writePhrase 103 = .ok (.aload_n 0, 1) := by decide +kernel
theorem dX4_writePhrase_104 : decode cX4_writePhrase 104 = .ok (.getfield 22, 3) := by decide +kernel
theorem dX4_writePhrase_107 : decode cX4_writePhrase 107 = .ok (.iload_n 3, 1) := by decide +kernel
theorem dX4_writePhrase_108 : decode cX4_writePhrase 108 = .ok (.iaload, 1) := by decide +kernel
theorem dX4_writePhrase_109 : decode cX4_writePhrase 109 = .ok (.bipush 119, 2) := by decide +kernel
theorem dX4_writePhrase_111 : decode cX4_writePhrase 111 = .ok (.if_icmp .ne 14, 3) := by decide +kernel
theorem dX4_writePhrase_114 : decode cX4_writePhrase 114 = .ok (.iconst 1, 1) := by decide +kernel
theorem dX4_writePhrase_115 : decode cX4_writePhrase 115 = .ok (.aload_n 0, 1) := by decide +kernel
theorem dX4_writePhrase_116 : decode cX4_writePhrase 116 = .ok (.getfield 7, 3) := by decide +kernel
theorem dX4_writePhrase_119 : decode cX4_writePhrase 119 = .ok (.iload_n 2, 1) := by decide +kernel
theorem dX4_writePhrase_120 : decode cX4_writePhrase 120 = .ok (.iaload, 1) := by decide +kernel
theorem dX4_writePhrase_121 : decode cX4_writePhrase 121 = .ok (.ishl, 1) := by decide +kernel
theorem dX4_writePhrase_122 : decode cX4_writePhrase 122 = .ok (.goto 4, 3) := by decide +kernel
theorem dX4_writePhrase_125 : decode cX4_writePhrase 125 = .ok (.iconst 0, 1) := by decide +kernel
theorem dX4_writePhrase_126 : decode cX4_writePhrase 126 = .ok (.ior, 1) := by decide +kernel
theorem dX4_writePhrase_127 : decode cX4_writePhrase 127 = .ok (.iastore, 1) := by decide +kernel
theorem dX4_writePhrase_128 : decode cX4_writePhrase 128 = .ok (.aload_n 0, 1) := by decide +kernel
theorem dX4_writePhrase_129 : decode cX4_writePhrase 129 = .ok (.getfield 7, 3) := by decide +kernel
theorem dX4_writePhrase_132 : decode cX4_writePhrase 132 = .ok (.iload_n 2, 1) := by decide +kernel
theorem dX4_writePhrase_133 : decode cX4_writePhrase 133 = .ok (.dup2, 1) := by decide +kernel
theorem dX4_writePhrase_134 : decode cX4_writePhrase 134 = .ok (.iaload, 1) := by decide +kernel
theorem dX4_writePhrase_135 : decode cX4_writePhrase 135 = .ok (.iconst 1, 1) := by decide +kernel
theorem dX4_writePhrase_136 : decode cX4_writePhrase 136 = .ok (.iadd, 1) := by decide +kernel
theorem dX4_writePhrase_137 : decode cX4_writePhrase 137 = .ok (.iastore, 1) := by decide +kernel
theorem dX4_writePhrase_138 : decode cX4_writePhrase 138 = .ok (.iinc 3 1, 3) := by decide +kernel
theorem dX4_writePhrase_141 : decode cX4_writePhrase 141 = .ok (.goto (-100), 3) := by decide +kernel
theorem dX4_writePhrase_144 : decode cX4_writePhrase 144 = .ok (.aload_n 0, 1) := by decide +kernel
theorem dX4_writePhrase_145 : decode cX4_writePhrase 145 = .ok (.getfield 7, 3) := by decide +kernel
theorem dX4_writePhrase_148 : decode cX4_writePhrase 148 = .ok (.iconst 5, 1) := by decide +kernel
theorem dX4_writePhrase_149 : decode cX4_writePhrase 149 = .ok (.dup2, 1) := by decide +kernel
theorem dX4_writePhrase_150 : decode cX4_writePhrase 150 = .ok (.iaload, 1) := by decide +kernel
theorem dX4_writePhrase_151 : decode cX4_writePhrase 151 = .ok (.iconst 1, 1) := by decide +kernel
theorem dX4_writePhrase_152 : decode cX4_writePhrase 152 = .ok (.iadd, 1) := by decide +kernel
theorem dX4_writePhrase_153 : decode cX4_writePhrase 153 = .ok (.iastore, 1) := by decide +kernel
theorem dX4_writePhrase_154 : decode cX4_writePhrase 154 = .ok (.iload_n 3, 1) := by decide +kernel
theorem dX4_writePhrase_155 : decode cX4_writePhrase 155 = .ok (.ireturn, 1) := by decide +kernel
theorem dX4_write_0 : decode cX4_write 0 = .ok (.aload_n 0, 1) := by decide +kernel
theorem dX4_write_1 : decode cX4_write 1 = .ok (.invokevirtual 137, 3) := by decide +kernel
theorem dX4_write_4 : decode cX4_write 4 = .ok (.bipush (-6), 2) := by decide +kernel
theorem dX4_write_6 : decode cX4_write 6 = .ok (.if_icmp .eq 6, 3) := by decide +kernel
theorem dX4_write_9 : decode cX4_write 9 = .ok (.bipush (-3), 2) := by decide +kernel
theorem dX4_write_11 : decode cX4_write 11 = .ok (.ireturn, 1) := by decide +kernel
theorem dX4_write_12 : decode cX4_write 12 = .ok (.aload_n 0, 1) := by decide +kernel
theorem dX4_write_13 : decode cX4_write 13 = .ok (.getfield 7, 3) := by decide +kernel
theorem dX4_write_16 : decode cX4_write 16 = .ok (.iconst 4, 1) := by decide +kernel
theorem dX4_write_17 : decode cX4_write 17 = .ok (.iaload, 1) := by decide +kernel
theorem dX4_write_18 : decode cX4_write 18 = .ok (.aload_n 0, 1) := by decide +kernel
theorem dX4_write_19 : decode cX4_write 19 = .ok (.iconst 0, 1) := by decide +kernel
theorem dX4_write_20 : decode cX4_write 20 = .ok (.invokevirtual 140, 3) := by decide +kernel
theorem dX4_write_23 : decode cX4_write 23 = .ok (.iadd, 1) := by decide +kernel
theorem dX4_write_24 : decode cX4_write 24 = .ok (.bipush 16, 2) := by decide +kernel
theorem dX4_write_26 : decode cX4_write 26 = .ok (.if_icmp .gt 20, 3) := by decide +kernel
theorem dX4_write_29 : decode cX4_write 29 = .ok (.aload_n 0, 1) := by decide +kernel
theorem dX4_write_30 : decode cX4_write 30 = .ok (.getfield 7, 3) := by decide +kernel
theorem dX4_write_33 : decode cX4_write 33 = .ok (.iconst 5, 1) := by decide +kernel
theorem dX4_write_34 : decode cX4_write 34 = .ok (.iaload, 1) := by decide +kernel
theorem dX4_write_35 : decode cX4_write 35 = .ok (.aload_n 0, 1) := by decide +kernel
theorem dX4_write_36 : decode cX4_write 36 = .ok (.iconst 1, 1) := by decide +kernel
theorem dX4_write_37 : decode cX4_write 37 = .ok (.invokevirtual 140, 3) := by decide +kernel
theorem dX4_write_40 : decode cX4_write 40 = .ok (.iadd, 1) := by decide +kernel
theorem dX4_write_41 : decode cX4_write 41 = .ok (.bipush 8, 2) := by decide +kernel
theorem dX4_write_43 : decode cX4_write 43 = .ok (.if_icmp .le 6, 3) := by decide +kernel
theorem dX4_write_46 : decode cX4_write 46 = .ok (.bipush (-4), 2) := by decide +kernel
theorem dX4_write_48 : decode cX4_write 48 = .ok (.ireturn, 1) := by decide +kernel
theorem dX4_write_49 : decode cX4_write 49 = .ok (.aload_n 0, 1) := by decide +kernel
theorem dX4_write_50 : decode cX4_write 50 = .ok (.invokevirtual 131, 3) := by decide +kernel
theorem dX4_write_53 : decode cX4_write 53 = .ok (.iconst 0, 1) := by decide +kernel
theorem dX4_write_54 : decode cX4_write 54 = .ok (.istore_n 1, 1) := by decide +kernel
theorem dX4_write_55 : decode cX4_write 55 = .ok (.iload_n 1, 1) := by decide +kernel
theorem dX4_write_56 : decode cX4_write 56 = .ok (.aload_n 0, 1) := by decide +kernel
theorem dX4_write_57 : decode cX4_write 57 = .ok (.getfield 134, 3) := by decide +kernel
theorem dX4_write_60 : decode cX4_write 60 = .ok (.if_icmp .ge 34, 3) := by decide +kernel
theorem dX4_write_63 : decode cX4_write 63 = .ok (.aload_n 0, 1) := by decide +kernel
theorem dX4_write_64 : decode cX4_write 64 = .ok (.getfield 22, 3) := by decide +kernel
theorem dX4_write_67 : decode cX4_write 67 = .ok (.iload_n 1, 1) := by decide +kernel
theorem dX4_write_68 : decode cX4_write 68 = .ok (.iaload, 1) := by decide +kernel
theorem dX4_write_69 : decode cX4_write 69 = .ok (.bipush 124, 2) := by decide +kernel
theorem dX4_write_71 : decode cX4_write 71 = .ok (.if_icmp .ne 11, 3) := by decide +kernel
theorem dX4_write_74 : decode cX4_write 74 = .ok (.aload_n 0, 1) := by decide +kernel
theorem dX4_write_75 : decode cX4_write 75 = .ok (.iload_n 1, 1) := by decide +kernel
theorem dX4_write_76 : decode cX4_write 76 = .ok (.invokevirtual 144, 3) := by decide +kernel
theorem dX4_write_79 : decode cX4_write 79 = .ok (.goto 8, 3) := by decide +kernel
theorem dX4_write_82 : decode cX4_write 82 = .ok (.aload_n 0, 1) := by decide +kernel
theorem dX4_write_83 : decode cX4_write 83 = .ok (.iload_n 1, 1) := by decide +kernel
theorem dX4_write_84 : decode cX4_write 84 = .ok (.invokevirtual 147, 3) := by decide +kernel
theorem dX4_write_87 : decode cX4_write 87 = .ok (.istore_n 1, 1) := by decide +kernel
theorem dX4_write_88 : decode cX4_write 88 = .ok (.iinc 1 1, 3) := by decide +kernel
theorem dX4_write_91 : decode cX4_write 91 = .ok (.goto (-36), 3) := by decide +kernel
theorem dX4_write_94 : decode cX4_write 94 = .ok (.aload_n 0, 1) := by decide +kernel
theorem dX4_write_95 : decode cX4_write 95 = .ok (.iconst 0, 1) := by decide +kernel
theorem dX4_write_96 : decode cX4_write 96 = .ok (.putfield 134, 3) := by decide +kernel
theorem dX4_write_99 : decode cX4_write 99 = .ok (.aload_n 0, 1) := by decide +kernel
theorem dX4_write_100 : decode cX4_write 100 = .ok (.getfield 7, 3) := by decide +kernel
theorem dX4_write_103 : decode cX4_write 103 = .ok (.iconst 4, 1) := by decide +kernel
theorem dX4_write_104 : decode cX4_write 104 = .ok (.iaload, 1) := by decide +kernel
theorem dX4_write_105 : decode cX4_write 105 = .ok (.ireturn, 1) := by decide +kernel
theorem dX4_goes_0 : decode cX4_goes 0 = .ok (.iconst 0, 1) := by decide +kernel
theorem dX4_goes_1 : decode cX4_goes 1 = .ok (.istore 4, 2) := by decide +kernel
theorem dX4_goes_3 : decode cX4_goes 3 = .ok (.iconst 0, 1) := by decide +kernel
theorem dX4_goes_4 : decode cX4_goes 4 = .ok (.istore 5, 2) := by decide +kernel
theorem dX4_goes_6 : decode cX4_goes 6 = .ok (.iload 5, 2) := by decide +kernel
theorem dX4_goes_8 : decode cX4_goes 8 = .ok (.iload_n 3, 1) := by decide +kernel
theorem dX4_goes_9 : decode cX4_goes 9 = .ok (.if_icmp .ge 53, 3) := by decide +kernel
theorem dX4_goes_12 : decode cX4_goes 12 = .ok (.aload_n 0, 1) := by decide +kernel
theorem dX4_goes_13 : decode cX4_goes 13 = .ok (.getfield 7, 3) := by decide +kernel
theorem dX4_goes_16 : decode cX4_goes 16 = .ok (.iload_n 2, 1) := by decide +kernel
theorem dX4_goes_17 : decode cX4_goes 17 = .ok (.iload 5, 2) := by decide +kernel
theorem dX4_goes_19 : decode cX4_goes 19 = .ok (.iadd, 1) := by decide +kernel
theorem dX4_goes_20 : decode cX4_goes 20 = .ok (.iaload, 1) := by decide +kernel
theorem dX4_goes_21 : decode cX4_goes 21 = .ok (.istore 6, 2) := by decide +kernel
theorem dX4_goes_23 : decode cX4_goes 23 = .ok (.iload 6, 2) := by decide +kernel
theorem dX4_goes_25 : decode cX4_goes 25 = .ok (.iload_n 1, 1) := by decide +kernel
theorem dX4_goes_26 : decode cX4_goes 26 = .ok (.if_icmp .eq 30, 3) := by decide +kernel
theorem dX4_goes_29 : decode cX4_goes 29 = .ok (.aload_n 0, 1) := by decide +kernel
theorem dX4_goes_30 : decode cX4_goes 30 = .ok (.getfield 7, 3) := by decide +kernel
theorem dX4_goes_33 : decode cX4_goes 33 = .ok (.iload_n 2, 1) := by decide +kernel
theorem dX4_goes_34 : decode cX4_goes 34 = .ok (.iload 4, 2) := by decide +kernel
theorem dX4_goes_36 : decode cX4_goes 36 = .ok (.iadd, 1) := by decide +kernel
theorem dX4_goes_37 : decode cX4_goes 37 = .ok (.iload 6, 2) := by decide +kernel
theorem dX4_goes_39 : decode cX4_goes 39 = .ok (.iload_n 1, 1) := by decide +kernel
theorem dX4_goes_40 : decode cX4_goes 40 = .ok (.if_icmp .le 10, 3) := by decide +kernel
theorem dX4_goes_43 : decode cX4_goes 43 = .ok (.iload 6, 2) := by decide +kernel
theorem dX4_goes_45 : decode cX4_goes 45 = .ok (.iconst 1, 1) := by decide +kernel
theorem dX4_goes_46 : decode cX4_goes 46 = .ok (.isub, 1) := by decide +kernel
theorem dX4_goes_47 : decode cX4_goes 47 = .ok (.goto 5, 3) := by decide +kernel
theorem dX4_goes_50 : decode cX4_goes 50 = .ok (.iload 6, 2) := by decide +kernel
theorem dX4_goes_52 : decode cX4_goes 52 = .ok (.iastore, 1) := by decide +kernel
theorem dX4_goes_53 : decode cX4_goes 53 = .ok (.iinc 4 1, 3) := by decide +kernel
theorem dX4_goes_56 : decode cX4_goes 56 = .ok (.iinc 5 1, 3) := by decide +kernel
theorem dX4_goes_59 : decode cX4_goes 59 = .ok (.goto (-53), 3) := by decide +kernel
theorem dX4_goes_62 : decode cX4_goes 62 = .ok (.iload 4, 2) := by decide +kernel
theorem dX4_goes_64 : decode cX4_goes 64 = .ok (.ireturn, 1) := by decide +kernel
theorem dX4_dropLine_0 : decode cX4_dropLine 0 = .ok (.aload_n 0, 1) := by decide +kernel
theorem dX4_dropLine_1 : decode cX4_dropLine 1 = .ok (.iload_n 1, 1) := by decide +kernel
theorem dX4_dropLine_2 : decode cX4_dropLine 2 = .ok (.invokevirtual 52, 3) := by decide +kernel
theorem dX4_dropLine_5 : decode cX4_dropLine 5 = .ok (.ifCond .ne 5, 3) := by decide +kernel
theorem dX4_dropLine_8 : decode cX4_dropLine 8 = .ok (.iconst (-1), 1) := by decide +kernel
theorem dX4_dropLine_9 : decode cX4_dropLine 9 = .ok (.ireturn, 1) := by decide +kernel
theorem dX4_dropLine_10 : decode cX4_dropLine 10 = .ok (.aload_n 0, 1) := by decide +kernel
theorem dX4_dropLine_11 : decode cX4_dropLine 11 = .ok (.invokevirtual 131, 3) := by decide +kernel
theorem dX4_dropLine_14 : decode cX4_dropLine 14 = .ok (.aload_n 0, 1) := by decide +kernel
theorem dX4_dropLine_15 : decode cX4_dropLine 15 = .ok (.getfield 7, 3) := by decide +kernel
theorem dX4_dropLine_18 : decode cX4_dropLine 18 = .ok (.iconst 4, 1) := by decide +kernel
theorem dX4_dropLine_19 : decode cX4_dropLine 19 = .ok (.dup2, 1) := by decide +kernel
theorem dX4_dropLine_20 : decode cX4_dropLine 20 = .ok (.iaload, 1) := by decide +kernel
theorem dX4_dropLine_21 : decode cX4_dropLine 21 = .ok (.iconst 1, 1) := by decide +kernel
theorem dX4_dropLine_22 : decode cX4_dropLine 22 = .ok (.isub, 1) := by decide +kernel
theorem dX4_dropLine_23 : decode cX4_dropLine 23 = .ok (.iastore, 1) := by decide +kernel
theorem dX4_dropLine_24 : decode cX4_dropLine 24 = .ok (.bipush 8, 2) := by decide +kernel
theorem dX4_dropLine_26 : decode cX4_dropLine 26 = .ok (.iconst 2, 1) := by decide +kernel
theorem dX4_dropLine_27 : decode cX4_dropLine 27 = .ok (.iload_n 1, 1) := by decide +kernel
theorem dX4_dropLine_28 : decode cX4_dropLine 28 = .ok (.imul, 1) := by decide +kernel
theorem dX4_dropLine_29 : decode cX4_dropLine 29 = .ok (.iadd, 1) := by decide +kernel
theorem dX4_dropLine_30 : decode cX4_dropLine 30 = .ok (.istore_n 2, 1) := by decide +kernel
theorem dX4_dropLine_31 : decode cX4_dropLine 31 = .ok (.iload_n 2, 1) := by decide +kernel
theorem dX4_dropLine_32 : decode cX4_dropLine 32 = .ok (.bipush 8, 2) := by decide +kernel
theorem dX4_dropLine_34 : decode cX4_dropLine 34 = .ok (.iconst 2, 1) := by decide +kernel
theorem dX4_dropLine_35 : decode cX4_dropLine 35 = .ok (.aload_n 0, 1) := by decide +kernel
theorem dX4_dropLine_36 : decode cX4_dropLine 36 = .ok (.getfield 7, 3) := by decide +kernel
theorem dX4_dropLine_39 : decode cX4_dropLine 39 = .ok (.iconst 4, 1) := by decide +kernel
theorem dX4_dropLine_40 : decode cX4_dropLine 40 = .ok (.iaload, 1) := by decide +kernel
theorem dX4_dropLine_41 : decode cX4_dropLine 41 = .ok (.imul, 1) := by decide +kernel
theorem dX4_dropLine_42 : decode cX4_dropLine 42 = .ok (.iadd, 1) := by decide +kernel
theorem dX4_dropLine_43 : decode cX4_dropLine 43 = .ok (.if_icmp .ge 23, 3) := by decide +kernel
theorem dX4_dropLine_46 : decode cX4_dropLine 46 = .ok (.aload_n 0, 1) := by decide +kernel
theorem dX4_dropLine_47 : decode cX4_dropLine 47 = .ok (.getfield 7, 3) := by decide +kernel
theorem dX4_dropLine_50 : decode cX4_dropLine 50 = .ok (.iload_n 2, 1) := by decide +kernel
theorem dX4_dropLine_51 : decode cX4_dropLine 51 = .ok (.aload_n 0, 1) := by decide +kernel
theorem dX4_dropLine_52 : decode cX4_dropLine 52 = .ok (.getfield 7, 3) := by decide +kernel
theorem dX4_dropLine_55 : decode cX4_dropLine 55 = .ok (.iload_n 2, 1) := by decide +kernel
theorem dX4_dropLine_56 : decode cX4_dropLine 56 = .ok (.iconst 2, 1) := by decide +kernel
theorem dX4_dropLine_57 : decode cX4_dropLine 57 = .ok (.iadd, 1) := by decide +kernel
theorem dX4_dropLine_58 : decode cX4_dropLine 58 = .ok (.iaload, 1) := by decide +kernel
theorem dX4_dropLine_59 : decode cX4_dropLine 59 = .ok (.iastore, 1) := by decide +kernel
theorem dX4_dropLine_60 : decode cX4_dropLine 60 = .ok (.iinc 2 1, 3) := by decide +kernel
theorem dX4_dropLine_63 : decode cX4_dropLine 63 = .ok (.goto (-32), 3) := by decide +kernel
theorem dX4_dropLine_66 : decode cX4_dropLine 66 = .ok (.aload_n 0, 1) := by decide +kernel
theorem dX4_dropLine_67 : decode cX4_dropLine 67 = .ok (.getfield 7, 3) := by decide +kernel
theorem dX4_dropLine_70 : decode cX4_dropLine 70 = .ok (.bipush 6, 2) := by decide +kernel
theorem dX4_dropLine_72 : decode cX4_dropLine 72 = .ok (.aload_n 0, 1) := by decide +kernel
theorem dX4_dropLine_73 : decode cX4_dropLine 73 = .ok (.iload_n 1, 1) := by decide +kernel
theorem dX4_dropLine_74 : decode cX4_dropLine 74 = .ok (.bipush 64, 2) := by decide +kernel
theorem dX4_dropLine_76 : decode cX4_dropLine 76 = .ok (.aload_n 0, 1) := by decide +kernel
theorem dX4_dropLine_77 : decode cX4_dropLine 77 = .ok (.getfield 7, 3) := by decide +kernel
theorem dX4_dropLine_80 : decode cX4_dropLine 80 = .ok (.bipush 6, 2) := by decide +kernel
theorem dX4_dropLine_82 : decode cX4_dropLine 82 = .ok (.iaload, 1) := by decide +kernel
theorem dX4_dropLine_83 : decode cX4_dropLine 83 = .ok (.invokevirtual 150, 3) := by decide +kernel
theorem dX4_dropLine_86 : decode cX4_dropLine 86 = .ok (.iastore, 1) := by decide +kernel
theorem dX4_dropLine_87 : decode cX4_dropLine 87 = .ok (.aload_n 0, 1) := by decide +kernel
theorem dX4_dropLine_88 : decode cX4_dropLine 88 = .ok (.getfield 7, 3) := by decide +kernel
theorem dX4_dropLine_91 : decode cX4_dropLine 91 = .ok (.bipush 6, 2) := by decide +kernel
theorem dX4_dropLine_93 : decode cX4_dropLine 93 = .ok (.iaload, 1) := by decide +kernel
theorem dX4_dropLine_94 : decode cX4_dropLine 94 = .ok (.ireturn, 1) := by decide +kernel
theorem dX4_dropPhrase_0 : decode cX4_dropPhrase 0 = .ok (.aload_n 0, 1) := by decide +kernel
theorem dX4_dropPhrase_1 : decode cX4_dropPhrase 1 = .ok (.iload_n 1, 1) := by decide +kernel
theorem dX4_dropPhrase_2 : decode cX4_dropPhrase 2 = .ok (.invokevirtual 60, 3) := by decide +kernel
theorem dX4_dropPhrase_5 : decode cX4_dropPhrase 5 = .ok (.ifCond .ne 5, 3) := by decide +kernel
theorem dX4_dropPhrase_8 : decode cX4_dropPhrase 8 = .ok (.iconst (-1), 1) := by decide +kernel
theorem dX4_dropPhrase_9 : decode cX4_dropPhrase 9 = .ok (.ireturn, 1) := by decide +kernel
theorem dX4_dropPhrase_10 : decode cX4_dropPhrase 10 = .ok (.aload_n 0, 1) := by decide +kernel
theorem dX4_dropPhrase_11 : decode cX4_dropPhrase 11 = .ok (.invokevirtual 131, 3) := by decide +kernel
theorem dX4_dropPhrase_14 : decode cX4_dropPhrase 14 = .ok (.aload_n 0, 1) := by decide +kernel
theorem dX4_dropPhrase_15 : decode cX4_dropPhrase 15 = .ok (.getfield 7, 3) := by decide +kernel
theorem dX4_dropPhrase_18 : decode cX4_dropPhrase 18 = .ok (.iconst 5, 1) := by decide +kernel
theorem dX4_dropPhrase_19 : decode cX4_dropPhrase 19 = .ok (.dup2, 1) := by decide +kernel
theorem dX4_dropPhrase_20 : decode cX4_dropPhrase 20 = .ok (.iaload, 1) := by decide +kernel
theorem dX4_dropPhrase_21 : decode cX4_dropPhrase 21 = .ok (.iconst 1, 1) := by decide +kernel
theorem dX4_dropPhrase_22 : decode cX4_dropPhrase 22 = .ok (.isub, 1) := by decide +kernel
theorem dX4_dropPhrase_23 : decode cX4_dropPhrase 23 = .ok (.iastore, 1) := by decide +kernel
theorem dX4_dropPhrase_24 : decode cX4_dropPhrase 24 = .ok (.bipush 40, 2) := by decide +kernel
theorem dX4_dropPhrase_26 : decode cX4_dropPhrase 26 = .ok (.iconst 3, 1) := by decide +kernel
theorem dX4_dropPhrase_27 : decode cX4_dropPhrase 27 = .ok (.iload_n 1, 1) := by decide +kernel
theorem dX4_dropPhrase_28 : decode cX4_dropPhrase 28 = .ok (.imul, 1) := by decide +kernel
theorem dX4_dropPhrase_29 : decode cX4_dropPhrase 29 = .ok (.iadd, 1) := by decide +kernel
theorem dX4_dropPhrase_30 : decode cX4_dropPhrase 30 = .ok (.istore_n 2, 1) := by decide +kernel
theorem dX4_dropPhrase_31 : decode cX4_dropPhrase 31 = .ok (.iload_n 2, 1) := by decide +kernel
theorem dX4_dropPhrase_32 : decode cX4_dropPhrase 32 = .ok (.bipush 40, 2) := by decide +kernel
theorem dX4_dropPhrase_34 : decode cX4_dropPhrase 34 = .ok (.iconst 3, 1) := by decide +kernel
theorem dX4_dropPhrase_35 : decode cX4_dropPhrase 35 = .ok (.aload_n 0, 1) := by decide +kernel
theorem dX4_dropPhrase_36 : decode cX4_dropPhrase 36 = .ok (.getfield 7, 3) := by decide +kernel
theorem dX4_dropPhrase_39 : decode cX4_dropPhrase 39 = .ok (.iconst 5, 1) := by decide +kernel
theorem dX4_dropPhrase_40 : decode cX4_dropPhrase 40 = .ok (.iaload, 1) := by decide +kernel
theorem dX4_dropPhrase_41 : decode cX4_dropPhrase 41 = .ok (.imul, 1) := by decide +kernel
theorem dX4_dropPhrase_42 : decode cX4_dropPhrase 42 = .ok (.iadd, 1) := by decide +kernel
theorem dX4_dropPhrase_43 : decode cX4_dropPhrase 43 = .ok (.if_icmp .ge 23, 3) := by decide +kernel
theorem dX4_dropPhrase_46 : decode cX4_dropPhrase 46 = .ok (.aload_n 0, 1) := by decide +kernel
theorem dX4_dropPhrase_47 : decode cX4_dropPhrase 47 = .ok (.getfield 7, 3) := by decide +kernel
theorem dX4_dropPhrase_50 : decode cX4_dropPhrase 50 = .ok (.iload_n 2, 1) := by decide +kernel
theorem dX4_dropPhrase_51 : decode cX4_dropPhrase 51 = .ok (.aload_n 0, 1) := by decide +kernel
theorem dX4_dropPhrase_52 : decode cX4_dropPhrase 52 = .ok (.getfield 7, 3) := by decide +kernel
theorem dX4_dropPhrase_55 : decode cX4_dropPhrase 55 = .ok (.iload_n 2, 1) := by decide +kernel
theorem dX4_dropPhrase_56 : decode cX4_dropPhrase 56 = .ok (.iconst 3, 1) := by decide +kernel
theorem dX4_dropPhrase_57 : decode cX4_dropPhrase 57 = .ok (.iadd, 1) := by decide +kernel
theorem dX4_dropPhrase_58 : decode cX4_dropPhrase 58 = .ok (.iaload, 1) := by decide +kernel
theorem dX4_dropPhrase_59 : decode cX4_dropPhrase 59 = .ok (.iastore, 1) := by decide +kernel
theorem dX4_dropPhrase_60 : decode cX4_dropPhrase 60 = .ok (.iinc 2 1, 3) := by decide +kernel
theorem dX4_dropPhrase_63 : decode cX4_dropPhrase 63 = .ok (.goto (-32), 3) := by decide +kernel
theorem dX4_dropPhrase_66 : decode cX4_dropPhrase 66 = .ok (.aload_n 0, 1) := by decide +kernel
theorem dX4_dropPhrase_67 : decode cX4_dropPhrase 67 = .ok (.getfield 7, 3) := by decide +kernel
theorem dX4_dropPhrase_70 : decode cX4_dropPhrase 70 = .ok (.bipush 7, 2) := by decide +kernel
theorem dX4_dropPhrase_72 : decode cX4_dropPhrase 72 = .ok (.aload_n 0, 1) := by decide +kernel
theorem dX4_dropPhrase_73 : decode cX4_dropPhrase 73 = .ok (.iload_n 1, 1) := by decide +kernel
theorem dX4_dropPhrase_74 : decode cX4_dropPhrase 74 = .ok (.bipush 104, 2) := by decide +kernel
theorem dX4_dropPhrase_76 : decode cX4_dropPhrase 76 = .ok (.aload_n 0, 1) := by decide +kernel
theorem dX4_dropPhrase_77 : decode cX4_dropPhrase 77 = .ok (.getfield 7, 3) := by decide +kernel
theorem dX4_dropPhrase_80 : decode cX4_dropPhrase 80 = .ok (.bipush 7, 2) := by decide +kernel
theorem dX4_dropPhrase_82 : decode cX4_dropPhrase 82 = .ok (.iaload, 1) := by decide +kernel
theorem dX4_dropPhrase_83 : decode cX4_dropPhrase 83 = .ok (.invokevirtual 150, 3) := by decide +kernel
theorem dX4_dropPhrase_86 : decode cX4_dropPhrase 86 = .ok (.iastore, 1) := by decide +kernel
theorem dX4_dropPhrase_87 : decode cX4_dropPhrase 87 = .ok (.aload_n 0, 1) := by decide +kernel
theorem dX4_dropPhrase_88 : decode cX4_dropPhrase 88 = .ok (.getfield 7, 3) := by decide +kernel
theorem dX4_dropPhrase_91 : decode cX4_dropPhrase 91 = .ok (.bipush 7, 2) := by decide +kernel
theorem dX4_dropPhrase_93 : decode cX4_dropPhrase 93 = .ok (.iaload, 1) := by decide +kernel
theorem dX4_dropPhrase_94 : decode cX4_dropPhrase 94 = .ok (.ireturn, 1) := by decide +kernel
theorem dX4_stress_0 : decode cX4_stress 0 = .ok (.aload_n 0, 1) := by decide +kernel
theorem dX4_stress_1 : decode cX4_stress 1 = .ok (.iload_n 1, 1) := by decide +kernel
theorem dX4_stress_2 : decode cX4_stress 2 = .ok (.iload_n 2, 1) := by decide +kernel
theorem dX4_stress_3 : decode cX4_stress 3 = .ok (.invokevirtual 153, 3) := by decide +kernel
theorem dX4_stress_6 : decode cX4_stress 6 = .ok (.ifCond .ne 5, 3) := by decide +kernel
theorem dX4_stress_9 : decode cX4_stress 9 = .ok (.iconst (-1), 1) := by decide +kernel
theorem dX4_stress_10 : decode cX4_stress 10 = .ok (.ireturn, 1) := by decide +kernel
theorem dX4_stress_11 : decode cX4_stress 11 = .ok (.aload_n 0, 1) := by decide +kernel
theorem dX4_stress_12 : decode cX4_stress 12 = .ok (.invokevirtual 131, 3) := by decide +kernel
theorem dX4_stress_15 : decode cX4_stress 15 = .ok (.bipush 8, 2) := by decide +kernel
theorem dX4_stress_17 : decode cX4_stress 17 = .ok (.iconst 2, 1) := by decide +kernel
theorem dX4_stress_18 : decode cX4_stress 18 = .ok (.iload_n 1, 1) := by decide +kernel
theorem dX4_stress_19 : decode cX4_stress 19 = .ok (.imul, 1) := by decide +kernel
theorem dX4_stress_20 : decode cX4_stress 20 = .ok (.iadd, 1) := by decide +kernel
theorem dX4_stress_21 : decode cX4_stress 21 = .ok (.iconst 1, 1) := by decide +kernel
theorem dX4_stress_22 : decode cX4_stress 22 = .ok (.iadd, 1) := by decide +kernel
theorem dX4_stress_23 : decode cX4_stress 23 = .ok (.istore 4, 2) := by decide +kernel
theorem dX4_stress_25 : decode cX4_stress 25 = .ok (.aload_n 0, 1) := by decide +kernel
theorem dX4_stress_26 : decode cX4_stress 26 = .ok (.getfield 7, 3) := by decide +kernel
theorem dX4_stress_29 : decode cX4_stress 29 = .ok (.iload 4, 2) := by decide +kernel
theorem dX4_stress_31 : decode cX4_stress 31 = .ok (.iaload, 1) := by decide +kernel
theorem dX4_stress_32 : decode cX4_stress 32 = .ok (.iload_n 2, 1) := by decide +kernel
theorem dX4_stress_33 : decode cX4_stress 33 = .ok (.ishr, 1) := by decide +kernel
theorem dX4_stress_34 : decode cX4_stress 34 = .ok (.iconst 1, 1) := by decide +kernel
theorem dX4_stress_35 : decode cX4_stress 35 = .ok (.iand, 1) := by decide +kernel
theorem dX4_stress_36 : decode cX4_stress 36 = .ok (.istore 5, 2) := by decide +kernel
theorem dX4_stress_38 : decode cX4_stress 38 = .ok (.aload_n 0, 1) := by decide +kernel
theorem dX4_stress_39 : decode cX4_stress 39 = .ok (.getfield 7, 3) := by decide +kernel
theorem dX4_stress_42 : decode cX4_stress 42 = .ok (.iload 4, 2) := by decide +kernel
theorem dX4_stress_44 : decode cX4_stress 44 = .ok (.aload_n 0, 1) := by decide +kernel
theorem dX4_stress_45 : decode cX4_stress 45 = .ok (.getfield 7, 3) := by decide +kernel
theorem dX4_stress_48 : decode cX4_stress 48 = .ok (.iload 4, 2) := by decide +kernel
theorem dX4_stress_50 : decode cX4_stress 50 = .ok (.iaload, 1) := by decide +kernel
theorem dX4_stress_51 : decode cX4_stress 51 = .ok (.iconst 1, 1) := by decide +kernel
theorem dX4_stress_52 : decode cX4_stress 52 = .ok (.iload_n 2, 1) := by decide +kernel
theorem dX4_stress_53 : decode cX4_stress 53 = .ok (.ishl, 1) := by decide +kernel
theorem dX4_stress_54 : decode cX4_stress 54 = .ok (.iconst (-1), 1) := by decide +kernel
theorem dX4_stress_55 : decode cX4_stress 55 = .ok (.ixor, 1) := by decide +kernel
theorem dX4_stress_56 : decode cX4_stress 56 = .ok (.iand, 1) := by decide +kernel
theorem dX4_stress_57 : decode cX4_stress 57 = .ok (.iload_n 3, 1) := by decide +kernel
theorem dX4_stress_58 : decode cX4_stress 58 = .ok (.ifCond .eq 9, 3) := by decide +kernel
theorem dX4_stress_61 : decode cX4_stress 61 = .ok (.iconst 1, 1) := by decide +kernel
theorem dX4_stress_62 : decode cX4_stress 62 = .ok (.iload_n 2, 1) := by decide +kernel
theorem dX4_stress_63 : decode cX4_stress 63 = .ok (.ishl, 1) := by decide +kernel
theorem dX4_stress_64 : decode cX4_stress 64 = .ok (.goto 4, 3) := by decide +kernel
theorem dX4_stress_67 : decode cX4_stress 67 = .ok (.iconst 0, 1) := by decide +kernel
theorem dX4_stress_68 : decode cX4_stress 68 = .ok (.ior, 1) := by decide +kernel
theorem dX4_stress_69 : decode cX4_stress 69 = .ok (.iastore, 1) := by decide +kernel
theorem dX4_stress_70 : decode cX4_stress 70 = .ok (.iload 5, 2) := by decide +kernel
theorem dX4_stress_72 : decode cX4_stress 72 = .ok (.ireturn, 1) := by decide +kernel
theorem dX4_kindAt_0 : decode cX4_kindAt 0 = .ok (.aload_n 0, 1) := by decide +kernel
theorem dX4_kindAt_1 : decode cX4_kindAt 1 = .ok (.getfield 7, 3) := by decide +kernel
theorem dX4_kindAt_4 : decode cX4_kindAt 4 = .ok (.bipush 40, 2) := by decide +kernel
theorem dX4_kindAt_6 : decode cX4_kindAt 6 = .ok (.iconst 3, 1) := by decide +kernel
theorem dX4_kindAt_7 : decode cX4_kindAt 7 = .ok (.iload_n 1, 1) := by decide +kernel
theorem dX4_kindAt_8 : decode cX4_kindAt 8 = .ok (.imul, 1) := by decide +kernel
theorem dX4_kindAt_9 : decode cX4_kindAt 9 = .ok (.iadd, 1) := by decide +kernel
theorem dX4_kindAt_10 : decode cX4_kindAt 10 = .ok (.iconst 1, 1) := by decide +kernel
theorem dX4_kindAt_11 : decode cX4_kindAt 11 = .ok (.iadd, 1) := by decide +kernel
theorem dX4_kindAt_12 : decode cX4_kindAt 12 = .ok (.iaload, 1) := by decide +kernel
theorem dX4_kindAt_13 : decode cX4_kindAt 13 = .ok (.iload_n 2, 1) := by decide +kernel
theorem dX4_kindAt_14 : decode cX4_kindAt 14 = .ok (.invokestatic 84, 3) := by decide +kernel
theorem dX4_kindAt_17 : decode cX4_kindAt 17 = .ok (.ifCond .eq 7, 3) := by decide +kernel
theorem dX4_kindAt_20 : decode cX4_kindAt 20 = .ok (.iconst 2, 1) := by decide +kernel
theorem dX4_kindAt_21 : decode cX4_kindAt 21 = .ok (.goto 28, 3) := by decide +kernel
theorem dX4_kindAt_24 : decode cX4_kindAt 24 = .ok (.aload_n 0, 1) := by decide +kernel
theorem dX4_kindAt_25 : decode cX4_kindAt 25 = .ok (.getfield 7, 3) := by decide +kernel
theorem dX4_kindAt_28 : decode cX4_kindAt 28 = .ok (.bipush 40, 2) := by decide +kernel
theorem dX4_kindAt_30 : decode cX4_kindAt 30 = .ok (.iconst 3, 1) := by decide +kernel
theorem dX4_kindAt_31 : decode cX4_kindAt 31 = .ok (.iload_n 1, 1) := by decide +kernel
theorem dX4_kindAt_32 : decode cX4_kindAt 32 = .ok (.imul, 1) := by decide +kernel
theorem dX4_kindAt_33 : decode cX4_kindAt 33 = .ok (.iadd, 1) := by decide +kernel
theorem dX4_kindAt_34 : decode cX4_kindAt 34 = .ok (.iconst 2, 1) := by decide +kernel
theorem dX4_kindAt_35 : decode cX4_kindAt 35 = .ok (.iadd, 1) := by decide +kernel
theorem dX4_kindAt_36 : decode cX4_kindAt 36 = .ok (.iaload, 1) := by decide +kernel
theorem dX4_kindAt_37 : decode cX4_kindAt 37 = .ok (.iload_n 2, 1) := by decide +kernel
theorem dX4_kindAt_38 : decode cX4_kindAt 38 = .ok (.invokestatic 84, 3) := by decide +kernel
theorem dX4_kindAt_41 : decode cX4_kindAt 41 = .ok (.ifCond .eq 7, 3) := by decide +kernel
theorem dX4_kindAt_44 : decode cX4_kindAt 44 = .ok (.iconst 1, 1) := by decide +kernel
theorem dX4_kindAt_45 : decode cX4_kindAt 45 = .ok (.goto 4, 3) := by decide +kernel
theorem dX4_kindAt_48 : decode cX4_kindAt 48 = .ok (.iconst 0, 1) := by decide +kernel
theorem dX4_kindAt_49 : decode cX4_kindAt 49 = .ok (.ireturn, 1) := by decide +kernel
theorem dX4_beat_0 : decode cX4_beat 0 = .ok (.aload_n 0, 1) := by decide +kernel
theorem dX4_beat_1 : decode cX4_beat 1 = .ok (.iload_n 1, 1) := by decide +kernel
theorem dX4_beat_2 : decode cX4_beat 2 = .ok (.iload_n 2, 1) := by decide +kernel
theorem dX4_beat_3 : decode cX4_beat 3 = .ok (.invokevirtual 156, 3) := by decide +kernel
theorem dX4_beat_6 : decode cX4_beat 6 = .ok (.ifCond .ne 5, 3) := by decide +kernel
theorem dX4_beat_9 : decode cX4_beat 9 = .ok (.iconst (-1), 1) := by decide +kernel
theorem dX4_beat_10 : decode cX4_beat 10 = .ok (.ireturn, 1) := by decide +kernel
theorem dX4_beat_11 : decode cX4_beat 11 = .ok (.iload_n 3, 1) := by decide +kernel
theorem dX4_beat_12 : decode cX4_beat 12 = .ok (.iconst 0, 1) := by decide +kernel
theorem dX4_beat_13 : decode cX4_beat 13 = .ok (.iconst 2, 1) := by decide +kernel
theorem dX4_beat_14 : decode cX4_beat 14 = .ok (.invokestatic 48, 3) := by decide +kernel
theorem dX4_beat_17 : decode cX4_beat 17 = .ok (.ifCond .ne 6, 3) := by decide +kernel
theorem dX4_beat_20 : decode cX4_beat 20 = .ok (.bipush (-2), 2) := by decide +kernel
theorem dX4_beat_22 : decode cX4_beat 22 = .ok (.ireturn, 1) := by decide +kernel
theorem dX4_beat_23 : decode cX4_beat 23 = .ok (.aload_n 0, 1) := by decide +kernel
theorem dX4_beat_24 : decode cX4_beat 24 = .ok (.invokevirtual 131, 3) := by decide +kernel
theorem dX4_beat_27 : decode cX4_beat 27 = .ok (.aload_n 0, 1) := by decide +kernel
theorem dX4_beat_28 : decode cX4_beat 28 = .ok (.iload_n 1, 1) := by decide +kernel
theorem dX4_beat_29 : decode cX4_beat 29 = .ok (.iload_n 2, 1) := by decide +kernel
theorem dX4_beat_30 : decode cX4_beat 30 = .ok (.invokevirtual 159, 3) := by decide +kernel
theorem dX4_beat_33 : decode cX4_beat 33 = .ok (.istore 4, 2) := by decide +kernel
theorem dX4_beat_35 : decode cX4_beat 35 = .ok (.iconst 1, 1) := by decide +kernel
theorem dX4_beat_36 : decode cX4_beat 36 = .ok (.istore 5, 2) := by decide +kernel
theorem dX4_beat_38 : decode cX4_beat 38 = .ok (.iload 5, 2) := by decide +kernel
theorem dX4_beat_40 : decode cX4_beat 40 = .ok (.iconst 2, 1) := by decide +kernel
theorem dX4_beat_41 : decode cX4_beat 41 = .ok (.if_icmp .gt 56, 3) := by decide +kernel
theorem dX4_beat_44 : decode cX4_beat 44 = .ok (.bipush 40, 2) := by decide +kernel
theorem dX4_beat_46 : decode cX4_beat 46 = .ok (.iconst 3, 1) := by decide +kernel
theorem dX4_beat_47 : decode cX4_beat 47 = .ok (.iload_n 1, 1) := by decide +kernel
theorem dX4_beat_48 : decode cX4_beat 48 = .ok (.imul, 1) := by decide +kernel
theorem dX4_beat_49 : decode cX4_beat 49 = .ok (.iadd, 1) := by decide +kernel
theorem dX4_beat_50 : decode cX4_beat 50 = .ok (.iconst 3, 1) := by decide +kernel
theorem dX4_beat_51 : decode cX4_beat 51 = .ok (.iadd, 1) := by decide +kernel
theorem dX4_beat_52 : decode cX4_beat 52 = .ok (.iload 5, 2) := by decide +kernel
theorem dX4_beat_54 : decode cX4_beat 54 = .ok (.isub, 1) := by decide +kernel
theorem dX4_beat_55 : decode cX4_beat 55 = .ok (.istore 6, 2) := by decide +kernel
theorem dX4_beat_57 : decode cX4_beat 57 = .ok (.aload_n 0, 1) := by decide +kernel
theorem dX4_beat_58 : decode cX4_beat 58 = .ok (.getfield 7, 3) := by decide +kernel
theorem dX4_beat_61 : decode cX4_beat 61 = .ok (.iload 6, 2) := by decide +kernel
theorem dX4_beat_63 : decode cX4_beat 63 = .ok (.aload_n 0, 1) := by decide +kernel
theorem dX4_beat_64 : decode cX4_beat 64 = .ok (.getfield 7, 3) := by decide +kernel
theorem dX4_beat_67 : decode cX4_beat 67 = .ok (.iload 6, 2) := by decide +kernel
theorem dX4_beat_69 : decode cX4_beat 69 = .ok (.iaload, 1) := by decide +kernel
theorem dX4_beat_70 : decode cX4_beat 70 = .ok (.iconst 1, 1) := by decide +kernel
theorem dX4_beat_71 : decode cX4_beat 71 = .ok (.iload_n 2, 1) := by decide +kernel
theorem dX4_beat_72 : decode cX4_beat 72 = .ok (.ishl, 1) := by decide +kernel
theorem dX4_beat_73 : decode cX4_beat 73 = .ok (.iconst (-1), 1) := by decide +kernel
theorem dX4_beat_74 : decode cX4_beat 74 = .ok (.ixor, 1) := by decide +kernel
theorem dX4_beat_75 : decode cX4_beat 75 = .ok (.iand, 1) := by decide +kernel
theorem dX4_beat_76 : decode cX4_beat 76 = .ok (.iload_n 3, 1) := by decide +kernel
theorem dX4_beat_77 : decode cX4_beat 77 = .ok (.iload 5, 2) := by decide +kernel
theorem dX4_beat_79 : decode cX4_beat 79 = .ok (.if_icmp .ne 9, 3) := by decide +kernel
theorem dX4_beat_82 : decode cX4_beat 82 = .ok (.iconst 1, 1) := by decide +kernel
theorem dX4_beat_83 : decode cX4_beat 83 = .ok (.iload_n 2, 1) := by decide +kernel
theorem dX4_beat_84 : decode cX4_beat 84 = .ok (.ishl, 1) := by decide +kernel
theorem dX4_beat_85 : decode cX4_beat 85 = .ok (.goto 4, 3) := by decide +kernel
theorem dX4_beat_88 : decode cX4_beat 88 = .ok (.iconst 0, 1) := by decide +kernel
theorem dX4_beat_89 : decode cX4_beat 89 = .ok (.ior, 1) := by decide +kernel
theorem dX4_beat_90 : decode cX4_beat 90 = .ok (.iastore, 1) := by decide +kernel
theorem dX4_beat_91 : decode cX4_beat 91 = .ok (.iinc 5 1, 3) := by decide +kernel
theorem dX4_beat_94 : decode cX4_beat 94 = .ok (.goto (-56), 3) := by decide +kernel
theorem dX4_beat_97 : decode cX4_beat 97 = .ok (.iload 4, 2) := by decide +kernel
theorem dX4_beat_99 : decode cX4_beat 99 = .ok (.ireturn, 1) := by decide +kernel
theorem dX4_sings_0 : decode cX4_sings 0 = .ok (.aload_n 0, 1) := by decide +kernel
theorem dX4_sings_1 : decode cX4_sings 1 = .ok (.getfield 7, 3) := by decide +kernel
theorem dX4_sings_4 : decode cX4_sings 4 = .ok (.bipush 64, 2) := by decide +kernel
theorem dX4_sings_6 : decode cX4_sings 6 = .ok (.aload_n 0, 1) := by decide +kernel
theorem dX4_sings_7 : decode cX4_sings 7 = .ok (.getfield 7, 3) := by decide +kernel
theorem dX4_sings_10 : decode cX4_sings 10 = .ok (.bipush 6, 2) := by decide +kernel
theorem dX4_sings_12 : decode cX4_sings 12 = .ok (.iaload, 1) := by decide +kernel
theorem dX4_sings_13 : decode cX4_sings 13 = .ok (.iadd, 1) := by decide +kernel
theorem dX4_sings_14 : decode cX4_sings 14 = .ok (.iload_n 1, 1) := by decide +kernel
theorem dX4_sings_15 : decode cX4_sings 15 = .ok (.iastore, 1) := by decide +kernel
theorem dX4_sings_16 : decode cX4_sings 16 = .ok (.aload_n 0, 1) := by decide +kernel
theorem dX4_sings_17 : decode cX4_sings 17 = .ok (.getfield 7, 3) := by decide +kernel
theorem dX4_sings_20 : decode cX4_sings 20 = .ok (.bipush 6, 2) := by decide +kernel
theorem dX4_sings_22 : decode cX4_sings 22 = .ok (.dup2, 1) := by decide +kernel
theorem dX4_sings_23 : decode cX4_sings 23 = .ok (.iaload, 1) := by decide +kernel
theorem dX4_sings_24 : decode cX4_sings 24 = .ok (.iconst 1, 1) := by decide +kernel
theorem dX4_sings_25 : decode cX4_sings 25 = .ok (.iadd, 1) := by decide +kernel
theorem dX4_sings_26 : decode cX4_sings 26 = .ok (.iastore, 1) := by decide +kernel
theorem dX4_sings_27 : decode cX4_sings 27 = .ok (.return_, 1) := by decide +kernel
theorem dX4_sing_0 : decode cX4_sing 0 = .ok (.aload_n 0, 1) := by decide +kernel
theorem dX4_sing_1 : decode cX4_sing 1 = .ok (.iload_n 1, 1) := by decide +kernel
theorem dX4_sing_2 : decode cX4_sing 2 = .ok (.invokevirtual 52, 3) := by decide +kernel
theorem dX4_sing_5 : decode cX4_sing 5 = .ok (.ifCond .ne 5, 3) := by decide +kernel
theorem dX4_sing_8 : decode cX4_sing 8 = .ok (.iconst (-1), 1) := by decide +kernel
theorem dX4_sing_9 : decode cX4_sing 9 = .ok (.ireturn, 1) := by decide +kernel
theorem dX4_sing_10 : decode cX4_sing 10 = .ok (.aload_n 0, 1) := by decide +kernel
theorem dX4_sing_11 : decode cX4_sing 11 = .ok (.getfield 7, 3) := by decide +kernel
theorem dX4_sing_14 : decode cX4_sing 14 = .ok (.bipush 6, 2) := by decide +kernel
theorem dX4_sing_16 : decode cX4_sing 16 = .ok (.iaload, 1) := by decide +kernel
theorem dX4_sing_17 : decode cX4_sing 17 = .ok (.bipush 40, 2) := by decide +kernel
theorem dX4_sing_19 : decode cX4_sing 19 = .ok (.if_icmp .ne 6, 3) := by decide +kernel
theorem dX4_sing_22 : decode cX4_sing 22 = .ok (.bipush (-4), 2) := by decide +kernel
theorem dX4_sing_24 : decode cX4_sing 24 = .ok (.ireturn, 1) := by decide +kernel
theorem dX4_sing_25 : decode cX4_sing 25 = .ok (.aload_n 0, 1) := by decide +kernel
theorem dX4_sing_26 : decode cX4_sing 26 = .ok (.invokevirtual 131, 3) := by decide +kernel
theorem dX4_sing_29 : decode cX4_sing 29 = .ok (.aload_n 0, 1) := by decide +kernel
theorem dX4_sing_30 : decode cX4_sing 30 = .ok (.iload_n 1, 1) := by decide +kernel
theorem dX4_sing_31 : decode cX4_sing 31 = .ok (.invokevirtual 162, 3) := by decide +kernel
theorem dX4_sing_34 : decode cX4_sing 34 = .ok (.aload_n 0, 1) := by decide +kernel
theorem dX4_sing_35 : decode cX4_sing 35 = .ok (.getfield 7, 3) := by decide +kernel
theorem dX4_sing_38 : decode cX4_sing 38 = .ok (.bipush 6, 2) := by decide +kernel
theorem dX4_sing_40 : decode cX4_sing 40 = .ok (.iaload, 1) := by decide +kernel
theorem dX4_sing_41 : decode cX4_sing 41 = .ok (.ireturn, 1) := by decide +kernel
theorem dX4_play_0 : decode cX4_play 0 = .ok (.aload_n 0, 1) := by decide +kernel
theorem dX4_play_1 : decode cX4_play 1 = .ok (.iload_n 1, 1) := by decide +kernel
theorem dX4_play_2 : decode cX4_play 2 = .ok (.invokevirtual 60, 3) := by decide +kernel
theorem dX4_play_5 : decode cX4_play 5 = .ok (.ifCond .ne 5, 3) := by decide +kernel
theorem dX4_play_8 : decode cX4_play 8 = .ok (.iconst (-1), 1) := by decide +kernel
theorem dX4_play_9 : decode cX4_play 9 = .ok (.ireturn, 1) := by decide +kernel
theorem dX4_play_10 : decode cX4_play 10 = .ok (.aload_n 0, 1) := by decide +kernel
theorem dX4_play_11 : decode cX4_play 11 = .ok (.getfield 7, 3) := by decide +kernel
theorem dX4_play_14 : decode cX4_play 14 = .ok (.bipush 7, 2) := by decide +kernel
theorem dX4_play_16 : decode cX4_play 16 = .ok (.iaload, 1) := by decide +kernel
theorem dX4_play_17 : decode cX4_play 17 = .ok (.bipush 8, 2) := by decide +kernel
theorem dX4_play_19 : decode cX4_play 19 = .ok (.if_icmp .ne 6, 3) := by decide +kernel
theorem dX4_play_22 : decode cX4_play 22 = .ok (.bipush (-4), 2) := by decide +kernel
theorem dX4_play_24 : decode cX4_play 24 = .ok (.ireturn, 1) := by decide +kernel
theorem dX4_play_25 : decode cX4_play 25 = .ok (.aload_n 0, 1) := by decide +kernel
theorem dX4_play_26 : decode cX4_play 26 = .ok (.invokevirtual 131, 3) := by decide +kernel
theorem dX4_play_29 : decode cX4_play 29 = .ok (.aload_n 0, 1) := by decide +kernel
theorem dX4_play_30 : decode cX4_play 30 = .ok (.getfield 7, 3) := by decide +kernel
theorem dX4_play_33 : decode cX4_play 33 = .ok (.bipush 104, 2) := by decide +kernel
theorem dX4_play_35 : decode cX4_play 35 = .ok (.aload_n 0, 1) := by decide +kernel
theorem dX4_play_36 : decode cX4_play 36 = .ok (.getfield 7, 3) := by decide +kernel
theorem dX4_play_39 : decode cX4_play 39 = .ok (.bipush 7, 2) := by decide +kernel
theorem dX4_play_41 : decode cX4_play 41 = .ok (.iaload, 1) := by decide +kernel
theorem dX4_play_42 : decode cX4_play 42 = .ok (.iadd, 1) := by decide +kernel
theorem dX4_play_43 : decode cX4_play 43 = .ok (.iload_n 1, 1) := by decide +kernel
theorem dX4_play_44 : decode cX4_play 44 = .ok (.iastore, 1) := by decide +kernel
theorem dX4_play_45 : decode cX4_play 45 = .ok (.aload_n 0, 1) := by decide +kernel
theorem dX4_play_46 : decode cX4_play 46 = .ok (.getfield 7, 3) := by decide +kernel
theorem dX4_play_49 : decode cX4_play 49 = .ok (.bipush 7, 2) := by decide +kernel
theorem dX4_play_51 : decode cX4_play 51 = .ok (.dup2, 1) := by decide +kernel
theorem dX4_play_52 : decode cX4_play 52 = .ok (.iaload, 1) := by decide +kernel
theorem dX4_play_53 : decode cX4_play 53 = .ok (.iconst 1, 1) := by decide +kernel
theorem dX4_play_54 : decode cX4_play 54 = .ok (.iadd, 1) := by decide +kernel
theorem dX4_play_55 : decode cX4_play 55 = .ok (.iastore, 1) := by decide +kernel
theorem dX4_play_56 : decode cX4_play 56 = .ok (.aload_n 0, 1) := by decide +kernel
theorem dX4_play_57 : decode cX4_play 57 = .ok (.getfield 7, 3) := by decide +kernel
theorem dX4_play_60 : decode cX4_play 60 = .ok (.bipush 7, 2) := by decide +kernel
theorem dX4_play_62 : decode cX4_play 62 = .ok (.iaload, 1) := by decide +kernel
theorem dX4_play_63 : decode cX4_play 63 = .ok (.ireturn, 1) := by decide +kernel
theorem dX4_verse_0 : decode cX4_verse 0 = .ok (.aload_n 0, 1) := by decide +kernel
theorem dX4_verse_1 : decode cX4_verse 1 = .ok (.iload_n 1, 1) := by decide +kernel
theorem dX4_verse_2 : decode cX4_verse 2 = .ok (.invokevirtual 52, 3) := by decide +kernel
theorem dX4_verse_5 : decode cX4_verse 5 = .ok (.ifCond .eq 19, 3) := by decide +kernel
theorem dX4_verse_8 : decode cX4_verse 8 = .ok (.aload_n 0, 1) := by decide +kernel
theorem dX4_verse_9 : decode cX4_verse 9 = .ok (.iload_n 2, 1) := by decide +kernel
theorem dX4_verse_10 : decode cX4_verse 10 = .ok (.invokevirtual 52, 3) := by decide +kernel
theorem dX4_verse_13 : decode cX4_verse 13 = .ok (.ifCond .eq 11, 3) := by decide +kernel
theorem dX4_verse_16 : decode cX4_verse 16 = .ok (.aload_n 0, 1) := by decide +kernel
theorem dX4_verse_17 : decode cX4_verse 17 = .ok (.iload_n 3, 1) := by decide +kernel
theorem dX4_verse_18 : decode cX4_verse 18 = .ok (.invokevirtual 52, 3) := by decide +kernel
theorem dX4_verse_21 : decode cX4_verse 21 = .ok (.ifCond .ne 5, 3) := by decide +kernel
theorem dX4_verse_24 : decode cX4_verse 24 = .ok (.iconst (-1), 1) := by decide +kernel
theorem dX4_verse_25 : decode cX4_verse 25 = .ok (.ireturn, 1) := by decide +kernel
theorem dX4_verse_26 : decode cX4_verse 26 = .ok (.iload_n 2, 1) := by decide +kernel
theorem dX4_verse_27 : decode cX4_verse 27 = .ok (.iload_n 1, 1) := by decide +kernel
theorem dX4_verse_28 : decode cX4_verse 28 = .ok (.if_icmp .ge 6, 3) := by decide +kernel
theorem dX4_verse_31 : decode cX4_verse 31 = .ok (.bipush (-2), 2) := by decide +kernel
theorem dX4_verse_33 : decode cX4_verse 33 = .ok (.ireturn, 1) := by decide +kernel
theorem dX4_verse_34 : decode cX4_verse 34 = .ok (.aload_n 0, 1) := by decide +kernel
theorem dX4_verse_35 : decode cX4_verse 35 = .ok (.getfield 7, 3) := by decide +kernel
theorem dX4_verse_38 : decode cX4_verse 38 = .ok (.bipush 6, 2) := by decide +kernel
theorem dX4_verse_40 : decode cX4_verse 40 = .ok (.iaload, 1) := by decide +kernel
theorem dX4_verse_41 : decode cX4_verse 41 = .ok (.iconst 2, 1) := by decide +kernel
theorem dX4_verse_42 : decode cX4_verse 42 = .ok (.iload_n 2, 1) := by decide +kernel
theorem dX4_verse_43 : decode cX4_verse 43 = .ok (.iload_n 1, 1) := by decide +kernel
theorem dX4_verse_44 : decode cX4_verse 44 = .ok (.isub, 1) := by decide +kernel
theorem dX4_verse_45 : decode cX4_verse 45 = .ok (.iconst 1, 1) := by decide +kernel
theorem dX4_verse_46 : decode cX4_verse 46 = .ok (.iadd, 1) := by decide +kernel
theorem dX4_verse_47 : decode cX4_verse 47 = .ok (.imul, 1) := by decide +kernel
theorem dX4_verse_48 : decode cX4_verse 48 = .ok (.iadd, 1) := by decide +kernel
theorem dX4_verse_49 : decode cX4_verse 49 = .ok (.bipush 40, 2) := by decide +kernel
theorem dX4_verse_51 : decode cX4_verse 51 = .ok (.if_icmp .le 6, 3) := by decide +kernel
theorem dX4_verse_54 : decode cX4_verse 54 = .ok (.bipush (-4), 2) := by decide +kernel
theorem dX4_verse_56 : decode cX4_verse 56 = .ok (.ireturn, 1) := by decide +kernel
theorem dX4_verse_57 : decode cX4_verse 57 = .ok (.aload_n 0, 1) := by decide +kernel
theorem dX4_verse_58 : decode cX4_verse 58 = .ok (.invokevirtual 131, 3) := by decide +kernel
theorem dX4_verse_61 : decode cX4_verse 61 = .ok (.iload_n 1, 1) := by decide +kernel
theorem dX4_verse_62 : decode cX4_verse 62 = .ok (.istore 4, 2) := by decide +kernel
theorem dX4_verse_64 : decode cX4_verse 64 = .ok (.iload 4, 2) := by decide +kernel
theorem dX4_verse_66 : decode cX4_verse 66 = .ok (.iload_n 2, 1) := by decide +kernel
theorem dX4_verse_67 : decode cX4_verse 67 = .ok (.if_icmp .gt 20, 3) := by decide +kernel
theorem dX4_verse_70 : decode cX4_verse 70 = .ok (.aload_n 0, 1) := by decide +kernel
theorem dX4_verse_71 : decode cX4_verse 71 = .ok (.iload 4, 2) := by decide +kernel
theorem dX4_verse_73 : decode cX4_verse 73 = .ok (.invokevirtual 162, 3) := by decide +kernel
theorem dX4_verse_76 : decode cX4_verse 76 = .ok (.aload_n 0, 1) := by decide +kernel
theorem dX4_verse_77 : decode cX4_verse 77 = .ok (.iload_n 3, 1) := by decide +kernel
theorem dX4_verse_78 : decode cX4_verse 78 = .ok (.invokevirtual 162, 3) := by decide +kernel
theorem dX4_verse_81 : decode cX4_verse 81 = .ok (.iinc 4 1, 3) := by decide +kernel
theorem dX4_verse_84 : decode cX4_verse 84 = .ok (.goto (-20), 3) := by decide +kernel
theorem dX4_verse_87 : decode cX4_verse 87 = .ok (.aload_n 0, 1) := by decide +kernel
theorem dX4_verse_88 : decode cX4_verse 88 = .ok (.getfield 7, 3) := by decide +kernel
theorem dX4_verse_91 : decode cX4_verse 91 = .ok (.bipush 6, 2) := by decide +kernel
theorem dX4_verse_93 : decode cX4_verse 93 = .ok (.iaload, 1) := by decide +kernel
theorem dX4_verse_94 : decode cX4_verse 94 = .ok (.ireturn, 1) := by decide +kernel
theorem dX4_clear_0 : decode cX4_clear 0 = .ok (.aload_n 0, 1) := by decide +kernel
theorem dX4_clear_1 : decode cX4_clear 1 = .ok (.invokevirtual 131, 3) := by decide +kernel
theorem dX4_clear_4 : decode cX4_clear 4 = .ok (.iload_n 1, 1) := by decide +kernel
theorem dX4_clear_5 : decode cX4_clear 5 = .ok (.ifCond .eq 8, 3) := by decide +kernel
theorem dX4_clear_8 : decode cX4_clear 8 = .ok (.bipush 7, 2) := by decide +kernel
theorem dX4_clear_10 : decode cX4_clear 10 = .ok (.goto 5, 3) := by decide +kernel
theorem dX4_clear_13 : decode cX4_clear 13 = .ok (.bipush 6, 2) := by decide +kernel
theorem dX4_clear_15 : decode cX4_clear 15 = .ok (.istore_n 2, 1) := by decide +kernel
theorem dX4_clear_16 : decode cX4_clear 16 = .ok (.aload_n 0, 1) := by decide +kernel
theorem dX4_clear_17 : decode cX4_clear 17 = .ok (.getfield 7, 3) := by decide +kernel
theorem dX4_clear_20 : decode cX4_clear 20 = .ok (.iload_n 2, 1) := by decide +kernel
theorem dX4_clear_21 : decode cX4_clear 21 = .ok (.iaload, 1) := by decide +kernel
theorem dX4_clear_22 : decode cX4_clear 22 = .ok (.istore_n 3, 1) := by decide +kernel
theorem dX4_clear_23 : decode cX4_clear 23 = .ok (.aload_n 0, 1) := by decide +kernel
theorem dX4_clear_24 : decode cX4_clear 24 = .ok (.getfield 7, 3) := by decide +kernel
theorem dX4_clear_27 : decode cX4_clear 27 = .ok (.iload_n 2, 1) := by decide +kernel
theorem dX4_clear_28 : decode cX4_clear 28 = .ok (.iconst 0, 1) := by decide +kernel
theorem dX4_clear_29 : decode cX4_clear 29 = .ok (.iastore, 1) := by decide +kernel
theorem dX4_clear_30 : decode cX4_clear 30 = .ok (.iload_n 3, 1) := by decide +kernel
theorem dX4_clear_31 : decode cX4_clear 31 = .ok (.ireturn, 1) := by decide +kernel
theorem dX4_cheapestPhrase_0 : decode cX4_cheapestPhrase 0 = .ok (.bipush (-6), 2) := by decide +kernel
theorem dX4_cheapestPhrase_2 : decode cX4_cheapestPhrase 2 = .ok (.istore_n 2, 1) := by decide +kernel
theorem dX4_cheapestPhrase_3 : decode cX4_cheapestPhrase 3 = .ok (.ldc 88, 2) := by decide +kernel
theorem dX4_cheapestPhrase_5 : decode cX4_cheapestPhrase 5 = .ok (.istore_n 3, 1) := by decide +kernel
theorem dX4_cheapestPhrase_6 : decode cX4_cheapestPhrase 6 = .ok (.iconst 0, 1) := by decide +kernel
theorem dX4_cheapestPhrase_7 : decode cX4_cheapestPhrase 7 = .ok (.istore 4, 2) := by decide +kernel
theorem dX4_cheapestPhrase_9 : decode cX4_cheapestPhrase 9 = .ok (.iload 4, 2) := by decide +kernel
theorem dX4_cheapestPhrase_11 : decode cX4_cheapestPhrase 11 = .ok (.aload_n 0, 1) := by decide +kernel
theorem dX4_cheapestPhrase_12 : decode cX4_cheapestPhrase 12 = .ok (.getfield 7, 3) := by decide +kernel
theorem dX4_cheapestPhrase_15 : decode cX4_cheapestPhrase 15 = .ok (.iconst 5, 1) := by decide +kernel
theorem dX4_cheapestPhrase_16 : decode cX4_cheapestPhrase 16 = .ok (.iaload, 1) := by decide +kernel
theorem dX4_cheapestPhrase_17 : decode cX4_cheapestPhrase 17 = .ok (.if_icmp .ge 44, 3) := by decide +kernel
theorem dX4_cheapestPhrase_20 : decode cX4_cheapestPhrase 20 = .ok (.aload_n 0, 1) := by decide +kernel
theorem dX4_cheapestPhrase_21 : decode cX4_cheapestPhrase 21 = .ok (.iload_n 1, 1) := by decide +kernel
theorem dX4_cheapestPhrase_22 : decode cX4_cheapestPhrase 22 = .ok (.iload 4, 2) := by decide +kernel
theorem dX4_cheapestPhrase_24 : decode cX4_cheapestPhrase 24 = .ok (.invokevirtual 166, 3) := by decide +kernel
theorem dX4_cheapestPhrase_27 : decode cX4_cheapestPhrase 27 = .ok (.istore 5, 2) := by decide +kernel
theorem dX4_cheapestPhrase_29 : decode cX4_cheapestPhrase 29 = .ok (.iload 5, 2) := by decide +kernel
theorem dX4_cheapestPhrase_31 : decode cX4_cheapestPhrase 31 = .ok (.iload_n 3, 1) := by decide +kernel
theorem dX4_cheapestPhrase_32 : decode cX4_cheapestPhrase 32 = .ok (.if_icmp .ge 8, 3) := by decide +kernel
theorem dX4_cheapestPhrase_35 : decode cX4_cheapestPhrase 35 = .ok (.iload 4, 2) := by decide +kernel
theorem dX4_cheapestPhrase_37 : decode cX4_cheapestPhrase 37 = .ok (.goto 4, 3) := by decide +kernel
theorem dX4_cheapestPhrase_40 : decode cX4_cheapestPhrase 40 = .ok (.iload_n 2, 1) := by decide +kernel
theorem dX4_cheapestPhrase_41 : decode cX4_cheapestPhrase 41 = .ok (.istore_n 2, 1) := by decide +kernel
theorem dX4_cheapestPhrase_42 : decode cX4_cheapestPhrase 42 = .ok (.iload 5, 2) := by decide +kernel
theorem dX4_cheapestPhrase_44 : decode cX4_cheapestPhrase 44 = .ok (.iload_n 3, 1) := by decide +kernel
theorem dX4_cheapestPhrase_45 : decode cX4_cheapestPhrase 45 = .ok (.if_icmp .ge 8, 3) := by decide +kernel
theorem dX4_cheapestPhrase_48 : decode cX4_cheapestPhrase 48 = .ok (.iload 5, 2) := by decide +kernel
theorem dX4_cheapestPhrase_50 : decode cX4_cheapestPhrase 50 = .ok (.goto 4, 3) := by decide +kernel
theorem dX4_cheapestPhrase_53 : decode cX4_cheapestPhrase 53 = .ok (.iload_n 3, 1) := by decide +kernel
theorem dX4_cheapestPhrase_54 : decode cX4_cheapestPhrase 54 = .ok (.istore_n 3, 1) := by decide +kernel
theorem dX4_cheapestPhrase_55 : decode cX4_cheapestPhrase 55 = .ok (.iinc 4 1, 3) := by decide +kernel
theorem dX4_cheapestPhrase_58 : decode cX4_cheapestPhrase 58 = .ok (.goto (-49), 3) := by decide +kernel
theorem dX4_cheapestPhrase_61 : decode cX4_cheapestPhrase 61 = .ok (.iload_n 2, 1) := by decide +kernel
theorem dX4_cheapestPhrase_62 : decode cX4_cheapestPhrase 62 = .ok (.ireturn, 1) := by decide +kernel
theorem dX4_line_0 : decode cX4_line 0 = .ok (.aload_n 0, 1) := by decide +kernel
theorem dX4_line_1 : decode cX4_line 1 = .ok (.iload_n 1, 1) := by decide +kernel
theorem dX4_line_2 : decode cX4_line 2 = .ok (.invokevirtual 52, 3) := by decide +kernel
theorem dX4_line_5 : decode cX4_line 5 = .ok (.ifCond .ne 5, 3) := by decide +kernel
theorem dX4_line_8 : decode cX4_line 8 = .ok (.iconst (-1), 1) := by decide +kernel
theorem dX4_line_9 : decode cX4_line 9 = .ok (.ireturn, 1) := by decide +kernel
theorem dX4_line_10 : decode cX4_line 10 = .ok (.iload_n 2, 1) := by decide +kernel
theorem dX4_line_11 : decode cX4_line 11 = .ok (.tableswitch 83 0 4 #[33, 39, 56, 62, 77], 33) := by decide +kernel
theorem dX4_line_44 : decode cX4_line 44 = .ok (.aload_n 0, 1) := by decide +kernel
theorem dX4_line_45 : decode cX4_line 45 = .ok (.iload_n 1, 1) := by decide +kernel
theorem dX4_line_46 : decode cX4_line 46 = .ok (.invokevirtual 56, 3) := by decide +kernel
theorem dX4_line_49 : decode cX4_line 49 = .ok (.ireturn, 1) := by decide +kernel
theorem dX4_line_50 : decode cX4_line 50 = .ok (.aload_n 0, 1) := by decide +kernel
theorem dX4_line_51 : decode cX4_line 51 = .ok (.getfield 7, 3) := by decide +kernel
theorem dX4_line_54 : decode cX4_line 54 = .ok (.bipush 8, 2) := by decide +kernel
theorem dX4_line_56 : decode cX4_line 56 = .ok (.iconst 2, 1) := by decide +kernel
theorem dX4_line_57 : decode cX4_line 57 = .ok (.iload_n 1, 1) := by decide +kernel
theorem dX4_line_58 : decode cX4_line 58 = .ok (.imul, 1) := by decide +kernel
theorem dX4_line_59 : decode cX4_line 59 = .ok (.iadd, 1) := by decide +kernel
theorem dX4_line_60 : decode cX4_line 60 = .ok (.iconst 1, 1) := by decide +kernel
theorem dX4_line_61 : decode cX4_line 61 = .ok (.iadd, 1) := by decide +kernel
theorem dX4_line_62 : decode cX4_line 62 = .ok (.iaload, 1) := by decide +kernel
theorem dX4_line_63 : decode cX4_line 63 = .ok (.invokestatic 125, 3) := by decide +kernel
theorem dX4_line_66 : decode cX4_line 66 = .ok (.ireturn, 1) := by decide +kernel
theorem dX4_line_67 : decode cX4_line 67 = .ok (.aload_n 0, 1) := by decide +kernel
theorem dX4_line_68 : decode cX4_line 68 = .ok (.iload_n 1, 1) := by decide +kernel
theorem dX4_line_69 : decode cX4_line 69 = .ok (.invokevirtual 169, 3) := by decide +kernel
theorem dX4_line_72 : decode cX4_line 72 = .ok (.ireturn, 1) := by decide +kernel
theorem dX4_line_73 : decode cX4_line 73 = .ok (.aload_n 0, 1) := by decide +kernel
theorem dX4_line_74 : decode cX4_line 74 = .ok (.iload_n 1, 1) := by decide +kernel
theorem dX4_line_75 : decode cX4_line 75 = .ok (.invokevirtual 169, 3) := by decide +kernel
theorem dX4_line_78 : decode cX4_line 78 = .ok (.iconst 1, 1) := by decide +kernel
theorem dX4_line_79 : decode cX4_line 79 = .ok (.if_icmp .le 7, 3) := by decide +kernel
theorem dX4_line_82 : decode cX4_line 82 = .ok (.iconst 1, 1) := by decide +kernel
theorem dX4_line_83 : decode cX4_line 83 = .ok (.goto 4, 3) := by decide +kernel
theorem dX4_line_86 : decode cX4_line 86 = .ok (.iconst 0, 1) := by decide +kernel
theorem dX4_line_87 : decode cX4_line 87 = .ok (.ireturn, 1) := by decide +kernel
theorem dX4_line_88 : decode cX4_line 88 = .ok (.aload_n 0, 1) := by decide +kernel
theorem dX4_line_89 : decode cX4_line 89 = .ok (.iload_n 1, 1) := by decide +kernel
theorem dX4_line_90 : decode cX4_line 90 = .ok (.invokevirtual 172, 3) := by decide +kernel
theorem dX4_line_93 : decode cX4_line 93 = .ok (.ireturn, 1) := by decide +kernel
theorem dX4_line_94 : decode cX4_line 94 = .ok (.bipush (-2), 2) := by decide +kernel
theorem dX4_line_96 : decode cX4_line 96 = .ok (.ireturn, 1) := by decide +kernel
theorem dX4_longestRow_0 : decode cX4_longestRow 0 = .ok (.iconst 0, 1) := by decide +kernel
theorem dX4_longestRow_1 : decode cX4_longestRow 1 = .ok (.istore_n 2, 1) := by decide +kernel
theorem dX4_longestRow_2 : decode cX4_longestRow 2 = .ok (.iconst 0, 1) := by decide +kernel
theorem dX4_longestRow_3 : decode cX4_longestRow 3 = .ok (.istore_n 3, 1) := by decide +kernel
theorem dX4_longestRow_4 : decode cX4_longestRow 4 = .ok (.iconst 0, 1) := by decide +kernel
theorem dX4_longestRow_5 : decode cX4_longestRow 5 = .ok (.istore 4, 2) := by decide +kernel
theorem dX4_longestRow_7 : decode cX4_longestRow 7 = .ok (.iload 4, 2) := by decide +kernel
theorem dX4_longestRow_9 : decode cX4_longestRow 9 = .ok (.aload_n 0, 1) := by decide +kernel
theorem dX4_longestRow_10 : decode cX4_longestRow 10 = .ok (.iload_n 1, 1) := by decide +kernel
theorem dX4_longestRow_11 : decode cX4_longestRow 11 = .ok (.invokevirtual 63, 3) := by decide +kernel
theorem dX4_longestRow_14 : decode cX4_longestRow 14 = .ok (.if_icmp .ge 38, 3) := by decide +kernel
theorem dX4_longestRow_17 : decode cX4_longestRow 17 = .ok (.aload_n 0, 1) := by decide +kernel
theorem dX4_longestRow_18 : decode cX4_longestRow 18 = .ok (.iload_n 1, 1) := by decide +kernel
theorem dX4_longestRow_19 : decode cX4_longestRow 19 = .ok (.iload 4, 2) := by decide +kernel
theorem dX4_longestRow_21 : decode cX4_longestRow 21 = .ok (.invokevirtual 159, 3) := by decide +kernel
theorem dX4_longestRow_24 : decode cX4_longestRow 24 = .ok (.ifCond .ne 7, 3) := by decide +kernel
theorem dX4_longestRow_27 : decode cX4_longestRow 27 = .ok (.iconst 0, 1) := by decide +kernel
theorem dX4_longestRow_28 : decode cX4_longestRow 28 = .ok (.goto 6, 3) := by decide +kernel
theorem dX4_longestRow_31 : decode cX4_longestRow 31 = .ok (.iload_n 3, 1) := by decide +kernel
theorem dX4_longestRow_32 : decode cX4_longestRow 32 = .ok (.iconst 1, 1) := by decide +kernel
theorem dX4_longestRow_33 : decode cX4_longestRow 33 = .ok (.iadd, 1) := by decide +kernel
theorem dX4_longestRow_34 : decode cX4_longestRow 34 = .ok (.istore_n 3, 1) := by decide +kernel
theorem dX4_longestRow_35 : decode cX4_longestRow 35 = .ok (.iload_n 3, 1) := by decide +kernel
theorem dX4_longestRow_36 : decode cX4_longestRow 36 = .ok (.iload_n 2, 1) := by decide +kernel
theorem dX4_longestRow_37 : decode cX4_longestRow 37 = .ok (.if_icmp .le 7, 3) := by decide +kernel
theorem dX4_longestRow_40 : decode cX4_longestRow 40 = .ok (.iload_n 3, 1) := by decide +kernel
theorem dX4_longestRow_41 : decode cX4_longestRow 41 = .ok (.goto 4, 3) := by decide +kernel
theorem dX4_longestRow_44 : decode cX4_longestRow 44 = .ok (.iload_n 2, 1) := by decide +kernel
theorem dX4_longestRow_45 : decode cX4_longestRow 45 = .ok (.istore_n 2, 1) := by decide +kernel
theorem dX4_longestRow_46 : decode cX4_longestRow 46 = .ok (.iinc 4 1, 3) := by decide +kernel
theorem dX4_longestRow_49 : decode cX4_longestRow 49 = .ok (.goto (-42), 3) := by decide +kernel
theorem dX4_longestRow_52 : decode cX4_longestRow 52 = .ok (.iload_n 2, 1) := by decide +kernel
theorem dX4_longestRow_53 : decode cX4_longestRow 53 = .ok (.ireturn, 1) := by decide +kernel
theorem dX4_phrase_0 : decode cX4_phrase 0 = .ok (.aload_n 0, 1) := by decide +kernel
theorem dX4_phrase_1 : decode cX4_phrase 1 = .ok (.iload_n 1, 1) := by decide +kernel
theorem dX4_phrase_2 : decode cX4_phrase 2 = .ok (.invokevirtual 60, 3) := by decide +kernel
theorem dX4_phrase_5 : decode cX4_phrase 5 = .ok (.ifCond .ne 5, 3) := by decide +kernel
theorem dX4_phrase_8 : decode cX4_phrase 8 = .ok (.iconst (-1), 1) := by decide +kernel
theorem dX4_phrase_9 : decode cX4_phrase 9 = .ok (.ireturn, 1) := by decide +kernel
theorem dX4_phrase_10 : decode cX4_phrase 10 = .ok (.aload_n 0, 1) := by decide +kernel
theorem dX4_phrase_11 : decode cX4_phrase 11 = .ok (.getfield 7, 3) := by decide +kernel
theorem dX4_phrase_14 : decode cX4_phrase 14 = .ok (.bipush 40, 2) := by decide +kernel
theorem dX4_phrase_16 : decode cX4_phrase 16 = .ok (.iconst 3, 1) := by decide +kernel
theorem dX4_phrase_17 : decode cX4_phrase 17 = .ok (.iload_n 1, 1) := by decide +kernel
theorem dX4_phrase_18 : decode cX4_phrase 18 = .ok (.imul, 1) := by decide +kernel
theorem dX4_phrase_19 : decode cX4_phrase 19 = .ok (.iadd, 1) := by decide +kernel
theorem dX4_phrase_20 : decode cX4_phrase 20 = .ok (.iconst 1, 1) := by decide +kernel
theorem dX4_phrase_21 : decode cX4_phrase 21 = .ok (.iadd, 1) := by decide +kernel
theorem dX4_phrase_22 : decode cX4_phrase 22 = .ok (.iaload, 1) := by decide +kernel
theorem dX4_phrase_23 : decode cX4_phrase 23 = .ok (.invokestatic 125, 3) := by decide +kernel
theorem dX4_phrase_26 : decode cX4_phrase 26 = .ok (.istore_n 3, 1) := by decide +kernel
theorem dX4_phrase_27 : decode cX4_phrase 27 = .ok (.aload_n 0, 1) := by decide +kernel
theorem dX4_phrase_28 : decode cX4_phrase 28 = .ok (.getfield 7, 3) := by decide +kernel
theorem dX4_phrase_31 : decode cX4_phrase 31 = .ok (.bipush 40, 2) := by decide +kernel
theorem dX4_phrase_33 : decode cX4_phrase 33 = .ok (.iconst 3, 1) := by decide +kernel
theorem dX4_phrase_34 : decode cX4_phrase 34 = .ok (.iload_n 1, 1) := by decide +kernel
theorem dX4_phrase_35 : decode cX4_phrase 35 = .ok (.imul, 1) := by decide +kernel
theorem dX4_phrase_36 : decode cX4_phrase 36 = .ok (.iadd, 1) := by decide +kernel
theorem dX4_phrase_37 : decode cX4_phrase 37 = .ok (.iconst 2, 1) := by decide +kernel
theorem dX4_phrase_38 : decode cX4_phrase 38 = .ok (.iadd, 1) := by decide +kernel
theorem dX4_phrase_39 : decode cX4_phrase 39 = .ok (.iaload, 1) := by decide +kernel
theorem dX4_phrase_40 : decode cX4_phrase 40 = .ok (.invokestatic 125, 3) := by decide +kernel
theorem dX4_phrase_43 : decode cX4_phrase 43 = .ok (.istore 4, 2) := by decide +kernel
theorem dX4_phrase_45 : decode cX4_phrase 45 = .ok (.iload_n 2, 1) := by decide +kernel
theorem dX4_phrase_46 : decode cX4_phrase 46 = .ok (.tableswitch 72 0 5 #[38, 44, 46, 49, 60, 66], 38) := by decide +kernel
theorem dX4_phrase_84 : decode cX4_phrase 84 = .ok (.aload_n 0, 1) := by decide +kernel
theorem dX4_phrase_85 : decode cX4_phrase 85 = .ok (.iload_n 1, 1) := by decide +kernel
theorem dX4_phrase_86 : decode cX4_phrase 86 = .ok (.invokevirtual 63, 3) := by decide +kernel
theorem dX4_phrase_89 : decode cX4_phrase 89 = .ok (.ireturn, 1) := by decide +kernel
theorem dX4_phrase_90 : decode cX4_phrase 90 = .ok (.iload_n 3, 1) := by decide +kernel
theorem dX4_phrase_91 : decode cX4_phrase 91 = .ok (.ireturn, 1) := by decide +kernel
theorem dX4_phrase_92 : decode cX4_phrase 92 = .ok (.iload 4, 2) := by decide +kernel
theorem dX4_phrase_94 : decode cX4_phrase 94 = .ok (.ireturn, 1) := by decide +kernel
theorem dX4_phrase_95 : decode cX4_phrase 95 = .ok (.aload_n 0, 1) := by decide +kernel
theorem dX4_phrase_96 : decode cX4_phrase 96 = .ok (.iload_n 1, 1) := by decide +kernel
theorem dX4_phrase_97 : decode cX4_phrase 97 = .ok (.invokevirtual 63, 3) := by decide +kernel
theorem dX4_phrase_100 : decode cX4_phrase 100 = .ok (.iload_n 3, 1) := by decide +kernel
theorem dX4_phrase_101 : decode cX4_phrase 101 = .ok (.isub, 1) := by decide +kernel
theorem dX4_phrase_102 : decode cX4_phrase 102 = .ok (.iload 4, 2) := by decide +kernel
theorem dX4_phrase_104 : decode cX4_phrase 104 = .ok (.isub, 1) := by decide +kernel
theorem dX4_phrase_105 : decode cX4_phrase 105 = .ok (.ireturn, 1) := by decide +kernel
theorem dX4_phrase_106 : decode cX4_phrase 106 = .ok (.aload_n 0, 1) := by decide +kernel
theorem dX4_phrase_107 : decode cX4_phrase 107 = .ok (.iload_n 1, 1) := by decide +kernel
theorem dX4_phrase_108 : decode cX4_phrase 108 = .ok (.invokevirtual 175, 3) := by decide +kernel
theorem dX4_phrase_111 : decode cX4_phrase 111 = .ok (.ireturn, 1) := by decide +kernel
theorem dX4_phrase_112 : decode cX4_phrase 112 = .ok (.aload_n 0, 1) := by decide +kernel
theorem dX4_phrase_113 : decode cX4_phrase 113 = .ok (.iload_n 1, 1) := by decide +kernel
theorem dX4_phrase_114 : decode cX4_phrase 114 = .ok (.invokevirtual 178, 3) := by decide +kernel
theorem dX4_phrase_117 : decode cX4_phrase 117 = .ok (.ireturn, 1) := by decide +kernel
theorem dX4_phrase_118 : decode cX4_phrase 118 = .ok (.bipush (-2), 2) := by decide +kernel
theorem dX4_phrase_120 : decode cX4_phrase 120 = .ok (.ireturn, 1) := by decide +kernel
theorem dX4_isStressed_0 : decode cX4_isStressed 0 = .ok (.aload_n 0, 1) := by decide +kernel
theorem dX4_isStressed_1 : decode cX4_isStressed 1 = .ok (.iload_n 1, 1) := by decide +kernel
theorem dX4_isStressed_2 : decode cX4_isStressed 2 = .ok (.iload_n 2, 1) := by decide +kernel
theorem dX4_isStressed_3 : decode cX4_isStressed 3 = .ok (.invokevirtual 153, 3) := by decide +kernel
theorem dX4_isStressed_6 : decode cX4_isStressed 6 = .ok (.ifCond .eq 23, 3) := by decide +kernel
theorem dX4_isStressed_9 : decode cX4_isStressed 9 = .ok (.aload_n 0, 1) := by decide +kernel
theorem dX4_isStressed_10 : decode cX4_isStressed 10 = .ok (.getfield 7, 3) := by decide +kernel
theorem dX4_isStressed_13 : decode cX4_isStressed 13 = .ok (.bipush 8, 2) := by decide +kernel
theorem dX4_isStressed_15 : decode cX4_isStressed 15 = .ok (.iconst 2, 1) := by decide +kernel
theorem dX4_isStressed_16 : decode cX4_isStressed 16 = .ok (.iload_n 1, 1) := by decide +kernel
theorem dX4_isStressed_17 : decode cX4_isStressed 17 = .ok (.imul, 1) := by decide +kernel
theorem dX4_isStressed_18 : decode cX4_isStressed 18 = .ok (.iadd, 1) := by decide +kernel
theorem dX4_isStressed_19 : decode cX4_isStressed 19 = .ok (.iconst 1, 1) := by decide +kernel
theorem dX4_isStressed_20 : decode cX4_isStressed 20 = .ok (.iadd, 1) := by decide +kernel
theorem dX4_isStressed_21 : decode cX4_isStressed 21 = .ok (.iaload, 1) := by decide +kernel
theorem dX4_isStressed_22 : decode cX4_isStressed 22 = .ok (.iload_n 2, 1) := by decide +kernel
theorem dX4_isStressed_23 : decode cX4_isStressed 23 = .ok (.ishr, 1) := by decide +kernel
theorem dX4_isStressed_24 : decode cX4_isStressed 24 = .ok (.iconst 1, 1) := by decide +kernel
theorem dX4_isStressed_25 : decode cX4_isStressed 25 = .ok (.iand, 1) := by decide +kernel
theorem dX4_isStressed_26 : decode cX4_isStressed 26 = .ok (.goto 4, 3) := by decide +kernel
theorem dX4_isStressed_29 : decode cX4_isStressed 29 = .ok (.iconst (-1), 1) := by decide +kernel
theorem dX4_isStressed_30 : decode cX4_isStressed 30 = .ok (.ireturn, 1) := by decide +kernel
theorem dX4_kindOf_0 : decode cX4_kindOf 0 = .ok (.aload_n 0, 1) := by decide +kernel
theorem dX4_kindOf_1 : decode cX4_kindOf 1 = .ok (.iload_n 1, 1) := by decide +kernel
theorem dX4_kindOf_2 : decode cX4_kindOf 2 = .ok (.iload_n 2, 1) := by decide +kernel
theorem dX4_kindOf_3 : decode cX4_kindOf 3 = .ok (.invokevirtual 156, 3) := by decide +kernel
theorem dX4_kindOf_6 : decode cX4_kindOf 6 = .ok (.ifCond .eq 12, 3) := by decide +kernel
theorem dX4_kindOf_9 : decode cX4_kindOf 9 = .ok (.aload_n 0, 1) := by decide +kernel
theorem dX4_kindOf_10 : decode cX4_kindOf 10 = .ok (.iload_n 1, 1) := by decide +kernel
theorem dX4_kindOf_11 : decode cX4_kindOf 11 = .ok (.iload_n 2, 1) := by decide +kernel
theorem dX4_kindOf_12 : decode cX4_kindOf 12 = .ok (.invokevirtual 159, 3) := by decide +kernel
theorem dX4_kindOf_15 : decode cX4_kindOf 15 = .ok (.goto 4, 3) := by decide +kernel
theorem dX4_kindOf_18 : decode cX4_kindOf 18 = .ok (.iconst (-1), 1) := by decide +kernel
theorem dX4_kindOf_19 : decode cX4_kindOf 19 = .ok (.ireturn, 1) := by decide +kernel
theorem dX4_burdens_0 : decode cX4_burdens 0 = .ok (.iconst 0, 1) := by decide +kernel
theorem dX4_burdens_1 : decode cX4_burdens 1 = .ok (.istore_n 1, 1) := by decide +kernel
theorem dX4_burdens_2 : decode cX4_burdens 2 = .ok (.iconst 0, 1) := by decide +kernel
theorem dX4_burdens_3 : decode cX4_burdens 3 = .ok (.istore_n 2, 1) := by decide +kernel
theorem dX4_burdens_4 : decode cX4_burdens 4 = .ok (.iload_n 2, 1) := by decide +kernel
theorem dX4_burdens_5 : decode cX4_burdens 5 = .ok (.aload_n 0, 1) := by decide +kernel
theorem dX4_burdens_6 : decode cX4_burdens 6 = .ok (.getfield 7, 3) := by decide +kernel
theorem dX4_burdens_9 : decode cX4_burdens 9 = .ok (.iconst 4, 1) := by decide +kernel
theorem dX4_burdens_10 : decode cX4_burdens 10 = .ok (.iaload, 1) := by decide +kernel
theorem dX4_burdens_11 : decode cX4_burdens 11 = .ok (.if_icmp .ge 26, 3) := by decide +kernel
theorem dX4_burdens_14 : decode cX4_burdens 14 = .ok (.iload_n 1, 1) := by decide +kernel
theorem dX4_burdens_15 : decode cX4_burdens 15 = .ok (.aload_n 0, 1) := by decide +kernel
theorem dX4_burdens_16 : decode cX4_burdens 16 = .ok (.iload_n 2, 1) := by decide +kernel
theorem dX4_burdens_17 : decode cX4_burdens 17 = .ok (.invokevirtual 169, 3) := by decide +kernel
theorem dX4_burdens_20 : decode cX4_burdens 20 = .ok (.iconst 1, 1) := by decide +kernel
theorem dX4_burdens_21 : decode cX4_burdens 21 = .ok (.if_icmp .le 7, 3) := by decide +kernel
theorem dX4_burdens_24 : decode cX4_burdens 24 = .ok (.iconst 1, 1) := by decide +kernel
theorem dX4_burdens_25 : decode cX4_burdens 25 = .ok (.goto 4, 3) := by decide +kernel
theorem dX4_burdens_28 : decode cX4_burdens 28 = .ok (.iconst 0, 1) := by decide +kernel
theorem dX4_burdens_29 : decode cX4_burdens 29 = .ok (.iadd, 1) := by decide +kernel
theorem dX4_burdens_30 : decode cX4_burdens 30 = .ok (.istore_n 1, 1) := by decide +kernel
theorem dX4_burdens_31 : decode cX4_burdens 31 = .ok (.iinc 2 1, 3) := by decide +kernel
theorem dX4_burdens_34 : decode cX4_burdens 34 = .ok (.goto (-30), 3) := by decide +kernel
theorem dX4_burdens_37 : decode cX4_burdens 37 = .ok (.iload_n 1, 1) := by decide +kernel
theorem dX4_burdens_38 : decode cX4_burdens 38 = .ok (.ireturn, 1) := by decide +kernel
theorem dX4_count_0 : decode cX4_count 0 = .ok (.iload_n 1, 1) := by decide +kernel
theorem dX4_count_1 : decode cX4_count 1 = .ok (.tableswitch 92 0 10 #[59, 59, 59, 59, 68, 73, 73, 73, 73, 82, 87], 59) := by decide +kernel
theorem dX4_count_60 : decode cX4_count 60 = .ok (.aload_n 0, 1) := by decide +kernel
theorem dX4_count_61 : decode cX4_count 61 = .ok (.getfield 7, 3) := by decide +kernel
theorem dX4_count_64 : decode cX4_count 64 = .ok (.iconst 4, 1) := by decide +kernel
theorem dX4_count_65 : decode cX4_count 65 = .ok (.iload_n 1, 1) := by decide +kernel
theorem dX4_count_66 : decode cX4_count 66 = .ok (.iadd, 1) := by decide +kernel
theorem dX4_count_67 : decode cX4_count 67 = .ok (.iaload, 1) := by decide +kernel
theorem dX4_count_68 : decode cX4_count 68 = .ok (.ireturn, 1) := by decide +kernel
theorem dX4_count_69 : decode cX4_count 69 = .ok (.aload_n 0, 1) := by decide +kernel
theorem dX4_count_70 : decode cX4_count 70 = .ok (.invokevirtual 181, 3) := by decide +kernel
theorem dX4_count_73 : decode cX4_count 73 = .ok (.ireturn, 1) := by decide +kernel
theorem dX4_count_74 : decode cX4_count 74 = .ok (.aload_n 0, 1) := by decide +kernel
theorem dX4_count_75 : decode cX4_count 75 = .ok (.getfield 7, 3) := by decide +kernel
theorem dX4_count_78 : decode cX4_count 78 = .ok (.iload_n 1, 1) := by decide +kernel
theorem dX4_count_79 : decode cX4_count 79 = .ok (.iconst 5, 1) := by decide +kernel
theorem dX4_count_80 : decode cX4_count 80 = .ok (.isub, 1) := by decide +kernel
theorem dX4_count_81 : decode cX4_count 81 = .ok (.iaload, 1) := by decide +kernel
theorem dX4_count_82 : decode cX4_count 82 = .ok (.ireturn, 1) := by decide +kernel
theorem dX4_count_83 : decode cX4_count 83 = .ok (.aload_n 0, 1) := by decide +kernel
theorem dX4_count_84 : decode cX4_count 84 = .ok (.getfield 134, 3) := by decide +kernel
theorem dX4_count_87 : decode cX4_count 87 = .ok (.ireturn, 1) := by decide +kernel
theorem dX4_count_88 : decode cX4_count 88 = .ok (.aload_n 0, 1) := by decide +kernel
theorem dX4_count_89 : decode cX4_count 89 = .ok (.getfield 40, 3) := by decide +kernel
theorem dX4_count_92 : decode cX4_count 92 = .ok (.ireturn, 1) := by decide +kernel
theorem dX4_count_93 : decode cX4_count 93 = .ok (.bipush (-2), 2) := by decide +kernel
theorem dX4_count_95 : decode cX4_count 95 = .ok (.ireturn, 1) := by decide +kernel
theorem dX4_at_0 : decode cX4_at 0 = .ok (.iload_n 2, 1) := by decide +kernel
theorem dX4_at_1 : decode cX4_at 1 = .ok (.iconst 0, 1) := by decide +kernel
theorem dX4_at_2 : decode cX4_at 2 = .ok (.aload_n 0, 1) := by decide +kernel
theorem dX4_at_3 : decode cX4_at 3 = .ok (.getfield 7, 3) := by decide +kernel
theorem dX4_at_6 : decode cX4_at 6 = .ok (.iload_n 1, 1) := by decide +kernel
theorem dX4_at_7 : decode cX4_at 7 = .ok (.ifCond .eq 8, 3) := by decide +kernel
theorem dX4_at_10 : decode cX4_at 10 = .ok (.bipush 7, 2) := by decide +kernel
theorem dX4_at_12 : decode cX4_at 12 = .ok (.goto 5, 3) := by decide +kernel
theorem dX4_at_15 : decode cX4_at 15 = .ok (.bipush 6, 2) := by decide +kernel
theorem dX4_at_17 : decode cX4_at 17 = .ok (.iaload, 1) := by decide +kernel
theorem dX4_at_18 : decode cX4_at 18 = .ok (.iconst 1, 1) := by decide +kernel
theorem dX4_at_19 : decode cX4_at 19 = .ok (.isub, 1) := by decide +kernel
theorem dX4_at_20 : decode cX4_at 20 = .ok (.invokestatic 48, 3) := by decide +kernel
theorem dX4_at_23 : decode cX4_at 23 = .ok (.ifCond .ne 5, 3) := by decide +kernel
theorem dX4_at_26 : decode cX4_at 26 = .ok (.iconst (-1), 1) := by decide +kernel
theorem dX4_at_27 : decode cX4_at 27 = .ok (.ireturn, 1) := by decide +kernel
theorem dX4_at_28 : decode cX4_at 28 = .ok (.aload_n 0, 1) := by decide +kernel
theorem dX4_at_29 : decode cX4_at 29 = .ok (.getfield 7, 3) := by decide +kernel
theorem dX4_at_32 : decode cX4_at 32 = .ok (.iload_n 1, 1) := by decide +kernel
theorem dX4_at_33 : decode cX4_at 33 = .ok (.ifCond .eq 8, 3) := by decide +kernel
theorem dX4_at_36 : decode cX4_at 36 = .ok (.bipush 104, 2) := by decide +kernel
theorem dX4_at_38 : decode cX4_at 38 = .ok (.goto 5, 3) := by decide +kernel
theorem dX4_at_41 : decode cX4_at 41 = .ok (.bipush 64, 2) := by decide +kernel
theorem dX4_at_43 : decode cX4_at 43 = .ok (.iload_n 2, 1) := by decide +kernel
theorem dX4_at_44 : decode cX4_at 44 = .ok (.iadd, 1) := by decide +kernel
theorem dX4_at_45 : decode cX4_at 45 = .ok (.iaload, 1) := by decide +kernel
theorem dX4_at_46 : decode cX4_at 46 = .ok (.ireturn, 1) := by decide +kernel
theorem dX4_fit_0 : decode cX4_fit 0 = .ok (.aload_n 0, 1) := by decide +kernel
theorem dX4_fit_1 : decode cX4_fit 1 = .ok (.iload_n 1, 1) := by decide +kernel
theorem dX4_fit_2 : decode cX4_fit 2 = .ok (.invokevirtual 52, 3) := by decide +kernel
theorem dX4_fit_5 : decode cX4_fit 5 = .ok (.ifCond .eq 11, 3) := by decide +kernel
theorem dX4_fit_8 : decode cX4_fit 8 = .ok (.aload_n 0, 1) := by decide +kernel
theorem dX4_fit_9 : decode cX4_fit 9 = .ok (.iload_n 2, 1) := by decide +kernel
theorem dX4_fit_10 : decode cX4_fit 10 = .ok (.invokevirtual 60, 3) := by decide +kernel
theorem dX4_fit_13 : decode cX4_fit 13 = .ok (.ifCond .ne 5, 3) := by decide +kernel
theorem dX4_fit_16 : decode cX4_fit 16 = .ok (.iconst (-1), 1) := by decide +kernel
theorem dX4_fit_17 : decode cX4_fit 17 = .ok (.ireturn, 1) := by decide +kernel
theorem dX4_fit_18 : decode cX4_fit 18 = .ok (.iload_n 3, 1) := by decide +kernel
theorem dX4_fit_19 : decode cX4_fit 19 = .ok (.iconst 0, 1) := by decide +kernel
theorem dX4_fit_20 : decode cX4_fit 20 = .ok (.iconst 4, 1) := by decide +kernel
theorem dX4_fit_21 : decode cX4_fit 21 = .ok (.invokestatic 48, 3) := by decide +kernel
theorem dX4_fit_24 : decode cX4_fit 24 = .ok (.ifCond .ne 6, 3) := by decide +kernel
theorem dX4_fit_27 : decode cX4_fit 27 = .ok (.bipush (-2), 2) := by decide +kernel
theorem dX4_fit_29 : decode cX4_fit 29 = .ok (.ireturn, 1) := by decide +kernel
theorem dX4_fit_30 : decode cX4_fit 30 = .ok (.aload_n 0, 1) := by decide +kernel
theorem dX4_fit_31 : decode cX4_fit 31 = .ok (.iload_n 1, 1) := by decide +kernel
theorem dX4_fit_32 : decode cX4_fit 32 = .ok (.iload_n 2, 1) := by decide +kernel
theorem dX4_fit_33 : decode cX4_fit 33 = .ok (.invokevirtual 166, 3) := by decide +kernel
theorem dX4_fit_36 : decode cX4_fit 36 = .ok (.ldc 88, 2) := by decide +kernel
theorem dX4_fit_38 : decode cX4_fit 38 = .ok (.if_icmp .eq 7, 3) := by decide +kernel
theorem dX4_fit_41 : decode cX4_fit 41 = .ok (.iconst 1, 1) := by decide +kernel
theorem dX4_fit_42 : decode cX4_fit 42 = .ok (.goto 4, 3) := by decide +kernel
theorem dX4_fit_45 : decode cX4_fit 45 = .ok (.iconst 0, 1) := by decide +kernel
theorem dX4_fit_46 : decode cX4_fit 46 = .ok (.istore 4, 2) := by decide +kernel
theorem dX4_fit_48 : decode cX4_fit 48 = .ok (.iload_n 3, 1) := by decide +kernel
theorem dX4_fit_49 : decode cX4_fit 49 = .ok (.tableswitch 77 0 3 #[31, 48, 55, 62], 31) := by decide +kernel
theorem dX4_fit_80 : decode cX4_fit 80 = .ok (.iload 4, 2) := by decide +kernel
theorem dX4_fit_82 : decode cX4_fit 82 = .ok (.ifCond .eq 12, 3) := by decide +kernel
theorem dX4_fit_85 : decode cX4_fit 85 = .ok (.aload_n 0, 1) := by decide +kernel
theorem dX4_fit_86 : decode cX4_fit 86 = .ok (.getfield 25, 3) := by decide +kernel
theorem dX4_fit_89 : decode cX4_fit 89 = .ok (.iconst 0, 1) := by decide +kernel
theorem dX4_fit_90 : decode cX4_fit 90 = .ok (.iaload, 1) := by decide +kernel
theorem dX4_fit_91 : decode cX4_fit 91 = .ok (.goto 5, 3) := by decide +kernel
theorem dX4_fit_94 : decode cX4_fit 94 = .ok (.bipush (-6), 2) := by decide +kernel
theorem dX4_fit_96 : decode cX4_fit 96 = .ok (.ireturn, 1) := by decide +kernel
theorem dX4_fit_97 : decode cX4_fit 97 = .ok (.aload_n 0, 1) := by decide +kernel
theorem dX4_fit_98 : decode cX4_fit 98 = .ok (.getfield 28, 3) := by decide +kernel
theorem dX4_fit_101 : decode cX4_fit 101 = .ok (.iconst 0, 1) := by decide +kernel
theorem dX4_fit_102 : decode cX4_fit 102 = .ok (.iaload, 1) := by decide +kernel
theorem dX4_fit_103 : decode cX4_fit 103 = .ok (.ireturn, 1) := by decide +kernel
theorem dX4_fit_104 : decode cX4_fit 104 = .ok (.aload_n 0, 1) := by decide +kernel
theorem dX4_fit_105 : decode cX4_fit 105 = .ok (.getfield 31, 3) := by decide +kernel
theorem dX4_fit_108 : decode cX4_fit 108 = .ok (.iconst 0, 1) := by decide +kernel
theorem dX4_fit_109 : decode cX4_fit 109 = .ok (.iaload, 1) := by decide +kernel
theorem dX4_fit_110 : decode cX4_fit 110 = .ok (.ireturn, 1) := by decide +kernel
theorem dX4_fit_111 : decode cX4_fit 111 = .ok (.iload 4, 2) := by decide +kernel
theorem dX4_fit_113 : decode cX4_fit 113 = .ok (.ifCond .eq 10, 3) := by decide +kernel
theorem dX4_fit_116 : decode cX4_fit 116 = .ok (.aload_n 0, 1) := by decide +kernel
theorem dX4_fit_117 : decode cX4_fit 117 = .ok (.invokevirtual 184, 3) := by decide +kernel
theorem dX4_fit_120 : decode cX4_fit 120 = .ok (.goto 5, 3) := by decide +kernel
theorem dX4_fit_123 : decode cX4_fit 123 = .ok (.bipush (-6), 2) := by decide +kernel
theorem dX4_fit_125 : decode cX4_fit 125 = .ok (.ireturn, 1) := by decide +kernel
theorem dX4_fit_126 : decode cX4_fit 126 = .ok (.iload 4, 2) := by decide +kernel
theorem dX4_fit_128 : decode cX4_fit 128 = .ok (.ifCond .eq 10, 3) := by decide +kernel
theorem dX4_fit_131 : decode cX4_fit 131 = .ok (.aload_n 0, 1) := by decide +kernel
theorem dX4_fit_132 : decode cX4_fit 132 = .ok (.invokevirtual 187, 3) := by decide +kernel
theorem dX4_fit_135 : decode cX4_fit 135 = .ok (.goto 5, 3) := by decide +kernel
theorem dX4_fit_138 : decode cX4_fit 138 = .ok (.bipush (-6), 2) := by decide +kernel
theorem dX4_fit_140 : decode cX4_fit 140 = .ok (.ireturn, 1) := by decide +kernel
theorem dX4_lies_0 : decode cX4_lies 0 = .ok (.aload_n 0, 1) := by decide +kernel
theorem dX4_lies_1 : decode cX4_lies 1 = .ok (.iload_n 1, 1) := by decide +kernel
theorem dX4_lies_2 : decode cX4_lies 2 = .ok (.iload_n 3, 1) := by decide +kernel
theorem dX4_lies_3 : decode cX4_lies 3 = .ok (.invokevirtual 153, 3) := by decide +kernel
theorem dX4_lies_6 : decode cX4_lies 6 = .ok (.ifCond .eq 11, 3) := by decide +kernel
theorem dX4_lies_9 : decode cX4_lies 9 = .ok (.aload_n 0, 1) := by decide +kernel
theorem dX4_lies_10 : decode cX4_lies 10 = .ok (.iload_n 2, 1) := by decide +kernel
theorem dX4_lies_11 : decode cX4_lies 11 = .ok (.invokevirtual 60, 3) := by decide +kernel
theorem dX4_lies_14 : decode cX4_lies 14 = .ok (.ifCond .ne 5, 3) := by decide +kernel
theorem dX4_lies_17 : decode cX4_lies 17 = .ok (.iconst (-1), 1) := by decide +kernel
theorem dX4_lies_18 : decode cX4_lies 18 = .ok (.ireturn, 1) := by decide +kernel
theorem dX4_lies_19 : decode cX4_lies 19 = .ok (.iload 4, 2) := by decide +kernel
theorem dX4_lies_21 : decode cX4_lies 21 = .ok (.iconst 0, 1) := by decide +kernel
theorem dX4_lies_22 : decode cX4_lies 22 = .ok (.iconst 1, 1) := by decide +kernel
theorem dX4_lies_23 : decode cX4_lies 23 = .ok (.invokestatic 48, 3) := by decide +kernel
theorem dX4_lies_26 : decode cX4_lies 26 = .ok (.ifCond .ne 6, 3) := by decide +kernel
theorem dX4_lies_29 : decode cX4_lies 29 = .ok (.bipush (-2), 2) := by decide +kernel
theorem dX4_lies_31 : decode cX4_lies 31 = .ok (.ireturn, 1) := by decide +kernel
theorem dX4_lies_32 : decode cX4_lies 32 = .ok (.aload_n 0, 1) := by decide +kernel
theorem dX4_lies_33 : decode cX4_lies 33 = .ok (.iload_n 1, 1) := by decide +kernel
theorem dX4_lies_34 : decode cX4_lies 34 = .ok (.iload_n 2, 1) := by decide +kernel
theorem dX4_lies_35 : decode cX4_lies 35 = .ok (.invokevirtual 166, 3) := by decide +kernel
theorem dX4_lies_38 : decode cX4_lies 38 = .ok (.ldc 88, 2) := by decide +kernel
theorem dX4_lies_40 : decode cX4_lies 40 = .ok (.if_icmp .ne 6, 3) := by decide +kernel
theorem dX4_lies_43 : decode cX4_lies 43 = .ok (.bipush (-6), 2) := by decide +kernel
theorem dX4_lies_45 : decode cX4_lies 45 = .ok (.ireturn, 1) := by decide +kernel
theorem dX4_lies_46 : decode cX4_lies 46 = .ok (.aload_n 0, 1) := by decide +kernel
theorem dX4_lies_47 : decode cX4_lies 47 = .ok (.invokevirtual 122, 3) := by decide +kernel
theorem dX4_lies_50 : decode cX4_lies 50 = .ok (.iload 4, 2) := by decide +kernel
theorem dX4_lies_52 : decode cX4_lies 52 = .ok (.ifCond .ne 12, 3) := by decide +kernel
theorem dX4_lies_55 : decode cX4_lies 55 = .ok (.aload_n 0, 1) := by decide +kernel
theorem dX4_lies_56 : decode cX4_lies 56 = .ok (.getfield 34, 3) := by decide +kernel
theorem dX4_lies_59 : decode cX4_lies 59 = .ok (.iload_n 3, 1) := by decide +kernel
theorem dX4_lies_60 : decode cX4_lies 60 = .ok (.iaload, 1) := by decide +kernel
theorem dX4_lies_61 : decode cX4_lies 61 = .ok (.goto 9, 3) := by decide +kernel
theorem dX4_lies_64 : decode cX4_lies 64 = .ok (.aload_n 0, 1) := by decide +kernel
theorem dX4_lies_65 : decode cX4_lies 65 = .ok (.getfield 37, 3) := by decide +kernel
theorem dX4_lies_68 : decode cX4_lies 68 = .ok (.iload_n 3, 1) := by decide +kernel
theorem dX4_lies_69 : decode cX4_lies 69 = .ok (.iaload, 1) := by decide +kernel
theorem dX4_lies_70 : decode cX4_lies 70 = .ok (.ireturn, 1) := by decide +kernel
theorem dX4_phraseFor_0 : decode cX4_phraseFor 0 = .ok (.aload_n 0, 1) := by decide +kernel
theorem dX4_phraseFor_1 : decode cX4_phraseFor 1 = .ok (.getfield 7, 3) := by decide +kernel
theorem dX4_phraseFor_4 : decode cX4_phraseFor 4 = .ok (.bipush 104, 2) := by decide +kernel
theorem dX4_phraseFor_6 : decode cX4_phraseFor 6 = .ok (.iload_n 1, 1) := by decide +kernel
theorem dX4_phraseFor_7 : decode cX4_phraseFor 7 = .ok (.aload_n 0, 1) := by decide +kernel
theorem dX4_phraseFor_8 : decode cX4_phraseFor 8 = .ok (.getfield 7, 3) := by decide +kernel
theorem dX4_phraseFor_11 : decode cX4_phraseFor 11 = .ok (.bipush 7, 2) := by decide +kernel
theorem dX4_phraseFor_13 : decode cX4_phraseFor 13 = .ok (.iaload, 1) := by decide +kernel
theorem dX4_phraseFor_14 : decode cX4_phraseFor 14 = .ok (.irem, 1) := by decide +kernel
theorem dX4_phraseFor_15 : decode cX4_phraseFor 15 = .ok (.iadd, 1) := by decide +kernel
theorem dX4_phraseFor_16 : decode cX4_phraseFor 16 = .ok (.iaload, 1) := by decide +kernel
theorem dX4_phraseFor_17 : decode cX4_phraseFor 17 = .ok (.ireturn, 1) := by decide +kernel
theorem dX4_whole_0 : decode cX4_whole 0 = .ok (.iload_n 1, 1) := by decide +kernel
theorem dX4_whole_1 : decode cX4_whole 1 = .ok (.iconst 0, 1) := by decide +kernel
theorem dX4_whole_2 : decode cX4_whole 2 = .ok (.iconst 3, 1) := by decide +kernel
theorem dX4_whole_3 : decode cX4_whole 3 = .ok (.invokestatic 48, 3) := by decide +kernel
theorem dX4_whole_6 : decode cX4_whole 6 = .ok (.ifCond .ne 6, 3) := by decide +kernel
theorem dX4_whole_9 : decode cX4_whole 9 = .ok (.bipush (-2), 2) := by decide +kernel
theorem dX4_whole_11 : decode cX4_whole 11 = .ok (.ireturn, 1) := by decide +kernel
theorem dX4_whole_12 : decode cX4_whole 12 = .ok (.aload_n 0, 1) := by decide +kernel
theorem dX4_whole_13 : decode cX4_whole 13 = .ok (.getfield 7, 3) := by decide +kernel
theorem dX4_whole_16 : decode cX4_whole 16 = .ok (.bipush 7, 2) := by decide +kernel
theorem dX4_whole_18 : decode cX4_whole 18 = .ok (.iaload, 1) := by decide +kernel
theorem dX4_whole_19 : decode cX4_whole 19 = .ok (.ifCond .ne 6, 3) := by decide +kernel
theorem dX4_whole_22 : decode cX4_whole 22 = .ok (.bipush (-5), 2) := by decide +kernel
theorem dX4_whole_24 : decode cX4_whole 24 = .ok (.ireturn, 1) := by decide +kernel
theorem dX4_whole_25 : decode cX4_whole 25 = .ok (.iconst 0, 1) := by decide +kernel
theorem dX4_whole_26 : decode cX4_whole 26 = .ok (.istore_n 2, 1) := by decide +kernel
theorem dX4_whole_27 : decode cX4_whole 27 = .ok (.iconst 0, 1) := by decide +kernel
theorem dX4_whole_28 : decode cX4_whole 28 = .ok (.istore_n 3, 1) := by decide +kernel
theorem dX4_whole_29 : decode cX4_whole 29 = .ok (.bipush (-6), 2) := by decide +kernel
theorem dX4_whole_31 : decode cX4_whole 31 = .ok (.istore 4, 2) := by decide +kernel
theorem dX4_whole_33 : decode cX4_whole 33 = .ok (.iconst (-1), 1) := by decide +kernel
theorem dX4_whole_34 : decode cX4_whole 34 = .ok (.istore 5, 2) := by decide +kernel
theorem dX4_whole_36 : decode cX4_whole 36 = .ok (.iconst 0, 1) := by decide +kernel
theorem dX4_whole_37 : decode cX4_whole 37 = .ok (.istore 6, 2) := by decide +kernel
theorem dX4_whole_39 : decode cX4_whole 39 = .ok (.iconst 0, 1) := by decide +kernel
theorem dX4_whole_40 : decode cX4_whole 40 = .ok (.istore 7, 2) := by decide +kernel
theorem dX4_whole_42 : decode cX4_whole 42 = .ok (.iload 7, 2) := by decide +kernel
theorem dX4_whole_44 : decode cX4_whole 44 = .ok (.aload_n 0, 1) := by decide +kernel
theorem dX4_whole_45 : decode cX4_whole 45 = .ok (.getfield 7, 3) := by decide +kernel
theorem dX4_whole_48 : decode cX4_whole 48 = .ok (.bipush 6, 2) := by decide +kernel
theorem dX4_whole_50 : decode cX4_whole 50 = .ok (.iaload, 1) := by decide +kernel
theorem dX4_whole_51 : decode cX4_whole 51 = .ok (.if_icmp .ge 129, 3) := by decide +kernel
theorem dX4_whole_54 : decode cX4_whole 54 = .ok (.aload_n 0, 1) := by decide +kernel
theorem dX4_whole_55 : decode cX4_whole 55 = .ok (.aload_n 0, 1) := by decide +kernel
theorem dX4_whole_56 : decode cX4_whole 56 = .ok (.getfield 7, 3) := by decide +kernel
theorem dX4_whole_59 : decode cX4_whole 59 = .ok (.bipush 64, 2) := by decide +kernel
theorem dX4_whole_61 : decode cX4_whole 61 = .ok (.iload 7, 2) := by decide +kernel
theorem dX4_whole_63 : decode cX4_whole 63 = .ok (.iadd, 1) := by decide +kernel
theorem dX4_whole_64 : decode cX4_whole 64 = .ok (.iaload, 1) := by decide +kernel
theorem dX4_whole_65 : decode cX4_whole 65 = .ok (.aload_n 0, 1) := by decide +kernel
theorem dX4_whole_66 : decode cX4_whole 66 = .ok (.iload 7, 2) := by decide +kernel
theorem dX4_whole_68 : decode cX4_whole 68 = .ok (.invokevirtual 190, 3) := by decide +kernel
theorem dX4_whole_71 : decode cX4_whole 71 = .ok (.invokevirtual 166, 3) := by decide +kernel
theorem dX4_whole_74 : decode cX4_whole 74 = .ok (.istore 8, 2) := by decide +kernel
theorem dX4_whole_76 : decode cX4_whole 76 = .ok (.iload 8, 2) := by decide +kernel
theorem dX4_whole_78 : decode cX4_whole 78 = .ok (.ldc 88, 2) := by decide +kernel
theorem dX4_whole_80 : decode cX4_whole 80 = .ok (.if_icmp .eq 7, 3) := by decide +kernel
theorem dX4_whole_83 : decode cX4_whole 83 = .ok (.iconst 1, 1) := by decide +kernel
theorem dX4_whole_84 : decode cX4_whole 84 = .ok (.goto 4, 3) := by decide +kernel
theorem dX4_whole_87 : decode cX4_whole 87 = .ok (.iconst 0, 1) := by decide +kernel
theorem dX4_whole_88 : decode cX4_whole 88 = .ok (.istore 9, 2) := by decide +kernel
theorem dX4_whole_90 : decode cX4_whole 90 = .ok (.iload_n 2, 1) := by decide +kernel
theorem dX4_whole_91 : decode cX4_whole 91 = .ok (.iload 9, 2) := by decide +kernel
theorem dX4_whole_93 : decode cX4_whole 93 = .ok (.ifCond .eq 8, 3) := by decide +kernel
theorem dX4_whole_96 : decode cX4_whole 96 = .ok (.iload 8, 2) := by decide +kernel
theorem dX4_whole_98 : decode cX4_whole 98 = .ok (.goto 4, 3) := by decide +kernel
theorem dX4_whole_101 : decode cX4_whole 101 = .ok (.iconst 0, 1) := by decide +kernel
theorem dX4_whole_102 : decode cX4_whole 102 = .ok (.iadd, 1) := by decide +kernel
theorem dX4_whole_103 : decode cX4_whole 103 = .ok (.istore_n 2, 1) := by decide +kernel
theorem dX4_whole_104 : decode cX4_whole 104 = .ok (.iload_n 3, 1) := by decide +kernel
theorem dX4_whole_105 : decode cX4_whole 105 = .ok (.iload 9, 2) := by decide +kernel
theorem dX4_whole_107 : decode cX4_whole 107 = .ok (.ifCond .eq 7, 3) := by decide +kernel
theorem dX4_whole_110 : decode cX4_whole 110 = .ok (.iconst 0, 1) := by decide +kernel
theorem dX4_whole_111 : decode cX4_whole 111 = .ok (.goto 4, 3) := by decide +kernel
theorem dX4_whole_114 : decode cX4_whole 114 = .ok (.iconst 1, 1) := by decide +kernel
theorem dX4_whole_115 : decode cX4_whole 115 = .ok (.iadd, 1) := by decide +kernel
theorem dX4_whole_116 : decode cX4_whole 116 = .ok (.istore_n 3, 1) := by decide +kernel
theorem dX4_whole_117 : decode cX4_whole 117 = .ok (.iload 9, 2) := by decide +kernel
theorem dX4_whole_119 : decode cX4_whole 119 = .ok (.ifCond .eq 15, 3) := by decide +kernel
theorem dX4_whole_122 : decode cX4_whole 122 = .ok (.iload 8, 2) := by decide +kernel
theorem dX4_whole_124 : decode cX4_whole 124 = .ok (.iload 5, 2) := by decide +kernel
theorem dX4_whole_126 : decode cX4_whole 126 = .ok (.if_icmp .le 8, 3) := by decide +kernel
theorem dX4_whole_129 : decode cX4_whole 129 = .ok (.iload 7, 2) := by decide +kernel
theorem dX4_whole_131 : decode cX4_whole 131 = .ok (.goto 5, 3) := by decide +kernel
theorem dX4_whole_134 : decode cX4_whole 134 = .ok (.iload 4, 2) := by decide +kernel
theorem dX4_whole_136 : decode cX4_whole 136 = .ok (.istore 4, 2) := by decide +kernel
theorem dX4_whole_138 : decode cX4_whole 138 = .ok (.iload 9, 2) := by decide +kernel
theorem dX4_whole_140 : decode cX4_whole 140 = .ok (.ifCond .eq 15, 3) := by decide +kernel
theorem dX4_whole_143 : decode cX4_whole 143 = .ok (.iload 8, 2) := by decide +kernel
theorem dX4_whole_145 : decode cX4_whole 145 = .ok (.iload 5, 2) := by decide +kernel
theorem dX4_whole_147 : decode cX4_whole 147 = .ok (.if_icmp .le 8, 3) := by decide +kernel
theorem dX4_whole_150 : decode cX4_whole 150 = .ok (.iload 8, 2) := by decide +kernel
theorem dX4_whole_152 : decode cX4_whole 152 = .ok (.goto 5, 3) := by decide +kernel
theorem dX4_whole_155 : decode cX4_whole 155 = .ok (.iload 5, 2) := by decide +kernel
theorem dX4_whole_157 : decode cX4_whole 157 = .ok (.istore 5, 2) := by decide +kernel
theorem dX4_whole_159 : decode cX4_whole 159 = .ok (.iload 6, 2) := by decide +kernel
theorem dX4_whole_161 : decode cX4_whole 161 = .ok (.aload_n 0, 1) := by decide +kernel
theorem dX4_whole_162 : decode cX4_whole 162 = .ok (.aload_n 0, 1) := by decide +kernel
theorem dX4_whole_163 : decode cX4_whole 163 = .ok (.iload 7, 2) := by decide +kernel
theorem dX4_whole_165 : decode cX4_whole 165 = .ok (.invokevirtual 190, 3) := by decide +kernel
theorem dX4_whole_168 : decode cX4_whole 168 = .ok (.invokevirtual 63, 3) := by decide +kernel
theorem dX4_whole_171 : decode cX4_whole 171 = .ok (.iadd, 1) := by decide +kernel
theorem dX4_whole_172 : decode cX4_whole 172 = .ok (.istore 6, 2) := by decide +kernel
theorem dX4_whole_174 : decode cX4_whole 174 = .ok (.iinc 7 1, 3) := by decide +kernel
theorem dX4_whole_177 : decode cX4_whole 177 = .ok (.goto (-135), 3) := by decide +kernel
theorem dX4_whole_180 : decode cX4_whole 180 = .ok (.iload_n 1, 1) := by decide +kernel
theorem dX4_whole_181 : decode cX4_whole 181 = .ok (.ifCond .ne 7, 3) := by decide +kernel
theorem dX4_whole_184 : decode cX4_whole 184 = .ok (.iload_n 2, 1) := by decide +kernel
theorem dX4_whole_185 : decode cX4_whole 185 = .ok (.goto 24, 3) := by decide +kernel
theorem dX4_whole_188 : decode cX4_whole 188 = .ok (.iload_n 1, 1) := by decide +kernel
theorem dX4_whole_189 : decode cX4_whole 189 = .ok (.iconst 1, 1) := by decide +kernel
theorem dX4_whole_190 : decode cX4_whole 190 = .ok (.if_icmp .ne 7, 3) := by decide +kernel
theorem dX4_whole_193 : decode cX4_whole 193 = .ok (.iload_n 3, 1) := by decide +kernel
theorem dX4_whole_194 : decode cX4_whole 194 = .ok (.goto 15, 3) := by decide +kernel
theorem dX4_whole_197 : decode cX4_whole 197 = .ok (.iload_n 1, 1) := by decide +kernel
theorem dX4_whole_198 : decode cX4_whole 198 = .ok (.iconst 2, 1) := by decide +kernel
theorem dX4_whole_199 : decode cX4_whole 199 = .ok (.if_icmp .ne 8, 3) := by decide +kernel
theorem dX4_whole_202 : decode cX4_whole 202 = .ok (.iload 4, 2) := by decide +kernel
theorem dX4_whole_204 : decode cX4_whole 204 = .ok (.goto 5, 3) := by decide +kernel
theorem dX4_whole_207 : decode cX4_whole 207 = .ok (.iload 6, 2) := by decide +kernel
theorem dX4_whole_209 : decode cX4_whole 209 = .ok (.ireturn, 1) := by decide +kernel
theorem dX4_bestPhrase_0 : decode cX4_bestPhrase 0 = .ok (.bipush (-6), 2) := by decide +kernel
theorem dX4_bestPhrase_2 : decode cX4_bestPhrase 2 = .ok (.istore_n 1, 1) := by decide +kernel
theorem dX4_bestPhrase_3 : decode cX4_bestPhrase 3 = .ok (.iconst 0, 1) := by decide +kernel
theorem dX4_bestPhrase_4 : decode cX4_bestPhrase 4 = .ok (.istore_n 2, 1) := by decide +kernel
theorem dX4_bestPhrase_5 : decode cX4_bestPhrase 5 = .ok (.iconst 0, 1) := by decide +kernel
theorem dX4_bestPhrase_6 : decode cX4_bestPhrase 6 = .ok (.istore_n 3, 1) := by decide +kernel
theorem dX4_bestPhrase_7 : decode cX4_bestPhrase 7 = .ok (.iconst 0, 1) := by decide +kernel
theorem dX4_bestPhrase_8 : decode cX4_bestPhrase 8 = .ok (.istore 4, 2) := by decide +kernel
theorem dX4_bestPhrase_10 : decode cX4_bestPhrase 10 = .ok (.iload 4, 2) := by decide +kernel
theorem dX4_bestPhrase_12 : decode cX4_bestPhrase 12 = .ok (.aload_n 0, 1) := by decide +kernel
theorem dX4_bestPhrase_13 : decode cX4_bestPhrase 13 = .ok (.getfield 7, 3) := by decide +kernel
theorem dX4_bestPhrase_16 : decode cX4_bestPhrase 16 = .ok (.iconst 5, 1) := by decide +kernel
theorem dX4_bestPhrase_17 : decode cX4_bestPhrase 17 = .ok (.iaload, 1) := by decide +kernel
theorem dX4_bestPhrase_18 : decode cX4_bestPhrase 18 = .ok (.if_icmp .ge 156, 3) := by decide +kernel
theorem dX4_bestPhrase_21 : decode cX4_bestPhrase 21 = .ok (.iconst 0, 1) := by decide +kernel
theorem dX4_bestPhrase_22 : decode cX4_bestPhrase 22 = .ok (.istore 5, 2) := by decide +kernel
theorem dX4_bestPhrase_24 : decode cX4_bestPhrase 24 = .ok (.iconst 0, 1) := by decide +kernel
theorem dX4_bestPhrase_25 : decode cX4_bestPhrase 25 = .ok (.istore 6, 2) := by decide +kernel
theorem dX4_bestPhrase_27 : decode cX4_bestPhrase 27 = .ok (.iconst 0, 1) := by decide +kernel
theorem dX4_bestPhrase_28 : decode cX4_bestPhrase 28 = .ok (.istore 7, 2) := by decide +kernel
theorem dX4_bestPhrase_30 : decode cX4_bestPhrase 30 = .ok (.iload 7, 2) := by decide +kernel
theorem dX4_bestPhrase_32 : decode cX4_bestPhrase 32 = .ok (.aload_n 0, 1) := by decide +kernel
theorem dX4_bestPhrase_33 : decode cX4_bestPhrase 33 = .ok (.getfield 7, 3) := by decide +kernel
theorem dX4_bestPhrase_36 : decode cX4_bestPhrase 36 = .ok (.bipush 6, 2) := by decide +kernel
theorem dX4_bestPhrase_38 : decode cX4_bestPhrase 38 = .ok (.iaload, 1) := by decide +kernel
theorem dX4_bestPhrase_39 : decode cX4_bestPhrase 39 = .ok (.if_icmp .ge 62, 3) := by decide +kernel
theorem dX4_bestPhrase_42 : decode cX4_bestPhrase 42 = .ok (.aload_n 0, 1) := by decide +kernel
theorem dX4_bestPhrase_43 : decode cX4_bestPhrase 43 = .ok (.aload_n 0, 1) := by decide +kernel
theorem dX4_bestPhrase_44 : decode cX4_bestPhrase 44 = .ok (.getfield 7, 3) := by decide +kernel
theorem dX4_bestPhrase_47 : decode cX4_bestPhrase 47 = .ok (.bipush 64, 2) := by decide +kernel
theorem dX4_bestPhrase_49 : decode cX4_bestPhrase 49 = .ok (.iload 7, 2) := by decide +kernel
theorem dX4_bestPhrase_51 : decode cX4_bestPhrase 51 = .ok (.iadd, 1) := by decide +kernel
theorem dX4_bestPhrase_52 : decode cX4_bestPhrase 52 = .ok (.iaload, 1) := by decide +kernel
theorem dX4_bestPhrase_53 : decode cX4_bestPhrase 53 = .ok (.iload 4, 2) := by decide +kernel
theorem dX4_bestPhrase_55 : decode cX4_bestPhrase 55 = .ok (.invokevirtual 166, 3) := by decide +kernel
theorem dX4_bestPhrase_58 : decode cX4_bestPhrase 58 = .ok (.istore 8, 2) := by decide +kernel
theorem dX4_bestPhrase_60 : decode cX4_bestPhrase 60 = .ok (.iload 5, 2) := by decide +kernel
theorem dX4_bestPhrase_62 : decode cX4_bestPhrase 62 = .ok (.iload 8, 2) := by decide +kernel
theorem dX4_bestPhrase_64 : decode cX4_bestPhrase 64 = .ok (.ldc 88, 2) := by decide +kernel
theorem dX4_bestPhrase_66 : decode cX4_bestPhrase 66 = .ok (.if_icmp .ne 7, 3) := by decide +kernel
theorem dX4_bestPhrase_69 : decode cX4_bestPhrase 69 = .ok (.iconst 1, 1) := by decide +kernel
theorem dX4_bestPhrase_70 : decode cX4_bestPhrase 70 = .ok (.goto 4, 3) := by decide +kernel
theorem dX4_bestPhrase_73 : decode cX4_bestPhrase 73 = .ok (.iconst 0, 1) := by decide +kernel
theorem dX4_bestPhrase_74 : decode cX4_bestPhrase 74 = .ok (.iadd, 1) := by decide +kernel
theorem dX4_bestPhrase_75 : decode cX4_bestPhrase 75 = .ok (.istore 5, 2) := by decide +kernel
theorem dX4_bestPhrase_77 : decode cX4_bestPhrase 77 = .ok (.iload 6, 2) := by decide +kernel
theorem dX4_bestPhrase_79 : decode cX4_bestPhrase 79 = .ok (.iload 8, 2) := by decide +kernel
theorem dX4_bestPhrase_81 : decode cX4_bestPhrase 81 = .ok (.ldc 88, 2) := by decide +kernel
theorem dX4_bestPhrase_83 : decode cX4_bestPhrase 83 = .ok (.if_icmp .ne 7, 3) := by decide +kernel
theorem dX4_bestPhrase_86 : decode cX4_bestPhrase 86 = .ok (.iconst 0, 1) := by decide +kernel
theorem dX4_bestPhrase_87 : decode cX4_bestPhrase 87 = .ok (.goto 5, 3) := by decide +kernel
theorem dX4_bestPhrase_90 : decode cX4_bestPhrase 90 = .ok (.iload 8, 2) := by decide +kernel
theorem dX4_bestPhrase_92 : decode cX4_bestPhrase 92 = .ok (.iadd, 1) := by decide +kernel
theorem dX4_bestPhrase_93 : decode cX4_bestPhrase 93 = .ok (.istore 6, 2) := by decide +kernel
theorem dX4_bestPhrase_95 : decode cX4_bestPhrase 95 = .ok (.iinc 7 1, 3) := by decide +kernel
theorem dX4_bestPhrase_98 : decode cX4_bestPhrase 98 = .ok (.goto (-68), 3) := by decide +kernel
theorem dX4_bestPhrase_101 : decode cX4_bestPhrase 101 = .ok (.iload_n 1, 1) := by decide +kernel
theorem dX4_bestPhrase_102 : decode cX4_bestPhrase 102 = .ok (.bipush (-6), 2) := by decide +kernel
theorem dX4_bestPhrase_104 : decode cX4_bestPhrase 104 = .ok (.if_icmp .eq 21, 3) := by decide +kernel
theorem dX4_bestPhrase_107 : decode cX4_bestPhrase 107 = .ok (.iload 5, 2) := by decide +kernel
theorem dX4_bestPhrase_109 : decode cX4_bestPhrase 109 = .ok (.iload_n 2, 1) := by decide +kernel
theorem dX4_bestPhrase_110 : decode cX4_bestPhrase 110 = .ok (.if_icmp .lt 15, 3) := by decide +kernel
theorem dX4_bestPhrase_113 : decode cX4_bestPhrase 113 = .ok (.iload 5, 2) := by decide +kernel
theorem dX4_bestPhrase_115 : decode cX4_bestPhrase 115 = .ok (.iload_n 2, 1) := by decide +kernel
theorem dX4_bestPhrase_116 : decode cX4_bestPhrase 116 = .ok (.if_icmp .ne 13, 3) := by decide +kernel
theorem dX4_bestPhrase_119 : decode cX4_bestPhrase 119 = .ok (.iload 6, 2) := by decide +kernel
theorem dX4_bestPhrase_121 : decode cX4_bestPhrase 121 = .ok (.iload_n 3, 1) := by decide +kernel
theorem dX4_bestPhrase_122 : decode cX4_bestPhrase 122 = .ok (.if_icmp .ge 7, 3) := by decide +kernel
theorem dX4_bestPhrase_125 : decode cX4_bestPhrase 125 = .ok (.iconst 1, 1) := by decide +kernel
theorem dX4_bestPhrase_126 : decode cX4_bestPhrase 126 = .ok (.goto 4, 3) := by decide +kernel
theorem dX4_bestPhrase_129 : decode cX4_bestPhrase 129 = .ok (.iconst 0, 1) := by decide +kernel
theorem dX4_bestPhrase_130 : decode cX4_bestPhrase 130 = .ok (.istore 7, 2) := by decide +kernel
theorem dX4_bestPhrase_132 : decode cX4_bestPhrase 132 = .ok (.iload 7, 2) := by decide +kernel
theorem dX4_bestPhrase_134 : decode cX4_bestPhrase 134 = .ok (.ifCond .eq 8, 3) := by decide +kernel
theorem dX4_bestPhrase_137 : decode cX4_bestPhrase 137 = .ok (.iload 4, 2) := by decide +kernel
theorem dX4_bestPhrase_139 : decode cX4_bestPhrase 139 = .ok (.goto 4, 3) := by decide +kernel
theorem dX4_bestPhrase_142 : decode cX4_bestPhrase 142 = .ok (.iload_n 1, 1) := by decide +kernel
theorem dX4_bestPhrase_143 : decode cX4_bestPhrase 143 = .ok (.istore_n 1, 1) := by decide +kernel
theorem dX4_bestPhrase_144 : decode cX4_bestPhrase 144 = .ok (.iload 7, 2) := by decide +kernel
theorem dX4_bestPhrase_146 : decode cX4_bestPhrase 146 = .ok (.ifCond .eq 8, 3) := by decide +kernel
theorem dX4_bestPhrase_149 : decode cX4_bestPhrase 149 = .ok (.iload 5, 2) := by decide +kernel
theorem dX4_bestPhrase_151 : decode cX4_bestPhrase 151 = .ok (.goto 4, 3) := by decide +kernel
theorem dX4_bestPhrase_154 : decode cX4_bestPhrase 154 = .ok (.iload_n 2, 1) := by decide +kernel
theorem dX4_bestPhrase_155 : decode cX4_bestPhrase 155 = .ok (.istore_n 2, 1) := by decide +kernel
theorem dX4_bestPhrase_156 : decode cX4_bestPhrase 156 = .ok (.iload 7, 2) := by decide +kernel
theorem dX4_bestPhrase_158 : decode cX4_bestPhrase 158 = .ok (.ifCond .eq 8, 3) := by decide +kernel
theorem dX4_bestPhrase_161 : decode cX4_bestPhrase 161 = .ok (.iload 6, 2) := by decide +kernel
theorem dX4_bestPhrase_163 : decode cX4_bestPhrase 163 = .ok (.goto 4, 3) := by decide +kernel
theorem dX4_bestPhrase_166 : decode cX4_bestPhrase 166 = .ok (.iload_n 3, 1) := by decide +kernel
theorem dX4_bestPhrase_167 : decode cX4_bestPhrase 167 = .ok (.istore_n 3, 1) := by decide +kernel
theorem dX4_bestPhrase_168 : decode cX4_bestPhrase 168 = .ok (.iinc 4 1, 3) := by decide +kernel
theorem dX4_bestPhrase_171 : decode cX4_bestPhrase 171 = .ok (.goto (-161), 3) := by decide +kernel
theorem dX4_bestPhrase_174 : decode cX4_bestPhrase 174 = .ok (.iload_n 1, 1) := by decide +kernel
theorem dX4_bestPhrase_175 : decode cX4_bestPhrase 175 = .ok (.ireturn, 1) := by decide +kernel
theorem dX4_bestChange_0 : decode cX4_bestChange 0 = .ok (.aload_n 0, 1) := by decide +kernel
theorem dX4_bestChange_1 : decode cX4_bestChange 1 = .ok (.iload_n 1, 1) := by decide +kernel
theorem dX4_bestChange_2 : decode cX4_bestChange 2 = .ok (.invokevirtual 52, 3) := by decide +kernel
theorem dX4_bestChange_5 : decode cX4_bestChange 5 = .ok (.ifCond .eq 11, 3) := by decide +kernel
theorem dX4_bestChange_8 : decode cX4_bestChange 8 = .ok (.aload_n 0, 1) := by decide +kernel
theorem dX4_bestChange_9 : decode cX4_bestChange 9 = .ok (.iload_n 2, 1) := by decide +kernel
theorem dX4_bestChange_10 : decode cX4_bestChange 10 = .ok (.invokevirtual 60, 3) := by decide +kernel
theorem dX4_bestChange_13 : decode cX4_bestChange 13 = .ok (.ifCond .ne 5, 3) := by decide +kernel
theorem dX4_bestChange_16 : decode cX4_bestChange 16 = .ok (.iconst (-1), 1) := by decide +kernel
theorem dX4_bestChange_17 : decode cX4_bestChange 17 = .ok (.ireturn, 1) := by decide +kernel
theorem dX4_bestChange_18 : decode cX4_bestChange 18 = .ok (.iload_n 3, 1) := by decide +kernel
theorem dX4_bestChange_19 : decode cX4_bestChange 19 = .ok (.iconst 0, 1) := by decide +kernel
theorem dX4_bestChange_20 : decode cX4_bestChange 20 = .ok (.iconst 1, 1) := by decide +kernel
theorem dX4_bestChange_21 : decode cX4_bestChange 21 = .ok (.invokestatic 48, 3) := by decide +kernel
theorem dX4_bestChange_24 : decode cX4_bestChange 24 = .ok (.ifCond .ne 6, 3) := by decide +kernel
theorem dX4_bestChange_27 : decode cX4_bestChange 27 = .ok (.bipush (-2), 2) := by decide +kernel
theorem dX4_bestChange_29 : decode cX4_bestChange 29 = .ok (.ireturn, 1) := by decide +kernel
theorem dX4_bestChange_30 : decode cX4_bestChange 30 = .ok (.aload_n 0, 1) := by decide +kernel
theorem dX4_bestChange_31 : decode cX4_bestChange 31 = .ok (.iload_n 1, 1) := by decide +kernel
theorem dX4_bestChange_32 : decode cX4_bestChange 32 = .ok (.iload_n 2, 1) := by decide +kernel
theorem dX4_bestChange_33 : decode cX4_bestChange 33 = .ok (.invokevirtual 115, 3) := by decide +kernel
theorem dX4_bestChange_36 : decode cX4_bestChange 36 = .ok (.bipush (-6), 2) := by decide +kernel
theorem dX4_bestChange_38 : decode cX4_bestChange 38 = .ok (.istore 4, 2) := by decide +kernel
theorem dX4_bestChange_40 : decode cX4_bestChange 40 = .ok (.ldc 88, 2) := by decide +kernel
theorem dX4_bestChange_42 : decode cX4_bestChange 42 = .ok (.istore 5, 2) := by decide +kernel
theorem dX4_bestChange_44 : decode cX4_bestChange 44 = .ok (.iconst 0, 1) := by decide +kernel
theorem dX4_bestChange_45 : decode cX4_bestChange 45 = .ok (.istore 6, 2) := by decide +kernel
theorem dX4_bestChange_47 : decode cX4_bestChange 47 = .ok (.iload 6, 2) := by decide +kernel
theorem dX4_bestChange_49 : decode cX4_bestChange 49 = .ok (.aload_n 0, 1) := by decide +kernel
theorem dX4_bestChange_50 : decode cX4_bestChange 50 = .ok (.getfield 66, 3) := by decide +kernel
theorem dX4_bestChange_53 : decode cX4_bestChange 53 = .ok (.if_icmp .ge 73, 3) := by decide +kernel
theorem dX4_bestChange_56 : decode cX4_bestChange 56 = .ok (.aload_n 0, 1) := by decide +kernel
theorem dX4_bestChange_57 : decode cX4_bestChange 57 = .ok (.dup, 1) := by decide +kernel
theorem dX4_bestChange_58 : decode cX4_bestChange 58 = .ok (.getfield 69, 3) := by decide +kernel
theorem dX4_bestChange_61 : decode cX4_bestChange 61 = .ok (.iconst 1, 1) := by decide +kernel
theorem dX4_bestChange_62 : decode cX4_bestChange 62 = .ok (.iload 6, 2) := by decide +kernel
theorem dX4_bestChange_64 : decode cX4_bestChange 64 = .ok (.ishl, 1) := by decide +kernel
theorem dX4_bestChange_65 : decode cX4_bestChange 65 = .ok (.ixor, 1) := by decide +kernel
theorem dX4_bestChange_66 : decode cX4_bestChange 66 = .ok (.putfield 69, 3) := by decide +kernel
theorem dX4_bestChange_69 : decode cX4_bestChange 69 = .ok (.aload_n 0, 1) := by decide +kernel
theorem dX4_bestChange_70 : decode cX4_bestChange 70 = .ok (.invokevirtual 118, 3) := by decide +kernel
theorem dX4_bestChange_73 : decode cX4_bestChange 73 = .ok (.istore 7, 2) := by decide +kernel
theorem dX4_bestChange_75 : decode cX4_bestChange 75 = .ok (.aload_n 0, 1) := by decide +kernel
theorem dX4_bestChange_76 : decode cX4_bestChange 76 = .ok (.dup, 1) := by decide +kernel
theorem dX4_bestChange_77 : decode cX4_bestChange 77 = .ok (.getfield 69, 3) := by decide +kernel
theorem dX4_bestChange_80 : decode cX4_bestChange 80 = .ok (.iconst 1, 1) := by decide +kernel
theorem dX4_bestChange_81 : decode cX4_bestChange 81 = .ok (.iload 6, 2) := by decide +kernel
theorem dX4_bestChange_83 : decode cX4_bestChange 83 = .ok (.ishl, 1) := by decide +kernel
theorem dX4_bestChange_84 : decode cX4_bestChange 84 = .ok (.ixor, 1) := by decide +kernel
theorem dX4_bestChange_85 : decode cX4_bestChange 85 = .ok (.putfield 69, 3) := by decide +kernel
theorem dX4_bestChange_88 : decode cX4_bestChange 88 = .ok (.iload 7, 2) := by decide +kernel
theorem dX4_bestChange_90 : decode cX4_bestChange 90 = .ok (.iload 5, 2) := by decide +kernel
theorem dX4_bestChange_92 : decode cX4_bestChange 92 = .ok (.if_icmp .ge 8, 3) := by decide +kernel
theorem dX4_bestChange_95 : decode cX4_bestChange 95 = .ok (.iload 6, 2) := by decide +kernel
theorem dX4_bestChange_97 : decode cX4_bestChange 97 = .ok (.goto 5, 3) := by decide +kernel
theorem dX4_bestChange_100 : decode cX4_bestChange 100 = .ok (.iload 4, 2) := by decide +kernel
theorem dX4_bestChange_102 : decode cX4_bestChange 102 = .ok (.istore 4, 2) := by decide +kernel
theorem dX4_bestChange_104 : decode cX4_bestChange 104 = .ok (.iload 7, 2) := by decide +kernel
theorem dX4_bestChange_106 : decode cX4_bestChange 106 = .ok (.iload 5, 2) := by decide +kernel
theorem dX4_bestChange_108 : decode cX4_bestChange 108 = .ok (.if_icmp .ge 8, 3) := by decide +kernel
theorem dX4_bestChange_111 : decode cX4_bestChange 111 = .ok (.iload 7, 2) := by decide +kernel
theorem dX4_bestChange_113 : decode cX4_bestChange 113 = .ok (.goto 5, 3) := by decide +kernel
theorem dX4_bestChange_116 : decode cX4_bestChange 116 = .ok (.iload 5, 2) := by decide +kernel
theorem dX4_bestChange_118 : decode cX4_bestChange 118 = .ok (.istore 5, 2) := by decide +kernel
theorem dX4_bestChange_120 : decode cX4_bestChange 120 = .ok (.iinc 6 1, 3) := by decide +kernel
theorem dX4_bestChange_123 : decode cX4_bestChange 123 = .ok (.goto (-76), 3) := by decide +kernel
theorem dX4_bestChange_126 : decode cX4_bestChange 126 = .ok (.iload 4, 2) := by decide +kernel
theorem dX4_bestChange_128 : decode cX4_bestChange 128 = .ok (.bipush (-6), 2) := by decide +kernel
theorem dX4_bestChange_130 : decode cX4_bestChange 130 = .ok (.if_icmp .eq 7, 3) := by decide +kernel
theorem dX4_bestChange_133 : decode cX4_bestChange 133 = .ok (.iload_n 3, 1) := by decide +kernel
theorem dX4_bestChange_134 : decode cX4_bestChange 134 = .ok (.ifCond .ne 8, 3) := by decide +kernel
theorem dX4_bestChange_137 : decode cX4_bestChange 137 = .ok (.iload 4, 2) := by decide +kernel
theorem dX4_bestChange_139 : decode cX4_bestChange 139 = .ok (.goto 5, 3) := by decide +kernel
theorem dX4_bestChange_142 : decode cX4_bestChange 142 = .ok (.iload 5, 2) := by decide +kernel
theorem dX4_bestChange_144 : decode cX4_bestChange 144 = .ok (.ireturn, 1) := by decide +kernel
theorem dX4_enoughBreath_0 : decode cX4_enoughBreath 0 = .ok (.aload_n 0, 1) := by decide +kernel
theorem dX4_enoughBreath_1 : decode cX4_enoughBreath 1 = .ok (.iload_n 1, 1) := by decide +kernel
theorem dX4_enoughBreath_2 : decode cX4_enoughBreath 2 = .ok (.invokevirtual 52, 3) := by decide +kernel
theorem dX4_enoughBreath_5 : decode cX4_enoughBreath 5 = .ok (.ifCond .eq 11, 3) := by decide +kernel
theorem dX4_enoughBreath_8 : decode cX4_enoughBreath 8 = .ok (.aload_n 0, 1) := by decide +kernel
theorem dX4_enoughBreath_9 : decode cX4_enoughBreath 9 = .ok (.iload_n 2, 1) := by decide +kernel
theorem dX4_enoughBreath_10 : decode cX4_enoughBreath 10 = .ok (.invokevirtual 60, 3) := by decide +kernel
theorem dX4_enoughBreath_13 : decode cX4_enoughBreath 13 = .ok (.ifCond .ne 5, 3) := by decide +kernel
theorem dX4_enoughBreath_16 : decode cX4_enoughBreath 16 = .ok (.iconst (-1), 1) := by decide +kernel
theorem dX4_enoughBreath_17 : decode cX4_enoughBreath 17 = .ok (.ireturn, 1) := by decide +kernel
theorem dX4_enoughBreath_18 : decode cX4_enoughBreath 18 = .ok (.aload_n 0, 1) := by decide +kernel
theorem dX4_enoughBreath_19 : decode cX4_enoughBreath 19 = .ok (.iload_n 1, 1) := by decide +kernel
theorem dX4_enoughBreath_20 : decode cX4_enoughBreath 20 = .ok (.iload_n 2, 1) := by decide +kernel
theorem dX4_enoughBreath_21 : decode cX4_enoughBreath 21 = .ok (.invokevirtual 115, 3) := by decide +kernel
theorem dX4_enoughBreath_24 : decode cX4_enoughBreath 24 = .ok (.bipush (-6), 2) := by decide +kernel
theorem dX4_enoughBreath_26 : decode cX4_enoughBreath 26 = .ok (.istore_n 3, 1) := by decide +kernel
theorem dX4_enoughBreath_27 : decode cX4_enoughBreath 27 = .ok (.ldc 88, 2) := by decide +kernel
theorem dX4_enoughBreath_29 : decode cX4_enoughBreath 29 = .ok (.istore 4, 2) := by decide +kernel
theorem dX4_enoughBreath_31 : decode cX4_enoughBreath 31 = .ok (.iconst 1, 1) := by decide +kernel
theorem dX4_enoughBreath_32 : decode cX4_enoughBreath 32 = .ok (.istore 5, 2) := by decide +kernel
theorem dX4_enoughBreath_34 : decode cX4_enoughBreath 34 = .ok (.iload 5, 2) := by decide +kernel
theorem dX4_enoughBreath_36 : decode cX4_enoughBreath 36 = .ok (.bipush 8, 2) := by decide +kernel
theorem dX4_enoughBreath_38 : decode cX4_enoughBreath 38 = .ok (.if_icmp .gt 51, 3) := by decide +kernel
theorem dX4_enoughBreath_41 : decode cX4_enoughBreath 41 = .ok (.aload_n 0, 1) := by decide +kernel
theorem dX4_enoughBreath_42 : decode cX4_enoughBreath 42 = .ok (.iload 5, 2) := by decide +kernel
theorem dX4_enoughBreath_44 : decode cX4_enoughBreath 44 = .ok (.putfield 81, 3) := by decide +kernel
theorem dX4_enoughBreath_47 : decode cX4_enoughBreath 47 = .ok (.aload_n 0, 1) := by decide +kernel
theorem dX4_enoughBreath_48 : decode cX4_enoughBreath 48 = .ok (.invokevirtual 118, 3) := by decide +kernel
theorem dX4_enoughBreath_51 : decode cX4_enoughBreath 51 = .ok (.istore 6, 2) := by decide +kernel
theorem dX4_enoughBreath_53 : decode cX4_enoughBreath 53 = .ok (.iload 6, 2) := by decide +kernel
theorem dX4_enoughBreath_55 : decode cX4_enoughBreath 55 = .ok (.iload 4, 2) := by decide +kernel
theorem dX4_enoughBreath_57 : decode cX4_enoughBreath 57 = .ok (.if_icmp .ge 8, 3) := by decide +kernel
theorem dX4_enoughBreath_60 : decode cX4_enoughBreath 60 = .ok (.iload 5, 2) := by decide +kernel
theorem dX4_enoughBreath_62 : decode cX4_enoughBreath 62 = .ok (.goto 4, 3) := by decide +kernel
theorem dX4_enoughBreath_65 : decode cX4_enoughBreath 65 = .ok (.iload_n 3, 1) := by decide +kernel
theorem dX4_enoughBreath_66 : decode cX4_enoughBreath 66 = .ok (.istore_n 3, 1) := by decide +kernel
theorem dX4_enoughBreath_67 : decode cX4_enoughBreath 67 = .ok (.iload 6, 2) := by decide +kernel
theorem dX4_enoughBreath_69 : decode cX4_enoughBreath 69 = .ok (.iload 4, 2) := by decide +kernel
theorem dX4_enoughBreath_71 : decode cX4_enoughBreath 71 = .ok (.if_icmp .ge 8, 3) := by decide +kernel
theorem dX4_enoughBreath_74 : decode cX4_enoughBreath 74 = .ok (.iload 6, 2) := by decide +kernel
theorem dX4_enoughBreath_76 : decode cX4_enoughBreath 76 = .ok (.goto 5, 3) := by decide +kernel
theorem dX4_enoughBreath_79 : decode cX4_enoughBreath 79 = .ok (.iload 4, 2) := by decide +kernel
theorem dX4_enoughBreath_81 : decode cX4_enoughBreath 81 = .ok (.istore 4, 2) := by decide +kernel
theorem dX4_enoughBreath_83 : decode cX4_enoughBreath 83 = .ok (.iinc 5 1, 3) := by decide +kernel
theorem dX4_enoughBreath_86 : decode cX4_enoughBreath 86 = .ok (.goto (-52), 3) := by decide +kernel
theorem dX4_enoughBreath_89 : decode cX4_enoughBreath 89 = .ok (.iload_n 3, 1) := by decide +kernel
theorem dX4_enoughBreath_90 : decode cX4_enoughBreath 90 = .ok (.ireturn, 1) := by decide +kernel
theorem dX4_put_0 : decode cX4_put 0 = .ok (.iconst 0, 1) := by decide +kernel
theorem dX4_put_1 : decode cX4_put 1 = .ok (.istore_n 3, 1) := by decide +kernel
theorem dX4_put_2 : decode cX4_put 2 = .ok (.lload_n 1, 1) := by decide +kernel
theorem dX4_put_3 : decode cX4_put 3 = .ok (.lstore 4, 2) := by decide +kernel
theorem dX4_put_5 : decode cX4_put 5 = .ok (.iconst 1, 1) := by decide +kernel
theorem dX4_put_6 : decode cX4_put 6 = .ok (.istore 6, 2) := by decide +kernel
theorem dX4_put_8 : decode cX4_put 8 = .ok (.iload_n 3, 1) := by decide +kernel
theorem dX4_put_9 : decode cX4_put 9 = .ok (.bipush 8, 2) := by decide +kernel
theorem dX4_put_11 : decode cX4_put 11 = .ok (.if_icmp .ge 56, 3) := by decide +kernel
theorem dX4_put_14 : decode cX4_put 14 = .ok (.lload 4, 2) := by decide +kernel
theorem dX4_put_16 : decode cX4_put 16 = .ok (.ldc2_w 193, 3) := by decide +kernel
theorem dX4_put_19 : decode cX4_put 19 = .ok (.land, 1) := by decide +kernel
theorem dX4_put_20 : decode cX4_put 20 = .ok (.lconst 0, 1) := by decide +kernel
theorem dX4_put_21 : decode cX4_put 21 = .ok (.lcmp, 1) := by decide +kernel
theorem dX4_put_22 : decode cX4_put 22 = .ok (.ifCond .eq 45, 3) := by decide +kernel
theorem dX4_put_25 : decode cX4_put 25 = .ok (.iload 6, 2) := by decide +kernel
theorem dX4_put_27 : decode cX4_put 27 = .ok (.ifCond .eq 24, 3) := by decide +kernel
theorem dX4_put_30 : decode cX4_put 30 = .ok (.lload 4, 2) := by decide +kernel
theorem dX4_put_32 : decode cX4_put 32 = .ok (.ldc2_w 193, 3) := by decide +kernel
theorem dX4_put_35 : decode cX4_put 35 = .ok (.land, 1) := by decide +kernel
theorem dX4_put_36 : decode cX4_put 36 = .ok (.l2i, 1) := by decide +kernel
theorem dX4_put_37 : decode cX4_put 37 = .ok (.bipush 33, 2) := by decide +kernel
theorem dX4_put_39 : decode cX4_put 39 = .ok (.bipush 126, 2) := by decide +kernel
theorem dX4_put_41 : decode cX4_put 41 = .ok (.invokestatic 48, 3) := by decide +kernel
theorem dX4_put_44 : decode cX4_put 44 = .ok (.ifCond .eq 7, 3) := by decide +kernel
theorem dX4_put_47 : decode cX4_put 47 = .ok (.iconst 1, 1) := by decide +kernel
theorem dX4_put_48 : decode cX4_put 48 = .ok (.goto 4, 3) := by decide +kernel
theorem dX4_put_51 : decode cX4_put 51 = .ok (.iconst 0, 1) := by decide +kernel
theorem dX4_put_52 : decode cX4_put 52 = .ok (.istore 6, 2) := by decide +kernel
theorem dX4_put_54 : decode cX4_put 54 = .ok (.lload 4, 2) := by decide +kernel
theorem dX4_put_56 : decode cX4_put 56 = .ok (.bipush 8, 2) := by decide +kernel
theorem dX4_put_58 : decode cX4_put 58 = .ok (.lushr, 1) := by decide +kernel
theorem dX4_put_59 : decode cX4_put 59 = .ok (.lstore 4, 2) := by decide +kernel
theorem dX4_put_61 : decode cX4_put 61 = .ok (.iinc 3 1, 3) := by decide +kernel
theorem dX4_put_64 : decode cX4_put 64 = .ok (.goto (-56), 3) := by decide +kernel
theorem dX4_put_67 : decode cX4_put 67 = .ok (.iload_n 3, 1) := by decide +kernel
theorem dX4_put_68 : decode cX4_put 68 = .ok (.ifCond .eq 15, 3) := by decide +kernel
theorem dX4_put_71 : decode cX4_put 71 = .ok (.iload 6, 2) := by decide +kernel
theorem dX4_put_73 : decode cX4_put 73 = .ok (.ifCond .eq 10, 3) := by decide +kernel
theorem dX4_put_76 : decode cX4_put 76 = .ok (.lload 4, 2) := by decide +kernel
theorem dX4_put_78 : decode cX4_put 78 = .ok (.lconst 0, 1) := by decide +kernel
theorem dX4_put_79 : decode cX4_put 79 = .ok (.lcmp, 1) := by decide +kernel
theorem dX4_put_80 : decode cX4_put 80 = .ok (.ifCond .eq 6, 3) := by decide +kernel
theorem dX4_put_83 : decode cX4_put 83 = .ok (.bipush (-2), 2) := by decide +kernel
theorem dX4_put_85 : decode cX4_put 85 = .ok (.ireturn, 1) := by decide +kernel
theorem dX4_put_86 : decode cX4_put 86 = .ok (.aload_n 0, 1) := by decide +kernel
theorem dX4_put_87 : decode cX4_put 87 = .ok (.getfield 134, 3) := by decide +kernel
theorem dX4_put_90 : decode cX4_put 90 = .ok (.iload_n 3, 1) := by decide +kernel
theorem dX4_put_91 : decode cX4_put 91 = .ok (.iadd, 1) := by decide +kernel
theorem dX4_put_92 : decode cX4_put 92 = .ok (.bipush 60, 2) := by decide +kernel
theorem dX4_put_94 : decode cX4_put 94 = .ok (.if_icmp .le 6, 3) := by decide +kernel
theorem dX4_put_97 : decode cX4_put 97 = .ok (.bipush (-4), 2) := by decide +kernel
theorem dX4_put_99 : decode cX4_put 99 = .ok (.ireturn, 1) := by decide +kernel
theorem dX4_put_100 : decode cX4_put 100 = .ok (.iload_n 3, 1) := by decide +kernel
theorem dX4_put_101 : decode cX4_put 101 = .ok (.iconst 1, 1) := by decide +kernel
theorem dX4_put_102 : decode cX4_put 102 = .ok (.isub, 1) := by decide +kernel
theorem dX4_put_103 : decode cX4_put 103 = .ok (.istore 7, 2) := by decide +kernel
theorem dX4_put_105 : decode cX4_put 105 = .ok (.iload 7, 2) := by decide +kernel
theorem dX4_put_107 : decode cX4_put 107 = .ok (.ifCond .lt 40, 3) := by decide +kernel
theorem dX4_put_110 : decode cX4_put 110 = .ok (.aload_n 0, 1) := by decide +kernel
theorem dX4_put_111 : decode cX4_put 111 = .ok (.getfield 22, 3) := by decide +kernel
theorem dX4_put_114 : decode cX4_put 114 = .ok (.aload_n 0, 1) := by decide +kernel
theorem dX4_put_115 : decode cX4_put 115 = .ok (.getfield 134, 3) := by decide +kernel
theorem dX4_put_118 : decode cX4_put 118 = .ok (.lload_n 1, 1) := by decide +kernel
theorem dX4_put_119 : decode cX4_put 119 = .ok (.bipush 8, 2) := by decide +kernel
theorem dX4_put_121 : decode cX4_put 121 = .ok (.iload 7, 2) := by decide +kernel
theorem dX4_put_123 : decode cX4_put 123 = .ok (.imul, 1) := by decide +kernel
theorem dX4_put_124 : decode cX4_put 124 = .ok (.lushr, 1) := by decide +kernel
theorem dX4_put_125 : decode cX4_put 125 = .ok (.ldc2_w 193, 3) := by decide +kernel
theorem dX4_put_128 : decode cX4_put 128 = .ok (.land, 1) := by decide +kernel
theorem dX4_put_129 : decode cX4_put 129 = .ok (.l2i, 1) := by decide +kernel
theorem dX4_put_130 : decode cX4_put 130 = .ok (.iastore, 1) := by decide +kernel
theorem dX4_put_131 : decode cX4_put 131 = .ok (.aload_n 0, 1) := by decide +kernel
theorem dX4_put_132 : decode cX4_put 132 = .ok (.dup, 1) := by decide +kernel
theorem dX4_put_133 : decode cX4_put 133 = .ok (.getfield 134, 3) := by decide +kernel
theorem dX4_put_136 : decode cX4_put 136 = .ok (.iconst 1, 1) := by decide +kernel
theorem dX4_put_137 : decode cX4_put 137 = .ok (.iadd, 1) := by decide +kernel
theorem dX4_put_138 : decode cX4_put 138 = .ok (.putfield 134, 3) := by decide +kernel
theorem dX4_put_141 : decode cX4_put 141 = .ok (.iinc 7 (-1), 3) := by decide +kernel
theorem dX4_put_144 : decode cX4_put 144 = .ok (.goto (-39), 3) := by decide +kernel
theorem dX4_put_147 : decode cX4_put 147 = .ok (.aload_n 0, 1) := by decide +kernel
theorem dX4_put_148 : decode cX4_put 148 = .ok (.getfield 134, 3) := by decide +kernel
theorem dX4_put_151 : decode cX4_put 151 = .ok (.ireturn, 1) := by decide +kernel
theorem dX4_wipe_0 : decode cX4_wipe 0 = .ok (.aload_n 0, 1) := by decide +kernel
theorem dX4_wipe_1 : decode cX4_wipe 1 = .ok (.getfield 134, 3) := by decide +kernel
theorem dX4_wipe_4 : decode cX4_wipe 4 = .ok (.istore_n 1, 1) := by decide +kernel
theorem dX4_wipe_5 : decode cX4_wipe 5 = .ok (.aload_n 0, 1) := by decide +kernel
theorem dX4_wipe_6 : decode cX4_wipe 6 = .ok (.iconst 0, 1) := by decide +kernel
theorem dX4_wipe_7 : decode cX4_wipe 7 = .ok (.putfield 134, 3) := by decide +kernel
theorem dX4_wipe_10 : decode cX4_wipe 10 = .ok (.iload_n 1, 1) := by decide +kernel
theorem dX4_wipe_11 : decode cX4_wipe 11 = .ok (.ireturn, 1) := by decide +kernel
theorem dX4_findFault_0 : decode cX4_findFault 0 = .ok (.iconst 0, 1) := by decide +kernel
theorem dX4_findFault_1 : decode cX4_findFault 1 = .ok (.istore_n 1, 1) := by decide +kernel
theorem dX4_findFault_2 : decode cX4_findFault 2 = .ok (.iconst 0, 1) := by decide +kernel
theorem dX4_findFault_3 : decode cX4_findFault 3 = .ok (.istore_n 2, 1) := by decide +kernel
theorem dX4_findFault_4 : decode cX4_findFault 4 = .ok (.iconst 0, 1) := by decide +kernel
theorem dX4_findFault_5 : decode cX4_findFault 5 = .ok (.istore_n 3, 1) := by decide +kernel
theorem dX4_findFault_6 : decode cX4_findFault 6 = .ok (.iload_n 3, 1) := by decide +kernel
theorem dX4_findFault_7 : decode cX4_findFault 7 = .ok (.aload_n 0, 1) := by decide +kernel
theorem dX4_findFault_8 : decode cX4_findFault 8 = .ok (.getfield 134, 3) := by decide +kernel
theorem dX4_findFault_11 : decode cX4_findFault 11 = .ok (.if_icmp .ge 190, 3) := by decide +kernel
theorem dX4_findFault_14 : decode cX4_findFault 14 = .ok (.aload_n 0, 1) := by decide +kernel
theorem dX4_findFault_15 : decode cX4_findFault 15 = .ok (.getfield 22, 3) := by decide +kernel
theorem dX4_findFault_18 : decode cX4_findFault 18 = .ok (.iload_n 3, 1) := by decide +kernel
theorem dX4_findFault_19 : decode cX4_findFault 19 = .ok (.iaload, 1) := by decide +kernel
theorem dX4_findFault_20 : decode cX4_findFault 20 = .ok (.istore 4, 2) := by decide +kernel
theorem dX4_findFault_22 : decode cX4_findFault 22 = .ok (.iload_n 1, 1) := by decide +kernel
theorem dX4_findFault_23 : decode cX4_findFault 23 = .ok (.ifCond .ne 18, 3) := by decide +kernel
theorem dX4_findFault_26 : decode cX4_findFault 26 = .ok (.iload_n 2, 1) := by decide +kernel
theorem dX4_findFault_27 : decode cX4_findFault 27 = .ok (.ifCond .ne 14, 3) := by decide +kernel
theorem dX4_findFault_30 : decode cX4_findFault 30 = .ok (.iload 4, 2) := by decide +kernel
theorem dX4_findFault_32 : decode cX4_findFault 32 = .ok (.bipush 124, 2) := by decide +kernel
theorem dX4_findFault_34 : decode cX4_findFault 34 = .ok (.if_icmp .ne 7, 3) := by decide +kernel
theorem dX4_findFault_37 : decode cX4_findFault 37 = .ok (.iconst 1, 1) := by decide +kernel
theorem dX4_findFault_38 : decode cX4_findFault 38 = .ok (.goto 4, 3) := by decide +kernel
theorem dX4_findFault_41 : decode cX4_findFault 41 = .ok (.iconst 0, 1) := by decide +kernel
theorem dX4_findFault_42 : decode cX4_findFault 42 = .ok (.istore 5, 2) := by decide +kernel
theorem dX4_findFault_44 : decode cX4_findFault 44 = .ok (.iload_n 2, 1) := by decide +kernel
theorem dX4_findFault_45 : decode cX4_findFault 45 = .ok (.ifCond .ne 27, 3) := by decide +kernel
theorem dX4_findFault_48 : decode cX4_findFault 48 = .ok (.iload_n 1, 1) := by decide +kernel
theorem dX4_findFault_49 : decode cX4_findFault 49 = .ok (.bipush 16, 2) := by decide +kernel
theorem dX4_findFault_51 : decode cX4_findFault 51 = .ok (.if_icmp .ge 21, 3) := by decide +kernel
theorem dX4_findFault_54 : decode cX4_findFault 54 = .ok (.iload 4, 2) := by decide +kernel
theorem dX4_findFault_56 : decode cX4_findFault 56 = .ok (.bipush 120, 2) := by decide +kernel
theorem dX4_findFault_58 : decode cX4_findFault 58 = .ok (.if_icmp .eq 10, 3) := by decide +kernel
theorem dX4_findFault_61 : decode cX4_findFault 61 = .ok (.iload 4, 2) := by decide +kernel
theorem dX4_findFault_63 : decode cX4_findFault 63 = .ok (.bipush 88, 2) := by decide +kernel
theorem dX4_findFault_65 : decode cX4_findFault 65 = .ok (.if_icmp .ne 7, 3) := by decide +kernel
theorem dX4_findFault_68 : decode cX4_findFault 68 = .ok (.iconst 1, 1) := by decide +kernel
theorem dX4_findFault_69 : decode cX4_findFault 69 = .ok (.goto 4, 3) := by decide +kernel
theorem dX4_findFault_72 : decode cX4_findFault 72 = .ok (.iconst 0, 1) := by decide +kernel
theorem dX4_findFault_73 : decode cX4_findFault 73 = .ok (.istore 6, 2) := by decide +kernel
theorem dX4_findFault_75 : decode cX4_findFault 75 = .ok (.iload_n 2, 1) := by decide +kernel
theorem dX4_findFault_76 : decode cX4_findFault 76 = .ok (.ifCond .eq 34, 3) := by decide +kernel
theorem dX4_findFault_79 : decode cX4_findFault 79 = .ok (.iload_n 1, 1) := by decide +kernel
theorem dX4_findFault_80 : decode cX4_findFault 80 = .ok (.bipush 24, 2) := by decide +kernel
theorem dX4_findFault_82 : decode cX4_findFault 82 = .ok (.if_icmp .ge 28, 3) := by decide +kernel
theorem dX4_findFault_85 : decode cX4_findFault 85 = .ok (.iload 4, 2) := by decide +kernel
theorem dX4_findFault_87 : decode cX4_findFault 87 = .ok (.bipush 115, 2) := by decide +kernel
theorem dX4_findFault_89 : decode cX4_findFault 89 = .ok (.if_icmp .eq 17, 3) := by decide +kernel
theorem dX4_findFault_92 : decode cX4_findFault 92 = .ok (.iload 4, 2) := by decide +kernel
theorem dX4_findFault_94 : decode cX4_findFault 94 = .ok (.bipush 119, 2) := by decide +kernel
theorem dX4_findFault_96 : decode cX4_findFault 96 = .ok (.if_icmp .eq 10, 3) := by decide +kernel
theorem dX4_findFault_99 : decode cX4_findFault 99 = .ok (.iload 4, 2) := by decide +kernel
theorem dX4_findFault_101 : decode cX4_findFault 101 = .ok (.bipush 46, 2) := by decide +kernel
theorem dX4_findFault_103 : decode cX4_findFault 103 = .ok (.if_icmp .ne 7, 3) := by decide +kernel
theorem dX4_findFault_106 : decode cX4_findFault 106 = .ok (.iconst 1, 1) := by decide +kernel
theorem dX4_findFault_107 : decode cX4_findFault 107 = .ok (.goto 4, 3) := by decide +kernel
theorem dX4_findFault_110 : decode cX4_findFault 110 = .ok (.iconst 0, 1) := by decide +kernel
theorem dX4_findFault_111 : decode cX4_findFault 111 = .ok (.istore 7, 2) := by decide +kernel
theorem dX4_findFault_113 : decode cX4_findFault 113 = .ok (.iload_n 1, 1) := by decide +kernel
theorem dX4_findFault_114 : decode cX4_findFault 114 = .ok (.ifCond .le 14, 3) := by decide +kernel
theorem dX4_findFault_117 : decode cX4_findFault 117 = .ok (.iload 4, 2) := by decide +kernel
theorem dX4_findFault_119 : decode cX4_findFault 119 = .ok (.bipush 59, 2) := by decide +kernel
theorem dX4_findFault_121 : decode cX4_findFault 121 = .ok (.if_icmp .ne 7, 3) := by decide +kernel
theorem dX4_findFault_124 : decode cX4_findFault 124 = .ok (.iconst 1, 1) := by decide +kernel
theorem dX4_findFault_125 : decode cX4_findFault 125 = .ok (.goto 4, 3) := by decide +kernel
theorem dX4_findFault_128 : decode cX4_findFault 128 = .ok (.iconst 0, 1) := by decide +kernel
theorem dX4_findFault_129 : decode cX4_findFault 129 = .ok (.istore 8, 2) := by decide +kernel
theorem dX4_findFault_131 : decode cX4_findFault 131 = .ok (.iload 5, 2) := by decide +kernel
theorem dX4_findFault_133 : decode cX4_findFault 133 = .ok (.ifCond .ne 20, 3) := by decide +kernel
theorem dX4_findFault_136 : decode cX4_findFault 136 = .ok (.iload 6, 2) := by decide +kernel
theorem dX4_findFault_138 : decode cX4_findFault 138 = .ok (.ifCond .ne 15, 3) := by decide +kernel
theorem dX4_findFault_141 : decode cX4_findFault 141 = .ok (.iload 7, 2) := by decide +kernel
theorem dX4_findFault_143 : decode cX4_findFault 143 = .ok (.ifCond .ne 10, 3) := by decide +kernel
theorem dX4_findFault_146 : decode cX4_findFault 146 = .ok (.iload 8, 2) := by decide +kernel
theorem dX4_findFault_148 : decode cX4_findFault 148 = .ok (.ifCond .ne 5, 3) := by decide +kernel
theorem dX4_findFault_151 : decode cX4_findFault 151 = .ok (.iload_n 3, 1) := by decide +kernel
theorem dX4_findFault_152 : decode cX4_findFault 152 = .ok (.ireturn, 1) := by decide +kernel
theorem dX4_findFault_153 : decode cX4_findFault 153 = .ok (.iload 8, 2) := by decide +kernel
theorem dX4_findFault_155 : decode cX4_findFault 155 = .ok (.ifCond .eq 7, 3) := by decide +kernel
theorem dX4_findFault_158 : decode cX4_findFault 158 = .ok (.iconst 0, 1) := by decide +kernel
theorem dX4_findFault_159 : decode cX4_findFault 159 = .ok (.goto 15, 3) := by decide +kernel
theorem dX4_findFault_162 : decode cX4_findFault 162 = .ok (.iload 5, 2) := by decide +kernel
theorem dX4_findFault_164 : decode cX4_findFault 164 = .ok (.ifCond .eq 7, 3) := by decide +kernel
theorem dX4_findFault_167 : decode cX4_findFault 167 = .ok (.iconst 0, 1) := by decide +kernel
theorem dX4_findFault_168 : decode cX4_findFault 168 = .ok (.goto 6, 3) := by decide +kernel
theorem dX4_findFault_171 : decode cX4_findFault 171 = .ok (.iload_n 1, 1) := by decide +kernel
theorem dX4_findFault_172 : decode cX4_findFault 172 = .ok (.iconst 1, 1) := by decide +kernel
theorem dX4_findFault_173 : decode cX4_findFault 173 = .ok (.iadd, 1) := by decide +kernel
theorem dX4_findFault_174 : decode cX4_findFault 174 = .ok (.istore_n 1, 1) := by decide +kernel
theorem dX4_findFault_175 : decode cX4_findFault 175 = .ok (.iload 5, 2) := by decide +kernel
theorem dX4_findFault_177 : decode cX4_findFault 177 = .ok (.ifCond .ne 12, 3) := by decide +kernel
theorem dX4_findFault_180 : decode cX4_findFault 180 = .ok (.iload_n 2, 1) := by decide +kernel
theorem dX4_findFault_181 : decode cX4_findFault 181 = .ok (.ifCond .eq 12, 3) := by decide +kernel
theorem dX4_findFault_184 : decode cX4_findFault 184 = .ok (.iload 8, 2) := by decide +kernel
theorem dX4_findFault_186 : decode cX4_findFault 186 = .ok (.ifCond .ne 7, 3) := by decide +kernel
theorem dX4_findFault_189 : decode cX4_findFault 189 = .ok (.iconst 1, 1) := by decide +kernel
theorem dX4_findFault_190 : decode cX4_findFault 190 = .ok (.goto 4, 3) := by decide +kernel
theorem dX4_findFault_193 : decode cX4_findFault 193 = .ok (.iconst 0, 1) := by decide +kernel
theorem dX4_findFault_194 : decode cX4_findFault 194 = .ok (.istore_n 2, 1) := by decide +kernel
theorem dX4_findFault_195 : decode cX4_findFault 195 = .ok (.iinc 3 1, 3) := by decide +kernel
theorem dX4_findFault_198 : decode cX4_findFault 198 = .ok (.goto (-192), 3) := by decide +kernel
theorem dX4_findFault_201 : decode cX4_findFault 201 = .ok (.iload_n 1, 1) := by decide +kernel
theorem dX4_findFault_202 : decode cX4_findFault 202 = .ok (.ifCond .le 8, 3) := by decide +kernel
theorem dX4_findFault_205 : decode cX4_findFault 205 = .ok (.bipush (-6), 2) := by decide +kernel
theorem dX4_findFault_207 : decode cX4_findFault 207 = .ok (.goto 7, 3) := by decide +kernel
theorem dX4_findFault_210 : decode cX4_findFault 210 = .ok (.aload_n 0, 1) := by decide +kernel
theorem dX4_findFault_211 : decode cX4_findFault 211 = .ok (.getfield 134, 3) := by decide +kernel
theorem dX4_findFault_214 : decode cX4_findFault 214 = .ok (.ireturn, 1) := by decide +kernel
theorem dX4_fault_0 : decode cX4_fault 0 = .ok (.aload_n 0, 1) := by decide +kernel
theorem dX4_fault_1 : decode cX4_fault 1 = .ok (.invokevirtual 137, 3) := by decide +kernel
theorem dX4_fault_4 : decode cX4_fault 4 = .ok (.ireturn, 1) := by decide +kernel
theorem dX4_undo_0 : decode cX4_undo 0 = .ok (.aload_n 0, 1) := by decide +kernel
theorem dX4_undo_1 : decode cX4_undo 1 = .ok (.getfield 40, 3) := by decide +kernel
theorem dX4_undo_4 : decode cX4_undo 4 = .ok (.ifCond .ne 6, 3) := by decide +kernel
theorem dX4_undo_7 : decode cX4_undo 7 = .ok (.bipush (-5), 2) := by decide +kernel
theorem dX4_undo_9 : decode cX4_undo 9 = .ok (.ireturn, 1) := by decide +kernel
theorem dX4_undo_10 : decode cX4_undo 10 = .ok (.aload_n 0, 1) := by decide +kernel
theorem dX4_undo_11 : decode cX4_undo 11 = .ok (.dup, 1) := by decide +kernel
theorem dX4_undo_12 : decode cX4_undo 12 = .ok (.getfield 40, 3) := by decide +kernel
theorem dX4_undo_15 : decode cX4_undo 15 = .ok (.iconst 1, 1) := by decide +kernel
theorem dX4_undo_16 : decode cX4_undo 16 = .ok (.isub, 1) := by decide +kernel
theorem dX4_undo_17 : decode cX4_undo 17 = .ok (.putfield 40, 3) := by decide +kernel
theorem dX4_undo_20 : decode cX4_undo 20 = .ok (.aload_n 0, 1) := by decide +kernel
theorem dX4_undo_21 : decode cX4_undo 21 = .ok (.getfield 13, 3) := by decide +kernel
theorem dX4_undo_24 : decode cX4_undo 24 = .ok (.aload_n 0, 1) := by decide +kernel
theorem dX4_undo_25 : decode cX4_undo 25 = .ok (.getfield 40, 3) := by decide +kernel
theorem dX4_undo_28 : decode cX4_undo 28 = .ok (.bipush 112, 2) := by decide +kernel
theorem dX4_undo_30 : decode cX4_undo 30 = .ok (.imul, 1) := by decide +kernel
theorem dX4_undo_31 : decode cX4_undo 31 = .ok (.aload_n 0, 1) := by decide +kernel
theorem dX4_undo_32 : decode cX4_undo 32 = .ok (.getfield 7, 3) := by decide +kernel
theorem dX4_undo_35 : decode cX4_undo 35 = .ok (.iconst 0, 1) := by decide +kernel
theorem dX4_undo_36 : decode cX4_undo 36 = .ok (.invokestatic 44, 3) := by decide +kernel
theorem dX4_undo_39 : decode cX4_undo 39 = .ok (.aload_n 0, 1) := by decide +kernel
theorem dX4_undo_40 : decode cX4_undo 40 = .ok (.getfield 40, 3) := by decide +kernel
theorem dX4_undo_43 : decode cX4_undo 43 = .ok (.ireturn, 1) := by decide +kernel
theorem dX4_save_0 : decode cX4_save 0 = .ok (.iload_n 1, 1) := by decide +kernel
theorem dX4_save_1 : decode cX4_save 1 = .ok (.iconst 0, 1) := by decide +kernel
theorem dX4_save_2 : decode cX4_save 2 = .ok (.iconst 1, 1) := by decide +kernel
theorem dX4_save_3 : decode cX4_save 3 = .ok (.invokestatic 48, 3) := by decide +kernel
theorem dX4_save_6 : decode cX4_save 6 = .ok (.ifCond .ne 6, 3) := by decide +kernel
theorem dX4_save_9 : decode cX4_save 9 = .ok (.bipush (-2), 2) := by decide +kernel
theorem dX4_save_11 : decode cX4_save 11 = .ok (.ireturn, 1) := by decide +kernel
theorem dX4_save_12 : decode cX4_save 12 = .ok (.aload_n 0, 1) := by decide +kernel
theorem dX4_save_13 : decode cX4_save 13 = .ok (.getfield 7, 3) := by decide +kernel
theorem dX4_save_16 : decode cX4_save 16 = .ok (.iconst 0, 1) := by decide +kernel
theorem dX4_save_17 : decode cX4_save 17 = .ok (.aload_n 0, 1) := by decide +kernel
theorem dX4_save_18 : decode cX4_save 18 = .ok (.getfield 16, 3) := by decide +kernel
theorem dX4_save_21 : decode cX4_save 21 = .ok (.bipush 112, 2) := by decide +kernel
theorem dX4_save_23 : decode cX4_save 23 = .ok (.iload_n 1, 1) := by decide +kernel
theorem dX4_save_24 : decode cX4_save 24 = .ok (.imul, 1) := by decide +kernel
theorem dX4_save_25 : decode cX4_save 25 = .ok (.invokestatic 44, 3) := by decide +kernel
theorem dX4_save_28 : decode cX4_save 28 = .ok (.aload_n 0, 1) := by decide +kernel
theorem dX4_save_29 : decode cX4_save 29 = .ok (.getfield 19, 3) := by decide +kernel
theorem dX4_save_32 : decode cX4_save 32 = .ok (.iload_n 1, 1) := by decide +kernel
theorem dX4_save_33 : decode cX4_save 33 = .ok (.iconst 1, 1) := by decide +kernel
theorem dX4_save_34 : decode cX4_save 34 = .ok (.iastore, 1) := by decide +kernel
theorem dX4_save_35 : decode cX4_save 35 = .ok (.aload_n 0, 1) := by decide +kernel
theorem dX4_save_36 : decode cX4_save 36 = .ok (.getfield 7, 3) := by decide +kernel
theorem dX4_save_39 : decode cX4_save 39 = .ok (.iconst 4, 1) := by decide +kernel
theorem dX4_save_40 : decode cX4_save 40 = .ok (.iaload, 1) := by decide +kernel
theorem dX4_save_41 : decode cX4_save 41 = .ok (.ireturn, 1) := by decide +kernel
theorem dX4_restore_0 : decode cX4_restore 0 = .ok (.iload_n 1, 1) := by decide +kernel
theorem dX4_restore_1 : decode cX4_restore 1 = .ok (.iconst 0, 1) := by decide +kernel
theorem dX4_restore_2 : decode cX4_restore 2 = .ok (.iconst 1, 1) := by decide +kernel
theorem dX4_restore_3 : decode cX4_restore 3 = .ok (.invokestatic 48, 3) := by decide +kernel
theorem dX4_restore_6 : decode cX4_restore 6 = .ok (.ifCond .ne 6, 3) := by decide +kernel
theorem dX4_restore_9 : decode cX4_restore 9 = .ok (.bipush (-2), 2) := by decide +kernel
theorem dX4_restore_11 : decode cX4_restore 11 = .ok (.ireturn, 1) := by decide +kernel
theorem dX4_restore_12 : decode cX4_restore 12 = .ok (.aload_n 0, 1) := by decide +kernel
theorem dX4_restore_13 : decode cX4_restore 13 = .ok (.getfield 19, 3) := by decide +kernel
theorem dX4_restore_16 : decode cX4_restore 16 = .ok (.iload_n 1, 1) := by decide +kernel
theorem dX4_restore_17 : decode cX4_restore 17 = .ok (.iaload, 1) := by decide +kernel
theorem dX4_restore_18 : decode cX4_restore 18 = .ok (.ifCond .ne 6, 3) := by decide +kernel
theorem dX4_restore_21 : decode cX4_restore 21 = .ok (.bipush (-5), 2) := by decide +kernel
theorem dX4_restore_23 : decode cX4_restore 23 = .ok (.ireturn, 1) := by decide +kernel
theorem dX4_restore_24 : decode cX4_restore 24 = .ok (.aload_n 0, 1) := by decide +kernel
theorem dX4_restore_25 : decode cX4_restore 25 = .ok (.invokevirtual 131, 3) := by decide +kernel
theorem dX4_restore_28 : decode cX4_restore 28 = .ok (.aload_n 0, 1) := by decide +kernel
theorem dX4_restore_29 : decode cX4_restore 29 = .ok (.getfield 16, 3) := by decide +kernel
theorem dX4_restore_32 : decode cX4_restore 32 = .ok (.bipush 112, 2) := by decide +kernel
theorem dX4_restore_34 : decode cX4_restore 34 = .ok (.iload_n 1, 1) := by decide +kernel
theorem dX4_restore_35 : decode cX4_restore 35 = .ok (.imul, 1) := by decide +kernel
theorem dX4_restore_36 : decode cX4_restore 36 = .ok (.aload_n 0, 1) := by decide +kernel
theorem dX4_restore_37 : decode cX4_restore 37 = .ok (.getfield 7, 3) := by decide +kernel
theorem dX4_restore_40 : decode cX4_restore 40 = .ok (.iconst 0, 1) := by decide +kernel
theorem dX4_restore_41 : decode cX4_restore 41 = .ok (.invokestatic 44, 3) := by decide +kernel
theorem dX4_restore_44 : decode cX4_restore 44 = .ok (.aload_n 0, 1) := by decide +kernel
theorem dX4_restore_45 : decode cX4_restore 45 = .ok (.getfield 7, 3) := by decide +kernel
theorem dX4_restore_48 : decode cX4_restore 48 = .ok (.iconst 4, 1) := by decide +kernel
theorem dX4_restore_49 : decode cX4_restore 49 = .ok (.iaload, 1) := by decide +kernel
theorem dX4_restore_50 : decode cX4_restore 50 = .ok (.ireturn, 1) := by decide +kernel
