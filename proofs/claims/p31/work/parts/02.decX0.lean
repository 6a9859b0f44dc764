theorem dX0_init_0 : decode cX0_init 0 = .ok (.aload_n 0, 1) := by decide +kernel
theorem dX0_init_1 : decode cX0_init 1 = .ok (.invokespecial 3, 3) := by decide +kernel
theorem dX0_init_4 : decode cX0_init 4 = .ok (.aload_n 0, 1) := by decide +kernel
theorem dX0_init_5 : decode cX0_init 5 = .ok (.iconst 4, 1) := by decide +kernel
theorem dX0_init_6 : decode cX0_init 6 = .ok (.newarray .int, 2) := by decide +kernel
theorem dX0_init_8 : decode cX0_init 8 = .ok (.putfield 9, 3) := by decide +kernel
theorem dX0_init_11 : decode cX0_init 11 = .ok (.aload_n 0, 1) := by decide +kernel
theorem dX0_init_12 : decode cX0_init 12 = .ok (.iconst 0, 1) := by decide +kernel
theorem dX0_init_13 : decode cX0_init 13 = .ok (.putfield 15, 3) := by decide +kernel
theorem dX0_init_16 : decode cX0_init 16 = .ok (.aload_n 0, 1) := by decide +kernel
theorem dX0_init_17 : decode cX0_init 17 = .ok (.bipush 16, 2) := by decide +kernel
theorem dX0_init_19 : decode cX0_init 19 = .ok (.newarray .int, 2) := by decide +kernel
theorem dX0_init_21 : decode cX0_init 21 = .ok (.putfield 19, 3) := by decide +kernel
theorem dX0_init_24 : decode cX0_init 24 = .ok (.aload_n 0, 1) := by decide +kernel
theorem dX0_init_25 : decode cX0_init 25 = .ok (.sipush 256, 3) := by decide +kernel
theorem dX0_init_28 : decode cX0_init 28 = .ok (.newarray .int, 2) := by decide +kernel
theorem dX0_init_30 : decode cX0_init 30 = .ok (.putfield 22, 3) := by decide +kernel
theorem dX0_init_33 : decode cX0_init 33 = .ok (.aload_n 0, 1) := by decide +kernel
theorem dX0_init_34 : decode cX0_init 34 = .ok (.iconst 0, 1) := by decide +kernel
theorem dX0_init_35 : decode cX0_init 35 = .ok (.putfield 25, 3) := by decide +kernel
theorem dX0_init_38 : decode cX0_init 38 = .ok (.aload_n 0, 1) := by decide +kernel
theorem dX0_init_39 : decode cX0_init 39 = .ok (.bipush 8, 2) := by decide +kernel
theorem dX0_init_41 : decode cX0_init 41 = .ok (.newarray .int, 2) := by decide +kernel
theorem dX0_init_43 : decode cX0_init 43 = .ok (.putfield 28, 3) := by decide +kernel
theorem dX0_init_46 : decode cX0_init 46 = .ok (.aload_n 0, 1) := by decide +kernel
theorem dX0_init_47 : decode cX0_init 47 = .ok (.sipush 192, 3) := by decide +kernel
theorem dX0_init_50 : decode cX0_init 50 = .ok (.newarray .int, 2) := by decide +kernel
theorem dX0_init_52 : decode cX0_init 52 = .ok (.putfield 31, 3) := by decide +kernel
theorem dX0_init_55 : decode cX0_init 55 = .ok (.aload_n 0, 1) := by decide +kernel
theorem dX0_init_56 : decode cX0_init 56 = .ok (.iconst 0, 1) := by decide +kernel
theorem dX0_init_57 : decode cX0_init 57 = .ok (.putfield 34, 3) := by decide +kernel
theorem dX0_init_60 : decode cX0_init 60 = .ok (.aload_n 0, 1) := by decide +kernel
theorem dX0_init_61 : decode cX0_init 61 = .ok (.bipush 40, 2) := by decide +kernel
theorem dX0_init_63 : decode cX0_init 63 = .ok (.newarray .int, 2) := by decide +kernel
theorem dX0_init_65 : decode cX0_init 65 = .ok (.putfield 37, 3) := by decide +kernel
theorem dX0_init_68 : decode cX0_init 68 = .ok (.aload_n 0, 1) := by decide +kernel
theorem dX0_init_69 : decode cX0_init 69 = .ok (.iconst 0, 1) := by decide +kernel
theorem dX0_init_70 : decode cX0_init 70 = .ok (.putfield 40, 3) := by decide +kernel
theorem dX0_init_73 : decode cX0_init 73 = .ok (.aload_n 0, 1) := by decide +kernel
theorem dX0_init_74 : decode cX0_init 74 = .ok (.bipush 8, 2) := by decide +kernel
theorem dX0_init_76 : decode cX0_init 76 = .ok (.newarray .int, 2) := by decide +kernel
theorem dX0_init_78 : decode cX0_init 78 = .ok (.putfield 43, 3) := by decide +kernel
theorem dX0_init_81 : decode cX0_init 81 = .ok (.getstatic 46, 3) := by decide +kernel
theorem dX0_init_84 : decode cX0_init 84 = .ok (.iconst 0, 1) := by decide +kernel
theorem dX0_init_85 : decode cX0_init 85 = .ok (.aload_n 0, 1) := by decide +kernel
theorem dX0_init_86 : decode cX0_init 86 = .ok (.getfield 9, 3) := by decide +kernel
theorem dX0_init_89 : decode cX0_init 89 = .ok (.iconst 0, 1) := by decide +kernel
theorem dX0_init_90 : decode cX0_init 90 = .ok (.iconst 4, 1) := by decide +kernel
theorem dX0_init_91 : decode cX0_init 91 = .ok (.invokestatic 49, 3) := by decide +kernel
theorem dX0_init_94 : decode cX0_init 94 = .ok (.return_, 1) := by decide +kernel
theorem dX0_takeOver_0 : decode cX0_takeOver 0 = .ok (.aload_n 1, 1) := by decide +kernel
theorem dX0_takeOver_1 : decode cX0_takeOver 1 = .ok (.getfield 9, 3) := by decide +kernel
theorem dX0_takeOver_4 : decode cX0_takeOver 4 = .ok (.iconst 0, 1) := by decide +kernel
theorem dX0_takeOver_5 : decode cX0_takeOver 5 = .ok (.aload_n 0, 1) := by decide +kernel
theorem dX0_takeOver_6 : decode cX0_takeOver 6 = .ok (.getfield 9, 3) := by decide +kernel
theorem dX0_takeOver_9 : decode cX0_takeOver 9 = .ok (.iconst 0, 1) := by decide +kernel
theorem dX0_takeOver_10 : decode cX0_takeOver 10 = .ok (.iconst 4, 1) := by decide +kernel
theorem dX0_takeOver_11 : decode cX0_takeOver 11 = .ok (.invokestatic 49, 3) := by decide +kernel
theorem dX0_takeOver_14 : decode cX0_takeOver 14 = .ok (.aload_n 0, 1) := by decide +kernel
theorem dX0_takeOver_15 : decode cX0_takeOver 15 = .ok (.aload_n 1, 1) := by decide +kernel
theorem dX0_takeOver_16 : decode cX0_takeOver 16 = .ok (.getfield 15, 3) := by decide +kernel
theorem dX0_takeOver_19 : decode cX0_takeOver 19 = .ok (.putfield 15, 3) := by decide +kernel
theorem dX0_takeOver_22 : decode cX0_takeOver 22 = .ok (.aload_n 1, 1) := by decide +kernel
theorem dX0_takeOver_23 : decode cX0_takeOver 23 = .ok (.getfield 19, 3) := by decide +kernel
theorem dX0_takeOver_26 : decode cX0_takeOver 26 = .ok (.iconst 0, 1) := by decide +kernel
theorem dX0_takeOver_27 : decode cX0_takeOver 27 = .ok (.aload_n 0, 1) := by decide +kernel
theorem dX0_takeOver_28 : decode cX0_takeOver 28 = .ok (.getfield 19, 3) := by decide +kernel
theorem dX0_takeOver_31 : decode cX0_takeOver 31 = .ok (.iconst 0, 1) := by decide +kernel
theorem dX0_takeOver_32 : decode cX0_takeOver 32 = .ok (.bipush 16, 2) := by decide +kernel
theorem dX0_takeOver_34 : decode cX0_takeOver 34 = .ok (.invokestatic 49, 3) := by decide +kernel
theorem dX0_takeOver_37 : decode cX0_takeOver 37 = .ok (.aload_n 1, 1) := by decide +kernel
theorem dX0_takeOver_38 : decode cX0_takeOver 38 = .ok (.getfield 22, 3) := by decide +kernel
theorem dX0_takeOver_41 : decode cX0_takeOver 41 = .ok (.iconst 0, 1) := by decide +kernel
theorem dX0_takeOver_42 : decode cX0_takeOver 42 = .ok (.aload_n 0, 1) := by decide +kernel
theorem dX0_takeOver_43 : decode cX0_takeOver 43 = .ok (.getfield 22, 3) := by decide +kernel
theorem dX0_takeOver_46 : decode cX0_takeOver 46 = .ok (.iconst 0, 1) := by decide +kernel
theorem dX0_takeOver_47 : decode cX0_takeOver 47 = .ok (.sipush 256, 3) := by decide +kernel
theorem dX0_takeOver_50 : decode cX0_takeOver 50 = .ok (.invokestatic 49, 3) := by decide +kernel
theorem dX0_takeOver_53 : decode cX0_takeOver 53 = .ok (.aload_n 0, 1) := by decide +kernel
theorem dX0_takeOver_54 : decode cX0_takeOver 54 = .ok (.aload_n 1, 1) := by decide +kernel
theorem dX0_takeOver_55 : decode cX0_takeOver 55 = .ok (.getfield 25, 3) := by decide +kernel
theorem dX0_takeOver_58 : decode cX0_takeOver 58 = .ok (.putfield 25, 3) := by decide +kernel
theorem dX0_takeOver_61 : decode cX0_takeOver 61 = .ok (.aload_n 1, 1) := by decide +kernel
theorem dX0_takeOver_62 : decode cX0_takeOver 62 = .ok (.getfield 28, 3) := by decide +kernel
theorem dX0_takeOver_65 : decode cX0_takeOver 65 = .ok (.iconst 0, 1) := by decide +kernel
theorem dX0_takeOver_66 : decode cX0_takeOver 66 = .ok (.aload_n 0, 1) := by decide +kernel
theorem dX0_takeOver_67 : decode cX0_takeOver 67 = .ok (.getfield 28, 3) := by decide +kernel
theorem dX0_takeOver_70 : decode cX0_takeOver 70 = .ok (.iconst 0, 1) := by decide +kernel
theorem dX0_takeOver_71 : decode cX0_takeOver 71 = .ok (.bipush 8, 2) := by decide +kernel
theorem dX0_takeOver_73 : decode cX0_takeOver 73 = .ok (.invokestatic 49, 3) := by decide +kernel
theorem dX0_takeOver_76 : decode cX0_takeOver 76 = .ok (.aload_n 1, 1) := by decide +kernel
theorem dX0_takeOver_77 : decode cX0_takeOver 77 = .ok (.getfield 31, 3) := by decide +kernel
theorem dX0_takeOver_80 : decode cX0_takeOver 80 = .ok (.iconst 0, 1) := by decide +kernel
theorem dX0_takeOver_81 : decode cX0_takeOver 81 = .ok (.aload_n 0, 1) := by decide +kernel
theorem dX0_takeOver_82 : decode cX0_takeOver 82 = .ok (.getfield 31, 3) := by decide +kernel
theorem dX0_takeOver_85 : decode cX0_takeOver 85 = .ok (.iconst 0, 1) := by decide +kernel
theorem dX0_takeOver_86 : decode cX0_takeOver 86 = .ok (.sipush 192, 3) := by decide +kernel
theorem dX0_takeOver_89 : decode cX0_takeOver 89 = .ok (.invokestatic 49, 3) := by decide +kernel
theorem dX0_takeOver_92 : decode cX0_takeOver 92 = .ok (.aload_n 0, 1) := by decide +kernel
theorem dX0_takeOver_93 : decode cX0_takeOver 93 = .ok (.aload_n 1, 1) := by decide +kernel
theorem dX0_takeOver_94 : decode cX0_takeOver 94 = .ok (.getfield 34, 3) := by decide +kernel
theorem dX0_takeOver_97 : decode cX0_takeOver 97 = .ok (.putfield 34, 3) := by decide +kernel
theorem dX0_takeOver_100 : decode cX0_takeOver 100 = .ok (.aload_n 1, 1) := by decide +kernel
theorem dX0_takeOver_101 : decode cX0_takeOver 101 = .ok (.getfield 37, 3) := by decide +kernel
theorem dX0_takeOver_104 : decode cX0_takeOver 104 = .ok (.iconst 0, 1) := by decide +kernel
theorem dX0_takeOver_105 : decode cX0_takeOver 105 = .ok (.aload_n 0, 1) := by decide +kernel
theorem dX0_takeOver_106 : decode cX0_takeOver 106 = .ok (.getfield 37, 3) := by decide +kernel
theorem dX0_takeOver_109 : decode cX0_takeOver 109 = .ok (.iconst 0, 1) := by decide +kernel
theorem dX0_takeOver_110 : decode cX0_takeOver 110 = .ok (.bipush 40, 2) := by decide +kernel
theorem dX0_takeOver_112 : decode cX0_takeOver 112 = .ok (.invokestatic 49, 3) := by decide +kernel
theorem dX0_takeOver_115 : decode cX0_takeOver 115 = .ok (.aload_n 0, 1) := by decide +kernel
theorem dX0_takeOver_116 : decode cX0_takeOver 116 = .ok (.aload_n 1, 1) := by decide +kernel
theorem dX0_takeOver_117 : decode cX0_takeOver 117 = .ok (.getfield 40, 3) := by decide +kernel
theorem dX0_takeOver_120 : decode cX0_takeOver 120 = .ok (.putfield 40, 3) := by decide +kernel
theorem dX0_takeOver_123 : decode cX0_takeOver 123 = .ok (.aload_n 1, 1) := by decide +kernel
theorem dX0_takeOver_124 : decode cX0_takeOver 124 = .ok (.getfield 43, 3) := by decide +kernel
theorem dX0_takeOver_127 : decode cX0_takeOver 127 = .ok (.iconst 0, 1) := by decide +kernel
theorem dX0_takeOver_128 : decode cX0_takeOver 128 = .ok (.aload_n 0, 1) := by decide +kernel
theorem dX0_takeOver_129 : decode cX0_takeOver 129 = .ok (.getfield 43, 3) := by decide +kernel
theorem dX0_takeOver_132 : decode cX0_takeOver 132 = .ok (.iconst 0, 1) := by decide +kernel
theorem dX0_takeOver_133 : decode cX0_takeOver 133 = .ok (.bipush 8, 2) := by decide +kernel
theorem dX0_takeOver_135 : decode cX0_takeOver 135 = .ok (.invokestatic 49, 3) := by decide +kernel
theorem dX0_takeOver_138 : decode cX0_takeOver 138 = .ok (.return_, 1) := by decide +kernel
theorem dX0_hasLine_0 : decode cX0_hasLine 0 = .ok (.iload_n 1, 1) := by decide +kernel
theorem dX0_hasLine_1 : decode cX0_hasLine 1 = .ok (.ifCond .lt 15, 3) := by decide +kernel
theorem dX0_hasLine_4 : decode cX0_hasLine 4 = .ok (.iload_n 1, 1) := by decide +kernel
theorem dX0_hasLine_5 : decode cX0_hasLine 5 = .ok (.aload_n 0, 1) := by decide +kernel
theorem dX0_hasLine_6 : decode cX0_hasLine 6 = .ok (.getfield 15, 3) := by decide +kernel
theorem dX0_hasLine_9 : decode cX0_hasLine 9 = .ok (.if_icmp .ge 7, 3) := by decide +kernel
theorem dX0_hasLine_12 : decode cX0_hasLine 12 = .ok (.iconst 1, 1) := by decide +kernel
theorem dX0_hasLine_13 : decode cX0_hasLine 13 = .ok (.goto 4, 3) := by decide +kernel
theorem dX0_hasLine_16 : decode cX0_hasLine 16 = .ok (.iconst 0, 1) := by decide +kernel
theorem dX0_hasLine_17 : decode cX0_hasLine 17 = .ok (.ireturn, 1) := by decide +kernel
theorem dX0_hasPhrase_0 : decode cX0_hasPhrase 0 = .ok (.iload_n 1, 1) := by decide +kernel
theorem dX0_hasPhrase_1 : decode cX0_hasPhrase 1 = .ok (.ifCond .lt 15, 3) := by decide +kernel
theorem dX0_hasPhrase_4 : decode cX0_hasPhrase 4 = .ok (.iload_n 1, 1) := by decide +kernel
theorem dX0_hasPhrase_5 : decode cX0_hasPhrase 5 = .ok (.aload_n 0, 1) := by decide +kernel
theorem dX0_hasPhrase_6 : decode cX0_hasPhrase 6 = .ok (.getfield 25, 3) := by decide +kernel
theorem dX0_hasPhrase_9 : decode cX0_hasPhrase 9 = .ok (.if_icmp .ge 7, 3) := by decide +kernel
theorem dX0_hasPhrase_12 : decode cX0_hasPhrase 12 = .ok (.iconst 1, 1) := by decide +kernel
theorem dX0_hasPhrase_13 : decode cX0_hasPhrase 13 = .ok (.goto 4, 3) := by decide +kernel
theorem dX0_hasPhrase_16 : decode cX0_hasPhrase 16 = .ok (.iconst 0, 1) := by decide +kernel
theorem dX0_hasPhrase_17 : decode cX0_hasPhrase 17 = .ok (.ireturn, 1) := by decide +kernel
theorem dX0_hasSyllable_0 : decode cX0_hasSyllable 0 = .ok (.aload_n 0, 1) := by decide +kernel
theorem dX0_hasSyllable_1 : decode cX0_hasSyllable 1 = .ok (.iload_n 1, 1) := by decide +kernel
theorem dX0_hasSyllable_2 : decode cX0_hasSyllable 2 = .ok (.invokevirtual 55, 3) := by decide +kernel
theorem dX0_hasSyllable_5 : decode cX0_hasSyllable 5 = .ok (.ifCond .eq 21, 3) := by decide +kernel
theorem dX0_hasSyllable_8 : decode cX0_hasSyllable 8 = .ok (.iload_n 2, 1) := by decide +kernel
theorem dX0_hasSyllable_9 : decode cX0_hasSyllable 9 = .ok (.ifCond .lt 17, 3) := by decide +kernel
theorem dX0_hasSyllable_12 : decode cX0_hasSyllable 12 = .ok (.iload_n 2, 1) := by decide +kernel
theorem dX0_hasSyllable_13 : decode cX0_hasSyllable 13 = .ok (.aload_n 0, 1) := by decide +kernel
theorem dX0_hasSyllable_14 : decode cX0_hasSyllable 14 = .ok (.getfield 19, 3) := by decide +kernel
theorem dX0_hasSyllable_17 : decode cX0_hasSyllable 17 = .ok (.iload_n 1, 1) := by decide +kernel
theorem dX0_hasSyllable_18 : decode cX0_hasSyllable 18 = .ok (.iaload, 1) := by decide +kernel
theorem dX0_hasSyllable_19 : decode cX0_hasSyllable 19 = .ok (.if_icmp .ge 7, 3) := by decide +kernel
theorem dX0_hasSyllable_22 : decode cX0_hasSyllable 22 = .ok (.iconst 1, 1) := by decide +kernel
theorem dX0_hasSyllable_23 : decode cX0_hasSyllable 23 = .ok (.goto 4, 3) := by decide +kernel
theorem dX0_hasSyllable_26 : decode cX0_hasSyllable 26 = .ok (.iconst 0, 1) := by decide +kernel
theorem dX0_hasSyllable_27 : decode cX0_hasSyllable 27 = .ok (.ireturn, 1) := by decide +kernel
theorem dX0_hasBeat_0 : decode cX0_hasBeat 0 = .ok (.aload_n 0, 1) := by decide +kernel
theorem dX0_hasBeat_1 : decode cX0_hasBeat 1 = .ok (.iload_n 1, 1) := by decide +kernel
theorem dX0_hasBeat_2 : decode cX0_hasBeat 2 = .ok (.invokevirtual 59, 3) := by decide +kernel
theorem dX0_hasBeat_5 : decode cX0_hasBeat 5 = .ok (.ifCond .eq 21, 3) := by decide +kernel
theorem dX0_hasBeat_8 : decode cX0_hasBeat 8 = .ok (.iload_n 2, 1) := by decide +kernel
theorem dX0_hasBeat_9 : decode cX0_hasBeat 9 = .ok (.ifCond .lt 17, 3) := by decide +kernel
theorem dX0_hasBeat_12 : decode cX0_hasBeat 12 = .ok (.iload_n 2, 1) := by decide +kernel
theorem dX0_hasBeat_13 : decode cX0_hasBeat 13 = .ok (.aload_n 0, 1) := by decide +kernel
theorem dX0_hasBeat_14 : decode cX0_hasBeat 14 = .ok (.getfield 28, 3) := by decide +kernel
theorem dX0_hasBeat_17 : decode cX0_hasBeat 17 = .ok (.iload_n 1, 1) := by decide +kernel
theorem dX0_hasBeat_18 : decode cX0_hasBeat 18 = .ok (.iaload, 1) := by decide +kernel
theorem dX0_hasBeat_19 : decode cX0_hasBeat 19 = .ok (.if_icmp .ge 7, 3) := by decide +kernel
theorem dX0_hasBeat_22 : decode cX0_hasBeat 22 = .ok (.iconst 1, 1) := by decide +kernel
theorem dX0_hasBeat_23 : decode cX0_hasBeat 23 = .ok (.goto 4, 3) := by decide +kernel
theorem dX0_hasBeat_26 : decode cX0_hasBeat 26 = .ok (.iconst 0, 1) := by decide +kernel
theorem dX0_hasBeat_27 : decode cX0_hasBeat 27 = .ok (.ireturn, 1) := by decide +kernel
theorem dX0_beginPart_0 : decode cX0_beginPart 0 = .ok (.iload_n 1, 1) := by decide +kernel
theorem dX0_beginPart_1 : decode cX0_beginPart 1 = .ok (.ifCond .eq 35, 3) := by decide +kernel
theorem dX0_beginPart_4 : decode cX0_beginPart 4 = .ok (.aload_n 0, 1) := by decide +kernel
theorem dX0_beginPart_5 : decode cX0_beginPart 5 = .ok (.getfield 25, 3) := by decide +kernel
theorem dX0_beginPart_8 : decode cX0_beginPart 8 = .ok (.bipush 8, 2) := by decide +kernel
theorem dX0_beginPart_10 : decode cX0_beginPart 10 = .ok (.if_icmp .ge 26, 3) := by decide +kernel
theorem dX0_beginPart_13 : decode cX0_beginPart 13 = .ok (.aload_n 0, 1) := by decide +kernel
theorem dX0_beginPart_14 : decode cX0_beginPart 14 = .ok (.getfield 28, 3) := by decide +kernel
theorem dX0_beginPart_17 : decode cX0_beginPart 17 = .ok (.aload_n 0, 1) := by decide +kernel
theorem dX0_beginPart_18 : decode cX0_beginPart 18 = .ok (.getfield 25, 3) := by decide +kernel
theorem dX0_beginPart_21 : decode cX0_beginPart 21 = .ok (.iconst 0, 1) := by decide +kernel
theorem dX0_beginPart_22 : decode cX0_beginPart 22 = .ok (.iastore, 1) := by decide +kernel
theorem dX0_beginPart_23 : decode cX0_beginPart 23 = .ok (.aload_n 0, 1) := by decide +kernel
theorem dX0_beginPart_24 : decode cX0_beginPart 24 = .ok (.dup, 1) := by decide +kernel
theorem dX0_beginPart_25 : decode cX0_beginPart 25 = .ok (.getfield 25, 3) := by decide +kernel
theorem dX0_beginPart_28 : decode cX0_beginPart 28 = .ok (.iconst 1, 1) := by decide +kernel
theorem dX0_beginPart_29 : decode cX0_beginPart 29 = .ok (.iadd, 1) := by decide +kernel
theorem dX0_beginPart_30 : decode cX0_beginPart 30 = .ok (.putfield 25, 3) := by decide +kernel
theorem dX0_beginPart_33 : decode cX0_beginPart 33 = .ok (.goto 36, 3) := by decide +kernel
theorem dX0_beginPart_36 : decode cX0_beginPart 36 = .ok (.iload_n 1, 1) := by decide +kernel
theorem dX0_beginPart_37 : decode cX0_beginPart 37 = .ok (.ifCond .ne 32, 3) := by decide +kernel
theorem dX0_beginPart_40 : decode cX0_beginPart 40 = .ok (.aload_n 0, 1) := by decide +kernel
theorem dX0_beginPart_41 : decode cX0_beginPart 41 = .ok (.getfield 15, 3) := by decide +kernel
theorem dX0_beginPart_44 : decode cX0_beginPart 44 = .ok (.bipush 16, 2) := by decide +kernel
theorem dX0_beginPart_46 : decode cX0_beginPart 46 = .ok (.if_icmp .ge 23, 3) := by decide +kernel
theorem dX0_beginPart_49 : decode cX0_beginPart 49 = .ok (.aload_n 0, 1) := by decide +kernel
theorem dX0_beginPart_50 : decode cX0_beginPart 50 = .ok (.getfield 19, 3) := by decide +kernel
theorem dX0_beginPart_53 : decode cX0_beginPart 53 = .ok (.aload_n 0, 1) := by decide +kernel
theorem dX0_beginPart_54 : decode cX0_beginPart 54 = .ok (.getfield 15, 3) := by decide +kernel
theorem dX0_beginPart_57 : decode cX0_beginPart 57 = .ok (.iconst 0, 1) := by decide +kernel
theorem dX0_beginPart_58 : decode cX0_beginPart 58 = .ok (.iastore, 1) := by decide +kernel
theorem dX0_beginPart_59 : decode cX0_beginPart 59 = .ok (.aload_n 0, 1) := by decide +kernel
theorem dX0_beginPart_60 : decode cX0_beginPart 60 = .ok (.dup, 1) := by decide +kernel
theorem dX0_beginPart_61 : decode cX0_beginPart 61 = .ok (.getfield 15, 3) := by decide +kernel
theorem dX0_beginPart_64 : decode cX0_beginPart 64 = .ok (.iconst 1, 1) := by decide +kernel
theorem dX0_beginPart_65 : decode cX0_beginPart 65 = .ok (.iadd, 1) := by decide +kernel
theorem dX0_beginPart_66 : decode cX0_beginPart 66 = .ok (.putfield 15, 3) := by decide +kernel
theorem dX0_beginPart_69 : decode cX0_beginPart 69 = .ok (.return_, 1) := by decide +kernel
theorem dX0_addSign_0 : decode cX0_addSign 0 = .ok (.iload_n 1, 1) := by decide +kernel
theorem dX0_addSign_1 : decode cX0_addSign 1 = .ok (.invokestatic 62, 3) := by decide +kernel
theorem dX0_addSign_4 : decode cX0_addSign 4 = .ok (.ifCond .eq 21, 3) := by decide +kernel
theorem dX0_addSign_7 : decode cX0_addSign 7 = .ok (.aload_n 0, 1) := by decide +kernel
theorem dX0_addSign_8 : decode cX0_addSign 8 = .ok (.iload_n 1, 1) := by decide +kernel
theorem dX0_addSign_9 : decode cX0_addSign 9 = .ok (.bipush 88, 2) := by decide +kernel
theorem dX0_addSign_11 : decode cX0_addSign 11 = .ok (.if_icmp .ne 7, 3) := by decide +kernel
theorem dX0_addSign_14 : decode cX0_addSign 14 = .ok (.iconst 1, 1) := by decide +kernel
theorem dX0_addSign_15 : decode cX0_addSign 15 = .ok (.goto 4, 3) := by decide +kernel
theorem dX0_addSign_18 : decode cX0_addSign 18 = .ok (.iconst 0, 1) := by decide +kernel
theorem dX0_addSign_19 : decode cX0_addSign 19 = .ok (.invokevirtual 68, 3) := by decide +kernel
theorem dX0_addSign_22 : decode cX0_addSign 22 = .ok (.goto 35, 3) := by decide +kernel
theorem dX0_addSign_25 : decode cX0_addSign 25 = .ok (.iload_n 1, 1) := by decide +kernel
theorem dX0_addSign_26 : decode cX0_addSign 26 = .ok (.invokestatic 72, 3) := by decide +kernel
theorem dX0_addSign_29 : decode cX0_addSign 29 = .ok (.ifCond .eq 28, 3) := by decide +kernel
theorem dX0_addSign_32 : decode cX0_addSign 32 = .ok (.aload_n 0, 1) := by decide +kernel
theorem dX0_addSign_33 : decode cX0_addSign 33 = .ok (.iload_n 1, 1) := by decide +kernel
theorem dX0_addSign_34 : decode cX0_addSign 34 = .ok (.bipush 115, 2) := by decide +kernel
theorem dX0_addSign_36 : decode cX0_addSign 36 = .ok (.if_icmp .ne 7, 3) := by decide +kernel
theorem dX0_addSign_39 : decode cX0_addSign 39 = .ok (.iconst 2, 1) := by decide +kernel
theorem dX0_addSign_40 : decode cX0_addSign 40 = .ok (.goto 14, 3) := by decide +kernel
theorem dX0_addSign_43 : decode cX0_addSign 43 = .ok (.iload_n 1, 1) := by decide +kernel
theorem dX0_addSign_44 : decode cX0_addSign 44 = .ok (.bipush 119, 2) := by decide +kernel
theorem dX0_addSign_46 : decode cX0_addSign 46 = .ok (.if_icmp .ne 7, 3) := by decide +kernel
theorem dX0_addSign_49 : decode cX0_addSign 49 = .ok (.iconst 1, 1) := by decide +kernel
theorem dX0_addSign_50 : decode cX0_addSign 50 = .ok (.goto 4, 3) := by decide +kernel
theorem dX0_addSign_53 : decode cX0_addSign 53 = .ok (.iconst 0, 1) := by decide +kernel
theorem dX0_addSign_54 : decode cX0_addSign 54 = .ok (.invokevirtual 75, 3) := by decide +kernel
theorem dX0_addSign_57 : decode cX0_addSign 57 = .ok (.return_, 1) := by decide +kernel
theorem dX0_addSyllable_0 : decode cX0_addSyllable 0 = .ok (.aload_n 0, 1) := by decide +kernel
theorem dX0_addSyllable_1 : decode cX0_addSyllable 1 = .ok (.getfield 15, 3) := by decide +kernel
theorem dX0_addSyllable_4 : decode cX0_addSyllable 4 = .ok (.iconst 1, 1) := by decide +kernel
theorem dX0_addSyllable_5 : decode cX0_addSyllable 5 = .ok (.isub, 1) := by decide +kernel
theorem dX0_addSyllable_6 : decode cX0_addSyllable 6 = .ok (.istore_n 2, 1) := by decide +kernel
theorem dX0_addSyllable_7 : decode cX0_addSyllable 7 = .ok (.iload_n 2, 1) := by decide +kernel
theorem dX0_addSyllable_8 : decode cX0_addSyllable 8 = .ok (.ifCond .lt 41, 3) := by decide +kernel
theorem dX0_addSyllable_11 : decode cX0_addSyllable 11 = .ok (.aload_n 0, 1) := by decide +kernel
theorem dX0_addSyllable_12 : decode cX0_addSyllable 12 = .ok (.getfield 19, 3) := by decide +kernel
theorem dX0_addSyllable_15 : decode cX0_addSyllable 15 = .ok (.iload_n 2, 1) := by decide +kernel
theorem dX0_addSyllable_16 : decode cX0_addSyllable 16 = .ok (.iaload, 1) := by decide +kernel
theorem dX0_addSyllable_17 : decode cX0_addSyllable 17 = .ok (.bipush 16, 2) := by decide +kernel
theorem dX0_addSyllable_19 : decode cX0_addSyllable 19 = .ok (.if_icmp .ge 30, 3) := by decide +kernel
theorem dX0_addSyllable_22 : decode cX0_addSyllable 22 = .ok (.aload_n 0, 1) := by decide +kernel
theorem dX0_addSyllable_23 : decode cX0_addSyllable 23 = .ok (.getfield 22, 3) := by decide +kernel
theorem dX0_addSyllable_26 : decode cX0_addSyllable 26 = .ok (.iload_n 2, 1) := by decide +kernel
theorem dX0_addSyllable_27 : decode cX0_addSyllable 27 = .ok (.bipush 16, 2) := by decide +kernel
theorem dX0_addSyllable_29 : decode cX0_addSyllable 29 = .ok (.imul, 1) := by decide +kernel
theorem dX0_addSyllable_30 : decode cX0_addSyllable 30 = .ok (.aload_n 0, 1) := by decide +kernel
theorem dX0_addSyllable_31 : decode cX0_addSyllable 31 = .ok (.getfield 19, 3) := by decide +kernel
theorem dX0_addSyllable_34 : decode cX0_addSyllable 34 = .ok (.iload_n 2, 1) := by decide +kernel
theorem dX0_addSyllable_35 : decode cX0_addSyllable 35 = .ok (.iaload, 1) := by decide +kernel
theorem dX0_addSyllable_36 : decode cX0_addSyllable 36 = .ok (.iadd, 1) := by decide +kernel
theorem dX0_addSyllable_37 : decode cX0_addSyllable 37 = .ok (.iload_n 1, 1) := by decide +kernel
theorem dX0_addSyllable_38 : decode cX0_addSyllable 38 = .ok (.iastore, 1) := by decide +kernel
theorem dX0_addSyllable_39 : decode cX0_addSyllable 39 = .ok (.aload_n 0, 1) := by decide +kernel
theorem dX0_addSyllable_40 : decode cX0_addSyllable 40 = .ok (.getfield 19, 3) := by decide +kernel
theorem dX0_addSyllable_43 : decode cX0_addSyllable 43 = .ok (.iload_n 2, 1) := by decide +kernel
theorem dX0_addSyllable_44 : decode cX0_addSyllable 44 = .ok (.dup2, 1) := by decide +kernel
theorem dX0_addSyllable_45 : decode cX0_addSyllable 45 = .ok (.iaload, 1) := by decide +kernel
theorem dX0_addSyllable_46 : decode cX0_addSyllable 46 = .ok (.iconst 1, 1) := by decide +kernel
theorem dX0_addSyllable_47 : decode cX0_addSyllable 47 = .ok (.iadd, 1) := by decide +kernel
theorem dX0_addSyllable_48 : decode cX0_addSyllable 48 = .ok (.iastore, 1) := by decide +kernel
theorem dX0_addSyllable_49 : decode cX0_addSyllable 49 = .ok (.return_, 1) := by decide +kernel
theorem dX0_addBeat_0 : decode cX0_addBeat 0 = .ok (.aload_n 0, 1) := by decide +kernel
theorem dX0_addBeat_1 : decode cX0_addBeat 1 = .ok (.getfield 25, 3) := by decide +kernel
theorem dX0_addBeat_4 : decode cX0_addBeat 4 = .ok (.iconst 1, 1) := by decide +kernel
theorem dX0_addBeat_5 : decode cX0_addBeat 5 = .ok (.isub, 1) := by decide +kernel
theorem dX0_addBeat_6 : decode cX0_addBeat 6 = .ok (.istore_n 2, 1) := by decide +kernel
theorem dX0_addBeat_7 : decode cX0_addBeat 7 = .ok (.iload_n 2, 1) := by decide +kernel
theorem dX0_addBeat_8 : decode cX0_addBeat 8 = .ok (.ifCond .lt 41, 3) := by decide +kernel
theorem dX0_addBeat_11 : decode cX0_addBeat 11 = .ok (.aload_n 0, 1) := by decide +kernel
theorem dX0_addBeat_12 : decode cX0_addBeat 12 = .ok (.getfield 28, 3) := by decide +kernel
theorem dX0_addBeat_15 : decode cX0_addBeat 15 = .ok (.iload_n 2, 1) := by decide +kernel
theorem dX0_addBeat_16 : decode cX0_addBeat 16 = .ok (.iaload, 1) := by decide +kernel
theorem dX0_addBeat_17 : decode cX0_addBeat 17 = .ok (.bipush 24, 2) := by decide +kernel
theorem dX0_addBeat_19 : decode cX0_addBeat 19 = .ok (.if_icmp .ge 30, 3) := by decide +kernel
theorem dX0_addBeat_22 : decode cX0_addBeat 22 = .ok (.aload_n 0, 1) := by decide +kernel
theorem dX0_addBeat_23 : decode cX0_addBeat 23 = .ok (.getfield 31, 3) := by decide +kernel
theorem dX0_addBeat_26 : decode cX0_addBeat 26 = .ok (.iload_n 2, 1) := by decide +kernel
theorem dX0_addBeat_27 : decode cX0_addBeat 27 = .ok (.bipush 24, 2) := by decide +kernel
theorem dX0_addBeat_29 : decode cX0_addBeat 29 = .ok (.imul, 1) := by decide +kernel
theorem dX0_addBeat_30 : decode cX0_addBeat 30 = .ok (.aload_n 0, 1) := by decide +kernel
theorem dX0_addBeat_31 : decode cX0_addBeat 31 = .ok (.getfield 28, 3) := by decide +kernel
theorem dX0_addBeat_34 : decode cX0_addBeat 34 = .ok (.iload_n 2, 1) := by decide +kernel
theorem dX0_addBeat_35 : decode cX0_addBeat 35 = .ok (.iaload, 1) := by decide +kernel
theorem dX0_addBeat_36 : decode cX0_addBeat 36 = .ok (.iadd, 1) := by decide +kernel
theorem dX0_addBeat_37 : decode cX0_addBeat 37 = .ok (.iload_n 1, 1) := by decide +kernel
theorem dX0_addBeat_38 : decode cX0_addBeat 38 = .ok (.iastore, 1) := by decide +kernel
theorem dX0_addBeat_39 : decode cX0_addBeat 39 = .ok (.aload_n 0, 1) := by decide +kernel
theorem dX0_addBeat_40 : decode cX0_addBeat 40 = .ok (.getfield 28, 3) := by decide +kernel
theorem dX0_addBeat_43 : decode cX0_addBeat 43 = .ok (.iload_n 2, 1) := by decide +kernel
theorem dX0_addBeat_44 : decode cX0_addBeat 44 = .ok (.dup2, 1) := by decide +kernel
theorem dX0_addBeat_45 : decode cX0_addBeat 45 = .ok (.iaload, 1) := by decide +kernel
theorem dX0_addBeat_46 : decode cX0_addBeat 46 = .ok (.iconst 1, 1) := by decide +kernel
theorem dX0_addBeat_47 : decode cX0_addBeat 47 = .ok (.iadd, 1) := by decide +kernel
theorem dX0_addBeat_48 : decode cX0_addBeat 48 = .ok (.iastore, 1) := by decide +kernel
theorem dX0_addBeat_49 : decode cX0_addBeat 49 = .ok (.return_, 1) := by decide +kernel
theorem dX0_removeLine_0 : decode cX0_removeLine 0 = .ok (.aload_n 0, 1) := by decide +kernel
theorem dX0_removeLine_1 : decode cX0_removeLine 1 = .ok (.getfield 15, 3) := by decide +kernel
theorem dX0_removeLine_4 : decode cX0_removeLine 4 = .ok (.iload_n 1, 1) := by decide +kernel
theorem dX0_removeLine_5 : decode cX0_removeLine 5 = .ok (.isub, 1) := by decide +kernel
theorem dX0_removeLine_6 : decode cX0_removeLine 6 = .ok (.iconst 1, 1) := by decide +kernel
theorem dX0_removeLine_7 : decode cX0_removeLine 7 = .ok (.isub, 1) := by decide +kernel
theorem dX0_removeLine_8 : decode cX0_removeLine 8 = .ok (.istore_n 2, 1) := by decide +kernel
theorem dX0_removeLine_9 : decode cX0_removeLine 9 = .ok (.aload_n 0, 1) := by decide +kernel
theorem dX0_removeLine_10 : decode cX0_removeLine 10 = .ok (.getfield 19, 3) := by decide +kernel
theorem dX0_removeLine_13 : decode cX0_removeLine 13 = .ok (.iload_n 1, 1) := by decide +kernel
theorem dX0_removeLine_14 : decode cX0_removeLine 14 = .ok (.iconst 1, 1) := by decide +kernel
theorem dX0_removeLine_15 : decode cX0_removeLine 15 = .ok (.iadd, 1) := by decide +kernel
theorem dX0_removeLine_16 : decode cX0_removeLine 16 = .ok (.aload_n 0, 1) := by decide +kernel
theorem dX0_removeLine_17 : decode cX0_removeLine 17 = .ok (.getfield 19, 3) := by decide +kernel
theorem dX0_removeLine_20 : decode cX0_removeLine 20 = .ok (.iload_n 1, 1) := by decide +kernel
theorem dX0_removeLine_21 : decode cX0_removeLine 21 = .ok (.iload_n 2, 1) := by decide +kernel
theorem dX0_removeLine_22 : decode cX0_removeLine 22 = .ok (.invokestatic 49, 3) := by decide +kernel
theorem dX0_removeLine_25 : decode cX0_removeLine 25 = .ok (.aload_n 0, 1) := by decide +kernel
theorem dX0_removeLine_26 : decode cX0_removeLine 26 = .ok (.getfield 22, 3) := by decide +kernel
theorem dX0_removeLine_29 : decode cX0_removeLine 29 = .ok (.iload_n 1, 1) := by decide +kernel
theorem dX0_removeLine_30 : decode cX0_removeLine 30 = .ok (.iconst 1, 1) := by decide +kernel
theorem dX0_removeLine_31 : decode cX0_removeLine 31 = .ok (.iadd, 1) := by decide +kernel
theorem dX0_removeLine_32 : decode cX0_removeLine 32 = .ok (.bipush 16, 2) := by decide +kernel
theorem dX0_removeLine_34 : decode cX0_removeLine 34 = .ok (.imul, 1) := by decide +kernel
theorem dX0_removeLine_35 : decode cX0_removeLine 35 = .ok (.aload_n 0, 1) := by decide +kernel
theorem dX0_removeLine_36 : decode cX0_removeLine 36 = .ok (.getfield 22, 3) := by decide +kernel
theorem dX0_removeLine_39 : decode cX0_removeLine 39 = .ok (.iload_n 1, 1) := by decide +kernel
theorem dX0_removeLine_40 : decode cX0_removeLine 40 = .ok (.bipush 16, 2) := by decide +kernel
theorem dX0_removeLine_42 : decode cX0_removeLine 42 = .ok (.imul, 1) := by decide +kernel
theorem dX0_removeLine_43 : decode cX0_removeLine 43 = .ok (.iload_n 2, 1) := by decide +kernel
theorem dX0_removeLine_44 : decode cX0_removeLine 44 = .ok (.bipush 16, 2) := by decide +kernel
theorem dX0_removeLine_46 : decode cX0_removeLine 46 = .ok (.imul, 1) := by decide +kernel
theorem dX0_removeLine_47 : decode cX0_removeLine 47 = .ok (.invokestatic 49, 3) := by decide +kernel
theorem dX0_removeLine_50 : decode cX0_removeLine 50 = .ok (.aload_n 0, 1) := by decide +kernel
theorem dX0_removeLine_51 : decode cX0_removeLine 51 = .ok (.dup, 1) := by decide +kernel
theorem dX0_removeLine_52 : decode cX0_removeLine 52 = .ok (.getfield 15, 3) := by decide +kernel
theorem dX0_removeLine_55 : decode cX0_removeLine 55 = .ok (.iconst 1, 1) := by decide +kernel
theorem dX0_removeLine_56 : decode cX0_removeLine 56 = .ok (.isub, 1) := by decide +kernel
theorem dX0_removeLine_57 : decode cX0_removeLine 57 = .ok (.putfield 15, 3) := by decide +kernel
theorem dX0_removeLine_60 : decode cX0_removeLine 60 = .ok (.aload_n 0, 1) := by decide +kernel
theorem dX0_removeLine_61 : decode cX0_removeLine 61 = .ok (.aload_n 0, 1) := by decide +kernel
theorem dX0_removeLine_62 : decode cX0_removeLine 62 = .ok (.getfield 37, 3) := by decide +kernel
theorem dX0_removeLine_65 : decode cX0_removeLine 65 = .ok (.aload_n 0, 1) := by decide +kernel
theorem dX0_removeLine_66 : decode cX0_removeLine 66 = .ok (.getfield 34, 3) := by decide +kernel
theorem dX0_removeLine_69 : decode cX0_removeLine 69 = .ok (.iload_n 1, 1) := by decide +kernel
theorem dX0_removeLine_70 : decode cX0_removeLine 70 = .ok (.invokestatic 78, 3) := by decide +kernel
theorem dX0_removeLine_73 : decode cX0_removeLine 73 = .ok (.putfield 34, 3) := by decide +kernel
theorem dX0_removeLine_76 : decode cX0_removeLine 76 = .ok (.return_, 1) := by decide +kernel
theorem dX0_removePhrase_0 : decode cX0_removePhrase 0 = .ok (.aload_n 0, 1) := by decide +kernel
theorem dX0_removePhrase_1 : decode cX0_removePhrase 1 = .ok (.getfield 25, 3) := by decide +kernel
theorem dX0_removePhrase_4 : decode cX0_removePhrase 4 = .ok (.iload_n 1, 1) := by decide +kernel
theorem dX0_removePhrase_5 : decode cX0_removePhrase 5 = .ok (.isub, 1) := by decide +kernel
theorem dX0_removePhrase_6 : decode cX0_removePhrase 6 = .ok (.iconst 1, 1) := by decide +kernel
theorem dX0_removePhrase_7 : decode cX0_removePhrase 7 = .ok (.isub, 1) := by decide +kernel
theorem dX0_removePhrase_8 : decode cX0_removePhrase 8 = .ok (.istore_n 2, 1) := by decide +kernel
theorem dX0_removePhrase_9 : decode cX0_removePhrase 9 = .ok (.aload_n 0, 1) := by decide +kernel
theorem dX0_removePhrase_10 : decode cX0_removePhrase 10 = .ok (.getfield 28, 3) := by decide +kernel
theorem dX0_removePhrase_13 : decode cX0_removePhrase 13 = .ok (.iload_n 1, 1) := by decide +kernel
theorem dX0_removePhrase_14 : decode cX0_removePhrase 14 = .ok (.iconst 1, 1) := by decide +kernel
theorem dX0_removePhrase_15 : decode cX0_removePhrase 15 = .ok (.iadd, 1) := by decide +kernel
theorem dX0_removePhrase_16 : decode cX0_removePhrase 16 = .ok (.aload_n 0, 1) := by decide +kernel
theorem dX0_removePhrase_17 : decode cX0_removePhrase 17 = .ok (.getfield 28, 3) := by decide +kernel
theorem dX0_removePhrase_20 : decode cX0_removePhrase 20 = .ok (.iload_n 1, 1) := by decide +kernel
theorem dX0_removePhrase_21 : decode cX0_removePhrase 21 = .ok (.iload_n 2, 1) := by decide +kernel
theorem dX0_removePhrase_22 : decode cX0_removePhrase 22 = .ok (.invokestatic 49, 3) := by decide +kernel
theorem dX0_removePhrase_25 : decode cX0_removePhrase 25 = .ok (.aload_n 0, 1) := by decide +kernel
theorem dX0_removePhrase_26 : decode cX0_removePhrase 26 = .ok (.getfield 31, 3) := by decide +kernel
theorem dX0_removePhrase_29 : decode cX0_removePhrase 29 = .ok (.iload_n 1, 1) := by decide +kernel
theorem dX0_removePhrase_30 : decode cX0_removePhrase 30 = .ok (.iconst 1, 1) := by decide +kernel
theorem dX0_removePhrase_31 : decode cX0_removePhrase 31 = .ok (.iadd, 1) := by decide +kernel
theorem dX0_removePhrase_32 : decode cX0_removePhrase 32 = .ok (.bipush 24, 2) := by decide +kernel
theorem dX0_removePhrase_34 : decode cX0_removePhrase 34 = .ok (.imul, 1) := by decide +kernel
theorem dX0_removePhrase_35 : decode cX0_removePhrase 35 = .ok (.aload_n 0, 1) := by decide +kernel
theorem dX0_removePhrase_36 : decode cX0_removePhrase 36 = .ok (.getfield 31, 3) := by decide +kernel
theorem dX0_removePhrase_39 : decode cX0_removePhrase 39 = .ok (.iload_n 1, 1) := by decide +kernel
theorem dX0_removePhrase_40 : decode cX0_removePhrase 40 = .ok (.bipush 24, 2) := by decide +kernel
theorem dX0_removePhrase_42 : decode cX0_removePhrase 42 = .ok (.imul, 1) := by decide +kernel
theorem dX0_removePhrase_43 : decode cX0_removePhrase 43 = .ok (.iload_n 2, 1) := by decide +kernel
theorem dX0_removePhrase_44 : decode cX0_removePhrase 44 = .ok (.bipush 24, 2) := by decide +kernel
theorem dX0_removePhrase_46 : decode cX0_removePhrase 46 = .ok (.imul, 1) := by decide +kernel
theorem dX0_removePhrase_47 : decode cX0_removePhrase 47 = .ok (.invokestatic 49, 3) := by decide +kernel
theorem dX0_removePhrase_50 : decode cX0_removePhrase 50 = .ok (.aload_n 0, 1) := by decide +kernel
theorem dX0_removePhrase_51 : decode cX0_removePhrase 51 = .ok (.dup, 1) := by decide +kernel
theorem dX0_removePhrase_52 : decode cX0_removePhrase 52 = .ok (.getfield 25, 3) := by decide +kernel
theorem dX0_removePhrase_55 : decode cX0_removePhrase 55 = .ok (.iconst 1, 1) := by decide +kernel
theorem dX0_removePhrase_56 : decode cX0_removePhrase 56 = .ok (.isub, 1) := by decide +kernel
theorem dX0_removePhrase_57 : decode cX0_removePhrase 57 = .ok (.putfield 25, 3) := by decide +kernel
theorem dX0_removePhrase_60 : decode cX0_removePhrase 60 = .ok (.aload_n 0, 1) := by decide +kernel
theorem dX0_removePhrase_61 : decode cX0_removePhrase 61 = .ok (.aload_n 0, 1) := by decide +kernel
theorem dX0_removePhrase_62 : decode cX0_removePhrase 62 = .ok (.getfield 43, 3) := by decide +kernel
theorem dX0_removePhrase_65 : decode cX0_removePhrase 65 = .ok (.aload_n 0, 1) := by decide +kernel
theorem dX0_removePhrase_66 : decode cX0_removePhrase 66 = .ok (.getfield 40, 3) := by decide +kernel
theorem dX0_removePhrase_69 : decode cX0_removePhrase 69 = .ok (.iload_n 1, 1) := by decide +kernel
theorem dX0_removePhrase_70 : decode cX0_removePhrase 70 = .ok (.invokestatic 78, 3) := by decide +kernel
theorem dX0_removePhrase_73 : decode cX0_removePhrase 73 = .ok (.putfield 40, 3) := by decide +kernel
theorem dX0_removePhrase_76 : decode cX0_removePhrase 76 = .ok (.return_, 1) := by decide +kernel
theorem dX0_withoutNumber_0 : decode cX0_withoutNumber 0 = .ok (.iconst 0, 1) := by decide +kernel
theorem dX0_withoutNumber_1 : decode cX0_withoutNumber 1 = .ok (.istore_n 3, 1) := by decide +kernel
theorem dX0_withoutNumber_2 : decode cX0_withoutNumber 2 = .ok (.iconst 0, 1) := by decide +kernel
theorem dX0_withoutNumber_3 : decode cX0_withoutNumber 3 = .ok (.istore 4, 2) := by decide +kernel
theorem dX0_withoutNumber_5 : decode cX0_withoutNumber 5 = .ok (.iload 4, 2) := by decide +kernel
theorem dX0_withoutNumber_7 : decode cX0_withoutNumber 7 = .ok (.iload_n 1, 1) := by decide +kernel
theorem dX0_withoutNumber_8 : decode cX0_withoutNumber 8 = .ok (.if_icmp .ge 44, 3) := by decide +kernel
theorem dX0_withoutNumber_11 : decode cX0_withoutNumber 11 = .ok (.aload_n 0, 1) := by decide +kernel
theorem dX0_withoutNumber_12 : decode cX0_withoutNumber 12 = .ok (.iload 4, 2) := by decide +kernel
theorem dX0_withoutNumber_14 : decode cX0_withoutNumber 14 = .ok (.iaload, 1) := by decide +kernel
theorem dX0_withoutNumber_15 : decode cX0_withoutNumber 15 = .ok (.iload_n 2, 1) := by decide +kernel
theorem dX0_withoutNumber_16 : decode cX0_withoutNumber 16 = .ok (.if_icmp .eq 30, 3) := by decide +kernel
theorem dX0_withoutNumber_19 : decode cX0_withoutNumber 19 = .ok (.aload_n 0, 1) := by decide +kernel
theorem dX0_withoutNumber_20 : decode cX0_withoutNumber 20 = .ok (.iload_n 3, 1) := by decide +kernel
theorem dX0_withoutNumber_21 : decode cX0_withoutNumber 21 = .ok (.aload_n 0, 1) := by decide +kernel
theorem dX0_withoutNumber_22 : decode cX0_withoutNumber 22 = .ok (.iload 4, 2) := by decide +kernel
theorem dX0_withoutNumber_24 : decode cX0_withoutNumber 24 = .ok (.iaload, 1) := by decide +kernel
theorem dX0_withoutNumber_25 : decode cX0_withoutNumber 25 = .ok (.iload_n 2, 1) := by decide +kernel
theorem dX0_withoutNumber_26 : decode cX0_withoutNumber 26 = .ok (.if_icmp .le 12, 3) := by decide +kernel
theorem dX0_withoutNumber_29 : decode cX0_withoutNumber 29 = .ok (.aload_n 0, 1) := by decide +kernel
theorem dX0_withoutNumber_30 : decode cX0_withoutNumber 30 = .ok (.iload 4, 2) := by decide +kernel
theorem dX0_withoutNumber_32 : decode cX0_withoutNumber 32 = .ok (.iaload, 1) := by decide +kernel
theorem dX0_withoutNumber_33 : decode cX0_withoutNumber 33 = .ok (.iconst 1, 1) := by decide +kernel
theorem dX0_withoutNumber_34 : decode cX0_withoutNumber 34 = .ok (.isub, 1) := by decide +kernel
theorem dX0_withoutNumber_35 : decode cX0_withoutNumber 35 = .ok (.goto 7, 3) := by decide +kernel
theorem dX0_withoutNumber_38 : decode cX0_withoutNumber 38 = .ok (.aload_n 0, 1) := by decide +kernel
theorem dX0_withoutNumber_39 : decode cX0_withoutNumber 39 = .ok (.iload 4, 2) := by decide +kernel
theorem dX0_withoutNumber_41 : decode cX0_withoutNumber 41 = .ok (.iaload, 1) := by decide +kernel
theorem dX0_withoutNumber_42 : decode cX0_withoutNumber 42 = .ok (.iastore, 1) := by decide +kernel
theorem dX0_withoutNumber_43 : decode cX0_withoutNumber 43 = .ok (.iinc 3 1, 3) := by decide +kernel
theorem dX0_withoutNumber_46 : decode cX0_withoutNumber 46 = .ok (.iinc 4 1, 3) := by decide +kernel
theorem dX0_withoutNumber_49 : decode cX0_withoutNumber 49 = .ok (.goto (-44), 3) := by decide +kernel
theorem dX0_withoutNumber_52 : decode cX0_withoutNumber 52 = .ok (.iload_n 3, 1) := by decide +kernel
theorem dX0_withoutNumber_53 : decode cX0_withoutNumber 53 = .ok (.ireturn, 1) := by decide +kernel
theorem dX0_addToBallad_0 : decode cX0_addToBallad 0 = .ok (.aload_n 0, 1) := by decide +kernel
theorem dX0_addToBallad_1 : decode cX0_addToBallad 1 = .ok (.getfield 34, 3) := by decide +kernel
theorem dX0_addToBallad_4 : decode cX0_addToBallad 4 = .ok (.bipush 40, 2) := by decide +kernel
theorem dX0_addToBallad_6 : decode cX0_addToBallad 6 = .ok (.if_icmp .ge 23, 3) := by decide +kernel
theorem dX0_addToBallad_9 : decode cX0_addToBallad 9 = .ok (.aload_n 0, 1) := by decide +kernel
theorem dX0_addToBallad_10 : decode cX0_addToBallad 10 = .ok (.getfield 37, 3) := by decide +kernel
theorem dX0_addToBallad_13 : decode cX0_addToBallad 13 = .ok (.aload_n 0, 1) := by decide +kernel
theorem dX0_addToBallad_14 : decode cX0_addToBallad 14 = .ok (.getfield 34, 3) := by decide +kernel
theorem dX0_addToBallad_17 : decode cX0_addToBallad 17 = .ok (.iload_n 1, 1) := by decide +kernel
theorem dX0_addToBallad_18 : decode cX0_addToBallad 18 = .ok (.iastore, 1) := by decide +kernel
theorem dX0_addToBallad_19 : decode cX0_addToBallad 19 = .ok (.aload_n 0, 1) := by decide +kernel
theorem dX0_addToBallad_20 : decode cX0_addToBallad 20 = .ok (.dup, 1) := by decide +kernel
theorem dX0_addToBallad_21 : decode cX0_addToBallad 21 = .ok (.getfield 34, 3) := by decide +kernel
theorem dX0_addToBallad_24 : decode cX0_addToBallad 24 = .ok (.iconst 1, 1) := by decide +kernel
theorem dX0_addToBallad_25 : decode cX0_addToBallad 25 = .ok (.iadd, 1) := by decide +kernel
theorem dX0_addToBallad_26 : decode cX0_addToBallad 26 = .ok (.putfield 34, 3) := by decide +kernel
theorem dX0_addToBallad_29 : decode cX0_addToBallad 29 = .ok (.return_, 1) := by decide +kernel
theorem dX0_addToTune_0 : decode cX0_addToTune 0 = .ok (.aload_n 0, 1) := by decide +kernel
theorem dX0_addToTune_1 : decode cX0_addToTune 1 = .ok (.getfield 40, 3) := by decide +kernel
theorem dX0_addToTune_4 : decode cX0_addToTune 4 = .ok (.bipush 8, 2) := by decide +kernel
theorem dX0_addToTune_6 : decode cX0_addToTune 6 = .ok (.if_icmp .ge 23, 3) := by decide +kernel
theorem dX0_addToTune_9 : decode cX0_addToTune 9 = .ok (.aload_n 0, 1) := by decide +kernel
theorem dX0_addToTune_10 : decode cX0_addToTune 10 = .ok (.getfield 43, 3) := by decide +kernel
theorem dX0_addToTune_13 : decode cX0_addToTune 13 = .ok (.aload_n 0, 1) := by decide +kernel
theorem dX0_addToTune_14 : decode cX0_addToTune 14 = .ok (.getfield 40, 3) := by decide +kernel
theorem dX0_addToTune_17 : decode cX0_addToTune 17 = .ok (.iload_n 1, 1) := by decide +kernel
theorem dX0_addToTune_18 : decode cX0_addToTune 18 = .ok (.iastore, 1) := by decide +kernel
theorem dX0_addToTune_19 : decode cX0_addToTune 19 = .ok (.aload_n 0, 1) := by decide +kernel
theorem dX0_addToTune_20 : decode cX0_addToTune 20 = .ok (.dup, 1) := by decide +kernel
theorem dX0_addToTune_21 : decode cX0_addToTune 21 = .ok (.getfield 40, 3) := by decide +kernel
theorem dX0_addToTune_24 : decode cX0_addToTune 24 = .ok (.iconst 1, 1) := by decide +kernel
theorem dX0_addToTune_25 : decode cX0_addToTune 25 = .ok (.iadd, 1) := by decide +kernel
theorem dX0_addToTune_26 : decode cX0_addToTune 26 = .ok (.putfield 40, 3) := by decide +kernel
theorem dX0_addToTune_29 : decode cX0_addToTune 29 = .ok (.return_, 1) := by decide +kernel
theorem dX0_timesSung_0 : decode cX0_timesSung 0 = .ok (.aload_n 0, 1) := by decide +kernel
theorem dX0_timesSung_1 : decode cX0_timesSung 1 = .ok (.getfield 37, 3) := by decide +kernel
theorem dX0_timesSung_4 : decode cX0_timesSung 4 = .ok (.aload_n 0, 1) := by decide +kernel
theorem dX0_timesSung_5 : decode cX0_timesSung 5 = .ok (.getfield 34, 3) := by decide +kernel
theorem dX0_timesSung_8 : decode cX0_timesSung 8 = .ok (.iload_n 1, 1) := by decide +kernel
theorem dX0_timesSung_9 : decode cX0_timesSung 9 = .ok (.invokestatic 82, 3) := by decide +kernel
theorem dX0_timesSung_12 : decode cX0_timesSung 12 = .ok (.ireturn, 1) := by decide +kernel
theorem dX0_timesPlayed_0 : decode cX0_timesPlayed 0 = .ok (.aload_n 0, 1) := by decide +kernel
theorem dX0_timesPlayed_1 : decode cX0_timesPlayed 1 = .ok (.getfield 43, 3) := by decide +kernel
theorem dX0_timesPlayed_4 : decode cX0_timesPlayed 4 = .ok (.aload_n 0, 1) := by decide +kernel
theorem dX0_timesPlayed_5 : decode cX0_timesPlayed 5 = .ok (.getfield 40, 3) := by decide +kernel
theorem dX0_timesPlayed_8 : decode cX0_timesPlayed 8 = .ok (.iload_n 1, 1) := by decide +kernel
theorem dX0_timesPlayed_9 : decode cX0_timesPlayed 9 = .ok (.invokestatic 82, 3) := by decide +kernel
theorem dX0_timesPlayed_12 : decode cX0_timesPlayed 12 = .ok (.ireturn, 1) := by decide +kernel
theorem dX0_timesIn_0 : decode cX0_timesIn 0 = .ok (.iconst 0, 1) := by decide +kernel
theorem dX0_timesIn_1 : decode cX0_timesIn 1 = .ok (.istore_n 3, 1) := by decide +kernel
theorem dX0_timesIn_2 : decode cX0_timesIn 2 = .ok (.iconst 0, 1) := by decide +kernel
theorem dX0_timesIn_3 : decode cX0_timesIn 3 = .ok (.istore 4, 2) := by decide +kernel
theorem dX0_timesIn_5 : decode cX0_timesIn 5 = .ok (.iload 4, 2) := by decide +kernel
theorem dX0_timesIn_7 : decode cX0_timesIn 7 = .ok (.iload_n 1, 1) := by decide +kernel
theorem dX0_timesIn_8 : decode cX0_timesIn 8 = .ok (.if_icmp .ge 20, 3) := by decide +kernel
theorem dX0_timesIn_11 : decode cX0_timesIn 11 = .ok (.aload_n 0, 1) := by decide +kernel
theorem dX0_timesIn_12 : decode cX0_timesIn 12 = .ok (.iload 4, 2) := by decide +kernel
theorem dX0_timesIn_14 : decode cX0_timesIn 14 = .ok (.iaload, 1) := by decide +kernel
theorem dX0_timesIn_15 : decode cX0_timesIn 15 = .ok (.iload_n 2, 1) := by decide +kernel
theorem dX0_timesIn_16 : decode cX0_timesIn 16 = .ok (.if_icmp .ne 6, 3) := by decide +kernel
theorem dX0_timesIn_19 : decode cX0_timesIn 19 = .ok (.iinc 3 1, 3) := by decide +kernel
theorem dX0_timesIn_22 : decode cX0_timesIn 22 = .ok (.iinc 4 1, 3) := by decide +kernel
theorem dX0_timesIn_25 : decode cX0_timesIn 25 = .ok (.goto (-20), 3) := by decide +kernel
theorem dX0_timesIn_28 : decode cX0_timesIn 28 = .ok (.iload_n 3, 1) := by decide +kernel
theorem dX0_timesIn_29 : decode cX0_timesIn 29 = .ok (.ireturn, 1) := by decide +kernel
theorem dX0_burdens_0 : decode cX0_burdens 0 = .ok (.iconst 0, 1) := by decide +kernel
theorem dX0_burdens_1 : decode cX0_burdens 1 = .ok (.istore_n 1, 1) := by decide +kernel
theorem dX0_burdens_2 : decode cX0_burdens 2 = .ok (.iconst 0, 1) := by decide +kernel
theorem dX0_burdens_3 : decode cX0_burdens 3 = .ok (.istore_n 2, 1) := by decide +kernel
theorem dX0_burdens_4 : decode cX0_burdens 4 = .ok (.iload_n 2, 1) := by decide +kernel
theorem dX0_burdens_5 : decode cX0_burdens 5 = .ok (.aload_n 0, 1) := by decide +kernel
theorem dX0_burdens_6 : decode cX0_burdens 6 = .ok (.getfield 15, 3) := by decide +kernel
theorem dX0_burdens_9 : decode cX0_burdens 9 = .ok (.if_icmp .ge 21, 3) := by decide +kernel
theorem dX0_burdens_12 : decode cX0_burdens 12 = .ok (.aload_n 0, 1) := by decide +kernel
theorem dX0_burdens_13 : decode cX0_burdens 13 = .ok (.iload_n 2, 1) := by decide +kernel
theorem dX0_burdens_14 : decode cX0_burdens 14 = .ok (.invokevirtual 85, 3) := by decide +kernel
theorem dX0_burdens_17 : decode cX0_burdens 17 = .ok (.iconst 2, 1) := by decide +kernel
theorem dX0_burdens_18 : decode cX0_burdens 18 = .ok (.if_icmp .lt 6, 3) := by decide +kernel
theorem dX0_burdens_21 : decode cX0_burdens 21 = .ok (.iinc 1 1, 3) := by decide +kernel
theorem dX0_burdens_24 : decode cX0_burdens 24 = .ok (.iinc 2 1, 3) := by decide +kernel
theorem dX0_burdens_27 : decode cX0_burdens 27 = .ok (.goto (-23), 3) := by decide +kernel
theorem dX0_burdens_30 : decode cX0_burdens 30 = .ok (.iload_n 1, 1) := by decide +kernel
theorem dX0_burdens_31 : decode cX0_burdens 31 = .ok (.ireturn, 1) := by decide +kernel
theorem dX0_stressedOf_0 : decode cX0_stressedOf 0 = .ok (.iconst 0, 1) := by decide +kernel
theorem dX0_stressedOf_1 : decode cX0_stressedOf 1 = .ok (.istore_n 2, 1) := by decide +kernel
theorem dX0_stressedOf_2 : decode cX0_stressedOf 2 = .ok (.iconst 0, 1) := by decide +kernel
theorem dX0_stressedOf_3 : decode cX0_stressedOf 3 = .ok (.istore_n 3, 1) := by decide +kernel
theorem dX0_stressedOf_4 : decode cX0_stressedOf 4 = .ok (.iload_n 3, 1) := by decide +kernel
theorem dX0_stressedOf_5 : decode cX0_stressedOf 5 = .ok (.aload_n 0, 1) := by decide +kernel
theorem dX0_stressedOf_6 : decode cX0_stressedOf 6 = .ok (.getfield 19, 3) := by decide +kernel
theorem dX0_stressedOf_9 : decode cX0_stressedOf 9 = .ok (.iload_n 1, 1) := by decide +kernel
theorem dX0_stressedOf_10 : decode cX0_stressedOf 10 = .ok (.iaload, 1) := by decide +kernel
theorem dX0_stressedOf_11 : decode cX0_stressedOf 11 = .ok (.if_icmp .ge 23, 3) := by decide +kernel
theorem dX0_stressedOf_14 : decode cX0_stressedOf 14 = .ok (.iload_n 2, 1) := by decide +kernel
theorem dX0_stressedOf_15 : decode cX0_stressedOf 15 = .ok (.aload_n 0, 1) := by decide +kernel
theorem dX0_stressedOf_16 : decode cX0_stressedOf 16 = .ok (.getfield 22, 3) := by decide +kernel
theorem dX0_stressedOf_19 : decode cX0_stressedOf 19 = .ok (.iload_n 1, 1) := by decide +kernel
theorem dX0_stressedOf_20 : decode cX0_stressedOf 20 = .ok (.bipush 16, 2) := by decide +kernel
theorem dX0_stressedOf_22 : decode cX0_stressedOf 22 = .ok (.imul, 1) := by decide +kernel
theorem dX0_stressedOf_23 : decode cX0_stressedOf 23 = .ok (.iload_n 3, 1) := by decide +kernel
theorem dX0_stressedOf_24 : decode cX0_stressedOf 24 = .ok (.iadd, 1) := by decide +kernel
theorem dX0_stressedOf_25 : decode cX0_stressedOf 25 = .ok (.iaload, 1) := by decide +kernel
theorem dX0_stressedOf_26 : decode cX0_stressedOf 26 = .ok (.iadd, 1) := by decide +kernel
theorem dX0_stressedOf_27 : decode cX0_stressedOf 27 = .ok (.istore_n 2, 1) := by decide +kernel
theorem dX0_stressedOf_28 : decode cX0_stressedOf 28 = .ok (.iinc 3 1, 3) := by decide +kernel
theorem dX0_stressedOf_31 : decode cX0_stressedOf 31 = .ok (.goto (-27), 3) := by decide +kernel
theorem dX0_stressedOf_34 : decode cX0_stressedOf 34 = .ok (.iload_n 2, 1) := by decide +kernel
theorem dX0_stressedOf_35 : decode cX0_stressedOf 35 = .ok (.ireturn, 1) := by decide +kernel
theorem dX0_beatsOfKind_0 : decode cX0_beatsOfKind 0 = .ok (.iconst 0, 1) := by decide +kernel
theorem dX0_beatsOfKind_1 : decode cX0_beatsOfKind 1 = .ok (.istore_n 3, 1) := by decide +kernel
theorem dX0_beatsOfKind_2 : decode cX0_beatsOfKind 2 = .ok (.iconst 0, 1) := by decide +kernel
theorem dX0_beatsOfKind_3 : decode cX0_beatsOfKind 3 = .ok (.istore 4, 2) := by decide +kernel
theorem dX0_beatsOfKind_5 : decode cX0_beatsOfKind 5 = .ok (.iload 4, 2) := by decide +kernel
theorem dX0_beatsOfKind_7 : decode cX0_beatsOfKind 7 = .ok (.aload_n 0, 1) := by decide +kernel
theorem dX0_beatsOfKind_8 : decode cX0_beatsOfKind 8 = .ok (.getfield 28, 3) := by decide +kernel
theorem dX0_beatsOfKind_11 : decode cX0_beatsOfKind 11 = .ok (.iload_n 1, 1) := by decide +kernel
theorem dX0_beatsOfKind_12 : decode cX0_beatsOfKind 12 = .ok (.iaload, 1) := by decide +kernel
theorem dX0_beatsOfKind_13 : decode cX0_beatsOfKind 13 = .ok (.if_icmp .ge 28, 3) := by decide +kernel
theorem dX0_beatsOfKind_16 : decode cX0_beatsOfKind 16 = .ok (.aload_n 0, 1) := by decide +kernel
theorem dX0_beatsOfKind_17 : decode cX0_beatsOfKind 17 = .ok (.getfield 31, 3) := by decide +kernel
theorem dX0_beatsOfKind_20 : decode cX0_beatsOfKind 20 = .ok (.iload_n 1, 1) := by decide +kernel
theorem dX0_beatsOfKind_21 : decode cX0_beatsOfKind 21 = .ok (.bipush 24, 2) := by decide +kernel
theorem dX0_beatsOfKind_23 : decode cX0_beatsOfKind 23 = .ok (.imul, 1) := by decide +kernel
theorem dX0_beatsOfKind_24 : decode cX0_beatsOfKind 24 = .ok (.iload 4, 2) := by decide +kernel
theorem dX0_beatsOfKind_26 : decode cX0_beatsOfKind 26 = .ok (.iadd, 1) := by decide +kernel
theorem dX0_beatsOfKind_27 : decode cX0_beatsOfKind 27 = .ok (.iaload, 1) := by decide +kernel
theorem dX0_beatsOfKind_28 : decode cX0_beatsOfKind 28 = .ok (.iload_n 2, 1) := by decide +kernel
theorem dX0_beatsOfKind_29 : decode cX0_beatsOfKind 29 = .ok (.if_icmp .ne 6, 3) := by decide +kernel
theorem dX0_beatsOfKind_32 : decode cX0_beatsOfKind 32 = .ok (.iinc 3 1, 3) := by decide +kernel
theorem dX0_beatsOfKind_35 : decode cX0_beatsOfKind 35 = .ok (.iinc 4 1, 3) := by decide +kernel
theorem dX0_beatsOfKind_38 : decode cX0_beatsOfKind 38 = .ok (.goto (-33), 3) := by decide +kernel
theorem dX0_beatsOfKind_41 : decode cX0_beatsOfKind 41 = .ok (.iload_n 3, 1) := by decide +kernel
theorem dX0_beatsOfKind_42 : decode cX0_beatsOfKind 42 = .ok (.ireturn, 1) := by decide +kernel
theorem dX0_longestRow_0 : decode cX0_longestRow 0 = .ok (.iconst 0, 1) := by decide +kernel
theorem dX0_longestRow_1 : decode cX0_longestRow 1 = .ok (.istore_n 2, 1) := by decide +kernel
theorem dX0_longestRow_2 : decode cX0_longestRow 2 = .ok (.iconst 0, 1) := by decide +kernel
theorem dX0_longestRow_3 : decode cX0_longestRow 3 = .ok (.istore_n 3, 1) := by decide +kernel
theorem dX0_longestRow_4 : decode cX0_longestRow 4 = .ok (.iconst 0, 1) := by decide +kernel
theorem dX0_longestRow_5 : decode cX0_longestRow 5 = .ok (.istore 4, 2) := by decide +kernel
theorem dX0_longestRow_7 : decode cX0_longestRow 7 = .ok (.iload 4, 2) := by decide +kernel
theorem dX0_longestRow_9 : decode cX0_longestRow 9 = .ok (.aload_n 0, 1) := by decide +kernel
theorem dX0_longestRow_10 : decode cX0_longestRow 10 = .ok (.getfield 28, 3) := by decide +kernel
theorem dX0_longestRow_13 : decode cX0_longestRow 13 = .ok (.iload_n 1, 1) := by decide +kernel
theorem dX0_longestRow_14 : decode cX0_longestRow 14 = .ok (.iaload, 1) := by decide +kernel
theorem dX0_longestRow_15 : decode cX0_longestRow 15 = .ok (.if_icmp .ge 38, 3) := by decide +kernel
theorem dX0_longestRow_18 : decode cX0_longestRow 18 = .ok (.aload_n 0, 1) := by decide +kernel
theorem dX0_longestRow_19 : decode cX0_longestRow 19 = .ok (.getfield 31, 3) := by decide +kernel
theorem dX0_longestRow_22 : decode cX0_longestRow 22 = .ok (.iload_n 1, 1) := by decide +kernel
theorem dX0_longestRow_23 : decode cX0_longestRow 23 = .ok (.bipush 24, 2) := by decide +kernel
theorem dX0_longestRow_25 : decode cX0_longestRow 25 = .ok (.imul, 1) := by decide +kernel
theorem dX0_longestRow_26 : decode cX0_longestRow 26 = .ok (.iload 4, 2) := by decide +kernel
theorem dX0_longestRow_28 : decode cX0_longestRow 28 = .ok (.iadd, 1) := by decide +kernel
theorem dX0_longestRow_29 : decode cX0_longestRow 29 = .ok (.iaload, 1) := by decide +kernel
theorem dX0_longestRow_30 : decode cX0_longestRow 30 = .ok (.ifCond .ne 7, 3) := by decide +kernel
theorem dX0_longestRow_33 : decode cX0_longestRow 33 = .ok (.iconst 0, 1) := by decide +kernel
theorem dX0_longestRow_34 : decode cX0_longestRow 34 = .ok (.goto 6, 3) := by decide +kernel
theorem dX0_longestRow_37 : decode cX0_longestRow 37 = .ok (.iload_n 3, 1) := by decide +kernel
theorem dX0_longestRow_38 : decode cX0_longestRow 38 = .ok (.iconst 1, 1) := by decide +kernel
theorem dX0_longestRow_39 : decode cX0_longestRow 39 = .ok (.iadd, 1) := by decide +kernel
theorem dX0_longestRow_40 : decode cX0_longestRow 40 = .ok (.istore_n 3, 1) := by decide +kernel
theorem dX0_longestRow_41 : decode cX0_longestRow 41 = .ok (.iload_n 2, 1) := by decide +kernel
theorem dX0_longestRow_42 : decode cX0_longestRow 42 = .ok (.iload_n 3, 1) := by decide +kernel
theorem dX0_longestRow_43 : decode cX0_longestRow 43 = .ok (.invokestatic 89, 3) := by decide +kernel
theorem dX0_longestRow_46 : decode cX0_longestRow 46 = .ok (.istore_n 2, 1) := by decide +kernel
theorem dX0_longestRow_47 : decode cX0_longestRow 47 = .ok (.iinc 4 1, 3) := by decide +kernel
theorem dX0_longestRow_50 : decode cX0_longestRow 50 = .ok (.goto (-43), 3) := by decide +kernel
theorem dX0_longestRow_53 : decode cX0_longestRow 53 = .ok (.iload_n 2, 1) := by decide +kernel
theorem dX0_longestRow_54 : decode cX0_longestRow 54 = .ok (.ireturn, 1) := by decide +kernel
