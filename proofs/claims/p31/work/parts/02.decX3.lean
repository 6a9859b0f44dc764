theorem dX3_init_0 : decode cX3_init 0 = .ok (.aload_n 0, 1) := by decide +kernel
theorem dX3_init_1 : decode cX3_init 1 = .ok (.invokespecial 1, 3) := by decide +kernel
theorem dX3_init_4 : decode cX3_init 4 = .ok (.aload_n 0, 1) := by decide +kernel
theorem dX3_init_5 : decode cX3_init 5 = .ok (.new 7, 3) := by decide +kernel
theorem dX3_init_8 : decode cX3_init 8 = .ok (.dup, 1) := by decide +kernel
theorem dX3_init_9 : decode cX3_init 9 = .ok (.invokespecial 9, 3) := by decide +kernel
theorem dX3_init_12 : decode cX3_init 12 = .ok (.putfield 10, 3) := by decide +kernel
theorem dX3_init_15 : decode cX3_init 15 = .ok (.aload_n 0, 1) := by decide +kernel
theorem dX3_init_16 : decode cX3_init 16 = .ok (.new 16, 3) := by decide +kernel
theorem dX3_init_19 : decode cX3_init 19 = .ok (.dup, 1) := by decide +kernel
theorem dX3_init_20 : decode cX3_init 20 = .ok (.invokespecial 18, 3) := by decide +kernel
theorem dX3_init_23 : decode cX3_init 23 = .ok (.putfield 19, 3) := by decide +kernel
theorem dX3_init_26 : decode cX3_init 26 = .ok (.aload_n 0, 1) := by decide +kernel
theorem dX3_init_27 : decode cX3_init 27 = .ok (.new 23, 3) := by decide +kernel
theorem dX3_init_30 : decode cX3_init 30 = .ok (.dup, 1) := by decide +kernel
theorem dX3_init_31 : decode cX3_init 31 = .ok (.invokespecial 25, 3) := by decide +kernel
theorem dX3_init_34 : decode cX3_init 34 = .ok (.putfield 26, 3) := by decide +kernel
theorem dX3_init_37 : decode cX3_init 37 = .ok (.aload_n 0, 1) := by decide +kernel
theorem dX3_init_38 : decode cX3_init 38 = .ok (.bipush 6, 2) := by decide +kernel
theorem dX3_init_40 : decode cX3_init 40 = .ok (.anewarray 7, 3) := by decide +kernel
theorem dX3_init_43 : decode cX3_init 43 = .ok (.putfield 30, 3) := by decide +kernel
theorem dX3_init_46 : decode cX3_init 46 = .ok (.aload_n 0, 1) := by decide +kernel
theorem dX3_init_47 : decode cX3_init 47 = .ok (.iconst 0, 1) := by decide +kernel
theorem dX3_init_48 : decode cX3_init 48 = .ok (.putfield 34, 3) := by decide +kernel
theorem dX3_init_51 : decode cX3_init 51 = .ok (.aload_n 0, 1) := by decide +kernel
theorem dX3_init_52 : decode cX3_init 52 = .ok (.iconst 2, 1) := by decide +kernel
theorem dX3_init_53 : decode cX3_init 53 = .ok (.anewarray 7, 3) := by decide +kernel
theorem dX3_init_56 : decode cX3_init 56 = .ok (.putfield 38, 3) := by decide +kernel
theorem dX3_init_59 : decode cX3_init 59 = .ok (.aload_n 0, 1) := by decide +kernel
theorem dX3_init_60 : decode cX3_init 60 = .ok (.iconst 2, 1) := by decide +kernel
theorem dX3_init_61 : decode cX3_init 61 = .ok (.newarray .boolean, 2) := by decide +kernel
theorem dX3_init_63 : decode cX3_init 63 = .ok (.putfield 41, 3) := by decide +kernel
theorem dX3_init_66 : decode cX3_init 66 = .ok (.iconst 0, 1) := by decide +kernel
theorem dX3_init_67 : decode cX3_init 67 = .ok (.istore_n 1, 1) := by decide +kernel
theorem dX3_init_68 : decode cX3_init 68 = .ok (.iload_n 1, 1) := by decide +kernel
theorem dX3_init_69 : decode cX3_init 69 = .ok (.bipush 6, 2) := by decide +kernel
theorem dX3_init_71 : decode cX3_init 71 = .ok (.if_icmp .ge 22, 3) := by decide +kernel
theorem dX3_init_74 : decode cX3_init 74 = .ok (.aload_n 0, 1) := by decide +kernel
theorem dX3_init_75 : decode cX3_init 75 = .ok (.getfield 30, 3) := by decide +kernel
theorem dX3_init_78 : decode cX3_init 78 = .ok (.iload_n 1, 1) := by decide +kernel
theorem dX3_init_79 : decode cX3_init 79 = .ok (.new 7, 3) := by decide +kernel
theorem dX3_init_82 : decode cX3_init 82 = .ok (.dup, 1) := by decide +kernel
theorem dX3_init_83 : decode cX3_init 83 = .ok (.invokespecial 9, 3) := by decide +kernel
theorem dX3_init_86 : decode cX3_init 86 = .ok (.aastore, 1) := by decide +kernel
theorem dX3_init_87 : decode cX3_init 87 = .ok (.iinc 1 1, 3) := by decide +kernel
theorem dX3_init_90 : decode cX3_init 90 = .ok (.goto (-22), 3) := by decide +kernel
theorem dX3_init_93 : decode cX3_init 93 = .ok (.iconst 0, 1) := by decide +kernel
theorem dX3_init_94 : decode cX3_init 94 = .ok (.istore_n 1, 1) := by decide +kernel
theorem dX3_init_95 : decode cX3_init 95 = .ok (.iload_n 1, 1) := by decide +kernel
theorem dX3_init_96 : decode cX3_init 96 = .ok (.iconst 2, 1) := by decide +kernel
theorem dX3_init_97 : decode cX3_init 97 = .ok (.if_icmp .ge 22, 3) := by decide +kernel
theorem dX3_init_100 : decode cX3_init 100 = .ok (.aload_n 0, 1) := by decide +kernel
theorem dX3_init_101 : decode cX3_init 101 = .ok (.getfield 38, 3) := by decide +kernel
theorem dX3_init_104 : decode cX3_init 104 = .ok (.iload_n 1, 1) := by decide +kernel
theorem dX3_init_105 : decode cX3_init 105 = .ok (.new 7, 3) := by decide +kernel
theorem dX3_init_108 : decode cX3_init 108 = .ok (.dup, 1) := by decide +kernel
theorem dX3_init_109 : decode cX3_init 109 = .ok (.invokespecial 9, 3) := by decide +kernel
theorem dX3_init_112 : decode cX3_init 112 = .ok (.aastore, 1) := by decide +kernel
theorem dX3_init_113 : decode cX3_init 113 = .ok (.iinc 1 1, 3) := by decide +kernel
theorem dX3_init_116 : decode cX3_init 116 = .ok (.goto (-21), 3) := by decide +kernel
theorem dX3_init_119 : decode cX3_init 119 = .ok (.return_, 1) := by decide +kernel
theorem dX3_set_0 : decode cX3_set 0 = .ok (.iload_n 1, 1) := by decide +kernel
theorem dX3_set_1 : decode cX3_set 1 = .ok (.ifCond .lt 8, 3) := by decide +kernel
theorem dX3_set_4 : decode cX3_set 4 = .ok (.iload_n 1, 1) := by decide +kernel
theorem dX3_set_5 : decode cX3_set 5 = .ok (.iconst 4, 1) := by decide +kernel
theorem dX3_set_6 : decode cX3_set 6 = .ok (.if_icmp .lt 6, 3) := by decide +kernel
theorem dX3_set_9 : decode cX3_set 9 = .ok (.bipush (-2), 2) := by decide +kernel
theorem dX3_set_11 : decode cX3_set 11 = .ok (.ireturn, 1) := by decide +kernel
theorem dX3_set_12 : decode cX3_set 12 = .ok (.iload_n 2, 1) := by decide +kernel
theorem dX3_set_13 : decode cX3_set 13 = .ok (.getstatic 45, 3) := by decide +kernel
theorem dX3_set_16 : decode cX3_set 16 = .ok (.iload_n 1, 1) := by decide +kernel
theorem dX3_set_17 : decode cX3_set 17 = .ok (.iaload, 1) := by decide +kernel
theorem dX3_set_18 : decode cX3_set 18 = .ok (.if_icmp .lt 12, 3) := by decide +kernel
theorem dX3_set_21 : decode cX3_set 21 = .ok (.iload_n 2, 1) := by decide +kernel
theorem dX3_set_22 : decode cX3_set 22 = .ok (.getstatic 49, 3) := by decide +kernel
theorem dX3_set_25 : decode cX3_set 25 = .ok (.iload_n 1, 1) := by decide +kernel
theorem dX3_set_26 : decode cX3_set 26 = .ok (.iaload, 1) := by decide +kernel
theorem dX3_set_27 : decode cX3_set 27 = .ok (.if_icmp .le 6, 3) := by decide +kernel
theorem dX3_set_30 : decode cX3_set 30 = .ok (.bipush (-2), 2) := by decide +kernel
theorem dX3_set_32 : decode cX3_set 32 = .ok (.ireturn, 1) := by decide +kernel
theorem dX3_set_33 : decode cX3_set 33 = .ok (.aload_n 0, 1) := by decide +kernel
theorem dX3_set_34 : decode cX3_set 34 = .ok (.invokevirtual 52, 3) := by decide +kernel
theorem dX3_set_37 : decode cX3_set 37 = .ok (.aload_n 0, 1) := by decide +kernel
theorem dX3_set_38 : decode cX3_set 38 = .ok (.getfield 10, 3) := by decide +kernel
theorem dX3_set_41 : decode cX3_set 41 = .ok (.getfield 55, 3) := by decide +kernel
theorem dX3_set_44 : decode cX3_set 44 = .ok (.iload_n 1, 1) := by decide +kernel
theorem dX3_set_45 : decode cX3_set 45 = .ok (.iaload, 1) := by decide +kernel
theorem dX3_set_46 : decode cX3_set 46 = .ok (.istore_n 3, 1) := by decide +kernel
theorem dX3_set_47 : decode cX3_set 47 = .ok (.aload_n 0, 1) := by decide +kernel
theorem dX3_set_48 : decode cX3_set 48 = .ok (.getfield 10, 3) := by decide +kernel
theorem dX3_set_51 : decode cX3_set 51 = .ok (.getfield 55, 3) := by decide +kernel
theorem dX3_set_54 : decode cX3_set 54 = .ok (.iload_n 1, 1) := by decide +kernel
theorem dX3_set_55 : decode cX3_set 55 = .ok (.iload_n 2, 1) := by decide +kernel
theorem dX3_set_56 : decode cX3_set 56 = .ok (.iastore, 1) := by decide +kernel
theorem dX3_set_57 : decode cX3_set 57 = .ok (.iload_n 3, 1) := by decide +kernel
theorem dX3_set_58 : decode cX3_set 58 = .ok (.ireturn, 1) := by decide +kernel
theorem dX3_write_0 : decode cX3_write 0 = .ok (.aload_n 0, 1) := by decide +kernel
theorem dX3_write_1 : decode cX3_write 1 = .ok (.getfield 19, 3) := by decide +kernel
theorem dX3_write_4 : decode cX3_write 4 = .ok (.invokevirtual 58, 3) := by decide +kernel
theorem dX3_write_7 : decode cX3_write 7 = .ok (.bipush (-6), 2) := by decide +kernel
theorem dX3_write_9 : decode cX3_write 9 = .ok (.if_icmp .eq 6, 3) := by decide +kernel
theorem dX3_write_12 : decode cX3_write 12 = .ok (.bipush (-3), 2) := by decide +kernel
theorem dX3_write_14 : decode cX3_write 14 = .ok (.ireturn, 1) := by decide +kernel
theorem dX3_write_15 : decode cX3_write 15 = .ok (.aload_n 0, 1) := by decide +kernel
theorem dX3_write_16 : decode cX3_write 16 = .ok (.getfield 19, 3) := by decide +kernel
theorem dX3_write_19 : decode cX3_write 19 = .ok (.invokevirtual 62, 3) := by decide +kernel
theorem dX3_write_22 : decode cX3_write 22 = .ok (.istore_n 1, 1) := by decide +kernel
theorem dX3_write_23 : decode cX3_write 23 = .ok (.aload_n 0, 1) := by decide +kernel
theorem dX3_write_24 : decode cX3_write 24 = .ok (.getfield 19, 3) := by decide +kernel
theorem dX3_write_27 : decode cX3_write 27 = .ok (.invokevirtual 65, 3) := by decide +kernel
theorem dX3_write_30 : decode cX3_write 30 = .ok (.iload_n 1, 1) := by decide +kernel
theorem dX3_write_31 : decode cX3_write 31 = .ok (.isub, 1) := by decide +kernel
theorem dX3_write_32 : decode cX3_write 32 = .ok (.istore_n 2, 1) := by decide +kernel
theorem dX3_write_33 : decode cX3_write 33 = .ok (.aload_n 0, 1) := by decide +kernel
theorem dX3_write_34 : decode cX3_write 34 = .ok (.getfield 10, 3) := by decide +kernel
theorem dX3_write_37 : decode cX3_write 37 = .ok (.getfield 68, 3) := by decide +kernel
theorem dX3_write_40 : decode cX3_write 40 = .ok (.iload_n 2, 1) := by decide +kernel
theorem dX3_write_41 : decode cX3_write 41 = .ok (.iadd, 1) := by decide +kernel
theorem dX3_write_42 : decode cX3_write 42 = .ok (.bipush 16, 2) := by decide +kernel
theorem dX3_write_44 : decode cX3_write 44 = .ok (.if_icmp .gt 17, 3) := by decide +kernel
theorem dX3_write_47 : decode cX3_write 47 = .ok (.aload_n 0, 1) := by decide +kernel
theorem dX3_write_48 : decode cX3_write 48 = .ok (.getfield 10, 3) := by decide +kernel
theorem dX3_write_51 : decode cX3_write 51 = .ok (.getfield 71, 3) := by decide +kernel
theorem dX3_write_54 : decode cX3_write 54 = .ok (.iload_n 1, 1) := by decide +kernel
theorem dX3_write_55 : decode cX3_write 55 = .ok (.iadd, 1) := by decide +kernel
theorem dX3_write_56 : decode cX3_write 56 = .ok (.bipush 8, 2) := by decide +kernel
theorem dX3_write_58 : decode cX3_write 58 = .ok (.if_icmp .le 6, 3) := by decide +kernel
theorem dX3_write_61 : decode cX3_write 61 = .ok (.bipush (-4), 2) := by decide +kernel
theorem dX3_write_63 : decode cX3_write 63 = .ok (.ireturn, 1) := by decide +kernel
theorem dX3_write_64 : decode cX3_write 64 = .ok (.aload_n 0, 1) := by decide +kernel
theorem dX3_write_65 : decode cX3_write 65 = .ok (.invokevirtual 52, 3) := by decide +kernel
theorem dX3_write_68 : decode cX3_write 68 = .ok (.iconst 0, 1) := by decide +kernel
theorem dX3_write_69 : decode cX3_write 69 = .ok (.istore_n 3, 1) := by decide +kernel
theorem dX3_write_70 : decode cX3_write 70 = .ok (.iload_n 3, 1) := by decide +kernel
theorem dX3_write_71 : decode cX3_write 71 = .ok (.aload_n 0, 1) := by decide +kernel
theorem dX3_write_72 : decode cX3_write 72 = .ok (.getfield 19, 3) := by decide +kernel
theorem dX3_write_75 : decode cX3_write 75 = .ok (.getfield 74, 3) := by decide +kernel
theorem dX3_write_78 : decode cX3_write 78 = .ok (.if_icmp .ge 62, 3) := by decide +kernel
theorem dX3_write_81 : decode cX3_write 81 = .ok (.aload_n 0, 1) := by decide +kernel
theorem dX3_write_82 : decode cX3_write 82 = .ok (.getfield 19, 3) := by decide +kernel
theorem dX3_write_85 : decode cX3_write 85 = .ok (.iload_n 3, 1) := by decide +kernel
theorem dX3_write_86 : decode cX3_write 86 = .ok (.invokevirtual 77, 3) := by decide +kernel
theorem dX3_write_89 : decode cX3_write 89 = .ok (.ifCond .eq 29, 3) := by decide +kernel
theorem dX3_write_92 : decode cX3_write 92 = .ok (.aload_n 0, 1) := by decide +kernel
theorem dX3_write_93 : decode cX3_write 93 = .ok (.getfield 10, 3) := by decide +kernel
theorem dX3_write_96 : decode cX3_write 96 = .ok (.aload_n 0, 1) := by decide +kernel
theorem dX3_write_97 : decode cX3_write 97 = .ok (.getfield 19, 3) := by decide +kernel
theorem dX3_write_100 : decode cX3_write 100 = .ok (.getfield 81, 3) := by decide +kernel
theorem dX3_write_103 : decode cX3_write 103 = .ok (.iload_n 3, 1) := by decide +kernel
theorem dX3_write_104 : decode cX3_write 104 = .ok (.caload, 1) := by decide +kernel
theorem dX3_write_105 : decode cX3_write 105 = .ok (.bipush 124, 2) := by decide +kernel
theorem dX3_write_107 : decode cX3_write 107 = .ok (.if_icmp .ne 7, 3) := by decide +kernel
theorem dX3_write_110 : decode cX3_write 110 = .ok (.iconst 1, 1) := by decide +kernel
theorem dX3_write_111 : decode cX3_write 111 = .ok (.goto 4, 3) := by decide +kernel
theorem dX3_write_114 : decode cX3_write 114 = .ok (.iconst 0, 1) := by decide +kernel
theorem dX3_write_115 : decode cX3_write 115 = .ok (.invokevirtual 85, 3) := by decide +kernel
theorem dX3_write_118 : decode cX3_write 118 = .ok (.aload_n 0, 1) := by decide +kernel
theorem dX3_write_119 : decode cX3_write 119 = .ok (.getfield 10, 3) := by decide +kernel
theorem dX3_write_122 : decode cX3_write 122 = .ok (.aload_n 0, 1) := by decide +kernel
theorem dX3_write_123 : decode cX3_write 123 = .ok (.getfield 19, 3) := by decide +kernel
theorem dX3_write_126 : decode cX3_write 126 = .ok (.getfield 81, 3) := by decide +kernel
theorem dX3_write_129 : decode cX3_write 129 = .ok (.iload_n 3, 1) := by decide +kernel
theorem dX3_write_130 : decode cX3_write 130 = .ok (.caload, 1) := by decide +kernel
theorem dX3_write_131 : decode cX3_write 131 = .ok (.invokevirtual 89, 3) := by decide +kernel
theorem dX3_write_134 : decode cX3_write 134 = .ok (.iinc 3 1, 3) := by decide +kernel
theorem dX3_write_137 : decode cX3_write 137 = .ok (.goto (-67), 3) := by decide +kernel
theorem dX3_write_140 : decode cX3_write 140 = .ok (.aload_n 0, 1) := by decide +kernel
theorem dX3_write_141 : decode cX3_write 141 = .ok (.getfield 19, 3) := by decide +kernel
theorem dX3_write_144 : decode cX3_write 144 = .ok (.iconst 0, 1) := by decide +kernel
theorem dX3_write_145 : decode cX3_write 145 = .ok (.putfield 74, 3) := by decide +kernel
theorem dX3_write_148 : decode cX3_write 148 = .ok (.aload_n 0, 1) := by decide +kernel
theorem dX3_write_149 : decode cX3_write 149 = .ok (.getfield 10, 3) := by decide +kernel
theorem dX3_write_152 : decode cX3_write 152 = .ok (.getfield 68, 3) := by decide +kernel
theorem dX3_write_155 : decode cX3_write 155 = .ok (.ireturn, 1) := by decide +kernel
theorem dX3_dropLine_0 : decode cX3_dropLine 0 = .ok (.aload_n 0, 1) := by decide +kernel
theorem dX3_dropLine_1 : decode cX3_dropLine 1 = .ok (.getfield 10, 3) := by decide +kernel
theorem dX3_dropLine_4 : decode cX3_dropLine 4 = .ok (.iload_n 1, 1) := by decide +kernel
theorem dX3_dropLine_5 : decode cX3_dropLine 5 = .ok (.invokevirtual 93, 3) := by decide +kernel
theorem dX3_dropLine_8 : decode cX3_dropLine 8 = .ok (.ifCond .ne 5, 3) := by decide +kernel
theorem dX3_dropLine_11 : decode cX3_dropLine 11 = .ok (.iconst (-1), 1) := by decide +kernel
theorem dX3_dropLine_12 : decode cX3_dropLine 12 = .ok (.ireturn, 1) := by decide +kernel
theorem dX3_dropLine_13 : decode cX3_dropLine 13 = .ok (.aload_n 0, 1) := by decide +kernel
theorem dX3_dropLine_14 : decode cX3_dropLine 14 = .ok (.invokevirtual 52, 3) := by decide +kernel
theorem dX3_dropLine_17 : decode cX3_dropLine 17 = .ok (.aload_n 0, 1) := by decide +kernel
theorem dX3_dropLine_18 : decode cX3_dropLine 18 = .ok (.getfield 10, 3) := by decide +kernel
theorem dX3_dropLine_21 : decode cX3_dropLine 21 = .ok (.iload_n 1, 1) := by decide +kernel
theorem dX3_dropLine_22 : decode cX3_dropLine 22 = .ok (.invokevirtual 96, 3) := by decide +kernel
theorem dX3_dropLine_25 : decode cX3_dropLine 25 = .ok (.aload_n 0, 1) := by decide +kernel
theorem dX3_dropLine_26 : decode cX3_dropLine 26 = .ok (.getfield 10, 3) := by decide +kernel
theorem dX3_dropLine_29 : decode cX3_dropLine 29 = .ok (.getfield 100, 3) := by decide +kernel
theorem dX3_dropLine_32 : decode cX3_dropLine 32 = .ok (.ireturn, 1) := by decide +kernel
theorem dX3_dropPhrase_0 : decode cX3_dropPhrase 0 = .ok (.aload_n 0, 1) := by decide +kernel
theorem dX3_dropPhrase_1 : decode cX3_dropPhrase 1 = .ok (.getfield 10, 3) := by decide +kernel
theorem dX3_dropPhrase_4 : decode cX3_dropPhrase 4 = .ok (.iload_n 1, 1) := by decide +kernel
theorem dX3_dropPhrase_5 : decode cX3_dropPhrase 5 = .ok (.invokevirtual 103, 3) := by decide +kernel
theorem dX3_dropPhrase_8 : decode cX3_dropPhrase 8 = .ok (.ifCond .ne 5, 3) := by decide +kernel
theorem dX3_dropPhrase_11 : decode cX3_dropPhrase 11 = .ok (.iconst (-1), 1) := by decide +kernel
theorem dX3_dropPhrase_12 : decode cX3_dropPhrase 12 = .ok (.ireturn, 1) := by decide +kernel
theorem dX3_dropPhrase_13 : decode cX3_dropPhrase 13 = .ok (.aload_n 0, 1) := by decide +kernel
theorem dX3_dropPhrase_14 : decode cX3_dropPhrase 14 = .ok (.invokevirtual 52, 3) := by decide +kernel
theorem dX3_dropPhrase_17 : decode cX3_dropPhrase 17 = .ok (.aload_n 0, 1) := by decide +kernel
theorem dX3_dropPhrase_18 : decode cX3_dropPhrase 18 = .ok (.getfield 10, 3) := by decide +kernel
theorem dX3_dropPhrase_21 : decode cX3_dropPhrase 21 = .ok (.iload_n 1, 1) := by decide +kernel
theorem dX3_dropPhrase_22 : decode cX3_dropPhrase 22 = .ok (.invokevirtual 106, 3) := by decide +kernel
theorem dX3_dropPhrase_25 : decode cX3_dropPhrase 25 = .ok (.aload_n 0, 1) := by decide +kernel
theorem dX3_dropPhrase_26 : decode cX3_dropPhrase 26 = .ok (.getfield 10, 3) := by decide +kernel
theorem dX3_dropPhrase_29 : decode cX3_dropPhrase 29 = .ok (.getfield 109, 3) := by decide +kernel
theorem dX3_dropPhrase_32 : decode cX3_dropPhrase 32 = .ok (.ireturn, 1) := by decide +kernel
theorem dX3_stress_0 : decode cX3_stress 0 = .ok (.aload_n 0, 1) := by decide +kernel
theorem dX3_stress_1 : decode cX3_stress 1 = .ok (.getfield 10, 3) := by decide +kernel
theorem dX3_stress_4 : decode cX3_stress 4 = .ok (.iload_n 1, 1) := by decide +kernel
theorem dX3_stress_5 : decode cX3_stress 5 = .ok (.iload_n 2, 1) := by decide +kernel
theorem dX3_stress_6 : decode cX3_stress 6 = .ok (.invokevirtual 112, 3) := by decide +kernel
theorem dX3_stress_9 : decode cX3_stress 9 = .ok (.ifCond .ne 5, 3) := by decide +kernel
theorem dX3_stress_12 : decode cX3_stress 12 = .ok (.iconst (-1), 1) := by decide +kernel
theorem dX3_stress_13 : decode cX3_stress 13 = .ok (.ireturn, 1) := by decide +kernel
theorem dX3_stress_14 : decode cX3_stress 14 = .ok (.aload_n 0, 1) := by decide +kernel
theorem dX3_stress_15 : decode cX3_stress 15 = .ok (.invokevirtual 52, 3) := by decide +kernel
theorem dX3_stress_18 : decode cX3_stress 18 = .ok (.iload_n 1, 1) := by decide +kernel
theorem dX3_stress_19 : decode cX3_stress 19 = .ok (.bipush 16, 2) := by decide +kernel
theorem dX3_stress_21 : decode cX3_stress 21 = .ok (.imul, 1) := by decide +kernel
theorem dX3_stress_22 : decode cX3_stress 22 = .ok (.iload_n 2, 1) := by decide +kernel
theorem dX3_stress_23 : decode cX3_stress 23 = .ok (.iadd, 1) := by decide +kernel
theorem dX3_stress_24 : decode cX3_stress 24 = .ok (.istore 4, 2) := by decide +kernel
theorem dX3_stress_26 : decode cX3_stress 26 = .ok (.aload_n 0, 1) := by decide +kernel
theorem dX3_stress_27 : decode cX3_stress 27 = .ok (.getfield 10, 3) := by decide +kernel
theorem dX3_stress_30 : decode cX3_stress 30 = .ok (.getfield 116, 3) := by decide +kernel
theorem dX3_stress_33 : decode cX3_stress 33 = .ok (.iload 4, 2) := by decide +kernel
theorem dX3_stress_35 : decode cX3_stress 35 = .ok (.iaload, 1) := by decide +kernel
theorem dX3_stress_36 : decode cX3_stress 36 = .ok (.istore 5, 2) := by decide +kernel
theorem dX3_stress_38 : decode cX3_stress 38 = .ok (.aload_n 0, 1) := by decide +kernel
theorem dX3_stress_39 : decode cX3_stress 39 = .ok (.getfield 10, 3) := by decide +kernel
theorem dX3_stress_42 : decode cX3_stress 42 = .ok (.getfield 116, 3) := by decide +kernel
theorem dX3_stress_45 : decode cX3_stress 45 = .ok (.iload 4, 2) := by decide +kernel
theorem dX3_stress_47 : decode cX3_stress 47 = .ok (.iload_n 3, 1) := by decide +kernel
theorem dX3_stress_48 : decode cX3_stress 48 = .ok (.ifCond .eq 7, 3) := by decide +kernel
theorem dX3_stress_51 : decode cX3_stress 51 = .ok (.iconst 1, 1) := by decide +kernel
theorem dX3_stress_52 : decode cX3_stress 52 = .ok (.goto 4, 3) := by decide +kernel
theorem dX3_stress_55 : decode cX3_stress 55 = .ok (.iconst 0, 1) := by decide +kernel
theorem dX3_stress_56 : decode cX3_stress 56 = .ok (.iastore, 1) := by decide +kernel
theorem dX3_stress_57 : decode cX3_stress 57 = .ok (.iload 5, 2) := by decide +kernel
theorem dX3_stress_59 : decode cX3_stress 59 = .ok (.ireturn, 1) := by decide +kernel
theorem dX3_beat_0 : decode cX3_beat 0 = .ok (.aload_n 0, 1) := by decide +kernel
theorem dX3_beat_1 : decode cX3_beat 1 = .ok (.getfield 10, 3) := by decide +kernel
theorem dX3_beat_4 : decode cX3_beat 4 = .ok (.iload_n 1, 1) := by decide +kernel
theorem dX3_beat_5 : decode cX3_beat 5 = .ok (.iload_n 2, 1) := by decide +kernel
theorem dX3_beat_6 : decode cX3_beat 6 = .ok (.invokevirtual 119, 3) := by decide +kernel
theorem dX3_beat_9 : decode cX3_beat 9 = .ok (.ifCond .ne 5, 3) := by decide +kernel
theorem dX3_beat_12 : decode cX3_beat 12 = .ok (.iconst (-1), 1) := by decide +kernel
theorem dX3_beat_13 : decode cX3_beat 13 = .ok (.ireturn, 1) := by decide +kernel
theorem dX3_beat_14 : decode cX3_beat 14 = .ok (.iload_n 3, 1) := by decide +kernel
theorem dX3_beat_15 : decode cX3_beat 15 = .ok (.ifCond .lt 8, 3) := by decide +kernel
theorem dX3_beat_18 : decode cX3_beat 18 = .ok (.iload_n 3, 1) := by decide +kernel
theorem dX3_beat_19 : decode cX3_beat 19 = .ok (.iconst 2, 1) := by decide +kernel
theorem dX3_beat_20 : decode cX3_beat 20 = .ok (.if_icmp .le 6, 3) := by decide +kernel
theorem dX3_beat_23 : decode cX3_beat 23 = .ok (.bipush (-2), 2) := by decide +kernel
theorem dX3_beat_25 : decode cX3_beat 25 = .ok (.ireturn, 1) := by decide +kernel
theorem dX3_beat_26 : decode cX3_beat 26 = .ok (.aload_n 0, 1) := by decide +kernel
theorem dX3_beat_27 : decode cX3_beat 27 = .ok (.invokevirtual 52, 3) := by decide +kernel
theorem dX3_beat_30 : decode cX3_beat 30 = .ok (.iload_n 1, 1) := by decide +kernel
theorem dX3_beat_31 : decode cX3_beat 31 = .ok (.bipush 24, 2) := by decide +kernel
theorem dX3_beat_33 : decode cX3_beat 33 = .ok (.imul, 1) := by decide +kernel
theorem dX3_beat_34 : decode cX3_beat 34 = .ok (.iload_n 2, 1) := by decide +kernel
theorem dX3_beat_35 : decode cX3_beat 35 = .ok (.iadd, 1) := by decide +kernel
theorem dX3_beat_36 : decode cX3_beat 36 = .ok (.istore 4, 2) := by decide +kernel
theorem dX3_beat_38 : decode cX3_beat 38 = .ok (.aload_n 0, 1) := by decide +kernel
theorem dX3_beat_39 : decode cX3_beat 39 = .ok (.getfield 10, 3) := by decide +kernel
theorem dX3_beat_42 : decode cX3_beat 42 = .ok (.getfield 122, 3) := by decide +kernel
theorem dX3_beat_45 : decode cX3_beat 45 = .ok (.iload 4, 2) := by decide +kernel
theorem dX3_beat_47 : decode cX3_beat 47 = .ok (.iaload, 1) := by decide +kernel
theorem dX3_beat_48 : decode cX3_beat 48 = .ok (.istore 5, 2) := by decide +kernel
theorem dX3_beat_50 : decode cX3_beat 50 = .ok (.aload_n 0, 1) := by decide +kernel
theorem dX3_beat_51 : decode cX3_beat 51 = .ok (.getfield 10, 3) := by decide +kernel
theorem dX3_beat_54 : decode cX3_beat 54 = .ok (.getfield 122, 3) := by decide +kernel
theorem dX3_beat_57 : decode cX3_beat 57 = .ok (.iload 4, 2) := by decide +kernel
theorem dX3_beat_59 : decode cX3_beat 59 = .ok (.iload_n 3, 1) := by decide +kernel
theorem dX3_beat_60 : decode cX3_beat 60 = .ok (.iastore, 1) := by decide +kernel
theorem dX3_beat_61 : decode cX3_beat 61 = .ok (.iload 5, 2) := by decide +kernel
theorem dX3_beat_63 : decode cX3_beat 63 = .ok (.ireturn, 1) := by decide +kernel
theorem dX3_sing_0 : decode cX3_sing 0 = .ok (.aload_n 0, 1) := by decide +kernel
theorem dX3_sing_1 : decode cX3_sing 1 = .ok (.getfield 10, 3) := by decide +kernel
theorem dX3_sing_4 : decode cX3_sing 4 = .ok (.iload_n 1, 1) := by decide +kernel
theorem dX3_sing_5 : decode cX3_sing 5 = .ok (.invokevirtual 93, 3) := by decide +kernel
theorem dX3_sing_8 : decode cX3_sing 8 = .ok (.ifCond .ne 5, 3) := by decide +kernel
theorem dX3_sing_11 : decode cX3_sing 11 = .ok (.iconst (-1), 1) := by decide +kernel
theorem dX3_sing_12 : decode cX3_sing 12 = .ok (.ireturn, 1) := by decide +kernel
theorem dX3_sing_13 : decode cX3_sing 13 = .ok (.aload_n 0, 1) := by decide +kernel
theorem dX3_sing_14 : decode cX3_sing 14 = .ok (.getfield 10, 3) := by decide +kernel
theorem dX3_sing_17 : decode cX3_sing 17 = .ok (.getfield 100, 3) := by decide +kernel
theorem dX3_sing_20 : decode cX3_sing 20 = .ok (.bipush 40, 2) := by decide +kernel
theorem dX3_sing_22 : decode cX3_sing 22 = .ok (.if_icmp .lt 6, 3) := by decide +kernel
theorem dX3_sing_25 : decode cX3_sing 25 = .ok (.bipush (-4), 2) := by decide +kernel
theorem dX3_sing_27 : decode cX3_sing 27 = .ok (.ireturn, 1) := by decide +kernel
theorem dX3_sing_28 : decode cX3_sing 28 = .ok (.aload_n 0, 1) := by decide +kernel
theorem dX3_sing_29 : decode cX3_sing 29 = .ok (.invokevirtual 52, 3) := by decide +kernel
theorem dX3_sing_32 : decode cX3_sing 32 = .ok (.aload_n 0, 1) := by decide +kernel
theorem dX3_sing_33 : decode cX3_sing 33 = .ok (.getfield 10, 3) := by decide +kernel
theorem dX3_sing_36 : decode cX3_sing 36 = .ok (.iload_n 1, 1) := by decide +kernel
theorem dX3_sing_37 : decode cX3_sing 37 = .ok (.invokevirtual 125, 3) := by decide +kernel
theorem dX3_sing_40 : decode cX3_sing 40 = .ok (.aload_n 0, 1) := by decide +kernel
theorem dX3_sing_41 : decode cX3_sing 41 = .ok (.getfield 10, 3) := by decide +kernel
theorem dX3_sing_44 : decode cX3_sing 44 = .ok (.getfield 100, 3) := by decide +kernel
theorem dX3_sing_47 : decode cX3_sing 47 = .ok (.ireturn, 1) := by decide +kernel
theorem dX3_play_0 : decode cX3_play 0 = .ok (.aload_n 0, 1) := by decide +kernel
theorem dX3_play_1 : decode cX3_play 1 = .ok (.getfield 10, 3) := by decide +kernel
theorem dX3_play_4 : decode cX3_play 4 = .ok (.iload_n 1, 1) := by decide +kernel
theorem dX3_play_5 : decode cX3_play 5 = .ok (.invokevirtual 103, 3) := by decide +kernel
theorem dX3_play_8 : decode cX3_play 8 = .ok (.ifCond .ne 5, 3) := by decide +kernel
theorem dX3_play_11 : decode cX3_play 11 = .ok (.iconst (-1), 1) := by decide +kernel
theorem dX3_play_12 : decode cX3_play 12 = .ok (.ireturn, 1) := by decide +kernel
theorem dX3_play_13 : decode cX3_play 13 = .ok (.aload_n 0, 1) := by decide +kernel
theorem dX3_play_14 : decode cX3_play 14 = .ok (.getfield 10, 3) := by decide +kernel
theorem dX3_play_17 : decode cX3_play 17 = .ok (.getfield 109, 3) := by decide +kernel
theorem dX3_play_20 : decode cX3_play 20 = .ok (.bipush 8, 2) := by decide +kernel
theorem dX3_play_22 : decode cX3_play 22 = .ok (.if_icmp .lt 6, 3) := by decide +kernel
theorem dX3_play_25 : decode cX3_play 25 = .ok (.bipush (-4), 2) := by decide +kernel
theorem dX3_play_27 : decode cX3_play 27 = .ok (.ireturn, 1) := by decide +kernel
theorem dX3_play_28 : decode cX3_play 28 = .ok (.aload_n 0, 1) := by decide +kernel
theorem dX3_play_29 : decode cX3_play 29 = .ok (.invokevirtual 52, 3) := by decide +kernel
theorem dX3_play_32 : decode cX3_play 32 = .ok (.aload_n 0, 1) := by decide +kernel
theorem dX3_play_33 : decode cX3_play 33 = .ok (.getfield 10, 3) := by decide +kernel
theorem dX3_play_36 : decode cX3_play 36 = .ok (.iload_n 1, 1) := by decide +kernel
theorem dX3_play_37 : decode cX3_play 37 = .ok (.invokevirtual 128, 3) := by decide +kernel
theorem dX3_play_40 : decode cX3_play 40 = .ok (.aload_n 0, 1) := by decide +kernel
theorem dX3_play_41 : decode cX3_play 41 = .ok (.getfield 10, 3) := by decide +kernel
theorem dX3_play_44 : decode cX3_play 44 = .ok (.getfield 109, 3) := by decide +kernel
theorem dX3_play_47 : decode cX3_play 47 = .ok (.ireturn, 1) := by decide +kernel
theorem dX3_verse_0 : decode cX3_verse 0 = .ok (.aload_n 0, 1) := by decide +kernel
theorem dX3_verse_1 : decode cX3_verse 1 = .ok (.getfield 10, 3) := by decide +kernel
theorem dX3_verse_4 : decode cX3_verse 4 = .ok (.iload_n 1, 1) := by decide +kernel
theorem dX3_verse_5 : decode cX3_verse 5 = .ok (.invokevirtual 93, 3) := by decide +kernel
theorem dX3_verse_8 : decode cX3_verse 8 = .ok (.ifCond .eq 25, 3) := by decide +kernel
theorem dX3_verse_11 : decode cX3_verse 11 = .ok (.aload_n 0, 1) := by decide +kernel
theorem dX3_verse_12 : decode cX3_verse 12 = .ok (.getfield 10, 3) := by decide +kernel
theorem dX3_verse_15 : decode cX3_verse 15 = .ok (.iload_n 2, 1) := by decide +kernel
theorem dX3_verse_16 : decode cX3_verse 16 = .ok (.invokevirtual 93, 3) := by decide +kernel
theorem dX3_verse_19 : decode cX3_verse 19 = .ok (.ifCond .eq 14, 3) := by decide +kernel
theorem dX3_verse_22 : decode cX3_verse 22 = .ok (.aload_n 0, 1) := by decide +kernel
theorem dX3_verse_23 : decode cX3_verse 23 = .ok (.getfield 10, 3) := by decide +kernel
theorem dX3_verse_26 : decode cX3_verse 26 = .ok (.iload_n 3, 1) := by decide +kernel
theorem dX3_verse_27 : decode cX3_verse 27 = .ok (.invokevirtual 93, 3) := by decide +kernel
theorem dX3_verse_30 : decode cX3_verse 30 = .ok (.ifCond .ne 5, 3) := by decide +kernel
theorem dX3_verse_33 : decode cX3_verse 33 = .ok (.iconst (-1), 1) := by decide +kernel
theorem dX3_verse_34 : decode cX3_verse 34 = .ok (.ireturn, 1) := by decide +kernel
theorem dX3_verse_35 : decode cX3_verse 35 = .ok (.iload_n 2, 1) := by decide +kernel
theorem dX3_verse_36 : decode cX3_verse 36 = .ok (.iload_n 1, 1) := by decide +kernel
theorem dX3_verse_37 : decode cX3_verse 37 = .ok (.if_icmp .ge 6, 3) := by decide +kernel
theorem dX3_verse_40 : decode cX3_verse 40 = .ok (.bipush (-2), 2) := by decide +kernel
theorem dX3_verse_42 : decode cX3_verse 42 = .ok (.ireturn, 1) := by decide +kernel
theorem dX3_verse_43 : decode cX3_verse 43 = .ok (.aload_n 0, 1) := by decide +kernel
theorem dX3_verse_44 : decode cX3_verse 44 = .ok (.getfield 10, 3) := by decide +kernel
theorem dX3_verse_47 : decode cX3_verse 47 = .ok (.getfield 100, 3) := by decide +kernel
theorem dX3_verse_50 : decode cX3_verse 50 = .ok (.iconst 2, 1) := by decide +kernel
theorem dX3_verse_51 : decode cX3_verse 51 = .ok (.iload_n 2, 1) := by decide +kernel
theorem dX3_verse_52 : decode cX3_verse 52 = .ok (.iload_n 1, 1) := by decide +kernel
theorem dX3_verse_53 : decode cX3_verse 53 = .ok (.isub, 1) := by decide +kernel
theorem dX3_verse_54 : decode cX3_verse 54 = .ok (.iconst 1, 1) := by decide +kernel
theorem dX3_verse_55 : decode cX3_verse 55 = .ok (.iadd, 1) := by decide +kernel
theorem dX3_verse_56 : decode cX3_verse 56 = .ok (.imul, 1) := by decide +kernel
theorem dX3_verse_57 : decode cX3_verse 57 = .ok (.iadd, 1) := by decide +kernel
theorem dX3_verse_58 : decode cX3_verse 58 = .ok (.bipush 40, 2) := by decide +kernel
theorem dX3_verse_60 : decode cX3_verse 60 = .ok (.if_icmp .le 6, 3) := by decide +kernel
theorem dX3_verse_63 : decode cX3_verse 63 = .ok (.bipush (-4), 2) := by decide +kernel
theorem dX3_verse_65 : decode cX3_verse 65 = .ok (.ireturn, 1) := by decide +kernel
theorem dX3_verse_66 : decode cX3_verse 66 = .ok (.aload_n 0, 1) := by decide +kernel
theorem dX3_verse_67 : decode cX3_verse 67 = .ok (.invokevirtual 52, 3) := by decide +kernel
theorem dX3_verse_70 : decode cX3_verse 70 = .ok (.iload_n 1, 1) := by decide +kernel
theorem dX3_verse_71 : decode cX3_verse 71 = .ok (.istore 4, 2) := by decide +kernel
theorem dX3_verse_73 : decode cX3_verse 73 = .ok (.iload 4, 2) := by decide +kernel
theorem dX3_verse_75 : decode cX3_verse 75 = .ok (.iload_n 2, 1) := by decide +kernel
theorem dX3_verse_76 : decode cX3_verse 76 = .ok (.if_icmp .gt 26, 3) := by decide +kernel
theorem dX3_verse_79 : decode cX3_verse 79 = .ok (.aload_n 0, 1) := by decide +kernel
theorem dX3_verse_80 : decode cX3_verse 80 = .ok (.getfield 10, 3) := by decide +kernel
theorem dX3_verse_83 : decode cX3_verse 83 = .ok (.iload 4, 2) := by decide +kernel
theorem dX3_verse_85 : decode cX3_verse 85 = .ok (.invokevirtual 125, 3) := by decide +kernel
theorem dX3_verse_88 : decode cX3_verse 88 = .ok (.aload_n 0, 1) := by decide +kernel
theorem dX3_verse_89 : decode cX3_verse 89 = .ok (.getfield 10, 3) := by decide +kernel
theorem dX3_verse_92 : decode cX3_verse 92 = .ok (.iload_n 3, 1) := by decide +kernel
theorem dX3_verse_93 : decode cX3_verse 93 = .ok (.invokevirtual 125, 3) := by decide +kernel
theorem dX3_verse_96 : decode cX3_verse 96 = .ok (.iinc 4 1, 3) := by decide +kernel
theorem dX3_verse_99 : decode cX3_verse 99 = .ok (.goto (-26), 3) := by decide +kernel
theorem dX3_verse_102 : decode cX3_verse 102 = .ok (.aload_n 0, 1) := by decide +kernel
theorem dX3_verse_103 : decode cX3_verse 103 = .ok (.getfield 10, 3) := by decide +kernel
theorem dX3_verse_106 : decode cX3_verse 106 = .ok (.getfield 100, 3) := by decide +kernel
theorem dX3_verse_109 : decode cX3_verse 109 = .ok (.ireturn, 1) := by decide +kernel
theorem dX3_clear_0 : decode cX3_clear 0 = .ok (.aload_n 0, 1) := by decide +kernel
theorem dX3_clear_1 : decode cX3_clear 1 = .ok (.invokevirtual 52, 3) := by decide +kernel
theorem dX3_clear_4 : decode cX3_clear 4 = .ok (.iload_n 1, 1) := by decide +kernel
theorem dX3_clear_5 : decode cX3_clear 5 = .ok (.ifCond .eq 13, 3) := by decide +kernel
theorem dX3_clear_8 : decode cX3_clear 8 = .ok (.aload_n 0, 1) := by decide +kernel
theorem dX3_clear_9 : decode cX3_clear 9 = .ok (.getfield 10, 3) := by decide +kernel
theorem dX3_clear_12 : decode cX3_clear 12 = .ok (.getfield 109, 3) := by decide +kernel
theorem dX3_clear_15 : decode cX3_clear 15 = .ok (.goto 10, 3) := by decide +kernel
theorem dX3_clear_18 : decode cX3_clear 18 = .ok (.aload_n 0, 1) := by decide +kernel
theorem dX3_clear_19 : decode cX3_clear 19 = .ok (.getfield 10, 3) := by decide +kernel
theorem dX3_clear_22 : decode cX3_clear 22 = .ok (.getfield 100, 3) := by decide +kernel
theorem dX3_clear_25 : decode cX3_clear 25 = .ok (.istore_n 2, 1) := by decide +kernel
theorem dX3_clear_26 : decode cX3_clear 26 = .ok (.iload_n 1, 1) := by decide +kernel
theorem dX3_clear_27 : decode cX3_clear 27 = .ok (.ifCond .eq 14, 3) := by decide +kernel
theorem dX3_clear_30 : decode cX3_clear 30 = .ok (.aload_n 0, 1) := by decide +kernel
theorem dX3_clear_31 : decode cX3_clear 31 = .ok (.getfield 10, 3) := by decide +kernel
theorem dX3_clear_34 : decode cX3_clear 34 = .ok (.iconst 0, 1) := by decide +kernel
theorem dX3_clear_35 : decode cX3_clear 35 = .ok (.putfield 109, 3) := by decide +kernel
theorem dX3_clear_38 : decode cX3_clear 38 = .ok (.goto 11, 3) := by decide +kernel
theorem dX3_clear_41 : decode cX3_clear 41 = .ok (.aload_n 0, 1) := by decide +kernel
theorem dX3_clear_42 : decode cX3_clear 42 = .ok (.getfield 10, 3) := by decide +kernel
theorem dX3_clear_45 : decode cX3_clear 45 = .ok (.iconst 0, 1) := by decide +kernel
theorem dX3_clear_46 : decode cX3_clear 46 = .ok (.putfield 100, 3) := by decide +kernel
theorem dX3_clear_49 : decode cX3_clear 49 = .ok (.iload_n 2, 1) := by decide +kernel
theorem dX3_clear_50 : decode cX3_clear 50 = .ok (.ireturn, 1) := by decide +kernel
theorem dX3_line_0 : decode cX3_line 0 = .ok (.aload_n 0, 1) := by decide +kernel
theorem dX3_line_1 : decode cX3_line 1 = .ok (.getfield 10, 3) := by decide +kernel
theorem dX3_line_4 : decode cX3_line 4 = .ok (.iload_n 1, 1) := by decide +kernel
theorem dX3_line_5 : decode cX3_line 5 = .ok (.invokevirtual 93, 3) := by decide +kernel
theorem dX3_line_8 : decode cX3_line 8 = .ok (.ifCond .ne 5, 3) := by decide +kernel
theorem dX3_line_11 : decode cX3_line 11 = .ok (.iconst (-1), 1) := by decide +kernel
theorem dX3_line_12 : decode cX3_line 12 = .ok (.ireturn, 1) := by decide +kernel
theorem dX3_line_13 : decode cX3_line 13 = .ok (.iload_n 2, 1) := by decide +kernel
theorem dX3_line_14 : decode cX3_line 14 = .ok (.tableswitch 86 0 4 #[34, 44, 53, 62, 80], 34) := by decide +kernel
theorem dX3_line_48 : decode cX3_line 48 = .ok (.aload_n 0, 1) := by decide +kernel
theorem dX3_line_49 : decode cX3_line 49 = .ok (.getfield 10, 3) := by decide +kernel
theorem dX3_line_52 : decode cX3_line 52 = .ok (.getfield 131, 3) := by decide +kernel
theorem dX3_line_55 : decode cX3_line 55 = .ok (.iload_n 1, 1) := by decide +kernel
theorem dX3_line_56 : decode cX3_line 56 = .ok (.iaload, 1) := by decide +kernel
theorem dX3_line_57 : decode cX3_line 57 = .ok (.ireturn, 1) := by decide +kernel
theorem dX3_line_58 : decode cX3_line 58 = .ok (.aload_n 0, 1) := by decide +kernel
theorem dX3_line_59 : decode cX3_line 59 = .ok (.getfield 10, 3) := by decide +kernel
theorem dX3_line_62 : decode cX3_line 62 = .ok (.iload_n 1, 1) := by decide +kernel
theorem dX3_line_63 : decode cX3_line 63 = .ok (.invokevirtual 134, 3) := by decide +kernel
theorem dX3_line_66 : decode cX3_line 66 = .ok (.ireturn, 1) := by decide +kernel
theorem dX3_line_67 : decode cX3_line 67 = .ok (.aload_n 0, 1) := by decide +kernel
theorem dX3_line_68 : decode cX3_line 68 = .ok (.getfield 10, 3) := by decide +kernel
theorem dX3_line_71 : decode cX3_line 71 = .ok (.iload_n 1, 1) := by decide +kernel
theorem dX3_line_72 : decode cX3_line 72 = .ok (.invokevirtual 138, 3) := by decide +kernel
theorem dX3_line_75 : decode cX3_line 75 = .ok (.ireturn, 1) := by decide +kernel
theorem dX3_line_76 : decode cX3_line 76 = .ok (.aload_n 0, 1) := by decide +kernel
theorem dX3_line_77 : decode cX3_line 77 = .ok (.getfield 10, 3) := by decide +kernel
theorem dX3_line_80 : decode cX3_line 80 = .ok (.iload_n 1, 1) := by decide +kernel
theorem dX3_line_81 : decode cX3_line 81 = .ok (.invokevirtual 138, 3) := by decide +kernel
theorem dX3_line_84 : decode cX3_line 84 = .ok (.iconst 2, 1) := by decide +kernel
theorem dX3_line_85 : decode cX3_line 85 = .ok (.if_icmp .lt 7, 3) := by decide +kernel
theorem dX3_line_88 : decode cX3_line 88 = .ok (.iconst 1, 1) := by decide +kernel
theorem dX3_line_89 : decode cX3_line 89 = .ok (.goto 4, 3) := by decide +kernel
theorem dX3_line_92 : decode cX3_line 92 = .ok (.iconst 0, 1) := by decide +kernel
theorem dX3_line_93 : decode cX3_line 93 = .ok (.ireturn, 1) := by decide +kernel
theorem dX3_line_94 : decode cX3_line 94 = .ok (.aload_n 0, 1) := by decide +kernel
theorem dX3_line_95 : decode cX3_line 95 = .ok (.iload_n 1, 1) := by decide +kernel
theorem dX3_line_96 : decode cX3_line 96 = .ok (.invokevirtual 141, 3) := by decide +kernel
theorem dX3_line_99 : decode cX3_line 99 = .ok (.ireturn, 1) := by decide +kernel
theorem dX3_line_100 : decode cX3_line 100 = .ok (.bipush (-2), 2) := by decide +kernel
theorem dX3_line_102 : decode cX3_line 102 = .ok (.ireturn, 1) := by decide +kernel
theorem dX3_phrase_0 : decode cX3_phrase 0 = .ok (.aload_n 0, 1) := by decide +kernel
theorem dX3_phrase_1 : decode cX3_phrase 1 = .ok (.getfield 10, 3) := by decide +kernel
theorem dX3_phrase_4 : decode cX3_phrase 4 = .ok (.iload_n 1, 1) := by decide +kernel
theorem dX3_phrase_5 : decode cX3_phrase 5 = .ok (.invokevirtual 103, 3) := by decide +kernel
theorem dX3_phrase_8 : decode cX3_phrase 8 = .ok (.ifCond .ne 5, 3) := by decide +kernel
theorem dX3_phrase_11 : decode cX3_phrase 11 = .ok (.iconst (-1), 1) := by decide +kernel
theorem dX3_phrase_12 : decode cX3_phrase 12 = .ok (.ireturn, 1) := by decide +kernel
theorem dX3_phrase_13 : decode cX3_phrase 13 = .ok (.iload_n 2, 1) := by decide +kernel
theorem dX3_phrase_14 : decode cX3_phrase 14 = .ok (.tableswitch 96 0 5 #[38, 48, 58, 68, 78, 87], 38) := by decide +kernel
theorem dX3_phrase_52 : decode cX3_phrase 52 = .ok (.aload_n 0, 1) := by decide +kernel
theorem dX3_phrase_53 : decode cX3_phrase 53 = .ok (.getfield 10, 3) := by decide +kernel
theorem dX3_phrase_56 : decode cX3_phrase 56 = .ok (.getfield 144, 3) := by decide +kernel
theorem dX3_phrase_59 : decode cX3_phrase 59 = .ok (.iload_n 1, 1) := by decide +kernel
theorem dX3_phrase_60 : decode cX3_phrase 60 = .ok (.iaload, 1) := by decide +kernel
theorem dX3_phrase_61 : decode cX3_phrase 61 = .ok (.ireturn, 1) := by decide +kernel
theorem dX3_phrase_62 : decode cX3_phrase 62 = .ok (.aload_n 0, 1) := by decide +kernel
theorem dX3_phrase_63 : decode cX3_phrase 63 = .ok (.getfield 10, 3) := by decide +kernel
theorem dX3_phrase_66 : decode cX3_phrase 66 = .ok (.iload_n 1, 1) := by decide +kernel
theorem dX3_phrase_67 : decode cX3_phrase 67 = .ok (.iconst 2, 1) := by decide +kernel
theorem dX3_phrase_68 : decode cX3_phrase 68 = .ok (.invokevirtual 147, 3) := by decide +kernel
theorem dX3_phrase_71 : decode cX3_phrase 71 = .ok (.ireturn, 1) := by decide +kernel
theorem dX3_phrase_72 : decode cX3_phrase 72 = .ok (.aload_n 0, 1) := by decide +kernel
theorem dX3_phrase_73 : decode cX3_phrase 73 = .ok (.getfield 10, 3) := by decide +kernel
theorem dX3_phrase_76 : decode cX3_phrase 76 = .ok (.iload_n 1, 1) := by decide +kernel
theorem dX3_phrase_77 : decode cX3_phrase 77 = .ok (.iconst 1, 1) := by decide +kernel
theorem dX3_phrase_78 : decode cX3_phrase 78 = .ok (.invokevirtual 147, 3) := by decide +kernel
theorem dX3_phrase_81 : decode cX3_phrase 81 = .ok (.ireturn, 1) := by decide +kernel
theorem dX3_phrase_82 : decode cX3_phrase 82 = .ok (.aload_n 0, 1) := by decide +kernel
theorem dX3_phrase_83 : decode cX3_phrase 83 = .ok (.getfield 10, 3) := by decide +kernel
theorem dX3_phrase_86 : decode cX3_phrase 86 = .ok (.iload_n 1, 1) := by decide +kernel
theorem dX3_phrase_87 : decode cX3_phrase 87 = .ok (.iconst 0, 1) := by decide +kernel
theorem dX3_phrase_88 : decode cX3_phrase 88 = .ok (.invokevirtual 147, 3) := by decide +kernel
theorem dX3_phrase_91 : decode cX3_phrase 91 = .ok (.ireturn, 1) := by decide +kernel
theorem dX3_phrase_92 : decode cX3_phrase 92 = .ok (.aload_n 0, 1) := by decide +kernel
theorem dX3_phrase_93 : decode cX3_phrase 93 = .ok (.getfield 10, 3) := by decide +kernel
theorem dX3_phrase_96 : decode cX3_phrase 96 = .ok (.iload_n 1, 1) := by decide +kernel
theorem dX3_phrase_97 : decode cX3_phrase 97 = .ok (.invokevirtual 151, 3) := by decide +kernel
theorem dX3_phrase_100 : decode cX3_phrase 100 = .ok (.ireturn, 1) := by decide +kernel
theorem dX3_phrase_101 : decode cX3_phrase 101 = .ok (.aload_n 0, 1) := by decide +kernel
theorem dX3_phrase_102 : decode cX3_phrase 102 = .ok (.getfield 10, 3) := by decide +kernel
theorem dX3_phrase_105 : decode cX3_phrase 105 = .ok (.iload_n 1, 1) := by decide +kernel
theorem dX3_phrase_106 : decode cX3_phrase 106 = .ok (.invokevirtual 154, 3) := by decide +kernel
theorem dX3_phrase_109 : decode cX3_phrase 109 = .ok (.ireturn, 1) := by decide +kernel
theorem dX3_phrase_110 : decode cX3_phrase 110 = .ok (.bipush (-2), 2) := by decide +kernel
theorem dX3_phrase_112 : decode cX3_phrase 112 = .ok (.ireturn, 1) := by decide +kernel
theorem dX3_isStressed_0 : decode cX3_isStressed 0 = .ok (.aload_n 0, 1) := by decide +kernel
theorem dX3_isStressed_1 : decode cX3_isStressed 1 = .ok (.getfield 10, 3) := by decide +kernel
theorem dX3_isStressed_4 : decode cX3_isStressed 4 = .ok (.iload_n 1, 1) := by decide +kernel
theorem dX3_isStressed_5 : decode cX3_isStressed 5 = .ok (.iload_n 2, 1) := by decide +kernel
theorem dX3_isStressed_6 : decode cX3_isStressed 6 = .ok (.invokevirtual 112, 3) := by decide +kernel
theorem dX3_isStressed_9 : decode cX3_isStressed 9 = .ok (.ifCond .ne 5, 3) := by decide +kernel
theorem dX3_isStressed_12 : decode cX3_isStressed 12 = .ok (.iconst (-1), 1) := by decide +kernel
theorem dX3_isStressed_13 : decode cX3_isStressed 13 = .ok (.ireturn, 1) := by decide +kernel
theorem dX3_isStressed_14 : decode cX3_isStressed 14 = .ok (.aload_n 0, 1) := by decide +kernel
theorem dX3_isStressed_15 : decode cX3_isStressed 15 = .ok (.getfield 10, 3) := by decide +kernel
theorem dX3_isStressed_18 : decode cX3_isStressed 18 = .ok (.getfield 116, 3) := by decide +kernel
theorem dX3_isStressed_21 : decode cX3_isStressed 21 = .ok (.iload_n 1, 1) := by decide +kernel
theorem dX3_isStressed_22 : decode cX3_isStressed 22 = .ok (.bipush 16, 2) := by decide +kernel
theorem dX3_isStressed_24 : decode cX3_isStressed 24 = .ok (.imul, 1) := by decide +kernel
theorem dX3_isStressed_25 : decode cX3_isStressed 25 = .ok (.iload_n 2, 1) := by decide +kernel
theorem dX3_isStressed_26 : decode cX3_isStressed 26 = .ok (.iadd, 1) := by decide +kernel
theorem dX3_isStressed_27 : decode cX3_isStressed 27 = .ok (.iaload, 1) := by decide +kernel
theorem dX3_isStressed_28 : decode cX3_isStressed 28 = .ok (.ireturn, 1) := by decide +kernel
theorem dX3_kindOf_0 : decode cX3_kindOf 0 = .ok (.aload_n 0, 1) := by decide +kernel
theorem dX3_kindOf_1 : decode cX3_kindOf 1 = .ok (.getfield 10, 3) := by decide +kernel
theorem dX3_kindOf_4 : decode cX3_kindOf 4 = .ok (.iload_n 1, 1) := by decide +kernel
theorem dX3_kindOf_5 : decode cX3_kindOf 5 = .ok (.iload_n 2, 1) := by decide +kernel
theorem dX3_kindOf_6 : decode cX3_kindOf 6 = .ok (.invokevirtual 119, 3) := by decide +kernel
theorem dX3_kindOf_9 : decode cX3_kindOf 9 = .ok (.ifCond .ne 5, 3) := by decide +kernel
theorem dX3_kindOf_12 : decode cX3_kindOf 12 = .ok (.iconst (-1), 1) := by decide +kernel
theorem dX3_kindOf_13 : decode cX3_kindOf 13 = .ok (.ireturn, 1) := by decide +kernel
theorem dX3_kindOf_14 : decode cX3_kindOf 14 = .ok (.aload_n 0, 1) := by decide +kernel
theorem dX3_kindOf_15 : decode cX3_kindOf 15 = .ok (.getfield 10, 3) := by decide +kernel
theorem dX3_kindOf_18 : decode cX3_kindOf 18 = .ok (.getfield 122, 3) := by decide +kernel
theorem dX3_kindOf_21 : decode cX3_kindOf 21 = .ok (.iload_n 1, 1) := by decide +kernel
theorem dX3_kindOf_22 : decode cX3_kindOf 22 = .ok (.bipush 24, 2) := by decide +kernel
theorem dX3_kindOf_24 : decode cX3_kindOf 24 = .ok (.imul, 1) := by decide +kernel
theorem dX3_kindOf_25 : decode cX3_kindOf 25 = .ok (.iload_n 2, 1) := by decide +kernel
theorem dX3_kindOf_26 : decode cX3_kindOf 26 = .ok (.iadd, 1) := by decide +kernel
theorem dX3_kindOf_27 : decode cX3_kindOf 27 = .ok (.iaload, 1) := by decide +kernel
theorem dX3_kindOf_28 : decode cX3_kindOf 28 = .ok (.ireturn, 1) := by decide +kernel
theorem dX3_count_0 : decode cX3_count 0 = .ok (.iload_n 1, 1) := by decide +kernel
theorem dX3_count_1 : decode cX3_count 1 = .ok (.tableswitch 152 0 10 #[59, 67, 75, 83, 91, 99, 109, 119, 129, 139, 147], 59) := by decide +kernel
theorem dX3_count_60 : decode cX3_count 60 = .ok (.aload_n 0, 1) := by decide +kernel
theorem dX3_count_61 : decode cX3_count 61 = .ok (.getfield 10, 3) := by decide +kernel
theorem dX3_count_64 : decode cX3_count 64 = .ok (.getfield 68, 3) := by decide +kernel
theorem dX3_count_67 : decode cX3_count 67 = .ok (.ireturn, 1) := by decide +kernel
theorem dX3_count_68 : decode cX3_count 68 = .ok (.aload_n 0, 1) := by decide +kernel
theorem dX3_count_69 : decode cX3_count 69 = .ok (.getfield 10, 3) := by decide +kernel
theorem dX3_count_72 : decode cX3_count 72 = .ok (.getfield 71, 3) := by decide +kernel
theorem dX3_count_75 : decode cX3_count 75 = .ok (.ireturn, 1) := by decide +kernel
theorem dX3_count_76 : decode cX3_count 76 = .ok (.aload_n 0, 1) := by decide +kernel
theorem dX3_count_77 : decode cX3_count 77 = .ok (.getfield 10, 3) := by decide +kernel
theorem dX3_count_80 : decode cX3_count 80 = .ok (.getfield 100, 3) := by decide +kernel
theorem dX3_count_83 : decode cX3_count 83 = .ok (.ireturn, 1) := by decide +kernel
theorem dX3_count_84 : decode cX3_count 84 = .ok (.aload_n 0, 1) := by decide +kernel
theorem dX3_count_85 : decode cX3_count 85 = .ok (.getfield 10, 3) := by decide +kernel
theorem dX3_count_88 : decode cX3_count 88 = .ok (.getfield 109, 3) := by decide +kernel
theorem dX3_count_91 : decode cX3_count 91 = .ok (.ireturn, 1) := by decide +kernel
theorem dX3_count_92 : decode cX3_count 92 = .ok (.aload_n 0, 1) := by decide +kernel
theorem dX3_count_93 : decode cX3_count 93 = .ok (.getfield 10, 3) := by decide +kernel
theorem dX3_count_96 : decode cX3_count 96 = .ok (.invokevirtual 157, 3) := by decide +kernel
theorem dX3_count_99 : decode cX3_count 99 = .ok (.ireturn, 1) := by decide +kernel
theorem dX3_count_100 : decode cX3_count 100 = .ok (.aload_n 0, 1) := by decide +kernel
theorem dX3_count_101 : decode cX3_count 101 = .ok (.getfield 10, 3) := by decide +kernel
theorem dX3_count_104 : decode cX3_count 104 = .ok (.getfield 55, 3) := by decide +kernel
theorem dX3_count_107 : decode cX3_count 107 = .ok (.iconst 0, 1) := by decide +kernel
theorem dX3_count_108 : decode cX3_count 108 = .ok (.iaload, 1) := by decide +kernel
theorem dX3_count_109 : decode cX3_count 109 = .ok (.ireturn, 1) := by decide +kernel
theorem dX3_count_110 : decode cX3_count 110 = .ok (.aload_n 0, 1) := by decide +kernel
theorem dX3_count_111 : decode cX3_count 111 = .ok (.getfield 10, 3) := by decide +kernel
theorem dX3_count_114 : decode cX3_count 114 = .ok (.getfield 55, 3) := by decide +kernel
theorem dX3_count_117 : decode cX3_count 117 = .ok (.iconst 1, 1) := by decide +kernel
theorem dX3_count_118 : decode cX3_count 118 = .ok (.iaload, 1) := by decide +kernel
theorem dX3_count_119 : decode cX3_count 119 = .ok (.ireturn, 1) := by decide +kernel
theorem dX3_count_120 : decode cX3_count 120 = .ok (.aload_n 0, 1) := by decide +kernel
theorem dX3_count_121 : decode cX3_count 121 = .ok (.getfield 10, 3) := by decide +kernel
theorem dX3_count_124 : decode cX3_count 124 = .ok (.getfield 55, 3) := by decide +kernel
theorem dX3_count_127 : decode cX3_count 127 = .ok (.iconst 2, 1) := by decide +kernel
theorem dX3_count_128 : decode cX3_count 128 = .ok (.iaload, 1) := by decide +kernel
theorem dX3_count_129 : decode cX3_count 129 = .ok (.ireturn, 1) := by decide +kernel
theorem dX3_count_130 : decode cX3_count 130 = .ok (.aload_n 0, 1) := by decide +kernel
theorem dX3_count_131 : decode cX3_count 131 = .ok (.getfield 10, 3) := by decide +kernel
theorem dX3_count_134 : decode cX3_count 134 = .ok (.getfield 55, 3) := by decide +kernel
theorem dX3_count_137 : decode cX3_count 137 = .ok (.iconst 3, 1) := by decide +kernel
theorem dX3_count_138 : decode cX3_count 138 = .ok (.iaload, 1) := by decide +kernel
theorem dX3_count_139 : decode cX3_count 139 = .ok (.ireturn, 1) := by decide +kernel
theorem dX3_count_140 : decode cX3_count 140 = .ok (.aload_n 0, 1) := by decide +kernel
theorem dX3_count_141 : decode cX3_count 141 = .ok (.getfield 19, 3) := by decide +kernel
theorem dX3_count_144 : decode cX3_count 144 = .ok (.getfield 74, 3) := by decide +kernel
theorem dX3_count_147 : decode cX3_count 147 = .ok (.ireturn, 1) := by decide +kernel
theorem dX3_count_148 : decode cX3_count 148 = .ok (.aload_n 0, 1) := by decide +kernel
theorem dX3_count_149 : decode cX3_count 149 = .ok (.getfield 34, 3) := by decide +kernel
theorem dX3_count_152 : decode cX3_count 152 = .ok (.ireturn, 1) := by decide +kernel
theorem dX3_count_153 : decode cX3_count 153 = .ok (.bipush (-2), 2) := by decide +kernel
theorem dX3_count_155 : decode cX3_count 155 = .ok (.ireturn, 1) := by decide +kernel
theorem dX3_at_0 : decode cX3_at 0 = .ok (.iload_n 2, 1) := by decide +kernel
theorem dX3_at_1 : decode cX3_at 1 = .ok (.ifCond .lt 28, 3) := by decide +kernel
theorem dX3_at_4 : decode cX3_at 4 = .ok (.iload_n 2, 1) := by decide +kernel
theorem dX3_at_5 : decode cX3_at 5 = .ok (.iload_n 1, 1) := by decide +kernel
theorem dX3_at_6 : decode cX3_at 6 = .ok (.ifCond .eq 13, 3) := by decide +kernel
theorem dX3_at_9 : decode cX3_at 9 = .ok (.aload_n 0, 1) := by decide +kernel
theorem dX3_at_10 : decode cX3_at 10 = .ok (.getfield 10, 3) := by decide +kernel
theorem dX3_at_13 : decode cX3_at 13 = .ok (.getfield 109, 3) := by decide +kernel
theorem dX3_at_16 : decode cX3_at 16 = .ok (.goto 10, 3) := by decide +kernel
theorem dX3_at_19 : decode cX3_at 19 = .ok (.aload_n 0, 1) := by decide +kernel
theorem dX3_at_20 : decode cX3_at 20 = .ok (.getfield 10, 3) := by decide +kernel
theorem dX3_at_23 : decode cX3_at 23 = .ok (.getfield 100, 3) := by decide +kernel
theorem dX3_at_26 : decode cX3_at 26 = .ok (.if_icmp .lt 5, 3) := by decide +kernel
theorem dX3_at_29 : decode cX3_at 29 = .ok (.iconst (-1), 1) := by decide +kernel
theorem dX3_at_30 : decode cX3_at 30 = .ok (.ireturn, 1) := by decide +kernel
theorem dX3_at_31 : decode cX3_at 31 = .ok (.iload_n 1, 1) := by decide +kernel
theorem dX3_at_32 : decode cX3_at 32 = .ok (.ifCond .eq 15, 3) := by decide +kernel
theorem dX3_at_35 : decode cX3_at 35 = .ok (.aload_n 0, 1) := by decide +kernel
theorem dX3_at_36 : decode cX3_at 36 = .ok (.getfield 10, 3) := by decide +kernel
theorem dX3_at_39 : decode cX3_at 39 = .ok (.getfield 160, 3) := by decide +kernel
theorem dX3_at_42 : decode cX3_at 42 = .ok (.iload_n 2, 1) := by decide +kernel
theorem dX3_at_43 : decode cX3_at 43 = .ok (.iaload, 1) := by decide +kernel
theorem dX3_at_44 : decode cX3_at 44 = .ok (.goto 12, 3) := by decide +kernel
theorem dX3_at_47 : decode cX3_at 47 = .ok (.aload_n 0, 1) := by decide +kernel
theorem dX3_at_48 : decode cX3_at 48 = .ok (.getfield 10, 3) := by decide +kernel
theorem dX3_at_51 : decode cX3_at 51 = .ok (.getfield 163, 3) := by decide +kernel
theorem dX3_at_54 : decode cX3_at 54 = .ok (.iload_n 2, 1) := by decide +kernel
theorem dX3_at_55 : decode cX3_at 55 = .ok (.iaload, 1) := by decide +kernel
theorem dX3_at_56 : decode cX3_at 56 = .ok (.ireturn, 1) := by decide +kernel
theorem dX3_fit_0 : decode cX3_fit 0 = .ok (.aload_n 0, 1) := by decide +kernel
theorem dX3_fit_1 : decode cX3_fit 1 = .ok (.getfield 10, 3) := by decide +kernel
theorem dX3_fit_4 : decode cX3_fit 4 = .ok (.iload_n 1, 1) := by decide +kernel
theorem dX3_fit_5 : decode cX3_fit 5 = .ok (.invokevirtual 93, 3) := by decide +kernel
theorem dX3_fit_8 : decode cX3_fit 8 = .ok (.ifCond .eq 14, 3) := by decide +kernel
theorem dX3_fit_11 : decode cX3_fit 11 = .ok (.aload_n 0, 1) := by decide +kernel
theorem dX3_fit_12 : decode cX3_fit 12 = .ok (.getfield 10, 3) := by decide +kernel
theorem dX3_fit_15 : decode cX3_fit 15 = .ok (.iload_n 2, 1) := by decide +kernel
theorem dX3_fit_16 : decode cX3_fit 16 = .ok (.invokevirtual 103, 3) := by decide +kernel
theorem dX3_fit_19 : decode cX3_fit 19 = .ok (.ifCond .ne 5, 3) := by decide +kernel
theorem dX3_fit_22 : decode cX3_fit 22 = .ok (.iconst (-1), 1) := by decide +kernel
theorem dX3_fit_23 : decode cX3_fit 23 = .ok (.ireturn, 1) := by decide +kernel
theorem dX3_fit_24 : decode cX3_fit 24 = .ok (.iload_n 3, 1) := by decide +kernel
theorem dX3_fit_25 : decode cX3_fit 25 = .ok (.ifCond .lt 8, 3) := by decide +kernel
theorem dX3_fit_28 : decode cX3_fit 28 = .ok (.iload_n 3, 1) := by decide +kernel
theorem dX3_fit_29 : decode cX3_fit 29 = .ok (.iconst 4, 1) := by decide +kernel
theorem dX3_fit_30 : decode cX3_fit 30 = .ok (.if_icmp .le 6, 3) := by decide +kernel
theorem dX3_fit_33 : decode cX3_fit 33 = .ok (.bipush (-2), 2) := by decide +kernel
theorem dX3_fit_35 : decode cX3_fit 35 = .ok (.ireturn, 1) := by decide +kernel
theorem dX3_fit_36 : decode cX3_fit 36 = .ok (.aload_n 0, 1) := by decide +kernel
theorem dX3_fit_37 : decode cX3_fit 37 = .ok (.iload_n 1, 1) := by decide +kernel
theorem dX3_fit_38 : decode cX3_fit 38 = .ok (.iload_n 2, 1) := by decide +kernel
theorem dX3_fit_39 : decode cX3_fit 39 = .ok (.invokevirtual 166, 3) := by decide +kernel
theorem dX3_fit_42 : decode cX3_fit 42 = .ok (.istore 4, 2) := by decide +kernel
theorem dX3_fit_44 : decode cX3_fit 44 = .ok (.iload 4, 2) := by decide +kernel
theorem dX3_fit_46 : decode cX3_fit 46 = .ok (.ldc 169, 2) := by decide +kernel
theorem dX3_fit_48 : decode cX3_fit 48 = .ok (.if_icmp .lt 20, 3) := by decide +kernel
theorem dX3_fit_51 : decode cX3_fit 51 = .ok (.iload_n 3, 1) := by decide +kernel
theorem dX3_fit_52 : decode cX3_fit 52 = .ok (.iconst 1, 1) := by decide +kernel
theorem dX3_fit_53 : decode cX3_fit 53 = .ok (.if_icmp .eq 8, 3) := by decide +kernel
theorem dX3_fit_56 : decode cX3_fit 56 = .ok (.iload_n 3, 1) := by decide +kernel
theorem dX3_fit_57 : decode cX3_fit 57 = .ok (.iconst 2, 1) := by decide +kernel
theorem dX3_fit_58 : decode cX3_fit 58 = .ok (.if_icmp .ne 7, 3) := by decide +kernel
theorem dX3_fit_61 : decode cX3_fit 61 = .ok (.iconst 0, 1) := by decide +kernel
theorem dX3_fit_62 : decode cX3_fit 62 = .ok (.goto 5, 3) := by decide +kernel
theorem dX3_fit_65 : decode cX3_fit 65 = .ok (.bipush (-6), 2) := by decide +kernel
theorem dX3_fit_67 : decode cX3_fit 67 = .ok (.ireturn, 1) := by decide +kernel
theorem dX3_fit_68 : decode cX3_fit 68 = .ok (.iload_n 3, 1) := by decide +kernel
theorem dX3_fit_69 : decode cX3_fit 69 = .ok (.tableswitch 65 1 4 #[31, 40, 49, 57], 31) := by decide +kernel
theorem dX3_fit_100 : decode cX3_fit 100 = .ok (.aload_n 0, 1) := by decide +kernel
theorem dX3_fit_101 : decode cX3_fit 101 = .ok (.getfield 26, 3) := by decide +kernel
theorem dX3_fit_104 : decode cX3_fit 104 = .ok (.iconst 0, 1) := by decide +kernel
theorem dX3_fit_105 : decode cX3_fit 105 = .ok (.invokevirtual 170, 3) := by decide +kernel
theorem dX3_fit_108 : decode cX3_fit 108 = .ok (.ireturn, 1) := by decide +kernel
theorem dX3_fit_109 : decode cX3_fit 109 = .ok (.aload_n 0, 1) := by decide +kernel
theorem dX3_fit_110 : decode cX3_fit 110 = .ok (.getfield 26, 3) := by decide +kernel
theorem dX3_fit_113 : decode cX3_fit 113 = .ok (.iconst 1, 1) := by decide +kernel
theorem dX3_fit_114 : decode cX3_fit 114 = .ok (.invokevirtual 170, 3) := by decide +kernel
theorem dX3_fit_117 : decode cX3_fit 117 = .ok (.ireturn, 1) := by decide +kernel
theorem dX3_fit_118 : decode cX3_fit 118 = .ok (.aload_n 0, 1) := by decide +kernel
theorem dX3_fit_119 : decode cX3_fit 119 = .ok (.getfield 26, 3) := by decide +kernel
theorem dX3_fit_122 : decode cX3_fit 122 = .ok (.invokevirtual 174, 3) := by decide +kernel
theorem dX3_fit_125 : decode cX3_fit 125 = .ok (.ireturn, 1) := by decide +kernel
theorem dX3_fit_126 : decode cX3_fit 126 = .ok (.aload_n 0, 1) := by decide +kernel
theorem dX3_fit_127 : decode cX3_fit 127 = .ok (.getfield 26, 3) := by decide +kernel
theorem dX3_fit_130 : decode cX3_fit 130 = .ok (.invokevirtual 177, 3) := by decide +kernel
theorem dX3_fit_133 : decode cX3_fit 133 = .ok (.ireturn, 1) := by decide +kernel
theorem dX3_fit_134 : decode cX3_fit 134 = .ok (.iload 4, 2) := by decide +kernel
theorem dX3_fit_136 : decode cX3_fit 136 = .ok (.ireturn, 1) := by decide +kernel
theorem dX3_lies_0 : decode cX3_lies 0 = .ok (.aload_n 0, 1) := by decide +kernel
theorem dX3_lies_1 : decode cX3_lies 1 = .ok (.getfield 10, 3) := by decide +kernel
theorem dX3_lies_4 : decode cX3_lies 4 = .ok (.iload_n 1, 1) := by decide +kernel
theorem dX3_lies_5 : decode cX3_lies 5 = .ok (.iload_n 3, 1) := by decide +kernel
theorem dX3_lies_6 : decode cX3_lies 6 = .ok (.invokevirtual 112, 3) := by decide +kernel
theorem dX3_lies_9 : decode cX3_lies 9 = .ok (.ifCond .eq 14, 3) := by decide +kernel
theorem dX3_lies_12 : decode cX3_lies 12 = .ok (.aload_n 0, 1) := by decide +kernel
theorem dX3_lies_13 : decode cX3_lies 13 = .ok (.getfield 10, 3) := by decide +kernel
theorem dX3_lies_16 : decode cX3_lies 16 = .ok (.iload_n 2, 1) := by decide +kernel
theorem dX3_lies_17 : decode cX3_lies 17 = .ok (.invokevirtual 103, 3) := by decide +kernel
theorem dX3_lies_20 : decode cX3_lies 20 = .ok (.ifCond .ne 5, 3) := by decide +kernel
theorem dX3_lies_23 : decode cX3_lies 23 = .ok (.iconst (-1), 1) := by decide +kernel
theorem dX3_lies_24 : decode cX3_lies 24 = .ok (.ireturn, 1) := by decide +kernel
theorem dX3_lies_25 : decode cX3_lies 25 = .ok (.iload 4, 2) := by decide +kernel
theorem dX3_lies_27 : decode cX3_lies 27 = .ok (.ifCond .lt 9, 3) := by decide +kernel
theorem dX3_lies_30 : decode cX3_lies 30 = .ok (.iload 4, 2) := by decide +kernel
theorem dX3_lies_32 : decode cX3_lies 32 = .ok (.iconst 1, 1) := by decide +kernel
theorem dX3_lies_33 : decode cX3_lies 33 = .ok (.if_icmp .le 6, 3) := by decide +kernel
theorem dX3_lies_36 : decode cX3_lies 36 = .ok (.bipush (-2), 2) := by decide +kernel
theorem dX3_lies_38 : decode cX3_lies 38 = .ok (.ireturn, 1) := by decide +kernel
theorem dX3_lies_39 : decode cX3_lies 39 = .ok (.aload_n 0, 1) := by decide +kernel
theorem dX3_lies_40 : decode cX3_lies 40 = .ok (.iload_n 1, 1) := by decide +kernel
theorem dX3_lies_41 : decode cX3_lies 41 = .ok (.iload_n 2, 1) := by decide +kernel
theorem dX3_lies_42 : decode cX3_lies 42 = .ok (.invokevirtual 166, 3) := by decide +kernel
theorem dX3_lies_45 : decode cX3_lies 45 = .ok (.ldc 169, 2) := by decide +kernel
theorem dX3_lies_47 : decode cX3_lies 47 = .ok (.if_icmp .lt 6, 3) := by decide +kernel
theorem dX3_lies_50 : decode cX3_lies 50 = .ok (.bipush (-6), 2) := by decide +kernel
theorem dX3_lies_52 : decode cX3_lies 52 = .ok (.ireturn, 1) := by decide +kernel
theorem dX3_lies_53 : decode cX3_lies 53 = .ok (.aload_n 0, 1) := by decide +kernel
theorem dX3_lies_54 : decode cX3_lies 54 = .ok (.getfield 26, 3) := by decide +kernel
theorem dX3_lies_57 : decode cX3_lies 57 = .ok (.invokevirtual 180, 3) := by decide +kernel
theorem dX3_lies_60 : decode cX3_lies 60 = .ok (.iload 4, 2) := by decide +kernel
theorem dX3_lies_62 : decode cX3_lies 62 = .ok (.ifCond .ne 15, 3) := by decide +kernel
theorem dX3_lies_65 : decode cX3_lies 65 = .ok (.aload_n 0, 1) := by decide +kernel
theorem dX3_lies_66 : decode cX3_lies 66 = .ok (.getfield 26, 3) := by decide +kernel
theorem dX3_lies_69 : decode cX3_lies 69 = .ok (.getfield 183, 3) := by decide +kernel
theorem dX3_lies_72 : decode cX3_lies 72 = .ok (.iload_n 3, 1) := by decide +kernel
theorem dX3_lies_73 : decode cX3_lies 73 = .ok (.iaload, 1) := by decide +kernel
theorem dX3_lies_74 : decode cX3_lies 74 = .ok (.goto 12, 3) := by decide +kernel
theorem dX3_lies_77 : decode cX3_lies 77 = .ok (.aload_n 0, 1) := by decide +kernel
theorem dX3_lies_78 : decode cX3_lies 78 = .ok (.getfield 26, 3) := by decide +kernel
theorem dX3_lies_81 : decode cX3_lies 81 = .ok (.getfield 186, 3) := by decide +kernel
theorem dX3_lies_84 : decode cX3_lies 84 = .ok (.iload_n 3, 1) := by decide +kernel
theorem dX3_lies_85 : decode cX3_lies 85 = .ok (.iaload, 1) := by decide +kernel
theorem dX3_lies_86 : decode cX3_lies 86 = .ok (.ireturn, 1) := by decide +kernel
theorem dX3_whole_0 : decode cX3_whole 0 = .ok (.iload_n 1, 1) := by decide +kernel
theorem dX3_whole_1 : decode cX3_whole 1 = .ok (.ifCond .lt 8, 3) := by decide +kernel
theorem dX3_whole_4 : decode cX3_whole 4 = .ok (.iload_n 1, 1) := by decide +kernel
theorem dX3_whole_5 : decode cX3_whole 5 = .ok (.iconst 3, 1) := by decide +kernel
theorem dX3_whole_6 : decode cX3_whole 6 = .ok (.if_icmp .le 6, 3) := by decide +kernel
theorem dX3_whole_9 : decode cX3_whole 9 = .ok (.bipush (-2), 2) := by decide +kernel
theorem dX3_whole_11 : decode cX3_whole 11 = .ok (.ireturn, 1) := by decide +kernel
theorem dX3_whole_12 : decode cX3_whole 12 = .ok (.aload_n 0, 1) := by decide +kernel
theorem dX3_whole_13 : decode cX3_whole 13 = .ok (.getfield 10, 3) := by decide +kernel
theorem dX3_whole_16 : decode cX3_whole 16 = .ok (.getfield 109, 3) := by decide +kernel
theorem dX3_whole_19 : decode cX3_whole 19 = .ok (.iconst 1, 1) := by decide +kernel
theorem dX3_whole_20 : decode cX3_whole 20 = .ok (.if_icmp .ge 6, 3) := by decide +kernel
theorem dX3_whole_23 : decode cX3_whole 23 = .ok (.bipush (-5), 2) := by decide +kernel
theorem dX3_whole_25 : decode cX3_whole 25 = .ok (.ireturn, 1) := by decide +kernel
theorem dX3_whole_26 : decode cX3_whole 26 = .ok (.iconst 0, 1) := by decide +kernel
theorem dX3_whole_27 : decode cX3_whole 27 = .ok (.istore_n 2, 1) := by decide +kernel
theorem dX3_whole_28 : decode cX3_whole 28 = .ok (.iconst 0, 1) := by decide +kernel
theorem dX3_whole_29 : decode cX3_whole 29 = .ok (.istore_n 3, 1) := by decide +kernel
theorem dX3_whole_30 : decode cX3_whole 30 = .ok (.iconst 0, 1) := by decide +kernel
theorem dX3_whole_31 : decode cX3_whole 31 = .ok (.istore 4, 2) := by decide +kernel
theorem dX3_whole_33 : decode cX3_whole 33 = .ok (.iconst (-1), 1) := by decide +kernel
theorem dX3_whole_34 : decode cX3_whole 34 = .ok (.istore 5, 2) := by decide +kernel
theorem dX3_whole_36 : decode cX3_whole 36 = .ok (.bipush (-6), 2) := by decide +kernel
theorem dX3_whole_38 : decode cX3_whole 38 = .ok (.istore 6, 2) := by decide +kernel
theorem dX3_whole_40 : decode cX3_whole 40 = .ok (.iconst 0, 1) := by decide +kernel
theorem dX3_whole_41 : decode cX3_whole 41 = .ok (.istore 7, 2) := by decide +kernel
theorem dX3_whole_43 : decode cX3_whole 43 = .ok (.iload 7, 2) := by decide +kernel
theorem dX3_whole_45 : decode cX3_whole 45 = .ok (.aload_n 0, 1) := by decide +kernel
theorem dX3_whole_46 : decode cX3_whole 46 = .ok (.getfield 10, 3) := by decide +kernel
theorem dX3_whole_49 : decode cX3_whole 49 = .ok (.getfield 100, 3) := by decide +kernel
theorem dX3_whole_52 : decode cX3_whole 52 = .ok (.if_icmp .ge 95, 3) := by decide +kernel
theorem dX3_whole_55 : decode cX3_whole 55 = .ok (.aload_n 0, 1) := by decide +kernel
theorem dX3_whole_56 : decode cX3_whole 56 = .ok (.getfield 10, 3) := by decide +kernel
theorem dX3_whole_59 : decode cX3_whole 59 = .ok (.getfield 160, 3) := by decide +kernel
theorem dX3_whole_62 : decode cX3_whole 62 = .ok (.iload 7, 2) := by decide +kernel
theorem dX3_whole_64 : decode cX3_whole 64 = .ok (.aload_n 0, 1) := by decide +kernel
theorem dX3_whole_65 : decode cX3_whole 65 = .ok (.getfield 10, 3) := by decide +kernel
theorem dX3_whole_68 : decode cX3_whole 68 = .ok (.getfield 109, 3) := by decide +kernel
theorem dX3_whole_71 : decode cX3_whole 71 = .ok (.irem, 1) := by decide +kernel
theorem dX3_whole_72 : decode cX3_whole 72 = .ok (.iaload, 1) := by decide +kernel
theorem dX3_whole_73 : decode cX3_whole 73 = .ok (.istore 8, 2) := by decide +kernel
theorem dX3_whole_75 : decode cX3_whole 75 = .ok (.iload 4, 2) := by decide +kernel
theorem dX3_whole_77 : decode cX3_whole 77 = .ok (.aload_n 0, 1) := by decide +kernel
theorem dX3_whole_78 : decode cX3_whole 78 = .ok (.getfield 10, 3) := by decide +kernel
theorem dX3_whole_81 : decode cX3_whole 81 = .ok (.getfield 144, 3) := by decide +kernel
theorem dX3_whole_84 : decode cX3_whole 84 = .ok (.iload 8, 2) := by decide +kernel
theorem dX3_whole_86 : decode cX3_whole 86 = .ok (.iaload, 1) := by decide +kernel
theorem dX3_whole_87 : decode cX3_whole 87 = .ok (.iadd, 1) := by decide +kernel
theorem dX3_whole_88 : decode cX3_whole 88 = .ok (.istore 4, 2) := by decide +kernel
theorem dX3_whole_90 : decode cX3_whole 90 = .ok (.aload_n 0, 1) := by decide +kernel
theorem dX3_whole_91 : decode cX3_whole 91 = .ok (.aload_n 0, 1) := by decide +kernel
theorem dX3_whole_92 : decode cX3_whole 92 = .ok (.getfield 10, 3) := by decide +kernel
theorem dX3_whole_95 : decode cX3_whole 95 = .ok (.getfield 163, 3) := by decide +kernel
theorem dX3_whole_98 : decode cX3_whole 98 = .ok (.iload 7, 2) := by decide +kernel
theorem dX3_whole_100 : decode cX3_whole 100 = .ok (.iaload, 1) := by decide +kernel
theorem dX3_whole_101 : decode cX3_whole 101 = .ok (.iload 8, 2) := by decide +kernel
theorem dX3_whole_103 : decode cX3_whole 103 = .ok (.invokevirtual 166, 3) := by decide +kernel
theorem dX3_whole_106 : decode cX3_whole 106 = .ok (.istore 9, 2) := by decide +kernel
theorem dX3_whole_108 : decode cX3_whole 108 = .ok (.iload 9, 2) := by decide +kernel
theorem dX3_whole_110 : decode cX3_whole 110 = .ok (.ldc 169, 2) := by decide +kernel
theorem dX3_whole_112 : decode cX3_whole 112 = .ok (.if_icmp .lt 9, 3) := by decide +kernel
theorem dX3_whole_115 : decode cX3_whole 115 = .ok (.iinc 3 1, 3) := by decide +kernel
theorem dX3_whole_118 : decode cX3_whole 118 = .ok (.goto 23, 3) := by decide +kernel
theorem dX3_whole_121 : decode cX3_whole 121 = .ok (.iload_n 2, 1) := by decide +kernel
theorem dX3_whole_122 : decode cX3_whole 122 = .ok (.iload 9, 2) := by decide +kernel
theorem dX3_whole_124 : decode cX3_whole 124 = .ok (.iadd, 1) := by decide +kernel
theorem dX3_whole_125 : decode cX3_whole 125 = .ok (.istore_n 2, 1) := by decide +kernel
theorem dX3_whole_126 : decode cX3_whole 126 = .ok (.iload 9, 2) := by decide +kernel
theorem dX3_whole_128 : decode cX3_whole 128 = .ok (.iload 5, 2) := by decide +kernel
theorem dX3_whole_130 : decode cX3_whole 130 = .ok (.if_icmp .le 11, 3) := by decide +kernel
theorem dX3_whole_133 : decode cX3_whole 133 = .ok (.iload 9, 2) := by decide +kernel
theorem dX3_whole_135 : decode cX3_whole 135 = .ok (.istore 5, 2) := by decide +kernel
theorem dX3_whole_137 : decode cX3_whole 137 = .ok (.iload 7, 2) := by decide +kernel
theorem dX3_whole_139 : decode cX3_whole 139 = .ok (.istore 6, 2) := by decide +kernel
theorem dX3_whole_141 : decode cX3_whole 141 = .ok (.iinc 7 1, 3) := by decide +kernel
theorem dX3_whole_144 : decode cX3_whole 144 = .ok (.goto (-101), 3) := by decide +kernel
theorem dX3_whole_147 : decode cX3_whole 147 = .ok (.iload_n 1, 1) := by decide +kernel
theorem dX3_whole_148 : decode cX3_whole 148 = .ok (.tableswitch 35 0 2 #[28, 30, 32], 28) := by decide +kernel
theorem dX3_whole_176 : decode cX3_whole 176 = .ok (.iload_n 2, 1) := by decide +kernel
theorem dX3_whole_177 : decode cX3_whole 177 = .ok (.ireturn, 1) := by decide +kernel
theorem dX3_whole_178 : decode cX3_whole 178 = .ok (.iload_n 3, 1) := by decide +kernel
theorem dX3_whole_179 : decode cX3_whole 179 = .ok (.ireturn, 1) := by decide +kernel
theorem dX3_whole_180 : decode cX3_whole 180 = .ok (.iload 6, 2) := by decide +kernel
theorem dX3_whole_182 : decode cX3_whole 182 = .ok (.ireturn, 1) := by decide +kernel
theorem dX3_whole_183 : decode cX3_whole 183 = .ok (.iload 4, 2) := by decide +kernel
theorem dX3_whole_185 : decode cX3_whole 185 = .ok (.ireturn, 1) := by decide +kernel
theorem dX3_bestPhrase_0 : decode cX3_bestPhrase 0 = .ok (.bipush (-6), 2) := by decide +kernel
theorem dX3_bestPhrase_2 : decode cX3_bestPhrase 2 = .ok (.istore_n 1, 1) := by decide +kernel
theorem dX3_bestPhrase_3 : decode cX3_bestPhrase 3 = .ok (.iconst 0, 1) := by decide +kernel
theorem dX3_bestPhrase_4 : decode cX3_bestPhrase 4 = .ok (.istore_n 2, 1) := by decide +kernel
theorem dX3_bestPhrase_5 : decode cX3_bestPhrase 5 = .ok (.iconst 0, 1) := by decide +kernel
theorem dX3_bestPhrase_6 : decode cX3_bestPhrase 6 = .ok (.istore_n 3, 1) := by decide +kernel
theorem dX3_bestPhrase_7 : decode cX3_bestPhrase 7 = .ok (.iconst 0, 1) := by decide +kernel
theorem dX3_bestPhrase_8 : decode cX3_bestPhrase 8 = .ok (.istore 4, 2) := by decide +kernel
theorem dX3_bestPhrase_10 : decode cX3_bestPhrase 10 = .ok (.iload 4, 2) := by decide +kernel
theorem dX3_bestPhrase_12 : decode cX3_bestPhrase 12 = .ok (.aload_n 0, 1) := by decide +kernel
theorem dX3_bestPhrase_13 : decode cX3_bestPhrase 13 = .ok (.getfield 10, 3) := by decide +kernel
theorem dX3_bestPhrase_16 : decode cX3_bestPhrase 16 = .ok (.getfield 71, 3) := by decide +kernel
theorem dX3_bestPhrase_19 : decode cX3_bestPhrase 19 = .ok (.if_icmp .ge 126, 3) := by decide +kernel
theorem dX3_bestPhrase_22 : decode cX3_bestPhrase 22 = .ok (.iconst 0, 1) := by decide +kernel
theorem dX3_bestPhrase_23 : decode cX3_bestPhrase 23 = .ok (.istore 5, 2) := by decide +kernel
theorem dX3_bestPhrase_25 : decode cX3_bestPhrase 25 = .ok (.iconst 0, 1) := by decide +kernel
theorem dX3_bestPhrase_26 : decode cX3_bestPhrase 26 = .ok (.istore 6, 2) := by decide +kernel
theorem dX3_bestPhrase_28 : decode cX3_bestPhrase 28 = .ok (.iconst 0, 1) := by decide +kernel
theorem dX3_bestPhrase_29 : decode cX3_bestPhrase 29 = .ok (.istore 7, 2) := by decide +kernel
theorem dX3_bestPhrase_31 : decode cX3_bestPhrase 31 = .ok (.iload 7, 2) := by decide +kernel
theorem dX3_bestPhrase_33 : decode cX3_bestPhrase 33 = .ok (.aload_n 0, 1) := by decide +kernel
theorem dX3_bestPhrase_34 : decode cX3_bestPhrase 34 = .ok (.getfield 10, 3) := by decide +kernel
theorem dX3_bestPhrase_37 : decode cX3_bestPhrase 37 = .ok (.getfield 68, 3) := by decide +kernel
theorem dX3_bestPhrase_40 : decode cX3_bestPhrase 40 = .ok (.if_icmp .ge 66, 3) := by decide +kernel
theorem dX3_bestPhrase_43 : decode cX3_bestPhrase 43 = .ok (.aload_n 0, 1) := by decide +kernel
theorem dX3_bestPhrase_44 : decode cX3_bestPhrase 44 = .ok (.getfield 10, 3) := by decide +kernel
theorem dX3_bestPhrase_47 : decode cX3_bestPhrase 47 = .ok (.iload 7, 2) := by decide +kernel
theorem dX3_bestPhrase_49 : decode cX3_bestPhrase 49 = .ok (.invokevirtual 138, 3) := by decide +kernel
theorem dX3_bestPhrase_52 : decode cX3_bestPhrase 52 = .ok (.istore 8, 2) := by decide +kernel
theorem dX3_bestPhrase_54 : decode cX3_bestPhrase 54 = .ok (.iload 8, 2) := by decide +kernel
theorem dX3_bestPhrase_56 : decode cX3_bestPhrase 56 = .ok (.ifCond .ne 7, 3) := by decide +kernel
theorem dX3_bestPhrase_59 : decode cX3_bestPhrase 59 = .ok (.iconst 0, 1) := by decide +kernel
theorem dX3_bestPhrase_60 : decode cX3_bestPhrase 60 = .ok (.goto 11, 3) := by decide +kernel
theorem dX3_bestPhrase_63 : decode cX3_bestPhrase 63 = .ok (.aload_n 0, 1) := by decide +kernel
theorem dX3_bestPhrase_64 : decode cX3_bestPhrase 64 = .ok (.iload 7, 2) := by decide +kernel
theorem dX3_bestPhrase_66 : decode cX3_bestPhrase 66 = .ok (.iload 4, 2) := by decide +kernel
theorem dX3_bestPhrase_68 : decode cX3_bestPhrase 68 = .ok (.invokevirtual 166, 3) := by decide +kernel
theorem dX3_bestPhrase_71 : decode cX3_bestPhrase 71 = .ok (.istore 9, 2) := by decide +kernel
theorem dX3_bestPhrase_73 : decode cX3_bestPhrase 73 = .ok (.iload 9, 2) := by decide +kernel
theorem dX3_bestPhrase_75 : decode cX3_bestPhrase 75 = .ok (.ldc 169, 2) := by decide +kernel
theorem dX3_bestPhrase_77 : decode cX3_bestPhrase 77 = .ok (.if_icmp .lt 13, 3) := by decide +kernel
theorem dX3_bestPhrase_80 : decode cX3_bestPhrase 80 = .ok (.iload 5, 2) := by decide +kernel
theorem dX3_bestPhrase_82 : decode cX3_bestPhrase 82 = .ok (.iload 8, 2) := by decide +kernel
theorem dX3_bestPhrase_84 : decode cX3_bestPhrase 84 = .ok (.iadd, 1) := by decide +kernel
theorem dX3_bestPhrase_85 : decode cX3_bestPhrase 85 = .ok (.istore 5, 2) := by decide +kernel
theorem dX3_bestPhrase_87 : decode cX3_bestPhrase 87 = .ok (.goto 13, 3) := by decide +kernel
theorem dX3_bestPhrase_90 : decode cX3_bestPhrase 90 = .ok (.iload 6, 2) := by decide +kernel
theorem dX3_bestPhrase_92 : decode cX3_bestPhrase 92 = .ok (.iload 8, 2) := by decide +kernel
theorem dX3_bestPhrase_94 : decode cX3_bestPhrase 94 = .ok (.iload 9, 2) := by decide +kernel
theorem dX3_bestPhrase_96 : decode cX3_bestPhrase 96 = .ok (.imul, 1) := by decide +kernel
theorem dX3_bestPhrase_97 : decode cX3_bestPhrase 97 = .ok (.iadd, 1) := by decide +kernel
theorem dX3_bestPhrase_98 : decode cX3_bestPhrase 98 = .ok (.istore 6, 2) := by decide +kernel
theorem dX3_bestPhrase_100 : decode cX3_bestPhrase 100 = .ok (.iinc 7 1, 3) := by decide +kernel
theorem dX3_bestPhrase_103 : decode cX3_bestPhrase 103 = .ok (.goto (-72), 3) := by decide +kernel
theorem dX3_bestPhrase_106 : decode cX3_bestPhrase 106 = .ok (.iload_n 1, 1) := by decide +kernel
theorem dX3_bestPhrase_107 : decode cX3_bestPhrase 107 = .ok (.bipush (-6), 2) := by decide +kernel
theorem dX3_bestPhrase_109 : decode cX3_bestPhrase 109 = .ok (.if_icmp .eq 21, 3) := by decide +kernel
theorem dX3_bestPhrase_112 : decode cX3_bestPhrase 112 = .ok (.iload 5, 2) := by decide +kernel
theorem dX3_bestPhrase_114 : decode cX3_bestPhrase 114 = .ok (.iload_n 2, 1) := by decide +kernel
theorem dX3_bestPhrase_115 : decode cX3_bestPhrase 115 = .ok (.if_icmp .lt 15, 3) := by decide +kernel
theorem dX3_bestPhrase_118 : decode cX3_bestPhrase 118 = .ok (.iload 5, 2) := by decide +kernel
theorem dX3_bestPhrase_120 : decode cX3_bestPhrase 120 = .ok (.iload_n 2, 1) := by decide +kernel
theorem dX3_bestPhrase_121 : decode cX3_bestPhrase 121 = .ok (.if_icmp .ne 18, 3) := by decide +kernel
theorem dX3_bestPhrase_124 : decode cX3_bestPhrase 124 = .ok (.iload 6, 2) := by decide +kernel
theorem dX3_bestPhrase_126 : decode cX3_bestPhrase 126 = .ok (.iload_n 3, 1) := by decide +kernel
theorem dX3_bestPhrase_127 : decode cX3_bestPhrase 127 = .ok (.if_icmp .ge 12, 3) := by decide +kernel
theorem dX3_bestPhrase_130 : decode cX3_bestPhrase 130 = .ok (.iload 4, 2) := by decide +kernel
theorem dX3_bestPhrase_132 : decode cX3_bestPhrase 132 = .ok (.istore_n 1, 1) := by decide +kernel
theorem dX3_bestPhrase_133 : decode cX3_bestPhrase 133 = .ok (.iload 5, 2) := by decide +kernel
theorem dX3_bestPhrase_135 : decode cX3_bestPhrase 135 = .ok (.istore_n 2, 1) := by decide +kernel
theorem dX3_bestPhrase_136 : decode cX3_bestPhrase 136 = .ok (.iload 6, 2) := by decide +kernel
theorem dX3_bestPhrase_138 : decode cX3_bestPhrase 138 = .ok (.istore_n 3, 1) := by decide +kernel
theorem dX3_bestPhrase_139 : decode cX3_bestPhrase 139 = .ok (.iinc 4 1, 3) := by decide +kernel
theorem dX3_bestPhrase_142 : decode cX3_bestPhrase 142 = .ok (.goto (-132), 3) := by decide +kernel
theorem dX3_bestPhrase_145 : decode cX3_bestPhrase 145 = .ok (.iload_n 1, 1) := by decide +kernel
theorem dX3_bestPhrase_146 : decode cX3_bestPhrase 146 = .ok (.ireturn, 1) := by decide +kernel
theorem dX3_bestChange_0 : decode cX3_bestChange 0 = .ok (.aload_n 0, 1) := by decide +kernel
theorem dX3_bestChange_1 : decode cX3_bestChange 1 = .ok (.getfield 10, 3) := by decide +kernel
theorem dX3_bestChange_4 : decode cX3_bestChange 4 = .ok (.iload_n 1, 1) := by decide +kernel
theorem dX3_bestChange_5 : decode cX3_bestChange 5 = .ok (.invokevirtual 93, 3) := by decide +kernel
theorem dX3_bestChange_8 : decode cX3_bestChange 8 = .ok (.ifCond .eq 14, 3) := by decide +kernel
theorem dX3_bestChange_11 : decode cX3_bestChange 11 = .ok (.aload_n 0, 1) := by decide +kernel
theorem dX3_bestChange_12 : decode cX3_bestChange 12 = .ok (.getfield 10, 3) := by decide +kernel
theorem dX3_bestChange_15 : decode cX3_bestChange 15 = .ok (.iload_n 2, 1) := by decide +kernel
theorem dX3_bestChange_16 : decode cX3_bestChange 16 = .ok (.invokevirtual 103, 3) := by decide +kernel
theorem dX3_bestChange_19 : decode cX3_bestChange 19 = .ok (.ifCond .ne 5, 3) := by decide +kernel
theorem dX3_bestChange_22 : decode cX3_bestChange 22 = .ok (.iconst (-1), 1) := by decide +kernel
theorem dX3_bestChange_23 : decode cX3_bestChange 23 = .ok (.ireturn, 1) := by decide +kernel
theorem dX3_bestChange_24 : decode cX3_bestChange 24 = .ok (.iload_n 3, 1) := by decide +kernel
theorem dX3_bestChange_25 : decode cX3_bestChange 25 = .ok (.ifCond .lt 8, 3) := by decide +kernel
theorem dX3_bestChange_28 : decode cX3_bestChange 28 = .ok (.iload_n 3, 1) := by decide +kernel
theorem dX3_bestChange_29 : decode cX3_bestChange 29 = .ok (.iconst 1, 1) := by decide +kernel
theorem dX3_bestChange_30 : decode cX3_bestChange 30 = .ok (.if_icmp .le 6, 3) := by decide +kernel
theorem dX3_bestChange_33 : decode cX3_bestChange 33 = .ok (.bipush (-2), 2) := by decide +kernel
theorem dX3_bestChange_35 : decode cX3_bestChange 35 = .ok (.ireturn, 1) := by decide +kernel
theorem dX3_bestChange_36 : decode cX3_bestChange 36 = .ok (.aload_n 0, 1) := by decide +kernel
theorem dX3_bestChange_37 : decode cX3_bestChange 37 = .ok (.getfield 26, 3) := by decide +kernel
theorem dX3_bestChange_40 : decode cX3_bestChange 40 = .ok (.aload_n 0, 1) := by decide +kernel
theorem dX3_bestChange_41 : decode cX3_bestChange 41 = .ok (.getfield 10, 3) := by decide +kernel
theorem dX3_bestChange_44 : decode cX3_bestChange 44 = .ok (.iload_n 1, 1) := by decide +kernel
theorem dX3_bestChange_45 : decode cX3_bestChange 45 = .ok (.iload_n 2, 1) := by decide +kernel
theorem dX3_bestChange_46 : decode cX3_bestChange 46 = .ok (.invokevirtual 189, 3) := by decide +kernel
theorem dX3_bestChange_49 : decode cX3_bestChange 49 = .ok (.bipush (-6), 2) := by decide +kernel
theorem dX3_bestChange_51 : decode cX3_bestChange 51 = .ok (.istore 4, 2) := by decide +kernel
theorem dX3_bestChange_53 : decode cX3_bestChange 53 = .ok (.ldc 169, 2) := by decide +kernel
theorem dX3_bestChange_55 : decode cX3_bestChange 55 = .ok (.istore 5, 2) := by decide +kernel
theorem dX3_bestChange_57 : decode cX3_bestChange 57 = .ok (.iconst 0, 1) := by decide +kernel
theorem dX3_bestChange_58 : decode cX3_bestChange 58 = .ok (.istore 6, 2) := by decide +kernel
theorem dX3_bestChange_60 : decode cX3_bestChange 60 = .ok (.iload 6, 2) := by decide +kernel
theorem dX3_bestChange_62 : decode cX3_bestChange 62 = .ok (.aload_n 0, 1) := by decide +kernel
theorem dX3_bestChange_63 : decode cX3_bestChange 63 = .ok (.getfield 10, 3) := by decide +kernel
theorem dX3_bestChange_66 : decode cX3_bestChange 66 = .ok (.getfield 131, 3) := by decide +kernel
theorem dX3_bestChange_69 : decode cX3_bestChange 69 = .ok (.iload_n 1, 1) := by decide +kernel
theorem dX3_bestChange_70 : decode cX3_bestChange 70 = .ok (.iaload, 1) := by decide +kernel
theorem dX3_bestChange_71 : decode cX3_bestChange 71 = .ok (.if_icmp .ge 51, 3) := by decide +kernel
theorem dX3_bestChange_74 : decode cX3_bestChange 74 = .ok (.aload_n 0, 1) := by decide +kernel
theorem dX3_bestChange_75 : decode cX3_bestChange 75 = .ok (.getfield 26, 3) := by decide +kernel
theorem dX3_bestChange_78 : decode cX3_bestChange 78 = .ok (.iload 6, 2) := by decide +kernel
theorem dX3_bestChange_80 : decode cX3_bestChange 80 = .ok (.invokevirtual 193, 3) := by decide +kernel
theorem dX3_bestChange_83 : decode cX3_bestChange 83 = .ok (.aload_n 0, 1) := by decide +kernel
theorem dX3_bestChange_84 : decode cX3_bestChange 84 = .ok (.getfield 26, 3) := by decide +kernel
theorem dX3_bestChange_87 : decode cX3_bestChange 87 = .ok (.invokevirtual 196, 3) := by decide +kernel
theorem dX3_bestChange_90 : decode cX3_bestChange 90 = .ok (.istore 7, 2) := by decide +kernel
theorem dX3_bestChange_92 : decode cX3_bestChange 92 = .ok (.aload_n 0, 1) := by decide +kernel
theorem dX3_bestChange_93 : decode cX3_bestChange 93 = .ok (.getfield 26, 3) := by decide +kernel
theorem dX3_bestChange_96 : decode cX3_bestChange 96 = .ok (.iload 6, 2) := by decide +kernel
theorem dX3_bestChange_98 : decode cX3_bestChange 98 = .ok (.invokevirtual 193, 3) := by decide +kernel
theorem dX3_bestChange_101 : decode cX3_bestChange 101 = .ok (.iload 7, 2) := by decide +kernel
theorem dX3_bestChange_103 : decode cX3_bestChange 103 = .ok (.iload 5, 2) := by decide +kernel
theorem dX3_bestChange_105 : decode cX3_bestChange 105 = .ok (.if_icmp .ge 11, 3) := by decide +kernel
theorem dX3_bestChange_108 : decode cX3_bestChange 108 = .ok (.iload 7, 2) := by decide +kernel
theorem dX3_bestChange_110 : decode cX3_bestChange 110 = .ok (.istore 5, 2) := by decide +kernel
theorem dX3_bestChange_112 : decode cX3_bestChange 112 = .ok (.iload 6, 2) := by decide +kernel
theorem dX3_bestChange_114 : decode cX3_bestChange 114 = .ok (.istore 4, 2) := by decide +kernel
theorem dX3_bestChange_116 : decode cX3_bestChange 116 = .ok (.iinc 6 1, 3) := by decide +kernel
theorem dX3_bestChange_119 : decode cX3_bestChange 119 = .ok (.goto (-59), 3) := by decide +kernel
theorem dX3_bestChange_122 : decode cX3_bestChange 122 = .ok (.iload_n 3, 1) := by decide +kernel
theorem dX3_bestChange_123 : decode cX3_bestChange 123 = .ok (.ifCond .eq 10, 3) := by decide +kernel
theorem dX3_bestChange_126 : decode cX3_bestChange 126 = .ok (.iload 4, 2) := by decide +kernel
theorem dX3_bestChange_128 : decode cX3_bestChange 128 = .ok (.bipush (-6), 2) := by decide +kernel
theorem dX3_bestChange_130 : decode cX3_bestChange 130 = .ok (.if_icmp .ne 8, 3) := by decide +kernel
theorem dX3_bestChange_133 : decode cX3_bestChange 133 = .ok (.iload 4, 2) := by decide +kernel
theorem dX3_bestChange_135 : decode cX3_bestChange 135 = .ok (.goto 5, 3) := by decide +kernel
theorem dX3_bestChange_138 : decode cX3_bestChange 138 = .ok (.iload 5, 2) := by decide +kernel
theorem dX3_bestChange_140 : decode cX3_bestChange 140 = .ok (.ireturn, 1) := by decide +kernel
theorem dX3_enoughBreath_0 : decode cX3_enoughBreath 0 = .ok (.aload_n 0, 1) := by decide +kernel
theorem dX3_enoughBreath_1 : decode cX3_enoughBreath 1 = .ok (.getfield 10, 3) := by decide +kernel
theorem dX3_enoughBreath_4 : decode cX3_enoughBreath 4 = .ok (.iload_n 1, 1) := by decide +kernel
theorem dX3_enoughBreath_5 : decode cX3_enoughBreath 5 = .ok (.invokevirtual 93, 3) := by decide +kernel
theorem dX3_enoughBreath_8 : decode cX3_enoughBreath 8 = .ok (.ifCond .eq 14, 3) := by decide +kernel
theorem dX3_enoughBreath_11 : decode cX3_enoughBreath 11 = .ok (.aload_n 0, 1) := by decide +kernel
theorem dX3_enoughBreath_12 : decode cX3_enoughBreath 12 = .ok (.getfield 10, 3) := by decide +kernel
theorem dX3_enoughBreath_15 : decode cX3_enoughBreath 15 = .ok (.iload_n 2, 1) := by decide +kernel
theorem dX3_enoughBreath_16 : decode cX3_enoughBreath 16 = .ok (.invokevirtual 103, 3) := by decide +kernel
theorem dX3_enoughBreath_19 : decode cX3_enoughBreath 19 = .ok (.ifCond .ne 5, 3) := by decide +kernel
theorem dX3_enoughBreath_22 : decode cX3_enoughBreath 22 = .ok (.iconst (-1), 1) := by decide +kernel
theorem dX3_enoughBreath_23 : decode cX3_enoughBreath 23 = .ok (.ireturn, 1) := by decide +kernel
theorem dX3_enoughBreath_24 : decode cX3_enoughBreath 24 = .ok (.aload_n 0, 1) := by decide +kernel
theorem dX3_enoughBreath_25 : decode cX3_enoughBreath 25 = .ok (.getfield 26, 3) := by decide +kernel
theorem dX3_enoughBreath_28 : decode cX3_enoughBreath 28 = .ok (.aload_n 0, 1) := by decide +kernel
theorem dX3_enoughBreath_29 : decode cX3_enoughBreath 29 = .ok (.getfield 10, 3) := by decide +kernel
theorem dX3_enoughBreath_32 : decode cX3_enoughBreath 32 = .ok (.iload_n 1, 1) := by decide +kernel
theorem dX3_enoughBreath_33 : decode cX3_enoughBreath 33 = .ok (.iload_n 2, 1) := by decide +kernel
theorem dX3_enoughBreath_34 : decode cX3_enoughBreath 34 = .ok (.invokevirtual 189, 3) := by decide +kernel
theorem dX3_enoughBreath_37 : decode cX3_enoughBreath 37 = .ok (.bipush (-6), 2) := by decide +kernel
theorem dX3_enoughBreath_39 : decode cX3_enoughBreath 39 = .ok (.istore_n 3, 1) := by decide +kernel
theorem dX3_enoughBreath_40 : decode cX3_enoughBreath 40 = .ok (.ldc 169, 2) := by decide +kernel
theorem dX3_enoughBreath_42 : decode cX3_enoughBreath 42 = .ok (.istore 4, 2) := by decide +kernel
theorem dX3_enoughBreath_44 : decode cX3_enoughBreath 44 = .ok (.iconst 1, 1) := by decide +kernel
theorem dX3_enoughBreath_45 : decode cX3_enoughBreath 45 = .ok (.istore 5, 2) := by decide +kernel
theorem dX3_enoughBreath_47 : decode cX3_enoughBreath 47 = .ok (.iload 5, 2) := by decide +kernel
theorem dX3_enoughBreath_49 : decode cX3_enoughBreath 49 = .ok (.bipush 8, 2) := by decide +kernel
theorem dX3_enoughBreath_51 : decode cX3_enoughBreath 51 = .ok (.if_icmp .gt 41, 3) := by decide +kernel
theorem dX3_enoughBreath_54 : decode cX3_enoughBreath 54 = .ok (.aload_n 0, 1) := by decide +kernel
theorem dX3_enoughBreath_55 : decode cX3_enoughBreath 55 = .ok (.getfield 26, 3) := by decide +kernel
theorem dX3_enoughBreath_58 : decode cX3_enoughBreath 58 = .ok (.iload 5, 2) := by decide +kernel
theorem dX3_enoughBreath_60 : decode cX3_enoughBreath 60 = .ok (.putfield 199, 3) := by decide +kernel
theorem dX3_enoughBreath_63 : decode cX3_enoughBreath 63 = .ok (.aload_n 0, 1) := by decide +kernel
theorem dX3_enoughBreath_64 : decode cX3_enoughBreath 64 = .ok (.getfield 26, 3) := by decide +kernel
theorem dX3_enoughBreath_67 : decode cX3_enoughBreath 67 = .ok (.invokevirtual 196, 3) := by decide +kernel
theorem dX3_enoughBreath_70 : decode cX3_enoughBreath 70 = .ok (.istore 6, 2) := by decide +kernel
theorem dX3_enoughBreath_72 : decode cX3_enoughBreath 72 = .ok (.iload 6, 2) := by decide +kernel
theorem dX3_enoughBreath_74 : decode cX3_enoughBreath 74 = .ok (.iload 4, 2) := by decide +kernel
theorem dX3_enoughBreath_76 : decode cX3_enoughBreath 76 = .ok (.if_icmp .ge 10, 3) := by decide +kernel
theorem dX3_enoughBreath_79 : decode cX3_enoughBreath 79 = .ok (.iload 6, 2) := by decide +kernel
theorem dX3_enoughBreath_81 : decode cX3_enoughBreath 81 = .ok (.istore 4, 2) := by decide +kernel
theorem dX3_enoughBreath_83 : decode cX3_enoughBreath 83 = .ok (.iload 5, 2) := by decide +kernel
theorem dX3_enoughBreath_85 : decode cX3_enoughBreath 85 = .ok (.istore_n 3, 1) := by decide +kernel
theorem dX3_enoughBreath_86 : decode cX3_enoughBreath 86 = .ok (.iinc 5 1, 3) := by decide +kernel
theorem dX3_enoughBreath_89 : decode cX3_enoughBreath 89 = .ok (.goto (-42), 3) := by decide +kernel
theorem dX3_enoughBreath_92 : decode cX3_enoughBreath 92 = .ok (.iload_n 3, 1) := by decide +kernel
theorem dX3_enoughBreath_93 : decode cX3_enoughBreath 93 = .ok (.ireturn, 1) := by decide +kernel
theorem dX3_put_0 : decode cX3_put 0 = .ok (.lload_n 1, 1) := by decide +kernel
theorem dX3_put_1 : decode cX3_put 1 = .ok (.invokestatic 202, 3) := by decide +kernel
theorem dX3_put_4 : decode cX3_put 4 = .ok (.istore_n 3, 1) := by decide +kernel
theorem dX3_put_5 : decode cX3_put 5 = .ok (.iload_n 3, 1) := by decide +kernel
theorem dX3_put_6 : decode cX3_put 6 = .ok (.iconst 1, 1) := by decide +kernel
theorem dX3_put_7 : decode cX3_put 7 = .ok (.if_icmp .ge 6, 3) := by decide +kernel
theorem dX3_put_10 : decode cX3_put 10 = .ok (.bipush (-2), 2) := by decide +kernel
theorem dX3_put_12 : decode cX3_put 12 = .ok (.ireturn, 1) := by decide +kernel
theorem dX3_put_13 : decode cX3_put 13 = .ok (.aload_n 0, 1) := by decide +kernel
theorem dX3_put_14 : decode cX3_put 14 = .ok (.getfield 19, 3) := by decide +kernel
theorem dX3_put_17 : decode cX3_put 17 = .ok (.getfield 74, 3) := by decide +kernel
theorem dX3_put_20 : decode cX3_put 20 = .ok (.iload_n 3, 1) := by decide +kernel
theorem dX3_put_21 : decode cX3_put 21 = .ok (.iadd, 1) := by decide +kernel
theorem dX3_put_22 : decode cX3_put 22 = .ok (.bipush 60, 2) := by decide +kernel
theorem dX3_put_24 : decode cX3_put 24 = .ok (.if_icmp .le 6, 3) := by decide +kernel
theorem dX3_put_27 : decode cX3_put 27 = .ok (.bipush (-4), 2) := by decide +kernel
theorem dX3_put_29 : decode cX3_put 29 = .ok (.ireturn, 1) := by decide +kernel
theorem dX3_put_30 : decode cX3_put 30 = .ok (.aload_n 0, 1) := by decide +kernel
theorem dX3_put_31 : decode cX3_put 31 = .ok (.getfield 19, 3) := by decide +kernel
theorem dX3_put_34 : decode cX3_put 34 = .ok (.lload_n 1, 1) := by decide +kernel
theorem dX3_put_35 : decode cX3_put 35 = .ok (.iload_n 3, 1) := by decide +kernel
theorem dX3_put_36 : decode cX3_put 36 = .ok (.invokevirtual 206, 3) := by decide +kernel
theorem dX3_put_39 : decode cX3_put 39 = .ok (.aload_n 0, 1) := by decide +kernel
theorem dX3_put_40 : decode cX3_put 40 = .ok (.getfield 19, 3) := by decide +kernel
theorem dX3_put_43 : decode cX3_put 43 = .ok (.getfield 74, 3) := by decide +kernel
theorem dX3_put_46 : decode cX3_put 46 = .ok (.ireturn, 1) := by decide +kernel
theorem dX3_wipe_0 : decode cX3_wipe 0 = .ok (.aload_n 0, 1) := by decide +kernel
theorem dX3_wipe_1 : decode cX3_wipe 1 = .ok (.getfield 19, 3) := by decide +kernel
theorem dX3_wipe_4 : decode cX3_wipe 4 = .ok (.getfield 74, 3) := by decide +kernel
theorem dX3_wipe_7 : decode cX3_wipe 7 = .ok (.istore_n 1, 1) := by decide +kernel
theorem dX3_wipe_8 : decode cX3_wipe 8 = .ok (.aload_n 0, 1) := by decide +kernel
theorem dX3_wipe_9 : decode cX3_wipe 9 = .ok (.getfield 19, 3) := by decide +kernel
theorem dX3_wipe_12 : decode cX3_wipe 12 = .ok (.iconst 0, 1) := by decide +kernel
theorem dX3_wipe_13 : decode cX3_wipe 13 = .ok (.putfield 74, 3) := by decide +kernel
theorem dX3_wipe_16 : decode cX3_wipe 16 = .ok (.iload_n 1, 1) := by decide +kernel
theorem dX3_wipe_17 : decode cX3_wipe 17 = .ok (.ireturn, 1) := by decide +kernel
theorem dX3_fault_0 : decode cX3_fault 0 = .ok (.aload_n 0, 1) := by decide +kernel
theorem dX3_fault_1 : decode cX3_fault 1 = .ok (.getfield 19, 3) := by decide +kernel
theorem dX3_fault_4 : decode cX3_fault 4 = .ok (.invokevirtual 58, 3) := by decide +kernel
theorem dX3_fault_7 : decode cX3_fault 7 = .ok (.ireturn, 1) := by decide +kernel
theorem dX3_record_0 : decode cX3_record 0 = .ok (.aload_n 0, 1) := by decide +kernel
theorem dX3_record_1 : decode cX3_record 1 = .ok (.getfield 34, 3) := by decide +kernel
theorem dX3_record_4 : decode cX3_record 4 = .ok (.bipush 6, 2) := by decide +kernel
theorem dX3_record_6 : decode cX3_record 6 = .ok (.if_icmp .ne 55, 3) := by decide +kernel
theorem dX3_record_9 : decode cX3_record 9 = .ok (.aload_n 0, 1) := by decide +kernel
theorem dX3_record_10 : decode cX3_record 10 = .ok (.getfield 30, 3) := by decide +kernel
theorem dX3_record_13 : decode cX3_record 13 = .ok (.iconst 0, 1) := by decide +kernel
theorem dX3_record_14 : decode cX3_record 14 = .ok (.aaload, 1) := by decide +kernel
theorem dX3_record_15 : decode cX3_record 15 = .ok (.astore_n 1, 1) := by decide +kernel
theorem dX3_record_16 : decode cX3_record 16 = .ok (.iconst 1, 1) := by decide +kernel
theorem dX3_record_17 : decode cX3_record 17 = .ok (.istore_n 2, 1) := by decide +kernel
theorem dX3_record_18 : decode cX3_record 18 = .ok (.iload_n 2, 1) := by decide +kernel
theorem dX3_record_19 : decode cX3_record 19 = .ok (.bipush 6, 2) := by decide +kernel
theorem dX3_record_21 : decode cX3_record 21 = .ok (.if_icmp .ge 23, 3) := by decide +kernel
theorem dX3_record_24 : decode cX3_record 24 = .ok (.aload_n 0, 1) := by decide +kernel
theorem dX3_record_25 : decode cX3_record 25 = .ok (.getfield 30, 3) := by decide +kernel
theorem dX3_record_28 : decode cX3_record 28 = .ok (.iload_n 2, 1) := by decide +kernel
theorem dX3_record_29 : decode cX3_record 29 = .ok (.iconst 1, 1) := by decide +kernel
theorem dX3_record_30 : decode cX3_record 30 = .ok (.isub, 1) := by decide +kernel
theorem dX3_record_31 : decode cX3_record 31 = .ok (.aload_n 0, 1) := by decide +kernel
theorem dX3_record_32 : decode cX3_record 32 = .ok (.getfield 30, 3) := by decide +kernel
theorem dX3_record_35 : decode cX3_record 35 = .ok (.iload_n 2, 1) := by decide +kernel
theorem dX3_record_36 : decode cX3_record 36 = .ok (.aaload, 1) := by decide +kernel
theorem dX3_record_37 : decode cX3_record 37 = .ok (.aastore, 1) := by decide +kernel
theorem dX3_record_38 : decode cX3_record 38 = .ok (.iinc 2 1, 3) := by decide +kernel
theorem dX3_record_41 : decode cX3_record 41 = .ok (.goto (-23), 3) := by decide +kernel
theorem dX3_record_44 : decode cX3_record 44 = .ok (.aload_n 0, 1) := by decide +kernel
theorem dX3_record_45 : decode cX3_record 45 = .ok (.getfield 30, 3) := by decide +kernel
theorem dX3_record_48 : decode cX3_record 48 = .ok (.iconst 5, 1) := by decide +kernel
theorem dX3_record_49 : decode cX3_record 49 = .ok (.aload_n 1, 1) := by decide +kernel
theorem dX3_record_50 : decode cX3_record 50 = .ok (.aastore, 1) := by decide +kernel
theorem dX3_record_51 : decode cX3_record 51 = .ok (.aload_n 0, 1) := by decide +kernel
theorem dX3_record_52 : decode cX3_record 52 = .ok (.dup, 1) := by decide +kernel
theorem dX3_record_53 : decode cX3_record 53 = .ok (.getfield 34, 3) := by decide +kernel
theorem dX3_record_56 : decode cX3_record 56 = .ok (.iconst 1, 1) := by decide +kernel
theorem dX3_record_57 : decode cX3_record 57 = .ok (.isub, 1) := by decide +kernel
theorem dX3_record_58 : decode cX3_record 58 = .ok (.putfield 34, 3) := by decide +kernel
theorem dX3_record_61 : decode cX3_record 61 = .ok (.aload_n 0, 1) := by decide +kernel
theorem dX3_record_62 : decode cX3_record 62 = .ok (.getfield 30, 3) := by decide +kernel
theorem dX3_record_65 : decode cX3_record 65 = .ok (.aload_n 0, 1) := by decide +kernel
theorem dX3_record_66 : decode cX3_record 66 = .ok (.getfield 34, 3) := by decide +kernel
theorem dX3_record_69 : decode cX3_record 69 = .ok (.aaload, 1) := by decide +kernel
theorem dX3_record_70 : decode cX3_record 70 = .ok (.aload_n 0, 1) := by decide +kernel
theorem dX3_record_71 : decode cX3_record 71 = .ok (.getfield 10, 3) := by decide +kernel
theorem dX3_record_74 : decode cX3_record 74 = .ok (.invokevirtual 210, 3) := by decide +kernel
theorem dX3_record_77 : decode cX3_record 77 = .ok (.aload_n 0, 1) := by decide +kernel
theorem dX3_record_78 : decode cX3_record 78 = .ok (.dup, 1) := by decide +kernel
theorem dX3_record_79 : decode cX3_record 79 = .ok (.getfield 34, 3) := by decide +kernel
theorem dX3_record_82 : decode cX3_record 82 = .ok (.iconst 1, 1) := by decide +kernel
theorem dX3_record_83 : decode cX3_record 83 = .ok (.iadd, 1) := by decide +kernel
theorem dX3_record_84 : decode cX3_record 84 = .ok (.putfield 34, 3) := by decide +kernel
theorem dX3_record_87 : decode cX3_record 87 = .ok (.return_, 1) := by decide +kernel
theorem dX3_leastCostOf_0 : decode cX3_leastCostOf 0 = .ok (.aload_n 0, 1) := by decide +kernel
theorem dX3_leastCostOf_1 : decode cX3_leastCostOf 1 = .ok (.getfield 26, 3) := by decide +kernel
theorem dX3_leastCostOf_4 : decode cX3_leastCostOf 4 = .ok (.aload_n 0, 1) := by decide +kernel
theorem dX3_leastCostOf_5 : decode cX3_leastCostOf 5 = .ok (.getfield 10, 3) := by decide +kernel
theorem dX3_leastCostOf_8 : decode cX3_leastCostOf 8 = .ok (.iload_n 1, 1) := by decide +kernel
theorem dX3_leastCostOf_9 : decode cX3_leastCostOf 9 = .ok (.iload_n 2, 1) := by decide +kernel
theorem dX3_leastCostOf_10 : decode cX3_leastCostOf 10 = .ok (.invokevirtual 189, 3) := by decide +kernel
theorem dX3_leastCostOf_13 : decode cX3_leastCostOf 13 = .ok (.aload_n 0, 1) := by decide +kernel
theorem dX3_leastCostOf_14 : decode cX3_leastCostOf 14 = .ok (.getfield 26, 3) := by decide +kernel
theorem dX3_leastCostOf_17 : decode cX3_leastCostOf 17 = .ok (.invokevirtual 196, 3) := by decide +kernel
theorem dX3_leastCostOf_20 : decode cX3_leastCostOf 20 = .ok (.ireturn, 1) := by decide +kernel
theorem dX3_cheapestPhrase_0 : decode cX3_cheapestPhrase 0 = .ok (.bipush (-6), 2) := by decide +kernel
theorem dX3_cheapestPhrase_2 : decode cX3_cheapestPhrase 2 = .ok (.istore_n 2, 1) := by decide +kernel
theorem dX3_cheapestPhrase_3 : decode cX3_cheapestPhrase 3 = .ok (.ldc 169, 2) := by decide +kernel
theorem dX3_cheapestPhrase_5 : decode cX3_cheapestPhrase 5 = .ok (.istore_n 3, 1) := by decide +kernel
theorem dX3_cheapestPhrase_6 : decode cX3_cheapestPhrase 6 = .ok (.iconst 0, 1) := by decide +kernel
theorem dX3_cheapestPhrase_7 : decode cX3_cheapestPhrase 7 = .ok (.istore 4, 2) := by decide +kernel
theorem dX3_cheapestPhrase_9 : decode cX3_cheapestPhrase 9 = .ok (.iload 4, 2) := by decide +kernel
theorem dX3_cheapestPhrase_11 : decode cX3_cheapestPhrase 11 = .ok (.aload_n 0, 1) := by decide +kernel
theorem dX3_cheapestPhrase_12 : decode cX3_cheapestPhrase 12 = .ok (.getfield 10, 3) := by decide +kernel
theorem dX3_cheapestPhrase_15 : decode cX3_cheapestPhrase 15 = .ok (.getfield 71, 3) := by decide +kernel
theorem dX3_cheapestPhrase_18 : decode cX3_cheapestPhrase 18 = .ok (.if_icmp .ge 30, 3) := by decide +kernel
theorem dX3_cheapestPhrase_21 : decode cX3_cheapestPhrase 21 = .ok (.aload_n 0, 1) := by decide +kernel
theorem dX3_cheapestPhrase_22 : decode cX3_cheapestPhrase 22 = .ok (.iload_n 1, 1) := by decide +kernel
theorem dX3_cheapestPhrase_23 : decode cX3_cheapestPhrase 23 = .ok (.iload 4, 2) := by decide +kernel
theorem dX3_cheapestPhrase_25 : decode cX3_cheapestPhrase 25 = .ok (.invokevirtual 166, 3) := by decide +kernel
theorem dX3_cheapestPhrase_28 : decode cX3_cheapestPhrase 28 = .ok (.istore 5, 2) := by decide +kernel
theorem dX3_cheapestPhrase_30 : decode cX3_cheapestPhrase 30 = .ok (.iload 5, 2) := by decide +kernel
theorem dX3_cheapestPhrase_32 : decode cX3_cheapestPhrase 32 = .ok (.iload_n 3, 1) := by decide +kernel
theorem dX3_cheapestPhrase_33 : decode cX3_cheapestPhrase 33 = .ok (.if_icmp .ge 9, 3) := by decide +kernel
theorem dX3_cheapestPhrase_36 : decode cX3_cheapestPhrase 36 = .ok (.iload 5, 2) := by decide +kernel
theorem dX3_cheapestPhrase_38 : decode cX3_cheapestPhrase 38 = .ok (.istore_n 3, 1) := by decide +kernel
theorem dX3_cheapestPhrase_39 : decode cX3_cheapestPhrase 39 = .ok (.iload 4, 2) := by decide +kernel
theorem dX3_cheapestPhrase_41 : decode cX3_cheapestPhrase 41 = .ok (.istore_n 2, 1) := by decide +kernel
theorem dX3_cheapestPhrase_42 : decode cX3_cheapestPhrase 42 = .ok (.iinc 4 1, 3) := by decide +kernel
theorem dX3_cheapestPhrase_45 : decode cX3_cheapestPhrase 45 = .ok (.goto (-36), 3) := by decide +kernel
theorem dX3_cheapestPhrase_48 : decode cX3_cheapestPhrase 48 = .ok (.iload_n 2, 1) := by decide +kernel
theorem dX3_cheapestPhrase_49 : decode cX3_cheapestPhrase 49 = .ok (.ireturn, 1) := by decide +kernel
