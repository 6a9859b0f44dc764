theorem dX1_init_0 : decode cX1_init 0 = .ok (.aload_n 0, 1) := by decide +kernel
theorem dX1_init_1 : decode cX1_init 1 = .ok (.invokespecial 3, 3) := by decide +kernel
theorem dX1_init_4 : decode cX1_init 4 = .ok (.aload_n 0, 1) := by decide +kernel
theorem dX1_init_5 : decode cX1_init 5 = .ok (.iconst 1, 1) := by decide +kernel
theorem dX1_init_6 : decode cX1_init 6 = .ok (.putfield 9, 3) := by decide +kernel
theorem dX1_init_9 : decode cX1_init 9 = .ok (.aload_n 0, 1) := by decide +kernel
theorem dX1_init_10 : decode cX1_init 10 = .ok (.iconst 0, 1) := by decide +kernel
theorem dX1_init_11 : decode cX1_init 11 = .ok (.putfield 15, 3) := by decide +kernel
theorem dX1_init_14 : decode cX1_init 14 = .ok (.aload_n 0, 1) := by decide +kernel
theorem dX1_init_15 : decode cX1_init 15 = .ok (.iconst 0, 1) := by decide +kernel
theorem dX1_init_16 : decode cX1_init 16 = .ok (.putfield 18, 3) := by decide +kernel
theorem dX1_init_19 : decode cX1_init 19 = .ok (.aload_n 0, 1) := by decide +kernel
theorem dX1_init_20 : decode cX1_init 20 = .ok (.iconst 0, 1) := by decide +kernel
theorem dX1_init_21 : decode cX1_init 21 = .ok (.putfield 21, 3) := by decide +kernel
theorem dX1_init_24 : decode cX1_init 24 = .ok (.aload_n 0, 1) := by decide +kernel
theorem dX1_init_25 : decode cX1_init 25 = .ok (.iconst 0, 1) := by decide +kernel
theorem dX1_init_26 : decode cX1_init 26 = .ok (.putfield 24, 3) := by decide +kernel
theorem dX1_init_29 : decode cX1_init 29 = .ok (.aload_n 0, 1) := by decide +kernel
theorem dX1_init_30 : decode cX1_init 30 = .ok (.iconst 0, 1) := by decide +kernel
theorem dX1_init_31 : decode cX1_init 31 = .ok (.putfield 27, 3) := by decide +kernel
theorem dX1_init_34 : decode cX1_init 34 = .ok (.aload_n 0, 1) := by decide +kernel
theorem dX1_init_35 : decode cX1_init 35 = .ok (.bipush 16, 2) := by decide +kernel
theorem dX1_init_37 : decode cX1_init 37 = .ok (.newarray .int, 2) := by decide +kernel
theorem dX1_init_39 : decode cX1_init 39 = .ok (.putfield 30, 3) := by decide +kernel
theorem dX1_init_42 : decode cX1_init 42 = .ok (.aload_n 0, 1) := by decide +kernel
theorem dX1_init_43 : decode cX1_init 43 = .ok (.bipush 24, 2) := by decide +kernel
theorem dX1_init_45 : decode cX1_init 45 = .ok (.newarray .int, 2) := by decide +kernel
theorem dX1_init_47 : decode cX1_init 47 = .ok (.putfield 34, 3) := by decide +kernel
theorem dX1_init_50 : decode cX1_init 50 = .ok (.aload_n 0, 1) := by decide +kernel
theorem dX1_init_51 : decode cX1_init 51 = .ok (.bipush 25, 2) := by decide +kernel
theorem dX1_init_53 : decode cX1_init 53 = .ok (.newarray .int, 2) := by decide +kernel
theorem dX1_init_55 : decode cX1_init 55 = .ok (.putfield 37, 3) := by decide +kernel
theorem dX1_init_58 : decode cX1_init 58 = .ok (.aload_n 0, 1) := by decide +kernel
theorem dX1_init_59 : decode cX1_init 59 = .ok (.sipush 425, 3) := by decide +kernel
theorem dX1_init_62 : decode cX1_init 62 = .ok (.newarray .int, 2) := by decide +kernel
theorem dX1_init_64 : decode cX1_init 64 = .ok (.putfield 40, 3) := by decide +kernel
theorem dX1_init_67 : decode cX1_init 67 = .ok (.aload_n 0, 1) := by decide +kernel
theorem dX1_init_68 : decode cX1_init 68 = .ok (.sipush 425, 3) := by decide +kernel
theorem dX1_init_71 : decode cX1_init 71 = .ok (.newarray .int, 2) := by decide +kernel
theorem dX1_init_73 : decode cX1_init 73 = .ok (.putfield 43, 3) := by decide +kernel
theorem dX1_init_76 : decode cX1_init 76 = .ok (.aload_n 0, 1) := by decide +kernel
theorem dX1_init_77 : decode cX1_init 77 = .ok (.bipush 16, 2) := by decide +kernel
theorem dX1_init_79 : decode cX1_init 79 = .ok (.newarray .int, 2) := by decide +kernel
theorem dX1_init_81 : decode cX1_init 81 = .ok (.putfield 46, 3) := by decide +kernel
theorem dX1_init_84 : decode cX1_init 84 = .ok (.aload_n 0, 1) := by decide +kernel
theorem dX1_init_85 : decode cX1_init 85 = .ok (.bipush 16, 2) := by decide +kernel
theorem dX1_init_87 : decode cX1_init 87 = .ok (.newarray .int, 2) := by decide +kernel
theorem dX1_init_89 : decode cX1_init 89 = .ok (.putfield 49, 3) := by decide +kernel
theorem dX1_init_92 : decode cX1_init 92 = .ok (.return_, 1) := by decide +kernel
theorem dX1_take_0 : decode cX1_take 0 = .ok (.aload_n 0, 1) := by decide +kernel
theorem dX1_take_1 : decode cX1_take 1 = .ok (.aload_n 1, 1) := by decide +kernel
theorem dX1_take_2 : decode cX1_take 2 = .ok (.getfield 52, 3) := by decide +kernel
theorem dX1_take_5 : decode cX1_take 5 = .ok (.iconst 0, 1) := by decide +kernel
theorem dX1_take_6 : decode cX1_take 6 = .ok (.iaload, 1) := by decide +kernel
theorem dX1_take_7 : decode cX1_take 7 = .ok (.putfield 9, 3) := by decide +kernel
theorem dX1_take_10 : decode cX1_take 10 = .ok (.aload_n 0, 1) := by decide +kernel
theorem dX1_take_11 : decode cX1_take 11 = .ok (.aload_n 1, 1) := by decide +kernel
theorem dX1_take_12 : decode cX1_take 12 = .ok (.getfield 52, 3) := by decide +kernel
theorem dX1_take_15 : decode cX1_take 15 = .ok (.iconst 1, 1) := by decide +kernel
theorem dX1_take_16 : decode cX1_take 16 = .ok (.iaload, 1) := by decide +kernel
theorem dX1_take_17 : decode cX1_take 17 = .ok (.putfield 15, 3) := by decide +kernel
theorem dX1_take_20 : decode cX1_take 20 = .ok (.aload_n 0, 1) := by decide +kernel
theorem dX1_take_21 : decode cX1_take 21 = .ok (.aload_n 1, 1) := by decide +kernel
theorem dX1_take_22 : decode cX1_take 22 = .ok (.getfield 52, 3) := by decide +kernel
theorem dX1_take_25 : decode cX1_take 25 = .ok (.iconst 2, 1) := by decide +kernel
theorem dX1_take_26 : decode cX1_take 26 = .ok (.iaload, 1) := by decide +kernel
theorem dX1_take_27 : decode cX1_take 27 = .ok (.putfield 18, 3) := by decide +kernel
theorem dX1_take_30 : decode cX1_take 30 = .ok (.aload_n 0, 1) := by decide +kernel
theorem dX1_take_31 : decode cX1_take 31 = .ok (.aload_n 1, 1) := by decide +kernel
theorem dX1_take_32 : decode cX1_take 32 = .ok (.getfield 52, 3) := by decide +kernel
theorem dX1_take_35 : decode cX1_take 35 = .ok (.iconst 3, 1) := by decide +kernel
theorem dX1_take_36 : decode cX1_take 36 = .ok (.iaload, 1) := by decide +kernel
theorem dX1_take_37 : decode cX1_take 37 = .ok (.putfield 21, 3) := by decide +kernel
theorem dX1_take_40 : decode cX1_take 40 = .ok (.aload_n 0, 1) := by decide +kernel
theorem dX1_take_41 : decode cX1_take 41 = .ok (.aload_n 1, 1) := by decide +kernel
theorem dX1_take_42 : decode cX1_take 42 = .ok (.getfield 57, 3) := by decide +kernel
theorem dX1_take_45 : decode cX1_take 45 = .ok (.iload_n 2, 1) := by decide +kernel
theorem dX1_take_46 : decode cX1_take 46 = .ok (.iaload, 1) := by decide +kernel
theorem dX1_take_47 : decode cX1_take 47 = .ok (.putfield 24, 3) := by decide +kernel
theorem dX1_take_50 : decode cX1_take 50 = .ok (.aload_n 0, 1) := by decide +kernel
theorem dX1_take_51 : decode cX1_take 51 = .ok (.aload_n 1, 1) := by decide +kernel
theorem dX1_take_52 : decode cX1_take 52 = .ok (.getfield 60, 3) := by decide +kernel
theorem dX1_take_55 : decode cX1_take 55 = .ok (.iload_n 3, 1) := by decide +kernel
theorem dX1_take_56 : decode cX1_take 56 = .ok (.iaload, 1) := by decide +kernel
theorem dX1_take_57 : decode cX1_take 57 = .ok (.putfield 27, 3) := by decide +kernel
theorem dX1_take_60 : decode cX1_take 60 = .ok (.aload_n 1, 1) := by decide +kernel
theorem dX1_take_61 : decode cX1_take 61 = .ok (.getfield 63, 3) := by decide +kernel
theorem dX1_take_64 : decode cX1_take 64 = .ok (.iload_n 2, 1) := by decide +kernel
theorem dX1_take_65 : decode cX1_take 65 = .ok (.bipush 16, 2) := by decide +kernel
theorem dX1_take_67 : decode cX1_take 67 = .ok (.imul, 1) := by decide +kernel
theorem dX1_take_68 : decode cX1_take 68 = .ok (.aload_n 0, 1) := by decide +kernel
theorem dX1_take_69 : decode cX1_take 69 = .ok (.getfield 30, 3) := by decide +kernel
theorem dX1_take_72 : decode cX1_take 72 = .ok (.iconst 0, 1) := by decide +kernel
theorem dX1_take_73 : decode cX1_take 73 = .ok (.aload_n 0, 1) := by decide +kernel
theorem dX1_take_74 : decode cX1_take 74 = .ok (.getfield 24, 3) := by decide +kernel
theorem dX1_take_77 : decode cX1_take 77 = .ok (.invokestatic 64, 3) := by decide +kernel
theorem dX1_take_80 : decode cX1_take 80 = .ok (.aload_n 1, 1) := by decide +kernel
theorem dX1_take_81 : decode cX1_take 81 = .ok (.getfield 70, 3) := by decide +kernel
theorem dX1_take_84 : decode cX1_take 84 = .ok (.iload_n 3, 1) := by decide +kernel
theorem dX1_take_85 : decode cX1_take 85 = .ok (.bipush 24, 2) := by decide +kernel
theorem dX1_take_87 : decode cX1_take 87 = .ok (.imul, 1) := by decide +kernel
theorem dX1_take_88 : decode cX1_take 88 = .ok (.aload_n 0, 1) := by decide +kernel
theorem dX1_take_89 : decode cX1_take 89 = .ok (.getfield 34, 3) := by decide +kernel
theorem dX1_take_92 : decode cX1_take 92 = .ok (.iconst 0, 1) := by decide +kernel
theorem dX1_take_93 : decode cX1_take 93 = .ok (.aload_n 0, 1) := by decide +kernel
theorem dX1_take_94 : decode cX1_take 94 = .ok (.getfield 27, 3) := by decide +kernel
theorem dX1_take_97 : decode cX1_take 97 = .ok (.invokestatic 64, 3) := by decide +kernel
theorem dX1_take_100 : decode cX1_take 100 = .ok (.aload_n 0, 1) := by decide +kernel
theorem dX1_take_101 : decode cX1_take 101 = .ok (.getfield 37, 3) := by decide +kernel
theorem dX1_take_104 : decode cX1_take 104 = .ok (.aload_n 0, 1) := by decide +kernel
theorem dX1_take_105 : decode cX1_take 105 = .ok (.getfield 27, 3) := by decide +kernel
theorem dX1_take_108 : decode cX1_take 108 = .ok (.iconst 0, 1) := by decide +kernel
theorem dX1_take_109 : decode cX1_take 109 = .ok (.iastore, 1) := by decide +kernel
theorem dX1_take_110 : decode cX1_take 110 = .ok (.aload_n 0, 1) := by decide +kernel
theorem dX1_take_111 : decode cX1_take 111 = .ok (.getfield 27, 3) := by decide +kernel
theorem dX1_take_114 : decode cX1_take 114 = .ok (.iconst 1, 1) := by decide +kernel
theorem dX1_take_115 : decode cX1_take 115 = .ok (.isub, 1) := by decide +kernel
theorem dX1_take_116 : decode cX1_take 116 = .ok (.istore 4, 2) := by decide +kernel
theorem dX1_take_118 : decode cX1_take 118 = .ok (.iload 4, 2) := by decide +kernel
theorem dX1_take_120 : decode cX1_take 120 = .ok (.ifCond .lt 41, 3) := by decide +kernel
theorem dX1_take_123 : decode cX1_take 123 = .ok (.aload_n 0, 1) := by decide +kernel
theorem dX1_take_124 : decode cX1_take 124 = .ok (.getfield 37, 3) := by decide +kernel
theorem dX1_take_127 : decode cX1_take 127 = .ok (.iload 4, 2) := by decide +kernel
theorem dX1_take_129 : decode cX1_take 129 = .ok (.aload_n 0, 1) := by decide +kernel
theorem dX1_take_130 : decode cX1_take 130 = .ok (.getfield 34, 3) := by decide +kernel
theorem dX1_take_133 : decode cX1_take 133 = .ok (.iload 4, 2) := by decide +kernel
theorem dX1_take_135 : decode cX1_take 135 = .ok (.iaload, 1) := by decide +kernel
theorem dX1_take_136 : decode cX1_take 136 = .ok (.ifCond .ne 7, 3) := by decide +kernel
theorem dX1_take_139 : decode cX1_take 139 = .ok (.iconst 0, 1) := by decide +kernel
theorem dX1_take_140 : decode cX1_take 140 = .ok (.goto 14, 3) := by decide +kernel
theorem dX1_take_143 : decode cX1_take 143 = .ok (.aload_n 0, 1) := by decide +kernel
theorem dX1_take_144 : decode cX1_take 144 = .ok (.getfield 37, 3) := by decide +kernel
theorem dX1_take_147 : decode cX1_take 147 = .ok (.iload 4, 2) := by decide +kernel
theorem dX1_take_149 : decode cX1_take 149 = .ok (.iconst 1, 1) := by decide +kernel
theorem dX1_take_150 : decode cX1_take 150 = .ok (.iadd, 1) := by decide +kernel
theorem dX1_take_151 : decode cX1_take 151 = .ok (.iaload, 1) := by decide +kernel
theorem dX1_take_152 : decode cX1_take 152 = .ok (.iconst 1, 1) := by decide +kernel
theorem dX1_take_153 : decode cX1_take 153 = .ok (.iadd, 1) := by decide +kernel
theorem dX1_take_154 : decode cX1_take 154 = .ok (.iastore, 1) := by decide +kernel
theorem dX1_take_155 : decode cX1_take 155 = .ok (.iinc 4 (-1), 3) := by decide +kernel
theorem dX1_take_158 : decode cX1_take 158 = .ok (.goto (-40), 3) := by decide +kernel
theorem dX1_take_161 : decode cX1_take 161 = .ok (.return_, 1) := by decide +kernel
theorem dX1_turnStress_0 : decode cX1_turnStress 0 = .ok (.aload_n 0, 1) := by decide +kernel
theorem dX1_turnStress_1 : decode cX1_turnStress 1 = .ok (.getfield 30, 3) := by decide +kernel
theorem dX1_turnStress_4 : decode cX1_turnStress 4 = .ok (.iload_n 1, 1) := by decide +kernel
theorem dX1_turnStress_5 : decode cX1_turnStress 5 = .ok (.iconst 1, 1) := by decide +kernel
theorem dX1_turnStress_6 : decode cX1_turnStress 6 = .ok (.aload_n 0, 1) := by decide +kernel
theorem dX1_turnStress_7 : decode cX1_turnStress 7 = .ok (.getfield 30, 3) := by decide +kernel
theorem dX1_turnStress_10 : decode cX1_turnStress 10 = .ok (.iload_n 1, 1) := by decide +kernel
theorem dX1_turnStress_11 : decode cX1_turnStress 11 = .ok (.iaload, 1) := by decide +kernel
theorem dX1_turnStress_12 : decode cX1_turnStress 12 = .ok (.isub, 1) := by decide +kernel
theorem dX1_turnStress_13 : decode cX1_turnStress 13 = .ok (.iastore, 1) := by decide +kernel
theorem dX1_turnStress_14 : decode cX1_turnStress 14 = .ok (.return_, 1) := by decide +kernel
theorem dX1_leastCost_0 : decode cX1_leastCost 0 = .ok (.aload_n 0, 1) := by decide +kernel
theorem dX1_leastCost_1 : decode cX1_leastCost 1 = .ok (.getfield 40, 3) := by decide +kernel
theorem dX1_leastCost_4 : decode cX1_leastCost 4 = .ok (.aload_n 0, 1) := by decide +kernel
theorem dX1_leastCost_5 : decode cX1_leastCost 5 = .ok (.getfield 24, 3) := by decide +kernel
theorem dX1_leastCost_8 : decode cX1_leastCost 8 = .ok (.bipush 25, 2) := by decide +kernel
theorem dX1_leastCost_10 : decode cX1_leastCost 10 = .ok (.imul, 1) := by decide +kernel
theorem dX1_leastCost_11 : decode cX1_leastCost 11 = .ok (.aload_n 0, 1) := by decide +kernel
theorem dX1_leastCost_12 : decode cX1_leastCost 12 = .ok (.getfield 27, 3) := by decide +kernel
theorem dX1_leastCost_15 : decode cX1_leastCost 15 = .ok (.iadd, 1) := by decide +kernel
theorem dX1_leastCost_16 : decode cX1_leastCost 16 = .ok (.iconst 0, 1) := by decide +kernel
theorem dX1_leastCost_17 : decode cX1_leastCost 17 = .ok (.iastore, 1) := by decide +kernel
theorem dX1_leastCost_18 : decode cX1_leastCost 18 = .ok (.aload_n 0, 1) := by decide +kernel
theorem dX1_leastCost_19 : decode cX1_leastCost 19 = .ok (.getfield 27, 3) := by decide +kernel
theorem dX1_leastCost_22 : decode cX1_leastCost 22 = .ok (.iconst 1, 1) := by decide +kernel
theorem dX1_leastCost_23 : decode cX1_leastCost 23 = .ok (.isub, 1) := by decide +kernel
theorem dX1_leastCost_24 : decode cX1_leastCost 24 = .ok (.istore_n 1, 1) := by decide +kernel
theorem dX1_leastCost_25 : decode cX1_leastCost 25 = .ok (.iload_n 1, 1) := by decide +kernel
theorem dX1_leastCost_26 : decode cX1_leastCost 26 = .ok (.ifCond .lt 32, 3) := by decide +kernel
theorem dX1_leastCost_29 : decode cX1_leastCost 29 = .ok (.aload_n 0, 1) := by decide +kernel
theorem dX1_leastCost_30 : decode cX1_leastCost 30 = .ok (.getfield 40, 3) := by decide +kernel
theorem dX1_leastCost_33 : decode cX1_leastCost 33 = .ok (.aload_n 0, 1) := by decide +kernel
theorem dX1_leastCost_34 : decode cX1_leastCost 34 = .ok (.getfield 24, 3) := by decide +kernel
theorem dX1_leastCost_37 : decode cX1_leastCost 37 = .ok (.bipush 25, 2) := by decide +kernel
theorem dX1_leastCost_39 : decode cX1_leastCost 39 = .ok (.imul, 1) := by decide +kernel
theorem dX1_leastCost_40 : decode cX1_leastCost 40 = .ok (.iload_n 1, 1) := by decide +kernel
theorem dX1_leastCost_41 : decode cX1_leastCost 41 = .ok (.iadd, 1) := by decide +kernel
theorem dX1_leastCost_42 : decode cX1_leastCost 42 = .ok (.aload_n 0, 1) := by decide +kernel
theorem dX1_leastCost_43 : decode cX1_leastCost 43 = .ok (.aload_n 0, 1) := by decide +kernel
theorem dX1_leastCost_44 : decode cX1_leastCost 44 = .ok (.getfield 24, 3) := by decide +kernel
theorem dX1_leastCost_47 : decode cX1_leastCost 47 = .ok (.iload_n 1, 1) := by decide +kernel
theorem dX1_leastCost_48 : decode cX1_leastCost 48 = .ok (.invokevirtual 71, 3) := by decide +kernel
theorem dX1_leastCost_51 : decode cX1_leastCost 51 = .ok (.iastore, 1) := by decide +kernel
theorem dX1_leastCost_52 : decode cX1_leastCost 52 = .ok (.iinc 1 (-1), 3) := by decide +kernel
theorem dX1_leastCost_55 : decode cX1_leastCost 55 = .ok (.goto (-30), 3) := by decide +kernel
theorem dX1_leastCost_58 : decode cX1_leastCost 58 = .ok (.aload_n 0, 1) := by decide +kernel
theorem dX1_leastCost_59 : decode cX1_leastCost 59 = .ok (.getfield 24, 3) := by decide +kernel
theorem dX1_leastCost_62 : decode cX1_leastCost 62 = .ok (.iconst 1, 1) := by decide +kernel
theorem dX1_leastCost_63 : decode cX1_leastCost 63 = .ok (.isub, 1) := by decide +kernel
theorem dX1_leastCost_64 : decode cX1_leastCost 64 = .ok (.istore_n 1, 1) := by decide +kernel
theorem dX1_leastCost_65 : decode cX1_leastCost 65 = .ok (.iload_n 1, 1) := by decide +kernel
theorem dX1_leastCost_66 : decode cX1_leastCost 66 = .ok (.ifCond .lt 98, 3) := by decide +kernel
theorem dX1_leastCost_69 : decode cX1_leastCost 69 = .ok (.aload_n 0, 1) := by decide +kernel
theorem dX1_leastCost_70 : decode cX1_leastCost 70 = .ok (.getfield 40, 3) := by decide +kernel
theorem dX1_leastCost_73 : decode cX1_leastCost 73 = .ok (.iload_n 1, 1) := by decide +kernel
theorem dX1_leastCost_74 : decode cX1_leastCost 74 = .ok (.bipush 25, 2) := by decide +kernel
theorem dX1_leastCost_76 : decode cX1_leastCost 76 = .ok (.imul, 1) := by decide +kernel
theorem dX1_leastCost_77 : decode cX1_leastCost 77 = .ok (.aload_n 0, 1) := by decide +kernel
theorem dX1_leastCost_78 : decode cX1_leastCost 78 = .ok (.getfield 27, 3) := by decide +kernel
theorem dX1_leastCost_81 : decode cX1_leastCost 81 = .ok (.iadd, 1) := by decide +kernel
theorem dX1_leastCost_82 : decode cX1_leastCost 82 = .ok (.ldc 75, 2) := by decide +kernel
theorem dX1_leastCost_84 : decode cX1_leastCost 84 = .ok (.iastore, 1) := by decide +kernel
theorem dX1_leastCost_85 : decode cX1_leastCost 85 = .ok (.aload_n 0, 1) := by decide +kernel
theorem dX1_leastCost_86 : decode cX1_leastCost 86 = .ok (.getfield 27, 3) := by decide +kernel
theorem dX1_leastCost_89 : decode cX1_leastCost 89 = .ok (.iconst 1, 1) := by decide +kernel
theorem dX1_leastCost_90 : decode cX1_leastCost 90 = .ok (.isub, 1) := by decide +kernel
theorem dX1_leastCost_91 : decode cX1_leastCost 91 = .ok (.istore_n 2, 1) := by decide +kernel
theorem dX1_leastCost_92 : decode cX1_leastCost 92 = .ok (.iload_n 2, 1) := by decide +kernel
theorem dX1_leastCost_93 : decode cX1_leastCost 93 = .ok (.ifCond .lt 65, 3) := by decide +kernel
theorem dX1_leastCost_96 : decode cX1_leastCost 96 = .ok (.aload_n 0, 1) := by decide +kernel
theorem dX1_leastCost_97 : decode cX1_leastCost 97 = .ok (.iload_n 1, 1) := by decide +kernel
theorem dX1_leastCost_98 : decode cX1_leastCost 98 = .ok (.iload_n 2, 1) := by decide +kernel
theorem dX1_leastCost_99 : decode cX1_leastCost 99 = .ok (.invokevirtual 71, 3) := by decide +kernel
theorem dX1_leastCost_102 : decode cX1_leastCost 102 = .ok (.istore_n 3, 1) := by decide +kernel
theorem dX1_leastCost_103 : decode cX1_leastCost 103 = .ok (.iconst 1, 1) := by decide +kernel
theorem dX1_leastCost_104 : decode cX1_leastCost 104 = .ok (.istore 4, 2) := by decide +kernel
theorem dX1_leastCost_106 : decode cX1_leastCost 106 = .ok (.iload 4, 2) := by decide +kernel
theorem dX1_leastCost_108 : decode cX1_leastCost 108 = .ok (.aload_n 0, 1) := by decide +kernel
theorem dX1_leastCost_109 : decode cX1_leastCost 109 = .ok (.iload_n 2, 1) := by decide +kernel
theorem dX1_leastCost_110 : decode cX1_leastCost 110 = .ok (.invokevirtual 76, 3) := by decide +kernel
theorem dX1_leastCost_113 : decode cX1_leastCost 113 = .ok (.if_icmp .gt 22, 3) := by decide +kernel
theorem dX1_leastCost_116 : decode cX1_leastCost 116 = .ok (.iload_n 3, 1) := by decide +kernel
theorem dX1_leastCost_117 : decode cX1_leastCost 117 = .ok (.aload_n 0, 1) := by decide +kernel
theorem dX1_leastCost_118 : decode cX1_leastCost 118 = .ok (.iload_n 1, 1) := by decide +kernel
theorem dX1_leastCost_119 : decode cX1_leastCost 119 = .ok (.iload_n 2, 1) := by decide +kernel
theorem dX1_leastCost_120 : decode cX1_leastCost 120 = .ok (.iload 4, 2) := by decide +kernel
theorem dX1_leastCost_122 : decode cX1_leastCost 122 = .ok (.invokevirtual 80, 3) := by decide +kernel
theorem dX1_leastCost_125 : decode cX1_leastCost 125 = .ok (.invokestatic 84, 3) := by decide +kernel
theorem dX1_leastCost_128 : decode cX1_leastCost 128 = .ok (.istore_n 3, 1) := by decide +kernel
theorem dX1_leastCost_129 : decode cX1_leastCost 129 = .ok (.iinc 4 1, 3) := by decide +kernel
theorem dX1_leastCost_132 : decode cX1_leastCost 132 = .ok (.goto (-26), 3) := by decide +kernel
theorem dX1_leastCost_135 : decode cX1_leastCost 135 = .ok (.aload_n 0, 1) := by decide +kernel
theorem dX1_leastCost_136 : decode cX1_leastCost 136 = .ok (.getfield 40, 3) := by decide +kernel
theorem dX1_leastCost_139 : decode cX1_leastCost 139 = .ok (.iload_n 1, 1) := by decide +kernel
theorem dX1_leastCost_140 : decode cX1_leastCost 140 = .ok (.bipush 25, 2) := by decide +kernel
theorem dX1_leastCost_142 : decode cX1_leastCost 142 = .ok (.imul, 1) := by decide +kernel
theorem dX1_leastCost_143 : decode cX1_leastCost 143 = .ok (.iload_n 2, 1) := by decide +kernel
theorem dX1_leastCost_144 : decode cX1_leastCost 144 = .ok (.iadd, 1) := by decide +kernel
theorem dX1_leastCost_145 : decode cX1_leastCost 145 = .ok (.iload_n 3, 1) := by decide +kernel
theorem dX1_leastCost_146 : decode cX1_leastCost 146 = .ok (.ldc 75, 2) := by decide +kernel
theorem dX1_leastCost_148 : decode cX1_leastCost 148 = .ok (.invokestatic 84, 3) := by decide +kernel
theorem dX1_leastCost_151 : decode cX1_leastCost 151 = .ok (.iastore, 1) := by decide +kernel
theorem dX1_leastCost_152 : decode cX1_leastCost 152 = .ok (.iinc 2 (-1), 3) := by decide +kernel
theorem dX1_leastCost_155 : decode cX1_leastCost 155 = .ok (.goto (-63), 3) := by decide +kernel
theorem dX1_leastCost_158 : decode cX1_leastCost 158 = .ok (.iinc 1 (-1), 3) := by decide +kernel
theorem dX1_leastCost_161 : decode cX1_leastCost 161 = .ok (.goto (-96), 3) := by decide +kernel
theorem dX1_leastCost_164 : decode cX1_leastCost 164 = .ok (.aload_n 0, 1) := by decide +kernel
theorem dX1_leastCost_165 : decode cX1_leastCost 165 = .ok (.getfield 40, 3) := by decide +kernel
theorem dX1_leastCost_168 : decode cX1_leastCost 168 = .ok (.iconst 0, 1) := by decide +kernel
theorem dX1_leastCost_169 : decode cX1_leastCost 169 = .ok (.iaload, 1) := by decide +kernel
theorem dX1_leastCost_170 : decode cX1_leastCost 170 = .ok (.ireturn, 1) := by decide +kernel
theorem dX1_mostHeld_0 : decode cX1_mostHeld 0 = .ok (.aload_n 0, 1) := by decide +kernel
theorem dX1_mostHeld_1 : decode cX1_mostHeld 1 = .ok (.getfield 9, 3) := by decide +kernel
theorem dX1_mostHeld_4 : decode cX1_mostHeld 4 = .ok (.aload_n 0, 1) := by decide +kernel
theorem dX1_mostHeld_5 : decode cX1_mostHeld 5 = .ok (.getfield 37, 3) := by decide +kernel
theorem dX1_mostHeld_8 : decode cX1_mostHeld 8 = .ok (.iload_n 1, 1) := by decide +kernel
theorem dX1_mostHeld_9 : decode cX1_mostHeld 9 = .ok (.iaload, 1) := by decide +kernel
theorem dX1_mostHeld_10 : decode cX1_mostHeld 10 = .ok (.invokestatic 84, 3) := by decide +kernel
theorem dX1_mostHeld_13 : decode cX1_mostHeld 13 = .ok (.ireturn, 1) := by decide +kernel
theorem dX1_hurts_0 : decode cX1_hurts 0 = .ok (.aload_n 0, 1) := by decide +kernel
theorem dX1_hurts_1 : decode cX1_hurts 1 = .ok (.getfield 30, 3) := by decide +kernel
theorem dX1_hurts_4 : decode cX1_hurts 4 = .ok (.iload_n 1, 1) := by decide +kernel
theorem dX1_hurts_5 : decode cX1_hurts 5 = .ok (.iaload, 1) := by decide +kernel
theorem dX1_hurts_6 : decode cX1_hurts 6 = .ok (.iconst 1, 1) := by decide +kernel
theorem dX1_hurts_7 : decode cX1_hurts 7 = .ok (.if_icmp .ne 7, 3) := by decide +kernel
theorem dX1_hurts_10 : decode cX1_hurts 10 = .ok (.iconst 1, 1) := by decide +kernel
theorem dX1_hurts_11 : decode cX1_hurts 11 = .ok (.goto 4, 3) := by decide +kernel
theorem dX1_hurts_14 : decode cX1_hurts 14 = .ok (.iconst 0, 1) := by decide +kernel
theorem dX1_hurts_15 : decode cX1_hurts 15 = .ok (.aload_n 0, 1) := by decide +kernel
theorem dX1_hurts_16 : decode cX1_hurts 16 = .ok (.getfield 34, 3) := by decide +kernel
theorem dX1_hurts_19 : decode cX1_hurts 19 = .ok (.iload_n 2, 1) := by decide +kernel
theorem dX1_hurts_20 : decode cX1_hurts 20 = .ok (.iaload, 1) := by decide +kernel
theorem dX1_hurts_21 : decode cX1_hurts 21 = .ok (.iconst 2, 1) := by decide +kernel
theorem dX1_hurts_22 : decode cX1_hurts 22 = .ok (.if_icmp .ne 7, 3) := by decide +kernel
theorem dX1_hurts_25 : decode cX1_hurts 25 = .ok (.iconst 1, 1) := by decide +kernel
theorem dX1_hurts_26 : decode cX1_hurts 26 = .ok (.goto 4, 3) := by decide +kernel
theorem dX1_hurts_29 : decode cX1_hurts 29 = .ok (.iconst 0, 1) := by decide +kernel
theorem dX1_hurts_30 : decode cX1_hurts 30 = .ok (.if_icmp .eq 7, 3) := by decide +kernel
theorem dX1_hurts_33 : decode cX1_hurts 33 = .ok (.iconst 1, 1) := by decide +kernel
theorem dX1_hurts_34 : decode cX1_hurts 34 = .ok (.goto 4, 3) := by decide +kernel
theorem dX1_hurts_37 : decode cX1_hurts 37 = .ok (.iconst 0, 1) := by decide +kernel
theorem dX1_hurts_38 : decode cX1_hurts 38 = .ok (.ireturn, 1) := by decide +kernel
theorem dX1_costOfFree_0 : decode cX1_costOfFree 0 = .ok (.aload_n 0, 1) := by decide +kernel
theorem dX1_costOfFree_1 : decode cX1_costOfFree 1 = .ok (.getfield 40, 3) := by decide +kernel
theorem dX1_costOfFree_4 : decode cX1_costOfFree 4 = .ok (.iload_n 1, 1) := by decide +kernel
theorem dX1_costOfFree_5 : decode cX1_costOfFree 5 = .ok (.bipush 25, 2) := by decide +kernel
theorem dX1_costOfFree_7 : decode cX1_costOfFree 7 = .ok (.imul, 1) := by decide +kernel
theorem dX1_costOfFree_8 : decode cX1_costOfFree 8 = .ok (.iload_n 2, 1) := by decide +kernel
theorem dX1_costOfFree_9 : decode cX1_costOfFree 9 = .ok (.iadd, 1) := by decide +kernel
theorem dX1_costOfFree_10 : decode cX1_costOfFree 10 = .ok (.iconst 1, 1) := by decide +kernel
theorem dX1_costOfFree_11 : decode cX1_costOfFree 11 = .ok (.iadd, 1) := by decide +kernel
theorem dX1_costOfFree_12 : decode cX1_costOfFree 12 = .ok (.iaload, 1) := by decide +kernel
theorem dX1_costOfFree_13 : decode cX1_costOfFree 13 = .ok (.aload_n 0, 1) := by decide +kernel
theorem dX1_costOfFree_14 : decode cX1_costOfFree 14 = .ok (.getfield 34, 3) := by decide +kernel
theorem dX1_costOfFree_17 : decode cX1_costOfFree 17 = .ok (.iload_n 2, 1) := by decide +kernel
theorem dX1_costOfFree_18 : decode cX1_costOfFree 18 = .ok (.iaload, 1) := by decide +kernel
theorem dX1_costOfFree_19 : decode cX1_costOfFree 19 = .ok (.ifCond .ne 7, 3) := by decide +kernel
theorem dX1_costOfFree_22 : decode cX1_costOfFree 22 = .ok (.iconst 0, 1) := by decide +kernel
theorem dX1_costOfFree_23 : decode cX1_costOfFree 23 = .ok (.goto 7, 3) := by decide +kernel
theorem dX1_costOfFree_26 : decode cX1_costOfFree 26 = .ok (.aload_n 0, 1) := by decide +kernel
theorem dX1_costOfFree_27 : decode cX1_costOfFree 27 = .ok (.getfield 18, 3) := by decide +kernel
theorem dX1_costOfFree_30 : decode cX1_costOfFree 30 = .ok (.iadd, 1) := by decide +kernel
theorem dX1_costOfFree_31 : decode cX1_costOfFree 31 = .ok (.ireturn, 1) := by decide +kernel
theorem dX1_costOfHeld_0 : decode cX1_costOfHeld 0 = .ok (.aload_n 0, 1) := by decide +kernel
theorem dX1_costOfHeld_1 : decode cX1_costOfHeld 1 = .ok (.getfield 40, 3) := by decide +kernel
theorem dX1_costOfHeld_4 : decode cX1_costOfHeld 4 = .ok (.iload_n 1, 1) := by decide +kernel
theorem dX1_costOfHeld_5 : decode cX1_costOfHeld 5 = .ok (.iconst 1, 1) := by decide +kernel
theorem dX1_costOfHeld_6 : decode cX1_costOfHeld 6 = .ok (.iadd, 1) := by decide +kernel
theorem dX1_costOfHeld_7 : decode cX1_costOfHeld 7 = .ok (.bipush 25, 2) := by decide +kernel
theorem dX1_costOfHeld_9 : decode cX1_costOfHeld 9 = .ok (.imul, 1) := by decide +kernel
theorem dX1_costOfHeld_10 : decode cX1_costOfHeld 10 = .ok (.iload_n 2, 1) := by decide +kernel
theorem dX1_costOfHeld_11 : decode cX1_costOfHeld 11 = .ok (.iadd, 1) := by decide +kernel
theorem dX1_costOfHeld_12 : decode cX1_costOfHeld 12 = .ok (.iload_n 3, 1) := by decide +kernel
theorem dX1_costOfHeld_13 : decode cX1_costOfHeld 13 = .ok (.iadd, 1) := by decide +kernel
theorem dX1_costOfHeld_14 : decode cX1_costOfHeld 14 = .ok (.iaload, 1) := by decide +kernel
theorem dX1_costOfHeld_15 : decode cX1_costOfHeld 15 = .ok (.aload_n 0, 1) := by decide +kernel
theorem dX1_costOfHeld_16 : decode cX1_costOfHeld 16 = .ok (.getfield 15, 3) := by decide +kernel
theorem dX1_costOfHeld_19 : decode cX1_costOfHeld 19 = .ok (.iload_n 3, 1) := by decide +kernel
theorem dX1_costOfHeld_20 : decode cX1_costOfHeld 20 = .ok (.iconst 1, 1) := by decide +kernel
theorem dX1_costOfHeld_21 : decode cX1_costOfHeld 21 = .ok (.isub, 1) := by decide +kernel
theorem dX1_costOfHeld_22 : decode cX1_costOfHeld 22 = .ok (.imul, 1) := by decide +kernel
theorem dX1_costOfHeld_23 : decode cX1_costOfHeld 23 = .ok (.iadd, 1) := by decide +kernel
theorem dX1_costOfHeld_24 : decode cX1_costOfHeld 24 = .ok (.aload_n 0, 1) := by decide +kernel
theorem dX1_costOfHeld_25 : decode cX1_costOfHeld 25 = .ok (.iload_n 1, 1) := by decide +kernel
theorem dX1_costOfHeld_26 : decode cX1_costOfHeld 26 = .ok (.iload_n 2, 1) := by decide +kernel
theorem dX1_costOfHeld_27 : decode cX1_costOfHeld 27 = .ok (.invokevirtual 89, 3) := by decide +kernel
theorem dX1_costOfHeld_30 : decode cX1_costOfHeld 30 = .ok (.ifCond .eq 10, 3) := by decide +kernel
theorem dX1_costOfHeld_33 : decode cX1_costOfHeld 33 = .ok (.aload_n 0, 1) := by decide +kernel
theorem dX1_costOfHeld_34 : decode cX1_costOfHeld 34 = .ok (.getfield 21, 3) := by decide +kernel
theorem dX1_costOfHeld_37 : decode cX1_costOfHeld 37 = .ok (.goto 4, 3) := by decide +kernel
theorem dX1_costOfHeld_40 : decode cX1_costOfHeld 40 = .ok (.iconst 0, 1) := by decide +kernel
theorem dX1_costOfHeld_41 : decode cX1_costOfHeld 41 = .ok (.iadd, 1) := by decide +kernel
theorem dX1_costOfHeld_42 : decode cX1_costOfHeld 42 = .ok (.ireturn, 1) := by decide +kernel
theorem dX1_countWays_0 : decode cX1_countWays 0 = .ok (.iconst 0, 1) := by decide +kernel
theorem dX1_countWays_1 : decode cX1_countWays 1 = .ok (.istore_n 2, 1) := by decide +kernel
theorem dX1_countWays_2 : decode cX1_countWays 2 = .ok (.iload_n 2, 1) := by decide +kernel
theorem dX1_countWays_3 : decode cX1_countWays 3 = .ok (.aload_n 0, 1) := by decide +kernel
theorem dX1_countWays_4 : decode cX1_countWays 4 = .ok (.getfield 27, 3) := by decide +kernel
theorem dX1_countWays_7 : decode cX1_countWays 7 = .ok (.if_icmp .gt 24, 3) := by decide +kernel
theorem dX1_countWays_10 : decode cX1_countWays 10 = .ok (.aload_n 0, 1) := by decide +kernel
theorem dX1_countWays_11 : decode cX1_countWays 11 = .ok (.getfield 43, 3) := by decide +kernel
theorem dX1_countWays_14 : decode cX1_countWays 14 = .ok (.aload_n 0, 1) := by decide +kernel
theorem dX1_countWays_15 : decode cX1_countWays 15 = .ok (.getfield 24, 3) := by decide +kernel
theorem dX1_countWays_18 : decode cX1_countWays 18 = .ok (.bipush 25, 2) := by decide +kernel
theorem dX1_countWays_20 : decode cX1_countWays 20 = .ok (.imul, 1) := by decide +kernel
theorem dX1_countWays_21 : decode cX1_countWays 21 = .ok (.iload_n 2, 1) := by decide +kernel
theorem dX1_countWays_22 : decode cX1_countWays 22 = .ok (.iadd, 1) := by decide +kernel
theorem dX1_countWays_23 : decode cX1_countWays 23 = .ok (.iconst 1, 1) := by decide +kernel
theorem dX1_countWays_24 : decode cX1_countWays 24 = .ok (.iastore, 1) := by decide +kernel
theorem dX1_countWays_25 : decode cX1_countWays 25 = .ok (.iinc 2 1, 3) := by decide +kernel
theorem dX1_countWays_28 : decode cX1_countWays 28 = .ok (.goto (-26), 3) := by decide +kernel
theorem dX1_countWays_31 : decode cX1_countWays 31 = .ok (.aload_n 0, 1) := by decide +kernel
theorem dX1_countWays_32 : decode cX1_countWays 32 = .ok (.getfield 24, 3) := by decide +kernel
theorem dX1_countWays_35 : decode cX1_countWays 35 = .ok (.iconst 1, 1) := by decide +kernel
theorem dX1_countWays_36 : decode cX1_countWays 36 = .ok (.isub, 1) := by decide +kernel
theorem dX1_countWays_37 : decode cX1_countWays 37 = .ok (.istore_n 2, 1) := by decide +kernel
theorem dX1_countWays_38 : decode cX1_countWays 38 = .ok (.iload_n 2, 1) := by decide +kernel
theorem dX1_countWays_39 : decode cX1_countWays 39 = .ok (.ifCond .lt 59, 3) := by decide +kernel
theorem dX1_countWays_42 : decode cX1_countWays 42 = .ok (.aload_n 0, 1) := by decide +kernel
theorem dX1_countWays_43 : decode cX1_countWays 43 = .ok (.getfield 43, 3) := by decide +kernel
theorem dX1_countWays_46 : decode cX1_countWays 46 = .ok (.iload_n 2, 1) := by decide +kernel
theorem dX1_countWays_47 : decode cX1_countWays 47 = .ok (.bipush 25, 2) := by decide +kernel
theorem dX1_countWays_49 : decode cX1_countWays 49 = .ok (.imul, 1) := by decide +kernel
theorem dX1_countWays_50 : decode cX1_countWays 50 = .ok (.aload_n 0, 1) := by decide +kernel
theorem dX1_countWays_51 : decode cX1_countWays 51 = .ok (.getfield 27, 3) := by decide +kernel
theorem dX1_countWays_54 : decode cX1_countWays 54 = .ok (.iadd, 1) := by decide +kernel
theorem dX1_countWays_55 : decode cX1_countWays 55 = .ok (.iconst 0, 1) := by decide +kernel
theorem dX1_countWays_56 : decode cX1_countWays 56 = .ok (.iastore, 1) := by decide +kernel
theorem dX1_countWays_57 : decode cX1_countWays 57 = .ok (.aload_n 0, 1) := by decide +kernel
theorem dX1_countWays_58 : decode cX1_countWays 58 = .ok (.getfield 27, 3) := by decide +kernel
theorem dX1_countWays_61 : decode cX1_countWays 61 = .ok (.iconst 1, 1) := by decide +kernel
theorem dX1_countWays_62 : decode cX1_countWays 62 = .ok (.isub, 1) := by decide +kernel
theorem dX1_countWays_63 : decode cX1_countWays 63 = .ok (.istore_n 3, 1) := by decide +kernel
theorem dX1_countWays_64 : decode cX1_countWays 64 = .ok (.iload_n 3, 1) := by decide +kernel
theorem dX1_countWays_65 : decode cX1_countWays 65 = .ok (.ifCond .lt 27, 3) := by decide +kernel
theorem dX1_countWays_68 : decode cX1_countWays 68 = .ok (.aload_n 0, 1) := by decide +kernel
theorem dX1_countWays_69 : decode cX1_countWays 69 = .ok (.getfield 43, 3) := by decide +kernel
theorem dX1_countWays_72 : decode cX1_countWays 72 = .ok (.iload_n 2, 1) := by decide +kernel
theorem dX1_countWays_73 : decode cX1_countWays 73 = .ok (.bipush 25, 2) := by decide +kernel
theorem dX1_countWays_75 : decode cX1_countWays 75 = .ok (.imul, 1) := by decide +kernel
theorem dX1_countWays_76 : decode cX1_countWays 76 = .ok (.iload_n 3, 1) := by decide +kernel
theorem dX1_countWays_77 : decode cX1_countWays 77 = .ok (.iadd, 1) := by decide +kernel
theorem dX1_countWays_78 : decode cX1_countWays 78 = .ok (.aload_n 0, 1) := by decide +kernel
theorem dX1_countWays_79 : decode cX1_countWays 79 = .ok (.iload_n 2, 1) := by decide +kernel
theorem dX1_countWays_80 : decode cX1_countWays 80 = .ok (.iload_n 3, 1) := by decide +kernel
theorem dX1_countWays_81 : decode cX1_countWays 81 = .ok (.iload_n 1, 1) := by decide +kernel
theorem dX1_countWays_82 : decode cX1_countWays 82 = .ok (.invokevirtual 93, 3) := by decide +kernel
theorem dX1_countWays_85 : decode cX1_countWays 85 = .ok (.iastore, 1) := by decide +kernel
theorem dX1_countWays_86 : decode cX1_countWays 86 = .ok (.iinc 3 (-1), 3) := by decide +kernel
theorem dX1_countWays_89 : decode cX1_countWays 89 = .ok (.goto (-25), 3) := by decide +kernel
theorem dX1_countWays_92 : decode cX1_countWays 92 = .ok (.iinc 2 (-1), 3) := by decide +kernel
theorem dX1_countWays_95 : decode cX1_countWays 95 = .ok (.goto (-57), 3) := by decide +kernel
theorem dX1_countWays_98 : decode cX1_countWays 98 = .ok (.aload_n 0, 1) := by decide +kernel
theorem dX1_countWays_99 : decode cX1_countWays 99 = .ok (.getfield 43, 3) := by decide +kernel
theorem dX1_countWays_102 : decode cX1_countWays 102 = .ok (.iconst 0, 1) := by decide +kernel
theorem dX1_countWays_103 : decode cX1_countWays 103 = .ok (.iaload, 1) := by decide +kernel
theorem dX1_countWays_104 : decode cX1_countWays 104 = .ok (.ireturn, 1) := by decide +kernel
theorem dX1_waysFrom_0 : decode cX1_waysFrom 0 = .ok (.aload_n 0, 1) := by decide +kernel
theorem dX1_waysFrom_1 : decode cX1_waysFrom 1 = .ok (.getfield 40, 3) := by decide +kernel
theorem dX1_waysFrom_4 : decode cX1_waysFrom 4 = .ok (.iload_n 1, 1) := by decide +kernel
theorem dX1_waysFrom_5 : decode cX1_waysFrom 5 = .ok (.bipush 25, 2) := by decide +kernel
theorem dX1_waysFrom_7 : decode cX1_waysFrom 7 = .ok (.imul, 1) := by decide +kernel
theorem dX1_waysFrom_8 : decode cX1_waysFrom 8 = .ok (.iload_n 2, 1) := by decide +kernel
theorem dX1_waysFrom_9 : decode cX1_waysFrom 9 = .ok (.iadd, 1) := by decide +kernel
theorem dX1_waysFrom_10 : decode cX1_waysFrom 10 = .ok (.iaload, 1) := by decide +kernel
theorem dX1_waysFrom_11 : decode cX1_waysFrom 11 = .ok (.istore 4, 2) := by decide +kernel
theorem dX1_waysFrom_13 : decode cX1_waysFrom 13 = .ok (.iconst 0, 1) := by decide +kernel
theorem dX1_waysFrom_14 : decode cX1_waysFrom 14 = .ok (.istore 5, 2) := by decide +kernel
theorem dX1_waysFrom_16 : decode cX1_waysFrom 16 = .ok (.iload_n 3, 1) := by decide +kernel
theorem dX1_waysFrom_17 : decode cX1_waysFrom 17 = .ok (.ifCond .eq 14, 3) := by decide +kernel
theorem dX1_waysFrom_20 : decode cX1_waysFrom 20 = .ok (.aload_n 0, 1) := by decide +kernel
theorem dX1_waysFrom_21 : decode cX1_waysFrom 21 = .ok (.iload_n 1, 1) := by decide +kernel
theorem dX1_waysFrom_22 : decode cX1_waysFrom 22 = .ok (.iload_n 2, 1) := by decide +kernel
theorem dX1_waysFrom_23 : decode cX1_waysFrom 23 = .ok (.invokevirtual 71, 3) := by decide +kernel
theorem dX1_waysFrom_26 : decode cX1_waysFrom 26 = .ok (.iload 4, 2) := by decide +kernel
theorem dX1_waysFrom_28 : decode cX1_waysFrom 28 = .ok (.if_icmp .ne 21, 3) := by decide +kernel
theorem dX1_waysFrom_31 : decode cX1_waysFrom 31 = .ok (.iload 5, 2) := by decide +kernel
theorem dX1_waysFrom_33 : decode cX1_waysFrom 33 = .ok (.aload_n 0, 1) := by decide +kernel
theorem dX1_waysFrom_34 : decode cX1_waysFrom 34 = .ok (.getfield 43, 3) := by decide +kernel
theorem dX1_waysFrom_37 : decode cX1_waysFrom 37 = .ok (.iload_n 1, 1) := by decide +kernel
theorem dX1_waysFrom_38 : decode cX1_waysFrom 38 = .ok (.bipush 25, 2) := by decide +kernel
theorem dX1_waysFrom_40 : decode cX1_waysFrom 40 = .ok (.imul, 1) := by decide +kernel
theorem dX1_waysFrom_41 : decode cX1_waysFrom 41 = .ok (.iload_n 2, 1) := by decide +kernel
theorem dX1_waysFrom_42 : decode cX1_waysFrom 42 = .ok (.iadd, 1) := by decide +kernel
theorem dX1_waysFrom_43 : decode cX1_waysFrom 43 = .ok (.iconst 1, 1) := by decide +kernel
theorem dX1_waysFrom_44 : decode cX1_waysFrom 44 = .ok (.iadd, 1) := by decide +kernel
theorem dX1_waysFrom_45 : decode cX1_waysFrom 45 = .ok (.iaload, 1) := by decide +kernel
theorem dX1_waysFrom_46 : decode cX1_waysFrom 46 = .ok (.iadd, 1) := by decide +kernel
theorem dX1_waysFrom_47 : decode cX1_waysFrom 47 = .ok (.istore 5, 2) := by decide +kernel
theorem dX1_waysFrom_49 : decode cX1_waysFrom 49 = .ok (.iconst 1, 1) := by decide +kernel
theorem dX1_waysFrom_50 : decode cX1_waysFrom 50 = .ok (.istore 6, 2) := by decide +kernel
theorem dX1_waysFrom_52 : decode cX1_waysFrom 52 = .ok (.iload 6, 2) := by decide +kernel
theorem dX1_waysFrom_54 : decode cX1_waysFrom 54 = .ok (.aload_n 0, 1) := by decide +kernel
theorem dX1_waysFrom_55 : decode cX1_waysFrom 55 = .ok (.iload_n 2, 1) := by decide +kernel
theorem dX1_waysFrom_56 : decode cX1_waysFrom 56 = .ok (.invokevirtual 76, 3) := by decide +kernel
theorem dX1_waysFrom_59 : decode cX1_waysFrom 59 = .ok (.if_icmp .gt 47, 3) := by decide +kernel
theorem dX1_waysFrom_62 : decode cX1_waysFrom 62 = .ok (.iload_n 3, 1) := by decide +kernel
theorem dX1_waysFrom_63 : decode cX1_waysFrom 63 = .ok (.ifCond .eq 16, 3) := by decide +kernel
theorem dX1_waysFrom_66 : decode cX1_waysFrom 66 = .ok (.aload_n 0, 1) := by decide +kernel
theorem dX1_waysFrom_67 : decode cX1_waysFrom 67 = .ok (.iload_n 1, 1) := by decide +kernel
theorem dX1_waysFrom_68 : decode cX1_waysFrom 68 = .ok (.iload_n 2, 1) := by decide +kernel
theorem dX1_waysFrom_69 : decode cX1_waysFrom 69 = .ok (.iload 6, 2) := by decide +kernel
theorem dX1_waysFrom_71 : decode cX1_waysFrom 71 = .ok (.invokevirtual 80, 3) := by decide +kernel
theorem dX1_waysFrom_74 : decode cX1_waysFrom 74 = .ok (.iload 4, 2) := by decide +kernel
theorem dX1_waysFrom_76 : decode cX1_waysFrom 76 = .ok (.if_icmp .ne 24, 3) := by decide +kernel
theorem dX1_waysFrom_79 : decode cX1_waysFrom 79 = .ok (.iload 5, 2) := by decide +kernel
theorem dX1_waysFrom_81 : decode cX1_waysFrom 81 = .ok (.aload_n 0, 1) := by decide +kernel
theorem dX1_waysFrom_82 : decode cX1_waysFrom 82 = .ok (.getfield 43, 3) := by decide +kernel
theorem dX1_waysFrom_85 : decode cX1_waysFrom 85 = .ok (.iload_n 1, 1) := by decide +kernel
theorem dX1_waysFrom_86 : decode cX1_waysFrom 86 = .ok (.iconst 1, 1) := by decide +kernel
theorem dX1_waysFrom_87 : decode cX1_waysFrom 87 = .ok (.iadd, 1) := by decide +kernel
theorem dX1_waysFrom_88 : decode cX1_waysFrom 88 = .ok (.bipush 25, 2) := by decide +kernel
theorem dX1_waysFrom_90 : decode cX1_waysFrom 90 = .ok (.imul, 1) := by decide +kernel
theorem dX1_waysFrom_91 : decode cX1_waysFrom 91 = .ok (.iload_n 2, 1) := by decide +kernel
theorem dX1_waysFrom_92 : decode cX1_waysFrom 92 = .ok (.iadd, 1) := by decide +kernel
theorem dX1_waysFrom_93 : decode cX1_waysFrom 93 = .ok (.iload 6, 2) := by decide +kernel
theorem dX1_waysFrom_95 : decode cX1_waysFrom 95 = .ok (.iadd, 1) := by decide +kernel
theorem dX1_waysFrom_96 : decode cX1_waysFrom 96 = .ok (.iaload, 1) := by decide +kernel
theorem dX1_waysFrom_97 : decode cX1_waysFrom 97 = .ok (.iadd, 1) := by decide +kernel
theorem dX1_waysFrom_98 : decode cX1_waysFrom 98 = .ok (.istore 5, 2) := by decide +kernel
theorem dX1_waysFrom_100 : decode cX1_waysFrom 100 = .ok (.iinc 6 1, 3) := by decide +kernel
theorem dX1_waysFrom_103 : decode cX1_waysFrom 103 = .ok (.goto (-51), 3) := by decide +kernel
theorem dX1_waysFrom_106 : decode cX1_waysFrom 106 = .ok (.iload 5, 2) := by decide +kernel
theorem dX1_waysFrom_108 : decode cX1_waysFrom 108 = .ok (.ldc 75, 2) := by decide +kernel
theorem dX1_waysFrom_110 : decode cX1_waysFrom 110 = .ok (.invokestatic 84, 3) := by decide +kernel
theorem dX1_waysFrom_113 : decode cX1_waysFrom 113 = .ok (.ireturn, 1) := by decide +kernel
theorem dX1_findBestWay_0 : decode cX1_findBestWay 0 = .ok (.iconst 0, 1) := by decide +kernel
theorem dX1_findBestWay_1 : decode cX1_findBestWay 1 = .ok (.istore_n 1, 1) := by decide +kernel
theorem dX1_findBestWay_2 : decode cX1_findBestWay 2 = .ok (.iconst 0, 1) := by decide +kernel
theorem dX1_findBestWay_3 : decode cX1_findBestWay 3 = .ok (.istore_n 2, 1) := by decide +kernel
theorem dX1_findBestWay_4 : decode cX1_findBestWay 4 = .ok (.iload_n 2, 1) := by decide +kernel
theorem dX1_findBestWay_5 : decode cX1_findBestWay 5 = .ok (.aload_n 0, 1) := by decide +kernel
theorem dX1_findBestWay_6 : decode cX1_findBestWay 6 = .ok (.getfield 24, 3) := by decide +kernel
theorem dX1_findBestWay_9 : decode cX1_findBestWay 9 = .ok (.if_icmp .ge 72, 3) := by decide +kernel
theorem dX1_findBestWay_12 : decode cX1_findBestWay 12 = .ok (.iload_n 1, 1) := by decide +kernel
theorem dX1_findBestWay_13 : decode cX1_findBestWay 13 = .ok (.aload_n 0, 1) := by decide +kernel
theorem dX1_findBestWay_14 : decode cX1_findBestWay 14 = .ok (.getfield 27, 3) := by decide +kernel
theorem dX1_findBestWay_17 : decode cX1_findBestWay 17 = .ok (.if_icmp .ge 18, 3) := by decide +kernel
theorem dX1_findBestWay_20 : decode cX1_findBestWay 20 = .ok (.aload_n 0, 1) := by decide +kernel
theorem dX1_findBestWay_21 : decode cX1_findBestWay 21 = .ok (.iload_n 2, 1) := by decide +kernel
theorem dX1_findBestWay_22 : decode cX1_findBestWay 22 = .ok (.iload_n 1, 1) := by decide +kernel
theorem dX1_findBestWay_23 : decode cX1_findBestWay 23 = .ok (.invokevirtual 97, 3) := by decide +kernel
theorem dX1_findBestWay_26 : decode cX1_findBestWay 26 = .ok (.ifCond .ne 9, 3) := by decide +kernel
theorem dX1_findBestWay_29 : decode cX1_findBestWay 29 = .ok (.iinc 1 1, 3) := by decide +kernel
theorem dX1_findBestWay_32 : decode cX1_findBestWay 32 = .ok (.goto (-20), 3) := by decide +kernel
theorem dX1_findBestWay_35 : decode cX1_findBestWay 35 = .ok (.aload_n 0, 1) := by decide +kernel
theorem dX1_findBestWay_36 : decode cX1_findBestWay 36 = .ok (.getfield 46, 3) := by decide +kernel
theorem dX1_findBestWay_39 : decode cX1_findBestWay 39 = .ok (.iload_n 2, 1) := by decide +kernel
theorem dX1_findBestWay_40 : decode cX1_findBestWay 40 = .ok (.iload_n 1, 1) := by decide +kernel
theorem dX1_findBestWay_41 : decode cX1_findBestWay 41 = .ok (.iastore, 1) := by decide +kernel
theorem dX1_findBestWay_42 : decode cX1_findBestWay 42 = .ok (.aload_n 0, 1) := by decide +kernel
theorem dX1_findBestWay_43 : decode cX1_findBestWay 43 = .ok (.getfield 49, 3) := by decide +kernel
theorem dX1_findBestWay_46 : decode cX1_findBestWay 46 = .ok (.iload_n 2, 1) := by decide +kernel
theorem dX1_findBestWay_47 : decode cX1_findBestWay 47 = .ok (.iload_n 1, 1) := by decide +kernel
theorem dX1_findBestWay_48 : decode cX1_findBestWay 48 = .ok (.aload_n 0, 1) := by decide +kernel
theorem dX1_findBestWay_49 : decode cX1_findBestWay 49 = .ok (.getfield 27, 3) := by decide +kernel
theorem dX1_findBestWay_52 : decode cX1_findBestWay 52 = .ok (.if_icmp .ge 12, 3) := by decide +kernel
theorem dX1_findBestWay_55 : decode cX1_findBestWay 55 = .ok (.aload_n 0, 1) := by decide +kernel
theorem dX1_findBestWay_56 : decode cX1_findBestWay 56 = .ok (.iload_n 2, 1) := by decide +kernel
theorem dX1_findBestWay_57 : decode cX1_findBestWay 57 = .ok (.iload_n 1, 1) := by decide +kernel
theorem dX1_findBestWay_58 : decode cX1_findBestWay 58 = .ok (.invokevirtual 97, 3) := by decide +kernel
theorem dX1_findBestWay_61 : decode cX1_findBestWay 61 = .ok (.goto 4, 3) := by decide +kernel
theorem dX1_findBestWay_64 : decode cX1_findBestWay 64 = .ok (.iconst 0, 1) := by decide +kernel
theorem dX1_findBestWay_65 : decode cX1_findBestWay 65 = .ok (.iastore, 1) := by decide +kernel
theorem dX1_findBestWay_66 : decode cX1_findBestWay 66 = .ok (.iload_n 1, 1) := by decide +kernel
theorem dX1_findBestWay_67 : decode cX1_findBestWay 67 = .ok (.aload_n 0, 1) := by decide +kernel
theorem dX1_findBestWay_68 : decode cX1_findBestWay 68 = .ok (.getfield 49, 3) := by decide +kernel
theorem dX1_findBestWay_71 : decode cX1_findBestWay 71 = .ok (.iload_n 2, 1) := by decide +kernel
theorem dX1_findBestWay_72 : decode cX1_findBestWay 72 = .ok (.iaload, 1) := by decide +kernel
theorem dX1_findBestWay_73 : decode cX1_findBestWay 73 = .ok (.iadd, 1) := by decide +kernel
theorem dX1_findBestWay_74 : decode cX1_findBestWay 74 = .ok (.istore_n 1, 1) := by decide +kernel
theorem dX1_findBestWay_75 : decode cX1_findBestWay 75 = .ok (.iinc 2 1, 3) := by decide +kernel
theorem dX1_findBestWay_78 : decode cX1_findBestWay 78 = .ok (.goto (-74), 3) := by decide +kernel
theorem dX1_findBestWay_81 : decode cX1_findBestWay 81 = .ok (.return_, 1) := by decide +kernel
theorem dX1_heldByBestWay_0 : decode cX1_heldByBestWay 0 = .ok (.iconst 1, 1) := by decide +kernel
theorem dX1_heldByBestWay_1 : decode cX1_heldByBestWay 1 = .ok (.istore_n 3, 1) := by decide +kernel
theorem dX1_heldByBestWay_2 : decode cX1_heldByBestWay 2 = .ok (.iload_n 3, 1) := by decide +kernel
theorem dX1_heldByBestWay_3 : decode cX1_heldByBestWay 3 = .ok (.aload_n 0, 1) := by decide +kernel
theorem dX1_heldByBestWay_4 : decode cX1_heldByBestWay 4 = .ok (.iload_n 2, 1) := by decide +kernel
theorem dX1_heldByBestWay_5 : decode cX1_heldByBestWay 5 = .ok (.invokevirtual 76, 3) := by decide +kernel
theorem dX1_heldByBestWay_8 : decode cX1_heldByBestWay 8 = .ok (.if_icmp .gt 32, 3) := by decide +kernel
theorem dX1_heldByBestWay_11 : decode cX1_heldByBestWay 11 = .ok (.aload_n 0, 1) := by decide +kernel
theorem dX1_heldByBestWay_12 : decode cX1_heldByBestWay 12 = .ok (.iload_n 1, 1) := by decide +kernel
theorem dX1_heldByBestWay_13 : decode cX1_heldByBestWay 13 = .ok (.iload_n 2, 1) := by decide +kernel
theorem dX1_heldByBestWay_14 : decode cX1_heldByBestWay 14 = .ok (.iload_n 3, 1) := by decide +kernel
theorem dX1_heldByBestWay_15 : decode cX1_heldByBestWay 15 = .ok (.invokevirtual 80, 3) := by decide +kernel
theorem dX1_heldByBestWay_18 : decode cX1_heldByBestWay 18 = .ok (.aload_n 0, 1) := by decide +kernel
theorem dX1_heldByBestWay_19 : decode cX1_heldByBestWay 19 = .ok (.getfield 40, 3) := by decide +kernel
theorem dX1_heldByBestWay_22 : decode cX1_heldByBestWay 22 = .ok (.iload_n 1, 1) := by decide +kernel
theorem dX1_heldByBestWay_23 : decode cX1_heldByBestWay 23 = .ok (.bipush 25, 2) := by decide +kernel
theorem dX1_heldByBestWay_25 : decode cX1_heldByBestWay 25 = .ok (.imul, 1) := by decide +kernel
theorem dX1_heldByBestWay_26 : decode cX1_heldByBestWay 26 = .ok (.iload_n 2, 1) := by decide +kernel
theorem dX1_heldByBestWay_27 : decode cX1_heldByBestWay 27 = .ok (.iadd, 1) := by decide +kernel
theorem dX1_heldByBestWay_28 : decode cX1_heldByBestWay 28 = .ok (.iaload, 1) := by decide +kernel
theorem dX1_heldByBestWay_29 : decode cX1_heldByBestWay 29 = .ok (.if_icmp .ne 5, 3) := by decide +kernel
theorem dX1_heldByBestWay_32 : decode cX1_heldByBestWay 32 = .ok (.iload_n 3, 1) := by decide +kernel
theorem dX1_heldByBestWay_33 : decode cX1_heldByBestWay 33 = .ok (.ireturn, 1) := by decide +kernel
theorem dX1_heldByBestWay_34 : decode cX1_heldByBestWay 34 = .ok (.iinc 3 1, 3) := by decide +kernel
theorem dX1_heldByBestWay_37 : decode cX1_heldByBestWay 37 = .ok (.goto (-35), 3) := by decide +kernel
theorem dX1_heldByBestWay_40 : decode cX1_heldByBestWay 40 = .ok (.iconst 0, 1) := by decide +kernel
theorem dX1_heldByBestWay_41 : decode cX1_heldByBestWay 41 = .ok (.ireturn, 1) := by decide +kernel
theorem dX1_freeBeats_0 : decode cX1_freeBeats 0 = .ok (.aload_n 0, 1) := by decide +kernel
theorem dX1_freeBeats_1 : decode cX1_freeBeats 1 = .ok (.invokevirtual 100, 3) := by decide +kernel
theorem dX1_freeBeats_4 : decode cX1_freeBeats 4 = .ok (.iconst 0, 1) := by decide +kernel
theorem dX1_freeBeats_5 : decode cX1_freeBeats 5 = .ok (.istore_n 1, 1) := by decide +kernel
theorem dX1_freeBeats_6 : decode cX1_freeBeats 6 = .ok (.iconst 0, 1) := by decide +kernel
theorem dX1_freeBeats_7 : decode cX1_freeBeats 7 = .ok (.istore_n 2, 1) := by decide +kernel
theorem dX1_freeBeats_8 : decode cX1_freeBeats 8 = .ok (.iload_n 2, 1) := by decide +kernel
theorem dX1_freeBeats_9 : decode cX1_freeBeats 9 = .ok (.aload_n 0, 1) := by decide +kernel
theorem dX1_freeBeats_10 : decode cX1_freeBeats 10 = .ok (.getfield 27, 3) := by decide +kernel
theorem dX1_freeBeats_13 : decode cX1_freeBeats 13 = .ok (.if_icmp .ge 21, 3) := by decide +kernel
theorem dX1_freeBeats_16 : decode cX1_freeBeats 16 = .ok (.aload_n 0, 1) := by decide +kernel
theorem dX1_freeBeats_17 : decode cX1_freeBeats 17 = .ok (.getfield 34, 3) := by decide +kernel
theorem dX1_freeBeats_20 : decode cX1_freeBeats 20 = .ok (.iload_n 2, 1) := by decide +kernel
theorem dX1_freeBeats_21 : decode cX1_freeBeats 21 = .ok (.iaload, 1) := by decide +kernel
theorem dX1_freeBeats_22 : decode cX1_freeBeats 22 = .ok (.ifCond .eq 6, 3) := by decide +kernel
theorem dX1_freeBeats_25 : decode cX1_freeBeats 25 = .ok (.iinc 1 1, 3) := by decide +kernel
theorem dX1_freeBeats_28 : decode cX1_freeBeats 28 = .ok (.iinc 2 1, 3) := by decide +kernel
theorem dX1_freeBeats_31 : decode cX1_freeBeats 31 = .ok (.goto (-23), 3) := by decide +kernel
theorem dX1_freeBeats_34 : decode cX1_freeBeats 34 = .ok (.iconst 0, 1) := by decide +kernel
theorem dX1_freeBeats_35 : decode cX1_freeBeats 35 = .ok (.istore_n 2, 1) := by decide +kernel
theorem dX1_freeBeats_36 : decode cX1_freeBeats 36 = .ok (.iload_n 2, 1) := by decide +kernel
theorem dX1_freeBeats_37 : decode cX1_freeBeats 37 = .ok (.aload_n 0, 1) := by decide +kernel
theorem dX1_freeBeats_38 : decode cX1_freeBeats 38 = .ok (.getfield 24, 3) := by decide +kernel
theorem dX1_freeBeats_41 : decode cX1_freeBeats 41 = .ok (.if_icmp .ge 18, 3) := by decide +kernel
theorem dX1_freeBeats_44 : decode cX1_freeBeats 44 = .ok (.iload_n 1, 1) := by decide +kernel
theorem dX1_freeBeats_45 : decode cX1_freeBeats 45 = .ok (.aload_n 0, 1) := by decide +kernel
theorem dX1_freeBeats_46 : decode cX1_freeBeats 46 = .ok (.getfield 49, 3) := by decide +kernel
theorem dX1_freeBeats_49 : decode cX1_freeBeats 49 = .ok (.iload_n 2, 1) := by decide +kernel
theorem dX1_freeBeats_50 : decode cX1_freeBeats 50 = .ok (.iaload, 1) := by decide +kernel
theorem dX1_freeBeats_51 : decode cX1_freeBeats 51 = .ok (.isub, 1) := by decide +kernel
theorem dX1_freeBeats_52 : decode cX1_freeBeats 52 = .ok (.istore_n 1, 1) := by decide +kernel
theorem dX1_freeBeats_53 : decode cX1_freeBeats 53 = .ok (.iinc 2 1, 3) := by decide +kernel
theorem dX1_freeBeats_56 : decode cX1_freeBeats 56 = .ok (.goto (-20), 3) := by decide +kernel
theorem dX1_freeBeats_59 : decode cX1_freeBeats 59 = .ok (.iload_n 1, 1) := by decide +kernel
theorem dX1_freeBeats_60 : decode cX1_freeBeats 60 = .ok (.ireturn, 1) := by decide +kernel
theorem dX1_hurtSyllables_0 : decode cX1_hurtSyllables 0 = .ok (.aload_n 0, 1) := by decide +kernel
theorem dX1_hurtSyllables_1 : decode cX1_hurtSyllables 1 = .ok (.invokevirtual 100, 3) := by decide +kernel
theorem dX1_hurtSyllables_4 : decode cX1_hurtSyllables 4 = .ok (.iconst 0, 1) := by decide +kernel
theorem dX1_hurtSyllables_5 : decode cX1_hurtSyllables 5 = .ok (.istore_n 1, 1) := by decide +kernel
theorem dX1_hurtSyllables_6 : decode cX1_hurtSyllables 6 = .ok (.iconst 0, 1) := by decide +kernel
theorem dX1_hurtSyllables_7 : decode cX1_hurtSyllables 7 = .ok (.istore_n 2, 1) := by decide +kernel
theorem dX1_hurtSyllables_8 : decode cX1_hurtSyllables 8 = .ok (.iload_n 2, 1) := by decide +kernel
theorem dX1_hurtSyllables_9 : decode cX1_hurtSyllables 9 = .ok (.aload_n 0, 1) := by decide +kernel
theorem dX1_hurtSyllables_10 : decode cX1_hurtSyllables 10 = .ok (.getfield 24, 3) := by decide +kernel
theorem dX1_hurtSyllables_13 : decode cX1_hurtSyllables 13 = .ok (.if_icmp .ge 35, 3) := by decide +kernel
theorem dX1_hurtSyllables_16 : decode cX1_hurtSyllables 16 = .ok (.aload_n 0, 1) := by decide +kernel
theorem dX1_hurtSyllables_17 : decode cX1_hurtSyllables 17 = .ok (.getfield 49, 3) := by decide +kernel
theorem dX1_hurtSyllables_20 : decode cX1_hurtSyllables 20 = .ok (.iload_n 2, 1) := by decide +kernel
theorem dX1_hurtSyllables_21 : decode cX1_hurtSyllables 21 = .ok (.iaload, 1) := by decide +kernel
theorem dX1_hurtSyllables_22 : decode cX1_hurtSyllables 22 = .ok (.ifCond .le 20, 3) := by decide +kernel
theorem dX1_hurtSyllables_25 : decode cX1_hurtSyllables 25 = .ok (.aload_n 0, 1) := by decide +kernel
theorem dX1_hurtSyllables_26 : decode cX1_hurtSyllables 26 = .ok (.iload_n 2, 1) := by decide +kernel
theorem dX1_hurtSyllables_27 : decode cX1_hurtSyllables 27 = .ok (.aload_n 0, 1) := by decide +kernel
theorem dX1_hurtSyllables_28 : decode cX1_hurtSyllables 28 = .ok (.getfield 46, 3) := by decide +kernel
theorem dX1_hurtSyllables_31 : decode cX1_hurtSyllables 31 = .ok (.iload_n 2, 1) := by decide +kernel
theorem dX1_hurtSyllables_32 : decode cX1_hurtSyllables 32 = .ok (.iaload, 1) := by decide +kernel
theorem dX1_hurtSyllables_33 : decode cX1_hurtSyllables 33 = .ok (.invokevirtual 89, 3) := by decide +kernel
theorem dX1_hurtSyllables_36 : decode cX1_hurtSyllables 36 = .ok (.ifCond .eq 6, 3) := by decide +kernel
theorem dX1_hurtSyllables_39 : decode cX1_hurtSyllables 39 = .ok (.iinc 1 1, 3) := by decide +kernel
theorem dX1_hurtSyllables_42 : decode cX1_hurtSyllables 42 = .ok (.iinc 2 1, 3) := by decide +kernel
theorem dX1_hurtSyllables_45 : decode cX1_hurtSyllables 45 = .ok (.goto (-37), 3) := by decide +kernel
theorem dX1_hurtSyllables_48 : decode cX1_hurtSyllables 48 = .ok (.iload_n 1, 1) := by decide +kernel
theorem dX1_hurtSyllables_49 : decode cX1_hurtSyllables 49 = .ok (.ireturn, 1) := by decide +kernel
