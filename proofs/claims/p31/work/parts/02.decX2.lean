theorem dX2_init_0 : decode cX2_init 0 = .ok (.aload_n 0, 1) := by decide +kernel
theorem dX2_init_1 : decode cX2_init 1 = .ok (.invokespecial 3, 3) := by decide +kernel
theorem dX2_init_4 : decode cX2_init 4 = .ok (.aload_n 0, 1) := by decide +kernel
theorem dX2_init_5 : decode cX2_init 5 = .ok (.bipush 60, 2) := by decide +kernel
theorem dX2_init_7 : decode cX2_init 7 = .ok (.newarray .char, 2) := by decide +kernel
theorem dX2_init_9 : decode cX2_init 9 = .ok (.putfield 9, 3) := by decide +kernel
theorem dX2_init_12 : decode cX2_init 12 = .ok (.aload_n 0, 1) := by decide +kernel
theorem dX2_init_13 : decode cX2_init 13 = .ok (.iconst 0, 1) := by decide +kernel
theorem dX2_init_14 : decode cX2_init 14 = .ok (.putfield 15, 3) := by decide +kernel
theorem dX2_init_17 : decode cX2_init 17 = .ok (.return_, 1) := by decide +kernel
theorem dX2_isSyllable_0 : decode cX2_isSyllable 0 = .ok (.iload_n 0, 1) := by decide +kernel
theorem dX2_isSyllable_1 : decode cX2_isSyllable 1 = .ok (.bipush 120, 2) := by decide +kernel
theorem dX2_isSyllable_3 : decode cX2_isSyllable 3 = .ok (.if_icmp .eq 9, 3) := by decide +kernel
theorem dX2_isSyllable_6 : decode cX2_isSyllable 6 = .ok (.iload_n 0, 1) := by decide +kernel
theorem dX2_isSyllable_7 : decode cX2_isSyllable 7 = .ok (.bipush 88, 2) := by decide +kernel
theorem dX2_isSyllable_9 : decode cX2_isSyllable 9 = .ok (.if_icmp .ne 7, 3) := by decide +kernel
theorem dX2_isSyllable_12 : decode cX2_isSyllable 12 = .ok (.iconst 1, 1) := by decide +kernel
theorem dX2_isSyllable_13 : decode cX2_isSyllable 13 = .ok (.goto 4, 3) := by decide +kernel
theorem dX2_isSyllable_16 : decode cX2_isSyllable 16 = .ok (.iconst 0, 1) := by decide +kernel
theorem dX2_isSyllable_17 : decode cX2_isSyllable 17 = .ok (.ireturn, 1) := by decide +kernel
theorem dX2_isBeat_0 : decode cX2_isBeat 0 = .ok (.iload_n 0, 1) := by decide +kernel
theorem dX2_isBeat_1 : decode cX2_isBeat 1 = .ok (.bipush 115, 2) := by decide +kernel
theorem dX2_isBeat_3 : decode cX2_isBeat 3 = .ok (.if_icmp .eq 15, 3) := by decide +kernel
theorem dX2_isBeat_6 : decode cX2_isBeat 6 = .ok (.iload_n 0, 1) := by decide +kernel
theorem dX2_isBeat_7 : decode cX2_isBeat 7 = .ok (.bipush 119, 2) := by decide +kernel
theorem dX2_isBeat_9 : decode cX2_isBeat 9 = .ok (.if_icmp .eq 9, 3) := by decide +kernel
theorem dX2_isBeat_12 : decode cX2_isBeat 12 = .ok (.iload_n 0, 1) := by decide +kernel
theorem dX2_isBeat_13 : decode cX2_isBeat 13 = .ok (.bipush 46, 2) := by decide +kernel
theorem dX2_isBeat_15 : decode cX2_isBeat 15 = .ok (.if_icmp .ne 7, 3) := by decide +kernel
theorem dX2_isBeat_18 : decode cX2_isBeat 18 = .ok (.iconst 1, 1) := by decide +kernel
theorem dX2_isBeat_19 : decode cX2_isBeat 19 = .ok (.goto 4, 3) := by decide +kernel
theorem dX2_isBeat_22 : decode cX2_isBeat 22 = .ok (.iconst 0, 1) := by decide +kernel
theorem dX2_isBeat_23 : decode cX2_isBeat 23 = .ok (.ireturn, 1) := by decide +kernel
theorem dX2_signsIn_0 : decode cX2_signsIn 0 = .ok (.lload_n 0, 1) := by decide +kernel
theorem dX2_signsIn_1 : decode cX2_signsIn 1 = .ok (.lstore_n 2, 1) := by decide +kernel
theorem dX2_signsIn_2 : decode cX2_signsIn 2 = .ok (.iconst 0, 1) := by decide +kernel
theorem dX2_signsIn_3 : decode cX2_signsIn 3 = .ok (.istore 4, 2) := by decide +kernel
theorem dX2_signsIn_5 : decode cX2_signsIn 5 = .ok (.lload_n 2, 1) := by decide +kernel
theorem dX2_signsIn_6 : decode cX2_signsIn 6 = .ok (.lconst 0, 1) := by decide +kernel
theorem dX2_signsIn_7 : decode cX2_signsIn 7 = .ok (.lcmp, 1) := by decide +kernel
theorem dX2_signsIn_8 : decode cX2_signsIn 8 = .ok (.ifCond .eq 48, 3) := by decide +kernel
theorem dX2_signsIn_11 : decode cX2_signsIn 11 = .ok (.iload 4, 2) := by decide +kernel
theorem dX2_signsIn_13 : decode cX2_signsIn 13 = .ok (.bipush 8, 2) := by decide +kernel
theorem dX2_signsIn_15 : decode cX2_signsIn 15 = .ok (.if_icmp .ge 41, 3) := by decide +kernel
theorem dX2_signsIn_18 : decode cX2_signsIn 18 = .ok (.lload_n 2, 1) := by decide +kernel
theorem dX2_signsIn_19 : decode cX2_signsIn 19 = .ok (.ldc2_w 19, 3) := by decide +kernel
theorem dX2_signsIn_22 : decode cX2_signsIn 22 = .ok (.land, 1) := by decide +kernel
theorem dX2_signsIn_23 : decode cX2_signsIn 23 = .ok (.lstore 5, 2) := by decide +kernel
theorem dX2_signsIn_25 : decode cX2_signsIn 25 = .ok (.lload 5, 2) := by decide +kernel
theorem dX2_signsIn_27 : decode cX2_signsIn 27 = .ok (.ldc2_w 21, 3) := by decide +kernel
theorem dX2_signsIn_30 : decode cX2_signsIn 30 = .ok (.lcmp, 1) := by decide +kernel
theorem dX2_signsIn_31 : decode cX2_signsIn 31 = .ok (.ifCond .lt 12, 3) := by decide +kernel
theorem dX2_signsIn_34 : decode cX2_signsIn 34 = .ok (.lload 5, 2) := by decide +kernel
theorem dX2_signsIn_36 : decode cX2_signsIn 36 = .ok (.ldc2_w 23, 3) := by decide +kernel
theorem dX2_signsIn_39 : decode cX2_signsIn 39 = .ok (.lcmp, 1) := by decide +kernel
theorem dX2_signsIn_40 : decode cX2_signsIn 40 = .ok (.ifCond .le 5, 3) := by decide +kernel
theorem dX2_signsIn_43 : decode cX2_signsIn 43 = .ok (.iconst 0, 1) := by decide +kernel
theorem dX2_signsIn_44 : decode cX2_signsIn 44 = .ok (.ireturn, 1) := by decide +kernel
theorem dX2_signsIn_45 : decode cX2_signsIn 45 = .ok (.lload_n 2, 1) := by decide +kernel
theorem dX2_signsIn_46 : decode cX2_signsIn 46 = .ok (.bipush 8, 2) := by decide +kernel
theorem dX2_signsIn_48 : decode cX2_signsIn 48 = .ok (.lushr, 1) := by decide +kernel
theorem dX2_signsIn_49 : decode cX2_signsIn 49 = .ok (.lstore_n 2, 1) := by decide +kernel
theorem dX2_signsIn_50 : decode cX2_signsIn 50 = .ok (.iinc 4 1, 3) := by decide +kernel
theorem dX2_signsIn_53 : decode cX2_signsIn 53 = .ok (.goto (-48), 3) := by decide +kernel
theorem dX2_signsIn_56 : decode cX2_signsIn 56 = .ok (.iload 4, 2) := by decide +kernel
theorem dX2_signsIn_58 : decode cX2_signsIn 58 = .ok (.ireturn, 1) := by decide +kernel
theorem dX2_append_0 : decode cX2_append 0 = .ok (.iload_n 3, 1) := by decide +kernel
theorem dX2_append_1 : decode cX2_append 1 = .ok (.iconst 1, 1) := by decide +kernel
theorem dX2_append_2 : decode cX2_append 2 = .ok (.isub, 1) := by decide +kernel
theorem dX2_append_3 : decode cX2_append 3 = .ok (.istore 4, 2) := by decide +kernel
theorem dX2_append_5 : decode cX2_append 5 = .ok (.iload 4, 2) := by decide +kernel
theorem dX2_append_7 : decode cX2_append 7 = .ok (.ifCond .lt 50, 3) := by decide +kernel
theorem dX2_append_10 : decode cX2_append 10 = .ok (.aload_n 0, 1) := by decide +kernel
theorem dX2_append_11 : decode cX2_append 11 = .ok (.getfield 15, 3) := by decide +kernel
theorem dX2_append_14 : decode cX2_append 14 = .ok (.bipush 60, 2) := by decide +kernel
theorem dX2_append_16 : decode cX2_append 16 = .ok (.if_icmp .ge 35, 3) := by decide +kernel
theorem dX2_append_19 : decode cX2_append 19 = .ok (.aload_n 0, 1) := by decide +kernel
theorem dX2_append_20 : decode cX2_append 20 = .ok (.getfield 9, 3) := by decide +kernel
theorem dX2_append_23 : decode cX2_append 23 = .ok (.aload_n 0, 1) := by decide +kernel
theorem dX2_append_24 : decode cX2_append 24 = .ok (.getfield 15, 3) := by decide +kernel
theorem dX2_append_27 : decode cX2_append 27 = .ok (.lload_n 1, 1) := by decide +kernel
theorem dX2_append_28 : decode cX2_append 28 = .ok (.bipush 8, 2) := by decide +kernel
theorem dX2_append_30 : decode cX2_append 30 = .ok (.iload 4, 2) := by decide +kernel
theorem dX2_append_32 : decode cX2_append 32 = .ok (.imul, 1) := by decide +kernel
theorem dX2_append_33 : decode cX2_append 33 = .ok (.lushr, 1) := by decide +kernel
theorem dX2_append_34 : decode cX2_append 34 = .ok (.ldc2_w 19, 3) := by decide +kernel
theorem dX2_append_37 : decode cX2_append 37 = .ok (.land, 1) := by decide +kernel
theorem dX2_append_38 : decode cX2_append 38 = .ok (.l2i, 1) := by decide +kernel
theorem dX2_append_39 : decode cX2_append 39 = .ok (.i2c, 1) := by decide +kernel
theorem dX2_append_40 : decode cX2_append 40 = .ok (.castore, 1) := by decide +kernel
theorem dX2_append_41 : decode cX2_append 41 = .ok (.aload_n 0, 1) := by decide +kernel
theorem dX2_append_42 : decode cX2_append 42 = .ok (.dup, 1) := by decide +kernel
theorem dX2_append_43 : decode cX2_append 43 = .ok (.getfield 15, 3) := by decide +kernel
theorem dX2_append_46 : decode cX2_append 46 = .ok (.iconst 1, 1) := by decide +kernel
theorem dX2_append_47 : decode cX2_append 47 = .ok (.iadd, 1) := by decide +kernel
theorem dX2_append_48 : decode cX2_append 48 = .ok (.putfield 15, 3) := by decide +kernel
theorem dX2_append_51 : decode cX2_append 51 = .ok (.iinc 4 (-1), 3) := by decide +kernel
theorem dX2_append_54 : decode cX2_append 54 = .ok (.goto (-49), 3) := by decide +kernel
theorem dX2_append_57 : decode cX2_append 57 = .ok (.return_, 1) := by decide +kernel
theorem dX2_beginsPart_0 : decode cX2_beginsPart 0 = .ok (.iload_n 1, 1) := by decide +kernel
theorem dX2_beginsPart_1 : decode cX2_beginsPart 1 = .ok (.ifCond .eq 28, 3) := by decide +kernel
theorem dX2_beginsPart_4 : decode cX2_beginsPart 4 = .ok (.iload_n 1, 1) := by decide +kernel
theorem dX2_beginsPart_5 : decode cX2_beginsPart 5 = .ok (.ifCond .le 28, 3) := by decide +kernel
theorem dX2_beginsPart_8 : decode cX2_beginsPart 8 = .ok (.iload_n 1, 1) := by decide +kernel
theorem dX2_beginsPart_9 : decode cX2_beginsPart 9 = .ok (.aload_n 0, 1) := by decide +kernel
theorem dX2_beginsPart_10 : decode cX2_beginsPart 10 = .ok (.getfield 15, 3) := by decide +kernel
theorem dX2_beginsPart_13 : decode cX2_beginsPart 13 = .ok (.if_icmp .ge 20, 3) := by decide +kernel
theorem dX2_beginsPart_16 : decode cX2_beginsPart 16 = .ok (.aload_n 0, 1) := by decide +kernel
theorem dX2_beginsPart_17 : decode cX2_beginsPart 17 = .ok (.getfield 9, 3) := by decide +kernel
theorem dX2_beginsPart_20 : decode cX2_beginsPart 20 = .ok (.iload_n 1, 1) := by decide +kernel
theorem dX2_beginsPart_21 : decode cX2_beginsPart 21 = .ok (.iconst 1, 1) := by decide +kernel
theorem dX2_beginsPart_22 : decode cX2_beginsPart 22 = .ok (.isub, 1) := by decide +kernel
theorem dX2_beginsPart_23 : decode cX2_beginsPart 23 = .ok (.caload, 1) := by decide +kernel
theorem dX2_beginsPart_24 : decode cX2_beginsPart 24 = .ok (.bipush 59, 2) := by decide +kernel
theorem dX2_beginsPart_26 : decode cX2_beginsPart 26 = .ok (.if_icmp .ne 7, 3) := by decide +kernel
theorem dX2_beginsPart_29 : decode cX2_beginsPart 29 = .ok (.iconst 1, 1) := by decide +kernel
theorem dX2_beginsPart_30 : decode cX2_beginsPart 30 = .ok (.goto 4, 3) := by decide +kernel
theorem dX2_beginsPart_33 : decode cX2_beginsPart 33 = .ok (.iconst 0, 1) := by decide +kernel
theorem dX2_beginsPart_34 : decode cX2_beginsPart 34 = .ok (.ireturn, 1) := by decide +kernel
theorem dX2_parts_0 : decode cX2_parts 0 = .ok (.iconst 0, 1) := by decide +kernel
theorem dX2_parts_1 : decode cX2_parts 1 = .ok (.istore_n 1, 1) := by decide +kernel
theorem dX2_parts_2 : decode cX2_parts 2 = .ok (.iconst 0, 1) := by decide +kernel
theorem dX2_parts_3 : decode cX2_parts 3 = .ok (.istore_n 2, 1) := by decide +kernel
theorem dX2_parts_4 : decode cX2_parts 4 = .ok (.iload_n 2, 1) := by decide +kernel
theorem dX2_parts_5 : decode cX2_parts 5 = .ok (.aload_n 0, 1) := by decide +kernel
theorem dX2_parts_6 : decode cX2_parts 6 = .ok (.getfield 15, 3) := by decide +kernel
theorem dX2_parts_9 : decode cX2_parts 9 = .ok (.if_icmp .ge 20, 3) := by decide +kernel
theorem dX2_parts_12 : decode cX2_parts 12 = .ok (.aload_n 0, 1) := by decide +kernel
theorem dX2_parts_13 : decode cX2_parts 13 = .ok (.iload_n 2, 1) := by decide +kernel
theorem dX2_parts_14 : decode cX2_parts 14 = .ok (.invokevirtual 25, 3) := by decide +kernel
theorem dX2_parts_17 : decode cX2_parts 17 = .ok (.ifCond .eq 6, 3) := by decide +kernel
theorem dX2_parts_20 : decode cX2_parts 20 = .ok (.iinc 1 1, 3) := by decide +kernel
theorem dX2_parts_23 : decode cX2_parts 23 = .ok (.iinc 2 1, 3) := by decide +kernel
theorem dX2_parts_26 : decode cX2_parts 26 = .ok (.goto (-22), 3) := by decide +kernel
theorem dX2_parts_29 : decode cX2_parts 29 = .ok (.iload_n 1, 1) := by decide +kernel
theorem dX2_parts_30 : decode cX2_parts 30 = .ok (.ireturn, 1) := by decide +kernel
theorem dX2_phraseParts_0 : decode cX2_phraseParts 0 = .ok (.iconst 0, 1) := by decide +kernel
theorem dX2_phraseParts_1 : decode cX2_phraseParts 1 = .ok (.istore_n 1, 1) := by decide +kernel
theorem dX2_phraseParts_2 : decode cX2_phraseParts 2 = .ok (.iconst 0, 1) := by decide +kernel
theorem dX2_phraseParts_3 : decode cX2_phraseParts 3 = .ok (.istore_n 2, 1) := by decide +kernel
theorem dX2_phraseParts_4 : decode cX2_phraseParts 4 = .ok (.iload_n 2, 1) := by decide +kernel
theorem dX2_phraseParts_5 : decode cX2_phraseParts 5 = .ok (.aload_n 0, 1) := by decide +kernel
theorem dX2_phraseParts_6 : decode cX2_phraseParts 6 = .ok (.getfield 15, 3) := by decide +kernel
theorem dX2_phraseParts_9 : decode cX2_phraseParts 9 = .ok (.if_icmp .ge 23, 3) := by decide +kernel
theorem dX2_phraseParts_12 : decode cX2_phraseParts 12 = .ok (.aload_n 0, 1) := by decide +kernel
theorem dX2_phraseParts_13 : decode cX2_phraseParts 13 = .ok (.getfield 9, 3) := by decide +kernel
theorem dX2_phraseParts_16 : decode cX2_phraseParts 16 = .ok (.iload_n 2, 1) := by decide +kernel
theorem dX2_phraseParts_17 : decode cX2_phraseParts 17 = .ok (.caload, 1) := by decide +kernel
theorem dX2_phraseParts_18 : decode cX2_phraseParts 18 = .ok (.bipush 124, 2) := by decide +kernel
theorem dX2_phraseParts_20 : decode cX2_phraseParts 20 = .ok (.if_icmp .ne 6, 3) := by decide +kernel
theorem dX2_phraseParts_23 : decode cX2_phraseParts 23 = .ok (.iinc 1 1, 3) := by decide +kernel
theorem dX2_phraseParts_26 : decode cX2_phraseParts 26 = .ok (.iinc 2 1, 3) := by decide +kernel
theorem dX2_phraseParts_29 : decode cX2_phraseParts 29 = .ok (.goto (-25), 3) := by decide +kernel
theorem dX2_phraseParts_32 : decode cX2_phraseParts 32 = .ok (.iload_n 1, 1) := by decide +kernel
theorem dX2_phraseParts_33 : decode cX2_phraseParts 33 = .ok (.ireturn, 1) := by decide +kernel
theorem dX2_faultPlace_0 : decode cX2_faultPlace 0 = .ok (.iconst 0, 1) := by decide +kernel
theorem dX2_faultPlace_1 : decode cX2_faultPlace 1 = .ok (.istore_n 1, 1) := by decide +kernel
theorem dX2_faultPlace_2 : decode cX2_faultPlace 2 = .ok (.iconst 0, 1) := by decide +kernel
theorem dX2_faultPlace_3 : decode cX2_faultPlace 3 = .ok (.istore_n 2, 1) := by decide +kernel
theorem dX2_faultPlace_4 : decode cX2_faultPlace 4 = .ok (.iconst 0, 1) := by decide +kernel
theorem dX2_faultPlace_5 : decode cX2_faultPlace 5 = .ok (.istore_n 3, 1) := by decide +kernel
theorem dX2_faultPlace_6 : decode cX2_faultPlace 6 = .ok (.iload_n 3, 1) := by decide +kernel
theorem dX2_faultPlace_7 : decode cX2_faultPlace 7 = .ok (.aload_n 0, 1) := by decide +kernel
theorem dX2_faultPlace_8 : decode cX2_faultPlace 8 = .ok (.getfield 15, 3) := by decide +kernel
theorem dX2_faultPlace_11 : decode cX2_faultPlace 11 = .ok (.if_icmp .ge 105, 3) := by decide +kernel
theorem dX2_faultPlace_14 : decode cX2_faultPlace 14 = .ok (.aload_n 0, 1) := by decide +kernel
theorem dX2_faultPlace_15 : decode cX2_faultPlace 15 = .ok (.getfield 9, 3) := by decide +kernel
theorem dX2_faultPlace_18 : decode cX2_faultPlace 18 = .ok (.iload_n 3, 1) := by decide +kernel
theorem dX2_faultPlace_19 : decode cX2_faultPlace 19 = .ok (.caload, 1) := by decide +kernel
theorem dX2_faultPlace_20 : decode cX2_faultPlace 20 = .ok (.istore 4, 2) := by decide +kernel
theorem dX2_faultPlace_22 : decode cX2_faultPlace 22 = .ok (.iload 4, 2) := by decide +kernel
theorem dX2_faultPlace_24 : decode cX2_faultPlace 24 = .ok (.bipush 59, 2) := by decide +kernel
theorem dX2_faultPlace_26 : decode cX2_faultPlace 26 = .ok (.if_icmp .ne 14, 3) := by decide +kernel
theorem dX2_faultPlace_29 : decode cX2_faultPlace 29 = .ok (.iload_n 2, 1) := by decide +kernel
theorem dX2_faultPlace_30 : decode cX2_faultPlace 30 = .ok (.ifCond .le 10, 3) := by decide +kernel
theorem dX2_faultPlace_33 : decode cX2_faultPlace 33 = .ok (.iconst 0, 1) := by decide +kernel
theorem dX2_faultPlace_34 : decode cX2_faultPlace 34 = .ok (.istore_n 1, 1) := by decide +kernel
theorem dX2_faultPlace_35 : decode cX2_faultPlace 35 = .ok (.iconst 0, 1) := by decide +kernel
theorem dX2_faultPlace_36 : decode cX2_faultPlace 36 = .ok (.istore_n 2, 1) := by decide +kernel
theorem dX2_faultPlace_37 : decode cX2_faultPlace 37 = .ok (.goto 73, 3) := by decide +kernel
theorem dX2_faultPlace_40 : decode cX2_faultPlace 40 = .ok (.iload 4, 2) := by decide +kernel
theorem dX2_faultPlace_42 : decode cX2_faultPlace 42 = .ok (.bipush 124, 2) := by decide +kernel
theorem dX2_faultPlace_44 : decode cX2_faultPlace 44 = .ok (.if_icmp .ne 12, 3) := by decide +kernel
theorem dX2_faultPlace_47 : decode cX2_faultPlace 47 = .ok (.iload_n 1, 1) := by decide +kernel
theorem dX2_faultPlace_48 : decode cX2_faultPlace 48 = .ok (.ifCond .ne 8, 3) := by decide +kernel
theorem dX2_faultPlace_51 : decode cX2_faultPlace 51 = .ok (.iconst 2, 1) := by decide +kernel
theorem dX2_faultPlace_52 : decode cX2_faultPlace 52 = .ok (.istore_n 1, 1) := by decide +kernel
theorem dX2_faultPlace_53 : decode cX2_faultPlace 53 = .ok (.goto 57, 3) := by decide +kernel
theorem dX2_faultPlace_56 : decode cX2_faultPlace 56 = .ok (.iload 4, 2) := by decide +kernel
theorem dX2_faultPlace_58 : decode cX2_faultPlace 58 = .ok (.invokestatic 29, 3) := by decide +kernel
theorem dX2_faultPlace_61 : decode cX2_faultPlace 61 = .ok (.ifCond .eq 22, 3) := by decide +kernel
theorem dX2_faultPlace_64 : decode cX2_faultPlace 64 = .ok (.iload_n 1, 1) := by decide +kernel
theorem dX2_faultPlace_65 : decode cX2_faultPlace 65 = .ok (.iconst 2, 1) := by decide +kernel
theorem dX2_faultPlace_66 : decode cX2_faultPlace 66 = .ok (.if_icmp .eq 17, 3) := by decide +kernel
theorem dX2_faultPlace_69 : decode cX2_faultPlace 69 = .ok (.iload_n 2, 1) := by decide +kernel
theorem dX2_faultPlace_70 : decode cX2_faultPlace 70 = .ok (.bipush 16, 2) := by decide +kernel
theorem dX2_faultPlace_72 : decode cX2_faultPlace 72 = .ok (.if_icmp .ge 11, 3) := by decide +kernel
theorem dX2_faultPlace_75 : decode cX2_faultPlace 75 = .ok (.iconst 1, 1) := by decide +kernel
theorem dX2_faultPlace_76 : decode cX2_faultPlace 76 = .ok (.istore_n 1, 1) := by decide +kernel
theorem dX2_faultPlace_77 : decode cX2_faultPlace 77 = .ok (.iinc 2 1, 3) := by decide +kernel
theorem dX2_faultPlace_80 : decode cX2_faultPlace 80 = .ok (.goto 30, 3) := by decide +kernel
theorem dX2_faultPlace_83 : decode cX2_faultPlace 83 = .ok (.iload 4, 2) := by decide +kernel
theorem dX2_faultPlace_85 : decode cX2_faultPlace 85 = .ok (.invokestatic 33, 3) := by decide +kernel
theorem dX2_faultPlace_88 : decode cX2_faultPlace 88 = .ok (.ifCond .eq 20, 3) := by decide +kernel
theorem dX2_faultPlace_91 : decode cX2_faultPlace 91 = .ok (.iload_n 1, 1) := by decide +kernel
theorem dX2_faultPlace_92 : decode cX2_faultPlace 92 = .ok (.iconst 2, 1) := by decide +kernel
theorem dX2_faultPlace_93 : decode cX2_faultPlace 93 = .ok (.if_icmp .ne 15, 3) := by decide +kernel
theorem dX2_faultPlace_96 : decode cX2_faultPlace 96 = .ok (.iload_n 2, 1) := by decide +kernel
theorem dX2_faultPlace_97 : decode cX2_faultPlace 97 = .ok (.bipush 24, 2) := by decide +kernel
theorem dX2_faultPlace_99 : decode cX2_faultPlace 99 = .ok (.if_icmp .ge 9, 3) := by decide +kernel
theorem dX2_faultPlace_102 : decode cX2_faultPlace 102 = .ok (.iinc 2 1, 3) := by decide +kernel
theorem dX2_faultPlace_105 : decode cX2_faultPlace 105 = .ok (.goto 5, 3) := by decide +kernel
theorem dX2_faultPlace_108 : decode cX2_faultPlace 108 = .ok (.iload_n 3, 1) := by decide +kernel
theorem dX2_faultPlace_109 : decode cX2_faultPlace 109 = .ok (.ireturn, 1) := by decide +kernel
theorem dX2_faultPlace_110 : decode cX2_faultPlace 110 = .ok (.iinc 3 1, 3) := by decide +kernel
theorem dX2_faultPlace_113 : decode cX2_faultPlace 113 = .ok (.goto (-107), 3) := by decide +kernel
theorem dX2_faultPlace_116 : decode cX2_faultPlace 116 = .ok (.iload_n 2, 1) := by decide +kernel
theorem dX2_faultPlace_117 : decode cX2_faultPlace 117 = .ok (.ifCond .le 8, 3) := by decide +kernel
theorem dX2_faultPlace_120 : decode cX2_faultPlace 120 = .ok (.bipush (-6), 2) := by decide +kernel
theorem dX2_faultPlace_122 : decode cX2_faultPlace 122 = .ok (.goto 7, 3) := by decide +kernel
theorem dX2_faultPlace_125 : decode cX2_faultPlace 125 = .ok (.aload_n 0, 1) := by decide +kernel
theorem dX2_faultPlace_126 : decode cX2_faultPlace 126 = .ok (.getfield 15, 3) := by decide +kernel
theorem dX2_faultPlace_129 : decode cX2_faultPlace 129 = .ok (.ireturn, 1) := by decide +kernel
