theorem dX2_leastCommonMultiple_11 : decode cX2_leastCommonMultiple 11 = .ok (.ifCond .ge 7, 3) := by decide +kernel
theorem dX2_leastCommonMultiple_14 : decode cX2_leastCommonMultiple 14 = .ok (.lconst 0, 1) := by decide +kernel
theorem dX2_leastCommonMultiple_15 : decode cX2_leastCommonMultiple 15 = .ok (.goto 9, 3) := by decide +kernel
theorem dX2_leastCommonMultiple_18 : decode cX2_leastCommonMultiple 18 = .ok (.lload_n 0, 1) := by decide +kernel
theorem dX2_leastCommonMultiple_19 : decode cX2_leastCommonMultiple 19 = .ok (.lload 4, 2) := by decide +kernel
theorem dX2_leastCommonMultiple_21 : decode cX2_leastCommonMultiple 21 = .ok (.ldiv, 1) := by decide +kernel
theorem dX2_leastCommonMultiple_22 : decode cX2_leastCommonMultiple 22 = .ok (.lload_n 2, 1) := by decide +kernel
theorem dX2_leastCommonMultiple_23 : decode cX2_leastCommonMultiple 23 = .ok (.lmul, 1) := by decide +kernel
theorem dX2_leastCommonMultiple_24 : decode cX2_leastCommonMultiple 24 = .ok (.lreturn, 1) := by decide +kernel
theorem dM_init_0 : decode cM_init 0 = .ok (.aload_n 0, 1) := by decide +kernel
theorem dM_init_1 : decode cM_init 1 = .ok (.invokespecial 1, 3) := by decide +kernel
theorem dM_init_4 : decode cM_init 4 = .ok (.aload_n 0, 1) := by decide +kernel
theorem dM_init_5 : decode cM_init 5 = .ok (.bipush 31, 2) := by decide +kernel
theorem dM_init_7 : decode cM_init 7 = .ok (.newarray .long, 2) := by decide +kernel
theorem dM_init_9 : decode cM_init 9 = .ok (.putfield 7, 3) := by decide +kernel
theorem dM_init_12 : decode cM_init 12 = .ok (.aload_n 0, 1) := by decide +kernel
theorem dM_init_13 : decode cM_init 13 = .ok (.bipush 31, 2) := by decide +kernel
theorem dM_init_15 : decode cM_init 15 = .ok (.newarray .long, 2) := by decide +kernel
theorem dM_init_17 : decode cM_init 17 = .ok (.putfield 13, 3) := by decide +kernel
theorem dM_init_20 : decode cM_init 20 = .ok (.aload_n 0, 1) := by decide +kernel
theorem dM_init_21 : decode cM_init 21 = .ok (.bipush 31, 2) := by decide +kernel
theorem dM_init_23 : decode cM_init 23 = .ok (.newarray .long, 2) := by decide +kernel
theorem dM_init_25 : decode cM_init 25 = .ok (.putfield 16, 3) := by decide +kernel
theorem dM_init_28 : decode cM_init 28 = .ok (.aload_n 0, 1) := by decide +kernel
theorem dM_init_29 : decode cM_init 29 = .ok (.bipush 31, 2) := by decide +kernel
theorem dM_init_31 : decode cM_init 31 = .ok (.newarray .long, 2) := by decide +kernel
theorem dM_init_33 : decode cM_init 33 = .ok (.putfield 19, 3) := by decide +kernel
theorem dM_init_36 : decode cM_init 36 = .ok (.aload_n 0, 1) := by decide +kernel
theorem dM_init_37 : decode cM_init 37 = .ok (.sipush 252, 3) := by decide +kernel
theorem dM_init_40 : decode cM_init 40 = .ok (.newarray .int, 2) := by decide +kernel
theorem dM_init_42 : decode cM_init 42 = .ok (.putfield 22, 3) := by decide +kernel
theorem dM_init_45 : decode cM_init 45 = .ok (.aload_n 0, 1) := by decide +kernel
theorem dM_init_46 : decode cM_init 46 = .ok (.sipush 252, 3) := by decide +kernel
theorem dM_init_49 : decode cM_init 49 = .ok (.newarray .boolean, 2) := by decide +kernel
theorem dM_init_51 : decode cM_init 51 = .ok (.putfield 26, 3) := by decide +kernel
theorem dM_init_54 : decode cM_init 54 = .ok (.aload_n 0, 1) := by decide +kernel
theorem dM_init_55 : decode cM_init 55 = .ok (.bipush 21, 2) := by decide +kernel
theorem dM_init_57 : decode cM_init 57 = .ok (.newarray .int, 2) := by decide +kernel
theorem dM_init_59 : decode cM_init 59 = .ok (.putfield 30, 3) := by decide +kernel
theorem dM_init_62 : decode cM_init 62 = .ok (.aload_n 0, 1) := by decide +kernel
theorem dM_init_63 : decode cM_init 63 = .ok (.bipush 21, 2) := by decide +kernel
theorem dM_init_65 : decode cM_init 65 = .ok (.newarray .boolean, 2) := by decide +kernel
theorem dM_init_67 : decode cM_init 67 = .ok (.putfield 33, 3) := by decide +kernel
theorem dM_init_70 : decode cM_init 70 = .ok (.aload_n 0, 1) := by decide +kernel
theorem dM_init_71 : decode cM_init 71 = .ok (.bipush 21, 2) := by decide +kernel
theorem dM_init_73 : decode cM_init 73 = .ok (.newarray .long, 2) := by decide +kernel
theorem dM_init_75 : decode cM_init 75 = .ok (.putfield 36, 3) := by decide +kernel
theorem dM_init_78 : decode cM_init 78 = .ok (.return_, 1) := by decide +kernel
theorem dM_thrown_0 : decode cM_thrown 0 = .ok (.aload_n 0, 1) := by decide +kernel
theorem dM_thrown_1 : decode cM_thrown 1 = .ok (.getfield 39, 3) := by decide +kernel
theorem dM_thrown_4 : decode cM_thrown 4 = .ok (.ireturn, 1) := by decide +kernel
theorem dM_piece_0 : decode cM_piece 0 = .ok (.aload_n 0, 1) := by decide +kernel
theorem dM_piece_1 : decode cM_piece 1 = .ok (.iconst 0, 1) := by decide +kernel
theorem dM_piece_2 : decode cM_piece 2 = .ok (.putfield 39, 3) := by decide +kernel
theorem dM_piece_5 : decode cM_piece 5 = .ok (.iload_n 1, 1) := by decide +kernel
theorem dM_piece_6 : decode cM_piece 6 = .ok (.ifCond .lt 38, 3) := by decide +kernel
theorem dM_piece_9 : decode cM_piece 9 = .ok (.iload_n 1, 1) := by decide +kernel
theorem dM_piece_10 : decode cM_piece 10 = .ok (.iconst 2, 1) := by decide +kernel
theorem dM_piece_11 : decode cM_piece 11 = .ok (.if_icmp .gt 33, 3) := by decide +kernel
theorem dM_piece_14 : decode cM_piece 14 = .ok (.lload_n 2, 1) := by decide +kernel
theorem dM_piece_15 : decode cM_piece 15 = .ok (.lconst 0, 1) := by decide +kernel
theorem dM_piece_16 : decode cM_piece 16 = .ok (.lcmp, 1) := by decide +kernel
theorem dM_piece_17 : decode cM_piece 17 = .ok (.ifCond .lt 27, 3) := by decide +kernel
theorem dM_piece_20 : decode cM_piece 20 = .ok (.lload_n 2, 1) := by decide +kernel
theorem dM_piece_21 : decode cM_piece 21 = .ok (.ldc2_w 43, 3) := by decide +kernel
theorem dM_piece_24 : decode cM_piece 24 = .ok (.lcmp, 1) := by decide +kernel
theorem dM_piece_25 : decode cM_piece 25 = .ok (.ifCond .gt 19, 3) := by decide +kernel
theorem dM_piece_28 : decode cM_piece 28 = .ok (.lload 4, 2) := by decide +kernel
theorem dM_piece_30 : decode cM_piece 30 = .ok (.lconst 0, 1) := by decide +kernel
theorem dM_piece_31 : decode cM_piece 31 = .ok (.lcmp, 1) := by decide +kernel
theorem dM_piece_32 : decode cM_piece 32 = .ok (.ifCond .lt 12, 3) := by decide +kernel
theorem dM_piece_35 : decode cM_piece 35 = .ok (.lload 4, 2) := by decide +kernel
theorem dM_piece_37 : decode cM_piece 37 = .ok (.ldc2_w 43, 3) := by decide +kernel
theorem dM_piece_40 : decode cM_piece 40 = .ok (.lcmp, 1) := by decide +kernel
theorem dM_piece_41 : decode cM_piece 41 = .ok (.ifCond .le 6, 3) := by decide +kernel
theorem dM_piece_44 : decode cM_piece 44 = .ok (.bipush (-2), 2) := by decide +kernel
theorem dM_piece_46 : decode cM_piece 46 = .ok (.ireturn, 1) := by decide +kernel
theorem dM_piece_47 : decode cM_piece 47 = .ok (.aload_n 0, 1) := by decide +kernel
theorem dM_piece_48 : decode cM_piece 48 = .ok (.getfield 45, 3) := by decide +kernel
theorem dM_piece_51 : decode cM_piece 51 = .ok (.bipush 30, 2) := by decide +kernel
theorem dM_piece_53 : decode cM_piece 53 = .ok (.if_icmp .ne 6, 3) := by decide +kernel
theorem dM_piece_56 : decode cM_piece 56 = .ok (.bipush (-4), 2) := by decide +kernel
theorem dM_piece_58 : decode cM_piece 58 = .ok (.ireturn, 1) := by decide +kernel
theorem dM_piece_59 : decode cM_piece 59 = .ok (.aload_n 0, 1) := by decide +kernel
theorem dM_piece_60 : decode cM_piece 60 = .ok (.dup, 1) := by decide +kernel
theorem dM_piece_61 : decode cM_piece 61 = .ok (.getfield 45, 3) := by decide +kernel
theorem dM_piece_64 : decode cM_piece 64 = .ok (.iconst 1, 1) := by decide +kernel
theorem dM_piece_65 : decode cM_piece 65 = .ok (.iadd, 1) := by decide +kernel
theorem dM_piece_66 : decode cM_piece 66 = .ok (.putfield 45, 3) := by decide +kernel
theorem dM_piece_69 : decode cM_piece 69 = .ok (.aload_n 0, 1) := by decide +kernel
theorem dM_piece_70 : decode cM_piece 70 = .ok (.getfield 7, 3) := by decide +kernel
theorem dM_piece_73 : decode cM_piece 73 = .ok (.aload_n 0, 1) := by decide +kernel
theorem dM_piece_74 : decode cM_piece 74 = .ok (.getfield 45, 3) := by decide +kernel
theorem dM_piece_77 : decode cM_piece 77 = .ok (.lload_n 2, 1) := by decide +kernel
theorem dM_piece_78 : decode cM_piece 78 = .ok (.lastore, 1) := by decide +kernel
theorem dM_piece_79 : decode cM_piece 79 = .ok (.aload_n 0, 1) := by decide +kernel
theorem dM_piece_80 : decode cM_piece 80 = .ok (.getfield 13, 3) := by decide +kernel
theorem dM_piece_83 : decode cM_piece 83 = .ok (.aload_n 0, 1) := by decide +kernel
theorem dM_piece_84 : decode cM_piece 84 = .ok (.getfield 45, 3) := by decide +kernel
theorem dM_piece_87 : decode cM_piece 87 = .ok (.lload 4, 2) := by decide +kernel
theorem dM_piece_89 : decode cM_piece 89 = .ok (.lastore, 1) := by decide +kernel
theorem dM_piece_90 : decode cM_piece 90 = .ok (.aload_n 0, 1) := by decide +kernel
theorem dM_piece_91 : decode cM_piece 91 = .ok (.getfield 16, 3) := by decide +kernel
theorem dM_piece_94 : decode cM_piece 94 = .ok (.aload_n 0, 1) := by decide +kernel
theorem dM_piece_95 : decode cM_piece 95 = .ok (.getfield 45, 3) := by decide +kernel
theorem dM_piece_98 : decode cM_piece 98 = .ok (.lconst 0, 1) := by decide +kernel
theorem dM_piece_99 : decode cM_piece 99 = .ok (.lastore, 1) := by decide +kernel
theorem dM_piece_100 : decode cM_piece 100 = .ok (.aload_n 0, 1) := by decide +kernel
theorem dM_piece_101 : decode cM_piece 101 = .ok (.getfield 19, 3) := by decide +kernel
theorem dM_piece_104 : decode cM_piece 104 = .ok (.aload_n 0, 1) := by decide +kernel
theorem dM_piece_105 : decode cM_piece 105 = .ok (.getfield 45, 3) := by decide +kernel
theorem dM_piece_108 : decode cM_piece 108 = .ok (.lconst 1, 1) := by decide +kernel
theorem dM_piece_109 : decode cM_piece 109 = .ok (.lastore, 1) := by decide +kernel
theorem dM_piece_110 : decode cM_piece 110 = .ok (.aload_n 0, 1) := by decide +kernel
theorem dM_piece_111 : decode cM_piece 111 = .ok (.getfield 45, 3) := by decide +kernel
theorem dM_piece_114 : decode cM_piece 114 = .ok (.ireturn, 1) := by decide +kernel
theorem dM_chain_0 : decode cM_chain 0 = .ok (.aload_n 0, 1) := by decide +kernel
theorem dM_chain_1 : decode cM_chain 1 = .ok (.iconst 0, 1) := by decide +kernel
theorem dM_chain_2 : decode cM_chain 2 = .ok (.putfield 39, 3) := by decide +kernel
theorem dM_chain_5 : decode cM_chain 5 = .ok (.aload_n 0, 1) := by decide +kernel
theorem dM_chain_6 : decode cM_chain 6 = .ok (.getfield 48, 3) := by decide +kernel
theorem dM_chain_9 : decode cM_chain 9 = .ok (.bipush 20, 2) := by decide +kernel
theorem dM_chain_11 : decode cM_chain 11 = .ok (.if_icmp .ne 6, 3) := by decide +kernel
theorem dM_chain_14 : decode cM_chain 14 = .ok (.bipush (-4), 2) := by decide +kernel
theorem dM_chain_16 : decode cM_chain 16 = .ok (.ireturn, 1) := by decide +kernel
theorem dM_chain_17 : decode cM_chain 17 = .ok (.aload_n 0, 1) := by decide +kernel
theorem dM_chain_18 : decode cM_chain 18 = .ok (.dup, 1) := by decide +kernel
theorem dM_chain_19 : decode cM_chain 19 = .ok (.getfield 48, 3) := by decide +kernel
theorem dM_chain_22 : decode cM_chain 22 = .ok (.iconst 1, 1) := by decide +kernel
theorem dM_chain_23 : decode cM_chain 23 = .ok (.iadd, 1) := by decide +kernel
theorem dM_chain_24 : decode cM_chain 24 = .ok (.putfield 48, 3) := by decide +kernel
theorem dM_chain_27 : decode cM_chain 27 = .ok (.aload_n 0, 1) := by decide +kernel
theorem dM_chain_28 : decode cM_chain 28 = .ok (.getfield 48, 3) := by decide +kernel
theorem dM_chain_31 : decode cM_chain 31 = .ok (.ireturn, 1) := by decide +kernel
theorem dM_noChain_0 : decode cM_noChain 0 = .ok (.iload_n 1, 1) := by decide +kernel
theorem dM_noChain_1 : decode cM_noChain 1 = .ok (.iconst 1, 1) := by decide +kernel
theorem dM_noChain_2 : decode cM_noChain 2 = .ok (.if_icmp .lt 11, 3) := by decide +kernel
theorem dM_noChain_5 : decode cM_noChain 5 = .ok (.iload_n 1, 1) := by decide +kernel
theorem dM_noChain_6 : decode cM_noChain 6 = .ok (.aload_n 0, 1) := by decide +kernel
theorem dM_noChain_7 : decode cM_noChain 7 = .ok (.getfield 48, 3) := by decide +kernel
theorem dM_noChain_10 : decode cM_noChain 10 = .ok (.if_icmp .le 7, 3) := by decide +kernel
theorem dM_noChain_13 : decode cM_noChain 13 = .ok (.iconst 1, 1) := by decide +kernel
theorem dM_noChain_14 : decode cM_noChain 14 = .ok (.goto 4, 3) := by decide +kernel
theorem dM_noChain_17 : decode cM_noChain 17 = .ok (.iconst 0, 1) := by decide +kernel
theorem dM_noChain_18 : decode cM_noChain 18 = .ok (.ireturn, 1) := by decide +kernel
theorem dM_isEmpty_0 : decode cM_isEmpty 0 = .ok (.aload_n 0, 1) := by decide +kernel
theorem dM_isEmpty_1 : decode cM_isEmpty 1 = .ok (.iload_n 1, 1) := by decide +kernel
theorem dM_isEmpty_2 : decode cM_isEmpty 2 = .ok (.invokevirtual 51, 3) := by decide +kernel
theorem dM_isEmpty_5 : decode cM_isEmpty 5 = .ok (.ifCond .ne 12, 3) := by decide +kernel
theorem dM_isEmpty_8 : decode cM_isEmpty 8 = .ok (.aload_n 0, 1) := by decide +kernel
theorem dM_isEmpty_9 : decode cM_isEmpty 9 = .ok (.getfield 30, 3) := by decide +kernel
theorem dM_isEmpty_12 : decode cM_isEmpty 12 = .ok (.iload_n 1, 1) := by decide +kernel
theorem dM_isEmpty_13 : decode cM_isEmpty 13 = .ok (.iaload, 1) := by decide +kernel
theorem dM_isEmpty_14 : decode cM_isEmpty 14 = .ok (.ifCond .ne 7, 3) := by decide +kernel
theorem dM_isEmpty_17 : decode cM_isEmpty 17 = .ok (.iconst 1, 1) := by decide +kernel
theorem dM_isEmpty_18 : decode cM_isEmpty 18 = .ok (.goto 4, 3) := by decide +kernel
theorem dM_isEmpty_21 : decode cM_isEmpty 21 = .ok (.iconst 0, 1) := by decide +kernel
theorem dM_isEmpty_22 : decode cM_isEmpty 22 = .ok (.ireturn, 1) := by decide +kernel
theorem dM_noPiece_0 : decode cM_noPiece 0 = .ok (.iload_n 1, 1) := by decide +kernel
theorem dM_noPiece_1 : decode cM_noPiece 1 = .ok (.iconst 1, 1) := by decide +kernel
theorem dM_noPiece_2 : decode cM_noPiece 2 = .ok (.if_icmp .lt 11, 3) := by decide +kernel
theorem dM_noPiece_5 : decode cM_noPiece 5 = .ok (.iload_n 1, 1) := by decide +kernel
theorem dM_noPiece_6 : decode cM_noPiece 6 = .ok (.aload_n 0, 1) := by decide +kernel
theorem dM_noPiece_7 : decode cM_noPiece 7 = .ok (.getfield 45, 3) := by decide +kernel
theorem dM_noPiece_10 : decode cM_noPiece 10 = .ok (.if_icmp .le 7, 3) := by decide +kernel
theorem dM_noPiece_13 : decode cM_noPiece 13 = .ok (.iconst 1, 1) := by decide +kernel
theorem dM_noPiece_14 : decode cM_noPiece 14 = .ok (.goto 4, 3) := by decide +kernel
theorem dM_noPiece_17 : decode cM_noPiece 17 = .ok (.iconst 0, 1) := by decide +kernel
theorem dM_noPiece_18 : decode cM_noPiece 18 = .ok (.ireturn, 1) := by decide +kernel
theorem dM_add_0 : decode cM_add 0 = .ok (.aload_n 0, 1) := by decide +kernel
theorem dM_add_1 : decode cM_add 1 = .ok (.iconst 0, 1) := by decide +kernel
theorem dM_add_2 : decode cM_add 2 = .ok (.putfield 39, 3) := by decide +kernel
theorem dM_add_5 : decode cM_add 5 = .ok (.aload_n 0, 1) := by decide +kernel
theorem dM_add_6 : decode cM_add 6 = .ok (.iload_n 1, 1) := by decide +kernel
theorem dM_add_7 : decode cM_add 7 = .ok (.invokevirtual 51, 3) := by decide +kernel
theorem dM_add_10 : decode cM_add 10 = .ok (.ifCond .ne 11, 3) := by decide +kernel
theorem dM_add_13 : decode cM_add 13 = .ok (.aload_n 0, 1) := by decide +kernel
theorem dM_add_14 : decode cM_add 14 = .ok (.iload_n 2, 1) := by decide +kernel
theorem dM_add_15 : decode cM_add 15 = .ok (.invokevirtual 55, 3) := by decide +kernel
theorem dM_add_18 : decode cM_add 18 = .ok (.ifCond .eq 5, 3) := by decide +kernel
theorem dM_add_21 : decode cM_add 21 = .ok (.iconst (-1), 1) := by decide +kernel
theorem dM_add_22 : decode cM_add 22 = .ok (.ireturn, 1) := by decide +kernel
theorem dM_add_23 : decode cM_add 23 = .ok (.aload_n 0, 1) := by decide +kernel
theorem dM_add_24 : decode cM_add 24 = .ok (.getfield 30, 3) := by decide +kernel
theorem dM_add_27 : decode cM_add 27 = .ok (.iload_n 1, 1) := by decide +kernel
theorem dM_add_28 : decode cM_add 28 = .ok (.iaload, 1) := by decide +kernel
theorem dM_add_29 : decode cM_add 29 = .ok (.ifCond .eq 7, 3) := by decide +kernel
theorem dM_add_32 : decode cM_add 32 = .ok (.iload_n 3, 1) := by decide +kernel
theorem dM_add_33 : decode cM_add 33 = .ok (.ifCond .ne 7, 3) := by decide +kernel
theorem dM_add_36 : decode cM_add 36 = .ok (.iconst 1, 1) := by decide +kernel
theorem dM_add_37 : decode cM_add 37 = .ok (.goto 4, 3) := by decide +kernel
theorem dM_add_40 : decode cM_add 40 = .ok (.iconst 0, 1) := by decide +kernel
theorem dM_add_41 : decode cM_add 41 = .ok (.istore 4, 2) := by decide +kernel
theorem dM_add_43 : decode cM_add 43 = .ok (.iload 4, 2) := by decide +kernel
theorem dM_add_45 : decode cM_add 45 = .ok (.ifCond .eq 17, 3) := by decide +kernel
theorem dM_add_48 : decode cM_add 48 = .ok (.aload_n 0, 1) := by decide +kernel
theorem dM_add_49 : decode cM_add 49 = .ok (.getfield 7, 3) := by decide +kernel
theorem dM_add_52 : decode cM_add 52 = .ok (.iload_n 2, 1) := by decide +kernel
theorem dM_add_53 : decode cM_add 53 = .ok (.laload, 1) := by decide +kernel
theorem dM_add_54 : decode cM_add 54 = .ok (.lconst 0, 1) := by decide +kernel
theorem dM_add_55 : decode cM_add 55 = .ok (.lcmp, 1) := by decide +kernel
theorem dM_add_56 : decode cM_add 56 = .ok (.ifCond .ne 6, 3) := by decide +kernel
theorem dM_add_59 : decode cM_add 59 = .ok (.bipush (-3), 2) := by decide +kernel
theorem dM_add_61 : decode cM_add 61 = .ok (.ireturn, 1) := by decide +kernel
theorem dM_add_62 : decode cM_add 62 = .ok (.aload_n 0, 1) := by decide +kernel
theorem dM_add_63 : decode cM_add 63 = .ok (.getfield 30, 3) := by decide +kernel
theorem dM_add_66 : decode cM_add 66 = .ok (.iload_n 1, 1) := by decide +kernel
theorem dM_add_67 : decode cM_add 67 = .ok (.iaload, 1) := by decide +kernel
theorem dM_add_68 : decode cM_add 68 = .ok (.bipush 12, 2) := by decide +kernel
theorem dM_add_70 : decode cM_add 70 = .ok (.if_icmp .ne 6, 3) := by decide +kernel
theorem dM_add_73 : decode cM_add 73 = .ok (.bipush (-4), 2) := by decide +kernel
theorem dM_add_75 : decode cM_add 75 = .ok (.ireturn, 1) := by decide +kernel
theorem dM_add_76 : decode cM_add 76 = .ok (.iconst 0, 1) := by decide +kernel
theorem dM_add_77 : decode cM_add 77 = .ok (.istore 5, 2) := by decide +kernel
theorem dM_add_79 : decode cM_add 79 = .ok (.iload 5, 2) := by decide +kernel
theorem dM_add_81 : decode cM_add 81 = .ok (.aload_n 0, 1) := by decide +kernel
theorem dM_add_82 : decode cM_add 82 = .ok (.getfield 30, 3) := by decide +kernel
theorem dM_add_85 : decode cM_add 85 = .ok (.iload_n 1, 1) := by decide +kernel
theorem dM_add_86 : decode cM_add 86 = .ok (.iaload, 1) := by decide +kernel
theorem dM_add_87 : decode cM_add 87 = .ok (.if_icmp .ge 27, 3) := by decide +kernel
theorem dM_add_90 : decode cM_add 90 = .ok (.aload_n 0, 1) := by decide +kernel
theorem dM_add_91 : decode cM_add 91 = .ok (.getfield 22, 3) := by decide +kernel
theorem dM_add_94 : decode cM_add 94 = .ok (.bipush 12, 2) := by decide +kernel
theorem dM_add_96 : decode cM_add 96 = .ok (.iload_n 1, 1) := by decide +kernel
theorem dM_add_97 : decode cM_add 97 = .ok (.imul, 1) := by decide +kernel
theorem dM_add_98 : decode cM_add 98 = .ok (.iload 5, 2) := by decide +kernel
theorem dM_add_100 : decode cM_add 100 = .ok (.iadd, 1) := by decide +kernel
theorem dM_add_101 : decode cM_add 101 = .ok (.iaload, 1) := by decide +kernel
theorem dM_add_102 : decode cM_add 102 = .ok (.iload_n 2, 1) := by decide +kernel
theorem dM_add_103 : decode cM_add 103 = .ok (.if_icmp .ne 5, 3) := by decide +kernel
theorem dM_add_106 : decode cM_add 106 = .ok (.iconst 0, 1) := by decide +kernel
theorem dM_add_107 : decode cM_add 107 = .ok (.ireturn, 1) := by decide +kernel
theorem dM_add_108 : decode cM_add 108 = .ok (.iinc 5 1, 3) := by decide +kernel
theorem dM_add_111 : decode cM_add 111 = .ok (.goto (-32), 3) := by decide +kernel
theorem dM_add_114 : decode cM_add 114 = .ok (.aload_n 0, 1) := by decide +kernel
theorem dM_add_115 : decode cM_add 115 = .ok (.getfield 22, 3) := by decide +kernel
theorem dM_add_118 : decode cM_add 118 = .ok (.bipush 12, 2) := by decide +kernel
theorem dM_add_120 : decode cM_add 120 = .ok (.iload_n 1, 1) := by decide +kernel
theorem dM_add_121 : decode cM_add 121 = .ok (.imul, 1) := by decide +kernel
theorem dM_add_122 : decode cM_add 122 = .ok (.aload_n 0, 1) := by decide +kernel
theorem dM_add_123 : decode cM_add 123 = .ok (.getfield 30, 3) := by decide +kernel
theorem dM_add_126 : decode cM_add 126 = .ok (.iload_n 1, 1) := by decide +kernel
theorem dM_add_127 : decode cM_add 127 = .ok (.iaload, 1) := by decide +kernel
theorem dM_add_128 : decode cM_add 128 = .ok (.iadd, 1) := by decide +kernel
theorem dM_add_129 : decode cM_add 129 = .ok (.iload_n 2, 1) := by decide +kernel
theorem dM_add_130 : decode cM_add 130 = .ok (.iastore, 1) := by decide +kernel
theorem dM_add_131 : decode cM_add 131 = .ok (.aload_n 0, 1) := by decide +kernel
theorem dM_add_132 : decode cM_add 132 = .ok (.getfield 26, 3) := by decide +kernel
theorem dM_add_135 : decode cM_add 135 = .ok (.bipush 12, 2) := by decide +kernel
theorem dM_add_137 : decode cM_add 137 = .ok (.iload_n 1, 1) := by decide +kernel
theorem dM_add_138 : decode cM_add 138 = .ok (.imul, 1) := by decide +kernel
theorem dM_add_139 : decode cM_add 139 = .ok (.aload_n 0, 1) := by decide +kernel
theorem dM_add_140 : decode cM_add 140 = .ok (.getfield 30, 3) := by decide +kernel
theorem dM_add_143 : decode cM_add 143 = .ok (.iload_n 1, 1) := by decide +kernel
theorem dM_add_144 : decode cM_add 144 = .ok (.iaload, 1) := by decide +kernel
theorem dM_add_145 : decode cM_add 145 = .ok (.iadd, 1) := by decide +kernel
theorem dM_add_146 : decode cM_add 146 = .ok (.iload 4, 2) := by decide +kernel
theorem dM_add_148 : decode cM_add 148 = .ok (.ifCond .ne 7, 3) := by decide +kernel
theorem dM_add_151 : decode cM_add 151 = .ok (.iconst 1, 1) := by decide +kernel
theorem dM_add_152 : decode cM_add 152 = .ok (.goto 4, 3) := by decide +kernel
theorem dM_add_155 : decode cM_add 155 = .ok (.iconst 0, 1) := by decide +kernel
theorem dM_add_156 : decode cM_add 156 = .ok (.bastore, 1) := by decide +kernel
theorem dM_add_157 : decode cM_add 157 = .ok (.aload_n 0, 1) := by decide +kernel
theorem dM_add_158 : decode cM_add 158 = .ok (.getfield 30, 3) := by decide +kernel
theorem dM_add_161 : decode cM_add 161 = .ok (.iload_n 1, 1) := by decide +kernel
theorem dM_add_162 : decode cM_add 162 = .ok (.dup2, 1) := by decide +kernel
theorem dM_add_163 : decode cM_add 163 = .ok (.iaload, 1) := by decide +kernel
theorem dM_add_164 : decode cM_add 164 = .ok (.iconst 1, 1) := by decide +kernel
theorem dM_add_165 : decode cM_add 165 = .ok (.iadd, 1) := by decide +kernel
theorem dM_add_166 : decode cM_add 166 = .ok (.iastore, 1) := by decide +kernel
theorem dM_add_167 : decode cM_add 167 = .ok (.iconst 1, 1) := by decide +kernel
theorem dM_add_168 : decode cM_add 168 = .ok (.ireturn, 1) := by decide +kernel
theorem dM_longPeriod_0 : decode cM_longPeriod 0 = .ok (.aload_n 0, 1) := by decide +kernel
theorem dM_longPeriod_1 : decode cM_longPeriod 1 = .ok (.getfield 7, 3) := by decide +kernel
theorem dM_longPeriod_4 : decode cM_longPeriod 4 = .ok (.iload_n 1, 1) := by decide +kernel
theorem dM_longPeriod_5 : decode cM_longPeriod 5 = .ok (.laload, 1) := by decide +kernel
theorem dM_longPeriod_6 : decode cM_longPeriod 6 = .ok (.aload_n 0, 1) := by decide +kernel
theorem dM_longPeriod_7 : decode cM_longPeriod 7 = .ok (.getfield 19, 3) := by decide +kernel
theorem dM_longPeriod_10 : decode cM_longPeriod 10 = .ok (.iload_n 1, 1) := by decide +kernel
theorem dM_longPeriod_11 : decode cM_longPeriod 11 = .ok (.laload, 1) := by decide +kernel
theorem dM_longPeriod_12 : decode cM_longPeriod 12 = .ok (.aload_n 0, 1) := by decide +kernel
theorem dM_longPeriod_13 : decode cM_longPeriod 13 = .ok (.getfield 16, 3) := by decide +kernel
theorem dM_longPeriod_16 : decode cM_longPeriod 16 = .ok (.iload_n 1, 1) := by decide +kernel
theorem dM_longPeriod_17 : decode cM_longPeriod 17 = .ok (.laload, 1) := by decide +kernel
theorem dM_longPeriod_18 : decode cM_longPeriod 18 = .ok (.ladd, 1) := by decide +kernel
theorem dM_longPeriod_19 : decode cM_longPeriod 19 = .ok (.lmul, 1) := by decide +kernel
theorem dM_longPeriod_20 : decode cM_longPeriod 20 = .ok (.aload_n 0, 1) := by decide +kernel
theorem dM_longPeriod_21 : decode cM_longPeriod 21 = .ok (.getfield 19, 3) := by decide +kernel
theorem dM_longPeriod_24 : decode cM_longPeriod 24 = .ok (.iload_n 1, 1) := by decide +kernel
theorem dM_longPeriod_25 : decode cM_longPeriod 25 = .ok (.laload, 1) := by decide +kernel
theorem dM_longPeriod_26 : decode cM_longPeriod 26 = .ok (.ladd, 1) := by decide +kernel
theorem dM_longPeriod_27 : decode cM_longPeriod 27 = .ok (.lconst 1, 1) := by decide +kernel
theorem dM_longPeriod_28 : decode cM_longPeriod 28 = .ok (.lsub, 1) := by decide +kernel
theorem dM_longPeriod_29 : decode cM_longPeriod 29 = .ok (.aload_n 0, 1) := by decide +kernel
theorem dM_longPeriod_30 : decode cM_longPeriod 30 = .ok (.getfield 19, 3) := by decide +kernel
theorem dM_longPeriod_33 : decode cM_longPeriod 33 = .ok (.iload_n 1, 1) := by decide +kernel
theorem dM_longPeriod_34 : decode cM_longPeriod 34 = .ok (.laload, 1) := by decide +kernel
theorem dM_longPeriod_35 : decode cM_longPeriod 35 = .ok (.ldiv, 1) := by decide +kernel
theorem dM_longPeriod_36 : decode cM_longPeriod 36 = .ok (.lreturn, 1) := by decide +kernel
theorem dM_brings_0 : decode cM_brings 0 = .ok (.aload_n 0, 1) := by decide +kernel
theorem dM_brings_1 : decode cM_brings 1 = .ok (.getfield 22, 3) := by decide +kernel
theorem dM_brings_4 : decode cM_brings 4 = .ok (.bipush 12, 2) := by decide +kernel
theorem dM_brings_6 : decode cM_brings 6 = .ok (.iload_n 1, 1) := by decide +kernel
theorem dM_brings_7 : decode cM_brings 7 = .ok (.imul, 1) := by decide +kernel
theorem dM_brings_8 : decode cM_brings 8 = .ok (.iload_n 2, 1) := by decide +kernel
theorem dM_brings_9 : decode cM_brings 9 = .ok (.iadd, 1) := by decide +kernel
theorem dM_brings_10 : decode cM_brings 10 = .ok (.iaload, 1) := by decide +kernel
theorem dM_brings_11 : decode cM_brings 11 = .ok (.istore_n 3, 1) := by decide +kernel
theorem dM_brings_12 : decode cM_brings 12 = .ok (.aload_n 0, 1) := by decide +kernel
theorem dM_brings_13 : decode cM_brings 13 = .ok (.getfield 13, 3) := by decide +kernel
theorem dM_brings_16 : decode cM_brings 16 = .ok (.iload_n 3, 1) := by decide +kernel
theorem dM_brings_17 : decode cM_brings 17 = .ok (.laload, 1) := by decide +kernel
theorem dM_brings_18 : decode cM_brings 18 = .ok (.aload_n 0, 1) := by decide +kernel
theorem dM_brings_19 : decode cM_brings 19 = .ok (.getfield 26, 3) := by decide +kernel
theorem dM_brings_22 : decode cM_brings 22 = .ok (.bipush 12, 2) := by decide +kernel
theorem dM_brings_24 : decode cM_brings 24 = .ok (.iload_n 1, 1) := by decide +kernel
theorem dM_brings_25 : decode cM_brings 25 = .ok (.imul, 1) := by decide +kernel
theorem dM_brings_26 : decode cM_brings 26 = .ok (.iload_n 2, 1) := by decide +kernel
theorem dM_brings_27 : decode cM_brings 27 = .ok (.iadd, 1) := by decide +kernel
theorem dM_brings_28 : decode cM_brings 28 = .ok (.baload, 1) := by decide +kernel
theorem dM_brings_29 : decode cM_brings 29 = .ok (.ifCond .eq 7, 3) := by decide +kernel
theorem dM_brings_32 : decode cM_brings 32 = .ok (.lconst 0, 1) := by decide +kernel
theorem dM_brings_33 : decode cM_brings 33 = .ok (.goto 8, 3) := by decide +kernel
theorem dM_brings_36 : decode cM_brings 36 = .ok (.aload_n 0, 1) := by decide +kernel
theorem dM_brings_37 : decode cM_brings 37 = .ok (.iload_n 3, 1) := by decide +kernel
theorem dM_brings_38 : decode cM_brings 38 = .ok (.invokevirtual 58, 3) := by decide +kernel
theorem dM_brings_41 : decode cM_brings 41 = .ok (.ladd, 1) := by decide +kernel
theorem dM_brings_42 : decode cM_brings 42 = .ok (.lreturn, 1) := by decide +kernel
theorem dM_reaction_0 : decode cM_reaction 0 = .ok (.lconst 0, 1) := by decide +kernel
theorem dM_reaction_1 : decode cM_reaction 1 = .ok (.lstore_n 2, 1) := by decide +kernel
theorem dM_reaction_2 : decode cM_reaction 2 = .ok (.iconst 0, 1) := by decide +kernel
theorem dM_reaction_3 : decode cM_reaction 3 = .ok (.istore 4, 2) := by decide +kernel
theorem dM_reaction_5 : decode cM_reaction 5 = .ok (.iload 4, 2) := by decide +kernel
theorem dM_reaction_7 : decode cM_reaction 7 = .ok (.aload_n 0, 1) := by decide +kernel
theorem dM_reaction_8 : decode cM_reaction 8 = .ok (.getfield 30, 3) := by decide +kernel
theorem dM_reaction_11 : decode cM_reaction 11 = .ok (.iload_n 1, 1) := by decide +kernel
theorem dM_reaction_12 : decode cM_reaction 12 = .ok (.iaload, 1) := by decide +kernel
theorem dM_reaction_13 : decode cM_reaction 13 = .ok (.if_icmp .ge 19, 3) := by decide +kernel
theorem dM_reaction_16 : decode cM_reaction 16 = .ok (.lload_n 2, 1) := by decide +kernel
theorem dM_reaction_17 : decode cM_reaction 17 = .ok (.aload_n 0, 1) := by decide +kernel
theorem dM_reaction_18 : decode cM_reaction 18 = .ok (.iload_n 1, 1) := by decide +kernel
theorem dM_reaction_19 : decode cM_reaction 19 = .ok (.iload 4, 2) := by decide +kernel
theorem dM_reaction_21 : decode cM_reaction 21 = .ok (.invokevirtual 62, 3) := by decide +kernel
theorem dM_reaction_24 : decode cM_reaction 24 = .ok (.ladd, 1) := by decide +kernel
theorem dM_reaction_25 : decode cM_reaction 25 = .ok (.lstore_n 2, 1) := by decide +kernel
theorem dM_reaction_26 : decode cM_reaction 26 = .ok (.iinc 4 1, 3) := by decide +kernel
theorem dM_reaction_29 : decode cM_reaction 29 = .ok (.goto (-24), 3) := by decide +kernel
theorem dM_reaction_32 : decode cM_reaction 32 = .ok (.lload_n 2, 1) := by decide +kernel
theorem dM_reaction_33 : decode cM_reaction 33 = .ok (.lreturn, 1) := by decide +kernel
theorem dM_age_0 : decode cM_age 0 = .ok (.iconst 0, 1) := by decide +kernel
theorem dM_age_1 : decode cM_age 1 = .ok (.istore_n 2, 1) := by decide +kernel
theorem dM_age_2 : decode cM_age 2 = .ok (.iconst 0, 1) := by decide +kernel
theorem dM_age_3 : decode cM_age 3 = .ok (.istore_n 3, 1) := by decide +kernel
theorem dM_age_4 : decode cM_age 4 = .ok (.iload_n 3, 1) := by decide +kernel
theorem dM_age_5 : decode cM_age 5 = .ok (.aload_n 0, 1) := by decide +kernel
theorem dM_age_6 : decode cM_age 6 = .ok (.getfield 30, 3) := by decide +kernel
theorem dM_age_9 : decode cM_age 9 = .ok (.iload_n 1, 1) := by decide +kernel
theorem dM_age_10 : decode cM_age 10 = .ok (.iaload, 1) := by decide +kernel
theorem dM_age_11 : decode cM_age 11 = .ok (.if_icmp .ge 29, 3) := by decide +kernel
theorem dM_age_14 : decode cM_age 14 = .ok (.aload_n 0, 1) := by decide +kernel
theorem dM_age_15 : decode cM_age 15 = .ok (.getfield 26, 3) := by decide +kernel
theorem dM_age_18 : decode cM_age 18 = .ok (.bipush 12, 2) := by decide +kernel
theorem dM_age_20 : decode cM_age 20 = .ok (.iload_n 1, 1) := by decide +kernel
theorem dM_age_21 : decode cM_age 21 = .ok (.imul, 1) := by decide +kernel
theorem dM_age_22 : decode cM_age 22 = .ok (.iload_n 3, 1) := by decide +kernel
theorem dM_age_23 : decode cM_age 23 = .ok (.iadd, 1) := by decide +kernel
theorem dM_age_24 : decode cM_age 24 = .ok (.baload, 1) := by decide +kernel
theorem dM_age_25 : decode cM_age 25 = .ok (.ifCond .eq 7, 3) := by decide +kernel
theorem dM_age_28 : decode cM_age 28 = .ok (.iload_n 2, 1) := by decide +kernel
theorem dM_age_29 : decode cM_age 29 = .ok (.goto 4, 3) := by decide +kernel
theorem dM_age_32 : decode cM_age 32 = .ok (.iload_n 3, 1) := by decide +kernel
theorem dM_age_33 : decode cM_age 33 = .ok (.istore_n 2, 1) := by decide +kernel
theorem dM_age_34 : decode cM_age 34 = .ok (.iinc 3 1, 3) := by decide +kernel
theorem dM_age_37 : decode cM_age 37 = .ok (.goto (-33), 3) := by decide +kernel
theorem dM_age_40 : decode cM_age 40 = .ok (.aload_n 0, 1) := by decide +kernel
theorem dM_age_41 : decode cM_age 41 = .ok (.iload_n 1, 1) := by decide +kernel
theorem dM_age_42 : decode cM_age 42 = .ok (.invokevirtual 66, 3) := by decide +kernel
theorem dM_age_45 : decode cM_age 45 = .ok (.aload_n 0, 1) := by decide +kernel
theorem dM_age_46 : decode cM_age 46 = .ok (.aload_n 0, 1) := by decide +kernel
theorem dM_age_47 : decode cM_age 47 = .ok (.getfield 22, 3) := by decide +kernel
theorem dM_age_50 : decode cM_age 50 = .ok (.bipush 12, 2) := by decide +kernel
theorem dM_age_52 : decode cM_age 52 = .ok (.iload_n 1, 1) := by decide +kernel
theorem dM_age_53 : decode cM_age 53 = .ok (.imul, 1) := by decide +kernel
theorem dM_age_54 : decode cM_age 54 = .ok (.iaload, 1) := by decide +kernel
theorem dM_age_55 : decode cM_age 55 = .ok (.invokevirtual 58, 3) := by decide +kernel
theorem dM_age_58 : decode cM_age 58 = .ok (.lsub, 1) := by decide +kernel
theorem dM_age_59 : decode cM_age 59 = .ok (.aload_n 0, 1) := by decide +kernel
theorem dM_age_60 : decode cM_age 60 = .ok (.aload_n 0, 1) := by decide +kernel
theorem dM_age_61 : decode cM_age 61 = .ok (.getfield 22, 3) := by decide +kernel
theorem dM_age_64 : decode cM_age 64 = .ok (.bipush 12, 2) := by decide +kernel
theorem dM_age_66 : decode cM_age 66 = .ok (.iload_n 1, 1) := by decide +kernel
theorem dM_age_67 : decode cM_age 67 = .ok (.imul, 1) := by decide +kernel
theorem dM_age_68 : decode cM_age 68 = .ok (.iload_n 2, 1) := by decide +kernel
theorem dM_age_69 : decode cM_age 69 = .ok (.iadd, 1) := by decide +kernel
theorem dM_age_70 : decode cM_age 70 = .ok (.iaload, 1) := by decide +kernel
theorem dM_age_71 : decode cM_age 71 = .ok (.invokevirtual 58, 3) := by decide +kernel
theorem dM_age_74 : decode cM_age 74 = .ok (.ladd, 1) := by decide +kernel
theorem dM_age_75 : decode cM_age 75 = .ok (.lreturn, 1) := by decide +kernel
theorem dM_worst_0 : decode cM_worst 0 = .ok (.aload_n 0, 1) := by decide +kernel
theorem dM_worst_1 : decode cM_worst 1 = .ok (.iconst 0, 1) := by decide +kernel
theorem dM_worst_2 : decode cM_worst 2 = .ok (.putfield 39, 3) := by decide +kernel
theorem dM_worst_5 : decode cM_worst 5 = .ok (.aload_n 0, 1) := by decide +kernel
theorem dM_worst_6 : decode cM_worst 6 = .ok (.iload_n 1, 1) := by decide +kernel
theorem dM_worst_7 : decode cM_worst 7 = .ok (.invokevirtual 69, 3) := by decide +kernel
theorem dM_worst_10 : decode cM_worst 10 = .ok (.ifCond .eq 9, 3) := by decide +kernel
theorem dM_worst_13 : decode cM_worst 13 = .ok (.ldc2_w 72, 3) := by decide +kernel
theorem dM_worst_16 : decode cM_worst 16 = .ok (.goto 20, 3) := by decide +kernel
theorem dM_worst_19 : decode cM_worst 19 = .ok (.iload_n 2, 1) := by decide +kernel
theorem dM_worst_20 : decode cM_worst 20 = .ok (.ifCond .eq 11, 3) := by decide +kernel
theorem dM_worst_23 : decode cM_worst 23 = .ok (.aload_n 0, 1) := by decide +kernel
theorem dM_worst_24 : decode cM_worst 24 = .ok (.iload_n 1, 1) := by decide +kernel
theorem dM_worst_25 : decode cM_worst 25 = .ok (.invokevirtual 74, 3) := by decide +kernel
theorem dM_worst_28 : decode cM_worst 28 = .ok (.goto 8, 3) := by decide +kernel
theorem dM_worst_31 : decode cM_worst 31 = .ok (.aload_n 0, 1) := by decide +kernel
theorem dM_worst_32 : decode cM_worst 32 = .ok (.iload_n 1, 1) := by decide +kernel
theorem dM_worst_33 : decode cM_worst 33 = .ok (.invokevirtual 66, 3) := by decide +kernel
theorem dM_worst_36 : decode cM_worst 36 = .ok (.lreturn, 1) := by decide +kernel
theorem dM_best_0 : decode cM_best 0 = .ok (.aload_n 0, 1) := by decide +kernel
theorem dM_best_1 : decode cM_best 1 = .ok (.iconst 0, 1) := by decide +kernel
theorem dM_best_2 : decode cM_best 2 = .ok (.putfield 39, 3) := by decide +kernel
theorem dM_best_5 : decode cM_best 5 = .ok (.aload_n 0, 1) := by decide +kernel
theorem dM_best_6 : decode cM_best 6 = .ok (.iload_n 1, 1) := by decide +kernel
theorem dM_best_7 : decode cM_best 7 = .ok (.invokevirtual 69, 3) := by decide +kernel
theorem dM_best_10 : decode cM_best 10 = .ok (.ifCond .eq 7, 3) := by decide +kernel
theorem dM_best_13 : decode cM_best 13 = .ok (.ldc2_w 72, 3) := by decide +kernel
theorem dM_best_16 : decode cM_best 16 = .ok (.lreturn, 1) := by decide +kernel
theorem dM_best_17 : decode cM_best 17 = .ok (.lconst 0, 1) := by decide +kernel
theorem dM_best_18 : decode cM_best 18 = .ok (.lstore_n 3, 1) := by decide +kernel
theorem dM_best_19 : decode cM_best 19 = .ok (.iload_n 2, 1) := by decide +kernel
theorem dM_best_20 : decode cM_best 20 = .ok (.ifCond .eq 7, 3) := by decide +kernel
