theorem dX2_init_0 : decode cX2_init 0 = .ok (.aload_n 0, 1) := by decide +kernel
theorem dX2_init_1 : decode cX2_init 1 = .ok (.invokespecial 1, 3) := by decide +kernel
theorem dX2_init_4 : decode cX2_init 4 = .ok (.aload_n 0, 1) := by decide +kernel
theorem dX2_init_5 : decode cX2_init 5 = .ok (.bipush 30, 2) := by decide +kernel
theorem dX2_init_7 : decode cX2_init 7 = .ok (.anewarray 9, 3) := by decide +kernel
theorem dX2_init_10 : decode cX2_init 10 = .ok (.putfield 11, 3) := by decide +kernel
theorem dX2_init_13 : decode cX2_init 13 = .ok (.aload_n 0, 1) := by decide +kernel
theorem dX2_init_14 : decode cX2_init 14 = .ok (.bipush 20, 2) := by decide +kernel
theorem dX2_init_16 : decode cX2_init 16 = .ok (.anewarray 15, 3) := by decide +kernel
theorem dX2_init_19 : decode cX2_init 19 = .ok (.putfield 17, 3) := by decide +kernel
theorem dX2_init_22 : decode cX2_init 22 = .ok (.aload_n 0, 1) := by decide +kernel
theorem dX2_init_23 : decode cX2_init 23 = .ok (.iconst 0, 1) := by decide +kernel
theorem dX2_init_24 : decode cX2_init 24 = .ok (.putfield 21, 3) := by decide +kernel
theorem dX2_init_27 : decode cX2_init 27 = .ok (.aload_n 0, 1) := by decide +kernel
theorem dX2_init_28 : decode cX2_init 28 = .ok (.iconst 0, 1) := by decide +kernel
theorem dX2_init_29 : decode cX2_init 29 = .ok (.putfield 25, 3) := by decide +kernel
theorem dX2_init_32 : decode cX2_init 32 = .ok (.return_, 1) := by decide +kernel
theorem dX2_piece_0 : decode cX2_piece 0 = .ok (.iload_n 1, 1) := by decide +kernel
theorem dX2_piece_1 : decode cX2_piece 1 = .ok (.ifCond .lt 8, 3) := by decide +kernel
theorem dX2_piece_4 : decode cX2_piece 4 = .ok (.iload_n 1, 1) := by decide +kernel
theorem dX2_piece_5 : decode cX2_piece 5 = .ok (.iconst 2, 1) := by decide +kernel
theorem dX2_piece_6 : decode cX2_piece 6 = .ok (.if_icmp .le 6, 3) := by decide +kernel
theorem dX2_piece_9 : decode cX2_piece 9 = .ok (.bipush (-2), 2) := by decide +kernel
theorem dX2_piece_11 : decode cX2_piece 11 = .ok (.ireturn, 1) := by decide +kernel
theorem dX2_piece_12 : decode cX2_piece 12 = .ok (.lload_n 2, 1) := by decide +kernel
theorem dX2_piece_13 : decode cX2_piece 13 = .ok (.lconst 0, 1) := by decide +kernel
theorem dX2_piece_14 : decode cX2_piece 14 = .ok (.lcmp, 1) := by decide +kernel
theorem dX2_piece_15 : decode cX2_piece 15 = .ok (.ifCond .lt 27, 3) := by decide +kernel
theorem dX2_piece_18 : decode cX2_piece 18 = .ok (.lload_n 2, 1) := by decide +kernel
theorem dX2_piece_19 : decode cX2_piece 19 = .ok (.ldc2_w 28, 3) := by decide +kernel
theorem dX2_piece_22 : decode cX2_piece 22 = .ok (.lcmp, 1) := by decide +kernel
theorem dX2_piece_23 : decode cX2_piece 23 = .ok (.ifCond .gt 19, 3) := by decide +kernel
theorem dX2_piece_26 : decode cX2_piece 26 = .ok (.lload 4, 2) := by decide +kernel
theorem dX2_piece_28 : decode cX2_piece 28 = .ok (.lconst 0, 1) := by decide +kernel
theorem dX2_piece_29 : decode cX2_piece 29 = .ok (.lcmp, 1) := by decide +kernel
theorem dX2_piece_30 : decode cX2_piece 30 = .ok (.ifCond .lt 12, 3) := by decide +kernel
theorem dX2_piece_33 : decode cX2_piece 33 = .ok (.lload 4, 2) := by decide +kernel
theorem dX2_piece_35 : decode cX2_piece 35 = .ok (.ldc2_w 28, 3) := by decide +kernel
theorem dX2_piece_38 : decode cX2_piece 38 = .ok (.lcmp, 1) := by decide +kernel
theorem dX2_piece_39 : decode cX2_piece 39 = .ok (.ifCond .le 6, 3) := by decide +kernel
theorem dX2_piece_42 : decode cX2_piece 42 = .ok (.bipush (-2), 2) := by decide +kernel
theorem dX2_piece_44 : decode cX2_piece 44 = .ok (.ireturn, 1) := by decide +kernel
theorem dX2_piece_45 : decode cX2_piece 45 = .ok (.aload_n 0, 1) := by decide +kernel
theorem dX2_piece_46 : decode cX2_piece 46 = .ok (.getfield 21, 3) := by decide +kernel
theorem dX2_piece_49 : decode cX2_piece 49 = .ok (.bipush 30, 2) := by decide +kernel
theorem dX2_piece_51 : decode cX2_piece 51 = .ok (.if_icmp .lt 6, 3) := by decide +kernel
theorem dX2_piece_54 : decode cX2_piece 54 = .ok (.bipush (-4), 2) := by decide +kernel
theorem dX2_piece_56 : decode cX2_piece 56 = .ok (.ireturn, 1) := by decide +kernel
theorem dX2_piece_57 : decode cX2_piece 57 = .ok (.aload_n 0, 1) := by decide +kernel
theorem dX2_piece_58 : decode cX2_piece 58 = .ok (.getfield 11, 3) := by decide +kernel
theorem dX2_piece_61 : decode cX2_piece 61 = .ok (.aload_n 0, 1) := by decide +kernel
theorem dX2_piece_62 : decode cX2_piece 62 = .ok (.getfield 21, 3) := by decide +kernel
theorem dX2_piece_65 : decode cX2_piece 65 = .ok (.new 9, 3) := by decide +kernel
theorem dX2_piece_68 : decode cX2_piece 68 = .ok (.dup, 1) := by decide +kernel
theorem dX2_piece_69 : decode cX2_piece 69 = .ok (.lload_n 2, 1) := by decide +kernel
theorem dX2_piece_70 : decode cX2_piece 70 = .ok (.lload 4, 2) := by decide +kernel
theorem dX2_piece_72 : decode cX2_piece 72 = .ok (.invokespecial 30, 3) := by decide +kernel
theorem dX2_piece_75 : decode cX2_piece 75 = .ok (.aastore, 1) := by decide +kernel
theorem dX2_piece_76 : decode cX2_piece 76 = .ok (.aload_n 0, 1) := by decide +kernel
theorem dX2_piece_77 : decode cX2_piece 77 = .ok (.dup, 1) := by decide +kernel
theorem dX2_piece_78 : decode cX2_piece 78 = .ok (.getfield 21, 3) := by decide +kernel
theorem dX2_piece_81 : decode cX2_piece 81 = .ok (.iconst 1, 1) := by decide +kernel
theorem dX2_piece_82 : decode cX2_piece 82 = .ok (.iadd, 1) := by decide +kernel
theorem dX2_piece_83 : decode cX2_piece 83 = .ok (.putfield 21, 3) := by decide +kernel
theorem dX2_piece_86 : decode cX2_piece 86 = .ok (.aload_n 0, 1) := by decide +kernel
theorem dX2_piece_87 : decode cX2_piece 87 = .ok (.getfield 21, 3) := by decide +kernel
theorem dX2_piece_90 : decode cX2_piece 90 = .ok (.ireturn, 1) := by decide +kernel
theorem dX2_chain_0 : decode cX2_chain 0 = .ok (.aload_n 0, 1) := by decide +kernel
theorem dX2_chain_1 : decode cX2_chain 1 = .ok (.getfield 25, 3) := by decide +kernel
theorem dX2_chain_4 : decode cX2_chain 4 = .ok (.bipush 20, 2) := by decide +kernel
theorem dX2_chain_6 : decode cX2_chain 6 = .ok (.if_icmp .lt 6, 3) := by decide +kernel
theorem dX2_chain_9 : decode cX2_chain 9 = .ok (.bipush (-4), 2) := by decide +kernel
theorem dX2_chain_11 : decode cX2_chain 11 = .ok (.ireturn, 1) := by decide +kernel
theorem dX2_chain_12 : decode cX2_chain 12 = .ok (.aload_n 0, 1) := by decide +kernel
theorem dX2_chain_13 : decode cX2_chain 13 = .ok (.getfield 17, 3) := by decide +kernel
theorem dX2_chain_16 : decode cX2_chain 16 = .ok (.aload_n 0, 1) := by decide +kernel
theorem dX2_chain_17 : decode cX2_chain 17 = .ok (.getfield 25, 3) := by decide +kernel
theorem dX2_chain_20 : decode cX2_chain 20 = .ok (.new 15, 3) := by decide +kernel
theorem dX2_chain_23 : decode cX2_chain 23 = .ok (.dup, 1) := by decide +kernel
theorem dX2_chain_24 : decode cX2_chain 24 = .ok (.invokespecial 33, 3) := by decide +kernel
theorem dX2_chain_27 : decode cX2_chain 27 = .ok (.aastore, 1) := by decide +kernel
theorem dX2_chain_28 : decode cX2_chain 28 = .ok (.aload_n 0, 1) := by decide +kernel
theorem dX2_chain_29 : decode cX2_chain 29 = .ok (.dup, 1) := by decide +kernel
theorem dX2_chain_30 : decode cX2_chain 30 = .ok (.getfield 25, 3) := by decide +kernel
theorem dX2_chain_33 : decode cX2_chain 33 = .ok (.iconst 1, 1) := by decide +kernel
theorem dX2_chain_34 : decode cX2_chain 34 = .ok (.iadd, 1) := by decide +kernel
theorem dX2_chain_35 : decode cX2_chain 35 = .ok (.putfield 25, 3) := by decide +kernel
theorem dX2_chain_38 : decode cX2_chain 38 = .ok (.aload_n 0, 1) := by decide +kernel
theorem dX2_chain_39 : decode cX2_chain 39 = .ok (.getfield 25, 3) := by decide +kernel
theorem dX2_chain_42 : decode cX2_chain 42 = .ok (.ireturn, 1) := by decide +kernel
theorem dX2_add_0 : decode cX2_add 0 = .ok (.aload_n 0, 1) := by decide +kernel
theorem dX2_add_1 : decode cX2_add 1 = .ok (.iload_n 1, 1) := by decide +kernel
theorem dX2_add_2 : decode cX2_add 2 = .ok (.invokevirtual 34, 3) := by decide +kernel
theorem dX2_add_5 : decode cX2_add 5 = .ok (.astore 4, 2) := by decide +kernel
theorem dX2_add_7 : decode cX2_add 7 = .ok (.aload_n 0, 1) := by decide +kernel
theorem dX2_add_8 : decode cX2_add 8 = .ok (.iload_n 2, 1) := by decide +kernel
theorem dX2_add_9 : decode cX2_add 9 = .ok (.invokevirtual 38, 3) := by decide +kernel
theorem dX2_add_12 : decode cX2_add 12 = .ok (.astore 5, 2) := by decide +kernel
theorem dX2_add_14 : decode cX2_add 14 = .ok (.aload 4, 2) := by decide +kernel
theorem dX2_add_16 : decode cX2_add 16 = .ok (.ifnull 8, 3) := by decide +kernel
theorem dX2_add_19 : decode cX2_add 19 = .ok (.aload 5, 2) := by decide +kernel
theorem dX2_add_21 : decode cX2_add 21 = .ok (.ifnonnull 5, 3) := by decide +kernel
theorem dX2_add_24 : decode cX2_add 24 = .ok (.iconst (-1), 1) := by decide +kernel
theorem dX2_add_25 : decode cX2_add 25 = .ok (.ireturn, 1) := by decide +kernel
theorem dX2_add_26 : decode cX2_add 26 = .ok (.iload_n 3, 1) := by decide +kernel
theorem dX2_add_27 : decode cX2_add 27 = .ok (.ifCond .eq 11, 3) := by decide +kernel
theorem dX2_add_30 : decode cX2_add 30 = .ok (.aload 4, 2) := by decide +kernel
theorem dX2_add_32 : decode cX2_add 32 = .ok (.getfield 42, 3) := by decide +kernel
theorem dX2_add_35 : decode cX2_add 35 = .ok (.ifCond .ne 7, 3) := by decide +kernel
theorem dX2_add_38 : decode cX2_add 38 = .ok (.iconst 1, 1) := by decide +kernel
theorem dX2_add_39 : decode cX2_add 39 = .ok (.goto 4, 3) := by decide +kernel
theorem dX2_add_42 : decode cX2_add 42 = .ok (.iconst 0, 1) := by decide +kernel
theorem dX2_add_43 : decode cX2_add 43 = .ok (.istore 6, 2) := by decide +kernel
theorem dX2_add_45 : decode cX2_add 45 = .ok (.iload 6, 2) := by decide +kernel
theorem dX2_add_47 : decode cX2_add 47 = .ok (.ifCond .eq 16, 3) := by decide +kernel
theorem dX2_add_50 : decode cX2_add 50 = .ok (.aload 5, 2) := by decide +kernel
theorem dX2_add_52 : decode cX2_add 52 = .ok (.getfield 45, 3) := by decide +kernel
theorem dX2_add_55 : decode cX2_add 55 = .ok (.lconst 0, 1) := by decide +kernel
theorem dX2_add_56 : decode cX2_add 56 = .ok (.lcmp, 1) := by decide +kernel
theorem dX2_add_57 : decode cX2_add 57 = .ok (.ifCond .ne 6, 3) := by decide +kernel
theorem dX2_add_60 : decode cX2_add 60 = .ok (.bipush (-3), 2) := by decide +kernel
theorem dX2_add_62 : decode cX2_add 62 = .ok (.ireturn, 1) := by decide +kernel
theorem dX2_add_63 : decode cX2_add 63 = .ok (.aload 4, 2) := by decide +kernel
theorem dX2_add_65 : decode cX2_add 65 = .ok (.getfield 42, 3) := by decide +kernel
theorem dX2_add_68 : decode cX2_add 68 = .ok (.bipush 12, 2) := by decide +kernel
theorem dX2_add_70 : decode cX2_add 70 = .ok (.if_icmp .lt 6, 3) := by decide +kernel
theorem dX2_add_73 : decode cX2_add 73 = .ok (.bipush (-4), 2) := by decide +kernel
theorem dX2_add_75 : decode cX2_add 75 = .ok (.ireturn, 1) := by decide +kernel
theorem dX2_add_76 : decode cX2_add 76 = .ok (.aload 4, 2) := by decide +kernel
theorem dX2_add_78 : decode cX2_add 78 = .ok (.aload 5, 2) := by decide +kernel
theorem dX2_add_80 : decode cX2_add 80 = .ok (.invokevirtual 49, 3) := by decide +kernel
theorem dX2_add_83 : decode cX2_add 83 = .ok (.ifCond .eq 5, 3) := by decide +kernel
theorem dX2_add_86 : decode cX2_add 86 = .ok (.iconst 0, 1) := by decide +kernel
theorem dX2_add_87 : decode cX2_add 87 = .ok (.ireturn, 1) := by decide +kernel
theorem dX2_add_88 : decode cX2_add 88 = .ok (.aload 4, 2) := by decide +kernel
theorem dX2_add_90 : decode cX2_add 90 = .ok (.aload 5, 2) := by decide +kernel
theorem dX2_add_92 : decode cX2_add 92 = .ok (.iload 6, 2) := by decide +kernel
theorem dX2_add_94 : decode cX2_add 94 = .ok (.invokevirtual 53, 3) := by decide +kernel
theorem dX2_add_97 : decode cX2_add 97 = .ok (.iconst 1, 1) := by decide +kernel
theorem dX2_add_98 : decode cX2_add 98 = .ok (.ireturn, 1) := by decide +kernel
theorem dX2_worst_0 : decode cX2_worst 0 = .ok (.aload_n 0, 1) := by decide +kernel
theorem dX2_worst_1 : decode cX2_worst 1 = .ok (.iload_n 1, 1) := by decide +kernel
theorem dX2_worst_2 : decode cX2_worst 2 = .ok (.invokevirtual 57, 3) := by decide +kernel
theorem dX2_worst_5 : decode cX2_worst 5 = .ok (.astore_n 3, 1) := by decide +kernel
theorem dX2_worst_6 : decode cX2_worst 6 = .ok (.aload_n 3, 1) := by decide +kernel
theorem dX2_worst_7 : decode cX2_worst 7 = .ok (.ifnonnull 7, 3) := by decide +kernel
theorem dX2_worst_10 : decode cX2_worst 10 = .ok (.ldc2_w 60, 3) := by decide +kernel
theorem dX2_worst_13 : decode cX2_worst 13 = .ok (.lreturn, 1) := by decide +kernel
theorem dX2_worst_14 : decode cX2_worst 14 = .ok (.iload_n 2, 1) := by decide +kernel
theorem dX2_worst_15 : decode cX2_worst 15 = .ok (.ifCond .eq 10, 3) := by decide +kernel
theorem dX2_worst_18 : decode cX2_worst 18 = .ok (.aload_n 3, 1) := by decide +kernel
theorem dX2_worst_19 : decode cX2_worst 19 = .ok (.invokevirtual 62, 3) := by decide +kernel
theorem dX2_worst_22 : decode cX2_worst 22 = .ok (.goto 7, 3) := by decide +kernel
theorem dX2_worst_25 : decode cX2_worst 25 = .ok (.aload_n 3, 1) := by decide +kernel
theorem dX2_worst_26 : decode cX2_worst 26 = .ok (.invokevirtual 66, 3) := by decide +kernel
theorem dX2_worst_29 : decode cX2_worst 29 = .ok (.lreturn, 1) := by decide +kernel
theorem dX2_best_0 : decode cX2_best 0 = .ok (.aload_n 0, 1) := by decide +kernel
theorem dX2_best_1 : decode cX2_best 1 = .ok (.iload_n 1, 1) := by decide +kernel
theorem dX2_best_2 : decode cX2_best 2 = .ok (.invokevirtual 57, 3) := by decide +kernel
theorem dX2_best_5 : decode cX2_best 5 = .ok (.astore_n 3, 1) := by decide +kernel
theorem dX2_best_6 : decode cX2_best 6 = .ok (.aload_n 3, 1) := by decide +kernel
theorem dX2_best_7 : decode cX2_best 7 = .ok (.ifnonnull 7, 3) := by decide +kernel
theorem dX2_best_10 : decode cX2_best 10 = .ok (.ldc2_w 60, 3) := by decide +kernel
theorem dX2_best_13 : decode cX2_best 13 = .ok (.lreturn, 1) := by decide +kernel
theorem dX2_best_14 : decode cX2_best 14 = .ok (.aload_n 3, 1) := by decide +kernel
theorem dX2_best_15 : decode cX2_best 15 = .ok (.iload_n 2, 1) := by decide +kernel
theorem dX2_best_16 : decode cX2_best 16 = .ok (.ifCond .eq 7, 3) := by decide +kernel
theorem dX2_best_19 : decode cX2_best 19 = .ok (.iconst 1, 1) := by decide +kernel
theorem dX2_best_20 : decode cX2_best 20 = .ok (.goto 4, 3) := by decide +kernel
theorem dX2_best_23 : decode cX2_best 23 = .ok (.iconst 0, 1) := by decide +kernel
theorem dX2_best_24 : decode cX2_best 24 = .ok (.invokevirtual 69, 3) := by decide +kernel
theorem dX2_best_27 : decode cX2_best 27 = .ok (.lreturn, 1) := by decide +kernel
theorem dX2_clock_0 : decode cX2_clock 0 = .ok (.aload_n 0, 1) := by decide +kernel
theorem dX2_clock_1 : decode cX2_clock 1 = .ok (.iload_n 1, 1) := by decide +kernel
theorem dX2_clock_2 : decode cX2_clock 2 = .ok (.invokevirtual 38, 3) := by decide +kernel
theorem dX2_clock_5 : decode cX2_clock 5 = .ok (.astore 6, 2) := by decide +kernel
theorem dX2_clock_7 : decode cX2_clock 7 = .ok (.aload 6, 2) := by decide +kernel
theorem dX2_clock_9 : decode cX2_clock 9 = .ok (.ifnonnull 5, 3) := by decide +kernel
theorem dX2_clock_12 : decode cX2_clock 12 = .ok (.iconst (-1), 1) := by decide +kernel
theorem dX2_clock_13 : decode cX2_clock 13 = .ok (.ireturn, 1) := by decide +kernel
theorem dX2_clock_14 : decode cX2_clock 14 = .ok (.lload 4, 2) := by decide +kernel
theorem dX2_clock_16 : decode cX2_clock 16 = .ok (.lconst 1, 1) := by decide +kernel
theorem dX2_clock_17 : decode cX2_clock 17 = .ok (.lcmp, 1) := by decide +kernel
theorem dX2_clock_18 : decode cX2_clock 18 = .ok (.ifCond .lt 25, 3) := by decide +kernel
theorem dX2_clock_21 : decode cX2_clock 21 = .ok (.lload 4, 2) := by decide +kernel
theorem dX2_clock_23 : decode cX2_clock 23 = .ok (.ldc2_w 73, 3) := by decide +kernel
theorem dX2_clock_26 : decode cX2_clock 26 = .ok (.lcmp, 1) := by decide +kernel
theorem dX2_clock_27 : decode cX2_clock 27 = .ok (.ifCond .gt 16, 3) := by decide +kernel
theorem dX2_clock_30 : decode cX2_clock 30 = .ok (.lload_n 2, 1) := by decide +kernel
theorem dX2_clock_31 : decode cX2_clock 31 = .ok (.lconst 0, 1) := by decide +kernel
theorem dX2_clock_32 : decode cX2_clock 32 = .ok (.lcmp, 1) := by decide +kernel
theorem dX2_clock_33 : decode cX2_clock 33 = .ok (.ifCond .lt 10, 3) := by decide +kernel
theorem dX2_clock_36 : decode cX2_clock 36 = .ok (.lload_n 2, 1) := by decide +kernel
theorem dX2_clock_37 : decode cX2_clock 37 = .ok (.lload 4, 2) := by decide +kernel
theorem dX2_clock_39 : decode cX2_clock 39 = .ok (.lcmp, 1) := by decide +kernel
theorem dX2_clock_40 : decode cX2_clock 40 = .ok (.ifCond .lt 6, 3) := by decide +kernel
theorem dX2_clock_43 : decode cX2_clock 43 = .ok (.bipush (-2), 2) := by decide +kernel
theorem dX2_clock_45 : decode cX2_clock 45 = .ok (.ireturn, 1) := by decide +kernel
theorem dX2_clock_46 : decode cX2_clock 46 = .ok (.aload 6, 2) := by decide +kernel
theorem dX2_clock_48 : decode cX2_clock 48 = .ok (.lload_n 2, 1) := by decide +kernel
theorem dX2_clock_49 : decode cX2_clock 49 = .ok (.putfield 75, 3) := by decide +kernel
theorem dX2_clock_52 : decode cX2_clock 52 = .ok (.aload 6, 2) := by decide +kernel
theorem dX2_clock_54 : decode cX2_clock 54 = .ok (.lload 4, 2) := by decide +kernel
theorem dX2_clock_56 : decode cX2_clock 56 = .ok (.putfield 78, 3) := by decide +kernel
theorem dX2_clock_59 : decode cX2_clock 59 = .ok (.aload 6, 2) := by decide +kernel
theorem dX2_clock_61 : decode cX2_clock 61 = .ok (.invokevirtual 81, 3) := by decide +kernel
theorem dX2_clock_64 : decode cX2_clock 64 = .ok (.l2i, 1) := by decide +kernel
theorem dX2_clock_65 : decode cX2_clock 65 = .ok (.ireturn, 1) := by decide +kernel
theorem dX2_wish_0 : decode cX2_wish 0 = .ok (.aload_n 0, 1) := by decide +kernel
theorem dX2_wish_1 : decode cX2_wish 1 = .ok (.iload_n 1, 1) := by decide +kernel
theorem dX2_wish_2 : decode cX2_wish 2 = .ok (.invokevirtual 57, 3) := by decide +kernel
theorem dX2_wish_5 : decode cX2_wish 5 = .ok (.astore 4, 2) := by decide +kernel
theorem dX2_wish_7 : decode cX2_wish 7 = .ok (.aload 4, 2) := by decide +kernel
theorem dX2_wish_9 : decode cX2_wish 9 = .ok (.ifnonnull 5, 3) := by decide +kernel
theorem dX2_wish_12 : decode cX2_wish 12 = .ok (.iconst (-1), 1) := by decide +kernel
theorem dX2_wish_13 : decode cX2_wish 13 = .ok (.ireturn, 1) := by decide +kernel
theorem dX2_wish_14 : decode cX2_wish 14 = .ok (.lload_n 2, 1) := by decide +kernel
theorem dX2_wish_15 : decode cX2_wish 15 = .ok (.lconst 0, 1) := by decide +kernel
theorem dX2_wish_16 : decode cX2_wish 16 = .ok (.lcmp, 1) := by decide +kernel
theorem dX2_wish_17 : decode cX2_wish 17 = .ok (.ifCond .ge 6, 3) := by decide +kernel
theorem dX2_wish_20 : decode cX2_wish 20 = .ok (.bipush (-2), 2) := by decide +kernel
theorem dX2_wish_22 : decode cX2_wish 22 = .ok (.ireturn, 1) := by decide +kernel
theorem dX2_wish_23 : decode cX2_wish 23 = .ok (.aload 4, 2) := by decide +kernel
theorem dX2_wish_25 : decode cX2_wish 25 = .ok (.lload_n 2, 1) := by decide +kernel
theorem dX2_wish_26 : decode cX2_wish 26 = .ok (.putfield 84, 3) := by decide +kernel
theorem dX2_wish_29 : decode cX2_wish 29 = .ok (.aload 4, 2) := by decide +kernel
theorem dX2_wish_31 : decode cX2_wish 31 = .ok (.invokevirtual 87, 3) := by decide +kernel
theorem dX2_wish_34 : decode cX2_wish 34 = .ok (.ifCond .eq 7, 3) := by decide +kernel
theorem dX2_wish_37 : decode cX2_wish 37 = .ok (.iconst 1, 1) := by decide +kernel
theorem dX2_wish_38 : decode cX2_wish 38 = .ok (.goto 4, 3) := by decide +kernel
theorem dX2_wish_41 : decode cX2_wish 41 = .ok (.iconst 0, 1) := by decide +kernel
theorem dX2_wish_42 : decode cX2_wish 42 = .ok (.ireturn, 1) := by decide +kernel
theorem dX2_share_0 : decode cX2_share 0 = .ok (.iload_n 2, 1) := by decide +kernel
theorem dX2_share_1 : decode cX2_share 1 = .ok (.iconst (-1), 1) := by decide +kernel
theorem dX2_share_2 : decode cX2_share 2 = .ok (.if_icmp .ne 8, 3) := by decide +kernel
theorem dX2_share_5 : decode cX2_share 5 = .ok (.aload_n 0, 1) := by decide +kernel
theorem dX2_share_6 : decode cX2_share 6 = .ok (.invokevirtual 91, 3) := by decide +kernel
theorem dX2_share_9 : decode cX2_share 9 = .ok (.ireturn, 1) := by decide +kernel
theorem dX2_share_10 : decode cX2_share 10 = .ok (.aload_n 0, 1) := by decide +kernel
theorem dX2_share_11 : decode cX2_share 11 = .ok (.iload_n 1, 1) := by decide +kernel
theorem dX2_share_12 : decode cX2_share 12 = .ok (.invokevirtual 57, 3) := by decide +kernel
theorem dX2_share_15 : decode cX2_share 15 = .ok (.astore_n 3, 1) := by decide +kernel
theorem dX2_share_16 : decode cX2_share 16 = .ok (.aload_n 3, 1) := by decide +kernel
theorem dX2_share_17 : decode cX2_share 17 = .ok (.ifnull 15, 3) := by decide +kernel
theorem dX2_share_20 : decode cX2_share 20 = .ok (.iload_n 2, 1) := by decide +kernel
theorem dX2_share_21 : decode cX2_share 21 = .ok (.ifCond .lt 11, 3) := by decide +kernel
theorem dX2_share_24 : decode cX2_share 24 = .ok (.iload_n 2, 1) := by decide +kernel
theorem dX2_share_25 : decode cX2_share 25 = .ok (.aload_n 3, 1) := by decide +kernel
theorem dX2_share_26 : decode cX2_share 26 = .ok (.getfield 42, 3) := by decide +kernel
theorem dX2_share_29 : decode cX2_share 29 = .ok (.if_icmp .lt 5, 3) := by decide +kernel
theorem dX2_share_32 : decode cX2_share 32 = .ok (.iconst (-1), 1) := by decide +kernel
theorem dX2_share_33 : decode cX2_share 33 = .ok (.ireturn, 1) := by decide +kernel
theorem dX2_share_34 : decode cX2_share 34 = .ok (.aload_n 3, 1) := by decide +kernel
theorem dX2_share_35 : decode cX2_share 35 = .ok (.invokevirtual 66, 3) := by decide +kernel
theorem dX2_share_38 : decode cX2_share 38 = .ok (.lstore 4, 2) := by decide +kernel
theorem dX2_share_40 : decode cX2_share 40 = .ok (.lload 4, 2) := by decide +kernel
theorem dX2_share_42 : decode cX2_share 42 = .ok (.lconst 0, 1) := by decide +kernel
theorem dX2_share_43 : decode cX2_share 43 = .ok (.lcmp, 1) := by decide +kernel
theorem dX2_share_44 : decode cX2_share 44 = .ok (.ifCond .ne 5, 3) := by decide +kernel
theorem dX2_share_47 : decode cX2_share 47 = .ok (.iconst (-1), 1) := by decide +kernel
theorem dX2_share_48 : decode cX2_share 48 = .ok (.ireturn, 1) := by decide +kernel
theorem dX2_share_49 : decode cX2_share 49 = .ok (.aload_n 3, 1) := by decide +kernel
theorem dX2_share_50 : decode cX2_share 50 = .ok (.iload_n 2, 1) := by decide +kernel
theorem dX2_share_51 : decode cX2_share 51 = .ok (.invokevirtual 95, 3) := by decide +kernel
theorem dX2_share_54 : decode cX2_share 54 = .ok (.ldc2_w 98, 3) := by decide +kernel
theorem dX2_share_57 : decode cX2_share 57 = .ok (.lmul, 1) := by decide +kernel
theorem dX2_share_58 : decode cX2_share 58 = .ok (.lload 4, 2) := by decide +kernel
theorem dX2_share_60 : decode cX2_share 60 = .ok (.ldiv, 1) := by decide +kernel
theorem dX2_share_61 : decode cX2_share 61 = .ok (.l2i, 1) := by decide +kernel
theorem dX2_share_62 : decode cX2_share 62 = .ok (.ireturn, 1) := by decide +kernel
theorem dX2_cycle_0 : decode cX2_cycle 0 = .ok (.aload_n 0, 1) := by decide +kernel
theorem dX2_cycle_1 : decode cX2_cycle 1 = .ok (.iload_n 1, 1) := by decide +kernel
theorem dX2_cycle_2 : decode cX2_cycle 2 = .ok (.invokevirtual 57, 3) := by decide +kernel
theorem dX2_cycle_5 : decode cX2_cycle 5 = .ok (.astore_n 2, 1) := by decide +kernel
theorem dX2_cycle_6 : decode cX2_cycle 6 = .ok (.aload_n 2, 1) := by decide +kernel
theorem dX2_cycle_7 : decode cX2_cycle 7 = .ok (.ifnonnull 7, 3) := by decide +kernel
theorem dX2_cycle_10 : decode cX2_cycle 10 = .ok (.ldc2_w 60, 3) := by decide +kernel
theorem dX2_cycle_13 : decode cX2_cycle 13 = .ok (.lreturn, 1) := by decide +kernel
theorem dX2_cycle_14 : decode cX2_cycle 14 = .ok (.aload_n 2, 1) := by decide +kernel
theorem dX2_cycle_15 : decode cX2_cycle 15 = .ok (.invokevirtual 100, 3) := by decide +kernel
theorem dX2_cycle_18 : decode cX2_cycle 18 = .ok (.ifCond .eq 13, 3) := by decide +kernel
theorem dX2_cycle_21 : decode cX2_cycle 21 = .ok (.new 103, 3) := by decide +kernel
theorem dX2_cycle_24 : decode cX2_cycle 24 = .ok (.dup, 1) := by decide +kernel
theorem dX2_cycle_25 : decode cX2_cycle 25 = .ok (.ldc 105, 2) := by decide +kernel
theorem dX2_cycle_27 : decode cX2_cycle 27 = .ok (.invokespecial 107, 3) := by decide +kernel
theorem dX2_cycle_30 : decode cX2_cycle 30 = .ok (.athrow, 1) := by decide +kernel
theorem dX2_cycle_31 : decode cX2_cycle 31 = .ok (.aload_n 2, 1) := by decide +kernel
theorem dX2_cycle_32 : decode cX2_cycle 32 = .ok (.iconst 0, 1) := by decide +kernel
theorem dX2_cycle_33 : decode cX2_cycle 33 = .ok (.invokevirtual 110, 3) := by decide +kernel
theorem dX2_cycle_36 : decode cX2_cycle 36 = .ok (.lreturn, 1) := by decide +kernel
theorem dX2_stepped_0 : decode cX2_stepped 0 = .ok (.aload_n 0, 1) := by decide +kernel
theorem dX2_stepped_1 : decode cX2_stepped 1 = .ok (.iload_n 1, 1) := by decide +kernel
theorem dX2_stepped_2 : decode cX2_stepped 2 = .ok (.invokevirtual 57, 3) := by decide +kernel
theorem dX2_stepped_5 : decode cX2_stepped 5 = .ok (.astore_n 2, 1) := by decide +kernel
theorem dX2_stepped_6 : decode cX2_stepped 6 = .ok (.aload_n 2, 1) := by decide +kernel
theorem dX2_stepped_7 : decode cX2_stepped 7 = .ok (.ifnonnull 7, 3) := by decide +kernel
theorem dX2_stepped_10 : decode cX2_stepped 10 = .ok (.ldc2_w 60, 3) := by decide +kernel
theorem dX2_stepped_13 : decode cX2_stepped 13 = .ok (.lreturn, 1) := by decide +kernel
theorem dX2_stepped_14 : decode cX2_stepped 14 = .ok (.aload_n 2, 1) := by decide +kernel
theorem dX2_stepped_15 : decode cX2_stepped 15 = .ok (.invokevirtual 114, 3) := by decide +kernel
theorem dX2_stepped_18 : decode cX2_stepped 18 = .ok (.ifCond .eq 10, 3) := by decide +kernel
theorem dX2_stepped_21 : decode cX2_stepped 21 = .ok (.aload_n 2, 1) := by decide +kernel
theorem dX2_stepped_22 : decode cX2_stepped 22 = .ok (.invokevirtual 117, 3) := by decide +kernel
theorem dX2_stepped_25 : decode cX2_stepped 25 = .ok (.goto 7, 3) := by decide +kernel
theorem dX2_stepped_28 : decode cX2_stepped 28 = .ok (.aload_n 2, 1) := by decide +kernel
theorem dX2_stepped_29 : decode cX2_stepped 29 = .ok (.invokevirtual 66, 3) := by decide +kernel
theorem dX2_stepped_32 : decode cX2_stepped 32 = .ok (.lreturn, 1) := by decide +kernel
theorem dX2_plain_0 : decode cX2_plain 0 = .ok (.aload_n 0, 1) := by decide +kernel
theorem dX2_plain_1 : decode cX2_plain 1 = .ok (.iload_n 1, 1) := by decide +kernel
theorem dX2_plain_2 : decode cX2_plain 2 = .ok (.invokevirtual 57, 3) := by decide +kernel
theorem dX2_plain_5 : decode cX2_plain 5 = .ok (.astore_n 2, 1) := by decide +kernel
theorem dX2_plain_6 : decode cX2_plain 6 = .ok (.aload_n 2, 1) := by decide +kernel
theorem dX2_plain_7 : decode cX2_plain 7 = .ok (.ifnull 14, 3) := by decide +kernel
theorem dX2_plain_10 : decode cX2_plain 10 = .ok (.aload_n 2, 1) := by decide +kernel
theorem dX2_plain_11 : decode cX2_plain 11 = .ok (.invokevirtual 114, 3) := by decide +kernel
theorem dX2_plain_14 : decode cX2_plain 14 = .ok (.ifCond .eq 7, 3) := by decide +kernel
theorem dX2_plain_17 : decode cX2_plain 17 = .ok (.iconst 1, 1) := by decide +kernel
theorem dX2_plain_18 : decode cX2_plain 18 = .ok (.goto 4, 3) := by decide +kernel
theorem dX2_plain_21 : decode cX2_plain 21 = .ok (.iconst 0, 1) := by decide +kernel
theorem dX2_plain_22 : decode cX2_plain 22 = .ok (.ireturn, 1) := by decide +kernel
theorem dX2_pieceNumbered_0 : decode cX2_pieceNumbered 0 = .ok (.iload_n 1, 1) := by decide +kernel
theorem dX2_pieceNumbered_1 : decode cX2_pieceNumbered 1 = .ok (.iconst 1, 1) := by decide +kernel
theorem dX2_pieceNumbered_2 : decode cX2_pieceNumbered 2 = .ok (.if_icmp .lt 11, 3) := by decide +kernel
theorem dX2_pieceNumbered_5 : decode cX2_pieceNumbered 5 = .ok (.iload_n 1, 1) := by decide +kernel
theorem dX2_pieceNumbered_6 : decode cX2_pieceNumbered 6 = .ok (.aload_n 0, 1) := by decide +kernel
theorem dX2_pieceNumbered_7 : decode cX2_pieceNumbered 7 = .ok (.getfield 21, 3) := by decide +kernel
theorem dX2_pieceNumbered_10 : decode cX2_pieceNumbered 10 = .ok (.if_icmp .le 7, 3) := by decide +kernel
theorem dX2_pieceNumbered_13 : decode cX2_pieceNumbered 13 = .ok (.aconst_null, 1) := by decide +kernel
theorem dX2_pieceNumbered_14 : decode cX2_pieceNumbered 14 = .ok (.goto 11, 3) := by decide +kernel
theorem dX2_pieceNumbered_17 : decode cX2_pieceNumbered 17 = .ok (.aload_n 0, 1) := by decide +kernel
theorem dX2_pieceNumbered_18 : decode cX2_pieceNumbered 18 = .ok (.getfield 11, 3) := by decide +kernel
theorem dX2_pieceNumbered_21 : decode cX2_pieceNumbered 21 = .ok (.iload_n 1, 1) := by decide +kernel
theorem dX2_pieceNumbered_22 : decode cX2_pieceNumbered 22 = .ok (.iconst 1, 1) := by decide +kernel
theorem dX2_pieceNumbered_23 : decode cX2_pieceNumbered 23 = .ok (.isub, 1) := by decide +kernel
theorem dX2_pieceNumbered_24 : decode cX2_pieceNumbered 24 = .ok (.aaload, 1) := by decide +kernel
theorem dX2_pieceNumbered_25 : decode cX2_pieceNumbered 25 = .ok (.areturn, 1) := by decide +kernel
theorem dX2_chainNumbered_0 : decode cX2_chainNumbered 0 = .ok (.iload_n 1, 1) := by decide +kernel
theorem dX2_chainNumbered_1 : decode cX2_chainNumbered 1 = .ok (.iconst 1, 1) := by decide +kernel
theorem dX2_chainNumbered_2 : decode cX2_chainNumbered 2 = .ok (.if_icmp .lt 11, 3) := by decide +kernel
theorem dX2_chainNumbered_5 : decode cX2_chainNumbered 5 = .ok (.iload_n 1, 1) := by decide +kernel
theorem dX2_chainNumbered_6 : decode cX2_chainNumbered 6 = .ok (.aload_n 0, 1) := by decide +kernel
theorem dX2_chainNumbered_7 : decode cX2_chainNumbered 7 = .ok (.getfield 25, 3) := by decide +kernel
theorem dX2_chainNumbered_10 : decode cX2_chainNumbered 10 = .ok (.if_icmp .le 7, 3) := by decide +kernel
theorem dX2_chainNumbered_13 : decode cX2_chainNumbered 13 = .ok (.aconst_null, 1) := by decide +kernel
theorem dX2_chainNumbered_14 : decode cX2_chainNumbered 14 = .ok (.goto 11, 3) := by decide +kernel
theorem dX2_chainNumbered_17 : decode cX2_chainNumbered 17 = .ok (.aload_n 0, 1) := by decide +kernel
theorem dX2_chainNumbered_18 : decode cX2_chainNumbered 18 = .ok (.getfield 17, 3) := by decide +kernel
theorem dX2_chainNumbered_21 : decode cX2_chainNumbered 21 = .ok (.iload_n 1, 1) := by decide +kernel
theorem dX2_chainNumbered_22 : decode cX2_chainNumbered 22 = .ok (.iconst 1, 1) := by decide +kernel
theorem dX2_chainNumbered_23 : decode cX2_chainNumbered 23 = .ok (.isub, 1) := by decide +kernel
theorem dX2_chainNumbered_24 : decode cX2_chainNumbered 24 = .ok (.aaload, 1) := by decide +kernel
theorem dX2_chainNumbered_25 : decode cX2_chainNumbered 25 = .ok (.areturn, 1) := by decide +kernel
theorem dX2_filledChain_0 : decode cX2_filledChain 0 = .ok (.aload_n 0, 1) := by decide +kernel
theorem dX2_filledChain_1 : decode cX2_filledChain 1 = .ok (.iload_n 1, 1) := by decide +kernel
theorem dX2_filledChain_2 : decode cX2_filledChain 2 = .ok (.invokevirtual 34, 3) := by decide +kernel
theorem dX2_filledChain_5 : decode cX2_filledChain 5 = .ok (.astore_n 2, 1) := by decide +kernel
theorem dX2_filledChain_6 : decode cX2_filledChain 6 = .ok (.aload_n 2, 1) := by decide +kernel
theorem dX2_filledChain_7 : decode cX2_filledChain 7 = .ok (.ifnull 10, 3) := by decide +kernel
theorem dX2_filledChain_10 : decode cX2_filledChain 10 = .ok (.aload_n 2, 1) := by decide +kernel
theorem dX2_filledChain_11 : decode cX2_filledChain 11 = .ok (.getfield 42, 3) := by decide +kernel
theorem dX2_filledChain_14 : decode cX2_filledChain 14 = .ok (.ifCond .ne 7, 3) := by decide +kernel
theorem dX2_filledChain_17 : decode cX2_filledChain 17 = .ok (.aconst_null, 1) := by decide +kernel
theorem dX2_filledChain_18 : decode cX2_filledChain 18 = .ok (.goto 4, 3) := by decide +kernel
theorem dX2_filledChain_21 : decode cX2_filledChain 21 = .ok (.aload_n 2, 1) := by decide +kernel
theorem dX2_filledChain_22 : decode cX2_filledChain 22 = .ok (.areturn, 1) := by decide +kernel
theorem dX2_wishesKept_0 : decode cX2_wishesKept 0 = .ok (.iconst 0, 1) := by decide +kernel
theorem dX2_wishesKept_1 : decode cX2_wishesKept 1 = .ok (.istore_n 1, 1) := by decide +kernel
theorem dX2_wishesKept_2 : decode cX2_wishesKept 2 = .ok (.iconst 0, 1) := by decide +kernel
theorem dX2_wishesKept_3 : decode cX2_wishesKept 3 = .ok (.istore_n 2, 1) := by decide +kernel
theorem dX2_wishesKept_4 : decode cX2_wishesKept 4 = .ok (.iload_n 2, 1) := by decide +kernel
theorem dX2_wishesKept_5 : decode cX2_wishesKept 5 = .ok (.aload_n 0, 1) := by decide +kernel
theorem dX2_wishesKept_6 : decode cX2_wishesKept 6 = .ok (.getfield 25, 3) := by decide +kernel
theorem dX2_wishesKept_9 : decode cX2_wishesKept 9 = .ok (.if_icmp .ge 24, 3) := by decide +kernel
theorem dX2_wishesKept_12 : decode cX2_wishesKept 12 = .ok (.aload_n 0, 1) := by decide +kernel
theorem dX2_wishesKept_13 : decode cX2_wishesKept 13 = .ok (.getfield 17, 3) := by decide +kernel
theorem dX2_wishesKept_16 : decode cX2_wishesKept 16 = .ok (.iload_n 2, 1) := by decide +kernel
theorem dX2_wishesKept_17 : decode cX2_wishesKept 17 = .ok (.aaload, 1) := by decide +kernel
theorem dX2_wishesKept_18 : decode cX2_wishesKept 18 = .ok (.invokevirtual 87, 3) := by decide +kernel
theorem dX2_wishesKept_21 : decode cX2_wishesKept 21 = .ok (.ifCond .eq 6, 3) := by decide +kernel
theorem dX2_wishesKept_24 : decode cX2_wishesKept 24 = .ok (.iinc 1 1, 3) := by decide +kernel
theorem dX2_wishesKept_27 : decode cX2_wishesKept 27 = .ok (.iinc 2 1, 3) := by decide +kernel
theorem dX2_wishesKept_30 : decode cX2_wishesKept 30 = .ok (.goto (-26), 3) := by decide +kernel
theorem dX2_wishesKept_33 : decode cX2_wishesKept 33 = .ok (.iload_n 1, 1) := by decide +kernel
theorem dX2_wishesKept_34 : decode cX2_wishesKept 34 = .ok (.ireturn, 1) := by decide +kernel
theorem dX2_unitsUpwards_0 : decode cX2_unitsUpwards 0 = .ok (.lload_n 2, 1) := by decide +kernel
theorem dX2_unitsUpwards_1 : decode cX2_unitsUpwards 1 = .ok (.lconst 1, 1) := by decide +kernel
theorem dX2_unitsUpwards_2 : decode cX2_unitsUpwards 2 = .ok (.lcmp, 1) := by decide +kernel
theorem dX2_unitsUpwards_3 : decode cX2_unitsUpwards 3 = .ok (.ifCond .ge 7, 3) := by decide +kernel
theorem dX2_unitsUpwards_6 : decode cX2_unitsUpwards 6 = .ok (.lconst 0, 1) := by decide +kernel
theorem dX2_unitsUpwards_7 : decode cX2_unitsUpwards 7 = .ok (.goto 10, 3) := by decide +kernel
theorem dX2_unitsUpwards_10 : decode cX2_unitsUpwards 10 = .ok (.lload_n 0, 1) := by decide +kernel
theorem dX2_unitsUpwards_11 : decode cX2_unitsUpwards 11 = .ok (.lload_n 2, 1) := by decide +kernel
theorem dX2_unitsUpwards_12 : decode cX2_unitsUpwards 12 = .ok (.ladd, 1) := by decide +kernel
theorem dX2_unitsUpwards_13 : decode cX2_unitsUpwards 13 = .ok (.lconst 1, 1) := by decide +kernel
theorem dX2_unitsUpwards_14 : decode cX2_unitsUpwards 14 = .ok (.lsub, 1) := by decide +kernel
theorem dX2_unitsUpwards_15 : decode cX2_unitsUpwards 15 = .ok (.lload_n 2, 1) := by decide +kernel
theorem dX2_unitsUpwards_16 : decode cX2_unitsUpwards 16 = .ok (.ldiv, 1) := by decide +kernel
theorem dX2_unitsUpwards_17 : decode cX2_unitsUpwards 17 = .ok (.lreturn, 1) := by decide +kernel
theorem dX2_greatestCommonDivisor_0 : decode cX2_greatestCommonDivisor 0 = .ok (.lload_n 0, 1) := by decide +kernel
theorem dX2_greatestCommonDivisor_1 : decode cX2_greatestCommonDivisor 1 = .ok (.lstore 4, 2) := by decide +kernel
theorem dX2_greatestCommonDivisor_3 : decode cX2_greatestCommonDivisor 3 = .ok (.lload_n 2, 1) := by decide +kernel
theorem dX2_greatestCommonDivisor_4 : decode cX2_greatestCommonDivisor 4 = .ok (.lstore 6, 2) := by decide +kernel
theorem dX2_greatestCommonDivisor_6 : decode cX2_greatestCommonDivisor 6 = .ok (.iconst 0, 1) := by decide +kernel
theorem dX2_greatestCommonDivisor_7 : decode cX2_greatestCommonDivisor 7 = .ok (.istore 8, 2) := by decide +kernel
theorem dX2_greatestCommonDivisor_9 : decode cX2_greatestCommonDivisor 9 = .ok (.iload 8, 2) := by decide +kernel
theorem dX2_greatestCommonDivisor_11 : decode cX2_greatestCommonDivisor 11 = .ok (.bipush 126, 2) := by decide +kernel
theorem dX2_greatestCommonDivisor_13 : decode cX2_greatestCommonDivisor 13 = .ok (.if_icmp .ge 31, 3) := by decide +kernel
theorem dX2_greatestCommonDivisor_16 : decode cX2_greatestCommonDivisor 16 = .ok (.lload 6, 2) := by decide +kernel
theorem dX2_greatestCommonDivisor_18 : decode cX2_greatestCommonDivisor 18 = .ok (.lconst 0, 1) := by decide +kernel
theorem dX2_greatestCommonDivisor_19 : decode cX2_greatestCommonDivisor 19 = .ok (.lcmp, 1) := by decide +kernel
theorem dX2_greatestCommonDivisor_20 : decode cX2_greatestCommonDivisor 20 = .ok (.ifCond .le 24, 3) := by decide +kernel
theorem dX2_greatestCommonDivisor_23 : decode cX2_greatestCommonDivisor 23 = .ok (.lload 4, 2) := by decide +kernel
theorem dX2_greatestCommonDivisor_25 : decode cX2_greatestCommonDivisor 25 = .ok (.lload 6, 2) := by decide +kernel
theorem dX2_greatestCommonDivisor_27 : decode cX2_greatestCommonDivisor 27 = .ok (.lrem, 1) := by decide +kernel
theorem dX2_greatestCommonDivisor_28 : decode cX2_greatestCommonDivisor 28 = .ok (.lstore 9, 2) := by decide +kernel
theorem dX2_greatestCommonDivisor_30 : decode cX2_greatestCommonDivisor 30 = .ok (.lload 6, 2) := by decide +kernel
theorem dX2_greatestCommonDivisor_32 : decode cX2_greatestCommonDivisor 32 = .ok (.lstore 4, 2) := by decide +kernel
theorem dX2_greatestCommonDivisor_34 : decode cX2_greatestCommonDivisor 34 = .ok (.lload 9, 2) := by decide +kernel
theorem dX2_greatestCommonDivisor_36 : decode cX2_greatestCommonDivisor 36 = .ok (.lstore 6, 2) := by decide +kernel
theorem dX2_greatestCommonDivisor_38 : decode cX2_greatestCommonDivisor 38 = .ok (.iinc 8 1, 3) := by decide +kernel
theorem dX2_greatestCommonDivisor_41 : decode cX2_greatestCommonDivisor 41 = .ok (.goto (-32), 3) := by decide +kernel
theorem dX2_greatestCommonDivisor_44 : decode cX2_greatestCommonDivisor 44 = .ok (.lload 4, 2) := by decide +kernel
theorem dX2_greatestCommonDivisor_46 : decode cX2_greatestCommonDivisor 46 = .ok (.lreturn, 1) := by decide +kernel
theorem dX2_leastCommonMultiple_0 : decode cX2_leastCommonMultiple 0 = .ok (.lload_n 0, 1) := by decide +kernel
theorem dX2_leastCommonMultiple_1 : decode cX2_leastCommonMultiple 1 = .ok (.lload_n 2, 1) := by decide +kernel
theorem dX2_leastCommonMultiple_2 : decode cX2_leastCommonMultiple 2 = .ok (.invokestatic 120, 3) := by decide +kernel
theorem dX2_leastCommonMultiple_5 : decode cX2_leastCommonMultiple 5 = .ok (.lstore 4, 2) := by decide +kernel
theorem dX2_leastCommonMultiple_7 : decode cX2_leastCommonMultiple 7 = .ok (.lload 4, 2) := by decide +kernel
theorem dX2_leastCommonMultiple_9 : decode cX2_leastCommonMultiple 9 = .ok (.lconst 1, 1) := by decide +kernel
theorem dX2_leastCommonMultiple_10 : decode cX2_leastCommonMultiple 10 = .ok (.lcmp, 1) := by decide +kernel
