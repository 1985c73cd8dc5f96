theorem dM_best_23 : decode cM_best 23 = .ok (.iconst 1, 1) := by decide +kernel
theorem dM_best_24 : decode cM_best 24 = .ok (.goto 4, 3) := by decide +kernel
theorem dM_best_27 : decode cM_best 27 = .ok (.iconst 0, 1) := by decide +kernel
theorem dM_best_28 : decode cM_best 28 = .ok (.istore 5, 2) := by decide +kernel
theorem dM_best_30 : decode cM_best 30 = .ok (.iload 5, 2) := by decide +kernel
theorem dM_best_32 : decode cM_best 32 = .ok (.aload_n 0, 1) := by decide +kernel
theorem dM_best_33 : decode cM_best 33 = .ok (.getfield 30, 3) := by decide +kernel
theorem dM_best_36 : decode cM_best 36 = .ok (.iload_n 1, 1) := by decide +kernel
theorem dM_best_37 : decode cM_best 37 = .ok (.iaload, 1) := by decide +kernel
theorem dM_best_38 : decode cM_best 38 = .ok (.if_icmp .ge 29, 3) := by decide +kernel
theorem dM_best_41 : decode cM_best 41 = .ok (.lload_n 3, 1) := by decide +kernel
theorem dM_best_42 : decode cM_best 42 = .ok (.aload_n 0, 1) := by decide +kernel
theorem dM_best_43 : decode cM_best 43 = .ok (.getfield 13, 3) := by decide +kernel
theorem dM_best_46 : decode cM_best 46 = .ok (.aload_n 0, 1) := by decide +kernel
theorem dM_best_47 : decode cM_best 47 = .ok (.getfield 22, 3) := by decide +kernel
theorem dM_best_50 : decode cM_best 50 = .ok (.bipush 12, 2) := by decide +kernel
theorem dM_best_52 : decode cM_best 52 = .ok (.iload_n 1, 1) := by decide +kernel
theorem dM_best_53 : decode cM_best 53 = .ok (.imul, 1) := by decide +kernel
theorem dM_best_54 : decode cM_best 54 = .ok (.iload 5, 2) := by decide +kernel
theorem dM_best_56 : decode cM_best 56 = .ok (.iadd, 1) := by decide +kernel
theorem dM_best_57 : decode cM_best 57 = .ok (.iaload, 1) := by decide +kernel
theorem dM_best_58 : decode cM_best 58 = .ok (.laload, 1) := by decide +kernel
theorem dM_best_59 : decode cM_best 59 = .ok (.ladd, 1) := by decide +kernel
theorem dM_best_60 : decode cM_best 60 = .ok (.lstore_n 3, 1) := by decide +kernel
theorem dM_best_61 : decode cM_best 61 = .ok (.iinc 5 1, 3) := by decide +kernel
theorem dM_best_64 : decode cM_best 64 = .ok (.goto (-34), 3) := by decide +kernel
theorem dM_best_67 : decode cM_best 67 = .ok (.lload_n 3, 1) := by decide +kernel
theorem dM_best_68 : decode cM_best 68 = .ok (.lreturn, 1) := by decide +kernel
theorem dM_clock_0 : decode cM_clock 0 = .ok (.aload_n 0, 1) := by decide +kernel
theorem dM_clock_1 : decode cM_clock 1 = .ok (.iconst 0, 1) := by decide +kernel
theorem dM_clock_2 : decode cM_clock 2 = .ok (.putfield 39, 3) := by decide +kernel
theorem dM_clock_5 : decode cM_clock 5 = .ok (.aload_n 0, 1) := by decide +kernel
theorem dM_clock_6 : decode cM_clock 6 = .ok (.iload_n 1, 1) := by decide +kernel
theorem dM_clock_7 : decode cM_clock 7 = .ok (.invokevirtual 55, 3) := by decide +kernel
theorem dM_clock_10 : decode cM_clock 10 = .ok (.ifCond .eq 5, 3) := by decide +kernel
theorem dM_clock_13 : decode cM_clock 13 = .ok (.iconst (-1), 1) := by decide +kernel
theorem dM_clock_14 : decode cM_clock 14 = .ok (.ireturn, 1) := by decide +kernel
theorem dM_clock_15 : decode cM_clock 15 = .ok (.lload 4, 2) := by decide +kernel
theorem dM_clock_17 : decode cM_clock 17 = .ok (.lconst 1, 1) := by decide +kernel
theorem dM_clock_18 : decode cM_clock 18 = .ok (.lcmp, 1) := by decide +kernel
theorem dM_clock_19 : decode cM_clock 19 = .ok (.ifCond .lt 27, 3) := by decide +kernel
theorem dM_clock_22 : decode cM_clock 22 = .ok (.lload 4, 2) := by decide +kernel
theorem dM_clock_24 : decode cM_clock 24 = .ok (.ldc2_w 77, 3) := by decide +kernel
theorem dM_clock_27 : decode cM_clock 27 = .ok (.lcmp, 1) := by decide +kernel
theorem dM_clock_28 : decode cM_clock 28 = .ok (.ifCond .gt 18, 3) := by decide +kernel
theorem dM_clock_31 : decode cM_clock 31 = .ok (.lload_n 2, 1) := by decide +kernel
theorem dM_clock_32 : decode cM_clock 32 = .ok (.lconst 0, 1) := by decide +kernel
theorem dM_clock_33 : decode cM_clock 33 = .ok (.lcmp, 1) := by decide +kernel
theorem dM_clock_34 : decode cM_clock 34 = .ok (.ifCond .lt 12, 3) := by decide +kernel
theorem dM_clock_37 : decode cM_clock 37 = .ok (.lload_n 2, 1) := by decide +kernel
theorem dM_clock_38 : decode cM_clock 38 = .ok (.lload 4, 2) := by decide +kernel
theorem dM_clock_40 : decode cM_clock 40 = .ok (.lconst 1, 1) := by decide +kernel
theorem dM_clock_41 : decode cM_clock 41 = .ok (.lsub, 1) := by decide +kernel
theorem dM_clock_42 : decode cM_clock 42 = .ok (.lcmp, 1) := by decide +kernel
theorem dM_clock_43 : decode cM_clock 43 = .ok (.ifCond .le 6, 3) := by decide +kernel
theorem dM_clock_46 : decode cM_clock 46 = .ok (.bipush (-2), 2) := by decide +kernel
theorem dM_clock_48 : decode cM_clock 48 = .ok (.ireturn, 1) := by decide +kernel
theorem dM_clock_49 : decode cM_clock 49 = .ok (.aload_n 0, 1) := by decide +kernel
theorem dM_clock_50 : decode cM_clock 50 = .ok (.getfield 16, 3) := by decide +kernel
theorem dM_clock_53 : decode cM_clock 53 = .ok (.iload_n 1, 1) := by decide +kernel
theorem dM_clock_54 : decode cM_clock 54 = .ok (.lload_n 2, 1) := by decide +kernel
theorem dM_clock_55 : decode cM_clock 55 = .ok (.lastore, 1) := by decide +kernel
theorem dM_clock_56 : decode cM_clock 56 = .ok (.aload_n 0, 1) := by decide +kernel
theorem dM_clock_57 : decode cM_clock 57 = .ok (.getfield 19, 3) := by decide +kernel
theorem dM_clock_60 : decode cM_clock 60 = .ok (.iload_n 1, 1) := by decide +kernel
theorem dM_clock_61 : decode cM_clock 61 = .ok (.lload 4, 2) := by decide +kernel
theorem dM_clock_63 : decode cM_clock 63 = .ok (.lastore, 1) := by decide +kernel
theorem dM_clock_64 : decode cM_clock 64 = .ok (.aload_n 0, 1) := by decide +kernel
theorem dM_clock_65 : decode cM_clock 65 = .ok (.iload_n 1, 1) := by decide +kernel
theorem dM_clock_66 : decode cM_clock 66 = .ok (.invokevirtual 58, 3) := by decide +kernel
theorem dM_clock_69 : decode cM_clock 69 = .ok (.l2i, 1) := by decide +kernel
theorem dM_clock_70 : decode cM_clock 70 = .ok (.ireturn, 1) := by decide +kernel
theorem dM_wish_0 : decode cM_wish 0 = .ok (.aload_n 0, 1) := by decide +kernel
theorem dM_wish_1 : decode cM_wish 1 = .ok (.iconst 0, 1) := by decide +kernel
theorem dM_wish_2 : decode cM_wish 2 = .ok (.putfield 39, 3) := by decide +kernel
theorem dM_wish_5 : decode cM_wish 5 = .ok (.aload_n 0, 1) := by decide +kernel
theorem dM_wish_6 : decode cM_wish 6 = .ok (.iload_n 1, 1) := by decide +kernel
theorem dM_wish_7 : decode cM_wish 7 = .ok (.invokevirtual 69, 3) := by decide +kernel
theorem dM_wish_10 : decode cM_wish 10 = .ok (.ifCond .eq 5, 3) := by decide +kernel
theorem dM_wish_13 : decode cM_wish 13 = .ok (.iconst (-1), 1) := by decide +kernel
theorem dM_wish_14 : decode cM_wish 14 = .ok (.ireturn, 1) := by decide +kernel
theorem dM_wish_15 : decode cM_wish 15 = .ok (.lload_n 2, 1) := by decide +kernel
theorem dM_wish_16 : decode cM_wish 16 = .ok (.lconst 0, 1) := by decide +kernel
theorem dM_wish_17 : decode cM_wish 17 = .ok (.lcmp, 1) := by decide +kernel
theorem dM_wish_18 : decode cM_wish 18 = .ok (.ifCond .ge 6, 3) := by decide +kernel
theorem dM_wish_21 : decode cM_wish 21 = .ok (.bipush (-2), 2) := by decide +kernel
theorem dM_wish_23 : decode cM_wish 23 = .ok (.ireturn, 1) := by decide +kernel
theorem dM_wish_24 : decode cM_wish 24 = .ok (.aload_n 0, 1) := by decide +kernel
theorem dM_wish_25 : decode cM_wish 25 = .ok (.getfield 33, 3) := by decide +kernel
theorem dM_wish_28 : decode cM_wish 28 = .ok (.iload_n 1, 1) := by decide +kernel
theorem dM_wish_29 : decode cM_wish 29 = .ok (.iconst 1, 1) := by decide +kernel
theorem dM_wish_30 : decode cM_wish 30 = .ok (.bastore, 1) := by decide +kernel
theorem dM_wish_31 : decode cM_wish 31 = .ok (.aload_n 0, 1) := by decide +kernel
theorem dM_wish_32 : decode cM_wish 32 = .ok (.getfield 36, 3) := by decide +kernel
theorem dM_wish_35 : decode cM_wish 35 = .ok (.iload_n 1, 1) := by decide +kernel
theorem dM_wish_36 : decode cM_wish 36 = .ok (.lload_n 2, 1) := by decide +kernel
theorem dM_wish_37 : decode cM_wish 37 = .ok (.lastore, 1) := by decide +kernel
theorem dM_wish_38 : decode cM_wish 38 = .ok (.aload_n 0, 1) := by decide +kernel
theorem dM_wish_39 : decode cM_wish 39 = .ok (.iload_n 1, 1) := by decide +kernel
theorem dM_wish_40 : decode cM_wish 40 = .ok (.invokevirtual 66, 3) := by decide +kernel
theorem dM_wish_43 : decode cM_wish 43 = .ok (.lload_n 2, 1) := by decide +kernel
theorem dM_wish_44 : decode cM_wish 44 = .ok (.lcmp, 1) := by decide +kernel
theorem dM_wish_45 : decode cM_wish 45 = .ok (.ifCond .gt 7, 3) := by decide +kernel
theorem dM_wish_48 : decode cM_wish 48 = .ok (.iconst 1, 1) := by decide +kernel
theorem dM_wish_49 : decode cM_wish 49 = .ok (.goto 4, 3) := by decide +kernel
theorem dM_wish_52 : decode cM_wish 52 = .ok (.iconst 0, 1) := by decide +kernel
theorem dM_wish_53 : decode cM_wish 53 = .ok (.ireturn, 1) := by decide +kernel
theorem dM_share_0 : decode cM_share 0 = .ok (.aload_n 0, 1) := by decide +kernel
theorem dM_share_1 : decode cM_share 1 = .ok (.iconst 0, 1) := by decide +kernel
theorem dM_share_2 : decode cM_share 2 = .ok (.putfield 39, 3) := by decide +kernel
theorem dM_share_5 : decode cM_share 5 = .ok (.iload_n 2, 1) := by decide +kernel
theorem dM_share_6 : decode cM_share 6 = .ok (.iconst (-1), 1) := by decide +kernel
theorem dM_share_7 : decode cM_share 7 = .ok (.if_icmp .ne 60, 3) := by decide +kernel
theorem dM_share_10 : decode cM_share 10 = .ok (.iconst 0, 1) := by decide +kernel
theorem dM_share_11 : decode cM_share 11 = .ok (.istore_n 3, 1) := by decide +kernel
theorem dM_share_12 : decode cM_share 12 = .ok (.iconst 1, 1) := by decide +kernel
theorem dM_share_13 : decode cM_share 13 = .ok (.istore 4, 2) := by decide +kernel
theorem dM_share_15 : decode cM_share 15 = .ok (.iload 4, 2) := by decide +kernel
theorem dM_share_17 : decode cM_share 17 = .ok (.aload_n 0, 1) := by decide +kernel
theorem dM_share_18 : decode cM_share 18 = .ok (.getfield 48, 3) := by decide +kernel
theorem dM_share_21 : decode cM_share 21 = .ok (.if_icmp .gt 44, 3) := by decide +kernel
theorem dM_share_24 : decode cM_share 24 = .ok (.aload_n 0, 1) := by decide +kernel
theorem dM_share_25 : decode cM_share 25 = .ok (.getfield 33, 3) := by decide +kernel
theorem dM_share_28 : decode cM_share 28 = .ok (.iload 4, 2) := by decide +kernel
theorem dM_share_30 : decode cM_share 30 = .ok (.baload, 1) := by decide +kernel
theorem dM_share_31 : decode cM_share 31 = .ok (.ifCond .eq 26, 3) := by decide +kernel
theorem dM_share_34 : decode cM_share 34 = .ok (.aload_n 0, 1) := by decide +kernel
theorem dM_share_35 : decode cM_share 35 = .ok (.iload 4, 2) := by decide +kernel
theorem dM_share_37 : decode cM_share 37 = .ok (.invokevirtual 66, 3) := by decide +kernel
theorem dM_share_40 : decode cM_share 40 = .ok (.aload_n 0, 1) := by decide +kernel
theorem dM_share_41 : decode cM_share 41 = .ok (.getfield 36, 3) := by decide +kernel
theorem dM_share_44 : decode cM_share 44 = .ok (.iload 4, 2) := by decide +kernel
theorem dM_share_46 : decode cM_share 46 = .ok (.laload, 1) := by decide +kernel
theorem dM_share_47 : decode cM_share 47 = .ok (.lcmp, 1) := by decide +kernel
theorem dM_share_48 : decode cM_share 48 = .ok (.ifCond .gt 9, 3) := by decide +kernel
theorem dM_share_51 : decode cM_share 51 = .ok (.iload_n 3, 1) := by decide +kernel
theorem dM_share_52 : decode cM_share 52 = .ok (.iconst 1, 1) := by decide +kernel
theorem dM_share_53 : decode cM_share 53 = .ok (.iadd, 1) := by decide +kernel
theorem dM_share_54 : decode cM_share 54 = .ok (.goto 4, 3) := by decide +kernel
theorem dM_share_57 : decode cM_share 57 = .ok (.iload_n 3, 1) := by decide +kernel
theorem dM_share_58 : decode cM_share 58 = .ok (.istore_n 3, 1) := by decide +kernel
theorem dM_share_59 : decode cM_share 59 = .ok (.iinc 4 1, 3) := by decide +kernel
theorem dM_share_62 : decode cM_share 62 = .ok (.goto (-47), 3) := by decide +kernel
theorem dM_share_65 : decode cM_share 65 = .ok (.iload_n 3, 1) := by decide +kernel
theorem dM_share_66 : decode cM_share 66 = .ok (.ireturn, 1) := by decide +kernel
theorem dM_share_67 : decode cM_share 67 = .ok (.aload_n 0, 1) := by decide +kernel
theorem dM_share_68 : decode cM_share 68 = .ok (.iload_n 1, 1) := by decide +kernel
theorem dM_share_69 : decode cM_share 69 = .ok (.invokevirtual 51, 3) := by decide +kernel
theorem dM_share_72 : decode cM_share 72 = .ok (.ifCond .ne 27, 3) := by decide +kernel
theorem dM_share_75 : decode cM_share 75 = .ok (.iload_n 2, 1) := by decide +kernel
theorem dM_share_76 : decode cM_share 76 = .ok (.ifCond .lt 23, 3) := by decide +kernel
theorem dM_share_79 : decode cM_share 79 = .ok (.iload_n 2, 1) := by decide +kernel
theorem dM_share_80 : decode cM_share 80 = .ok (.aload_n 0, 1) := by decide +kernel
theorem dM_share_81 : decode cM_share 81 = .ok (.getfield 30, 3) := by decide +kernel
theorem dM_share_84 : decode cM_share 84 = .ok (.iload_n 1, 1) := by decide +kernel
theorem dM_share_85 : decode cM_share 85 = .ok (.iaload, 1) := by decide +kernel
theorem dM_share_86 : decode cM_share 86 = .ok (.if_icmp .ge 13, 3) := by decide +kernel
theorem dM_share_89 : decode cM_share 89 = .ok (.aload_n 0, 1) := by decide +kernel
theorem dM_share_90 : decode cM_share 90 = .ok (.iload_n 1, 1) := by decide +kernel
theorem dM_share_91 : decode cM_share 91 = .ok (.invokevirtual 66, 3) := by decide +kernel
theorem dM_share_94 : decode cM_share 94 = .ok (.lconst 0, 1) := by decide +kernel
theorem dM_share_95 : decode cM_share 95 = .ok (.lcmp, 1) := by decide +kernel
theorem dM_share_96 : decode cM_share 96 = .ok (.ifCond .ne 5, 3) := by decide +kernel
theorem dM_share_99 : decode cM_share 99 = .ok (.iconst (-1), 1) := by decide +kernel
theorem dM_share_100 : decode cM_share 100 = .ok (.ireturn, 1) := by decide +kernel
theorem dM_share_101 : decode cM_share 101 = .ok (.ldc2_w 79, 3) := by decide +kernel
theorem dM_share_104 : decode cM_share 104 = .ok (.aload_n 0, 1) := by decide +kernel
theorem dM_share_105 : decode cM_share 105 = .ok (.iload_n 1, 1) := by decide +kernel
theorem dM_share_106 : decode cM_share 106 = .ok (.iload_n 2, 1) := by decide +kernel
theorem dM_share_107 : decode cM_share 107 = .ok (.invokevirtual 62, 3) := by decide +kernel
theorem dM_share_110 : decode cM_share 110 = .ok (.lmul, 1) := by decide +kernel
theorem dM_share_111 : decode cM_share 111 = .ok (.aload_n 0, 1) := by decide +kernel
theorem dM_share_112 : decode cM_share 112 = .ok (.iload_n 1, 1) := by decide +kernel
theorem dM_share_113 : decode cM_share 113 = .ok (.invokevirtual 66, 3) := by decide +kernel
theorem dM_share_116 : decode cM_share 116 = .ok (.ldiv, 1) := by decide +kernel
theorem dM_share_117 : decode cM_share 117 = .ok (.l2i, 1) := by decide +kernel
theorem dM_share_118 : decode cM_share 118 = .ok (.ireturn, 1) := by decide +kernel
theorem dM_divisor_0 : decode cM_divisor 0 = .ok (.lload_n 0, 1) := by decide +kernel
theorem dM_divisor_1 : decode cM_divisor 1 = .ok (.lstore 4, 2) := by decide +kernel
theorem dM_divisor_3 : decode cM_divisor 3 = .ok (.lload_n 2, 1) := by decide +kernel
theorem dM_divisor_4 : decode cM_divisor 4 = .ok (.lstore 6, 2) := by decide +kernel
theorem dM_divisor_6 : decode cM_divisor 6 = .ok (.lload 6, 2) := by decide +kernel
theorem dM_divisor_8 : decode cM_divisor 8 = .ok (.lconst 0, 1) := by decide +kernel
theorem dM_divisor_9 : decode cM_divisor 9 = .ok (.lcmp, 1) := by decide +kernel
theorem dM_divisor_10 : decode cM_divisor 10 = .ok (.ifCond .eq 21, 3) := by decide +kernel
theorem dM_divisor_13 : decode cM_divisor 13 = .ok (.lload 4, 2) := by decide +kernel
theorem dM_divisor_15 : decode cM_divisor 15 = .ok (.lload 6, 2) := by decide +kernel
theorem dM_divisor_17 : decode cM_divisor 17 = .ok (.lrem, 1) := by decide +kernel
theorem dM_divisor_18 : decode cM_divisor 18 = .ok (.lstore 8, 2) := by decide +kernel
theorem dM_divisor_20 : decode cM_divisor 20 = .ok (.lload 6, 2) := by decide +kernel
theorem dM_divisor_22 : decode cM_divisor 22 = .ok (.lstore 4, 2) := by decide +kernel
theorem dM_divisor_24 : decode cM_divisor 24 = .ok (.lload 8, 2) := by decide +kernel
theorem dM_divisor_26 : decode cM_divisor 26 = .ok (.lstore 6, 2) := by decide +kernel
theorem dM_divisor_28 : decode cM_divisor 28 = .ok (.goto (-22), 3) := by decide +kernel
theorem dM_divisor_31 : decode cM_divisor 31 = .ok (.lload 4, 2) := by decide +kernel
theorem dM_divisor_33 : decode cM_divisor 33 = .ok (.lreturn, 1) := by decide +kernel
theorem dM_cycle_0 : decode cM_cycle 0 = .ok (.aload_n 0, 1) := by decide +kernel
theorem dM_cycle_1 : decode cM_cycle 1 = .ok (.iconst 0, 1) := by decide +kernel
theorem dM_cycle_2 : decode cM_cycle 2 = .ok (.putfield 39, 3) := by decide +kernel
theorem dM_cycle_5 : decode cM_cycle 5 = .ok (.aload_n 0, 1) := by decide +kernel
theorem dM_cycle_6 : decode cM_cycle 6 = .ok (.iload_n 1, 1) := by decide +kernel
theorem dM_cycle_7 : decode cM_cycle 7 = .ok (.invokevirtual 69, 3) := by decide +kernel
theorem dM_cycle_10 : decode cM_cycle 10 = .ok (.ifCond .eq 7, 3) := by decide +kernel
theorem dM_cycle_13 : decode cM_cycle 13 = .ok (.ldc2_w 72, 3) := by decide +kernel
theorem dM_cycle_16 : decode cM_cycle 16 = .ok (.lreturn, 1) := by decide +kernel
theorem dM_cycle_17 : decode cM_cycle 17 = .ok (.iconst 0, 1) := by decide +kernel
theorem dM_cycle_18 : decode cM_cycle 18 = .ok (.istore_n 2, 1) := by decide +kernel
theorem dM_cycle_19 : decode cM_cycle 19 = .ok (.iload_n 2, 1) := by decide +kernel
theorem dM_cycle_20 : decode cM_cycle 20 = .ok (.aload_n 0, 1) := by decide +kernel
theorem dM_cycle_21 : decode cM_cycle 21 = .ok (.getfield 30, 3) := by decide +kernel
theorem dM_cycle_24 : decode cM_cycle 24 = .ok (.iload_n 1, 1) := by decide +kernel
theorem dM_cycle_25 : decode cM_cycle 25 = .ok (.iaload, 1) := by decide +kernel
theorem dM_cycle_26 : decode cM_cycle 26 = .ok (.if_icmp .ge 42, 3) := by decide +kernel
theorem dM_cycle_29 : decode cM_cycle 29 = .ok (.aload_n 0, 1) := by decide +kernel
theorem dM_cycle_30 : decode cM_cycle 30 = .ok (.aload_n 0, 1) := by decide +kernel
theorem dM_cycle_31 : decode cM_cycle 31 = .ok (.getfield 7, 3) := by decide +kernel
theorem dM_cycle_34 : decode cM_cycle 34 = .ok (.aload_n 0, 1) := by decide +kernel
theorem dM_cycle_35 : decode cM_cycle 35 = .ok (.getfield 22, 3) := by decide +kernel
theorem dM_cycle_38 : decode cM_cycle 38 = .ok (.bipush 12, 2) := by decide +kernel
theorem dM_cycle_40 : decode cM_cycle 40 = .ok (.iload_n 1, 1) := by decide +kernel
theorem dM_cycle_41 : decode cM_cycle 41 = .ok (.imul, 1) := by decide +kernel
theorem dM_cycle_42 : decode cM_cycle 42 = .ok (.iload_n 2, 1) := by decide +kernel
theorem dM_cycle_43 : decode cM_cycle 43 = .ok (.iadd, 1) := by decide +kernel
theorem dM_cycle_44 : decode cM_cycle 44 = .ok (.iaload, 1) := by decide +kernel
theorem dM_cycle_45 : decode cM_cycle 45 = .ok (.laload, 1) := by decide +kernel
theorem dM_cycle_46 : decode cM_cycle 46 = .ok (.lconst 0, 1) := by decide +kernel
theorem dM_cycle_47 : decode cM_cycle 47 = .ok (.lcmp, 1) := by decide +kernel
theorem dM_cycle_48 : decode cM_cycle 48 = .ok (.ifCond .ne 7, 3) := by decide +kernel
theorem dM_cycle_51 : decode cM_cycle 51 = .ok (.iconst 1, 1) := by decide +kernel
theorem dM_cycle_52 : decode cM_cycle 52 = .ok (.goto 7, 3) := by decide +kernel
theorem dM_cycle_55 : decode cM_cycle 55 = .ok (.aload_n 0, 1) := by decide +kernel
theorem dM_cycle_56 : decode cM_cycle 56 = .ok (.getfield 39, 3) := by decide +kernel
theorem dM_cycle_59 : decode cM_cycle 59 = .ok (.putfield 39, 3) := by decide +kernel
theorem dM_cycle_62 : decode cM_cycle 62 = .ok (.iinc 2 1, 3) := by decide +kernel
theorem dM_cycle_65 : decode cM_cycle 65 = .ok (.goto (-46), 3) := by decide +kernel
theorem dM_cycle_68 : decode cM_cycle 68 = .ok (.aload_n 0, 1) := by decide +kernel
theorem dM_cycle_69 : decode cM_cycle 69 = .ok (.getfield 39, 3) := by decide +kernel
theorem dM_cycle_72 : decode cM_cycle 72 = .ok (.ifCond .le 7, 3) := by decide +kernel
theorem dM_cycle_75 : decode cM_cycle 75 = .ok (.lconst 0, 1) := by decide +kernel
theorem dM_cycle_76 : decode cM_cycle 76 = .ok (.goto 12, 3) := by decide +kernel
theorem dM_cycle_79 : decode cM_cycle 79 = .ok (.aload_n 0, 1) := by decide +kernel
theorem dM_cycle_80 : decode cM_cycle 80 = .ok (.iload_n 1, 1) := by decide +kernel
theorem dM_cycle_81 : decode cM_cycle 81 = .ok (.iconst 1, 1) := by decide +kernel
theorem dM_cycle_82 : decode cM_cycle 82 = .ok (.ldc2_w 81, 3) := by decide +kernel
theorem dM_cycle_85 : decode cM_cycle 85 = .ok (.invokevirtual 83, 3) := by decide +kernel
theorem dM_cycle_88 : decode cM_cycle 88 = .ok (.lreturn, 1) := by decide +kernel
theorem dM_common_0 : decode cM_common 0 = .ok (.lconst 1, 1) := by decide +kernel
theorem dM_common_1 : decode cM_common 1 = .ok (.lstore 5, 2) := by decide +kernel
theorem dM_common_3 : decode cM_common 3 = .ok (.iconst 0, 1) := by decide +kernel
theorem dM_common_4 : decode cM_common 4 = .ok (.istore 7, 2) := by decide +kernel
theorem dM_common_6 : decode cM_common 6 = .ok (.iload 7, 2) := by decide +kernel
theorem dM_common_8 : decode cM_common 8 = .ok (.aload_n 0, 1) := by decide +kernel
theorem dM_common_9 : decode cM_common 9 = .ok (.getfield 30, 3) := by decide +kernel
theorem dM_common_12 : decode cM_common 12 = .ok (.iload_n 1, 1) := by decide +kernel
theorem dM_common_13 : decode cM_common 13 = .ok (.iaload, 1) := by decide +kernel
theorem dM_common_14 : decode cM_common 14 = .ok (.if_icmp .ge 86, 3) := by decide +kernel
theorem dM_common_17 : decode cM_common 17 = .ok (.aload_n 0, 1) := by decide +kernel
theorem dM_common_18 : decode cM_common 18 = .ok (.getfield 7, 3) := by decide +kernel
theorem dM_common_21 : decode cM_common 21 = .ok (.aload_n 0, 1) := by decide +kernel
theorem dM_common_22 : decode cM_common 22 = .ok (.getfield 22, 3) := by decide +kernel
theorem dM_common_25 : decode cM_common 25 = .ok (.bipush 12, 2) := by decide +kernel
theorem dM_common_27 : decode cM_common 27 = .ok (.iload_n 1, 1) := by decide +kernel
theorem dM_common_28 : decode cM_common 28 = .ok (.imul, 1) := by decide +kernel
theorem dM_common_29 : decode cM_common 29 = .ok (.iload 7, 2) := by decide +kernel
theorem dM_common_31 : decode cM_common 31 = .ok (.iadd, 1) := by decide +kernel
theorem dM_common_32 : decode cM_common 32 = .ok (.iaload, 1) := by decide +kernel
theorem dM_common_33 : decode cM_common 33 = .ok (.laload, 1) := by decide +kernel
theorem dM_common_34 : decode cM_common 34 = .ok (.lstore 8, 2) := by decide +kernel
theorem dM_common_36 : decode cM_common 36 = .ok (.iload_n 2, 1) := by decide +kernel
theorem dM_common_37 : decode cM_common 37 = .ok (.ifCond .ne 18, 3) := by decide +kernel
theorem dM_common_40 : decode cM_common 40 = .ok (.aload_n 0, 1) := by decide +kernel
theorem dM_common_41 : decode cM_common 41 = .ok (.getfield 26, 3) := by decide +kernel
theorem dM_common_44 : decode cM_common 44 = .ok (.bipush 12, 2) := by decide +kernel
theorem dM_common_46 : decode cM_common 46 = .ok (.iload_n 1, 1) := by decide +kernel
theorem dM_common_47 : decode cM_common 47 = .ok (.imul, 1) := by decide +kernel
theorem dM_common_48 : decode cM_common 48 = .ok (.iload 7, 2) := by decide +kernel
theorem dM_common_50 : decode cM_common 50 = .ok (.iadd, 1) := by decide +kernel
theorem dM_common_51 : decode cM_common 51 = .ok (.baload, 1) := by decide +kernel
theorem dM_common_52 : decode cM_common 52 = .ok (.ifCond .ne 42, 3) := by decide +kernel
theorem dM_common_55 : decode cM_common 55 = .ok (.lload 5, 2) := by decide +kernel
theorem dM_common_57 : decode cM_common 57 = .ok (.lload 5, 2) := by decide +kernel
theorem dM_common_59 : decode cM_common 59 = .ok (.lload 8, 2) := by decide +kernel
theorem dM_common_61 : decode cM_common 61 = .ok (.invokestatic 87, 3) := by decide +kernel
theorem dM_common_64 : decode cM_common 64 = .ok (.ldiv, 1) := by decide +kernel
theorem dM_common_65 : decode cM_common 65 = .ok (.lload 8, 2) := by decide +kernel
theorem dM_common_67 : decode cM_common 67 = .ok (.lmul, 1) := by decide +kernel
theorem dM_common_68 : decode cM_common 68 = .ok (.lstore 5, 2) := by decide +kernel
theorem dM_common_70 : decode cM_common 70 = .ok (.lload 5, 2) := by decide +kernel
theorem dM_common_72 : decode cM_common 72 = .ok (.lload_n 3, 1) := by decide +kernel
theorem dM_common_73 : decode cM_common 73 = .ok (.lcmp, 1) := by decide +kernel
theorem dM_common_74 : decode cM_common 74 = .ok (.ifCond .le 7, 3) := by decide +kernel
theorem dM_common_77 : decode cM_common 77 = .ok (.lload_n 3, 1) := by decide +kernel
theorem dM_common_78 : decode cM_common 78 = .ok (.goto 5, 3) := by decide +kernel
theorem dM_common_81 : decode cM_common 81 = .ok (.lload 5, 2) := by decide +kernel
theorem dM_common_83 : decode cM_common 83 = .ok (.lstore 5, 2) := by decide +kernel
theorem dM_common_85 : decode cM_common 85 = .ok (.lload 5, 2) := by decide +kernel
theorem dM_common_87 : decode cM_common 87 = .ok (.lload_n 3, 1) := by decide +kernel
theorem dM_common_88 : decode cM_common 88 = .ok (.lcmp, 1) := by decide +kernel
theorem dM_common_89 : decode cM_common 89 = .ok (.ifCond .ne 5, 3) := by decide +kernel
theorem dM_common_92 : decode cM_common 92 = .ok (.lload_n 3, 1) := by decide +kernel
theorem dM_common_93 : decode cM_common 93 = .ok (.lreturn, 1) := by decide +kernel
theorem dM_common_94 : decode cM_common 94 = .ok (.iinc 7 1, 3) := by decide +kernel
theorem dM_common_97 : decode cM_common 97 = .ok (.goto (-91), 3) := by decide +kernel
theorem dM_common_100 : decode cM_common 100 = .ok (.lload 5, 2) := by decide +kernel
theorem dM_common_102 : decode cM_common 102 = .ok (.lreturn, 1) := by decide +kernel
theorem dM_isPlain_0 : decode cM_isPlain 0 = .ok (.iconst 1, 1) := by decide +kernel
theorem dM_isPlain_1 : decode cM_isPlain 1 = .ok (.istore_n 2, 1) := by decide +kernel
theorem dM_isPlain_2 : decode cM_isPlain 2 = .ok (.iconst 0, 1) := by decide +kernel
theorem dM_isPlain_3 : decode cM_isPlain 3 = .ok (.istore_n 3, 1) := by decide +kernel
theorem dM_isPlain_4 : decode cM_isPlain 4 = .ok (.iload_n 3, 1) := by decide +kernel
theorem dM_isPlain_5 : decode cM_isPlain 5 = .ok (.aload_n 0, 1) := by decide +kernel
theorem dM_isPlain_6 : decode cM_isPlain 6 = .ok (.getfield 30, 3) := by decide +kernel
theorem dM_isPlain_9 : decode cM_isPlain 9 = .ok (.iload_n 1, 1) := by decide +kernel
theorem dM_isPlain_10 : decode cM_isPlain 10 = .ok (.iaload, 1) := by decide +kernel
theorem dM_isPlain_11 : decode cM_isPlain 11 = .ok (.if_icmp .ge 40, 3) := by decide +kernel
theorem dM_isPlain_14 : decode cM_isPlain 14 = .ok (.iload_n 2, 1) := by decide +kernel
theorem dM_isPlain_15 : decode cM_isPlain 15 = .ok (.ifCond .eq 28, 3) := by decide +kernel
theorem dM_isPlain_18 : decode cM_isPlain 18 = .ok (.aload_n 0, 1) := by decide +kernel
theorem dM_isPlain_19 : decode cM_isPlain 19 = .ok (.getfield 16, 3) := by decide +kernel
theorem dM_isPlain_22 : decode cM_isPlain 22 = .ok (.aload_n 0, 1) := by decide +kernel
theorem dM_isPlain_23 : decode cM_isPlain 23 = .ok (.getfield 22, 3) := by decide +kernel
theorem dM_isPlain_26 : decode cM_isPlain 26 = .ok (.bipush 12, 2) := by decide +kernel
theorem dM_isPlain_28 : decode cM_isPlain 28 = .ok (.iload_n 1, 1) := by decide +kernel
theorem dM_isPlain_29 : decode cM_isPlain 29 = .ok (.imul, 1) := by decide +kernel
theorem dM_isPlain_30 : decode cM_isPlain 30 = .ok (.iload_n 3, 1) := by decide +kernel
theorem dM_isPlain_31 : decode cM_isPlain 31 = .ok (.iadd, 1) := by decide +kernel
theorem dM_isPlain_32 : decode cM_isPlain 32 = .ok (.iaload, 1) := by decide +kernel
theorem dM_isPlain_33 : decode cM_isPlain 33 = .ok (.laload, 1) := by decide +kernel
theorem dM_isPlain_34 : decode cM_isPlain 34 = .ok (.lconst 0, 1) := by decide +kernel
theorem dM_isPlain_35 : decode cM_isPlain 35 = .ok (.lcmp, 1) := by decide +kernel
theorem dM_isPlain_36 : decode cM_isPlain 36 = .ok (.ifCond .ne 7, 3) := by decide +kernel
theorem dM_isPlain_39 : decode cM_isPlain 39 = .ok (.iconst 1, 1) := by decide +kernel
theorem dM_isPlain_40 : decode cM_isPlain 40 = .ok (.goto 4, 3) := by decide +kernel
theorem dM_isPlain_43 : decode cM_isPlain 43 = .ok (.iconst 0, 1) := by decide +kernel
theorem dM_isPlain_44 : decode cM_isPlain 44 = .ok (.istore_n 2, 1) := by decide +kernel
theorem dM_isPlain_45 : decode cM_isPlain 45 = .ok (.iinc 3 1, 3) := by decide +kernel
theorem dM_isPlain_48 : decode cM_isPlain 48 = .ok (.goto (-44), 3) := by decide +kernel
theorem dM_isPlain_51 : decode cM_isPlain 51 = .ok (.iload_n 2, 1) := by decide +kernel
theorem dM_isPlain_52 : decode cM_isPlain 52 = .ok (.ifCond .eq 23, 3) := by decide +kernel
theorem dM_isPlain_55 : decode cM_isPlain 55 = .ok (.aload_n 0, 1) := by decide +kernel
theorem dM_isPlain_56 : decode cM_isPlain 56 = .ok (.iload_n 1, 1) := by decide +kernel
theorem dM_isPlain_57 : decode cM_isPlain 57 = .ok (.iconst 0, 1) := by decide +kernel
theorem dM_isPlain_58 : decode cM_isPlain 58 = .ok (.ldc2_w 91, 3) := by decide +kernel
theorem dM_isPlain_61 : decode cM_isPlain 61 = .ok (.invokevirtual 83, 3) := by decide +kernel
theorem dM_isPlain_64 : decode cM_isPlain 64 = .ok (.ldc2_w 43, 3) := by decide +kernel
theorem dM_isPlain_67 : decode cM_isPlain 67 = .ok (.lcmp, 1) := by decide +kernel
theorem dM_isPlain_68 : decode cM_isPlain 68 = .ok (.ifCond .gt 7, 3) := by decide +kernel
theorem dM_isPlain_71 : decode cM_isPlain 71 = .ok (.iconst 1, 1) := by decide +kernel
theorem dM_isPlain_72 : decode cM_isPlain 72 = .ok (.goto 4, 3) := by decide +kernel
theorem dM_isPlain_75 : decode cM_isPlain 75 = .ok (.iconst 0, 1) := by decide +kernel
theorem dM_isPlain_76 : decode cM_isPlain 76 = .ok (.ireturn, 1) := by decide +kernel
theorem dM_stepped_0 : decode cM_stepped 0 = .ok (.aload_n 0, 1) := by decide +kernel
theorem dM_stepped_1 : decode cM_stepped 1 = .ok (.iconst 0, 1) := by decide +kernel
theorem dM_stepped_2 : decode cM_stepped 2 = .ok (.putfield 39, 3) := by decide +kernel
theorem dM_stepped_5 : decode cM_stepped 5 = .ok (.aload_n 0, 1) := by decide +kernel
theorem dM_stepped_6 : decode cM_stepped 6 = .ok (.iload_n 1, 1) := by decide +kernel
theorem dM_stepped_7 : decode cM_stepped 7 = .ok (.invokevirtual 69, 3) := by decide +kernel
theorem dM_stepped_10 : decode cM_stepped 10 = .ok (.ifCond .eq 7, 3) := by decide +kernel
theorem dM_stepped_13 : decode cM_stepped 13 = .ok (.ldc2_w 72, 3) := by decide +kernel
theorem dM_stepped_16 : decode cM_stepped 16 = .ok (.lreturn, 1) := by decide +kernel
theorem dM_stepped_17 : decode cM_stepped 17 = .ok (.aload_n 0, 1) := by decide +kernel
theorem dM_stepped_18 : decode cM_stepped 18 = .ok (.iload_n 1, 1) := by decide +kernel
theorem dM_stepped_19 : decode cM_stepped 19 = .ok (.invokevirtual 93, 3) := by decide +kernel
theorem dM_stepped_22 : decode cM_stepped 22 = .ok (.ifCond .ne 9, 3) := by decide +kernel
theorem dM_stepped_25 : decode cM_stepped 25 = .ok (.aload_n 0, 1) := by decide +kernel
theorem dM_stepped_26 : decode cM_stepped 26 = .ok (.iload_n 1, 1) := by decide +kernel
theorem dM_stepped_27 : decode cM_stepped 27 = .ok (.invokevirtual 66, 3) := by decide +kernel
theorem dM_stepped_30 : decode cM_stepped 30 = .ok (.lreturn, 1) := by decide +kernel
theorem dM_stepped_31 : decode cM_stepped 31 = .ok (.aload_n 0, 1) := by decide +kernel
theorem dM_stepped_32 : decode cM_stepped 32 = .ok (.iload_n 1, 1) := by decide +kernel
theorem dM_stepped_33 : decode cM_stepped 33 = .ok (.iconst 0, 1) := by decide +kernel
theorem dM_stepped_34 : decode cM_stepped 34 = .ok (.ldc2_w 91, 3) := by decide +kernel
theorem dM_stepped_37 : decode cM_stepped 37 = .ok (.invokevirtual 83, 3) := by decide +kernel
theorem dM_stepped_40 : decode cM_stepped 40 = .ok (.lstore_n 2, 1) := by decide +kernel
theorem dM_stepped_41 : decode cM_stepped 41 = .ok (.lconst 0, 1) := by decide +kernel
theorem dM_stepped_42 : decode cM_stepped 42 = .ok (.lstore 4, 2) := by decide +kernel
theorem dM_stepped_44 : decode cM_stepped 44 = .ok (.lconst 0, 1) := by decide +kernel
theorem dM_stepped_45 : decode cM_stepped 45 = .ok (.lstore 6, 2) := by decide +kernel
theorem dM_stepped_47 : decode cM_stepped 47 = .ok (.lload 6, 2) := by decide +kernel
theorem dM_stepped_49 : decode cM_stepped 49 = .ok (.lload_n 2, 1) := by decide +kernel
theorem dM_stepped_50 : decode cM_stepped 50 = .ok (.lcmp, 1) := by decide +kernel
theorem dM_stepped_51 : decode cM_stepped 51 = .ok (.ifCond .ge 135, 3) := by decide +kernel
theorem dM_stepped_54 : decode cM_stepped 54 = .ok (.lload 6, 2) := by decide +kernel
theorem dM_stepped_56 : decode cM_stepped 56 = .ok (.lstore 8, 2) := by decide +kernel
theorem dM_stepped_58 : decode cM_stepped 58 = .ok (.iconst 0, 1) := by decide +kernel
theorem dM_stepped_59 : decode cM_stepped 59 = .ok (.istore 10, 2) := by decide +kernel
theorem dM_stepped_61 : decode cM_stepped 61 = .ok (.iload 10, 2) := by decide +kernel
theorem dM_stepped_63 : decode cM_stepped 63 = .ok (.aload_n 0, 1) := by decide +kernel
theorem dM_stepped_64 : decode cM_stepped 64 = .ok (.getfield 30, 3) := by decide +kernel
theorem dM_stepped_67 : decode cM_stepped 67 = .ok (.iload_n 1, 1) := by decide +kernel
theorem dM_stepped_68 : decode cM_stepped 68 = .ok (.iaload, 1) := by decide +kernel
theorem dM_stepped_69 : decode cM_stepped 69 = .ok (.if_icmp .ge 85, 3) := by decide +kernel
theorem dM_stepped_72 : decode cM_stepped 72 = .ok (.aload_n 0, 1) := by decide +kernel
theorem dM_stepped_73 : decode cM_stepped 73 = .ok (.getfield 22, 3) := by decide +kernel
theorem dM_stepped_76 : decode cM_stepped 76 = .ok (.bipush 12, 2) := by decide +kernel
theorem dM_stepped_78 : decode cM_stepped 78 = .ok (.iload_n 1, 1) := by decide +kernel
theorem dM_stepped_79 : decode cM_stepped 79 = .ok (.imul, 1) := by decide +kernel
theorem dM_stepped_80 : decode cM_stepped 80 = .ok (.iload 10, 2) := by decide +kernel
theorem dM_stepped_82 : decode cM_stepped 82 = .ok (.iadd, 1) := by decide +kernel
theorem dM_stepped_83 : decode cM_stepped 83 = .ok (.iaload, 1) := by decide +kernel
theorem dM_stepped_84 : decode cM_stepped 84 = .ok (.istore 11, 2) := by decide +kernel
theorem dM_stepped_86 : decode cM_stepped 86 = .ok (.aload_n 0, 1) := by decide +kernel
theorem dM_stepped_87 : decode cM_stepped 87 = .ok (.getfield 26, 3) := by decide +kernel
theorem dM_stepped_90 : decode cM_stepped 90 = .ok (.bipush 12, 2) := by decide +kernel
theorem dM_stepped_92 : decode cM_stepped 92 = .ok (.iload_n 1, 1) := by decide +kernel
theorem dM_stepped_93 : decode cM_stepped 93 = .ok (.imul, 1) := by decide +kernel
theorem dM_stepped_94 : decode cM_stepped 94 = .ok (.iload 10, 2) := by decide +kernel
theorem dM_stepped_96 : decode cM_stepped 96 = .ok (.iadd, 1) := by decide +kernel
theorem dM_stepped_97 : decode cM_stepped 97 = .ok (.baload, 1) := by decide +kernel
theorem dM_stepped_98 : decode cM_stepped 98 = .ok (.ifCond .eq 8, 3) := by decide +kernel
theorem dM_stepped_101 : decode cM_stepped 101 = .ok (.lload 8, 2) := by decide +kernel
theorem dM_stepped_103 : decode cM_stepped 103 = .ok (.goto 31, 3) := by decide +kernel
theorem dM_stepped_106 : decode cM_stepped 106 = .ok (.lload 8, 2) := by decide +kernel
theorem dM_stepped_108 : decode cM_stepped 108 = .ok (.aload_n 0, 1) := by decide +kernel
theorem dM_stepped_109 : decode cM_stepped 109 = .ok (.getfield 7, 3) := by decide +kernel
theorem dM_stepped_112 : decode cM_stepped 112 = .ok (.iload 11, 2) := by decide +kernel
theorem dM_stepped_114 : decode cM_stepped 114 = .ok (.laload, 1) := by decide +kernel
theorem dM_stepped_115 : decode cM_stepped 115 = .ok (.ladd, 1) := by decide +kernel
theorem dM_stepped_116 : decode cM_stepped 116 = .ok (.lconst 1, 1) := by decide +kernel
theorem dM_stepped_117 : decode cM_stepped 117 = .ok (.lsub, 1) := by decide +kernel
theorem dM_stepped_118 : decode cM_stepped 118 = .ok (.aload_n 0, 1) := by decide +kernel
theorem dM_stepped_119 : decode cM_stepped 119 = .ok (.getfield 7, 3) := by decide +kernel
theorem dM_stepped_122 : decode cM_stepped 122 = .ok (.iload 11, 2) := by decide +kernel
theorem dM_stepped_124 : decode cM_stepped 124 = .ok (.laload, 1) := by decide +kernel
theorem dM_stepped_125 : decode cM_stepped 125 = .ok (.ldiv, 1) := by decide +kernel
theorem dM_stepped_126 : decode cM_stepped 126 = .ok (.aload_n 0, 1) := by decide +kernel
theorem dM_stepped_127 : decode cM_stepped 127 = .ok (.getfield 7, 3) := by decide +kernel
theorem dM_stepped_130 : decode cM_stepped 130 = .ok (.iload 11, 2) := by decide +kernel
theorem dM_stepped_132 : decode cM_stepped 132 = .ok (.laload, 1) := by decide +kernel
theorem dM_stepped_133 : decode cM_stepped 133 = .ok (.lmul, 1) := by decide +kernel
