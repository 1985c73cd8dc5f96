theorem dM_stepped_134 : decode cM_stepped 134 = .ok (.lstore 8, 2) := by decide +kernel
theorem dM_stepped_136 : decode cM_stepped 136 = .ok (.lload 8, 2) := by decide +kernel
theorem dM_stepped_138 : decode cM_stepped 138 = .ok (.aload_n 0, 1) := by decide +kernel
theorem dM_stepped_139 : decode cM_stepped 139 = .ok (.getfield 13, 3) := by decide +kernel
theorem dM_stepped_142 : decode cM_stepped 142 = .ok (.iload 11, 2) := by decide +kernel
theorem dM_stepped_144 : decode cM_stepped 144 = .ok (.laload, 1) := by decide +kernel
theorem dM_stepped_145 : decode cM_stepped 145 = .ok (.ladd, 1) := by decide +kernel
theorem dM_stepped_146 : decode cM_stepped 146 = .ok (.lstore 8, 2) := by decide +kernel
theorem dM_stepped_148 : decode cM_stepped 148 = .ok (.iinc 10 1, 3) := by decide +kernel
theorem dM_stepped_151 : decode cM_stepped 151 = .ok (.goto (-90), 3) := by decide +kernel
theorem dM_stepped_154 : decode cM_stepped 154 = .ok (.lload 8, 2) := by decide +kernel
theorem dM_stepped_156 : decode cM_stepped 156 = .ok (.lload 6, 2) := by decide +kernel
theorem dM_stepped_158 : decode cM_stepped 158 = .ok (.lsub, 1) := by decide +kernel
theorem dM_stepped_159 : decode cM_stepped 159 = .ok (.lload 4, 2) := by decide +kernel
theorem dM_stepped_161 : decode cM_stepped 161 = .ok (.lcmp, 1) := by decide +kernel
theorem dM_stepped_162 : decode cM_stepped 162 = .ok (.ifCond .le 11, 3) := by decide +kernel
theorem dM_stepped_165 : decode cM_stepped 165 = .ok (.lload 8, 2) := by decide +kernel
theorem dM_stepped_167 : decode cM_stepped 167 = .ok (.lload 6, 2) := by decide +kernel
theorem dM_stepped_169 : decode cM_stepped 169 = .ok (.lsub, 1) := by decide +kernel
theorem dM_stepped_170 : decode cM_stepped 170 = .ok (.goto 5, 3) := by decide +kernel
theorem dM_stepped_173 : decode cM_stepped 173 = .ok (.lload 4, 2) := by decide +kernel
theorem dM_stepped_175 : decode cM_stepped 175 = .ok (.lstore 4, 2) := by decide +kernel
theorem dM_stepped_177 : decode cM_stepped 177 = .ok (.lload 6, 2) := by decide +kernel
theorem dM_stepped_179 : decode cM_stepped 179 = .ok (.lconst 1, 1) := by decide +kernel
theorem dM_stepped_180 : decode cM_stepped 180 = .ok (.ladd, 1) := by decide +kernel
theorem dM_stepped_181 : decode cM_stepped 181 = .ok (.lstore 6, 2) := by decide +kernel
theorem dM_stepped_183 : decode cM_stepped 183 = .ok (.goto (-136), 3) := by decide +kernel
theorem dM_stepped_186 : decode cM_stepped 186 = .ok (.lload 4, 2) := by decide +kernel
theorem dM_stepped_188 : decode cM_stepped 188 = .ok (.lreturn, 1) := by decide +kernel
theorem dM_plain_0 : decode cM_plain 0 = .ok (.aload_n 0, 1) := by decide +kernel
theorem dM_plain_1 : decode cM_plain 1 = .ok (.iconst 0, 1) := by decide +kernel
theorem dM_plain_2 : decode cM_plain 2 = .ok (.putfield 39, 3) := by decide +kernel
theorem dM_plain_5 : decode cM_plain 5 = .ok (.aload_n 0, 1) := by decide +kernel
theorem dM_plain_6 : decode cM_plain 6 = .ok (.iload_n 1, 1) := by decide +kernel
theorem dM_plain_7 : decode cM_plain 7 = .ok (.invokevirtual 69, 3) := by decide +kernel
theorem dM_plain_10 : decode cM_plain 10 = .ok (.ifCond .ne 15, 3) := by decide +kernel
theorem dM_plain_13 : decode cM_plain 13 = .ok (.aload_n 0, 1) := by decide +kernel
theorem dM_plain_14 : decode cM_plain 14 = .ok (.iload_n 1, 1) := by decide +kernel
theorem dM_plain_15 : decode cM_plain 15 = .ok (.invokevirtual 93, 3) := by decide +kernel
theorem dM_plain_18 : decode cM_plain 18 = .ok (.ifCond .eq 7, 3) := by decide +kernel
theorem dM_plain_21 : decode cM_plain 21 = .ok (.iconst 1, 1) := by decide +kernel
theorem dM_plain_22 : decode cM_plain 22 = .ok (.goto 4, 3) := by decide +kernel
theorem dM_plain_25 : decode cM_plain 25 = .ok (.iconst 0, 1) := by decide +kernel
theorem dM_plain_26 : decode cM_plain 26 = .ok (.ireturn, 1) := by decide +kernel
theorem dX0_init_0 : decode cX0_init 0 = .ok (.aload_n 0, 1) := by decide +kernel
theorem dX0_init_1 : decode cX0_init 1 = .ok (.invokespecial 3, 3) := by decide +kernel
theorem dX0_init_4 : decode cX0_init 4 = .ok (.aload_n 0, 1) := by decide +kernel
theorem dX0_init_5 : decode cX0_init 5 = .ok (.bipush 12, 2) := by decide +kernel
theorem dX0_init_7 : decode cX0_init 7 = .ok (.anewarray 9, 3) := by decide +kernel
theorem dX0_init_10 : decode cX0_init 10 = .ok (.putfield 11, 3) := by decide +kernel
theorem dX0_init_13 : decode cX0_init 13 = .ok (.aload_n 0, 1) := by decide +kernel
theorem dX0_init_14 : decode cX0_init 14 = .ok (.bipush 12, 2) := by decide +kernel
theorem dX0_init_16 : decode cX0_init 16 = .ok (.newarray .boolean, 2) := by decide +kernel
theorem dX0_init_18 : decode cX0_init 18 = .ok (.putfield 17, 3) := by decide +kernel
theorem dX0_init_21 : decode cX0_init 21 = .ok (.aload_n 0, 1) := by decide +kernel
theorem dX0_init_22 : decode cX0_init 22 = .ok (.iconst 0, 1) := by decide +kernel
theorem dX0_init_23 : decode cX0_init 23 = .ok (.putfield 21, 3) := by decide +kernel
theorem dX0_init_26 : decode cX0_init 26 = .ok (.aload_n 0, 1) := by decide +kernel
theorem dX0_init_27 : decode cX0_init 27 = .ok (.ldc2_w 25, 3) := by decide +kernel
theorem dX0_init_30 : decode cX0_init 30 = .ok (.putfield 27, 3) := by decide +kernel
theorem dX0_init_33 : decode cX0_init 33 = .ok (.return_, 1) := by decide +kernel
theorem dX0_holds_0 : decode cX0_holds 0 = .ok (.iconst 0, 1) := by decide +kernel
theorem dX0_holds_1 : decode cX0_holds 1 = .ok (.istore_n 2, 1) := by decide +kernel
theorem dX0_holds_2 : decode cX0_holds 2 = .ok (.iload_n 2, 1) := by decide +kernel
theorem dX0_holds_3 : decode cX0_holds 3 = .ok (.aload_n 0, 1) := by decide +kernel
theorem dX0_holds_4 : decode cX0_holds 4 = .ok (.getfield 21, 3) := by decide +kernel
theorem dX0_holds_7 : decode cX0_holds 7 = .ok (.if_icmp .ge 21, 3) := by decide +kernel
theorem dX0_holds_10 : decode cX0_holds 10 = .ok (.aload_n 0, 1) := by decide +kernel
theorem dX0_holds_11 : decode cX0_holds 11 = .ok (.getfield 11, 3) := by decide +kernel
theorem dX0_holds_14 : decode cX0_holds 14 = .ok (.iload_n 2, 1) := by decide +kernel
theorem dX0_holds_15 : decode cX0_holds 15 = .ok (.aaload, 1) := by decide +kernel
theorem dX0_holds_16 : decode cX0_holds 16 = .ok (.aload_n 1, 1) := by decide +kernel
theorem dX0_holds_17 : decode cX0_holds 17 = .ok (.if_acmp .ne 5, 3) := by decide +kernel
theorem dX0_holds_20 : decode cX0_holds 20 = .ok (.iconst 1, 1) := by decide +kernel
theorem dX0_holds_21 : decode cX0_holds 21 = .ok (.ireturn, 1) := by decide +kernel
theorem dX0_holds_22 : decode cX0_holds 22 = .ok (.iinc 2 1, 3) := by decide +kernel
theorem dX0_holds_25 : decode cX0_holds 25 = .ok (.goto (-23), 3) := by decide +kernel
theorem dX0_holds_28 : decode cX0_holds 28 = .ok (.iconst 0, 1) := by decide +kernel
theorem dX0_holds_29 : decode cX0_holds 29 = .ok (.ireturn, 1) := by decide +kernel
theorem dX0_append_0 : decode cX0_append 0 = .ok (.aload_n 0, 1) := by decide +kernel
theorem dX0_append_1 : decode cX0_append 1 = .ok (.getfield 21, 3) := by decide +kernel
theorem dX0_append_4 : decode cX0_append 4 = .ok (.bipush 12, 2) := by decide +kernel
theorem dX0_append_6 : decode cX0_append 6 = .ok (.if_icmp .ge 33, 3) := by decide +kernel
theorem dX0_append_9 : decode cX0_append 9 = .ok (.aload_n 0, 1) := by decide +kernel
theorem dX0_append_10 : decode cX0_append 10 = .ok (.getfield 11, 3) := by decide +kernel
theorem dX0_append_13 : decode cX0_append 13 = .ok (.aload_n 0, 1) := by decide +kernel
theorem dX0_append_14 : decode cX0_append 14 = .ok (.getfield 21, 3) := by decide +kernel
theorem dX0_append_17 : decode cX0_append 17 = .ok (.aload_n 1, 1) := by decide +kernel
theorem dX0_append_18 : decode cX0_append 18 = .ok (.aastore, 1) := by decide +kernel
theorem dX0_append_19 : decode cX0_append 19 = .ok (.aload_n 0, 1) := by decide +kernel
theorem dX0_append_20 : decode cX0_append 20 = .ok (.getfield 17, 3) := by decide +kernel
theorem dX0_append_23 : decode cX0_append 23 = .ok (.aload_n 0, 1) := by decide +kernel
theorem dX0_append_24 : decode cX0_append 24 = .ok (.getfield 21, 3) := by decide +kernel
theorem dX0_append_27 : decode cX0_append 27 = .ok (.iload_n 2, 1) := by decide +kernel
theorem dX0_append_28 : decode cX0_append 28 = .ok (.bastore, 1) := by decide +kernel
theorem dX0_append_29 : decode cX0_append 29 = .ok (.aload_n 0, 1) := by decide +kernel
theorem dX0_append_30 : decode cX0_append 30 = .ok (.dup, 1) := by decide +kernel
theorem dX0_append_31 : decode cX0_append 31 = .ok (.getfield 21, 3) := by decide +kernel
theorem dX0_append_34 : decode cX0_append 34 = .ok (.iconst 1, 1) := by decide +kernel
theorem dX0_append_35 : decode cX0_append 35 = .ok (.iadd, 1) := by decide +kernel
theorem dX0_append_36 : decode cX0_append 36 = .ok (.putfield 21, 3) := by decide +kernel
theorem dX0_append_39 : decode cX0_append 39 = .ok (.return_, 1) := by decide +kernel
theorem dX0_broughtBy_0 : decode cX0_broughtBy 0 = .ok (.aload_n 0, 1) := by decide +kernel
theorem dX0_broughtBy_1 : decode cX0_broughtBy 1 = .ok (.getfield 17, 3) := by decide +kernel
theorem dX0_broughtBy_4 : decode cX0_broughtBy 4 = .ok (.iload_n 1, 1) := by decide +kernel
theorem dX0_broughtBy_5 : decode cX0_broughtBy 5 = .ok (.baload, 1) := by decide +kernel
theorem dX0_broughtBy_6 : decode cX0_broughtBy 6 = .ok (.ifCond .eq 25, 3) := by decide +kernel
theorem dX0_broughtBy_9 : decode cX0_broughtBy 9 = .ok (.aload_n 0, 1) := by decide +kernel
theorem dX0_broughtBy_10 : decode cX0_broughtBy 10 = .ok (.getfield 11, 3) := by decide +kernel
theorem dX0_broughtBy_13 : decode cX0_broughtBy 13 = .ok (.iload_n 1, 1) := by decide +kernel
theorem dX0_broughtBy_14 : decode cX0_broughtBy 14 = .ok (.aaload, 1) := by decide +kernel
theorem dX0_broughtBy_15 : decode cX0_broughtBy 15 = .ok (.invokevirtual 31, 3) := by decide +kernel
theorem dX0_broughtBy_18 : decode cX0_broughtBy 18 = .ok (.aload_n 0, 1) := by decide +kernel
theorem dX0_broughtBy_19 : decode cX0_broughtBy 19 = .ok (.getfield 11, 3) := by decide +kernel
theorem dX0_broughtBy_22 : decode cX0_broughtBy 22 = .ok (.iload_n 1, 1) := by decide +kernel
theorem dX0_broughtBy_23 : decode cX0_broughtBy 23 = .ok (.aaload, 1) := by decide +kernel
theorem dX0_broughtBy_24 : decode cX0_broughtBy 24 = .ok (.getfield 35, 3) := by decide +kernel
theorem dX0_broughtBy_27 : decode cX0_broughtBy 27 = .ok (.ladd, 1) := by decide +kernel
theorem dX0_broughtBy_28 : decode cX0_broughtBy 28 = .ok (.goto 12, 3) := by decide +kernel
theorem dX0_broughtBy_31 : decode cX0_broughtBy 31 = .ok (.aload_n 0, 1) := by decide +kernel
theorem dX0_broughtBy_32 : decode cX0_broughtBy 32 = .ok (.getfield 11, 3) := by decide +kernel
theorem dX0_broughtBy_35 : decode cX0_broughtBy 35 = .ok (.iload_n 1, 1) := by decide +kernel
theorem dX0_broughtBy_36 : decode cX0_broughtBy 36 = .ok (.aaload, 1) := by decide +kernel
theorem dX0_broughtBy_37 : decode cX0_broughtBy 37 = .ok (.getfield 35, 3) := by decide +kernel
theorem dX0_broughtBy_40 : decode cX0_broughtBy 40 = .ok (.lreturn, 1) := by decide +kernel
theorem dX0_worstReaction_0 : decode cX0_worstReaction 0 = .ok (.lconst 0, 1) := by decide +kernel
theorem dX0_worstReaction_1 : decode cX0_worstReaction 1 = .ok (.lstore_n 1, 1) := by decide +kernel
theorem dX0_worstReaction_2 : decode cX0_worstReaction 2 = .ok (.iconst 0, 1) := by decide +kernel
theorem dX0_worstReaction_3 : decode cX0_worstReaction 3 = .ok (.istore_n 3, 1) := by decide +kernel
theorem dX0_worstReaction_4 : decode cX0_worstReaction 4 = .ok (.iload_n 3, 1) := by decide +kernel
theorem dX0_worstReaction_5 : decode cX0_worstReaction 5 = .ok (.aload_n 0, 1) := by decide +kernel
theorem dX0_worstReaction_6 : decode cX0_worstReaction 6 = .ok (.getfield 21, 3) := by decide +kernel
theorem dX0_worstReaction_9 : decode cX0_worstReaction 9 = .ok (.if_icmp .ge 17, 3) := by decide +kernel
theorem dX0_worstReaction_12 : decode cX0_worstReaction 12 = .ok (.lload_n 1, 1) := by decide +kernel
theorem dX0_worstReaction_13 : decode cX0_worstReaction 13 = .ok (.aload_n 0, 1) := by decide +kernel
theorem dX0_worstReaction_14 : decode cX0_worstReaction 14 = .ok (.iload_n 3, 1) := by decide +kernel
theorem dX0_worstReaction_15 : decode cX0_worstReaction 15 = .ok (.invokevirtual 38, 3) := by decide +kernel
theorem dX0_worstReaction_18 : decode cX0_worstReaction 18 = .ok (.ladd, 1) := by decide +kernel
theorem dX0_worstReaction_19 : decode cX0_worstReaction 19 = .ok (.lstore_n 1, 1) := by decide +kernel
theorem dX0_worstReaction_20 : decode cX0_worstReaction 20 = .ok (.iinc 3 1, 3) := by decide +kernel
theorem dX0_worstReaction_23 : decode cX0_worstReaction 23 = .ok (.goto (-19), 3) := by decide +kernel
theorem dX0_worstReaction_26 : decode cX0_worstReaction 26 = .ok (.lload_n 1, 1) := by decide +kernel
theorem dX0_worstReaction_27 : decode cX0_worstReaction 27 = .ok (.lreturn, 1) := by decide +kernel
theorem dX0_worstAge_0 : decode cX0_worstAge 0 = .ok (.lconst 0, 1) := by decide +kernel
theorem dX0_worstAge_1 : decode cX0_worstAge 1 = .ok (.lstore_n 1, 1) := by decide +kernel
theorem dX0_worstAge_2 : decode cX0_worstAge 2 = .ok (.lconst 0, 1) := by decide +kernel
theorem dX0_worstAge_3 : decode cX0_worstAge 3 = .ok (.lstore_n 3, 1) := by decide +kernel
theorem dX0_worstAge_4 : decode cX0_worstAge 4 = .ok (.iconst 0, 1) := by decide +kernel
theorem dX0_worstAge_5 : decode cX0_worstAge 5 = .ok (.istore 5, 2) := by decide +kernel
theorem dX0_worstAge_7 : decode cX0_worstAge 7 = .ok (.iload 5, 2) := by decide +kernel
theorem dX0_worstAge_9 : decode cX0_worstAge 9 = .ok (.aload_n 0, 1) := by decide +kernel
theorem dX0_worstAge_10 : decode cX0_worstAge 10 = .ok (.getfield 21, 3) := by decide +kernel
theorem dX0_worstAge_13 : decode cX0_worstAge 13 = .ok (.if_icmp .ge 46, 3) := by decide +kernel
theorem dX0_worstAge_16 : decode cX0_worstAge 16 = .ok (.iload 5, 2) := by decide +kernel
theorem dX0_worstAge_18 : decode cX0_worstAge 18 = .ok (.ifCond .ne 14, 3) := by decide +kernel
theorem dX0_worstAge_21 : decode cX0_worstAge 21 = .ok (.aload_n 0, 1) := by decide +kernel
theorem dX0_worstAge_22 : decode cX0_worstAge 22 = .ok (.getfield 11, 3) := by decide +kernel
theorem dX0_worstAge_25 : decode cX0_worstAge 25 = .ok (.iload 5, 2) := by decide +kernel
theorem dX0_worstAge_27 : decode cX0_worstAge 27 = .ok (.aaload, 1) := by decide +kernel
theorem dX0_worstAge_28 : decode cX0_worstAge 28 = .ok (.invokevirtual 31, 3) := by decide +kernel
theorem dX0_worstAge_31 : decode cX0_worstAge 31 = .ok (.lstore_n 1, 1) := by decide +kernel
theorem dX0_worstAge_32 : decode cX0_worstAge 32 = .ok (.aload_n 0, 1) := by decide +kernel
theorem dX0_worstAge_33 : decode cX0_worstAge 33 = .ok (.getfield 17, 3) := by decide +kernel
theorem dX0_worstAge_36 : decode cX0_worstAge 36 = .ok (.iload 5, 2) := by decide +kernel
theorem dX0_worstAge_38 : decode cX0_worstAge 38 = .ok (.baload, 1) := by decide +kernel
theorem dX0_worstAge_39 : decode cX0_worstAge 39 = .ok (.ifCond .eq 14, 3) := by decide +kernel
theorem dX0_worstAge_42 : decode cX0_worstAge 42 = .ok (.aload_n 0, 1) := by decide +kernel
theorem dX0_worstAge_43 : decode cX0_worstAge 43 = .ok (.getfield 11, 3) := by decide +kernel
theorem dX0_worstAge_46 : decode cX0_worstAge 46 = .ok (.iload 5, 2) := by decide +kernel
theorem dX0_worstAge_48 : decode cX0_worstAge 48 = .ok (.aaload, 1) := by decide +kernel
theorem dX0_worstAge_49 : decode cX0_worstAge 49 = .ok (.invokevirtual 31, 3) := by decide +kernel
theorem dX0_worstAge_52 : decode cX0_worstAge 52 = .ok (.lstore_n 3, 1) := by decide +kernel
theorem dX0_worstAge_53 : decode cX0_worstAge 53 = .ok (.iinc 5 1, 3) := by decide +kernel
theorem dX0_worstAge_56 : decode cX0_worstAge 56 = .ok (.goto (-49), 3) := by decide +kernel
theorem dX0_worstAge_59 : decode cX0_worstAge 59 = .ok (.aload_n 0, 1) := by decide +kernel
theorem dX0_worstAge_60 : decode cX0_worstAge 60 = .ok (.invokevirtual 42, 3) := by decide +kernel
theorem dX0_worstAge_63 : decode cX0_worstAge 63 = .ok (.lload_n 1, 1) := by decide +kernel
theorem dX0_worstAge_64 : decode cX0_worstAge 64 = .ok (.lsub, 1) := by decide +kernel
theorem dX0_worstAge_65 : decode cX0_worstAge 65 = .ok (.lload_n 3, 1) := by decide +kernel
theorem dX0_worstAge_66 : decode cX0_worstAge 66 = .ok (.ladd, 1) := by decide +kernel
theorem dX0_worstAge_67 : decode cX0_worstAge 67 = .ok (.lreturn, 1) := by decide +kernel
theorem dX0_answersFrom_0 : decode cX0_answersFrom 0 = .ok (.lconst 0, 1) := by decide +kernel
theorem dX0_answersFrom_1 : decode cX0_answersFrom 1 = .ok (.lstore_n 2, 1) := by decide +kernel
theorem dX0_answersFrom_2 : decode cX0_answersFrom 2 = .ok (.iload_n 1, 1) := by decide +kernel
theorem dX0_answersFrom_3 : decode cX0_answersFrom 3 = .ok (.istore 4, 2) := by decide +kernel
theorem dX0_answersFrom_5 : decode cX0_answersFrom 5 = .ok (.iload 4, 2) := by decide +kernel
theorem dX0_answersFrom_7 : decode cX0_answersFrom 7 = .ok (.aload_n 0, 1) := by decide +kernel
theorem dX0_answersFrom_8 : decode cX0_answersFrom 8 = .ok (.getfield 21, 3) := by decide +kernel
theorem dX0_answersFrom_11 : decode cX0_answersFrom 11 = .ok (.if_icmp .ge 22, 3) := by decide +kernel
theorem dX0_answersFrom_14 : decode cX0_answersFrom 14 = .ok (.lload_n 2, 1) := by decide +kernel
theorem dX0_answersFrom_15 : decode cX0_answersFrom 15 = .ok (.aload_n 0, 1) := by decide +kernel
theorem dX0_answersFrom_16 : decode cX0_answersFrom 16 = .ok (.getfield 11, 3) := by decide +kernel
theorem dX0_answersFrom_19 : decode cX0_answersFrom 19 = .ok (.iload 4, 2) := by decide +kernel
theorem dX0_answersFrom_21 : decode cX0_answersFrom 21 = .ok (.aaload, 1) := by decide +kernel
theorem dX0_answersFrom_22 : decode cX0_answersFrom 22 = .ok (.getfield 35, 3) := by decide +kernel
theorem dX0_answersFrom_25 : decode cX0_answersFrom 25 = .ok (.ladd, 1) := by decide +kernel
theorem dX0_answersFrom_26 : decode cX0_answersFrom 26 = .ok (.lstore_n 2, 1) := by decide +kernel
theorem dX0_answersFrom_27 : decode cX0_answersFrom 27 = .ok (.iinc 4 1, 3) := by decide +kernel
theorem dX0_answersFrom_30 : decode cX0_answersFrom 30 = .ok (.goto (-25), 3) := by decide +kernel
theorem dX0_answersFrom_33 : decode cX0_answersFrom 33 = .ok (.lload_n 2, 1) := by decide +kernel
theorem dX0_answersFrom_34 : decode cX0_answersFrom 34 = .ok (.lreturn, 1) := by decide +kernel
theorem dX0_keepsWish_0 : decode cX0_keepsWish 0 = .ok (.aload_n 0, 1) := by decide +kernel
theorem dX0_keepsWish_1 : decode cX0_keepsWish 1 = .ok (.getfield 27, 3) := by decide +kernel
theorem dX0_keepsWish_4 : decode cX0_keepsWish 4 = .ok (.ldc2_w 25, 3) := by decide +kernel
theorem dX0_keepsWish_7 : decode cX0_keepsWish 7 = .ok (.lcmp, 1) := by decide +kernel
theorem dX0_keepsWish_8 : decode cX0_keepsWish 8 = .ok (.ifCond .eq 19, 3) := by decide +kernel
theorem dX0_keepsWish_11 : decode cX0_keepsWish 11 = .ok (.aload_n 0, 1) := by decide +kernel
theorem dX0_keepsWish_12 : decode cX0_keepsWish 12 = .ok (.invokevirtual 42, 3) := by decide +kernel
theorem dX0_keepsWish_15 : decode cX0_keepsWish 15 = .ok (.aload_n 0, 1) := by decide +kernel
theorem dX0_keepsWish_16 : decode cX0_keepsWish 16 = .ok (.getfield 27, 3) := by decide +kernel
theorem dX0_keepsWish_19 : decode cX0_keepsWish 19 = .ok (.lcmp, 1) := by decide +kernel
theorem dX0_keepsWish_20 : decode cX0_keepsWish 20 = .ok (.ifCond .gt 7, 3) := by decide +kernel
theorem dX0_keepsWish_23 : decode cX0_keepsWish 23 = .ok (.iconst 1, 1) := by decide +kernel
theorem dX0_keepsWish_24 : decode cX0_keepsWish 24 = .ok (.goto 4, 3) := by decide +kernel
theorem dX0_keepsWish_27 : decode cX0_keepsWish 27 = .ok (.iconst 0, 1) := by decide +kernel
theorem dX0_keepsWish_28 : decode cX0_keepsWish 28 = .ok (.ireturn, 1) := by decide +kernel
theorem dX0_lacksPeriod_0 : decode cX0_lacksPeriod 0 = .ok (.iconst 0, 1) := by decide +kernel
theorem dX0_lacksPeriod_1 : decode cX0_lacksPeriod 1 = .ok (.istore_n 1, 1) := by decide +kernel
theorem dX0_lacksPeriod_2 : decode cX0_lacksPeriod 2 = .ok (.iload_n 1, 1) := by decide +kernel
theorem dX0_lacksPeriod_3 : decode cX0_lacksPeriod 3 = .ok (.aload_n 0, 1) := by decide +kernel
theorem dX0_lacksPeriod_4 : decode cX0_lacksPeriod 4 = .ok (.getfield 21, 3) := by decide +kernel
theorem dX0_lacksPeriod_7 : decode cX0_lacksPeriod 7 = .ok (.if_icmp .ge 25, 3) := by decide +kernel
theorem dX0_lacksPeriod_10 : decode cX0_lacksPeriod 10 = .ok (.aload_n 0, 1) := by decide +kernel
theorem dX0_lacksPeriod_11 : decode cX0_lacksPeriod 11 = .ok (.getfield 11, 3) := by decide +kernel
theorem dX0_lacksPeriod_14 : decode cX0_lacksPeriod 14 = .ok (.iload_n 1, 1) := by decide +kernel
theorem dX0_lacksPeriod_15 : decode cX0_lacksPeriod 15 = .ok (.aaload, 1) := by decide +kernel
theorem dX0_lacksPeriod_16 : decode cX0_lacksPeriod 16 = .ok (.getfield 45, 3) := by decide +kernel
theorem dX0_lacksPeriod_19 : decode cX0_lacksPeriod 19 = .ok (.lconst 0, 1) := by decide +kernel
theorem dX0_lacksPeriod_20 : decode cX0_lacksPeriod 20 = .ok (.lcmp, 1) := by decide +kernel
theorem dX0_lacksPeriod_21 : decode cX0_lacksPeriod 21 = .ok (.ifCond .ne 5, 3) := by decide +kernel
theorem dX0_lacksPeriod_24 : decode cX0_lacksPeriod 24 = .ok (.iconst 1, 1) := by decide +kernel
theorem dX0_lacksPeriod_25 : decode cX0_lacksPeriod 25 = .ok (.ireturn, 1) := by decide +kernel
theorem dX0_lacksPeriod_26 : decode cX0_lacksPeriod 26 = .ok (.iinc 1 1, 3) := by decide +kernel
theorem dX0_lacksPeriod_29 : decode cX0_lacksPeriod 29 = .ok (.goto (-27), 3) := by decide +kernel
theorem dX0_lacksPeriod_32 : decode cX0_lacksPeriod 32 = .ok (.iconst 0, 1) := by decide +kernel
theorem dX0_lacksPeriod_33 : decode cX0_lacksPeriod 33 = .ok (.ireturn, 1) := by decide +kernel
theorem dX0_commonCycle_0 : decode cX0_commonCycle 0 = .ok (.lconst 1, 1) := by decide +kernel
theorem dX0_commonCycle_1 : decode cX0_commonCycle 1 = .ok (.lstore_n 2, 1) := by decide +kernel
theorem dX0_commonCycle_2 : decode cX0_commonCycle 2 = .ok (.iconst 0, 1) := by decide +kernel
theorem dX0_commonCycle_3 : decode cX0_commonCycle 3 = .ok (.istore 4, 2) := by decide +kernel
theorem dX0_commonCycle_5 : decode cX0_commonCycle 5 = .ok (.iload 4, 2) := by decide +kernel
theorem dX0_commonCycle_7 : decode cX0_commonCycle 7 = .ok (.aload_n 0, 1) := by decide +kernel
theorem dX0_commonCycle_8 : decode cX0_commonCycle 8 = .ok (.getfield 21, 3) := by decide +kernel
theorem dX0_commonCycle_11 : decode cX0_commonCycle 11 = .ok (.if_icmp .ge 44, 3) := by decide +kernel
theorem dX0_commonCycle_14 : decode cX0_commonCycle 14 = .ok (.aload_n 0, 1) := by decide +kernel
theorem dX0_commonCycle_15 : decode cX0_commonCycle 15 = .ok (.getfield 17, 3) := by decide +kernel
theorem dX0_commonCycle_18 : decode cX0_commonCycle 18 = .ok (.iload 4, 2) := by decide +kernel
theorem dX0_commonCycle_20 : decode cX0_commonCycle 20 = .ok (.baload, 1) := by decide +kernel
theorem dX0_commonCycle_21 : decode cX0_commonCycle 21 = .ok (.ifCond .ne 7, 3) := by decide +kernel
theorem dX0_commonCycle_24 : decode cX0_commonCycle 24 = .ok (.iload_n 1, 1) := by decide +kernel
theorem dX0_commonCycle_25 : decode cX0_commonCycle 25 = .ok (.ifCond .ne 24, 3) := by decide +kernel
theorem dX0_commonCycle_28 : decode cX0_commonCycle 28 = .ok (.ldc2_w 48, 3) := by decide +kernel
theorem dX0_commonCycle_31 : decode cX0_commonCycle 31 = .ok (.lload_n 2, 1) := by decide +kernel
theorem dX0_commonCycle_32 : decode cX0_commonCycle 32 = .ok (.aload_n 0, 1) := by decide +kernel
theorem dX0_commonCycle_33 : decode cX0_commonCycle 33 = .ok (.getfield 11, 3) := by decide +kernel
theorem dX0_commonCycle_36 : decode cX0_commonCycle 36 = .ok (.iload 4, 2) := by decide +kernel
theorem dX0_commonCycle_38 : decode cX0_commonCycle 38 = .ok (.aaload, 1) := by decide +kernel
theorem dX0_commonCycle_39 : decode cX0_commonCycle 39 = .ok (.getfield 45, 3) := by decide +kernel
theorem dX0_commonCycle_42 : decode cX0_commonCycle 42 = .ok (.invokestatic 50, 3) := by decide +kernel
theorem dX0_commonCycle_45 : decode cX0_commonCycle 45 = .ok (.invokestatic 54, 3) := by decide +kernel
theorem dX0_commonCycle_48 : decode cX0_commonCycle 48 = .ok (.lstore_n 2, 1) := by decide +kernel
theorem dX0_commonCycle_49 : decode cX0_commonCycle 49 = .ok (.iinc 4 1, 3) := by decide +kernel
theorem dX0_commonCycle_52 : decode cX0_commonCycle 52 = .ok (.goto (-47), 3) := by decide +kernel
theorem dX0_commonCycle_55 : decode cX0_commonCycle 55 = .ok (.lload_n 2, 1) := by decide +kernel
theorem dX0_commonCycle_56 : decode cX0_commonCycle 56 = .ok (.lreturn, 1) := by decide +kernel
theorem dX0_clocksAreRight_0 : decode cX0_clocksAreRight 0 = .ok (.iconst 0, 1) := by decide +kernel
theorem dX0_clocksAreRight_1 : decode cX0_clocksAreRight 1 = .ok (.istore_n 1, 1) := by decide +kernel
theorem dX0_clocksAreRight_2 : decode cX0_clocksAreRight 2 = .ok (.iload_n 1, 1) := by decide +kernel
theorem dX0_clocksAreRight_3 : decode cX0_clocksAreRight 3 = .ok (.aload_n 0, 1) := by decide +kernel
theorem dX0_clocksAreRight_4 : decode cX0_clocksAreRight 4 = .ok (.getfield 21, 3) := by decide +kernel
theorem dX0_clocksAreRight_7 : decode cX0_clocksAreRight 7 = .ok (.if_icmp .ge 25, 3) := by decide +kernel
theorem dX0_clocksAreRight_10 : decode cX0_clocksAreRight 10 = .ok (.aload_n 0, 1) := by decide +kernel
theorem dX0_clocksAreRight_11 : decode cX0_clocksAreRight 11 = .ok (.getfield 11, 3) := by decide +kernel
theorem dX0_clocksAreRight_14 : decode cX0_clocksAreRight 14 = .ok (.iload_n 1, 1) := by decide +kernel
theorem dX0_clocksAreRight_15 : decode cX0_clocksAreRight 15 = .ok (.aaload, 1) := by decide +kernel
theorem dX0_clocksAreRight_16 : decode cX0_clocksAreRight 16 = .ok (.getfield 59, 3) := by decide +kernel
theorem dX0_clocksAreRight_19 : decode cX0_clocksAreRight 19 = .ok (.lconst 0, 1) := by decide +kernel
theorem dX0_clocksAreRight_20 : decode cX0_clocksAreRight 20 = .ok (.lcmp, 1) := by decide +kernel
theorem dX0_clocksAreRight_21 : decode cX0_clocksAreRight 21 = .ok (.ifCond .eq 5, 3) := by decide +kernel
theorem dX0_clocksAreRight_24 : decode cX0_clocksAreRight 24 = .ok (.iconst 0, 1) := by decide +kernel
theorem dX0_clocksAreRight_25 : decode cX0_clocksAreRight 25 = .ok (.ireturn, 1) := by decide +kernel
theorem dX0_clocksAreRight_26 : decode cX0_clocksAreRight 26 = .ok (.iinc 1 1, 3) := by decide +kernel
theorem dX0_clocksAreRight_29 : decode cX0_clocksAreRight 29 = .ok (.goto (-27), 3) := by decide +kernel
theorem dX0_clocksAreRight_32 : decode cX0_clocksAreRight 32 = .ok (.iconst 1, 1) := by decide +kernel
theorem dX0_clocksAreRight_33 : decode cX0_clocksAreRight 33 = .ok (.ireturn, 1) := by decide +kernel
theorem dX0_canBeStepped_0 : decode cX0_canBeStepped 0 = .ok (.aload_n 0, 1) := by decide +kernel
theorem dX0_canBeStepped_1 : decode cX0_canBeStepped 1 = .ok (.invokevirtual 62, 3) := by decide +kernel
theorem dX0_canBeStepped_4 : decode cX0_canBeStepped 4 = .ok (.ifCond .eq 19, 3) := by decide +kernel
theorem dX0_canBeStepped_7 : decode cX0_canBeStepped 7 = .ok (.aload_n 0, 1) := by decide +kernel
theorem dX0_canBeStepped_8 : decode cX0_canBeStepped 8 = .ok (.iconst 1, 1) := by decide +kernel
theorem dX0_canBeStepped_9 : decode cX0_canBeStepped 9 = .ok (.invokevirtual 66, 3) := by decide +kernel
theorem dX0_canBeStepped_12 : decode cX0_canBeStepped 12 = .ok (.ldc2_w 70, 3) := by decide +kernel
theorem dX0_canBeStepped_15 : decode cX0_canBeStepped 15 = .ok (.lcmp, 1) := by decide +kernel
theorem dX0_canBeStepped_16 : decode cX0_canBeStepped 16 = .ok (.ifCond .gt 7, 3) := by decide +kernel
theorem dX0_canBeStepped_19 : decode cX0_canBeStepped 19 = .ok (.iconst 1, 1) := by decide +kernel
theorem dX0_canBeStepped_20 : decode cX0_canBeStepped 20 = .ok (.goto 4, 3) := by decide +kernel
theorem dX0_canBeStepped_23 : decode cX0_canBeStepped 23 = .ok (.iconst 0, 1) := by decide +kernel
theorem dX0_canBeStepped_24 : decode cX0_canBeStepped 24 = .ok (.ireturn, 1) := by decide +kernel
theorem dX0_longestByStepping_0 : decode cX0_longestByStepping 0 = .ok (.aload_n 0, 1) := by decide +kernel
theorem dX0_longestByStepping_1 : decode cX0_longestByStepping 1 = .ok (.getfield 21, 3) := by decide +kernel
theorem dX0_longestByStepping_4 : decode cX0_longestByStepping 4 = .ok (.ifCond .eq 17, 3) := by decide +kernel
theorem dX0_longestByStepping_7 : decode cX0_longestByStepping 7 = .ok (.aload_n 0, 1) := by decide +kernel
theorem dX0_longestByStepping_8 : decode cX0_longestByStepping 8 = .ok (.getfield 11, 3) := by decide +kernel
theorem dX0_longestByStepping_11 : decode cX0_longestByStepping 11 = .ok (.iconst 0, 1) := by decide +kernel
theorem dX0_longestByStepping_12 : decode cX0_longestByStepping 12 = .ok (.aaload, 1) := by decide +kernel
theorem dX0_longestByStepping_13 : decode cX0_longestByStepping 13 = .ok (.getfield 45, 3) := by decide +kernel
theorem dX0_longestByStepping_16 : decode cX0_longestByStepping 16 = .ok (.lconst 1, 1) := by decide +kernel
theorem dX0_longestByStepping_17 : decode cX0_longestByStepping 17 = .ok (.lcmp, 1) := by decide +kernel
theorem dX0_longestByStepping_18 : decode cX0_longestByStepping 18 = .ok (.ifCond .ge 5, 3) := by decide +kernel
theorem dX0_longestByStepping_21 : decode cX0_longestByStepping 21 = .ok (.lconst 0, 1) := by decide +kernel
theorem dX0_longestByStepping_22 : decode cX0_longestByStepping 22 = .ok (.lreturn, 1) := by decide +kernel
theorem dX0_longestByStepping_23 : decode cX0_longestByStepping 23 = .ok (.aload_n 0, 1) := by decide +kernel
theorem dX0_longestByStepping_24 : decode cX0_longestByStepping 24 = .ok (.getfield 11, 3) := by decide +kernel
theorem dX0_longestByStepping_27 : decode cX0_longestByStepping 27 = .ok (.iconst 0, 1) := by decide +kernel
theorem dX0_longestByStepping_28 : decode cX0_longestByStepping 28 = .ok (.aaload, 1) := by decide +kernel
theorem dX0_longestByStepping_29 : decode cX0_longestByStepping 29 = .ok (.getfield 45, 3) := by decide +kernel
theorem dX0_longestByStepping_32 : decode cX0_longestByStepping 32 = .ok (.lstore_n 1, 1) := by decide +kernel
theorem dX0_longestByStepping_33 : decode cX0_longestByStepping 33 = .ok (.aload_n 0, 1) := by decide +kernel
theorem dX0_longestByStepping_34 : decode cX0_longestByStepping 34 = .ok (.iconst 1, 1) := by decide +kernel
theorem dX0_longestByStepping_35 : decode cX0_longestByStepping 35 = .ok (.invokevirtual 66, 3) := by decide +kernel
theorem dX0_longestByStepping_38 : decode cX0_longestByStepping 38 = .ok (.lload_n 1, 1) := by decide +kernel
theorem dX0_longestByStepping_39 : decode cX0_longestByStepping 39 = .ok (.ldiv, 1) := by decide +kernel
theorem dX0_longestByStepping_40 : decode cX0_longestByStepping 40 = .ok (.lstore_n 3, 1) := by decide +kernel
theorem dX0_longestByStepping_41 : decode cX0_longestByStepping 41 = .ok (.lconst 0, 1) := by decide +kernel
theorem dX0_longestByStepping_42 : decode cX0_longestByStepping 42 = .ok (.lstore 5, 2) := by decide +kernel
theorem dX0_longestByStepping_44 : decode cX0_longestByStepping 44 = .ok (.lconst 0, 1) := by decide +kernel
theorem dX0_longestByStepping_45 : decode cX0_longestByStepping 45 = .ok (.lstore 7, 2) := by decide +kernel
theorem dX0_longestByStepping_47 : decode cX0_longestByStepping 47 = .ok (.lload 7, 2) := by decide +kernel
theorem dX0_longestByStepping_49 : decode cX0_longestByStepping 49 = .ok (.lload_n 3, 1) := by decide +kernel
theorem dX0_longestByStepping_50 : decode cX0_longestByStepping 50 = .ok (.lcmp, 1) := by decide +kernel
theorem dX0_longestByStepping_51 : decode cX0_longestByStepping 51 = .ok (.ifCond .ge 27, 3) := by decide +kernel
theorem dX0_longestByStepping_54 : decode cX0_longestByStepping 54 = .ok (.lload 5, 2) := by decide +kernel
theorem dX0_longestByStepping_56 : decode cX0_longestByStepping 56 = .ok (.aload_n 0, 1) := by decide +kernel
theorem dX0_longestByStepping_57 : decode cX0_longestByStepping 57 = .ok (.lload 7, 2) := by decide +kernel
theorem dX0_longestByStepping_59 : decode cX0_longestByStepping 59 = .ok (.lload_n 1, 1) := by decide +kernel
theorem dX0_longestByStepping_60 : decode cX0_longestByStepping 60 = .ok (.lmul, 1) := by decide +kernel
theorem dX0_longestByStepping_61 : decode cX0_longestByStepping 61 = .ok (.invokevirtual 72, 3) := by decide +kernel
theorem dX0_longestByStepping_64 : decode cX0_longestByStepping 64 = .ok (.invokestatic 76, 3) := by decide +kernel
theorem dX0_longestByStepping_67 : decode cX0_longestByStepping 67 = .ok (.lstore 5, 2) := by decide +kernel
theorem dX0_longestByStepping_69 : decode cX0_longestByStepping 69 = .ok (.lload 7, 2) := by decide +kernel
theorem dX0_longestByStepping_71 : decode cX0_longestByStepping 71 = .ok (.lconst 1, 1) := by decide +kernel
theorem dX0_longestByStepping_72 : decode cX0_longestByStepping 72 = .ok (.ladd, 1) := by decide +kernel
theorem dX0_longestByStepping_73 : decode cX0_longestByStepping 73 = .ok (.lstore 7, 2) := by decide +kernel
theorem dX0_longestByStepping_75 : decode cX0_longestByStepping 75 = .ok (.goto (-28), 3) := by decide +kernel
theorem dX0_longestByStepping_78 : decode cX0_longestByStepping 78 = .ok (.lload_n 1, 1) := by decide +kernel
theorem dX0_longestByStepping_79 : decode cX0_longestByStepping 79 = .ok (.lconst 1, 1) := by decide +kernel
theorem dX0_longestByStepping_80 : decode cX0_longestByStepping 80 = .ok (.lsub, 1) := by decide +kernel
theorem dX0_longestByStepping_81 : decode cX0_longestByStepping 81 = .ok (.lload 5, 2) := by decide +kernel
theorem dX0_longestByStepping_83 : decode cX0_longestByStepping 83 = .ok (.ladd, 1) := by decide +kernel
theorem dX0_longestByStepping_84 : decode cX0_longestByStepping 84 = .ok (.lreturn, 1) := by decide +kernel
theorem dX0_timeFromBegin_0 : decode cX0_timeFromBegin 0 = .ok (.lload_n 1, 1) := by decide +kernel
theorem dX0_timeFromBegin_1 : decode cX0_timeFromBegin 1 = .ok (.lstore_n 3, 1) := by decide +kernel
theorem dX0_timeFromBegin_2 : decode cX0_timeFromBegin 2 = .ok (.iconst 0, 1) := by decide +kernel
theorem dX0_timeFromBegin_3 : decode cX0_timeFromBegin 3 = .ok (.istore 5, 2) := by decide +kernel
theorem dX0_timeFromBegin_5 : decode cX0_timeFromBegin 5 = .ok (.iload 5, 2) := by decide +kernel
theorem dX0_timeFromBegin_7 : decode cX0_timeFromBegin 7 = .ok (.aload_n 0, 1) := by decide +kernel
theorem dX0_timeFromBegin_8 : decode cX0_timeFromBegin 8 = .ok (.getfield 21, 3) := by decide +kernel
theorem dX0_timeFromBegin_11 : decode cX0_timeFromBegin 11 = .ok (.if_icmp .ge 58, 3) := by decide +kernel
theorem dX0_timeFromBegin_14 : decode cX0_timeFromBegin 14 = .ok (.aload_n 0, 1) := by decide +kernel
theorem dX0_timeFromBegin_15 : decode cX0_timeFromBegin 15 = .ok (.getfield 17, 3) := by decide +kernel
theorem dX0_timeFromBegin_18 : decode cX0_timeFromBegin 18 = .ok (.iload 5, 2) := by decide +kernel
theorem dX0_timeFromBegin_20 : decode cX0_timeFromBegin 20 = .ok (.baload, 1) := by decide +kernel
theorem dX0_timeFromBegin_21 : decode cX0_timeFromBegin 21 = .ok (.ifCond .eq 29, 3) := by decide +kernel
theorem dX0_timeFromBegin_24 : decode cX0_timeFromBegin 24 = .ok (.lload_n 3, 1) := by decide +kernel
theorem dX0_timeFromBegin_25 : decode cX0_timeFromBegin 25 = .ok (.aload_n 0, 1) := by decide +kernel
theorem dX0_timeFromBegin_26 : decode cX0_timeFromBegin 26 = .ok (.getfield 11, 3) := by decide +kernel
theorem dX0_timeFromBegin_29 : decode cX0_timeFromBegin 29 = .ok (.iload 5, 2) := by decide +kernel
theorem dX0_timeFromBegin_31 : decode cX0_timeFromBegin 31 = .ok (.aaload, 1) := by decide +kernel
theorem dX0_timeFromBegin_32 : decode cX0_timeFromBegin 32 = .ok (.getfield 45, 3) := by decide +kernel
theorem dX0_timeFromBegin_35 : decode cX0_timeFromBegin 35 = .ok (.invokestatic 79, 3) := by decide +kernel
theorem dX0_timeFromBegin_38 : decode cX0_timeFromBegin 38 = .ok (.aload_n 0, 1) := by decide +kernel
theorem dX0_timeFromBegin_39 : decode cX0_timeFromBegin 39 = .ok (.getfield 11, 3) := by decide +kernel
theorem dX0_timeFromBegin_42 : decode cX0_timeFromBegin 42 = .ok (.iload 5, 2) := by decide +kernel
theorem dX0_timeFromBegin_44 : decode cX0_timeFromBegin 44 = .ok (.aaload, 1) := by decide +kernel
theorem dX0_timeFromBegin_45 : decode cX0_timeFromBegin 45 = .ok (.getfield 45, 3) := by decide +kernel
theorem dX0_timeFromBegin_48 : decode cX0_timeFromBegin 48 = .ok (.lmul, 1) := by decide +kernel
theorem dX0_timeFromBegin_49 : decode cX0_timeFromBegin 49 = .ok (.lstore_n 3, 1) := by decide +kernel
theorem dX0_timeFromBegin_50 : decode cX0_timeFromBegin 50 = .ok (.lload_n 3, 1) := by decide +kernel
theorem dX0_timeFromBegin_51 : decode cX0_timeFromBegin 51 = .ok (.aload_n 0, 1) := by decide +kernel
theorem dX0_timeFromBegin_52 : decode cX0_timeFromBegin 52 = .ok (.getfield 11, 3) := by decide +kernel
theorem dX0_timeFromBegin_55 : decode cX0_timeFromBegin 55 = .ok (.iload 5, 2) := by decide +kernel
theorem dX0_timeFromBegin_57 : decode cX0_timeFromBegin 57 = .ok (.aaload, 1) := by decide +kernel
theorem dX0_timeFromBegin_58 : decode cX0_timeFromBegin 58 = .ok (.getfield 35, 3) := by decide +kernel
theorem dX0_timeFromBegin_61 : decode cX0_timeFromBegin 61 = .ok (.ladd, 1) := by decide +kernel
theorem dX0_timeFromBegin_62 : decode cX0_timeFromBegin 62 = .ok (.lstore_n 3, 1) := by decide +kernel
theorem dX0_timeFromBegin_63 : decode cX0_timeFromBegin 63 = .ok (.iinc 5 1, 3) := by decide +kernel
theorem dX0_timeFromBegin_66 : decode cX0_timeFromBegin 66 = .ok (.goto (-61), 3) := by decide +kernel
theorem dX0_timeFromBegin_69 : decode cX0_timeFromBegin 69 = .ok (.lload_n 3, 1) := by decide +kernel
theorem dX0_timeFromBegin_70 : decode cX0_timeFromBegin 70 = .ok (.lload_n 1, 1) := by decide +kernel
theorem dX0_timeFromBegin_71 : decode cX0_timeFromBegin 71 = .ok (.lsub, 1) := by decide +kernel
theorem dX0_timeFromBegin_72 : decode cX0_timeFromBegin 72 = .ok (.lreturn, 1) := by decide +kernel
theorem dX1_init_0 : decode cX1_init 0 = .ok (.aload_n 0, 1) := by decide +kernel
theorem dX1_init_1 : decode cX1_init 1 = .ok (.invokespecial 1, 3) := by decide +kernel
theorem dX1_init_4 : decode cX1_init 4 = .ok (.aload_n 0, 1) := by decide +kernel
theorem dX1_init_5 : decode cX1_init 5 = .ok (.lload_n 1, 1) := by decide +kernel
theorem dX1_init_6 : decode cX1_init 6 = .ok (.putfield 7, 3) := by decide +kernel
theorem dX1_init_9 : decode cX1_init 9 = .ok (.aload_n 0, 1) := by decide +kernel
theorem dX1_init_10 : decode cX1_init 10 = .ok (.lload_n 3, 1) := by decide +kernel
theorem dX1_init_11 : decode cX1_init 11 = .ok (.putfield 13, 3) := by decide +kernel
theorem dX1_init_14 : decode cX1_init 14 = .ok (.aload_n 0, 1) := by decide +kernel
theorem dX1_init_15 : decode cX1_init 15 = .ok (.lconst 0, 1) := by decide +kernel
theorem dX1_init_16 : decode cX1_init 16 = .ok (.putfield 16, 3) := by decide +kernel
theorem dX1_init_19 : decode cX1_init 19 = .ok (.aload_n 0, 1) := by decide +kernel
theorem dX1_init_20 : decode cX1_init 20 = .ok (.lconst 1, 1) := by decide +kernel
theorem dX1_init_21 : decode cX1_init 21 = .ok (.putfield 19, 3) := by decide +kernel
theorem dX1_init_24 : decode cX1_init 24 = .ok (.return_, 1) := by decide +kernel
theorem dX1_longPeriod_0 : decode cX1_longPeriod 0 = .ok (.aload_n 0, 1) := by decide +kernel
theorem dX1_longPeriod_1 : decode cX1_longPeriod 1 = .ok (.getfield 7, 3) := by decide +kernel
theorem dX1_longPeriod_4 : decode cX1_longPeriod 4 = .ok (.aload_n 0, 1) := by decide +kernel
theorem dX1_longPeriod_5 : decode cX1_longPeriod 5 = .ok (.getfield 19, 3) := by decide +kernel
theorem dX1_longPeriod_8 : decode cX1_longPeriod 8 = .ok (.aload_n 0, 1) := by decide +kernel
theorem dX1_longPeriod_9 : decode cX1_longPeriod 9 = .ok (.getfield 16, 3) := by decide +kernel
theorem dX1_longPeriod_12 : decode cX1_longPeriod 12 = .ok (.ladd, 1) := by decide +kernel
theorem dX1_longPeriod_13 : decode cX1_longPeriod 13 = .ok (.lmul, 1) := by decide +kernel
theorem dX1_longPeriod_14 : decode cX1_longPeriod 14 = .ok (.aload_n 0, 1) := by decide +kernel
theorem dX1_longPeriod_15 : decode cX1_longPeriod 15 = .ok (.getfield 19, 3) := by decide +kernel
theorem dX1_longPeriod_18 : decode cX1_longPeriod 18 = .ok (.invokestatic 22, 3) := by decide +kernel
theorem dX1_longPeriod_21 : decode cX1_longPeriod 21 = .ok (.lreturn, 1) := by decide +kernel
