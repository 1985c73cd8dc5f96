set_option maxHeartbeats 4000000 in
set_option maxRecDepth 100000 in
theorem n_thrown (l : Launch) (D : va_G) (ka : Nat → ClassId) (H0 : Heap) (a : Nat → Nat) (tv np nc : Nat) (pe an up dn rw : Nat → Nat) (so : Nat → Bool) (mn : Nat → Nat) (wd : Nat → Bool) (wv : Nat → Int64)  (hM : va_P D vwCl (mW ka a tv np nc pe an up dn rw so mn wd wv) H0) (hO : mOk np nc pe an up dn rw so mn wd wv) (haI : ∀ i j, i < 10 → j < 10 → a i = a j → i = j)  : Met l yM_thrown (.code yM_thrown cM_thrown 1 (some .int) :: gT) ({ frames := 0, cells := 0, slots := 0, locals := 0 }) (ro_Pc D vwCl (tyL ka) H0 [.ref (a 0)]) (va_Qi (fun (r : Int32) (u : Unit) => r = nI tv) (fun u t => va_P D vwCl (mW ka a tv np nc pe an up dn rw so mn wd wv) t.heap) (mA a)) 0 0 (mA a) := by
  refine Met.ofW (cc := cM_thrown) (maxL := 1) (ret := (some .int)) (by decide) rfl ?_
  intro p e s m args below meth c s₁ B hml hv
  obtain ⟨rfl, hH, hK, hN⟩ := hv
  subst hH
  have hx := B.exec
  have hb := B.bytes
  have hr := B.returns
  have hts : ∀ w ∈ gT, w.before ([.ref (a 0)] : List Value).toArray s = true := fun w h => atoms_spec (ws := (.code yM_thrown cM_thrown 1 (some .int) :: gT)) B.pre w (List.mem_cons_of_mem _ h)
  have hown : s.vm.findClass RM = some m.cls := findClass_of_methodNamed B.named
  have hlocks := B.notSynchronized
  have hl := lv_entry ([.ref (a 0)]) (n := 1) (Nat.le_of_ble_eq_true rfl)
  rw [lg_entry_eq]
  generalize (lg_sl ([.ref (a 0)]) ++ List.replicate (1 - (lg_sl ([.ref (a 0)])).length) Slot.unset).toArray = ls at hl ⊢
  have hl : lv_has ls 1 [(0, .ref (a 0))] := hl
  have hP : va_P D vwCl (mW ka a tv np nc pe an up dn rw so mn wd wv) s.heap := hM
  have hD : va_D (mA a) (mW ka a tv np nc pe an up dn rw so mn wd wv) := mD haI
  have hS : va_S (mA a) s.heap s.heap [] := va_S.rf
  have hnp := hO.1
  have hnc := hO.2.1
  refine lv_aload_n hx hb dM_thrown_0 rfl (lv_at hl 0 rfl) ?_
  refine g_get (cl := vwCl) (ci := 3) (v := .int (nI tv)) hx hb hts inM hown hK (hP.nth 0 rfl) rfl 0 (by decide) (hts _ tb_300) rfl dM_thrown_1 ?_
  exact W.iret (v := nI tv) hx hb hr (fun t ht hW => ⟨⟨_, (), rfl, rfl, by show va_P D vwCl _ t.heap; rw [ht]; exact hP⟩, hS.F ht⟩) hS.2.2 dM_thrown_4
set_option maxHeartbeats 4000000 in
set_option maxRecDepth 100000 in
theorem n_piece (l : Launch) (D : va_G) (ka : Nat → ClassId) (H0 : Heap) (a : Nat → Nat) (tv np nc : Nat) (pe an up dn rw : Nat → Nat) (so : Nat → Bool) (mn : Nat → Nat) (wd : Nat → Bool) (wv : Nat → Int64) (kd : Int32) (x y : Int64) (hM : va_P D vwCl (mW ka a tv np nc pe an up dn rw so mn wd wv) H0) (hO : mOk np nc pe an up dn rw so mn wd wv) (haI : ∀ i j, i < 10 → j < 10 → a i = a j → i = j)  : Met l yM_piece (.code yM_piece cM_piece 6 (some .int) :: gT) ({ frames := 0, cells := 0, slots := 0, locals := 0 }) (ro_Pc D vwCl (tyL ka) H0 [.ref (a 0), .int kd, .long x, .long y]) (va_Qi (fun (r : Int32) (u : MSt) => (u, r) = opPiece np nc pe an up dn rw so mn wd wv kd x y) (fun u t => va_P D vwCl (mWs ka a 0 u) t.heap) (mA a)) 0 0 (mA a) := by
  refine Met.ofW (cc := cM_piece) (maxL := 6) (ret := (some .int)) (by decide) rfl ?_
  intro p e s m args below meth c s₁ B hml hv
  obtain ⟨rfl, hH, hK, hN⟩ := hv
  subst hH
  have hx := B.exec
  have hb := B.bytes
  have hr := B.returns
  have hts : ∀ w ∈ gT, w.before ([.ref (a 0), .int kd, .long x, .long y] : List Value).toArray s = true := fun w h => atoms_spec (ws := (.code yM_piece cM_piece 6 (some .int) :: gT)) B.pre w (List.mem_cons_of_mem _ h)
  have hown : s.vm.findClass RM = some m.cls := findClass_of_methodNamed B.named
  have hlocks := B.notSynchronized
  have hl := lv_entry ([.ref (a 0), .int kd, .long x, .long y]) (n := 6) (Nat.le_of_ble_eq_true rfl)
  rw [lg_entry_eq]
  generalize (lg_sl ([.ref (a 0), .int kd, .long x, .long y]) ++ List.replicate (6 - (lg_sl ([.ref (a 0), .int kd, .long x, .long y])).length) Slot.unset).toArray = ls at hl ⊢
  have hl : lv_has ls 6 [(0, .ref (a 0)), (1, .int kd), (2, .long x), (4, .long y)] := hl
  have hP : va_P D vwCl (mW ka a tv np nc pe an up dn rw so mn wd wv) s.heap := hM
  have hD : va_D (mA a) (mW ka a tv np nc pe an up dn rw so mn wd wv) := mD haI
  have hS : va_S (mA a) s.heap s.heap [] := va_S.rf
  have hnp := hO.1
  have hnc := hO.2.1
  have z2 : (nI 2).toInt = 2 := by decide +kernel
  have z0 : (lN 0).toInt = 0 := by decide +kernel
  have zb : (lN 20000).toInt = 20000 := by decide +kernel
  refine lv_aload_n hx hb dM_piece_0 rfl (lv_at hl 0 rfl) ?_
  refine lv_iconst (v := nI 0) hx hb dM_piece_1 (by decide) ?_
  refine va_put (D := D) (cl := vwCl) (ci := 3) (v := .int (nI 0)) (ty := .int) (C := RM) (T := TM) (N := 12) hx hb hts inM tyM tyM_ok nmM hown hK hP hD hS 0 rfl rfl 0 (by decide) (hts _ tb_300) (fun _ h9 => h9) rfl (by decide +kernel) rfl rfl (Nat.le_of_ble_eq_true rfl) dM_piece_2 (fun H locs hP hD hS => ?_)
  have hP : va_P D vwCl (mW ka a 0 np nc pe an up dn rw so mn wd wv) H := hP
  have hD : va_D (mA a) (mW ka a 0 np nc pe an up dn rw so mn wd wv) := hD
  refine lv_iload_n hx hb dM_piece_5 rfl (lv_at hl 1 rfl) ?_
  refine r_if_lt (tgt := 44) hx hb dM_piece_6 (by decide) (fun q1 => ?_) (fun q1 => ?_)
  · refine lv_bipush (v := (-2)) hx hb dM_piece_44 (by decide) ?_
    exact W.iret (v := (-2)) hx hb hr (fun t ht hW => ⟨⟨_, (mkM np nc pe an up dn rw so mn wd wv), rfl, by rw [opPiece, if_pos (by omega)], by show va_P D vwCl _ t.heap; rw [ht]; exact hP⟩, hS.F ht⟩) hS.2.2 dM_piece_46
  · refine lv_iload_n hx hb dM_piece_9 rfl (lv_at hl 1 rfl) ?_
    refine lv_iconst (v := nI 2) hx hb dM_piece_10 (by decide) ?_
    refine r_icmp_gt (tgt := 44) hx hb dM_piece_11 (by decide) (fun q2 => ?_) (fun q2 => ?_)
    · refine lv_bipush (v := (-2)) hx hb dM_piece_44 (by decide) ?_
      exact W.iret (v := (-2)) hx hb hr (fun t ht hW => ⟨⟨_, (mkM np nc pe an up dn rw so mn wd wv), rfl, by rw [opPiece, if_pos (by omega)], by show va_P D vwCl _ t.heap; rw [ht]; exact hP⟩, hS.F ht⟩) hS.2.2 dM_piece_46
    · refine lv_lload_n hx hb dM_piece_14 rfl (lv_at hl 2 rfl) ?_
      refine lv_lconst (v := lN 0) hx hb dM_piece_15 rfl ?_
      refine r_lcmp_lt (tgt := 44) hx hb dM_piece_16 dM_piece_17 (by decide) (fun q3 => ?_) (fun q3 => ?_)
      · refine lv_bipush (v := (-2)) hx hb dM_piece_44 (by decide) ?_
        exact W.iret (v := (-2)) hx hb hr (fun t ht hW => ⟨⟨_, (mkM np nc pe an up dn rw so mn wd wv), rfl, by rw [opPiece, if_pos (by omega)], by show va_P D vwCl _ t.heap; rw [ht]; exact hP⟩, hS.F ht⟩) hS.2.2 dM_piece_46
      · refine lv_lload_n hx hb dM_piece_20 rfl (lv_at hl 2 rfl) ?_
        refine lv_ldc2 (v := lN 20000) hx hb hown (hts _ tb_347) dM_piece_21 ?_
        refine r_lcmp_gt (tgt := 44) hx hb dM_piece_24 dM_piece_25 (by decide) (fun q4 => ?_) (fun q4 => ?_)
        · refine lv_bipush (v := (-2)) hx hb dM_piece_44 (by decide) ?_
          exact W.iret (v := (-2)) hx hb hr (fun t ht hW => ⟨⟨_, (mkM np nc pe an up dn rw so mn wd wv), rfl, by rw [opPiece, if_pos (by omega)], by show va_P D vwCl _ t.heap; rw [ht]; exact hP⟩, hS.F ht⟩) hS.2.2 dM_piece_46
        · refine lv_lload hx hb dM_piece_28 (lv_at hl 3 rfl) ?_
          refine lv_lconst (v := lN 0) hx hb dM_piece_30 rfl ?_
          refine r_lcmp_lt (tgt := 44) hx hb dM_piece_31 dM_piece_32 (by decide) (fun q5 => ?_) (fun q5 => ?_)
          · refine lv_bipush (v := (-2)) hx hb dM_piece_44 (by decide) ?_
            exact W.iret (v := (-2)) hx hb hr (fun t ht hW => ⟨⟨_, (mkM np nc pe an up dn rw so mn wd wv), rfl, by rw [opPiece, if_pos (by omega)], by show va_P D vwCl _ t.heap; rw [ht]; exact hP⟩, hS.F ht⟩) hS.2.2 dM_piece_46
          · refine lv_lload hx hb dM_piece_35 (lv_at hl 3 rfl) ?_
            refine lv_ldc2 (v := lN 20000) hx hb hown (hts _ tb_347) dM_piece_37 ?_
            refine r_lcmp_le (tgt := 47) hx hb dM_piece_40 dM_piece_41 (by decide) (fun q6 => ?_) (fun q6 => ?_)
            · have hok : ¬ (kd.toInt < 0 ∨ 2 < kd.toInt ∨ x.toInt < 0 ∨ 20000 < x.toInt ∨ y.toInt < 0 ∨ 20000 < y.toInt) := by omega
              obtain ⟨ex, hx9⟩ := lon_of (x := x) (n := 20000) (by omega) (by omega)
              obtain ⟨ey, hy9⟩ := lon_of (x := y) (n := 20000) (by omega) (by omega)
              refine lv_aload_n hx hb dM_piece_47 rfl (lv_at hl 0 rfl) ?_
              refine g_get (cl := vwCl) (ci := 3) (v := .int (nI np)) hx hb hts inM hown hK (hP.nth 0 rfl) rfl 1 (by decide) (hts _ tb_301) rfl dM_piece_48 ?_
              refine lv_bipush (v := nI 30) hx hb dM_piece_51 (by decide) ?_
              refine n_icmp_ne (tgt := 59) hx hb (by omega) (by omega) dM_piece_53 (by decide) (fun q7 => ?_) (fun q7 => ?_)
              · rw [ex, ey] at hl
                have hlt : np < 30 := by omega
                refine lv_aload_n hx hb dM_piece_59 rfl (lv_at hl 0 rfl) ?_
                refine lv_dup hx hb dM_piece_60 rfl ?_
                refine g_get (cl := vwCl) (ci := 3) (v := .int (nI np)) hx hb hts inM hown hK (hP.nth 0 rfl) rfl 1 (by decide) (hts _ tb_301) rfl dM_piece_61 ?_
                refine lv_iconst (v := nI 1) hx hb dM_piece_64 (by decide) ?_
                refine n_iadd hx hb dM_piece_65 ?_
                refine va_put (D := D) (cl := vwCl) (ci := 3) (v := .int (nI (np + 1))) (ty := .int) (C := RM) (T := TM) (N := 12) hx hb hts inM tyM tyM_ok nmM hown hK hP hD hS 0 rfl rfl 1 (by decide) (hts _ tb_301) (fun _ h9 => h9) rfl (by decide +kernel) rfl rfl (Nat.le_of_ble_eq_true rfl) dM_piece_66 (fun H locs hP hD hS => ?_)
                have hP : va_P D vwCl (mW ka a 0 (np + 1) nc pe an up dn rw so mn wd wv) H := hP
                have hD : va_D (mA a) (mW ka a 0 (np + 1) nc pe an up dn rw so mn wd wv) := hD
                refine lv_aload_n hx hb dM_piece_69 rfl (lv_at hl 0 rfl) ?_
                refine g_get (cl := vwCl) (ci := 3) (v := .ref (a 1)) hx hb hts inM hown hK (hP.nth 0 rfl) rfl 2 (by decide) (hts _ tb_302) rfl dM_piece_70 ?_
                refine lv_aload_n hx hb dM_piece_73 rfl (lv_at hl 0 rfl) ?_
                refine g_get (cl := vwCl) (ci := 3) (v := .int (nI (np + 1))) hx hb hts inM hown hK (hP.nth 0 rfl) rfl 1 (by decide) (hts _ tb_301) rfl dM_piece_74 ?_
                refine lv_lload_n hx hb dM_piece_77 rfl (lv_at hl 2 rfl) ?_
                refine g_last hx hb hK hP hD hS 1 3 rfl rfl (by omega) (by decide) upL dM_piece_78 (fun H locs hP hD hS => ?_)
                have hP : va_P D vwCl (mW ka a 0 (np + 1) nc (va_up pe (np + 1) (x.toInt.toNat)) an up dn rw so mn wd wv) H := hP
                have hD : va_D (mA a) (mW ka a 0 (np + 1) nc (va_up pe (np + 1) (x.toInt.toNat)) an up dn rw so mn wd wv) := hD
                refine lv_aload_n hx hb dM_piece_79 rfl (lv_at hl 0 rfl) ?_
                refine g_get (cl := vwCl) (ci := 3) (v := .ref (a 2)) hx hb hts inM hown hK (hP.nth 0 rfl) rfl 3 (by decide) (hts _ tb_303) rfl dM_piece_80 ?_
                refine lv_aload_n hx hb dM_piece_83 rfl (lv_at hl 0 rfl) ?_
                refine g_get (cl := vwCl) (ci := 3) (v := .int (nI (np + 1))) hx hb hts inM hown hK (hP.nth 0 rfl) rfl 1 (by decide) (hts _ tb_301) rfl dM_piece_84 ?_
                refine lv_lload hx hb dM_piece_87 (lv_at hl 3 rfl) ?_
                refine g_last hx hb hK hP hD hS 2 3 rfl rfl (by omega) (by decide) upL dM_piece_89 (fun H locs hP hD hS => ?_)
                have hP : va_P D vwCl (mW ka a 0 (np + 1) nc (va_up pe (np + 1) (x.toInt.toNat)) (va_up an (np + 1) (y.toInt.toNat)) up dn rw so mn wd wv) H := hP
                have hD : va_D (mA a) (mW ka a 0 (np + 1) nc (va_up pe (np + 1) (x.toInt.toNat)) (va_up an (np + 1) (y.toInt.toNat)) up dn rw so mn wd wv) := hD
                refine lv_aload_n hx hb dM_piece_90 rfl (lv_at hl 0 rfl) ?_
                refine g_get (cl := vwCl) (ci := 3) (v := .ref (a 3)) hx hb hts inM hown hK (hP.nth 0 rfl) rfl 4 (by decide) (hts _ tb_304) rfl dM_piece_91 ?_
                refine lv_aload_n hx hb dM_piece_94 rfl (lv_at hl 0 rfl) ?_
                refine g_get (cl := vwCl) (ci := 3) (v := .int (nI (np + 1))) hx hb hts inM hown hK (hP.nth 0 rfl) rfl 1 (by decide) (hts _ tb_301) rfl dM_piece_95 ?_
                refine lv_lconst (v := lN 0) hx hb dM_piece_98 rfl ?_
                refine g_last hx hb hK hP hD hS 3 3 rfl rfl (by omega) (by decide) upL dM_piece_99 (fun H locs hP hD hS => ?_)
                have hP : va_P D vwCl (mW ka a 0 (np + 1) nc (va_up pe (np + 1) (x.toInt.toNat)) (va_up an (np + 1) (y.toInt.toNat)) (va_up up (np + 1) 0) dn rw so mn wd wv) H := hP
                have hD : va_D (mA a) (mW ka a 0 (np + 1) nc (va_up pe (np + 1) (x.toInt.toNat)) (va_up an (np + 1) (y.toInt.toNat)) (va_up up (np + 1) 0) dn rw so mn wd wv) := hD
                refine lv_aload_n hx hb dM_piece_100 rfl (lv_at hl 0 rfl) ?_
                refine g_get (cl := vwCl) (ci := 3) (v := .ref (a 4)) hx hb hts inM hown hK (hP.nth 0 rfl) rfl 5 (by decide) (hts _ tb_305) rfl dM_piece_101 ?_
                refine lv_aload_n hx hb dM_piece_104 rfl (lv_at hl 0 rfl) ?_
                refine g_get (cl := vwCl) (ci := 3) (v := .int (nI (np + 1))) hx hb hts inM hown hK (hP.nth 0 rfl) rfl 1 (by decide) (hts _ tb_301) rfl dM_piece_105 ?_
                refine lv_lconst (v := lN 1) hx hb dM_piece_108 rfl ?_
                refine g_last hx hb hK hP hD hS 4 3 rfl rfl (by omega) (by decide) upL dM_piece_109 (fun H locs hP hD hS => ?_)
                have hP : va_P D vwCl (mW ka a 0 (np + 1) nc (va_up pe (np + 1) (x.toInt.toNat)) (va_up an (np + 1) (y.toInt.toNat)) (va_up up (np + 1) 0) (va_up dn (np + 1) 1) rw so mn wd wv) H := hP
                have hD : va_D (mA a) (mW ka a 0 (np + 1) nc (va_up pe (np + 1) (x.toInt.toNat)) (va_up an (np + 1) (y.toInt.toNat)) (va_up up (np + 1) 0) (va_up dn (np + 1) 1) rw so mn wd wv) := hD
                refine lv_aload_n hx hb dM_piece_110 rfl (lv_at hl 0 rfl) ?_
                refine g_get (cl := vwCl) (ci := 3) (v := .int (nI (np + 1))) hx hb hts inM hown hK (hP.nth 0 rfl) rfl 1 (by decide) (hts _ tb_301) rfl dM_piece_111 ?_
                exact W.iret (v := nI (np + 1)) hx hb hr (fun t ht hW => ⟨⟨_, (mkM (np + 1) nc (va_up pe (np + 1) (x.toInt.toNat)) (va_up an (np + 1) (y.toInt.toNat)) (va_up up (np + 1) 0) (va_up dn (np + 1) 1) rw so mn wd wv), rfl, by rw [opPiece, if_neg hok, if_neg (by omega)], by show va_P D vwCl _ t.heap; rw [ht]; exact hP⟩, hS.F ht⟩) hS.2.2 dM_piece_114
              · refine lv_bipush (v := (-4)) hx hb dM_piece_56 (by decide) ?_
                exact W.iret (v := (-4)) hx hb hr (fun t ht hW => ⟨⟨_, (mkM np nc pe an up dn rw so mn wd wv), rfl, by rw [opPiece, if_neg hok, if_pos (by omega)], by show va_P D vwCl _ t.heap; rw [ht]; exact hP⟩, hS.F ht⟩) hS.2.2 dM_piece_58
            · refine lv_bipush (v := (-2)) hx hb dM_piece_44 (by decide) ?_
              exact W.iret (v := (-2)) hx hb hr (fun t ht hW => ⟨⟨_, (mkM np nc pe an up dn rw so mn wd wv), rfl, by rw [opPiece, if_pos (by omega)], by show va_P D vwCl _ t.heap; rw [ht]; exact hP⟩, hS.F ht⟩) hS.2.2 dM_piece_46
set_option maxHeartbeats 4000000 in
set_option maxRecDepth 100000 in
theorem n_chain (l : Launch) (D : va_G) (ka : Nat → ClassId) (H0 : Heap) (a : Nat → Nat) (tv np nc : Nat) (pe an up dn rw : Nat → Nat) (so : Nat → Bool) (mn : Nat → Nat) (wd : Nat → Bool) (wv : Nat → Int64)  (hM : va_P D vwCl (mW ka a tv np nc pe an up dn rw so mn wd wv) H0) (hO : mOk np nc pe an up dn rw so mn wd wv) (haI : ∀ i j, i < 10 → j < 10 → a i = a j → i = j)  : Met l yM_chain (.code yM_chain cM_chain 1 (some .int) :: gT) ({ frames := 0, cells := 0, slots := 0, locals := 0 }) (ro_Pc D vwCl (tyL ka) H0 [.ref (a 0)]) (va_Qi (fun (r : Int32) (u : MSt) => (u, r) = opChain np nc pe an up dn rw so mn wd wv) (fun u t => va_P D vwCl (mWs ka a 0 u) t.heap) (mA a)) 0 0 (mA a) := by
  refine Met.ofW (cc := cM_chain) (maxL := 1) (ret := (some .int)) (by decide) rfl ?_
  intro p e s m args below meth c s₁ B hml hv
  obtain ⟨rfl, hH, hK, hN⟩ := hv
  subst hH
  have hx := B.exec
  have hb := B.bytes
  have hr := B.returns
  have hts : ∀ w ∈ gT, w.before ([.ref (a 0)] : List Value).toArray s = true := fun w h => atoms_spec (ws := (.code yM_chain cM_chain 1 (some .int) :: gT)) B.pre w (List.mem_cons_of_mem _ h)
  have hown : s.vm.findClass RM = some m.cls := findClass_of_methodNamed B.named
  have hlocks := B.notSynchronized
  have hl := lv_entry ([.ref (a 0)]) (n := 1) (Nat.le_of_ble_eq_true rfl)
  rw [lg_entry_eq]
  generalize (lg_sl ([.ref (a 0)]) ++ List.replicate (1 - (lg_sl ([.ref (a 0)])).length) Slot.unset).toArray = ls at hl ⊢
  have hl : lv_has ls 1 [(0, .ref (a 0))] := hl
  have hP : va_P D vwCl (mW ka a tv np nc pe an up dn rw so mn wd wv) s.heap := hM
  have hD : va_D (mA a) (mW ka a tv np nc pe an up dn rw so mn wd wv) := mD haI
  have hS : va_S (mA a) s.heap s.heap [] := va_S.rf
  have hnp := hO.1
  have hnc := hO.2.1
  refine lv_aload_n hx hb dM_chain_0 rfl (lv_at hl 0 rfl) ?_
  refine lv_iconst (v := nI 0) hx hb dM_chain_1 (by decide) ?_
  refine va_put (D := D) (cl := vwCl) (ci := 3) (v := .int (nI 0)) (ty := .int) (C := RM) (T := TM) (N := 12) hx hb hts inM tyM tyM_ok nmM hown hK hP hD hS 0 rfl rfl 0 (by decide) (hts _ tb_300) (fun _ h9 => h9) rfl (by decide +kernel) rfl rfl (Nat.le_of_ble_eq_true rfl) dM_chain_2 (fun H locs hP hD hS => ?_)
  have hP : va_P D vwCl (mW ka a 0 np nc pe an up dn rw so mn wd wv) H := hP
  have hD : va_D (mA a) (mW ka a 0 np nc pe an up dn rw so mn wd wv) := hD
  refine lv_aload_n hx hb dM_chain_5 rfl (lv_at hl 0 rfl) ?_
  refine g_get (cl := vwCl) (ci := 3) (v := .int (nI nc)) hx hb hts inM hown hK (hP.nth 0 rfl) rfl 6 (by decide) (hts _ tb_306) rfl dM_chain_6 ?_
  refine lv_bipush (v := nI 20) hx hb dM_chain_9 (by decide) ?_
  refine n_icmp_ne (tgt := 17) hx hb (by omega) (by omega) dM_chain_11 (by decide) (fun q7 => ?_) (fun q7 => ?_)
  · have hlt : nc < 20 := by omega
    refine lv_aload_n hx hb dM_chain_17 rfl (lv_at hl 0 rfl) ?_
    refine lv_dup hx hb dM_chain_18 rfl ?_
    refine g_get (cl := vwCl) (ci := 3) (v := .int (nI nc)) hx hb hts inM hown hK (hP.nth 0 rfl) rfl 6 (by decide) (hts _ tb_306) rfl dM_chain_19 ?_
    refine lv_iconst (v := nI 1) hx hb dM_chain_22 (by decide) ?_
    refine n_iadd hx hb dM_chain_23 ?_
    refine va_put (D := D) (cl := vwCl) (ci := 3) (v := .int (nI (nc + 1))) (ty := .int) (C := RM) (T := TM) (N := 12) hx hb hts inM tyM tyM_ok nmM hown hK hP hD hS 0 rfl rfl 6 (by decide) (hts _ tb_306) (fun _ h9 => h9) rfl (by decide +kernel) rfl rfl (Nat.le_of_ble_eq_true rfl) dM_chain_24 (fun H locs hP hD hS => ?_)
    have hP : va_P D vwCl (mW ka a 0 np (nc + 1) pe an up dn rw so mn wd wv) H := hP
    have hD : va_D (mA a) (mW ka a 0 np (nc + 1) pe an up dn rw so mn wd wv) := hD
    refine lv_aload_n hx hb dM_chain_27 rfl (lv_at hl 0 rfl) ?_
    refine g_get (cl := vwCl) (ci := 3) (v := .int (nI (nc + 1))) hx hb hts inM hown hK (hP.nth 0 rfl) rfl 6 (by decide) (hts _ tb_306) rfl dM_chain_28 ?_
    exact W.iret (v := nI (nc + 1)) hx hb hr (fun t ht hW => ⟨⟨_, (mkM np (nc + 1) pe an up dn rw so mn wd wv), rfl, by rw [opChain, if_neg (by omega)], by show va_P D vwCl _ t.heap; rw [ht]; exact hP⟩, hS.F ht⟩) hS.2.2 dM_chain_31
  · refine lv_bipush (v := (-4)) hx hb dM_chain_14 (by decide) ?_
    exact W.iret (v := (-4)) hx hb hr (fun t ht hW => ⟨⟨_, (mkM np nc pe an up dn rw so mn wd wv), rfl, by rw [opChain, if_pos (by omega)], by show va_P D vwCl _ t.heap; rw [ht]; exact hP⟩, hS.F ht⟩) hS.2.2 dM_chain_16
set_option maxHeartbeats 4000000 in
set_option maxRecDepth 100000 in
theorem n_add (l : Launch) (D : va_G) (ka : Nat → ClassId) (H0 : Heap) (a : Nat → Nat) (tv np nc : Nat) (pe an up dn rw : Nat → Nat) (so : Nat → Bool) (mn : Nat → Nat) (wd : Nat → Bool) (wv : Nat → Int64) (x y : Int32) (tr : Bool) (hM : va_P D vwCl (mW ka a tv np nc pe an up dn rw so mn wd wv) H0) (hO : mOk np nc pe an up dn rw so mn wd wv) (haI : ∀ i j, i < 10 → j < 10 → a i = a j → i = j)  : Met l yM_add (.code yM_add cM_add 6 (some .int) :: gT) ({ frames := 1, cells := 0, slots := 0, locals := 21 }) (ro_Pc D vwCl (tyL ka) H0 [.ref (a 0), .int x, .int y, .int (bI tr)]) (va_Qi (fun (r : Int32) (u : MSt) => (u, r) = opAdd np nc pe an up dn rw so mn wd wv x y tr) (fun u t => va_P D vwCl (mWs ka a 0 u) t.heap) (mA a)) 0 0 (mA a) := by
  refine Met.ofW (cc := cM_add) (maxL := 6) (ret := (some .int)) (by decide) rfl ?_
  intro p e s m args below meth c s₁ B hml hv
  obtain ⟨rfl, hH, hK, hN⟩ := hv
  subst hH
  have hx := B.exec
  have hb := B.bytes
  have hr := B.returns
  have hts : ∀ w ∈ gT, w.before ([.ref (a 0), .int x, .int y, .int (bI tr)] : List Value).toArray s = true := fun w h => atoms_spec (ws := (.code yM_add cM_add 6 (some .int) :: gT)) B.pre w (List.mem_cons_of_mem _ h)
  have hown : s.vm.findClass RM = some m.cls := findClass_of_methodNamed B.named
  have hlocks := B.notSynchronized
  have hl := lv_entry ([.ref (a 0), .int x, .int y, .int (bI tr)]) (n := 6) (Nat.le_of_ble_eq_true rfl)
  rw [lg_entry_eq]
  generalize (lg_sl ([.ref (a 0), .int x, .int y, .int (bI tr)]) ++ List.replicate (6 - (lg_sl ([.ref (a 0), .int x, .int y, .int (bI tr)])).length) Slot.unset).toArray = ls at hl ⊢
  have hl : lv_has ls 6 [(0, .ref (a 0)), (1, .int x), (2, .int y), (3, .int (bI tr))] := hl
  have hP : va_P D vwCl (mW ka a tv np nc pe an up dn rw so mn wd wv) s.heap := hM
  have hD : va_D (mA a) (mW ka a tv np nc pe an up dn rw so mn wd wv) := mD haI
  have hS : va_S (mA a) s.heap s.heap [] := va_S.rf
  have hnp := hO.1
  have hnc := hO.2.1
  refine lv_aload_n hx hb dM_add_0 rfl (lv_at hl 0 rfl) ?_
  refine lv_iconst (v := nI 0) hx hb dM_add_1 (by decide) ?_
  refine va_put (D := D) (cl := vwCl) (ci := 3) (v := .int (nI 0)) (ty := .int) (C := RM) (T := TM) (N := 12) hx hb hts inM tyM tyM_ok nmM hown hK hP hD hS 0 rfl rfl 0 (by decide) (hts _ tb_300) (fun _ h9 => h9) rfl (by decide +kernel) rfl rfl (Nat.le_of_ble_eq_true rfl) dM_add_2 (fun H locs hP hD hS => ?_)
  have hP : va_P D vwCl (mW ka a 0 np nc pe an up dn rw so mn wd wv) H := hP
  have hD : va_D (mA a) (mW ka a 0 np nc pe an up dn rw so mn wd wv) := hD
  refine lv_aload_n hx hb dM_add_5 rfl (lv_at hl 0 rfl) ?_
  refine lv_iload_n hx hb dM_add_6 rfl (lv_at hl 1 rfl) ?_
  refine vp_callSi (va_Run.run (va_runV (As := [.int x]) (rest := []) ⟨hx, hb, hml, hown, hts⟩ (m_noChain l D ka H a 0 np nc pe an up dn rw so mn wd wv x hP hO) (cw_V 1 hts tb_359 rfl rfl tb_356 tb_2 tb_358 ts_19 (by decide +kernel) ⟨Nat.le_of_ble_eq_true rfl, Nat.le_of_ble_eq_true rfl⟩) (ro_V (ci := 3) hK hN (hP.nth 0 rfl) rfl) rfl rfl hl.1 rfl (lv_room (Nat.le_of_ble_eq_true rfl)) dM_add_7 ⟨Nat.zero_le _, Nat.zero_le _⟩)) (fun r er => ?_)
  subst er
  refine b_if_ne (tgt := 21) hx hb dM_add_10 (by decide) (fun q1 => ?_) (fun q1 => ?_)
  · refine lv_iconst (v := (-1)) hx hb dM_add_21 (by decide) ?_
    exact W.iret (v := (-1)) hx hb hr (fun t ht hW => ⟨⟨_, (mkM np nc pe an up dn rw so mn wd wv), rfl, by rw [opAdd, if_pos (by rw [q1]; rfl)], by show va_P D vwCl _ t.heap; rw [ht]; exact hP⟩, hS.F ht⟩) hS.2.2 dM_add_22
  · refine lv_aload_n hx hb dM_add_13 rfl (lv_at hl 0 rfl) ?_
    refine lv_iload_n hx hb dM_add_14 rfl (lv_at hl 2 rfl) ?_
    refine vp_callSi (va_Run.run (va_runV (As := [.int y]) (rest := []) ⟨hx, hb, hml, hown, hts⟩ (m_noPiece l D ka H a 0 np nc pe an up dn rw so mn wd wv y hP hO) (cw_V 1 hts tb_363 rfl rfl tb_360 tb_2 tb_362 ts_20 (by decide +kernel) ⟨Nat.le_of_ble_eq_true rfl, Nat.le_of_ble_eq_true rfl⟩) (ro_V (ci := 3) hK hN (hP.nth 0 rfl) rfl) rfl rfl hl.1 rfl (lv_room (Nat.le_of_ble_eq_true rfl)) dM_add_15 ⟨Nat.zero_le _, Nat.zero_le _⟩)) (fun r er => ?_)
    subst er
    refine b_if_eq (tgt := 23) hx hb dM_add_18 (by decide) (fun q2 => ?_) (fun q2 => ?_)
    · have hno : ¬ (cNo x nc || cNo y np) = true := by rw [q1, q2]; decide
      obtain ⟨ex1, hc11, hc21⟩ := cNo_nI q1
      rw [ex1] at hl
      obtain ⟨ex2, hc12, hc22⟩ := cNo_nI q2
      rw [ex2] at hl
      have hmn := (hO.2.2.2.1 x.toInt.toNat hc11 hc21).1
      have hpb := hO.2.2.1 y.toInt.toNat hc12 hc22
      refine lv_aload_n hx hb dM_add_23 rfl (lv_at hl 0 rfl) ?_
      refine g_get (cl := vwCl) (ci := 3) (v := .ref (a 7)) hx hb hts inM hown hK (hP.nth 0 rfl) rfl 9 (by decide) (hts _ tb_309) rfl dM_add_24 ?_
      refine lv_iload_n hx hb dM_add_27 rfl (lv_at hl 1 rfl) ?_
      refine g_ialdv (v := nI (mn (x.toInt.toNat))) hx hb hK 4 (hP.nth 7 rfl) rfl (by omega) (by decide) (rfl) dM_add_28 ?_
      refine n_if_eq (tgt := 36) hx hb (by omega) dM_add_29 (by decide) (fun q3 => ?_) (fun q3 => ?_)
      · have hsm : (mn x.toInt.toNat == 0 || !tr) = true := by rw [show (mn x.toInt.toNat == 0) = true from beq_iff_eq.mpr q3]; rfl
        refine lv_iconst (v := nI 1) hx hb dM_add_36 (by decide) ?_
        refine lv_goto (tgt := 41) hx hb dM_add_37 (by decide) ?_
        refine lv_istore (lv' := [(4, .int (nI 1)), (0, .ref (a 0)), (1, .int (nI (x.toInt.toNat))), (2, .int (nI (y.toInt.toNat))), (3, .int (bI tr))]) hx hb dM_add_41 hl (by decide) rfl (fun ls hl => ?_)
        have eb : nI 1 = bI true := rfl
        rw [eb] at hl
        refine lv_iload hx hb dM_add_43 (lv_at hl 0 rfl) ?_
        refine b_if_eq (tgt := 62) hx hb dM_add_45 (by decide) (fun hc7 => ?_) (fun hc7 => ?_)
        · exact Bool.noConfusion hc7
        · refine lv_aload_n hx hb dM_add_48 rfl (lv_at hl 1 rfl) ?_
          refine g_get (cl := vwCl) (ci := 3) (v := .ref (a 1)) hx hb hts inM hown hK (hP.nth 0 rfl) rfl 2 (by decide) (hts _ tb_302) rfl dM_add_49 ?_
          refine lv_iload_n hx hb dM_add_52 rfl (lv_at hl 3 rfl) ?_
          refine g_laldv (v := lN (pe (y.toInt.toNat))) hx hb hK 3 (hP.nth 1 rfl) rfl (by omega) (by decide) (rfl) dM_add_53 ?_
          refine lv_lconst (v := lN 0) hx hb dM_add_54 rfl ?_
          refine n_lcmp_ne (tgt := 62) hx hb (by omega) (by omega) dM_add_55 dM_add_56 (by decide) (fun q5 => ?_) (fun q5 => ?_)
          · have hno3 : ¬ ((mn x.toInt.toNat == 0 || !tr) && pe y.toInt.toNat == 0) = true := by rw [hsm, show (pe y.toInt.toNat == 0) = false by simpa using q5]; decide
            refine lv_aload_n hx hb dM_add_62 rfl (lv_at hl 1 rfl) ?_
            refine g_get (cl := vwCl) (ci := 3) (v := .ref (a 7)) hx hb hts inM hown hK (hP.nth 0 rfl) rfl 9 (by decide) (hts _ tb_309) rfl dM_add_63 ?_
            refine lv_iload_n hx hb dM_add_66 rfl (lv_at hl 2 rfl) ?_
            refine g_ialdv (v := nI (mn (x.toInt.toNat))) hx hb hK 4 (hP.nth 7 rfl) rfl (by omega) (by decide) (rfl) dM_add_67 ?_
            refine lv_bipush (v := nI 12) hx hb dM_add_68 (by decide) ?_
            refine n_icmp_ne (tgt := 76) hx hb (by omega) (by omega) dM_add_70 (by decide) (fun q6 => ?_) (fun q6 => ?_)
            · have hlt : mn x.toInt.toNat < 12 := by omega
              refine lv_iconst (v := nI 0) hx hb dM_add_76 (by decide) ?_
              refine lv_istore (lv' := [(5, .int (nI 0)), (4, .int (bI true)), (0, .ref (a 0)), (1, .int (nI (x.toInt.toNat))), (2, .int (nI (y.toInt.toNat))), (3, .int (bI tr))]) hx hb dM_add_77 hl (by decide) rfl (fun ls hl => ?_)
              have loop : ∀ (fu i : Nat), i ≤ mn x.toInt.toNat → mn x.toInt.toNat < i + fu → anyN (fun k => rw (12 * x.toInt.toNat + k) == y.toInt.toNat) i = false → ∀ ls : Array Slot, lv_has ls 6 [(5, .int (nI i)), (4, .int (bI true)), (1, .int (nI (x.toInt.toNat))), (2, .int (nI (y.toInt.toNat))), (0, .ref (a 0)), (3, .int (bI tr))] → W p l e (headSpec (.code yM_add cM_add 6 (some .int) :: gT) ({ frames := 1, cells := 0, slots := 0, locals := 21 })).room s m ([.ref (a 0), .int x, .int y, .int (bI tr)] : List Value).toArray below meth c H locs 0 0 (MQ below (va_Qi (fun (r : Int32) (u : MSt) => (u, r) = opAdd np nc pe an up dn rw so mn wd wv x y tr) (fun u t => va_P D vwCl (mWs ka a 0 u) t.heap) (mA a)) ([.ref (a 0), .int x, .int y, .int (bI tr)] : List Value).toArray s 0 0 (mA a)) (F0 m 79 ls []) := by
                intro fu
                induction fu with
                | zero => intro i h1 h2; exact absurd h2 (by omega)
                | succ fu ih =>
                  intro i hi hf hg0 ls hl
                  refine lv_iload hx hb dM_add_79 (lv_at hl 0 rfl) ?_
                  refine lv_aload_n hx hb dM_add_81 rfl (lv_at hl 4 rfl) ?_
                  refine g_get (cl := vwCl) (ci := 3) (v := .ref (a 7)) hx hb hts inM hown hK (hP.nth 0 rfl) rfl 9 (by decide) (hts _ tb_309) rfl dM_add_82 ?_
                  refine lv_iload_n hx hb dM_add_85 rfl (lv_at hl 2 rfl) ?_
                  refine g_ialdv (v := nI (mn (x.toInt.toNat))) hx hb hK 4 (hP.nth 7 rfl) rfl (by omega) (by decide) (rfl) dM_add_86 ?_
                  refine n_icmp_ge (tgt := 114) hx hb (by omega) (by omega) dM_add_87 (by decide) (fun hc => ?_) (fun hc => ?_)
                  · obtain hi2 : i = mn x.toInt.toNat := by omega
                    subst hi2
                    refine lv_aload_n hx hb dM_add_114 rfl (lv_at hl 4 rfl) ?_
                    refine g_get (cl := vwCl) (ci := 3) (v := .ref (a 5)) hx hb hts inM hown hK (hP.nth 0 rfl) rfl 7 (by decide) (hts _ tb_307) rfl dM_add_115 ?_
                    refine lv_bipush (v := nI 12) hx hb dM_add_118 (by decide) ?_
                    refine lv_iload_n hx hb dM_add_120 rfl (lv_at hl 2 rfl) ?_
                    refine n_imul hx hb dM_add_121 ?_
                    refine lv_aload_n hx hb dM_add_122 rfl (lv_at hl 4 rfl) ?_
                    refine g_get (cl := vwCl) (ci := 3) (v := .ref (a 7)) hx hb hts inM hown hK (hP.nth 0 rfl) rfl 9 (by decide) (hts _ tb_309) rfl dM_add_123 ?_
                    refine lv_iload_n hx hb dM_add_126 rfl (lv_at hl 2 rfl) ?_
                    refine g_ialdv (v := nI (mn (x.toInt.toNat))) hx hb hK 4 (hP.nth 7 rfl) rfl (by omega) (by decide) (rfl) dM_add_127 ?_
                    refine n_iadd hx hb dM_add_128 ?_
                    refine lv_iload_n hx hb dM_add_129 rfl (lv_at hl 3 rfl) ?_
                    refine g_iast hx hb hK hP hD hS 5 4 rfl rfl (by omega) (by decide) upI dM_add_130 (fun H locs hP hD hS => ?_)
                    have hP : va_P D vwCl (mW ka a 0 np nc pe an up dn (va_up rw ((12 * (x.toInt.toNat)) + (mn (x.toInt.toNat))) (y.toInt.toNat)) so mn wd wv) H := hP
                    have hD : va_D (mA a) (mW ka a 0 np nc pe an up dn (va_up rw ((12 * (x.toInt.toNat)) + (mn (x.toInt.toNat))) (y.toInt.toNat)) so mn wd wv) := hD
                    refine lv_aload_n hx hb dM_add_131 rfl (lv_at hl 4 rfl) ?_
                    refine g_get (cl := vwCl) (ci := 3) (v := .ref (a 6)) hx hb hts inM hown hK (hP.nth 0 rfl) rfl 8 (by decide) (hts _ tb_308) rfl dM_add_132 ?_
                    refine lv_bipush (v := nI 12) hx hb dM_add_135 (by decide) ?_
                    refine lv_iload_n hx hb dM_add_137 rfl (lv_at hl 2 rfl) ?_
                    refine n_imul hx hb dM_add_138 ?_
                    refine lv_aload_n hx hb dM_add_139 rfl (lv_at hl 4 rfl) ?_
                    refine g_get (cl := vwCl) (ci := 3) (v := .ref (a 7)) hx hb hts inM hown hK (hP.nth 0 rfl) rfl 9 (by decide) (hts _ tb_309) rfl dM_add_140 ?_
                    refine lv_iload_n hx hb dM_add_143 rfl (lv_at hl 2 rfl) ?_
                    refine g_ialdv (v := nI (mn (x.toInt.toNat))) hx hb hK 4 (hP.nth 7 rfl) rfl (by omega) (by decide) (rfl) dM_add_144 ?_
                    refine n_iadd hx hb dM_add_145 ?_
                    refine lv_iload hx hb dM_add_146 (lv_at hl 1 rfl) ?_
                    refine b_if_ne (tgt := 155) hx hb dM_add_148 (by decide) (fun hc8 => ?_) (fun hc8 => ?_)
                    · refine lv_iconst (v := nI 0) hx hb dM_add_155 (by decide) ?_
                      have eb2 : nI 0 = bI (!(mn x.toInt.toNat == 0 || !tr)) := by rw [hsm]; rfl
                      rw [eb2]
                      refine g_zast hx hb hK hP hD hS 6 2 rfl rfl (by omega) (by decide) upB dM_add_156 (fun H locs hP hD hS => ?_)
                      have hP : va_P D vwCl (mW ka a 0 np nc pe an up dn (va_up rw ((12 * (x.toInt.toNat)) + (mn (x.toInt.toNat))) (y.toInt.toNat)) (va_up so ((12 * (x.toInt.toNat)) + (mn (x.toInt.toNat))) (!(mn x.toInt.toNat == 0 || !tr))) mn wd wv) H := hP
                      have hD : va_D (mA a) (mW ka a 0 np nc pe an up dn (va_up rw ((12 * (x.toInt.toNat)) + (mn (x.toInt.toNat))) (y.toInt.toNat)) (va_up so ((12 * (x.toInt.toNat)) + (mn (x.toInt.toNat))) (!(mn x.toInt.toNat == 0 || !tr))) mn wd wv) := hD
                      refine lv_aload_n hx hb dM_add_157 rfl (lv_at hl 4 rfl) ?_
                      refine g_get (cl := vwCl) (ci := 3) (v := .ref (a 7)) hx hb hts inM hown hK (hP.nth 0 rfl) rfl 9 (by decide) (hts _ tb_309) rfl dM_add_158 ?_
                      refine lv_iload_n hx hb dM_add_161 rfl (lv_at hl 2 rfl) ?_
                      refine lv_dup2_11 hx hb dM_add_162 rfl rfl ?_
                      refine g_ialdv (v := nI (mn (x.toInt.toNat))) hx hb hK 4 (hP.nth 7 rfl) rfl (by omega) (by decide) (rfl) dM_add_163 ?_
                      refine lv_iconst (v := nI 1) hx hb dM_add_164 (by decide) ?_
                      refine n_iadd hx hb dM_add_165 ?_
                      refine g_iast hx hb hK hP hD hS 7 4 rfl rfl (by omega) (by decide) upI dM_add_166 (fun H locs hP hD hS => ?_)
                      have hP : va_P D vwCl (mW ka a 0 np nc pe an up dn (va_up rw ((12 * (x.toInt.toNat)) + (mn (x.toInt.toNat))) (y.toInt.toNat)) (va_up so ((12 * (x.toInt.toNat)) + (mn (x.toInt.toNat))) (!(mn x.toInt.toNat == 0 || !tr))) (va_up mn (x.toInt.toNat) ((mn (x.toInt.toNat)) + 1)) wd wv) H := hP
                      have hD : va_D (mA a) (mW ka a 0 np nc pe an up dn (va_up rw ((12 * (x.toInt.toNat)) + (mn (x.toInt.toNat))) (y.toInt.toNat)) (va_up so ((12 * (x.toInt.toNat)) + (mn (x.toInt.toNat))) (!(mn x.toInt.toNat == 0 || !tr))) (va_up mn (x.toInt.toNat) ((mn (x.toInt.toNat)) + 1)) wd wv) := hD
                      refine lv_iconst (v := nI 1) hx hb dM_add_167 (by decide) ?_
                      exact W.iret (v := nI 1) hx hb hr (fun t ht hW => ⟨⟨_, (mkM np nc pe an up dn (va_up rw ((12 * (x.toInt.toNat)) + (mn (x.toInt.toNat))) (y.toInt.toNat)) (va_up so ((12 * (x.toInt.toNat)) + (mn (x.toInt.toNat))) (!(mn x.toInt.toNat == 0 || !tr))) (va_up mn (x.toInt.toNat) ((mn (x.toInt.toNat)) + 1)) wd wv), rfl, by rw [opAdd, if_neg hno, if_neg hno3, if_neg (by omega), if_neg (by rw [hg0]; decide)], by show va_P D vwCl _ t.heap; rw [ht]; exact hP⟩, hS.F ht⟩) hS.2.2 dM_add_168
                    · exact Bool.noConfusion hc8
                  · have hR := hO.row hc11 hc21 hc
                    refine lv_aload_n hx hb dM_add_90 rfl (lv_at hl 4 rfl) ?_
                    refine g_get (cl := vwCl) (ci := 3) (v := .ref (a 5)) hx hb hts inM hown hK (hP.nth 0 rfl) rfl 7 (by decide) (hts _ tb_307) rfl dM_add_91 ?_
                    refine lv_bipush (v := nI 12) hx hb dM_add_94 (by decide) ?_
                    refine lv_iload_n hx hb dM_add_96 rfl (lv_at hl 2 rfl) ?_
                    refine n_imul hx hb dM_add_97 ?_
                    refine lv_iload hx hb dM_add_98 (lv_at hl 0 rfl) ?_
                    refine n_iadd hx hb dM_add_100 ?_
                    refine g_ialdv (v := nI (rw ((12 * (x.toInt.toNat)) + i))) hx hb hK 4 (hP.nth 5 rfl) rfl (by omega) (by decide) (rfl) dM_add_101 ?_
                    refine lv_iload_n hx hb dM_add_102 rfl (lv_at hl 3 rfl) ?_
                    refine n_icmp_ne (tgt := 108) hx hb (by omega) (by omega) dM_add_103 (by decide) (fun hc9 => ?_) (fun hc9 => ?_)
                    · refine lv_iinc (v := nI (i + 1)) (lv' := [(5, .int (nI (i + 1))), (4, .int (bI true)), (1, .int (nI (x.toInt.toNat))), (2, .int (nI (y.toInt.toNat))), (0, .ref (a 0)), (3, .int (bI tr))]) hx hb dM_add_108 hl (k := 0) rfl (nI_add i 1) (by decide) rfl (fun ls hl => ?_)
                      refine lv_goto (tgt := 79) hx hb dM_add_111 (by decide) ?_
                      exact ih (i + 1) (by omega) (by omega) (anyN_next hg0 (by simpa using hc9)) ls (lv_sub hl [0, 1, 2, 3, 4, 5] rfl)
                    · refine lv_iconst (v := nI 0) hx hb dM_add_106 (by decide) ?_
                      exact W.iret (v := nI 0) hx hb hr (fun t ht hW => ⟨⟨_, (mkM np nc pe an up dn rw so mn wd wv), rfl, by rw [opAdd, if_neg hno, if_neg hno3, if_neg (by omega), if_pos (anyN_hit hc (by simpa using hc9))], by show va_P D vwCl _ t.heap; rw [ht]; exact hP⟩, hS.F ht⟩) hS.2.2 dM_add_107
              exact loop (mn x.toInt.toNat + 1) 0 (by omega) (by omega) rfl ls (lv_sub hl [0, 1, 3, 4, 2, 5] rfl)
            · refine lv_bipush (v := (-4)) hx hb dM_add_73 (by decide) ?_
              exact W.iret (v := (-4)) hx hb hr (fun t ht hW => ⟨⟨_, (mkM np nc pe an up dn rw so mn wd wv), rfl, by rw [opAdd, if_neg hno, if_neg hno3, if_pos (by omega)], by show va_P D vwCl _ t.heap; rw [ht]; exact hP⟩, hS.F ht⟩) hS.2.2 dM_add_75
          · refine lv_bipush (v := (-3)) hx hb dM_add_59 (by decide) ?_
            exact W.iret (v := (-3)) hx hb hr (fun t ht hW => ⟨⟨_, (mkM np nc pe an up dn rw so mn wd wv), rfl, by rw [opAdd, if_neg hno, if_pos (by rw [hsm, show (pe y.toInt.toNat == 0) = true by simpa using q5]; rfl)], by show va_P D vwCl _ t.heap; rw [ht]; exact hP⟩, hS.F ht⟩) hS.2.2 dM_add_61
      · refine lv_iload_n hx hb dM_add_32 rfl (lv_at hl 3 rfl) ?_
        refine b_if_ne (tgt := 40) hx hb dM_add_33 (by decide) (fun q4 => ?_) (fun q4 => ?_)
        · have hsm : (mn x.toInt.toNat == 0 || !tr) = false := by rw [show (mn x.toInt.toNat == 0) = false from beq_eq_false_iff_ne.mpr q3, q4]; rfl
          refine lv_iconst (v := nI 0) hx hb dM_add_40 (by decide) ?_
          refine lv_istore (lv' := [(4, .int (nI 0)), (0, .ref (a 0)), (1, .int (nI (x.toInt.toNat))), (2, .int (nI (y.toInt.toNat))), (3, .int (bI tr))]) hx hb dM_add_41 hl (by decide) rfl (fun ls hl => ?_)
          have eb : nI 0 = bI false := rfl
          rw [eb] at hl
          refine lv_iload hx hb dM_add_43 (lv_at hl 0 rfl) ?_
          refine b_if_eq (tgt := 62) hx hb dM_add_45 (by decide) (fun hc7 => ?_) (fun hc7 => ?_)
          · have hno3 : ¬ ((mn x.toInt.toNat == 0 || !tr) && pe y.toInt.toNat == 0) = true := by rw [hsm]; simp
            refine lv_aload_n hx hb dM_add_62 rfl (lv_at hl 1 rfl) ?_
            refine g_get (cl := vwCl) (ci := 3) (v := .ref (a 7)) hx hb hts inM hown hK (hP.nth 0 rfl) rfl 9 (by decide) (hts _ tb_309) rfl dM_add_63 ?_
            refine lv_iload_n hx hb dM_add_66 rfl (lv_at hl 2 rfl) ?_
            refine g_ialdv (v := nI (mn (x.toInt.toNat))) hx hb hK 4 (hP.nth 7 rfl) rfl (by omega) (by decide) (rfl) dM_add_67 ?_
            refine lv_bipush (v := nI 12) hx hb dM_add_68 (by decide) ?_
            refine n_icmp_ne (tgt := 76) hx hb (by omega) (by omega) dM_add_70 (by decide) (fun q6 => ?_) (fun q6 => ?_)
            · have hlt : mn x.toInt.toNat < 12 := by omega
              refine lv_iconst (v := nI 0) hx hb dM_add_76 (by decide) ?_
              refine lv_istore (lv' := [(5, .int (nI 0)), (4, .int (bI false)), (0, .ref (a 0)), (1, .int (nI (x.toInt.toNat))), (2, .int (nI (y.toInt.toNat))), (3, .int (bI tr))]) hx hb dM_add_77 hl (by decide) rfl (fun ls hl => ?_)
              have loop : ∀ (fu i : Nat), i ≤ mn x.toInt.toNat → mn x.toInt.toNat < i + fu → anyN (fun k => rw (12 * x.toInt.toNat + k) == y.toInt.toNat) i = false → ∀ ls : Array Slot, lv_has ls 6 [(5, .int (nI i)), (4, .int (bI false)), (1, .int (nI (x.toInt.toNat))), (2, .int (nI (y.toInt.toNat))), (0, .ref (a 0)), (3, .int (bI tr))] → W p l e (headSpec (.code yM_add cM_add 6 (some .int) :: gT) ({ frames := 1, cells := 0, slots := 0, locals := 21 })).room s m ([.ref (a 0), .int x, .int y, .int (bI tr)] : List Value).toArray below meth c H locs 0 0 (MQ below (va_Qi (fun (r : Int32) (u : MSt) => (u, r) = opAdd np nc pe an up dn rw so mn wd wv x y tr) (fun u t => va_P D vwCl (mWs ka a 0 u) t.heap) (mA a)) ([.ref (a 0), .int x, .int y, .int (bI tr)] : List Value).toArray s 0 0 (mA a)) (F0 m 79 ls []) := by
                intro fu
                induction fu with
                | zero => intro i h1 h2; exact absurd h2 (by omega)
                | succ fu ih =>
                  intro i hi hf hg0 ls hl
                  refine lv_iload hx hb dM_add_79 (lv_at hl 0 rfl) ?_
                  refine lv_aload_n hx hb dM_add_81 rfl (lv_at hl 4 rfl) ?_
                  refine g_get (cl := vwCl) (ci := 3) (v := .ref (a 7)) hx hb hts inM hown hK (hP.nth 0 rfl) rfl 9 (by decide) (hts _ tb_309) rfl dM_add_82 ?_
                  refine lv_iload_n hx hb dM_add_85 rfl (lv_at hl 2 rfl) ?_
                  refine g_ialdv (v := nI (mn (x.toInt.toNat))) hx hb hK 4 (hP.nth 7 rfl) rfl (by omega) (by decide) (rfl) dM_add_86 ?_
                  refine n_icmp_ge (tgt := 114) hx hb (by omega) (by omega) dM_add_87 (by decide) (fun hc => ?_) (fun hc => ?_)
                  · obtain hi2 : i = mn x.toInt.toNat := by omega
                    subst hi2
                    refine lv_aload_n hx hb dM_add_114 rfl (lv_at hl 4 rfl) ?_
                    refine g_get (cl := vwCl) (ci := 3) (v := .ref (a 5)) hx hb hts inM hown hK (hP.nth 0 rfl) rfl 7 (by decide) (hts _ tb_307) rfl dM_add_115 ?_
                    refine lv_bipush (v := nI 12) hx hb dM_add_118 (by decide) ?_
                    refine lv_iload_n hx hb dM_add_120 rfl (lv_at hl 2 rfl) ?_
                    refine n_imul hx hb dM_add_121 ?_
                    refine lv_aload_n hx hb dM_add_122 rfl (lv_at hl 4 rfl) ?_
                    refine g_get (cl := vwCl) (ci := 3) (v := .ref (a 7)) hx hb hts inM hown hK (hP.nth 0 rfl) rfl 9 (by decide) (hts _ tb_309) rfl dM_add_123 ?_
                    refine lv_iload_n hx hb dM_add_126 rfl (lv_at hl 2 rfl) ?_
                    refine g_ialdv (v := nI (mn (x.toInt.toNat))) hx hb hK 4 (hP.nth 7 rfl) rfl (by omega) (by decide) (rfl) dM_add_127 ?_
                    refine n_iadd hx hb dM_add_128 ?_
                    refine lv_iload_n hx hb dM_add_129 rfl (lv_at hl 3 rfl) ?_
                    refine g_iast hx hb hK hP hD hS 5 4 rfl rfl (by omega) (by decide) upI dM_add_130 (fun H locs hP hD hS => ?_)
                    have hP : va_P D vwCl (mW ka a 0 np nc pe an up dn (va_up rw ((12 * (x.toInt.toNat)) + (mn (x.toInt.toNat))) (y.toInt.toNat)) so mn wd wv) H := hP
                    have hD : va_D (mA a) (mW ka a 0 np nc pe an up dn (va_up rw ((12 * (x.toInt.toNat)) + (mn (x.toInt.toNat))) (y.toInt.toNat)) so mn wd wv) := hD
                    refine lv_aload_n hx hb dM_add_131 rfl (lv_at hl 4 rfl) ?_
                    refine g_get (cl := vwCl) (ci := 3) (v := .ref (a 6)) hx hb hts inM hown hK (hP.nth 0 rfl) rfl 8 (by decide) (hts _ tb_308) rfl dM_add_132 ?_
                    refine lv_bipush (v := nI 12) hx hb dM_add_135 (by decide) ?_
                    refine lv_iload_n hx hb dM_add_137 rfl (lv_at hl 2 rfl) ?_
                    refine n_imul hx hb dM_add_138 ?_
                    refine lv_aload_n hx hb dM_add_139 rfl (lv_at hl 4 rfl) ?_
                    refine g_get (cl := vwCl) (ci := 3) (v := .ref (a 7)) hx hb hts inM hown hK (hP.nth 0 rfl) rfl 9 (by decide) (hts _ tb_309) rfl dM_add_140 ?_
                    refine lv_iload_n hx hb dM_add_143 rfl (lv_at hl 2 rfl) ?_
                    refine g_ialdv (v := nI (mn (x.toInt.toNat))) hx hb hK 4 (hP.nth 7 rfl) rfl (by omega) (by decide) (rfl) dM_add_144 ?_
                    refine n_iadd hx hb dM_add_145 ?_
                    refine lv_iload hx hb dM_add_146 (lv_at hl 1 rfl) ?_
                    refine b_if_ne (tgt := 155) hx hb dM_add_148 (by decide) (fun hc8 => ?_) (fun hc8 => ?_)
                    · exact Bool.noConfusion hc8
                    · refine lv_iconst (v := nI 1) hx hb dM_add_151 (by decide) ?_
                      refine lv_goto (tgt := 156) hx hb dM_add_152 (by decide) ?_
                      have eb2 : nI 1 = bI (!(mn x.toInt.toNat == 0 || !tr)) := by rw [hsm]; rfl
                      rw [eb2]
                      refine g_zast hx hb hK hP hD hS 6 2 rfl rfl (by omega) (by decide) upB dM_add_156 (fun H locs hP hD hS => ?_)
                      have hP : va_P D vwCl (mW ka a 0 np nc pe an up dn (va_up rw ((12 * (x.toInt.toNat)) + (mn (x.toInt.toNat))) (y.toInt.toNat)) (va_up so ((12 * (x.toInt.toNat)) + (mn (x.toInt.toNat))) (!(mn x.toInt.toNat == 0 || !tr))) mn wd wv) H := hP
                      have hD : va_D (mA a) (mW ka a 0 np nc pe an up dn (va_up rw ((12 * (x.toInt.toNat)) + (mn (x.toInt.toNat))) (y.toInt.toNat)) (va_up so ((12 * (x.toInt.toNat)) + (mn (x.toInt.toNat))) (!(mn x.toInt.toNat == 0 || !tr))) mn wd wv) := hD
                      refine lv_aload_n hx hb dM_add_157 rfl (lv_at hl 4 rfl) ?_
                      refine g_get (cl := vwCl) (ci := 3) (v := .ref (a 7)) hx hb hts inM hown hK (hP.nth 0 rfl) rfl 9 (by decide) (hts _ tb_309) rfl dM_add_158 ?_
                      refine lv_iload_n hx hb dM_add_161 rfl (lv_at hl 2 rfl) ?_
                      refine lv_dup2_11 hx hb dM_add_162 rfl rfl ?_
                      refine g_ialdv (v := nI (mn (x.toInt.toNat))) hx hb hK 4 (hP.nth 7 rfl) rfl (by omega) (by decide) (rfl) dM_add_163 ?_
                      refine lv_iconst (v := nI 1) hx hb dM_add_164 (by decide) ?_
                      refine n_iadd hx hb dM_add_165 ?_
                      refine g_iast hx hb hK hP hD hS 7 4 rfl rfl (by omega) (by decide) upI dM_add_166 (fun H locs hP hD hS => ?_)
                      have hP : va_P D vwCl (mW ka a 0 np nc pe an up dn (va_up rw ((12 * (x.toInt.toNat)) + (mn (x.toInt.toNat))) (y.toInt.toNat)) (va_up so ((12 * (x.toInt.toNat)) + (mn (x.toInt.toNat))) (!(mn x.toInt.toNat == 0 || !tr))) (va_up mn (x.toInt.toNat) ((mn (x.toInt.toNat)) + 1)) wd wv) H := hP
                      have hD : va_D (mA a) (mW ka a 0 np nc pe an up dn (va_up rw ((12 * (x.toInt.toNat)) + (mn (x.toInt.toNat))) (y.toInt.toNat)) (va_up so ((12 * (x.toInt.toNat)) + (mn (x.toInt.toNat))) (!(mn x.toInt.toNat == 0 || !tr))) (va_up mn (x.toInt.toNat) ((mn (x.toInt.toNat)) + 1)) wd wv) := hD
                      refine lv_iconst (v := nI 1) hx hb dM_add_167 (by decide) ?_
                      exact W.iret (v := nI 1) hx hb hr (fun t ht hW => ⟨⟨_, (mkM np nc pe an up dn (va_up rw ((12 * (x.toInt.toNat)) + (mn (x.toInt.toNat))) (y.toInt.toNat)) (va_up so ((12 * (x.toInt.toNat)) + (mn (x.toInt.toNat))) (!(mn x.toInt.toNat == 0 || !tr))) (va_up mn (x.toInt.toNat) ((mn (x.toInt.toNat)) + 1)) wd wv), rfl, by rw [opAdd, if_neg hno, if_neg hno3, if_neg (by omega), if_neg (by rw [hg0]; decide)], by show va_P D vwCl _ t.heap; rw [ht]; exact hP⟩, hS.F ht⟩) hS.2.2 dM_add_168
                  · have hR := hO.row hc11 hc21 hc
                    refine lv_aload_n hx hb dM_add_90 rfl (lv_at hl 4 rfl) ?_
                    refine g_get (cl := vwCl) (ci := 3) (v := .ref (a 5)) hx hb hts inM hown hK (hP.nth 0 rfl) rfl 7 (by decide) (hts _ tb_307) rfl dM_add_91 ?_
                    refine lv_bipush (v := nI 12) hx hb dM_add_94 (by decide) ?_
                    refine lv_iload_n hx hb dM_add_96 rfl (lv_at hl 2 rfl) ?_
                    refine n_imul hx hb dM_add_97 ?_
                    refine lv_iload hx hb dM_add_98 (lv_at hl 0 rfl) ?_
                    refine n_iadd hx hb dM_add_100 ?_
                    refine g_ialdv (v := nI (rw ((12 * (x.toInt.toNat)) + i))) hx hb hK 4 (hP.nth 5 rfl) rfl (by omega) (by decide) (rfl) dM_add_101 ?_
                    refine lv_iload_n hx hb dM_add_102 rfl (lv_at hl 3 rfl) ?_
                    refine n_icmp_ne (tgt := 108) hx hb (by omega) (by omega) dM_add_103 (by decide) (fun hc9 => ?_) (fun hc9 => ?_)
                    · refine lv_iinc (v := nI (i + 1)) (lv' := [(5, .int (nI (i + 1))), (4, .int (bI false)), (1, .int (nI (x.toInt.toNat))), (2, .int (nI (y.toInt.toNat))), (0, .ref (a 0)), (3, .int (bI tr))]) hx hb dM_add_108 hl (k := 0) rfl (nI_add i 1) (by decide) rfl (fun ls hl => ?_)
                      refine lv_goto (tgt := 79) hx hb dM_add_111 (by decide) ?_
                      exact ih (i + 1) (by omega) (by omega) (anyN_next hg0 (by simpa using hc9)) ls (lv_sub hl [0, 1, 2, 3, 4, 5] rfl)
                    · refine lv_iconst (v := nI 0) hx hb dM_add_106 (by decide) ?_
                      exact W.iret (v := nI 0) hx hb hr (fun t ht hW => ⟨⟨_, (mkM np nc pe an up dn rw so mn wd wv), rfl, by rw [opAdd, if_neg hno, if_neg hno3, if_neg (by omega), if_pos (anyN_hit hc (by simpa using hc9))], by show va_P D vwCl _ t.heap; rw [ht]; exact hP⟩, hS.F ht⟩) hS.2.2 dM_add_107
              exact loop (mn x.toInt.toNat + 1) 0 (by omega) (by omega) rfl ls (lv_sub hl [0, 1, 3, 4, 2, 5] rfl)
            · refine lv_bipush (v := (-4)) hx hb dM_add_73 (by decide) ?_
              exact W.iret (v := (-4)) hx hb hr (fun t ht hW => ⟨⟨_, (mkM np nc pe an up dn rw so mn wd wv), rfl, by rw [opAdd, if_neg hno, if_neg hno3, if_pos (by omega)], by show va_P D vwCl _ t.heap; rw [ht]; exact hP⟩, hS.F ht⟩) hS.2.2 dM_add_75
          · exact Bool.noConfusion hc7
        · have hsm : (mn x.toInt.toNat == 0 || !tr) = true := by simp [q4]
          refine lv_iconst (v := nI 1) hx hb dM_add_36 (by decide) ?_
          refine lv_goto (tgt := 41) hx hb dM_add_37 (by decide) ?_
          refine lv_istore (lv' := [(4, .int (nI 1)), (0, .ref (a 0)), (1, .int (nI (x.toInt.toNat))), (2, .int (nI (y.toInt.toNat))), (3, .int (bI tr))]) hx hb dM_add_41 hl (by decide) rfl (fun ls hl => ?_)
          have eb : nI 1 = bI true := rfl
          rw [eb] at hl
          refine lv_iload hx hb dM_add_43 (lv_at hl 0 rfl) ?_
          refine b_if_eq (tgt := 62) hx hb dM_add_45 (by decide) (fun hc7 => ?_) (fun hc7 => ?_)
          · exact Bool.noConfusion hc7
          · refine lv_aload_n hx hb dM_add_48 rfl (lv_at hl 1 rfl) ?_
            refine g_get (cl := vwCl) (ci := 3) (v := .ref (a 1)) hx hb hts inM hown hK (hP.nth 0 rfl) rfl 2 (by decide) (hts _ tb_302) rfl dM_add_49 ?_
            refine lv_iload_n hx hb dM_add_52 rfl (lv_at hl 3 rfl) ?_
            refine g_laldv (v := lN (pe (y.toInt.toNat))) hx hb hK 3 (hP.nth 1 rfl) rfl (by omega) (by decide) (rfl) dM_add_53 ?_
            refine lv_lconst (v := lN 0) hx hb dM_add_54 rfl ?_
            refine n_lcmp_ne (tgt := 62) hx hb (by omega) (by omega) dM_add_55 dM_add_56 (by decide) (fun q5 => ?_) (fun q5 => ?_)
            · have hno3 : ¬ ((mn x.toInt.toNat == 0 || !tr) && pe y.toInt.toNat == 0) = true := by rw [hsm, show (pe y.toInt.toNat == 0) = false by simpa using q5]; decide
              refine lv_aload_n hx hb dM_add_62 rfl (lv_at hl 1 rfl) ?_
              refine g_get (cl := vwCl) (ci := 3) (v := .ref (a 7)) hx hb hts inM hown hK (hP.nth 0 rfl) rfl 9 (by decide) (hts _ tb_309) rfl dM_add_63 ?_
              refine lv_iload_n hx hb dM_add_66 rfl (lv_at hl 2 rfl) ?_
              refine g_ialdv (v := nI (mn (x.toInt.toNat))) hx hb hK 4 (hP.nth 7 rfl) rfl (by omega) (by decide) (rfl) dM_add_67 ?_
              refine lv_bipush (v := nI 12) hx hb dM_add_68 (by decide) ?_
              refine n_icmp_ne (tgt := 76) hx hb (by omega) (by omega) dM_add_70 (by decide) (fun q6 => ?_) (fun q6 => ?_)
              · have hlt : mn x.toInt.toNat < 12 := by omega
                refine lv_iconst (v := nI 0) hx hb dM_add_76 (by decide) ?_
                refine lv_istore (lv' := [(5, .int (nI 0)), (4, .int (bI true)), (0, .ref (a 0)), (1, .int (nI (x.toInt.toNat))), (2, .int (nI (y.toInt.toNat))), (3, .int (bI tr))]) hx hb dM_add_77 hl (by decide) rfl (fun ls hl => ?_)
                have loop : ∀ (fu i : Nat), i ≤ mn x.toInt.toNat → mn x.toInt.toNat < i + fu → anyN (fun k => rw (12 * x.toInt.toNat + k) == y.toInt.toNat) i = false → ∀ ls : Array Slot, lv_has ls 6 [(5, .int (nI i)), (4, .int (bI true)), (1, .int (nI (x.toInt.toNat))), (2, .int (nI (y.toInt.toNat))), (0, .ref (a 0)), (3, .int (bI tr))] → W p l e (headSpec (.code yM_add cM_add 6 (some .int) :: gT) ({ frames := 1, cells := 0, slots := 0, locals := 21 })).room s m ([.ref (a 0), .int x, .int y, .int (bI tr)] : List Value).toArray below meth c H locs 0 0 (MQ below (va_Qi (fun (r : Int32) (u : MSt) => (u, r) = opAdd np nc pe an up dn rw so mn wd wv x y tr) (fun u t => va_P D vwCl (mWs ka a 0 u) t.heap) (mA a)) ([.ref (a 0), .int x, .int y, .int (bI tr)] : List Value).toArray s 0 0 (mA a)) (F0 m 79 ls []) := by
                  intro fu
                  induction fu with
                  | zero => intro i h1 h2; exact absurd h2 (by omega)
                  | succ fu ih =>
                    intro i hi hf hg0 ls hl
                    refine lv_iload hx hb dM_add_79 (lv_at hl 0 rfl) ?_
                    refine lv_aload_n hx hb dM_add_81 rfl (lv_at hl 4 rfl) ?_
                    refine g_get (cl := vwCl) (ci := 3) (v := .ref (a 7)) hx hb hts inM hown hK (hP.nth 0 rfl) rfl 9 (by decide) (hts _ tb_309) rfl dM_add_82 ?_
                    refine lv_iload_n hx hb dM_add_85 rfl (lv_at hl 2 rfl) ?_
                    refine g_ialdv (v := nI (mn (x.toInt.toNat))) hx hb hK 4 (hP.nth 7 rfl) rfl (by omega) (by decide) (rfl) dM_add_86 ?_
                    refine n_icmp_ge (tgt := 114) hx hb (by omega) (by omega) dM_add_87 (by decide) (fun hc => ?_) (fun hc => ?_)
                    · obtain hi2 : i = mn x.toInt.toNat := by omega
                      subst hi2
                      refine lv_aload_n hx hb dM_add_114 rfl (lv_at hl 4 rfl) ?_
                      refine g_get (cl := vwCl) (ci := 3) (v := .ref (a 5)) hx hb hts inM hown hK (hP.nth 0 rfl) rfl 7 (by decide) (hts _ tb_307) rfl dM_add_115 ?_
                      refine lv_bipush (v := nI 12) hx hb dM_add_118 (by decide) ?_
                      refine lv_iload_n hx hb dM_add_120 rfl (lv_at hl 2 rfl) ?_
                      refine n_imul hx hb dM_add_121 ?_
                      refine lv_aload_n hx hb dM_add_122 rfl (lv_at hl 4 rfl) ?_
                      refine g_get (cl := vwCl) (ci := 3) (v := .ref (a 7)) hx hb hts inM hown hK (hP.nth 0 rfl) rfl 9 (by decide) (hts _ tb_309) rfl dM_add_123 ?_
                      refine lv_iload_n hx hb dM_add_126 rfl (lv_at hl 2 rfl) ?_
                      refine g_ialdv (v := nI (mn (x.toInt.toNat))) hx hb hK 4 (hP.nth 7 rfl) rfl (by omega) (by decide) (rfl) dM_add_127 ?_
                      refine n_iadd hx hb dM_add_128 ?_
                      refine lv_iload_n hx hb dM_add_129 rfl (lv_at hl 3 rfl) ?_
                      refine g_iast hx hb hK hP hD hS 5 4 rfl rfl (by omega) (by decide) upI dM_add_130 (fun H locs hP hD hS => ?_)
                      have hP : va_P D vwCl (mW ka a 0 np nc pe an up dn (va_up rw ((12 * (x.toInt.toNat)) + (mn (x.toInt.toNat))) (y.toInt.toNat)) so mn wd wv) H := hP
                      have hD : va_D (mA a) (mW ka a 0 np nc pe an up dn (va_up rw ((12 * (x.toInt.toNat)) + (mn (x.toInt.toNat))) (y.toInt.toNat)) so mn wd wv) := hD
                      refine lv_aload_n hx hb dM_add_131 rfl (lv_at hl 4 rfl) ?_
                      refine g_get (cl := vwCl) (ci := 3) (v := .ref (a 6)) hx hb hts inM hown hK (hP.nth 0 rfl) rfl 8 (by decide) (hts _ tb_308) rfl dM_add_132 ?_
                      refine lv_bipush (v := nI 12) hx hb dM_add_135 (by decide) ?_
                      refine lv_iload_n hx hb dM_add_137 rfl (lv_at hl 2 rfl) ?_
                      refine n_imul hx hb dM_add_138 ?_
                      refine lv_aload_n hx hb dM_add_139 rfl (lv_at hl 4 rfl) ?_
                      refine g_get (cl := vwCl) (ci := 3) (v := .ref (a 7)) hx hb hts inM hown hK (hP.nth 0 rfl) rfl 9 (by decide) (hts _ tb_309) rfl dM_add_140 ?_
                      refine lv_iload_n hx hb dM_add_143 rfl (lv_at hl 2 rfl) ?_
                      refine g_ialdv (v := nI (mn (x.toInt.toNat))) hx hb hK 4 (hP.nth 7 rfl) rfl (by omega) (by decide) (rfl) dM_add_144 ?_
                      refine n_iadd hx hb dM_add_145 ?_
                      refine lv_iload hx hb dM_add_146 (lv_at hl 1 rfl) ?_
                      refine b_if_ne (tgt := 155) hx hb dM_add_148 (by decide) (fun hc8 => ?_) (fun hc8 => ?_)
                      · refine lv_iconst (v := nI 0) hx hb dM_add_155 (by decide) ?_
                        have eb2 : nI 0 = bI (!(mn x.toInt.toNat == 0 || !tr)) := by rw [hsm]; rfl
                        rw [eb2]
                        refine g_zast hx hb hK hP hD hS 6 2 rfl rfl (by omega) (by decide) upB dM_add_156 (fun H locs hP hD hS => ?_)
                        have hP : va_P D vwCl (mW ka a 0 np nc pe an up dn (va_up rw ((12 * (x.toInt.toNat)) + (mn (x.toInt.toNat))) (y.toInt.toNat)) (va_up so ((12 * (x.toInt.toNat)) + (mn (x.toInt.toNat))) (!(mn x.toInt.toNat == 0 || !tr))) mn wd wv) H := hP
                        have hD : va_D (mA a) (mW ka a 0 np nc pe an up dn (va_up rw ((12 * (x.toInt.toNat)) + (mn (x.toInt.toNat))) (y.toInt.toNat)) (va_up so ((12 * (x.toInt.toNat)) + (mn (x.toInt.toNat))) (!(mn x.toInt.toNat == 0 || !tr))) mn wd wv) := hD
                        refine lv_aload_n hx hb dM_add_157 rfl (lv_at hl 4 rfl) ?_
                        refine g_get (cl := vwCl) (ci := 3) (v := .ref (a 7)) hx hb hts inM hown hK (hP.nth 0 rfl) rfl 9 (by decide) (hts _ tb_309) rfl dM_add_158 ?_
                        refine lv_iload_n hx hb dM_add_161 rfl (lv_at hl 2 rfl) ?_
                        refine lv_dup2_11 hx hb dM_add_162 rfl rfl ?_
                        refine g_ialdv (v := nI (mn (x.toInt.toNat))) hx hb hK 4 (hP.nth 7 rfl) rfl (by omega) (by decide) (rfl) dM_add_163 ?_
                        refine lv_iconst (v := nI 1) hx hb dM_add_164 (by decide) ?_
                        refine n_iadd hx hb dM_add_165 ?_
                        refine g_iast hx hb hK hP hD hS 7 4 rfl rfl (by omega) (by decide) upI dM_add_166 (fun H locs hP hD hS => ?_)
                        have hP : va_P D vwCl (mW ka a 0 np nc pe an up dn (va_up rw ((12 * (x.toInt.toNat)) + (mn (x.toInt.toNat))) (y.toInt.toNat)) (va_up so ((12 * (x.toInt.toNat)) + (mn (x.toInt.toNat))) (!(mn x.toInt.toNat == 0 || !tr))) (va_up mn (x.toInt.toNat) ((mn (x.toInt.toNat)) + 1)) wd wv) H := hP
                        have hD : va_D (mA a) (mW ka a 0 np nc pe an up dn (va_up rw ((12 * (x.toInt.toNat)) + (mn (x.toInt.toNat))) (y.toInt.toNat)) (va_up so ((12 * (x.toInt.toNat)) + (mn (x.toInt.toNat))) (!(mn x.toInt.toNat == 0 || !tr))) (va_up mn (x.toInt.toNat) ((mn (x.toInt.toNat)) + 1)) wd wv) := hD
                        refine lv_iconst (v := nI 1) hx hb dM_add_167 (by decide) ?_
                        exact W.iret (v := nI 1) hx hb hr (fun t ht hW => ⟨⟨_, (mkM np nc pe an up dn (va_up rw ((12 * (x.toInt.toNat)) + (mn (x.toInt.toNat))) (y.toInt.toNat)) (va_up so ((12 * (x.toInt.toNat)) + (mn (x.toInt.toNat))) (!(mn x.toInt.toNat == 0 || !tr))) (va_up mn (x.toInt.toNat) ((mn (x.toInt.toNat)) + 1)) wd wv), rfl, by rw [opAdd, if_neg hno, if_neg hno3, if_neg (by omega), if_neg (by rw [hg0]; decide)], by show va_P D vwCl _ t.heap; rw [ht]; exact hP⟩, hS.F ht⟩) hS.2.2 dM_add_168
                      · exact Bool.noConfusion hc8
                    · have hR := hO.row hc11 hc21 hc
                      refine lv_aload_n hx hb dM_add_90 rfl (lv_at hl 4 rfl) ?_
                      refine g_get (cl := vwCl) (ci := 3) (v := .ref (a 5)) hx hb hts inM hown hK (hP.nth 0 rfl) rfl 7 (by decide) (hts _ tb_307) rfl dM_add_91 ?_
                      refine lv_bipush (v := nI 12) hx hb dM_add_94 (by decide) ?_
                      refine lv_iload_n hx hb dM_add_96 rfl (lv_at hl 2 rfl) ?_
                      refine n_imul hx hb dM_add_97 ?_
                      refine lv_iload hx hb dM_add_98 (lv_at hl 0 rfl) ?_
                      refine n_iadd hx hb dM_add_100 ?_
                      refine g_ialdv (v := nI (rw ((12 * (x.toInt.toNat)) + i))) hx hb hK 4 (hP.nth 5 rfl) rfl (by omega) (by decide) (rfl) dM_add_101 ?_
                      refine lv_iload_n hx hb dM_add_102 rfl (lv_at hl 3 rfl) ?_
                      refine n_icmp_ne (tgt := 108) hx hb (by omega) (by omega) dM_add_103 (by decide) (fun hc9 => ?_) (fun hc9 => ?_)
                      · refine lv_iinc (v := nI (i + 1)) (lv' := [(5, .int (nI (i + 1))), (4, .int (bI true)), (1, .int (nI (x.toInt.toNat))), (2, .int (nI (y.toInt.toNat))), (0, .ref (a 0)), (3, .int (bI tr))]) hx hb dM_add_108 hl (k := 0) rfl (nI_add i 1) (by decide) rfl (fun ls hl => ?_)
                        refine lv_goto (tgt := 79) hx hb dM_add_111 (by decide) ?_
                        exact ih (i + 1) (by omega) (by omega) (anyN_next hg0 (by simpa using hc9)) ls (lv_sub hl [0, 1, 2, 3, 4, 5] rfl)
                      · refine lv_iconst (v := nI 0) hx hb dM_add_106 (by decide) ?_
                        exact W.iret (v := nI 0) hx hb hr (fun t ht hW => ⟨⟨_, (mkM np nc pe an up dn rw so mn wd wv), rfl, by rw [opAdd, if_neg hno, if_neg hno3, if_neg (by omega), if_pos (anyN_hit hc (by simpa using hc9))], by show va_P D vwCl _ t.heap; rw [ht]; exact hP⟩, hS.F ht⟩) hS.2.2 dM_add_107
                exact loop (mn x.toInt.toNat + 1) 0 (by omega) (by omega) rfl ls (lv_sub hl [0, 1, 3, 4, 2, 5] rfl)
              · refine lv_bipush (v := (-4)) hx hb dM_add_73 (by decide) ?_
                exact W.iret (v := (-4)) hx hb hr (fun t ht hW => ⟨⟨_, (mkM np nc pe an up dn rw so mn wd wv), rfl, by rw [opAdd, if_neg hno, if_neg hno3, if_pos (by omega)], by show va_P D vwCl _ t.heap; rw [ht]; exact hP⟩, hS.F ht⟩) hS.2.2 dM_add_75
            · refine lv_bipush (v := (-3)) hx hb dM_add_59 (by decide) ?_
              exact W.iret (v := (-3)) hx hb hr (fun t ht hW => ⟨⟨_, (mkM np nc pe an up dn rw so mn wd wv), rfl, by rw [opAdd, if_neg hno, if_pos (by rw [hsm, show (pe y.toInt.toNat == 0) = true by simpa using q5]; rfl)], by show va_P D vwCl _ t.heap; rw [ht]; exact hP⟩, hS.F ht⟩) hS.2.2 dM_add_61
    · refine lv_iconst (v := (-1)) hx hb dM_add_21 (by decide) ?_
      exact W.iret (v := (-1)) hx hb hr (fun t ht hW => ⟨⟨_, (mkM np nc pe an up dn rw so mn wd wv), rfl, by rw [opAdd, if_pos (by rw [q1, q2]; rfl)], by show va_P D vwCl _ t.heap; rw [ht]; exact hP⟩, hS.F ht⟩) hS.2.2 dM_add_22
set_option maxHeartbeats 4000000 in
set_option maxRecDepth 100000 in
theorem n_worst (l : Launch) (D : va_G) (ka : Nat → ClassId) (H0 : Heap) (a : Nat → Nat) (tv np nc : Nat) (pe an up dn rw : Nat → Nat) (so : Nat → Bool) (mn : Nat → Nat) (wd : Nat → Bool) (wv : Nat → Int64) (x : Int32) (ag : Bool) (hM : va_P D vwCl (mW ka a tv np nc pe an up dn rw so mn wd wv) H0) (hO : mOk np nc pe an up dn rw so mn wd wv) (haI : ∀ i j, i < 10 → j < 10 → a i = a j → i = j)  : Met l yM_worst (.code yM_worst cM_worst 3 (some .long) :: gT) ({ frames := 4, cells := 0, slots := 0, locals := 91 }) (ro_Pc D vwCl (tyL ka) H0 [.ref (a 0), .int x, .int (bI ag)]) (va_Ql (fun (r : Int64) (u : Unit) => r = spWorst nc pe an up dn rw so mn x ag) (fun u t => va_P D vwCl (mW ka a 0 np nc pe an up dn rw so mn wd wv) t.heap) (mA a)) 0 0 (mA a) := by
  refine Met.ofW (cc := cM_worst) (maxL := 3) (ret := (some .long)) (by decide) rfl ?_
  intro p e s m args below meth c s₁ B hml hv
  obtain ⟨rfl, hH, hK, hN⟩ := hv
  subst hH
  have hx := B.exec
  have hb := B.bytes
  have hr := B.returns
  have hts : ∀ w ∈ gT, w.before ([.ref (a 0), .int x, .int (bI ag)] : List Value).toArray s = true := fun w h => atoms_spec (ws := (.code yM_worst cM_worst 3 (some .long) :: gT)) B.pre w (List.mem_cons_of_mem _ h)
  have hown : s.vm.findClass RM = some m.cls := findClass_of_methodNamed B.named
  have hlocks := B.notSynchronized
  have hl := lv_entry ([.ref (a 0), .int x, .int (bI ag)]) (n := 3) (Nat.le_of_ble_eq_true rfl)
  rw [lg_entry_eq]
  generalize (lg_sl ([.ref (a 0), .int x, .int (bI ag)]) ++ List.replicate (3 - (lg_sl ([.ref (a 0), .int x, .int (bI ag)])).length) Slot.unset).toArray = ls at hl ⊢
  have hl : lv_has ls 3 [(0, .ref (a 0)), (1, .int x), (2, .int (bI ag))] := hl
  have hP : va_P D vwCl (mW ka a tv np nc pe an up dn rw so mn wd wv) s.heap := hM
  have hD : va_D (mA a) (mW ka a tv np nc pe an up dn rw so mn wd wv) := mD haI
  have hS : va_S (mA a) s.heap s.heap [] := va_S.rf
  have hnp := hO.1
  have hnc := hO.2.1
  refine lv_aload_n hx hb dM_worst_0 rfl (lv_at hl 0 rfl) ?_
  refine lv_iconst (v := nI 0) hx hb dM_worst_1 (by decide) ?_
  refine va_put (D := D) (cl := vwCl) (ci := 3) (v := .int (nI 0)) (ty := .int) (C := RM) (T := TM) (N := 12) hx hb hts inM tyM tyM_ok nmM hown hK hP hD hS 0 rfl rfl 0 (by decide) (hts _ tb_300) (fun _ h9 => h9) rfl (by decide +kernel) rfl rfl (Nat.le_of_ble_eq_true rfl) dM_worst_2 (fun H locs hP hD hS => ?_)
  have hP : va_P D vwCl (mW ka a 0 np nc pe an up dn rw so mn wd wv) H := hP
  have hD : va_D (mA a) (mW ka a 0 np nc pe an up dn rw so mn wd wv) := hD
  refine lv_aload_n hx hb dM_worst_5 rfl (lv_at hl 0 rfl) ?_
  refine lv_iload_n hx hb dM_worst_6 rfl (lv_at hl 1 rfl) ?_
  refine vp_callSi (va_Run.run (va_runV (As := [.int x]) (rest := []) ⟨hx, hb, hml, hown, hts⟩ (m_isEmpty l D ka H a 0 np nc pe an up dn rw so mn wd wv x hP hO) (cw_V 1 hts tb_371 rfl rfl tb_368 tb_2 tb_370 ts_21 (by decide +kernel) ⟨Nat.le_of_ble_eq_true rfl, Nat.le_of_ble_eq_true rfl⟩) (ro_V (ci := 3) hK hN (hP.nth 0 rfl) rfl) rfl rfl hl.1 rfl (lv_room (Nat.le_of_ble_eq_true rfl)) dM_worst_7 ⟨Nat.zero_le _, Nat.zero_le _⟩)) (fun r er => ?_)
  subst er
  refine b_if_eq (tgt := 19) hx hb dM_worst_10 (by decide) (fun q1 => ?_) (fun q1 => ?_)
  · obtain ⟨ex, hc1, hc2, hn0⟩ := spEmp_f q1
    rw [ex] at hl
    have hmn := (hO.2.2.2.1 x.toInt.toNat hc1 hc2).1
    refine lv_iload_n hx hb dM_worst_19 rfl (lv_at hl 2 rfl) ?_
    refine b_if_eq (tgt := 31) hx hb dM_worst_20 (by decide) (fun q2 => ?_) (fun q2 => ?_)
    · refine lv_aload_n hx hb dM_worst_31 rfl (lv_at hl 0 rfl) ?_
      refine lv_iload_n hx hb dM_worst_32 rfl (lv_at hl 1 rfl) ?_
      refine vp_callSl (va_Run.run (va_runV (As := [.int (nI (x.toInt.toNat))]) (rest := []) ⟨hx, hb, hml, hown, hts⟩ (m_reaction l D ka H a 0 np nc pe an up dn rw so mn wd wv x.toInt.toNat hP hO hc1 hc2) (cw_V 1 hts tb_380 rfl rfl tb_377 tb_2 tb_379 ts_23 (by decide +kernel) ⟨Nat.le_of_ble_eq_true rfl, Nat.le_of_ble_eq_true rfl⟩) (ro_V (ci := 3) hK hN (hP.nth 0 rfl) rfl) rfl rfl hl.1 rfl (lv_room (Nat.le_of_ble_eq_true rfl)) dM_worst_33 ⟨Nat.zero_le _, Nat.zero_le _⟩)) (fun r er => ?_)
      subst er
      exact W.lret (v := lN (rea pe an up dn rw so mn x.toInt.toNat)) hx hb hr (fun t ht hW => ⟨⟨_, (), rfl, by rw [spWorst, if_neg (by rw [q1]; decide), if_neg (by rw [q2]; decide)], by show va_P D vwCl _ t.heap; rw [ht]; exact hP⟩, hS.F ht⟩) hS.2.2 dM_worst_36
    · refine lv_aload_n hx hb dM_worst_23 rfl (lv_at hl 0 rfl) ?_
      refine lv_iload_n hx hb dM_worst_24 rfl (lv_at hl 1 rfl) ?_
      refine vp_callSl (va_Run.run (va_runV (As := [.int (nI (x.toInt.toNat))]) (rest := []) ⟨hx, hb, hml, hown, hts⟩ (m_age l D ka H a 0 np nc pe an up dn rw so mn wd wv x.toInt.toNat hP hO hc1 hc2 hn0) (cw_V 1 hts tb_376 rfl rfl tb_373 tb_2 tb_375 ts_22 (by decide +kernel) ⟨Nat.le_of_ble_eq_true rfl, Nat.le_of_ble_eq_true rfl⟩) (ro_V (ci := 3) hK hN (hP.nth 0 rfl) rfl) rfl rfl hl.1 rfl (lv_room (Nat.le_of_ble_eq_true rfl)) dM_worst_25 ⟨Nat.zero_le _, Nat.zero_le _⟩)) (fun r er => ?_)
      subst er
      refine lv_goto (tgt := 36) hx hb dM_worst_28 (by decide) ?_
      exact W.lret (v := lN (ageN pe an up dn rw so mn x.toInt.toNat)) hx hb hr (fun t ht hW => ⟨⟨_, (), rfl, by rw [spWorst, if_neg (by rw [q1]; decide), if_pos q2], by show va_P D vwCl _ t.heap; rw [ht]; exact hP⟩, hS.F ht⟩) hS.2.2 dM_worst_36
  · refine lv_ldc2 (v := (-1)) hx hb hown (hts _ tb_372) dM_worst_13 ?_
    refine lv_goto (tgt := 36) hx hb dM_worst_16 (by decide) ?_
    exact W.lret (v := (-1)) hx hb hr (fun t ht hW => ⟨⟨_, (), rfl, by rw [spWorst, if_pos q1], by show va_P D vwCl _ t.heap; rw [ht]; exact hP⟩, hS.F ht⟩) hS.2.2 dM_worst_36
set_option maxHeartbeats 4000000 in
set_option maxRecDepth 100000 in
theorem n_best (l : Launch) (D : va_G) (ka : Nat → ClassId) (H0 : Heap) (a : Nat → Nat) (tv np nc : Nat) (pe an up dn rw : Nat → Nat) (so : Nat → Bool) (mn : Nat → Nat) (wd : Nat → Bool) (wv : Nat → Int64) (x : Int32) (ag : Bool) (hM : va_P D vwCl (mW ka a tv np nc pe an up dn rw so mn wd wv) H0) (hO : mOk np nc pe an up dn rw so mn wd wv) (haI : ∀ i j, i < 10 → j < 10 → a i = a j → i = j)  : Met l yM_best (.code yM_best cM_best 6 (some .long) :: gT) ({ frames := 2, cells := 0, slots := 0, locals := 42 }) (ro_Pc D vwCl (tyL ka) H0 [.ref (a 0), .int x, .int (bI ag)]) (va_Ql (fun (r : Int64) (u : Unit) => r = spBest nc an rw mn x ag) (fun u t => va_P D vwCl (mW ka a 0 np nc pe an up dn rw so mn wd wv) t.heap) (mA a)) 0 0 (mA a) := by
  refine Met.ofW (cc := cM_best) (maxL := 6) (ret := (some .long)) (by decide) rfl ?_
  intro p e s m args below meth c s₁ B hml hv
  obtain ⟨rfl, hH, hK, hN⟩ := hv
  subst hH
  have hx := B.exec
  have hb := B.bytes
  have hr := B.returns
  have hts : ∀ w ∈ gT, w.before ([.ref (a 0), .int x, .int (bI ag)] : List Value).toArray s = true := fun w h => atoms_spec (ws := (.code yM_best cM_best 6 (some .long) :: gT)) B.pre w (List.mem_cons_of_mem _ h)
  have hown : s.vm.findClass RM = some m.cls := findClass_of_methodNamed B.named
  have hlocks := B.notSynchronized
  have hl := lv_entry ([.ref (a 0), .int x, .int (bI ag)]) (n := 6) (Nat.le_of_ble_eq_true rfl)
  rw [lg_entry_eq]
  generalize (lg_sl ([.ref (a 0), .int x, .int (bI ag)]) ++ List.replicate (6 - (lg_sl ([.ref (a 0), .int x, .int (bI ag)])).length) Slot.unset).toArray = ls at hl ⊢
  have hl : lv_has ls 6 [(0, .ref (a 0)), (1, .int x), (2, .int (bI ag))] := hl
  have hP : va_P D vwCl (mW ka a tv np nc pe an up dn rw so mn wd wv) s.heap := hM
  have hD : va_D (mA a) (mW ka a tv np nc pe an up dn rw so mn wd wv) := mD haI
  have hS : va_S (mA a) s.heap s.heap [] := va_S.rf
  have hnp := hO.1
  have hnc := hO.2.1
  refine lv_aload_n hx hb dM_best_0 rfl (lv_at hl 0 rfl) ?_
  refine lv_iconst (v := nI 0) hx hb dM_best_1 (by decide) ?_
  refine va_put (D := D) (cl := vwCl) (ci := 3) (v := .int (nI 0)) (ty := .int) (C := RM) (T := TM) (N := 12) hx hb hts inM tyM tyM_ok nmM hown hK hP hD hS 0 rfl rfl 0 (by decide) (hts _ tb_300) (fun _ h9 => h9) rfl (by decide +kernel) rfl rfl (Nat.le_of_ble_eq_true rfl) dM_best_2 (fun H locs hP hD hS => ?_)
  have hP : va_P D vwCl (mW ka a 0 np nc pe an up dn rw so mn wd wv) H := hP
  have hD : va_D (mA a) (mW ka a 0 np nc pe an up dn rw so mn wd wv) := hD
  refine lv_aload_n hx hb dM_best_5 rfl (lv_at hl 0 rfl) ?_
  refine lv_iload_n hx hb dM_best_6 rfl (lv_at hl 1 rfl) ?_
  refine vp_callSi (va_Run.run (va_runV (As := [.int x]) (rest := []) ⟨hx, hb, hml, hown, hts⟩ (m_isEmpty l D ka H a 0 np nc pe an up dn rw so mn wd wv x hP hO) (cw_V 1 hts tb_371 rfl rfl tb_368 tb_2 tb_370 ts_21 (by decide +kernel) ⟨Nat.le_of_ble_eq_true rfl, Nat.le_of_ble_eq_true rfl⟩) (ro_V (ci := 3) hK hN (hP.nth 0 rfl) rfl) rfl rfl hl.1 rfl (lv_room (Nat.le_of_ble_eq_true rfl)) dM_best_7 ⟨Nat.zero_le _, Nat.zero_le _⟩)) (fun r er => ?_)
  subst er
  refine b_if_eq (tgt := 17) hx hb dM_best_10 (by decide) (fun q1 => ?_) (fun q1 => ?_)
  · obtain ⟨ex, hc1, hc2, hn0⟩ := spEmp_f q1
    rw [ex] at hl
    have hmn := (hO.2.2.2.1 x.toInt.toNat hc1 hc2).1
    refine lv_lconst (v := lN 0) hx hb dM_best_17 rfl ?_
    refine lv_lstore_n (lv' := [(3, .long (lN 0)), (0, .ref (a 0)), (1, .int (nI (x.toInt.toNat))), (2, .int (bI ag))]) hx hb dM_best_18 rfl hl (by decide) rfl (fun ls hl => ?_)
    refine lv_iload_n hx hb dM_best_19 rfl (lv_at hl 3 rfl) ?_
    refine b_if_eq (tgt := 27) hx hb dM_best_20 (by decide) (fun q2 => ?_) (fun q2 => ?_)
    · refine lv_iconst (v := nI 0) hx hb dM_best_27 (by decide) ?_
      refine lv_istore (lv' := [(5, .int (nI 0)), (3, .long (lN 0)), (0, .ref (a 0)), (1, .int (nI (x.toInt.toNat))), (2, .int (bI ag))]) hx hb dM_best_28 hl (by decide) rfl (fun ls hl => ?_)
      have loop : ∀ (fu i : Nat), i ≤ mn x.toInt.toNat → mn x.toInt.toNat < i + fu → 0 ≤ i → ∀ ls : Array Slot, lv_has ls 6 [(5, .int (nI i)), (3, .long (lN (sumN (qF an rw x.toInt.toNat) i - sumN (qF an rw x.toInt.toNat) 0))), (1, .int (nI (x.toInt.toNat))), (0, .ref (a 0))] → W p l e (headSpec (.code yM_best cM_best 6 (some .long) :: gT) ({ frames := 2, cells := 0, slots := 0, locals := 42 })).room s m ([.ref (a 0), .int x, .int (bI ag)] : List Value).toArray below meth c H locs 0 0 (MQ below (va_Ql (fun (r : Int64) (u : Unit) => r = spBest nc an rw mn x ag) (fun u t => va_P D vwCl (mW ka a 0 np nc pe an up dn rw so mn wd wv) t.heap) (mA a)) ([.ref (a 0), .int x, .int (bI ag)] : List Value).toArray s 0 0 (mA a)) (F0 m 30 ls []) := by
        intro fu
        induction fu with
        | zero => intro i h1 h2; exact absurd h2 (by omega)
        | succ fu ih =>
          intro i hi hf hg0 ls hl
          refine lv_iload hx hb dM_best_30 (lv_at hl 0 rfl) ?_
          refine lv_aload_n hx hb dM_best_32 rfl (lv_at hl 3 rfl) ?_
          refine g_get (cl := vwCl) (ci := 3) (v := .ref (a 7)) hx hb hts inM hown hK (hP.nth 0 rfl) rfl 9 (by decide) (hts _ tb_309) rfl dM_best_33 ?_
          refine lv_iload_n hx hb dM_best_36 rfl (lv_at hl 2 rfl) ?_
          refine g_ialdv (v := nI (mn (x.toInt.toNat))) hx hb hK 4 (hP.nth 7 rfl) rfl (by omega) (by decide) (rfl) dM_best_37 ?_
          refine n_icmp_ge (tgt := 67) hx hb (by omega) (by omega) dM_best_38 (by decide) (fun hc => ?_) (fun hc => ?_)
          · refine lv_lload_n hx hb dM_best_67 rfl (lv_at hl 1 rfl) ?_
            exact W.lret (v := lN (sumN (qF an rw x.toInt.toNat) i - sumN (qF an rw x.toInt.toNat) 0)) hx hb hr (fun t ht hW => ⟨⟨_, (), rfl, by rw [spBest, if_neg (by rw [q1]; decide), show i = mn x.toInt.toNat by omega, if_neg (by rw [q2]; decide)], by show va_P D vwCl _ t.heap; rw [ht]; exact hP⟩, hS.F ht⟩) hS.2.2 dM_best_68
          · have hR := hO.row hc1 hc2 hc
            have hmo := sumN_mono (f := (qF an rw x.toInt.toNat)) i 0 hg0
            refine lv_lload_n hx hb dM_best_41 rfl (lv_at hl 1 rfl) ?_
            refine lv_aload_n hx hb dM_best_42 rfl (lv_at hl 3 rfl) ?_
            refine g_get (cl := vwCl) (ci := 3) (v := .ref (a 2)) hx hb hts inM hown hK (hP.nth 0 rfl) rfl 3 (by decide) (hts _ tb_303) rfl dM_best_43 ?_
            refine lv_aload_n hx hb dM_best_46 rfl (lv_at hl 3 rfl) ?_
            refine g_get (cl := vwCl) (ci := 3) (v := .ref (a 5)) hx hb hts inM hown hK (hP.nth 0 rfl) rfl 7 (by decide) (hts _ tb_307) rfl dM_best_47 ?_
            refine lv_bipush (v := nI 12) hx hb dM_best_50 (by decide) ?_
            refine lv_iload_n hx hb dM_best_52 rfl (lv_at hl 2 rfl) ?_
            refine n_imul hx hb dM_best_53 ?_
            refine lv_iload hx hb dM_best_54 (lv_at hl 0 rfl) ?_
            refine n_iadd hx hb dM_best_56 ?_
            refine g_ialdv (v := nI (rw ((12 * (x.toInt.toNat)) + i))) hx hb hK 4 (hP.nth 5 rfl) rfl (by omega) (by decide) (rfl) dM_best_57 ?_
            refine g_laldv (v := lN (an (rw ((12 * (x.toInt.toNat)) + i)))) hx hb hK 3 (hP.nth 2 rfl) rfl (by omega) (by decide) (rfl) dM_best_58 ?_
            refine n_ladd hx hb dM_best_59 ?_
            refine lv_lstore_n (lv' := [(3, .long (lN ((sumN (qF an rw x.toInt.toNat) i - sumN (qF an rw x.toInt.toNat) 0) + (an (rw ((12 * (x.toInt.toNat)) + i)))))), (5, .int (nI i)), (1, .int (nI (x.toInt.toNat))), (0, .ref (a 0))]) hx hb dM_best_60 rfl hl (by decide) rfl (fun ls hl => ?_)
            refine lv_iinc (v := nI (i + 1)) (lv' := [(5, .int (nI (i + 1))), (3, .long (lN ((sumN (qF an rw x.toInt.toNat) i - sumN (qF an rw x.toInt.toNat) 0) + (an (rw ((12 * (x.toInt.toNat)) + i)))))), (1, .int (nI (x.toInt.toNat))), (0, .ref (a 0))]) hx hb dM_best_61 hl (k := 1) rfl (nI_add i 1) (by decide) rfl (fun ls hl => ?_)
            refine lv_goto (tgt := 30) hx hb dM_best_64 (by decide) ?_
            exact ih (i + 1) (by omega) (by omega) (by omega) ls (by rw [show sumN (qF an rw x.toInt.toNat) (i + 1) - sumN (qF an rw x.toInt.toNat) 0 = sumN (qF an rw x.toInt.toNat) i - sumN (qF an rw x.toInt.toNat) 0 + an (rw ((12 * x.toInt.toNat) + i)) from (by show sumN (qF an rw x.toInt.toNat) i + an (rw ((12 * x.toInt.toNat) + i)) - sumN (qF an rw x.toInt.toNat) 0 = _; omega)]; exact lv_sub hl [0, 1, 2, 3] rfl)
      exact loop (mn x.toInt.toNat + 1) 0 (by omega) (by omega) (Nat.le_refl _) ls (by rw [Nat.sub_self]; exact lv_sub hl [0, 1, 3, 2] rfl)
    · refine lv_iconst (v := nI 1) hx hb dM_best_23 (by decide) ?_
      refine lv_goto (tgt := 28) hx hb dM_best_24 (by decide) ?_
      refine lv_istore (lv' := [(5, .int (nI 1)), (3, .long (lN 0)), (0, .ref (a 0)), (1, .int (nI (x.toInt.toNat))), (2, .int (bI ag))]) hx hb dM_best_28 hl (by decide) rfl (fun ls hl => ?_)
      have loop : ∀ (fu i : Nat), i ≤ mn x.toInt.toNat → mn x.toInt.toNat < i + fu → 1 ≤ i → ∀ ls : Array Slot, lv_has ls 6 [(5, .int (nI i)), (3, .long (lN (sumN (qF an rw x.toInt.toNat) i - sumN (qF an rw x.toInt.toNat) 1))), (1, .int (nI (x.toInt.toNat))), (0, .ref (a 0))] → W p l e (headSpec (.code yM_best cM_best 6 (some .long) :: gT) ({ frames := 2, cells := 0, slots := 0, locals := 42 })).room s m ([.ref (a 0), .int x, .int (bI ag)] : List Value).toArray below meth c H locs 0 0 (MQ below (va_Ql (fun (r : Int64) (u : Unit) => r = spBest nc an rw mn x ag) (fun u t => va_P D vwCl (mW ka a 0 np nc pe an up dn rw so mn wd wv) t.heap) (mA a)) ([.ref (a 0), .int x, .int (bI ag)] : List Value).toArray s 0 0 (mA a)) (F0 m 30 ls []) := by
        intro fu
        induction fu with
        | zero => intro i h1 h2; exact absurd h2 (by omega)
        | succ fu ih =>
          intro i hi hf hg0 ls hl
          refine lv_iload hx hb dM_best_30 (lv_at hl 0 rfl) ?_
          refine lv_aload_n hx hb dM_best_32 rfl (lv_at hl 3 rfl) ?_
          refine g_get (cl := vwCl) (ci := 3) (v := .ref (a 7)) hx hb hts inM hown hK (hP.nth 0 rfl) rfl 9 (by decide) (hts _ tb_309) rfl dM_best_33 ?_
          refine lv_iload_n hx hb dM_best_36 rfl (lv_at hl 2 rfl) ?_
          refine g_ialdv (v := nI (mn (x.toInt.toNat))) hx hb hK 4 (hP.nth 7 rfl) rfl (by omega) (by decide) (rfl) dM_best_37 ?_
          refine n_icmp_ge (tgt := 67) hx hb (by omega) (by omega) dM_best_38 (by decide) (fun hc => ?_) (fun hc => ?_)
          · refine lv_lload_n hx hb dM_best_67 rfl (lv_at hl 1 rfl) ?_
            exact W.lret (v := lN (sumN (qF an rw x.toInt.toNat) i - sumN (qF an rw x.toInt.toNat) 1)) hx hb hr (fun t ht hW => ⟨⟨_, (), rfl, by rw [spBest, if_neg (by rw [q1]; decide), show i = mn x.toInt.toNat by omega, if_pos q2], by show va_P D vwCl _ t.heap; rw [ht]; exact hP⟩, hS.F ht⟩) hS.2.2 dM_best_68
          · have hR := hO.row hc1 hc2 hc
            have hmo := sumN_mono (f := (qF an rw x.toInt.toNat)) i 1 hg0
            refine lv_lload_n hx hb dM_best_41 rfl (lv_at hl 1 rfl) ?_
            refine lv_aload_n hx hb dM_best_42 rfl (lv_at hl 3 rfl) ?_
            refine g_get (cl := vwCl) (ci := 3) (v := .ref (a 2)) hx hb hts inM hown hK (hP.nth 0 rfl) rfl 3 (by decide) (hts _ tb_303) rfl dM_best_43 ?_
            refine lv_aload_n hx hb dM_best_46 rfl (lv_at hl 3 rfl) ?_
            refine g_get (cl := vwCl) (ci := 3) (v := .ref (a 5)) hx hb hts inM hown hK (hP.nth 0 rfl) rfl 7 (by decide) (hts _ tb_307) rfl dM_best_47 ?_
            refine lv_bipush (v := nI 12) hx hb dM_best_50 (by decide) ?_
            refine lv_iload_n hx hb dM_best_52 rfl (lv_at hl 2 rfl) ?_
            refine n_imul hx hb dM_best_53 ?_
            refine lv_iload hx hb dM_best_54 (lv_at hl 0 rfl) ?_
            refine n_iadd hx hb dM_best_56 ?_
            refine g_ialdv (v := nI (rw ((12 * (x.toInt.toNat)) + i))) hx hb hK 4 (hP.nth 5 rfl) rfl (by omega) (by decide) (rfl) dM_best_57 ?_
            refine g_laldv (v := lN (an (rw ((12 * (x.toInt.toNat)) + i)))) hx hb hK 3 (hP.nth 2 rfl) rfl (by omega) (by decide) (rfl) dM_best_58 ?_
            refine n_ladd hx hb dM_best_59 ?_
            refine lv_lstore_n (lv' := [(3, .long (lN ((sumN (qF an rw x.toInt.toNat) i - sumN (qF an rw x.toInt.toNat) 1) + (an (rw ((12 * (x.toInt.toNat)) + i)))))), (5, .int (nI i)), (1, .int (nI (x.toInt.toNat))), (0, .ref (a 0))]) hx hb dM_best_60 rfl hl (by decide) rfl (fun ls hl => ?_)
            refine lv_iinc (v := nI (i + 1)) (lv' := [(5, .int (nI (i + 1))), (3, .long (lN ((sumN (qF an rw x.toInt.toNat) i - sumN (qF an rw x.toInt.toNat) 1) + (an (rw ((12 * (x.toInt.toNat)) + i)))))), (1, .int (nI (x.toInt.toNat))), (0, .ref (a 0))]) hx hb dM_best_61 hl (k := 1) rfl (nI_add i 1) (by decide) rfl (fun ls hl => ?_)
            refine lv_goto (tgt := 30) hx hb dM_best_64 (by decide) ?_
            exact ih (i + 1) (by omega) (by omega) (by omega) ls (by rw [show sumN (qF an rw x.toInt.toNat) (i + 1) - sumN (qF an rw x.toInt.toNat) 1 = sumN (qF an rw x.toInt.toNat) i - sumN (qF an rw x.toInt.toNat) 1 + an (rw ((12 * x.toInt.toNat) + i)) from (by show sumN (qF an rw x.toInt.toNat) i + an (rw ((12 * x.toInt.toNat) + i)) - sumN (qF an rw x.toInt.toNat) 1 = _; omega)]; exact lv_sub hl [0, 1, 2, 3] rfl)
      exact loop (mn x.toInt.toNat + 1) 1 (by omega) (by omega) (Nat.le_refl _) ls (by rw [Nat.sub_self]; exact lv_sub hl [0, 1, 3, 2] rfl)
  · refine lv_ldc2 (v := (-1)) hx hb hown (hts _ tb_372) dM_best_13 ?_
    exact W.lret (v := (-1)) hx hb hr (fun t ht hW => ⟨⟨_, (), rfl, by rw [spBest, if_pos q1], by show va_P D vwCl _ t.heap; rw [ht]; exact hP⟩, hS.F ht⟩) hS.2.2 dM_best_16
set_option maxHeartbeats 4000000 in
set_option maxRecDepth 100000 in
theorem n_plain (l : Launch) (D : va_G) (ka : Nat → ClassId) (H0 : Heap) (a : Nat → Nat) (tv np nc : Nat) (pe an up dn rw : Nat → Nat) (so : Nat → Bool) (mn : Nat → Nat) (wd : Nat → Bool) (wv : Nat → Int64) (x : Int32) (hM : va_P D vwCl (mW ka a tv np nc pe an up dn rw so mn wd wv) H0) (hO : mOk np nc pe an up dn rw so mn wd wv) (haI : ∀ i j, i < 10 → j < 10 → a i = a j → i = j)  : Met l yM_plain (.code yM_plain cM_plain 2 (some .boolean) :: gT) ({ frames := 3, cells := 0, slots := 0, locals := 81 }) (ro_Pc D vwCl (tyL ka) H0 [.ref (a 0), .int x]) (va_Qi (fun (r : Int32) (u : Unit) => r = bI (spPlain nc pe up rw so mn x)) (fun u t => va_P D vwCl (mW ka a 0 np nc pe an up dn rw so mn wd wv) t.heap) (mA a)) 0 0 (mA a) := by
  refine Met.ofW (cc := cM_plain) (maxL := 2) (ret := (some .boolean)) (by decide) rfl ?_
  intro p e s m args below meth c s₁ B hml hv
  obtain ⟨rfl, hH, hK, hN⟩ := hv
  subst hH
  have hx := B.exec
  have hb := B.bytes
  have hr := B.returns
  have hts : ∀ w ∈ gT, w.before ([.ref (a 0), .int x] : List Value).toArray s = true := fun w h => atoms_spec (ws := (.code yM_plain cM_plain 2 (some .boolean) :: gT)) B.pre w (List.mem_cons_of_mem _ h)
  have hown : s.vm.findClass RM = some m.cls := findClass_of_methodNamed B.named
  have hlocks := B.notSynchronized
  have hl := lv_entry ([.ref (a 0), .int x]) (n := 2) (Nat.le_of_ble_eq_true rfl)
  rw [lg_entry_eq]
  generalize (lg_sl ([.ref (a 0), .int x]) ++ List.replicate (2 - (lg_sl ([.ref (a 0), .int x])).length) Slot.unset).toArray = ls at hl ⊢
  have hl : lv_has ls 2 [(0, .ref (a 0)), (1, .int x)] := hl
  have hP : va_P D vwCl (mW ka a tv np nc pe an up dn rw so mn wd wv) s.heap := hM
  have hD : va_D (mA a) (mW ka a tv np nc pe an up dn rw so mn wd wv) := mD haI
  have hS : va_S (mA a) s.heap s.heap [] := va_S.rf
  have hnp := hO.1
  have hnc := hO.2.1
  refine lv_aload_n hx hb dM_plain_0 rfl (lv_at hl 0 rfl) ?_
  refine lv_iconst (v := nI 0) hx hb dM_plain_1 (by decide) ?_
  refine va_put (D := D) (cl := vwCl) (ci := 3) (v := .int (nI 0)) (ty := .int) (C := RM) (T := TM) (N := 12) hx hb hts inM tyM tyM_ok nmM hown hK hP hD hS 0 rfl rfl 0 (by decide) (hts _ tb_300) (fun _ h9 => h9) rfl (by decide +kernel) rfl rfl (Nat.le_of_ble_eq_true rfl) dM_plain_2 (fun H locs hP hD hS => ?_)
  have hP : va_P D vwCl (mW ka a 0 np nc pe an up dn rw so mn wd wv) H := hP
  have hD : va_D (mA a) (mW ka a 0 np nc pe an up dn rw so mn wd wv) := hD
  refine lv_aload_n hx hb dM_plain_5 rfl (lv_at hl 0 rfl) ?_
  refine lv_iload_n hx hb dM_plain_6 rfl (lv_at hl 1 rfl) ?_
  refine vp_callSi (va_Run.run (va_runV (As := [.int x]) (rest := []) ⟨hx, hb, hml, hown, hts⟩ (m_isEmpty l D ka H a 0 np nc pe an up dn rw so mn wd wv x hP hO) (cw_V 1 hts tb_371 rfl rfl tb_368 tb_2 tb_370 ts_21 (by decide +kernel) ⟨Nat.le_of_ble_eq_true rfl, Nat.le_of_ble_eq_true rfl⟩) (ro_V (ci := 3) hK hN (hP.nth 0 rfl) rfl) rfl rfl hl.1 rfl (lv_room (Nat.le_of_ble_eq_true rfl)) dM_plain_7 ⟨Nat.zero_le _, Nat.zero_le _⟩)) (fun r er => ?_)
  subst er
  refine b_if_ne (tgt := 25) hx hb dM_plain_10 (by decide) (fun q1 => ?_) (fun q1 => ?_)
  · refine lv_iconst (v := nI 0) hx hb dM_plain_25 (by decide) ?_
    exact W.zret (v := nI 0) (ty := .boolean) hx hb hr (by decide) (fun t ht hW => ⟨⟨_, (), rfl, by rw [spPlain, q1]; rfl, by show va_P D vwCl _ t.heap; rw [ht]; exact hP⟩, hS.F ht⟩) hS.2.2 dM_plain_26
  · obtain ⟨ex, hc1, hc2, hn0⟩ := spEmp_f q1
    rw [ex] at hl
    have hmn := (hO.2.2.2.1 x.toInt.toNat hc1 hc2).1
    refine lv_aload_n hx hb dM_plain_13 rfl (lv_at hl 0 rfl) ?_
    refine lv_iload_n hx hb dM_plain_14 rfl (lv_at hl 1 rfl) ?_
    refine vp_callSi (va_Run.run (va_runV (As := [.int (nI (x.toInt.toNat))]) (rest := []) ⟨hx, hb, hml, hown, hts⟩ (m_isPlain l D ka H a 0 np nc pe an up dn rw so mn wd wv x.toInt.toNat hP hO hc1 hc2) (cw_V 1 hts tb_426 rfl rfl tb_423 tb_2 tb_425 ts_27 (by decide +kernel) ⟨Nat.le_of_ble_eq_true rfl, Nat.le_of_ble_eq_true rfl⟩) (ro_V (ci := 3) hK hN (hP.nth 0 rfl) rfl) rfl rfl hl.1 rfl (lv_room (Nat.le_of_ble_eq_true rfl)) dM_plain_15 ⟨Nat.zero_le _, Nat.zero_le _⟩)) (fun r er => ?_)
    subst er
    refine b_if_eq (tgt := 25) hx hb dM_plain_18 (by decide) (fun q2 => ?_) (fun q2 => ?_)
    · refine lv_iconst (v := nI 0) hx hb dM_plain_25 (by decide) ?_
      exact W.zret (v := nI 0) (ty := .boolean) hx hb hr (by decide) (fun t ht hW => ⟨⟨_, (), rfl, by rw [spPlain, q1, q2]; rfl, by show va_P D vwCl _ t.heap; rw [ht]; exact hP⟩, hS.F ht⟩) hS.2.2 dM_plain_26
    · refine lv_iconst (v := nI 1) hx hb dM_plain_21 (by decide) ?_
      refine lv_goto (tgt := 26) hx hb dM_plain_22 (by decide) ?_
      exact W.zret (v := nI 1) (ty := .boolean) hx hb hr (by decide) (fun t ht hW => ⟨⟨_, (), rfl, by rw [spPlain, q1, q2]; rfl, by show va_P D vwCl _ t.heap; rw [ht]; exact hP⟩, hS.F ht⟩) hS.2.2 dM_plain_26
set_option maxHeartbeats 4000000 in
set_option maxRecDepth 100000 in
theorem n_clock (l : Launch) (D : va_G) (ka : Nat → ClassId) (H0 : Heap) (a : Nat → Nat) (tv np nc : Nat) (pe an up dn rw : Nat → Nat) (so : Nat → Bool) (mn : Nat → Nat) (wd : Nat → Bool) (wv : Nat → Int64) (x : Int32) (uu dd : Int64) (hM : va_P D vwCl (mW ka a tv np nc pe an up dn rw so mn wd wv) H0) (hO : mOk np nc pe an up dn rw so mn wd wv) (haI : ∀ i j, i < 10 → j < 10 → a i = a j → i = j)  : Met l yM_clock (.code yM_clock cM_clock 6 (some .int) :: gT) ({ frames := 1, cells := 0, slots := 0, locals := 21 }) (ro_Pc D vwCl (tyL ka) H0 [.ref (a 0), .int x, .long uu, .long dd]) (va_Qi (fun (r : Int32) (u : MSt) => (u, r) = opClock np nc pe an up dn rw so mn wd wv x uu dd) (fun u t => va_P D vwCl (mWs ka a 0 u) t.heap) (mA a)) 0 0 (mA a) := by
  refine Met.ofW (cc := cM_clock) (maxL := 6) (ret := (some .int)) (by decide) rfl ?_
  intro p e s m args below meth c s₁ B hml hv
  obtain ⟨rfl, hH, hK, hN⟩ := hv
  subst hH
  have hx := B.exec
  have hb := B.bytes
  have hr := B.returns
  have hts : ∀ w ∈ gT, w.before ([.ref (a 0), .int x, .long uu, .long dd] : List Value).toArray s = true := fun w h => atoms_spec (ws := (.code yM_clock cM_clock 6 (some .int) :: gT)) B.pre w (List.mem_cons_of_mem _ h)
  have hown : s.vm.findClass RM = some m.cls := findClass_of_methodNamed B.named
  have hlocks := B.notSynchronized
  have hl := lv_entry ([.ref (a 0), .int x, .long uu, .long dd]) (n := 6) (Nat.le_of_ble_eq_true rfl)
  rw [lg_entry_eq]
  generalize (lg_sl ([.ref (a 0), .int x, .long uu, .long dd]) ++ List.replicate (6 - (lg_sl ([.ref (a 0), .int x, .long uu, .long dd])).length) Slot.unset).toArray = ls at hl ⊢
  have hl : lv_has ls 6 [(0, .ref (a 0)), (1, .int x), (2, .long uu), (4, .long dd)] := hl
  have hP : va_P D vwCl (mW ka a tv np nc pe an up dn rw so mn wd wv) s.heap := hM
  have hD : va_D (mA a) (mW ka a tv np nc pe an up dn rw so mn wd wv) := mD haI
  have hS : va_S (mA a) s.heap s.heap [] := va_S.rf
  have hnp := hO.1
  have hnc := hO.2.1
  have z0 : (lN 0).toInt = 0 := by decide +kernel
  have z1 : (lN 1).toInt = 1 := by decide +kernel
  have zb : (lN 1000000).toInt = 1000000 := by decide +kernel
  refine lv_aload_n hx hb dM_clock_0 rfl (lv_at hl 0 rfl) ?_
  refine lv_iconst (v := nI 0) hx hb dM_clock_1 (by decide) ?_
  refine va_put (D := D) (cl := vwCl) (ci := 3) (v := .int (nI 0)) (ty := .int) (C := RM) (T := TM) (N := 12) hx hb hts inM tyM tyM_ok nmM hown hK hP hD hS 0 rfl rfl 0 (by decide) (hts _ tb_300) (fun _ h9 => h9) rfl (by decide +kernel) rfl rfl (Nat.le_of_ble_eq_true rfl) dM_clock_2 (fun H locs hP hD hS => ?_)
  have hP : va_P D vwCl (mW ka a 0 np nc pe an up dn rw so mn wd wv) H := hP
  have hD : va_D (mA a) (mW ka a 0 np nc pe an up dn rw so mn wd wv) := hD
  refine lv_aload_n hx hb dM_clock_5 rfl (lv_at hl 0 rfl) ?_
  refine lv_iload_n hx hb dM_clock_6 rfl (lv_at hl 1 rfl) ?_
  refine vp_callSi (va_Run.run (va_runV (As := [.int x]) (rest := []) ⟨hx, hb, hml, hown, hts⟩ (m_noPiece l D ka H a 0 np nc pe an up dn rw so mn wd wv x hP hO) (cw_V 1 hts tb_363 rfl rfl tb_360 tb_2 tb_362 ts_20 (by decide +kernel) ⟨Nat.le_of_ble_eq_true rfl, Nat.le_of_ble_eq_true rfl⟩) (ro_V (ci := 3) hK hN (hP.nth 0 rfl) rfl) rfl rfl hl.1 rfl (lv_room (Nat.le_of_ble_eq_true rfl)) dM_clock_7 ⟨Nat.zero_le _, Nat.zero_le _⟩)) (fun r er => ?_)
  subst er
  refine b_if_eq (tgt := 15) hx hb dM_clock_10 (by decide) (fun q0 => ?_) (fun q0 => ?_)
  · have hno : ¬ cNo x np = true := by rw [q0]; decide
    obtain ⟨ex1, hc11, hc21⟩ := cNo_nI q0
    rw [ex1] at hl
    have hpb := hO.2.2.1 x.toInt.toNat hc11 hc21
    refine lv_lload hx hb dM_clock_15 (lv_at hl 3 rfl) ?_
    refine lv_lconst (v := lN 1) hx hb dM_clock_17 rfl ?_
    refine r_lcmp_lt (tgt := 46) hx hb dM_clock_18 dM_clock_19 (by decide) (fun q1 => ?_) (fun q1 => ?_)
    · refine lv_bipush (v := (-2)) hx hb dM_clock_46 (by decide) ?_
      exact W.iret (v := (-2)) hx hb hr (fun t ht hW => ⟨⟨_, (mkM np nc pe an up dn rw so mn wd wv), rfl, by rw [opClock, if_neg hno, if_pos (by omega)], by show va_P D vwCl _ t.heap; rw [ht]; exact hP⟩, hS.F ht⟩) hS.2.2 dM_clock_48
    · refine lv_lload hx hb dM_clock_22 (lv_at hl 3 rfl) ?_
      refine lv_ldc2 (v := lN 1000000) hx hb hown (hts _ tb_397) dM_clock_24 ?_
      refine r_lcmp_gt (tgt := 46) hx hb dM_clock_27 dM_clock_28 (by decide) (fun q2 => ?_) (fun q2 => ?_)
      · refine lv_bipush (v := (-2)) hx hb dM_clock_46 (by decide) ?_
        exact W.iret (v := (-2)) hx hb hr (fun t ht hW => ⟨⟨_, (mkM np nc pe an up dn rw so mn wd wv), rfl, by rw [opClock, if_neg hno, if_pos (by omega)], by show va_P D vwCl _ t.heap; rw [ht]; exact hP⟩, hS.F ht⟩) hS.2.2 dM_clock_48
      · refine lv_lload_n hx hb dM_clock_31 rfl (lv_at hl 2 rfl) ?_
        refine lv_lconst (v := lN 0) hx hb dM_clock_32 rfl ?_
        refine r_lcmp_lt (tgt := 46) hx hb dM_clock_33 dM_clock_34 (by decide) (fun q3 => ?_) (fun q3 => ?_)
        · refine lv_bipush (v := (-2)) hx hb dM_clock_46 (by decide) ?_
          exact W.iret (v := (-2)) hx hb hr (fun t ht hW => ⟨⟨_, (mkM np nc pe an up dn rw so mn wd wv), rfl, by rw [opClock, if_neg hno, if_pos (by omega)], by show va_P D vwCl _ t.heap; rw [ht]; exact hP⟩, hS.F ht⟩) hS.2.2 dM_clock_48
        · obtain ⟨ed, hd9⟩ := lon_of (x := dd) (n := 1000000) (by omega) (by omega)
          have hd1 : 1 ≤ dd.toInt.toNat := by omega
          rw [ed] at hl
          refine lv_lload_n hx hb dM_clock_37 rfl (lv_at hl 2 rfl) ?_
          refine lv_lload hx hb dM_clock_38 (lv_at hl 3 rfl) ?_
          refine lv_lconst (v := lN 1) hx hb dM_clock_40 rfl ?_
          refine n_lsub hx hb (by omega) dM_clock_41 ?_
          have zd : (lN (dd.toInt.toNat - 1)).toInt = dd.toInt - 1 := by rw [pk_lT (by omega)]; omega
          refine r_lcmp_le (tgt := 49) hx hb dM_clock_42 dM_clock_43 (by decide) (fun q4 => ?_) (fun q4 => ?_)
          · obtain ⟨eu2, hu9⟩ := lon_of (x := uu) (n := 1000000) (by omega) (by omega)
            rw [eu2] at hl
            have hok : ¬ (dd.toInt < 1 ∨ 1000000 < dd.toInt ∨ uu.toInt < 0 ∨ dd.toInt ≤ uu.toInt) := by omega
            refine lv_aload_n hx hb dM_clock_49 rfl (lv_at hl 0 rfl) ?_
            refine g_get (cl := vwCl) (ci := 3) (v := .ref (a 3)) hx hb hts inM hown hK (hP.nth 0 rfl) rfl 4 (by decide) (hts _ tb_304) rfl dM_clock_50 ?_
            refine lv_iload_n hx hb dM_clock_53 rfl (lv_at hl 1 rfl) ?_
            refine lv_lload_n hx hb dM_clock_54 rfl (lv_at hl 2 rfl) ?_
            refine g_last hx hb hK hP hD hS 3 3 rfl rfl (by omega) (by decide) upL dM_clock_55 (fun H locs hP hD hS => ?_)
            have hP : va_P D vwCl (mW ka a 0 np nc pe an (va_up up (x.toInt.toNat) (uu.toInt.toNat)) dn rw so mn wd wv) H := hP
            have hD : va_D (mA a) (mW ka a 0 np nc pe an (va_up up (x.toInt.toNat) (uu.toInt.toNat)) dn rw so mn wd wv) := hD
            refine lv_aload_n hx hb dM_clock_56 rfl (lv_at hl 0 rfl) ?_
            refine g_get (cl := vwCl) (ci := 3) (v := .ref (a 4)) hx hb hts inM hown hK (hP.nth 0 rfl) rfl 5 (by decide) (hts _ tb_305) rfl dM_clock_57 ?_
            refine lv_iload_n hx hb dM_clock_60 rfl (lv_at hl 1 rfl) ?_
            refine lv_lload hx hb dM_clock_61 (lv_at hl 3 rfl) ?_
            refine g_last hx hb hK hP hD hS 4 3 rfl rfl (by omega) (by decide) upL dM_clock_63 (fun H locs hP hD hS => ?_)
            have hP : va_P D vwCl (mW ka a 0 np nc pe an (va_up up (x.toInt.toNat) (uu.toInt.toNat)) (va_up dn (x.toInt.toNat) (dd.toInt.toNat)) rw so mn wd wv) H := hP
            have hD : va_D (mA a) (mW ka a 0 np nc pe an (va_up up (x.toInt.toNat) (uu.toInt.toNat)) (va_up dn (x.toInt.toNat) (dd.toInt.toNat)) rw so mn wd wv) := hD
            refine lv_aload_n hx hb dM_clock_64 rfl (lv_at hl 0 rfl) ?_
            refine lv_iload_n hx hb dM_clock_65 rfl (lv_at hl 1 rfl) ?_
            have hO2 : mOk np nc pe an (va_up up x.toInt.toNat uu.toInt.toNat) (va_up dn x.toInt.toNat dd.toInt.toNat) rw so mn wd wv := mOk_clock hO hc11 hc21 (by omega) (by omega)
            refine vp_callSl (va_Run.run (va_runV (As := [.int (nI (x.toInt.toNat))]) (rest := []) ⟨hx, hb, hml, hown, hts⟩ (m_longPeriod l D ka H a 0 np nc pe an (va_up up (x.toInt.toNat) (uu.toInt.toNat)) (va_up dn (x.toInt.toNat) (dd.toInt.toNat)) rw so mn wd wv x.toInt.toNat hP hO2 hc11 hc21) (cw_V 1 hts tb_388 rfl rfl tb_385 tb_2 tb_387 ts_25 (by decide +kernel) ⟨Nat.le_of_ble_eq_true rfl, Nat.le_of_ble_eq_true rfl⟩) (ro_V (ci := 3) hK hN (hP.nth 0 rfl) rfl) rfl rfl hl.1 rfl (lv_room (Nat.le_of_ble_eq_true rfl)) dM_clock_66 ⟨Nat.zero_le _, Nat.zero_le _⟩)) (fun r er => ?_)
            subst er
            refine n_l2i hx hb dM_clock_69 ?_
            exact W.iret (v := nI (lgP (pe x.toInt.toNat) (va_up up x.toInt.toNat uu.toInt.toNat x.toInt.toNat) (va_up dn x.toInt.toNat dd.toInt.toNat x.toInt.toNat))) hx hb hr (fun t ht hW => ⟨⟨_, (mkM np nc pe an (va_up up (x.toInt.toNat) (uu.toInt.toNat)) (va_up dn (x.toInt.toNat) (dd.toInt.toNat)) rw so mn wd wv), rfl, by rw [opClock, if_neg hno, if_neg hok, va_up_self, va_up_self], by show va_P D vwCl _ t.heap; rw [ht]; exact hP⟩, hS.F ht⟩) hS.2.2 dM_clock_70
          · refine lv_bipush (v := (-2)) hx hb dM_clock_46 (by decide) ?_
            exact W.iret (v := (-2)) hx hb hr (fun t ht hW => ⟨⟨_, (mkM np nc pe an up dn rw so mn wd wv), rfl, by rw [opClock, if_neg hno, if_pos (by omega)], by show va_P D vwCl _ t.heap; rw [ht]; exact hP⟩, hS.F ht⟩) hS.2.2 dM_clock_48
  · refine lv_iconst (v := (-1)) hx hb dM_clock_13 (by decide) ?_
    exact W.iret (v := (-1)) hx hb hr (fun t ht hW => ⟨⟨_, (mkM np nc pe an up dn rw so mn wd wv), rfl, by rw [opClock, if_pos q0], by show va_P D vwCl _ t.heap; rw [ht]; exact hP⟩, hS.F ht⟩) hS.2.2 dM_clock_14
set_option maxHeartbeats 4000000 in
set_option maxRecDepth 100000 in
theorem n_wish (l : Launch) (D : va_G) (ka : Nat → ClassId) (H0 : Heap) (a : Nat → Nat) (tv np nc : Nat) (pe an up dn rw : Nat → Nat) (so : Nat → Bool) (mn : Nat → Nat) (wd : Nat → Bool) (wv : Nat → Int64) (x : Int32) (mi : Int64) (hM : va_P D vwCl (mW ka a tv np nc pe an up dn rw so mn wd wv) H0) (hO : mOk np nc pe an up dn rw so mn wd wv) (haI : ∀ i j, i < 10 → j < 10 → a i = a j → i = j)  : Met l yM_wish (.code yM_wish cM_wish 4 (some .int) :: gT) ({ frames := 3, cells := 0, slots := 0, locals := 68 }) (ro_Pc D vwCl (tyL ka) H0 [.ref (a 0), .int x, .long mi]) (va_Qi (fun (r : Int32) (u : MSt) => (u, r) = opWish np nc pe an up dn rw so mn wd wv x mi) (fun u t => va_P D vwCl (mWs ka a 0 u) t.heap) (mA a)) 0 0 (mA a) := by
  refine Met.ofW (cc := cM_wish) (maxL := 4) (ret := (some .int)) (by decide) rfl ?_
  intro p e s m args below meth c s₁ B hml hv
  obtain ⟨rfl, hH, hK, hN⟩ := hv
  subst hH
  have hx := B.exec
  have hb := B.bytes
  have hr := B.returns
  have hts : ∀ w ∈ gT, w.before ([.ref (a 0), .int x, .long mi] : List Value).toArray s = true := fun w h => atoms_spec (ws := (.code yM_wish cM_wish 4 (some .int) :: gT)) B.pre w (List.mem_cons_of_mem _ h)
  have hown : s.vm.findClass RM = some m.cls := findClass_of_methodNamed B.named
  have hlocks := B.notSynchronized
  have hl := lv_entry ([.ref (a 0), .int x, .long mi]) (n := 4) (Nat.le_of_ble_eq_true rfl)
  rw [lg_entry_eq]
  generalize (lg_sl ([.ref (a 0), .int x, .long mi]) ++ List.replicate (4 - (lg_sl ([.ref (a 0), .int x, .long mi])).length) Slot.unset).toArray = ls at hl ⊢
  have hl : lv_has ls 4 [(0, .ref (a 0)), (1, .int x), (2, .long mi)] := hl
  have hP : va_P D vwCl (mW ka a tv np nc pe an up dn rw so mn wd wv) s.heap := hM
  have hD : va_D (mA a) (mW ka a tv np nc pe an up dn rw so mn wd wv) := mD haI
  have hS : va_S (mA a) s.heap s.heap [] := va_S.rf
  have hnp := hO.1
  have hnc := hO.2.1
  have z0 : (lN 0).toInt = 0 := by decide +kernel
  refine lv_aload_n hx hb dM_wish_0 rfl (lv_at hl 0 rfl) ?_
  refine lv_iconst (v := nI 0) hx hb dM_wish_1 (by decide) ?_
  refine va_put (D := D) (cl := vwCl) (ci := 3) (v := .int (nI 0)) (ty := .int) (C := RM) (T := TM) (N := 12) hx hb hts inM tyM tyM_ok nmM hown hK hP hD hS 0 rfl rfl 0 (by decide) (hts _ tb_300) (fun _ h9 => h9) rfl (by decide +kernel) rfl rfl (Nat.le_of_ble_eq_true rfl) dM_wish_2 (fun H locs hP hD hS => ?_)
  have hP : va_P D vwCl (mW ka a 0 np nc pe an up dn rw so mn wd wv) H := hP
  have hD : va_D (mA a) (mW ka a 0 np nc pe an up dn rw so mn wd wv) := hD
  refine lv_aload_n hx hb dM_wish_5 rfl (lv_at hl 0 rfl) ?_
  refine lv_iload_n hx hb dM_wish_6 rfl (lv_at hl 1 rfl) ?_
  refine vp_callSi (va_Run.run (va_runV (As := [.int x]) (rest := []) ⟨hx, hb, hml, hown, hts⟩ (m_isEmpty l D ka H a 0 np nc pe an up dn rw so mn wd wv x hP hO) (cw_V 1 hts tb_371 rfl rfl tb_368 tb_2 tb_370 ts_21 (by decide +kernel) ⟨Nat.le_of_ble_eq_true rfl, Nat.le_of_ble_eq_true rfl⟩) (ro_V (ci := 3) hK hN (hP.nth 0 rfl) rfl) rfl rfl hl.1 rfl (lv_room (Nat.le_of_ble_eq_true rfl)) dM_wish_7 ⟨Nat.zero_le _, Nat.zero_le _⟩)) (fun r er => ?_)
  subst er
  refine b_if_eq (tgt := 15) hx hb dM_wish_10 (by decide) (fun q1 => ?_) (fun q1 => ?_)
  · have hno : ¬ spEmp nc mn x = true := by rw [q1]; decide
    obtain ⟨ex, hc1, hc2, hn0⟩ := spEmp_f q1
    rw [ex] at hl
    have hmn := (hO.2.2.2.1 x.toInt.toNat hc1 hc2).1
    refine lv_lload_n hx hb dM_wish_15 rfl (lv_at hl 2 rfl) ?_
    refine lv_lconst (v := lN 0) hx hb dM_wish_16 rfl ?_
    refine r_lcmp_ge (tgt := 24) hx hb dM_wish_17 dM_wish_18 (by decide) (fun q2 => ?_) (fun q2 => ?_)
    · refine lv_aload_n hx hb dM_wish_24 rfl (lv_at hl 0 rfl) ?_
      refine g_get (cl := vwCl) (ci := 3) (v := .ref (a 8)) hx hb hts inM hown hK (hP.nth 0 rfl) rfl 10 (by decide) (hts _ tb_310) rfl dM_wish_25 ?_
      refine lv_iload_n hx hb dM_wish_28 rfl (lv_at hl 1 rfl) ?_
      refine lv_iconst (v := nI 1) hx hb dM_wish_29 (by decide) ?_
      have eb : nI 1 = bI true := rfl
      rw [eb]
      refine g_zast hx hb hK hP hD hS 8 2 rfl rfl (by omega) (by decide) upB dM_wish_30 (fun H locs hP hD hS => ?_)
      have hP : va_P D vwCl (mW ka a 0 np nc pe an up dn rw so mn (va_up wd (x.toInt.toNat) true) wv) H := hP
      have hD : va_D (mA a) (mW ka a 0 np nc pe an up dn rw so mn (va_up wd (x.toInt.toNat) true) wv) := hD
      refine lv_aload_n hx hb dM_wish_31 rfl (lv_at hl 0 rfl) ?_
      refine g_get (cl := vwCl) (ci := 3) (v := .ref (a 9)) hx hb hts inM hown hK (hP.nth 0 rfl) rfl 11 (by decide) (hts _ tb_311) rfl dM_wish_32 ?_
      refine lv_iload_n hx hb dM_wish_35 rfl (lv_at hl 1 rfl) ?_
      refine lv_lload_n hx hb dM_wish_36 rfl (lv_at hl 2 rfl) ?_
      refine g_last hx hb hK hP hD hS 9 3 rfl rfl (by omega) (by decide) upW dM_wish_37 (fun H locs hP hD hS => ?_)
      have hP : va_P D vwCl (mW ka a 0 np nc pe an up dn rw so mn (va_up wd (x.toInt.toNat) true) (va_up wv (x.toInt.toNat) mi)) H := hP
      have hD : va_D (mA a) (mW ka a 0 np nc pe an up dn rw so mn (va_up wd (x.toInt.toNat) true) (va_up wv (x.toInt.toNat) mi)) := hD
      refine lv_aload_n hx hb dM_wish_38 rfl (lv_at hl 0 rfl) ?_
      refine lv_iload_n hx hb dM_wish_39 rfl (lv_at hl 1 rfl) ?_
      have hO2 : mOk np nc pe an up dn rw so mn (va_up wd x.toInt.toNat true) (va_up wv x.toInt.toNat mi) := mOk_wish hO hc2 (by omega)
      refine vp_callSl (va_Run.run (va_runV (As := [.int (nI (x.toInt.toNat))]) (rest := []) ⟨hx, hb, hml, hown, hts⟩ (m_reaction l D ka H a 0 np nc pe an up dn rw so mn (va_up wd (x.toInt.toNat) true) (va_up wv (x.toInt.toNat) mi) x.toInt.toNat hP hO2 hc1 hc2) (cw_V 1 hts tb_380 rfl rfl tb_377 tb_2 tb_379 ts_23 (by decide +kernel) ⟨Nat.le_of_ble_eq_true rfl, Nat.le_of_ble_eq_true rfl⟩) (ro_V (ci := 3) hK hN (hP.nth 0 rfl) rfl) rfl rfl hl.1 rfl (lv_room (Nat.le_of_ble_eq_true rfl)) dM_wish_40 ⟨Nat.zero_le _, Nat.zero_le _⟩)) (fun r er => ?_)
      subst er
      refine lv_lload_n hx hb dM_wish_43 rfl (lv_at hl 2 rfl) ?_
      refine r_lcmp_gt (tgt := 52) hx hb dM_wish_44 dM_wish_45 (by decide) (fun q3 => ?_) (fun q3 => ?_)
      · refine lv_iconst (v := nI 0) hx hb dM_wish_52 (by decide) ?_
        exact W.iret (v := nI 0) hx hb hr (fun t ht hW => ⟨⟨_, (mkM np nc pe an up dn rw so mn (va_up wd (x.toInt.toNat) true) (va_up wv (x.toInt.toNat) mi)), rfl, by rw [opWish, if_neg hno, if_neg (by omega), decide_eq_false (by omega)]; rfl, by show va_P D vwCl _ t.heap; rw [ht]; exact hP⟩, hS.F ht⟩) hS.2.2 dM_wish_53
      · refine lv_iconst (v := nI 1) hx hb dM_wish_48 (by decide) ?_
        refine lv_goto (tgt := 53) hx hb dM_wish_49 (by decide) ?_
        exact W.iret (v := nI 1) hx hb hr (fun t ht hW => ⟨⟨_, (mkM np nc pe an up dn rw so mn (va_up wd (x.toInt.toNat) true) (va_up wv (x.toInt.toNat) mi)), rfl, by rw [opWish, if_neg hno, if_neg (by omega), decide_eq_true (by omega)]; rfl, by show va_P D vwCl _ t.heap; rw [ht]; exact hP⟩, hS.F ht⟩) hS.2.2 dM_wish_53
    · refine lv_bipush (v := (-2)) hx hb dM_wish_21 (by decide) ?_
      exact W.iret (v := (-2)) hx hb hr (fun t ht hW => ⟨⟨_, (mkM np nc pe an up dn rw so mn wd wv), rfl, by rw [opWish, if_neg hno, if_pos (by omega)], by show va_P D vwCl _ t.heap; rw [ht]; exact hP⟩, hS.F ht⟩) hS.2.2 dM_wish_23
  · refine lv_iconst (v := (-1)) hx hb dM_wish_13 (by decide) ?_
    exact W.iret (v := (-1)) hx hb hr (fun t ht hW => ⟨⟨_, (mkM np nc pe an up dn rw so mn wd wv), rfl, by rw [opWish, if_pos q1], by show va_P D vwCl _ t.heap; rw [ht]; exact hP⟩, hS.F ht⟩) hS.2.2 dM_wish_14
set_option maxHeartbeats 4000000 in
set_option maxRecDepth 100000 in
theorem n_share (l : Launch) (D : va_G) (ka : Nat → ClassId) (H0 : Heap) (a : Nat → Nat) (tv np nc : Nat) (pe an up dn rw : Nat → Nat) (so : Nat → Bool) (mn : Nat → Nat) (wd : Nat → Bool) (wv : Nat → Int64) (x ix : Int32) (hM : va_P D vwCl (mW ka a tv np nc pe an up dn rw so mn wd wv) H0) (hO : mOk np nc pe an up dn rw so mn wd wv) (haI : ∀ i j, i < 10 → j < 10 → a i = a j → i = j)  : Met l yM_share (.code yM_share cM_share 5 (some .int) :: gT) ({ frames := 3, cells := 0, slots := 0, locals := 68 }) (ro_Pc D vwCl (tyL ka) H0 [.ref (a 0), .int x, .int ix]) (va_Qi (fun (r : Int32) (u : Unit) => r = spShare nc pe an up dn rw so mn wd wv x ix) (fun u t => va_P D vwCl (mW ka a 0 np nc pe an up dn rw so mn wd wv) t.heap) (mA a)) 0 0 (mA a) := by
  refine Met.ofW (cc := cM_share) (maxL := 5) (ret := (some .int)) (by decide) rfl ?_
  intro p e s m args below meth c s₁ B hml hv
  obtain ⟨rfl, hH, hK, hN⟩ := hv
  subst hH
  have hx := B.exec
  have hb := B.bytes
  have hr := B.returns
  have hts : ∀ w ∈ gT, w.before ([.ref (a 0), .int x, .int ix] : List Value).toArray s = true := fun w h => atoms_spec (ws := (.code yM_share cM_share 5 (some .int) :: gT)) B.pre w (List.mem_cons_of_mem _ h)
  have hown : s.vm.findClass RM = some m.cls := findClass_of_methodNamed B.named
  have hlocks := B.notSynchronized
  have hl := lv_entry ([.ref (a 0), .int x, .int ix]) (n := 5) (Nat.le_of_ble_eq_true rfl)
  rw [lg_entry_eq]
  generalize (lg_sl ([.ref (a 0), .int x, .int ix]) ++ List.replicate (5 - (lg_sl ([.ref (a 0), .int x, .int ix])).length) Slot.unset).toArray = ls at hl ⊢
  have hl : lv_has ls 5 [(0, .ref (a 0)), (1, .int x), (2, .int ix)] := hl
  have hP : va_P D vwCl (mW ka a tv np nc pe an up dn rw so mn wd wv) s.heap := hM
  have hD : va_D (mA a) (mW ka a tv np nc pe an up dn rw so mn wd wv) := mD haI
  have hS : va_S (mA a) s.heap s.heap [] := va_S.rf
  have hnp := hO.1
  have hnc := hO.2.1
  refine lv_aload_n hx hb dM_share_0 rfl (lv_at hl 0 rfl) ?_
  refine lv_iconst (v := nI 0) hx hb dM_share_1 (by decide) ?_
  refine va_put (D := D) (cl := vwCl) (ci := 3) (v := .int (nI 0)) (ty := .int) (C := RM) (T := TM) (N := 12) hx hb hts inM tyM tyM_ok nmM hown hK hP hD hS 0 rfl rfl 0 (by decide) (hts _ tb_300) (fun _ h9 => h9) rfl (by decide +kernel) rfl rfl (Nat.le_of_ble_eq_true rfl) dM_share_2 (fun H locs hP hD hS => ?_)
  have hP : va_P D vwCl (mW ka a 0 np nc pe an up dn rw so mn wd wv) H := hP
  have hD : va_D (mA a) (mW ka a 0 np nc pe an up dn rw so mn wd wv) := hD
  refine lv_iload_n hx hb dM_share_5 rfl (lv_at hl 2 rfl) ?_
  refine lv_iconst (v := (-1)) hx hb dM_share_6 (by decide) ?_
  have zm : ((-1 : Int32)).toInt = -1 := by decide +kernel
  have z0 : (0 : Int32).toInt = 0 := by decide +kernel
  refine r_icmp_ne (tgt := 67) hx hb dM_share_7 (by decide) (fun q1 => ?_) (fun q1 => ?_)
  · refine lv_aload_n hx hb dM_share_67 rfl (lv_at hl 0 rfl) ?_
    refine lv_iload_n hx hb dM_share_68 rfl (lv_at hl 1 rfl) ?_
    refine vp_callSi (va_Run.run (va_runV (As := [.int x]) (rest := []) ⟨hx, hb, hml, hown, hts⟩ (m_noChain l D ka H a 0 np nc pe an up dn rw so mn wd wv x hP hO) (cw_V 1 hts tb_359 rfl rfl tb_356 tb_2 tb_358 ts_19 (by decide +kernel) ⟨Nat.le_of_ble_eq_true rfl, Nat.le_of_ble_eq_true rfl⟩) (ro_V (ci := 3) hK hN (hP.nth 0 rfl) rfl) rfl rfl hl.1 rfl (lv_room (Nat.le_of_ble_eq_true rfl)) dM_share_69 ⟨Nat.zero_le _, Nat.zero_le _⟩)) (fun r er => ?_)
    subst er
    have hn1 : ¬ ix.toInt = -1 := by omega
    refine b_if_ne (tgt := 99) hx hb dM_share_72 (by decide) (fun q2 => ?_) (fun q2 => ?_)
    · refine lv_iconst (v := (-1)) hx hb dM_share_99 (by decide) ?_
      exact W.iret (v := (-1)) hx hb hr (fun t ht hW => ⟨⟨_, (), rfl, by rw [spShare, if_neg hn1, if_pos (Or.inl q2)], by show va_P D vwCl _ t.heap; rw [ht]; exact hP⟩, hS.F ht⟩) hS.2.2 dM_share_100
    · obtain ⟨ex1, hc11, hc21⟩ := cNo_nI q2
      rw [ex1] at hl
      have hmn := (hO.2.2.2.1 x.toInt.toNat hc11 hc21).1
      refine lv_iload_n hx hb dM_share_75 rfl (lv_at hl 2 rfl) ?_
      refine r_if_lt (tgt := 99) hx hb dM_share_76 (by decide) (fun q3 => ?_) (fun q3 => ?_)
      · refine lv_iconst (v := (-1)) hx hb dM_share_99 (by decide) ?_
        exact W.iret (v := (-1)) hx hb hr (fun t ht hW => ⟨⟨_, (), rfl, by rw [spShare, if_neg hn1, if_pos (Or.inr (Or.inl (by omega)))], by show va_P D vwCl _ t.heap; rw [ht]; exact hP⟩, hS.F ht⟩) hS.2.2 dM_share_100
      · refine lv_iload_n hx hb dM_share_79 rfl (lv_at hl 2 rfl) ?_
        refine lv_aload_n hx hb dM_share_80 rfl (lv_at hl 0 rfl) ?_
        refine g_get (cl := vwCl) (ci := 3) (v := .ref (a 7)) hx hb hts inM hown hK (hP.nth 0 rfl) rfl 9 (by decide) (hts _ tb_309) rfl dM_share_81 ?_
        refine lv_iload_n hx hb dM_share_84 rfl (lv_at hl 1 rfl) ?_
        refine g_ialdv (v := nI (mn (x.toInt.toNat))) hx hb hK 4 (hP.nth 7 rfl) rfl (by omega) (by decide) (rfl) dM_share_85 ?_
        have zmn : (nI (mn x.toInt.toNat)).toInt = (mn x.toInt.toNat : Int) := nI_toInt (by omega)
        refine r_icmp_ge (tgt := 99) hx hb dM_share_86 (by decide) (fun q4 => ?_) (fun q4 => ?_)
        · refine lv_iconst (v := (-1)) hx hb dM_share_99 (by decide) ?_
          exact W.iret (v := (-1)) hx hb hr (fun t ht hW => ⟨⟨_, (), rfl, by rw [spShare, if_neg hn1, if_pos (Or.inr (Or.inr (Or.inl (by omega))))], by show va_P D vwCl _ t.heap; rw [ht]; exact hP⟩, hS.F ht⟩) hS.2.2 dM_share_100
        · refine lv_aload_n hx hb dM_share_89 rfl (lv_at hl 0 rfl) ?_
          refine lv_iload_n hx hb dM_share_90 rfl (lv_at hl 1 rfl) ?_
          refine vp_callSl (va_Run.run (va_runV (As := [.int (nI (x.toInt.toNat))]) (rest := []) ⟨hx, hb, hml, hown, hts⟩ (m_reaction l D ka H a 0 np nc pe an up dn rw so mn wd wv x.toInt.toNat hP hO hc11 hc21) (cw_V 1 hts tb_380 rfl rfl tb_377 tb_2 tb_379 ts_23 (by decide +kernel) ⟨Nat.le_of_ble_eq_true rfl, Nat.le_of_ble_eq_true rfl⟩) (ro_V (ci := 3) hK hN (hP.nth 0 rfl) rfl) rfl rfl hl.1 rfl (lv_room (Nat.le_of_ble_eq_true rfl)) dM_share_91 ⟨Nat.zero_le _, Nat.zero_le _⟩)) (fun r er => ?_)
          subst er
          have hrb := rea_le hO hc11 hc21
          refine lv_lconst (v := lN 0) hx hb dM_share_94 rfl ?_
          refine n_lcmp_ne (tgt := 101) hx hb (by omega) (by omega) dM_share_95 dM_share_96 (by decide) (fun q5 => ?_) (fun q5 => ?_)
          · have hik : ix.toInt.toNat < mn x.toInt.toNat := by omega
            have eix : ix = nI ix.toInt.toNat := Int32.toInt_inj.mp (by rw [nI_toInt (by omega)]; omega)
            rw [eix] at hl
            have hbb := brN_le hO hc11 hc21 hik
            refine lv_ldc2 (v := lN 1000) hx hb hown (hts _ tb_406) dM_share_101 ?_
            refine lv_aload_n hx hb dM_share_104 rfl (lv_at hl 0 rfl) ?_
            refine lv_iload_n hx hb dM_share_105 rfl (lv_at hl 1 rfl) ?_
            refine lv_iload_n hx hb dM_share_106 rfl (lv_at hl 2 rfl) ?_
            refine vp_callSl (va_Run.run (va_runV (As := [.int (nI (x.toInt.toNat)), .int (nI (ix.toInt.toNat))]) (rest := [.long (lN 1000)]) ⟨hx, hb, hml, hown, hts⟩ (m_brings l D ka H a 0 np nc pe an up dn rw so mn wd wv x.toInt.toNat ix.toInt.toNat hP hO hc11 hc21 hik) (cw_V 2 hts tb_384 rfl rfl tb_381 tb_2 tb_383 ts_24 (by decide +kernel) ⟨Nat.le_of_ble_eq_true rfl, Nat.le_of_ble_eq_true rfl⟩) (ro_V (ci := 3) hK hN (hP.nth 0 rfl) rfl) rfl rfl hl.1 rfl (lv_room (Nat.le_of_ble_eq_true rfl)) dM_share_107 ⟨Nat.zero_le _, Nat.zero_le _⟩)) (fun r er => ?_)
            subst er
            refine n_lmul hx hb dM_share_110 ?_
            refine lv_aload_n hx hb dM_share_111 rfl (lv_at hl 0 rfl) ?_
            refine lv_iload_n hx hb dM_share_112 rfl (lv_at hl 1 rfl) ?_
            refine vp_callSl (va_Run.run (va_runV (As := [.int (nI (x.toInt.toNat))]) (rest := [.long (lN (1000 * (brN (qS so x.toInt.toNat) (qF pe rw x.toInt.toNat) (qF an rw x.toInt.toNat) (qF up rw x.toInt.toNat) (qF dn rw x.toInt.toNat) ix.toInt.toNat)))]) ⟨hx, hb, hml, hown, hts⟩ (m_reaction l D ka H a 0 np nc pe an up dn rw so mn wd wv x.toInt.toNat hP hO hc11 hc21) (cw_V 1 hts tb_380 rfl rfl tb_377 tb_2 tb_379 ts_23 (by decide +kernel) ⟨Nat.le_of_ble_eq_true rfl, Nat.le_of_ble_eq_true rfl⟩) (ro_V (ci := 3) hK hN (hP.nth 0 rfl) rfl) rfl rfl hl.1 rfl (lv_room (Nat.le_of_ble_eq_true rfl)) dM_share_113 ⟨Nat.zero_le _, Nat.zero_le _⟩)) (fun r er => ?_)
            subst er
            refine n_ldiv hx hb (by omega) (by omega) (by omega) dM_share_116 ?_
            refine n_l2i hx hb dM_share_117 ?_
            exact W.iret (v := nI ((1000 * (brN (qS so x.toInt.toNat) (qF pe rw x.toInt.toNat) (qF an rw x.toInt.toNat) (qF up rw x.toInt.toNat) (qF dn rw x.toInt.toNat) ix.toInt.toNat)) / (rea pe an up dn rw so mn x.toInt.toNat))) hx hb hr (fun t ht hW => ⟨⟨_, (), rfl, by rw [spShare, if_neg hn1, if_neg (by rw [q2]; simp only [Bool.false_eq_true, false_or]; omega)], by show va_P D vwCl _ t.heap; rw [ht]; exact hP⟩, hS.F ht⟩) hS.2.2 dM_share_118
          · refine lv_iconst (v := (-1)) hx hb dM_share_99 (by decide) ?_
            exact W.iret (v := (-1)) hx hb hr (fun t ht hW => ⟨⟨_, (), rfl, by rw [spShare, if_neg hn1, if_pos (Or.inr (Or.inr (Or.inr (by omega))))], by show va_P D vwCl _ t.heap; rw [ht]; exact hP⟩, hS.F ht⟩) hS.2.2 dM_share_100
  · refine lv_iconst (v := nI 0) hx hb dM_share_10 (by decide) ?_
    refine lv_istore_n (lv' := [(3, .int (nI 0)), (0, .ref (a 0)), (1, .int x), (2, .int ix)]) hx hb dM_share_11 rfl hl (by decide) rfl (fun ls hl => ?_)
    refine lv_iconst (v := nI 1) hx hb dM_share_12 (by decide) ?_
    refine lv_istore (lv' := [(4, .int (nI 1)), (3, .int (nI 0)), (0, .ref (a 0)), (1, .int x), (2, .int ix)]) hx hb dM_share_13 hl (by decide) rfl (fun ls hl => ?_)
    have loop : ∀ (fu i : Nat), i ≤ nc → nc < i + fu → ∀ ls : Array Slot, lv_has ls 5 [(4, .int (nI (i + 1))), (3, .int (nI (cntN (kept pe an up dn rw so mn wd wv) i))), (2, .int ix), (0, .ref (a 0))] → W p l e (headSpec (.code yM_share cM_share 5 (some .int) :: gT) ({ frames := 3, cells := 0, slots := 0, locals := 68 })).room s m ([.ref (a 0), .int x, .int ix] : List Value).toArray below meth c H locs 0 0 (MQ below (va_Qi (fun (r : Int32) (u : Unit) => r = spShare nc pe an up dn rw so mn wd wv x ix) (fun u t => va_P D vwCl (mW ka a 0 np nc pe an up dn rw so mn wd wv) t.heap) (mA a)) ([.ref (a 0), .int x, .int ix] : List Value).toArray s 0 0 (mA a)) (F0 m 15 ls []) := by
      intro fu
      induction fu with
      | zero => intro i h1 h2; exact absurd h2 (by omega)
      | succ fu ih =>
        intro i hi hf  ls hl
        have hcn := cntN_le (p := (kept pe an up dn rw so mn wd wv)) i
        refine lv_iload hx hb dM_share_15 (lv_at hl 0 rfl) ?_
        refine lv_aload_n hx hb dM_share_17 rfl (lv_at hl 3 rfl) ?_
        refine g_get (cl := vwCl) (ci := 3) (v := .int (nI nc)) hx hb hts inM hown hK (hP.nth 0 rfl) rfl 6 (by decide) (hts _ tb_306) rfl dM_share_18 ?_
        refine n_icmp_gt (tgt := 65) hx hb (by omega) (by omega) dM_share_21 (by decide) (fun hc => ?_) (fun hc => ?_)
        · refine lv_iload_n hx hb dM_share_65 rfl (lv_at hl 1 rfl) ?_
          exact W.iret (v := nI (cntN (kept pe an up dn rw so mn wd wv) i)) hx hb hr (fun t ht hW => ⟨⟨_, (), rfl, by rw [spShare, if_pos (by omega), show i = nc by omega], by show va_P D vwCl _ t.heap; rw [ht]; exact hP⟩, hS.F ht⟩) hS.2.2 dM_share_66
        · refine lv_aload_n hx hb dM_share_24 rfl (lv_at hl 3 rfl) ?_
          refine g_get (cl := vwCl) (ci := 3) (v := .ref (a 8)) hx hb hts inM hown hK (hP.nth 0 rfl) rfl 10 (by decide) (hts _ tb_310) rfl dM_share_25 ?_
          refine lv_iload hx hb dM_share_28 (lv_at hl 0 rfl) ?_
          refine g_zaldv (v := bI (wd (i + 1))) hx hb hK 2 (hP.nth 8 rfl) rfl (by omega) (by decide) (rfl) dM_share_30 ?_
          refine b_if_eq (tgt := 57) hx hb dM_share_31 (by decide) (fun q3 => ?_) (fun q3 => ?_)
          · refine lv_iload_n hx hb dM_share_57 rfl (lv_at hl 1 rfl) ?_
            refine lv_istore_n (lv' := [(3, .int (nI (cntN (kept pe an up dn rw so mn wd wv) i))), (4, .int (nI (i + 1))), (2, .int ix), (0, .ref (a 0))]) hx hb dM_share_58 rfl hl (by decide) rfl (fun ls hl => ?_)
            refine lv_iinc (v := nI ((i + 1) + 1)) (lv' := [(4, .int (nI ((i + 1) + 1))), (3, .int (nI (cntN (kept pe an up dn rw so mn wd wv) i))), (2, .int ix), (0, .ref (a 0))]) hx hb dM_share_59 hl (k := 1) rfl (nI_add (i + 1) 1) (by decide) rfl (fun ls hl => ?_)
            refine lv_goto (tgt := 15) hx hb dM_share_62 (by decide) ?_
            have e1 : cntN (kept pe an up dn rw so mn wd wv) (i + 1) = cntN (kept pe an up dn rw so mn wd wv) i := by show (if _ then _ else _) = _; rw [if_neg (by simp [kept, q3])]
            exact ih (i + 1) (by omega) (by omega) ls (by rw [e1]; exact lv_sub hl [0, 1, 2, 3] rfl)
          · refine lv_aload_n hx hb dM_share_34 rfl (lv_at hl 3 rfl) ?_
            refine lv_iload hx hb dM_share_35 (lv_at hl 0 rfl) ?_
            refine vp_callSl (va_Run.run (va_runV (As := [.int (nI (i + 1))]) (rest := []) ⟨hx, hb, hml, hown, hts⟩ (m_reaction l D ka H a 0 np nc pe an up dn rw so mn wd wv (i + 1) hP hO (by omega) (by omega)) (cw_V 1 hts tb_380 rfl rfl tb_377 tb_2 tb_379 ts_23 (by decide +kernel) ⟨Nat.le_of_ble_eq_true rfl, Nat.le_of_ble_eq_true rfl⟩) (ro_V (ci := 3) hK hN (hP.nth 0 rfl) rfl) rfl rfl hl.1 rfl (lv_room (Nat.le_of_ble_eq_true rfl)) dM_share_37 ⟨Nat.zero_le _, Nat.zero_le _⟩)) (fun r er => ?_)
            subst er
            refine lv_aload_n hx hb dM_share_40 rfl (lv_at hl 3 rfl) ?_
            refine g_get (cl := vwCl) (ci := 3) (v := .ref (a 9)) hx hb hts inM hown hK (hP.nth 0 rfl) rfl 11 (by decide) (hts _ tb_311) rfl dM_share_41 ?_
            refine lv_iload hx hb dM_share_44 (lv_at hl 0 rfl) ?_
            refine g_laldv (v := wv (i + 1)) hx hb hK 3 (hP.nth 9 rfl) rfl (by omega) (by decide) (rfl) dM_share_46 ?_
            refine r_lcmp_gt (tgt := 57) hx hb dM_share_47 dM_share_48 (by decide) (fun q4 => ?_) (fun q4 => ?_)
            · refine lv_iload_n hx hb dM_share_57 rfl (lv_at hl 1 rfl) ?_
              refine lv_istore_n (lv' := [(3, .int (nI (cntN (kept pe an up dn rw so mn wd wv) i))), (4, .int (nI (i + 1))), (2, .int ix), (0, .ref (a 0))]) hx hb dM_share_58 rfl hl (by decide) rfl (fun ls hl => ?_)
              refine lv_iinc (v := nI ((i + 1) + 1)) (lv' := [(4, .int (nI ((i + 1) + 1))), (3, .int (nI (cntN (kept pe an up dn rw so mn wd wv) i))), (2, .int ix), (0, .ref (a 0))]) hx hb dM_share_59 hl (k := 1) rfl (nI_add (i + 1) 1) (by decide) rfl (fun ls hl => ?_)
              refine lv_goto (tgt := 15) hx hb dM_share_62 (by decide) ?_
              have e1 : cntN (kept pe an up dn rw so mn wd wv) (i + 1) = cntN (kept pe an up dn rw so mn wd wv) i := by show (if _ then _ else _) = _; rw [if_neg (by simp only [kept]; rw [decide_eq_false (by omega)]; simp)]
              exact ih (i + 1) (by omega) (by omega) ls (by rw [e1]; exact lv_sub hl [0, 1, 2, 3] rfl)
            · refine lv_iload_n hx hb dM_share_51 rfl (lv_at hl 1 rfl) ?_
              refine lv_iconst (v := nI 1) hx hb dM_share_52 (by decide) ?_
              refine n_iadd hx hb dM_share_53 ?_
              refine lv_goto (tgt := 58) hx hb dM_share_54 (by decide) ?_
              refine lv_istore_n (lv' := [(3, .int (nI ((cntN (kept pe an up dn rw so mn wd wv) i) + 1))), (4, .int (nI (i + 1))), (2, .int ix), (0, .ref (a 0))]) hx hb dM_share_58 rfl hl (by decide) rfl (fun ls hl => ?_)
              refine lv_iinc (v := nI ((i + 1) + 1)) (lv' := [(4, .int (nI ((i + 1) + 1))), (3, .int (nI ((cntN (kept pe an up dn rw so mn wd wv) i) + 1))), (2, .int ix), (0, .ref (a 0))]) hx hb dM_share_59 hl (k := 1) rfl (nI_add (i + 1) 1) (by decide) rfl (fun ls hl => ?_)
              refine lv_goto (tgt := 15) hx hb dM_share_62 (by decide) ?_
              have e1 : cntN (kept pe an up dn rw so mn wd wv) (i + 1) = cntN (kept pe an up dn rw so mn wd wv) i + 1 := by show (if _ then _ else _) = _; rw [if_pos (by simp only [kept]; rw [q3, decide_eq_true (by omega)]; rfl)]
              exact ih (i + 1) (by omega) (by omega) ls (by rw [e1]; exact lv_sub hl [0, 1, 2, 3] rfl)
    exact loop (nc + 1) 0 (by omega) (by omega) ls (lv_sub hl [0, 1, 4, 2] rfl)
set_option maxHeartbeats 4000000 in
set_option maxRecDepth 100000 in
theorem n_stepped (l : Launch) (D : va_G) (ka : Nat → ClassId) (H0 : Heap) (a : Nat → Nat) (tv np nc : Nat) (pe an up dn rw : Nat → Nat) (so : Nat → Bool) (mn : Nat → Nat) (wd : Nat → Bool) (wv : Nat → Int64) (x : Int32) (hM : va_P D vwCl (mW ka a tv np nc pe an up dn rw so mn wd wv) H0) (hO : mOk np nc pe an up dn rw so mn wd wv) (haI : ∀ i j, i < 10 → j < 10 → a i = a j → i = j)  : Met l yM_stepped (.code yM_stepped cM_stepped 12 (some .long) :: gT) ({ frames := 3, cells := 0, slots := 0, locals := 81 }) (ro_Pc D vwCl (tyL ka) H0 [.ref (a 0), .int x]) (va_Ql (fun (r : Int64) (u : Unit) => r = spStep nc pe an up dn rw so mn x) (fun u t => va_P D vwCl (mW ka a 0 np nc pe an up dn rw so mn wd wv) t.heap) (mA a)) 0 0 (mA a) := by
  refine Met.ofW (cc := cM_stepped) (maxL := 12) (ret := (some .long)) (by decide) rfl ?_
  intro p e s m args below meth c s₁ B hml hv
  obtain ⟨rfl, hH, hK, hN⟩ := hv
  subst hH
  have hx := B.exec
  have hb := B.bytes
  have hr := B.returns
  have hts : ∀ w ∈ gT, w.before ([.ref (a 0), .int x] : List Value).toArray s = true := fun w h => atoms_spec (ws := (.code yM_stepped cM_stepped 12 (some .long) :: gT)) B.pre w (List.mem_cons_of_mem _ h)
  have hown : s.vm.findClass RM = some m.cls := findClass_of_methodNamed B.named
  have hlocks := B.notSynchronized
  have hl := lv_entry ([.ref (a 0), .int x]) (n := 12) (Nat.le_of_ble_eq_true rfl)
  rw [lg_entry_eq]
  generalize (lg_sl ([.ref (a 0), .int x]) ++ List.replicate (12 - (lg_sl ([.ref (a 0), .int x])).length) Slot.unset).toArray = ls at hl ⊢
  have hl : lv_has ls 12 [(0, .ref (a 0)), (1, .int x)] := hl
  have hP : va_P D vwCl (mW ka a tv np nc pe an up dn rw so mn wd wv) s.heap := hM
  have hD : va_D (mA a) (mW ka a tv np nc pe an up dn rw so mn wd wv) := mD haI
  have hS : va_S (mA a) s.heap s.heap [] := va_S.rf
  have hnp := hO.1
  have hnc := hO.2.1
  refine lv_aload_n hx hb dM_stepped_0 rfl (lv_at hl 0 rfl) ?_
  refine lv_iconst (v := nI 0) hx hb dM_stepped_1 (by decide) ?_
  refine va_put (D := D) (cl := vwCl) (ci := 3) (v := .int (nI 0)) (ty := .int) (C := RM) (T := TM) (N := 12) hx hb hts inM tyM tyM_ok nmM hown hK hP hD hS 0 rfl rfl 0 (by decide) (hts _ tb_300) (fun _ h9 => h9) rfl (by decide +kernel) rfl rfl (Nat.le_of_ble_eq_true rfl) dM_stepped_2 (fun H locs hP hD hS => ?_)
  have hP : va_P D vwCl (mW ka a 0 np nc pe an up dn rw so mn wd wv) H := hP
  have hD : va_D (mA a) (mW ka a 0 np nc pe an up dn rw so mn wd wv) := hD
  refine lv_aload_n hx hb dM_stepped_5 rfl (lv_at hl 0 rfl) ?_
  refine lv_iload_n hx hb dM_stepped_6 rfl (lv_at hl 1 rfl) ?_
  refine vp_callSi (va_Run.run (va_runV (As := [.int x]) (rest := []) ⟨hx, hb, hml, hown, hts⟩ (m_isEmpty l D ka H a 0 np nc pe an up dn rw so mn wd wv x hP hO) (cw_V 1 hts tb_371 rfl rfl tb_368 tb_2 tb_370 ts_21 (by decide +kernel) ⟨Nat.le_of_ble_eq_true rfl, Nat.le_of_ble_eq_true rfl⟩) (ro_V (ci := 3) hK hN (hP.nth 0 rfl) rfl) rfl rfl hl.1 rfl (lv_room (Nat.le_of_ble_eq_true rfl)) dM_stepped_7 ⟨Nat.zero_le _, Nat.zero_le _⟩)) (fun r er => ?_)
  subst er
  refine b_if_eq (tgt := 17) hx hb dM_stepped_10 (by decide) (fun q1 => ?_) (fun q1 => ?_)
  · have hno : ¬ spEmp nc mn x = true := by rw [q1]; decide
    obtain ⟨ex, hc1, hc2, hn0⟩ := spEmp_f q1
    rw [ex] at hl
    have hmn := (hO.2.2.2.1 x.toInt.toNat hc1 hc2).1
    refine lv_aload_n hx hb dM_stepped_17 rfl (lv_at hl 0 rfl) ?_
    refine lv_iload_n hx hb dM_stepped_18 rfl (lv_at hl 1 rfl) ?_
    refine vp_callSi (va_Run.run (va_runV (As := [.int (nI (x.toInt.toNat))]) (rest := []) ⟨hx, hb, hml, hown, hts⟩ (m_isPlain l D ka H a 0 np nc pe an up dn rw so mn wd wv x.toInt.toNat hP hO hc1 hc2) (cw_V 1 hts tb_426 rfl rfl tb_423 tb_2 tb_425 ts_27 (by decide +kernel) ⟨Nat.le_of_ble_eq_true rfl, Nat.le_of_ble_eq_true rfl⟩) (ro_V (ci := 3) hK hN (hP.nth 0 rfl) rfl) rfl rfl hl.1 rfl (lv_room (Nat.le_of_ble_eq_true rfl)) dM_stepped_19 ⟨Nat.zero_le _, Nat.zero_le _⟩)) (fun r er => ?_)
    subst er
    refine b_if_ne (tgt := 31) hx hb dM_stepped_22 (by decide) (fun q2 => ?_) (fun q2 => ?_)
    · have hal : ∀ i, i < mn x.toInt.toNat → ((qS so x.toInt.toNat) i || false) = true → 0 < (qF pe rw x.toInt.toNat) i := fun i hi hs => hO.sel hc1 hc2 i hi (by simpa using hs)
      have hcy : cyc (fun i => (qS so x.toInt.toNat) i || false) (qF pe rw x.toInt.toNat) (mn x.toInt.toNat) ≤ 20000 := canN_cyc q2
      have hce := cyM_eq hal hcy
      refine lv_aload_n hx hb dM_stepped_31 rfl (lv_at hl 0 rfl) ?_
      refine lv_iload_n hx hb dM_stepped_32 rfl (lv_at hl 1 rfl) ?_
      refine lv_iconst (v := nI 0) hx hb dM_stepped_33 (by decide) ?_
      have ebf : nI 0 = bI false := rfl
      rw [ebf]
      refine lv_ldc2 (v := lN 20001) hx hb hown (hts _ tb_427) dM_stepped_34 ?_
      refine vp_callSl (va_Run.run (va_runV (As := [.int (nI (x.toInt.toNat)), .int (bI false), .long (lN 20001)]) (rest := []) ⟨hx, hb, hml, hown, hts⟩ (m_common l D ka H a 0 np nc pe an up dn rw so mn wd wv x.toInt.toNat false 20001 hP hO hc1 hc2 (by omega) (by omega) hal) (cw_V 3 hts tb_415 rfl rfl tb_412 tb_2 tb_414 ts_26 (by decide +kernel) ⟨Nat.le_of_ble_eq_true rfl, Nat.le_of_ble_eq_true rfl⟩) (ro_V (ci := 3) hK hN (hP.nth 0 rfl) rfl) rfl rfl hl.1 rfl (lv_room (Nat.le_of_ble_eq_true rfl)) dM_stepped_37 ⟨Nat.zero_le _, Nat.zero_le _⟩)) (fun r er => ?_)
      subst er
      rw [hce]
      refine lv_lstore_n (lv' := [(2, .long (lN (cyc (fun i => (qS so x.toInt.toNat) i || false) (qF pe rw x.toInt.toNat) (mn x.toInt.toNat)))), (0, .ref (a 0)), (1, .int (nI (x.toInt.toNat)))]) hx hb dM_stepped_40 rfl hl (by decide) rfl (fun ls hl => ?_)
      refine lv_lconst (v := lN 0) hx hb dM_stepped_41 rfl ?_
      refine lv_lstore (lv' := [(4, .long (lN 0)), (2, .long (lN (cyc (fun i => (qS so x.toInt.toNat) i || false) (qF pe rw x.toInt.toNat) (mn x.toInt.toNat)))), (0, .ref (a 0)), (1, .int (nI (x.toInt.toNat)))]) hx hb dM_stepped_42 hl (by decide) rfl (fun ls hl => ?_)
      refine lv_lconst (v := lN 0) hx hb dM_stepped_44 rfl ?_
      refine lv_lstore (lv' := [(6, .long (lN 0)), (4, .long (lN 0)), (2, .long (lN (cyc (fun i => (qS so x.toInt.toNat) i || false) (qF pe rw x.toInt.toNat) (mn x.toInt.toNat)))), (0, .ref (a 0)), (1, .int (nI (x.toInt.toNat)))]) hx hb dM_stepped_45 hl (by decide) rfl (fun ls hl => ?_)
      generalize hQ : cyc (fun i => (qS so x.toInt.toNat) i || false) (qF pe rw x.toInt.toNat) (mn x.toInt.toNat) = Q at hcy hl
      have hbd : ∀ j, j < mn x.toInt.toNat → (qF pe rw x.toInt.toNat) j ≤ 20000 ∧ (qF an rw x.toInt.toNat) j ≤ 20000 ∧ ((qS so x.toInt.toNat) j = true → 0 < (qF pe rw x.toInt.toNat) j) := fun j hj => ⟨(hO.row hc1 hc2 hj).2.1, (hO.row hc1 hc2 hj).2.2.1, (hO.row hc1 hc2 hj).2.2.2.2.2⟩
      have hgb : ∀ t, t < Q → (fun t => stp (qS so x.toInt.toNat) (qF pe rw x.toInt.toNat) (qF an rw x.toInt.toNat) t (mn x.toInt.toNat) - t) t ≤ 20000 + 12 * 40000 := fun t ht => by
        have h1 := stp_le (sel := (qS so x.toInt.toNat)) (T := (qF pe rw x.toInt.toNat)) (R := (qF an rw x.toInt.toNat)) (b := t) (B := 20000) (mn x.toInt.toNat) hbd
        have h3 : mn x.toInt.toNat * (2 * 20000) ≤ 12 * (2 * 20000) := Nat.mul_le_mul_right _ hmn
        show stp (qS so x.toInt.toNat) (qF pe rw x.toInt.toNat) (qF an rw x.toInt.toNat) t (mn x.toInt.toNat) - t ≤ _
        omega
      have loop : ∀ (fu k : Nat), k ≤ Q → Q < k + fu → ∀ ls : Array Slot, lv_has ls 12 [(6, .long (lN k)), (4, .long (lN (mxN (fun t => stp (qS so x.toInt.toNat) (qF pe rw x.toInt.toNat) (qF an rw x.toInt.toNat) t (mn x.toInt.toNat) - t) k))), (2, .long (lN Q)), (1, .int (nI (x.toInt.toNat))), (0, .ref (a 0))] → W p l e (headSpec (.code yM_stepped cM_stepped 12 (some .long) :: gT) ({ frames := 3, cells := 0, slots := 0, locals := 81 })).room s m ([.ref (a 0), .int x] : List Value).toArray below meth c H locs 0 0 (MQ below (va_Ql (fun (r : Int64) (u : Unit) => r = spStep nc pe an up dn rw so mn x) (fun u t => va_P D vwCl (mW ka a 0 np nc pe an up dn rw so mn wd wv) t.heap) (mA a)) ([.ref (a 0), .int x] : List Value).toArray s 0 0 (mA a)) (F0 m 47 ls []) := by
        intro fu
        induction fu with
        | zero => intro k h1 h2; exact absurd h2 (by omega)
        | succ fu ih =>
          intro k hk hf ls hl
          have hmb := mxN_le (f := (fun t => stp (qS so x.toInt.toNat) (qF pe rw x.toInt.toNat) (qF an rw x.toInt.toNat) t (mn x.toInt.toNat) - t)) (B := 20000 + 12 * 40000) k (fun j hj => hgb j (by omega))
          refine lv_lload hx hb dM_stepped_47 (lv_at hl 0 rfl) ?_
          refine lv_lload_n hx hb dM_stepped_49 rfl (lv_at hl 2 rfl) ?_
          refine n_lcmp_ge (tgt := 186) hx hb (by omega) (by omega) dM_stepped_50 dM_stepped_51 (by decide) (fun hc => ?_) (fun hc => ?_)
          · refine lv_lload hx hb dM_stepped_186 (lv_at hl 1 rfl) ?_
            exact W.lret (v := lN (mxN (fun t => stp (qS so x.toInt.toNat) (qF pe rw x.toInt.toNat) (qF an rw x.toInt.toNat) t (mn x.toInt.toNat) - t) k)) hx hb hr (fun t ht hW => ⟨⟨_, (), rfl, by rw [spStep, if_neg hno, if_pos q2, hQ, show k = Q by omega], by show va_P D vwCl _ t.heap; rw [ht]; exact hP⟩, hS.F ht⟩) hS.2.2 dM_stepped_188
          · have hk2 := hgb k hc
            have hk3 : (fun t => stp (qS so x.toInt.toNat) (qF pe rw x.toInt.toNat) (qF an rw x.toInt.toNat) t (mn x.toInt.toNat) - t) k = stp (qS so x.toInt.toNat) (qF pe rw x.toInt.toNat) (qF an rw x.toInt.toNat) k (mn x.toInt.toNat) - k := rfl
            have hge := stp_ge (sel := (qS so x.toInt.toNat)) (T := (qF pe rw x.toInt.toNat)) (R := (qF an rw x.toInt.toNat)) (b := k) (mn x.toInt.toNat) (fun j hj hs => (hbd j hj).2.2 hs)
            refine lv_lload hx hb dM_stepped_54 (lv_at hl 0 rfl) ?_
            refine lv_lstore (lv' := [(8, .long (lN k)), (6, .long (lN k)), (4, .long (lN (mxN (fun t => stp (qS so x.toInt.toNat) (qF pe rw x.toInt.toNat) (qF an rw x.toInt.toNat) t (mn x.toInt.toNat) - t) k))), (2, .long (lN Q)), (1, .int (nI (x.toInt.toNat))), (0, .ref (a 0))]) hx hb dM_stepped_56 hl (by decide) rfl (fun ls hl => ?_)
            refine lv_iconst (v := nI 0) hx hb dM_stepped_58 (by decide) ?_
            refine lv_istore (lv' := [(10, .int (nI 0)), (8, .long (lN k)), (6, .long (lN k)), (4, .long (lN (mxN (fun t => stp (qS so x.toInt.toNat) (qF pe rw x.toInt.toNat) (qF an rw x.toInt.toNat) t (mn x.toInt.toNat) - t) k))), (2, .long (lN Q)), (1, .int (nI (x.toInt.toNat))), (0, .ref (a 0))]) hx hb dM_stepped_59 hl (by decide) rfl (fun ls hl => ?_)
            have inner : ∀ (f2 i : Nat), i ≤ mn x.toInt.toNat → mn x.toInt.toNat < i + f2 → ∀ ls : Array Slot, lv_has ls 12 [(10, .int (nI i)), (8, .long (lN (stp (qS so x.toInt.toNat) (qF pe rw x.toInt.toNat) (qF an rw x.toInt.toNat) k i))), (6, .long (lN k)), (4, .long (lN (mxN (fun t => stp (qS so x.toInt.toNat) (qF pe rw x.toInt.toNat) (qF an rw x.toInt.toNat) t (mn x.toInt.toNat) - t) k))), (2, .long (lN Q)), (1, .int (nI (x.toInt.toNat))), (0, .ref (a 0))] → W p l e (headSpec (.code yM_stepped cM_stepped 12 (some .long) :: gT) ({ frames := 3, cells := 0, slots := 0, locals := 81 })).room s m ([.ref (a 0), .int x] : List Value).toArray below meth c H locs 0 0 (MQ below (va_Ql (fun (r : Int64) (u : Unit) => r = spStep nc pe an up dn rw so mn x) (fun u t => va_P D vwCl (mW ka a 0 np nc pe an up dn rw so mn wd wv) t.heap) (mA a)) ([.ref (a 0), .int x] : List Value).toArray s 0 0 (mA a)) (F0 m 61 ls []) := by
              intro f2
              induction f2 with
              | zero => intro i h1 h2; exact absurd h2 (by omega)
              | succ f2 ih2 =>
                intro i hi hf2 ls hl
                refine lv_iload hx hb dM_stepped_61 (lv_at hl 0 rfl) ?_
                refine lv_aload_n hx hb dM_stepped_63 rfl (lv_at hl 6 rfl) ?_
                refine g_get (cl := vwCl) (ci := 3) (v := .ref (a 7)) hx hb hts inM hown hK (hP.nth 0 rfl) rfl 9 (by decide) (hts _ tb_309) rfl dM_stepped_64 ?_
                refine lv_iload_n hx hb dM_stepped_67 rfl (lv_at hl 5 rfl) ?_
                refine g_ialdv (v := nI (mn (x.toInt.toNat))) hx hb hK 4 (hP.nth 7 rfl) rfl (by omega) (by decide) (rfl) dM_stepped_68 ?_
                refine n_icmp_ge (tgt := 154) hx hb (by omega) (by omega) dM_stepped_69 (by decide) (fun hc6 => ?_) (fun hc6 => ?_)
                · obtain hi2 : i = mn x.toInt.toNat := by omega
                  subst hi2
                  refine lv_lload hx hb dM_stepped_154 (lv_at hl 1 rfl) ?_
                  refine lv_lload hx hb dM_stepped_156 (lv_at hl 2 rfl) ?_
                  refine n_lsub hx hb (by omega) dM_stepped_158 ?_
                  refine lv_lload hx hb dM_stepped_159 (lv_at hl 3 rfl) ?_
                  refine n_lcmp_le (tgt := 173) hx hb (by omega) (by omega) dM_stepped_161 dM_stepped_162 (by decide) (fun q5 => ?_) (fun q5 => ?_)
                  · refine lv_lload hx hb dM_stepped_173 (lv_at hl 3 rfl) ?_
                    refine lv_lstore (lv' := [(4, .long (lN (mxN (fun t => stp (qS so x.toInt.toNat) (qF pe rw x.toInt.toNat) (qF an rw x.toInt.toNat) t (mn x.toInt.toNat) - t) k))), (10, .int (nI (mn x.toInt.toNat))), (8, .long (lN (stp (qS so x.toInt.toNat) (qF pe rw x.toInt.toNat) (qF an rw x.toInt.toNat) k (mn x.toInt.toNat)))), (6, .long (lN k)), (2, .long (lN Q)), (1, .int (nI (x.toInt.toNat))), (0, .ref (a 0))]) hx hb dM_stepped_175 hl (by decide) rfl (fun ls hl => ?_)
                    refine lv_lload hx hb dM_stepped_177 (lv_at hl 3 rfl) ?_
                    refine lv_lconst (v := lN 1) hx hb dM_stepped_179 rfl ?_
                    refine n_ladd hx hb dM_stepped_180 ?_
                    refine lv_lstore (lv' := [(6, .long (lN (k + 1))), (4, .long (lN (mxN (fun t => stp (qS so x.toInt.toNat) (qF pe rw x.toInt.toNat) (qF an rw x.toInt.toNat) t (mn x.toInt.toNat) - t) k))), (10, .int (nI (mn x.toInt.toNat))), (8, .long (lN (stp (qS so x.toInt.toNat) (qF pe rw x.toInt.toNat) (qF an rw x.toInt.toNat) k (mn x.toInt.toNat)))), (2, .long (lN Q)), (1, .int (nI (x.toInt.toNat))), (0, .ref (a 0))]) hx hb dM_stepped_181 hl (by decide) rfl (fun ls hl => ?_)
                    refine lv_goto (tgt := 47) hx hb dM_stepped_183 (by decide) ?_
                    have e1 : mxN (fun t => stp (qS so x.toInt.toNat) (qF pe rw x.toInt.toNat) (qF an rw x.toInt.toNat) t (mn x.toInt.toNat) - t) (k + 1) = mxN (fun t => stp (qS so x.toInt.toNat) (qF pe rw x.toInt.toNat) (qF an rw x.toInt.toNat) t (mn x.toInt.toNat) - t) k := by show max (mxN (fun t => stp (qS so x.toInt.toNat) (qF pe rw x.toInt.toNat) (qF an rw x.toInt.toNat) t (mn x.toInt.toNat) - t) k) ((fun t => stp (qS so x.toInt.toNat) (qF pe rw x.toInt.toNat) (qF an rw x.toInt.toNat) t (mn x.toInt.toNat) - t) k) = _; omega
                    exact ih (k + 1) (by omega) (by omega) ls (by rw [e1]; exact lv_sub hl [0, 1, 4, 5, 6] rfl)
                  · refine lv_lload hx hb dM_stepped_165 (lv_at hl 1 rfl) ?_
                    refine lv_lload hx hb dM_stepped_167 (lv_at hl 2 rfl) ?_
                    refine n_lsub hx hb (by omega) dM_stepped_169 ?_
                    refine lv_goto (tgt := 175) hx hb dM_stepped_170 (by decide) ?_
                    refine lv_lstore (lv' := [(4, .long (lN ((stp (qS so x.toInt.toNat) (qF pe rw x.toInt.toNat) (qF an rw x.toInt.toNat) k (mn x.toInt.toNat)) - k))), (10, .int (nI (mn x.toInt.toNat))), (8, .long (lN (stp (qS so x.toInt.toNat) (qF pe rw x.toInt.toNat) (qF an rw x.toInt.toNat) k (mn x.toInt.toNat)))), (6, .long (lN k)), (2, .long (lN Q)), (1, .int (nI (x.toInt.toNat))), (0, .ref (a 0))]) hx hb dM_stepped_175 hl (by decide) rfl (fun ls hl => ?_)
                    refine lv_lload hx hb dM_stepped_177 (lv_at hl 3 rfl) ?_
                    refine lv_lconst (v := lN 1) hx hb dM_stepped_179 rfl ?_
                    refine n_ladd hx hb dM_stepped_180 ?_
                    refine lv_lstore (lv' := [(6, .long (lN (k + 1))), (4, .long (lN ((stp (qS so x.toInt.toNat) (qF pe rw x.toInt.toNat) (qF an rw x.toInt.toNat) k (mn x.toInt.toNat)) - k))), (10, .int (nI (mn x.toInt.toNat))), (8, .long (lN (stp (qS so x.toInt.toNat) (qF pe rw x.toInt.toNat) (qF an rw x.toInt.toNat) k (mn x.toInt.toNat)))), (2, .long (lN Q)), (1, .int (nI (x.toInt.toNat))), (0, .ref (a 0))]) hx hb dM_stepped_181 hl (by decide) rfl (fun ls hl => ?_)
                    refine lv_goto (tgt := 47) hx hb dM_stepped_183 (by decide) ?_
                    have e1 : mxN (fun t => stp (qS so x.toInt.toNat) (qF pe rw x.toInt.toNat) (qF an rw x.toInt.toNat) t (mn x.toInt.toNat) - t) (k + 1) = stp (qS so x.toInt.toNat) (qF pe rw x.toInt.toNat) (qF an rw x.toInt.toNat) k (mn x.toInt.toNat) - k := by show max (mxN (fun t => stp (qS so x.toInt.toNat) (qF pe rw x.toInt.toNat) (qF an rw x.toInt.toNat) t (mn x.toInt.toNat) - t) k) ((fun t => stp (qS so x.toInt.toNat) (qF pe rw x.toInt.toNat) (qF an rw x.toInt.toNat) t (mn x.toInt.toNat) - t) k) = _; omega
                    exact ih (k + 1) (by omega) (by omega) ls (by rw [e1]; exact lv_sub hl [0, 1, 4, 5, 6] rfl)
                · have hR := hO.row hc1 hc2 hc6
                  have hB := hbd i hc6
                  have hle := stp_le (sel := (qS so x.toInt.toNat)) (T := (qF pe rw x.toInt.toNat)) (R := (qF an rw x.toInt.toNat)) (b := k) (B := 20000) i (fun j hj => hbd j (by omega))
                  have hli : i * (2 * 20000) ≤ 12 * (2 * 20000) := Nat.mul_le_mul_right _ (by omega)
                  have hTe : (qF pe rw x.toInt.toNat) i = pe (rw ((12 * x.toInt.toNat) + i)) := rfl
                  refine lv_aload_n hx hb dM_stepped_72 rfl (lv_at hl 6 rfl) ?_
                  refine g_get (cl := vwCl) (ci := 3) (v := .ref (a 5)) hx hb hts inM hown hK (hP.nth 0 rfl) rfl 7 (by decide) (hts _ tb_307) rfl dM_stepped_73 ?_
                  refine lv_bipush (v := nI 12) hx hb dM_stepped_76 (by decide) ?_
                  refine lv_iload_n hx hb dM_stepped_78 rfl (lv_at hl 5 rfl) ?_
                  refine n_imul hx hb dM_stepped_79 ?_
                  refine lv_iload hx hb dM_stepped_80 (lv_at hl 0 rfl) ?_
                  refine n_iadd hx hb dM_stepped_82 ?_
                  refine g_ialdv (v := nI (rw ((12 * (x.toInt.toNat)) + i))) hx hb hK 4 (hP.nth 5 rfl) rfl (by omega) (by decide) (rfl) dM_stepped_83 ?_
                  refine lv_istore (lv' := [(11, .int (nI (rw ((12 * (x.toInt.toNat)) + i)))), (10, .int (nI i)), (8, .long (lN (stp (qS so x.toInt.toNat) (qF pe rw x.toInt.toNat) (qF an rw x.toInt.toNat) k i))), (6, .long (lN k)), (4, .long (lN (mxN (fun t => stp (qS so x.toInt.toNat) (qF pe rw x.toInt.toNat) (qF an rw x.toInt.toNat) t (mn x.toInt.toNat) - t) k))), (2, .long (lN Q)), (1, .int (nI (x.toInt.toNat))), (0, .ref (a 0))]) hx hb dM_stepped_84 hl (by decide) rfl (fun ls hl => ?_)
                  refine lv_aload_n hx hb dM_stepped_86 rfl (lv_at hl 7 rfl) ?_
                  refine g_get (cl := vwCl) (ci := 3) (v := .ref (a 6)) hx hb hts inM hown hK (hP.nth 0 rfl) rfl 8 (by decide) (hts _ tb_308) rfl dM_stepped_87 ?_
                  refine lv_bipush (v := nI 12) hx hb dM_stepped_90 (by decide) ?_
                  refine lv_iload_n hx hb dM_stepped_92 rfl (lv_at hl 6 rfl) ?_
                  refine n_imul hx hb dM_stepped_93 ?_
                  refine lv_iload hx hb dM_stepped_94 (lv_at hl 1 rfl) ?_
                  refine n_iadd hx hb dM_stepped_96 ?_
                  refine g_zaldv (v := bI (so ((12 * (x.toInt.toNat)) + i))) hx hb hK 2 (hP.nth 6 rfl) rfl (by omega) (by decide) (rfl) dM_stepped_97 ?_
                  refine b_if_eq (tgt := 106) hx hb dM_stepped_98 (by decide) (fun q7 => ?_) (fun q7 => ?_)
                  · have hTp := hB.2.2 (by show (!so (12 * x.toInt.toNat + i)) = true; rw [q7]; rfl)
                    refine lv_lload hx hb dM_stepped_106 (lv_at hl 2 rfl) ?_
                    refine lv_aload_n hx hb dM_stepped_108 rfl (lv_at hl 7 rfl) ?_
                    refine g_get (cl := vwCl) (ci := 3) (v := .ref (a 1)) hx hb hts inM hown hK (hP.nth 0 rfl) rfl 2 (by decide) (hts _ tb_302) rfl dM_stepped_109 ?_
                    refine lv_iload hx hb dM_stepped_112 (lv_at hl 0 rfl) ?_
                    refine g_laldv (v := lN (pe (rw ((12 * (x.toInt.toNat)) + i)))) hx hb hK 3 (hP.nth 1 rfl) rfl (by omega) (by decide) (rfl) dM_stepped_114 ?_
                    refine n_ladd hx hb dM_stepped_115 ?_
                    refine lv_lconst (v := lN 1) hx hb dM_stepped_116 rfl ?_
                    refine n_lsub hx hb (by omega) dM_stepped_117 ?_
                    refine lv_aload_n hx hb dM_stepped_118 rfl (lv_at hl 7 rfl) ?_
                    refine g_get (cl := vwCl) (ci := 3) (v := .ref (a 1)) hx hb hts inM hown hK (hP.nth 0 rfl) rfl 2 (by decide) (hts _ tb_302) rfl dM_stepped_119 ?_
                    refine lv_iload hx hb dM_stepped_122 (lv_at hl 0 rfl) ?_
                    refine g_laldv (v := lN (pe (rw ((12 * (x.toInt.toNat)) + i)))) hx hb hK 3 (hP.nth 1 rfl) rfl (by omega) (by decide) (rfl) dM_stepped_124 ?_
                    refine n_ldiv hx hb (by omega) (by omega) (by omega) dM_stepped_125 ?_
                    refine lv_aload_n hx hb dM_stepped_126 rfl (lv_at hl 7 rfl) ?_
                    refine g_get (cl := vwCl) (ci := 3) (v := .ref (a 1)) hx hb hts inM hown hK (hP.nth 0 rfl) rfl 2 (by decide) (hts _ tb_302) rfl dM_stepped_127 ?_
                    refine lv_iload hx hb dM_stepped_130 (lv_at hl 0 rfl) ?_
                    refine g_laldv (v := lN (pe (rw ((12 * (x.toInt.toNat)) + i)))) hx hb hK 3 (hP.nth 1 rfl) rfl (by omega) (by decide) (rfl) dM_stepped_132 ?_
                    refine n_lmul hx hb dM_stepped_133 ?_
                    refine lv_lstore (lv' := [(8, .long (lN (((((stp (qS so x.toInt.toNat) (qF pe rw x.toInt.toNat) (qF an rw x.toInt.toNat) k i) + (pe (rw ((12 * (x.toInt.toNat)) + i)))) - 1) / (pe (rw ((12 * (x.toInt.toNat)) + i)))) * (pe (rw ((12 * (x.toInt.toNat)) + i)))))), (11, .int (nI (rw ((12 * (x.toInt.toNat)) + i)))), (10, .int (nI i)), (6, .long (lN k)), (4, .long (lN (mxN (fun t => stp (qS so x.toInt.toNat) (qF pe rw x.toInt.toNat) (qF an rw x.toInt.toNat) t (mn x.toInt.toNat) - t) k))), (2, .long (lN Q)), (1, .int (nI (x.toInt.toNat))), (0, .ref (a 0))]) hx hb dM_stepped_134 hl (by decide) rfl (fun ls hl => ?_)
                    refine lv_lload hx hb dM_stepped_136 (lv_at hl 0 rfl) ?_
                    refine lv_aload_n hx hb dM_stepped_138 rfl (lv_at hl 7 rfl) ?_
                    refine g_get (cl := vwCl) (ci := 3) (v := .ref (a 2)) hx hb hts inM hown hK (hP.nth 0 rfl) rfl 3 (by decide) (hts _ tb_303) rfl dM_stepped_139 ?_
                    refine lv_iload hx hb dM_stepped_142 (lv_at hl 1 rfl) ?_
                    refine g_laldv (v := lN (an (rw ((12 * (x.toInt.toNat)) + i)))) hx hb hK 3 (hP.nth 2 rfl) rfl (by omega) (by decide) (rfl) dM_stepped_144 ?_
                    refine n_ladd hx hb dM_stepped_145 ?_
                    refine lv_lstore (lv' := [(8, .long (lN ((((((stp (qS so x.toInt.toNat) (qF pe rw x.toInt.toNat) (qF an rw x.toInt.toNat) k i) + (pe (rw ((12 * (x.toInt.toNat)) + i)))) - 1) / (pe (rw ((12 * (x.toInt.toNat)) + i)))) * (pe (rw ((12 * (x.toInt.toNat)) + i)))) + (an (rw ((12 * (x.toInt.toNat)) + i)))))), (11, .int (nI (rw ((12 * (x.toInt.toNat)) + i)))), (10, .int (nI i)), (6, .long (lN k)), (4, .long (lN (mxN (fun t => stp (qS so x.toInt.toNat) (qF pe rw x.toInt.toNat) (qF an rw x.toInt.toNat) t (mn x.toInt.toNat) - t) k))), (2, .long (lN Q)), (1, .int (nI (x.toInt.toNat))), (0, .ref (a 0))]) hx hb dM_stepped_146 hl (by decide) rfl (fun ls hl => ?_)
                    refine lv_iinc (v := nI (i + 1)) (lv' := [(10, .int (nI (i + 1))), (8, .long (lN ((((((stp (qS so x.toInt.toNat) (qF pe rw x.toInt.toNat) (qF an rw x.toInt.toNat) k i) + (pe (rw ((12 * (x.toInt.toNat)) + i)))) - 1) / (pe (rw ((12 * (x.toInt.toNat)) + i)))) * (pe (rw ((12 * (x.toInt.toNat)) + i)))) + (an (rw ((12 * (x.toInt.toNat)) + i)))))), (11, .int (nI (rw ((12 * (x.toInt.toNat)) + i)))), (6, .long (lN k)), (4, .long (lN (mxN (fun t => stp (qS so x.toInt.toNat) (qF pe rw x.toInt.toNat) (qF an rw x.toInt.toNat) t (mn x.toInt.toNat) - t) k))), (2, .long (lN Q)), (1, .int (nI (x.toInt.toNat))), (0, .ref (a 0))]) hx hb dM_stepped_148 hl (k := 2) rfl (nI_add i 1) (by decide) rfl (fun ls hl => ?_)
                    refine lv_goto (tgt := 61) hx hb dM_stepped_151 (by decide) ?_
                    have e1 : stp (qS so x.toInt.toNat) (qF pe rw x.toInt.toNat) (qF an rw x.toInt.toNat) k (i + 1) = (stp (qS so x.toInt.toNat) (qF pe rw x.toInt.toNat) (qF an rw x.toInt.toNat) k i + pe (rw ((12 * x.toInt.toNat) + i)) - 1) / pe (rw ((12 * x.toInt.toNat) + i)) * pe (rw ((12 * x.toInt.toNat) + i)) + an (rw ((12 * x.toInt.toNat) + i)) := by show (if _ then _ else _) + _ = _; rw [if_pos (by show (!so (12 * x.toInt.toNat + i)) = true; rw [q7]; rfl)]; rfl
                    exact ih2 (i + 1) (by omega) (by omega) ls (by rw [e1]; exact lv_sub hl [0, 1, 3, 4, 5, 6, 7] rfl)
                  · refine lv_lload hx hb dM_stepped_101 (lv_at hl 2 rfl) ?_
                    refine lv_goto (tgt := 134) hx hb dM_stepped_103 (by decide) ?_
                    refine lv_lstore (lv' := [(8, .long (lN (stp (qS so x.toInt.toNat) (qF pe rw x.toInt.toNat) (qF an rw x.toInt.toNat) k i))), (11, .int (nI (rw ((12 * (x.toInt.toNat)) + i)))), (10, .int (nI i)), (6, .long (lN k)), (4, .long (lN (mxN (fun t => stp (qS so x.toInt.toNat) (qF pe rw x.toInt.toNat) (qF an rw x.toInt.toNat) t (mn x.toInt.toNat) - t) k))), (2, .long (lN Q)), (1, .int (nI (x.toInt.toNat))), (0, .ref (a 0))]) hx hb dM_stepped_134 hl (by decide) rfl (fun ls hl => ?_)
                    refine lv_lload hx hb dM_stepped_136 (lv_at hl 0 rfl) ?_
                    refine lv_aload_n hx hb dM_stepped_138 rfl (lv_at hl 7 rfl) ?_
                    refine g_get (cl := vwCl) (ci := 3) (v := .ref (a 2)) hx hb hts inM hown hK (hP.nth 0 rfl) rfl 3 (by decide) (hts _ tb_303) rfl dM_stepped_139 ?_
                    refine lv_iload hx hb dM_stepped_142 (lv_at hl 1 rfl) ?_
                    refine g_laldv (v := lN (an (rw ((12 * (x.toInt.toNat)) + i)))) hx hb hK 3 (hP.nth 2 rfl) rfl (by omega) (by decide) (rfl) dM_stepped_144 ?_
                    refine n_ladd hx hb dM_stepped_145 ?_
                    refine lv_lstore (lv' := [(8, .long (lN ((stp (qS so x.toInt.toNat) (qF pe rw x.toInt.toNat) (qF an rw x.toInt.toNat) k i) + (an (rw ((12 * (x.toInt.toNat)) + i)))))), (11, .int (nI (rw ((12 * (x.toInt.toNat)) + i)))), (10, .int (nI i)), (6, .long (lN k)), (4, .long (lN (mxN (fun t => stp (qS so x.toInt.toNat) (qF pe rw x.toInt.toNat) (qF an rw x.toInt.toNat) t (mn x.toInt.toNat) - t) k))), (2, .long (lN Q)), (1, .int (nI (x.toInt.toNat))), (0, .ref (a 0))]) hx hb dM_stepped_146 hl (by decide) rfl (fun ls hl => ?_)
                    refine lv_iinc (v := nI (i + 1)) (lv' := [(10, .int (nI (i + 1))), (8, .long (lN ((stp (qS so x.toInt.toNat) (qF pe rw x.toInt.toNat) (qF an rw x.toInt.toNat) k i) + (an (rw ((12 * (x.toInt.toNat)) + i)))))), (11, .int (nI (rw ((12 * (x.toInt.toNat)) + i)))), (6, .long (lN k)), (4, .long (lN (mxN (fun t => stp (qS so x.toInt.toNat) (qF pe rw x.toInt.toNat) (qF an rw x.toInt.toNat) t (mn x.toInt.toNat) - t) k))), (2, .long (lN Q)), (1, .int (nI (x.toInt.toNat))), (0, .ref (a 0))]) hx hb dM_stepped_148 hl (k := 2) rfl (nI_add i 1) (by decide) rfl (fun ls hl => ?_)
                    refine lv_goto (tgt := 61) hx hb dM_stepped_151 (by decide) ?_
                    have e1 : stp (qS so x.toInt.toNat) (qF pe rw x.toInt.toNat) (qF an rw x.toInt.toNat) k (i + 1) = stp (qS so x.toInt.toNat) (qF pe rw x.toInt.toNat) (qF an rw x.toInt.toNat) k i + an (rw ((12 * x.toInt.toNat) + i)) := by show (if _ then _ else _) + _ = _; rw [if_neg (by show ¬ (!so (12 * x.toInt.toNat + i)) = true; rw [q7]; decide)]; rfl
                    exact ih2 (i + 1) (by omega) (by omega) ls (by rw [e1]; exact lv_sub hl [0, 1, 3, 4, 5, 6, 7] rfl)
            exact inner (mn x.toInt.toNat + 1) 0 (by omega) (by omega) ls (lv_sub hl [0, 1, 2, 3, 4, 5, 6] rfl)
      exact loop (Q + 1) 0 (by omega) (by omega) ls (lv_sub hl [0, 1, 2, 4, 3] rfl)
    · refine lv_aload_n hx hb dM_stepped_25 rfl (lv_at hl 0 rfl) ?_
      refine lv_iload_n hx hb dM_stepped_26 rfl (lv_at hl 1 rfl) ?_
      refine vp_callSl (va_Run.run (va_runV (As := [.int (nI (x.toInt.toNat))]) (rest := []) ⟨hx, hb, hml, hown, hts⟩ (m_reaction l D ka H a 0 np nc pe an up dn rw so mn wd wv x.toInt.toNat hP hO hc1 hc2) (cw_V 1 hts tb_380 rfl rfl tb_377 tb_2 tb_379 ts_23 (by decide +kernel) ⟨Nat.le_of_ble_eq_true rfl, Nat.le_of_ble_eq_true rfl⟩) (ro_V (ci := 3) hK hN (hP.nth 0 rfl) rfl) rfl rfl hl.1 rfl (lv_room (Nat.le_of_ble_eq_true rfl)) dM_stepped_27 ⟨Nat.zero_le _, Nat.zero_le _⟩)) (fun r er => ?_)
      subst er
      exact W.lret (v := lN (rea pe an up dn rw so mn x.toInt.toNat)) hx hb hr (fun t ht hW => ⟨⟨_, (), rfl, by rw [spStep, if_neg hno, if_neg (by rw [q2]; decide)], by show va_P D vwCl _ t.heap; rw [ht]; exact hP⟩, hS.F ht⟩) hS.2.2 dM_stepped_30
  · refine lv_ldc2 (v := (-1)) hx hb hown (hts _ tb_372) dM_stepped_13 ?_
    exact W.lret (v := (-1)) hx hb hr (fun t ht hW => ⟨⟨_, (), rfl, by rw [spStep, if_pos q1], by show va_P D vwCl _ t.heap; rw [ht]; exact hP⟩, hS.F ht⟩) hS.2.2 dM_stepped_16
set_option maxHeartbeats 4000000 in
set_option maxRecDepth 100000 in
theorem n_cycle (l : Launch) (D : va_G) (ka : Nat → ClassId) (H0 : Heap) (a : Nat → Nat) (tv np nc : Nat) (pe an up dn rw : Nat → Nat) (so : Nat → Bool) (mn : Nat → Nat) (wd : Nat → Bool) (wv : Nat → Int64) (x : Int32) (hM : va_P D vwCl (mW ka a tv np nc pe an up dn rw so mn wd wv) H0) (hO : mOk np nc pe an up dn rw so mn wd wv) (haI : ∀ i j, i < 10 → j < 10 → a i = a j → i = j)  : Met l yM_cycle (.code yM_cycle cM_cycle 3 (some .long) :: gT) ({ frames := 2, cells := 0, slots := 0, locals := 58 }) (ro_Pc D vwCl (tyL ka) H0 [.ref (a 0), .int x]) (va_Ql (fun (r : Int64) (u : Unit) => ((spEmp nc mn x = true ∨ lack pe rw mn x.toInt.toNat = false) → r = spCycle nc pe rw so mn x)) (fun u t => va_P D vwCl (mW ka a (if (!spEmp nc mn x && lack pe rw mn x.toInt.toNat) = true then 1 else 0) np nc pe an up dn rw so mn wd wv) t.heap) (mA a)) 0 0 (mA a) := by
  refine Met.ofW (cc := cM_cycle) (maxL := 3) (ret := (some .long)) (by decide) rfl ?_
  intro p e s m args below meth c s₁ B hml hv
  obtain ⟨rfl, hH, hK, hN⟩ := hv
  subst hH
  have hx := B.exec
  have hb := B.bytes
  have hr := B.returns
  have hts : ∀ w ∈ gT, w.before ([.ref (a 0), .int x] : List Value).toArray s = true := fun w h => atoms_spec (ws := (.code yM_cycle cM_cycle 3 (some .long) :: gT)) B.pre w (List.mem_cons_of_mem _ h)
  have hown : s.vm.findClass RM = some m.cls := findClass_of_methodNamed B.named
  have hlocks := B.notSynchronized
  have hl := lv_entry ([.ref (a 0), .int x]) (n := 3) (Nat.le_of_ble_eq_true rfl)
  rw [lg_entry_eq]
  generalize (lg_sl ([.ref (a 0), .int x]) ++ List.replicate (3 - (lg_sl ([.ref (a 0), .int x])).length) Slot.unset).toArray = ls at hl ⊢
  have hl : lv_has ls 3 [(0, .ref (a 0)), (1, .int x)] := hl
  have hP : va_P D vwCl (mW ka a tv np nc pe an up dn rw so mn wd wv) s.heap := hM
  have hD : va_D (mA a) (mW ka a tv np nc pe an up dn rw so mn wd wv) := mD haI
  have hS : va_S (mA a) s.heap s.heap [] := va_S.rf
  have hnp := hO.1
  have hnc := hO.2.1
  refine lv_aload_n hx hb dM_cycle_0 rfl (lv_at hl 0 rfl) ?_
  refine lv_iconst (v := nI 0) hx hb dM_cycle_1 (by decide) ?_
  refine va_put (D := D) (cl := vwCl) (ci := 3) (v := .int (nI 0)) (ty := .int) (C := RM) (T := TM) (N := 12) hx hb hts inM tyM tyM_ok nmM hown hK hP hD hS 0 rfl rfl 0 (by decide) (hts _ tb_300) (fun _ h9 => h9) rfl (by decide +kernel) rfl rfl (Nat.le_of_ble_eq_true rfl) dM_cycle_2 (fun H locs hP hD hS => ?_)
  have hP : va_P D vwCl (mW ka a 0 np nc pe an up dn rw so mn wd wv) H := hP
  have hD : va_D (mA a) (mW ka a 0 np nc pe an up dn rw so mn wd wv) := hD
  refine lv_aload_n hx hb dM_cycle_5 rfl (lv_at hl 0 rfl) ?_
  refine lv_iload_n hx hb dM_cycle_6 rfl (lv_at hl 1 rfl) ?_
  refine vp_callSi (va_Run.run (va_runV (As := [.int x]) (rest := []) ⟨hx, hb, hml, hown, hts⟩ (m_isEmpty l D ka H a 0 np nc pe an up dn rw so mn wd wv x hP hO) (cw_V 1 hts tb_371 rfl rfl tb_368 tb_2 tb_370 ts_21 (by decide +kernel) ⟨Nat.le_of_ble_eq_true rfl, Nat.le_of_ble_eq_true rfl⟩) (ro_V (ci := 3) hK hN (hP.nth 0 rfl) rfl) rfl rfl hl.1 rfl (lv_room (Nat.le_of_ble_eq_true rfl)) dM_cycle_7 ⟨Nat.zero_le _, Nat.zero_le _⟩)) (fun r er => ?_)
  subst er
  refine b_if_eq (tgt := 17) hx hb dM_cycle_10 (by decide) (fun q1 => ?_) (fun q1 => ?_)
  · obtain ⟨ex, hc1, hc2, hn0⟩ := spEmp_f q1
    rw [ex] at hl
    have hmn := (hO.2.2.2.1 x.toInt.toNat hc1 hc2).1
    refine lv_iconst (v := nI 0) hx hb dM_cycle_17 (by decide) ?_
    refine lv_istore_n (lv' := [(2, .int (nI 0)), (0, .ref (a 0)), (1, .int (nI (x.toInt.toNat)))]) hx hb dM_cycle_18 rfl hl (by decide) rfl (fun ls hl => ?_)
    skip
    have loop : ∀ (fu i : Nat), i ≤ mn x.toInt.toNat → mn x.toInt.toNat < i + fu → ∀ (H : Heap) (locs : List Loc), va_P D vwCl (mW ka a (if anyN (fun i => (qF pe rw x.toInt.toNat) i == 0) i = true then 1 else 0) np nc pe an up dn rw so mn wd wv) H → va_D (mA a) (mW ka a (if anyN (fun i => (qF pe rw x.toInt.toNat) i == 0) i = true then 1 else 0) np nc pe an up dn rw so mn wd wv) → va_S (mA a) s.heap H locs → ∀ ls : Array Slot, lv_has ls 3 [(2, .int (nI i)), (1, .int (nI (x.toInt.toNat))), (0, .ref (a 0))] → W p l e (headSpec (.code yM_cycle cM_cycle 3 (some .long) :: gT) ({ frames := 2, cells := 0, slots := 0, locals := 58 })).room s m ([.ref (a 0), .int x] : List Value).toArray below meth c H locs 0 0 (MQ below (va_Ql (fun (r : Int64) (u : Unit) => ((spEmp nc mn x = true ∨ lack pe rw mn x.toInt.toNat = false) → r = spCycle nc pe rw so mn x)) (fun u t => va_P D vwCl (mW ka a (if (!spEmp nc mn x && lack pe rw mn x.toInt.toNat) = true then 1 else 0) np nc pe an up dn rw so mn wd wv) t.heap) (mA a)) ([.ref (a 0), .int x] : List Value).toArray s 0 0 (mA a)) (F0 m 19 ls []) := by
      intro fu
      induction fu with
      | zero => intro i h1 h2; exact absurd h2 (by omega)
      | succ fu ih =>
        intro i hi hf H locs hP hD hS ls hl
        refine lv_iload_n hx hb dM_cycle_19 rfl (lv_at hl 0 rfl) ?_
        refine lv_aload_n hx hb dM_cycle_20 rfl (lv_at hl 2 rfl) ?_
        refine g_get (cl := vwCl) (ci := 3) (v := .ref (a 7)) hx hb hts inM hown hK (hP.nth 0 rfl) rfl 9 (by decide) (hts _ tb_309) rfl dM_cycle_21 ?_
        refine lv_iload_n hx hb dM_cycle_24 rfl (lv_at hl 1 rfl) ?_
        refine g_ialdv (v := nI (mn (x.toInt.toNat))) hx hb hK 4 (hP.nth 7 rfl) rfl (by omega) (by decide) (rfl) dM_cycle_25 ?_
        refine n_icmp_ge (tgt := 68) hx hb (by omega) (by omega) dM_cycle_26 (by decide) (fun hc => ?_) (fun hc => ?_)
        · obtain hi2 : i = mn x.toInt.toNat := by omega
          subst hi2
          by_cases hlk : anyN (fun i => (qF pe rw x.toInt.toNat) i == 0) (mn x.toInt.toNat) = true
          · rw [if_pos hlk] at hP hD
            have etv : (if (!spEmp nc mn x && lack pe rw mn x.toInt.toNat) = true then 1 else 0) = 1 := by rw [q1, lack, hlk]; rfl
            refine lv_aload_n hx hb dM_cycle_68 rfl (lv_at hl 2 rfl) ?_
            refine g_get (cl := vwCl) (ci := 3) (v := .int (nI 1)) hx hb hts inM hown hK (hP.nth 0 rfl) rfl 0 (by decide) (hts _ tb_300) rfl dM_cycle_69 ?_
            refine r_if_le (tgt := 79) hx hb dM_cycle_72 (by decide) (fun q6 => ?_) (fun q6 => ?_)
            · exact absurd q6 (by decide +kernel)
            · refine lv_lconst (v := lN 0) hx hb dM_cycle_75 rfl ?_
              refine lv_goto (tgt := 88) hx hb dM_cycle_76 (by decide) ?_
              rw [← etv] at hP
              exact W.lret (v := lN 0) hx hb hr (fun t ht hW => ⟨⟨_, (), rfl, fun h9 => absurd h9 (by rw [q1, lack, hlk]; decide), by show va_P D vwCl _ t.heap; rw [ht]; exact hP⟩, hS.F ht⟩) hS.2.2 dM_cycle_88
          · rw [if_neg hlk] at hP hD
            have etv : (if (!spEmp nc mn x && lack pe rw mn x.toInt.toNat) = true then 1 else 0) = 0 := by rw [q1, lack, show anyN (fun i => (qF pe rw x.toInt.toNat) i == 0) (mn x.toInt.toNat) = false by simpa using hlk]; rfl
            refine lv_aload_n hx hb dM_cycle_68 rfl (lv_at hl 2 rfl) ?_
            refine g_get (cl := vwCl) (ci := 3) (v := .int (nI 0)) hx hb hts inM hown hK (hP.nth 0 rfl) rfl 0 (by decide) (hts _ tb_300) rfl dM_cycle_69 ?_
            refine r_if_le (tgt := 79) hx hb dM_cycle_72 (by decide) (fun q6 => ?_) (fun q6 => ?_)
            · have hal : ∀ i, i < mn x.toInt.toNat → (qS so x.toInt.toNat i || true) = true → 0 < (qF pe rw x.toInt.toNat) i := fun i hi _ => Nat.pos_of_ne_zero (fun h9 => hlk (anyN_hit hi (by simpa using h9)))
              refine lv_aload_n hx hb dM_cycle_79 rfl (lv_at hl 2 rfl) ?_
              refine lv_iload_n hx hb dM_cycle_80 rfl (lv_at hl 1 rfl) ?_
              refine lv_iconst (v := nI 1) hx hb dM_cycle_81 (by decide) ?_
              have ebt : nI 1 = bI true := rfl
              rw [ebt]
              refine lv_ldc2 (v := lN 1000000000) hx hb hown (hts _ tb_411) dM_cycle_82 ?_
              refine vp_callSl (va_Run.run (va_runV (As := [.int (nI (x.toInt.toNat)), .int (bI true), .long (lN 1000000000)]) (rest := []) ⟨hx, hb, hml, hown, hts⟩ (m_common l D ka H a 0 np nc pe an up dn rw so mn wd wv x.toInt.toNat true 1000000000 hP hO hc1 hc2 (by omega) (by omega) hal) (cw_V 3 hts tb_415 rfl rfl tb_412 tb_2 tb_414 ts_26 (by decide +kernel) ⟨Nat.le_of_ble_eq_true rfl, Nat.le_of_ble_eq_true rfl⟩) (ro_V (ci := 3) hK hN (hP.nth 0 rfl) rfl) rfl rfl hl.1 rfl (lv_room (Nat.le_of_ble_eq_true rfl)) dM_cycle_85 ⟨Nat.zero_le _, Nat.zero_le _⟩)) (fun r er => ?_)
              subst er
              rw [← etv] at hP
              exact W.lret (v := lN (cyM 1000000000 (fun i => qS so x.toInt.toNat i || true) (qF pe rw x.toInt.toNat) (mn x.toInt.toNat))) hx hb hr (fun t ht hW => ⟨⟨_, (), rfl, fun _ => by rw [spCycle, if_neg (by rw [q1]; decide), cyc_M], by show va_P D vwCl _ t.heap; rw [ht]; exact hP⟩, hS.F ht⟩) hS.2.2 dM_cycle_88
            · exact absurd q6 (by decide +kernel)
        · have hR := hO.row hc1 hc2 hc
          have hTe : (qF pe rw x.toInt.toNat) i ≤ 20000 := hR.2.1
          have hT2 : pe (rw ((12 * x.toInt.toNat) + i)) ≤ 20000 := hR.2.1
          refine lv_aload_n hx hb dM_cycle_29 rfl (lv_at hl 2 rfl) ?_
          refine lv_aload_n hx hb dM_cycle_30 rfl (lv_at hl 2 rfl) ?_
          refine g_get (cl := vwCl) (ci := 3) (v := .ref (a 1)) hx hb hts inM hown hK (hP.nth 0 rfl) rfl 2 (by decide) (hts _ tb_302) rfl dM_cycle_31 ?_
          refine lv_aload_n hx hb dM_cycle_34 rfl (lv_at hl 2 rfl) ?_
          refine g_get (cl := vwCl) (ci := 3) (v := .ref (a 5)) hx hb hts inM hown hK (hP.nth 0 rfl) rfl 7 (by decide) (hts _ tb_307) rfl dM_cycle_35 ?_
          refine lv_bipush (v := nI 12) hx hb dM_cycle_38 (by decide) ?_
          refine lv_iload_n hx hb dM_cycle_40 rfl (lv_at hl 1 rfl) ?_
          refine n_imul hx hb dM_cycle_41 ?_
          refine lv_iload_n hx hb dM_cycle_42 rfl (lv_at hl 0 rfl) ?_
          refine n_iadd hx hb dM_cycle_43 ?_
          refine g_ialdv (v := nI (rw ((12 * (x.toInt.toNat)) + i))) hx hb hK 4 (hP.nth 5 rfl) rfl (by omega) (by decide) (rfl) dM_cycle_44 ?_
          refine g_laldv (v := lN (pe (rw ((12 * (x.toInt.toNat)) + i)))) hx hb hK 3 (hP.nth 1 rfl) rfl (by omega) (by decide) (rfl) dM_cycle_45 ?_
          refine lv_lconst (v := lN 0) hx hb dM_cycle_46 rfl ?_
          refine n_lcmp_ne (tgt := 55) hx hb (by omega) (by omega) dM_cycle_47 dM_cycle_48 (by decide) (fun q5 => ?_) (fun q5 => ?_)
          · refine lv_aload_n hx hb dM_cycle_55 rfl (lv_at hl 2 rfl) ?_
            refine g_get (cl := vwCl) (ci := 3) (v := .int (nI ((if anyN (fun i => (qF pe rw x.toInt.toNat) i == 0) i = true then 1 else 0)))) hx hb hts inM hown hK (hP.nth 0 rfl) rfl 0 (by decide) (hts _ tb_300) rfl dM_cycle_56 ?_
            refine va_put (D := D) (cl := vwCl) (ci := 3) (v := .int (nI ((if anyN (fun i => (qF pe rw x.toInt.toNat) i == 0) i = true then 1 else 0)))) (ty := .int) (C := RM) (T := TM) (N := 12) hx hb hts inM tyM tyM_ok nmM hown hK hP hD hS 0 rfl rfl 0 (by decide) (hts _ tb_300) (fun _ h9 => h9) rfl (by decide +kernel) rfl rfl (Nat.le_of_ble_eq_true rfl) dM_cycle_59 (fun H locs hP hD hS => ?_)
            have hP : va_P D vwCl (mW ka a (if anyN (fun i => (qF pe rw x.toInt.toNat) i == 0) i = true then 1 else 0) np nc pe an up dn rw so mn wd wv) H := hP
            have hD : va_D (mA a) (mW ka a (if anyN (fun i => (qF pe rw x.toInt.toNat) i == 0) i = true then 1 else 0) np nc pe an up dn rw so mn wd wv) := hD
            refine lv_iinc (v := nI (i + 1)) (lv' := [(2, .int (nI (i + 1))), (1, .int (nI (x.toInt.toNat))), (0, .ref (a 0))]) hx hb dM_cycle_62 hl (k := 0) rfl (nI_add i 1) (by decide) rfl (fun ls hl => ?_)
            refine lv_goto (tgt := 19) hx hb dM_cycle_65 (by decide) ?_
            have e1 : (if anyN (fun i => (qF pe rw x.toInt.toNat) i == 0) (i + 1) = true then 1 else 0) = (if anyN (fun i => (qF pe rw x.toInt.toNat) i == 0) i = true then 1 else 0) := by rw [anyN_skip (p := fun i => (qF pe rw x.toInt.toNat) i == 0) (by show (pe (rw (12 * x.toInt.toNat + i)) == 0) = false; exact beq_eq_false_iff_ne.mpr q5)]
            exact ih (i + 1) (by omega) (by omega) H locs (by rw [e1]; exact hP) (by rw [e1]; exact hD) hS ls (lv_sub hl [0, 1, 2] rfl)
          · refine lv_iconst (v := nI 1) hx hb dM_cycle_51 (by decide) ?_
            refine lv_goto (tgt := 59) hx hb dM_cycle_52 (by decide) ?_
            refine va_put (D := D) (cl := vwCl) (ci := 3) (v := .int (nI 1)) (ty := .int) (C := RM) (T := TM) (N := 12) hx hb hts inM tyM tyM_ok nmM hown hK hP hD hS 0 rfl rfl 0 (by decide) (hts _ tb_300) (fun _ h9 => h9) rfl (by decide +kernel) rfl rfl (Nat.le_of_ble_eq_true rfl) dM_cycle_59 (fun H locs hP hD hS => ?_)
            have hP : va_P D vwCl (mW ka a 1 np nc pe an up dn rw so mn wd wv) H := hP
            have hD : va_D (mA a) (mW ka a 1 np nc pe an up dn rw so mn wd wv) := hD
            refine lv_iinc (v := nI (i + 1)) (lv' := [(2, .int (nI (i + 1))), (1, .int (nI (x.toInt.toNat))), (0, .ref (a 0))]) hx hb dM_cycle_62 hl (k := 0) rfl (nI_add i 1) (by decide) rfl (fun ls hl => ?_)
            refine lv_goto (tgt := 19) hx hb dM_cycle_65 (by decide) ?_
            have e1 : (if anyN (fun i => (qF pe rw x.toInt.toNat) i == 0) (i + 1) = true then 1 else 0) = 1 := by rw [if_pos (anyN_hit (i := i) (by omega) (by show (pe (rw (12 * x.toInt.toNat + i)) == 0) = true; exact beq_iff_eq.mpr q5))]
            exact ih (i + 1) (by omega) (by omega) H locs (by rw [e1]; exact hP) (by rw [e1]; exact hD) hS ls (lv_sub hl [0, 1, 2] rfl)
    exact loop (mn x.toInt.toNat + 1) 0 (by omega) (by omega) H locs hP hD hS ls (lv_sub hl [0, 2, 1] rfl)
  · refine lv_ldc2 (v := (-1)) hx hb hown (hts _ tb_372) dM_cycle_13 ?_
    have etv : (if (!spEmp nc mn x && lack pe rw mn x.toInt.toNat) = true then 1 else 0) = 0 := by rw [q1]; rfl
    rw [← etv] at hP
    exact W.lret (v := (-1)) hx hb hr (fun t ht hW => ⟨⟨_, (), rfl, fun _ => by rw [spCycle, if_pos q1], by show va_P D vwCl _ t.heap; rw [ht]; exact hP⟩, hS.F ht⟩) hS.2.2 dM_cycle_16
