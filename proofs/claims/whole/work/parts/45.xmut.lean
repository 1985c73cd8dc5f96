set_option maxHeartbeats 4000000 in
set_option maxRecDepth 100000 in
theorem x_clock (l : Launch) (D : va_G) (ka : Nat → ClassId) (H0 : Heap) (ad : Nat → Nat → Nat) (np nc : Nat) (pe an up dn rw : Nat → Nat) (so : Nat → Bool) (mn : Nat → Nat) (wd : Nat → Bool) (wv : Nat → Int64) (x : Int32) (uu dd : Int64) (hX : XInv D ka ad np nc pe an up dn rw so mn wd wv H0) (hO : mOk np nc pe an up dn rw so mn wd wv) : Met l yX2_clock (.code yX2_clock cX2_clock 7 (some .int) :: gT) ({ frames := 2, cells := 0, slots := 0, locals := 43 }) (ro_Pc D vwCl (tyL ka) H0 [.ref (ad 0 0), .int x, .long uu, .long dd]) (va_Qi (fun (r : Int32) (u : MSt × (Nat → Nat → Nat)) => (u.1, r) = opClock np nc pe an up dn rw so mn wd wv x uu dd) (fun (u : MSt × (Nat → Nat → Nat)) t => XIs D ka u.2 u.1 t.heap ∧ xFr ad np nc H0.size u) (fun z => (1 ≤ x.toInt.toNat ∧ x.toInt.toNat ≤ np) ∧ z = ad 3 x.toInt.toNat)) 0 0 (fun z => (1 ≤ x.toInt.toNat ∧ x.toInt.toNat ≤ np) ∧ z = ad 3 x.toInt.toNat) := by
  refine Met.ofW (cc := cX2_clock) (maxL := 7) (ret := (some .int)) (by decide) rfl ?_
  intro p e s m args below meth c s₁ B hml hv
  obtain ⟨rfl, hH, hK, hN⟩ := hv
  subst hH
  have hx := B.exec
  have hb := B.bytes
  have hr := B.returns
  have hts : ∀ w ∈ gT, w.before ([.ref (ad 0 0), .int x, .long uu, .long dd] : List Value).toArray s = true := fun w h => atoms_spec (ws := (.code yX2_clock cX2_clock 7 (some .int) :: gT)) B.pre w (List.mem_cons_of_mem _ h)
  have hown : s.vm.findClass RX2 = some m.cls := findClass_of_methodNamed B.named
  have hlocks := B.notSynchronized
  have hl := lv_entry ([.ref (ad 0 0), .int x, .long uu, .long dd]) (n := 7) (Nat.le_of_ble_eq_true rfl)
  rw [lg_entry_eq]
  generalize (lg_sl ([.ref (ad 0 0), .int x, .long uu, .long dd]) ++ List.replicate (7 - (lg_sl ([.ref (ad 0 0), .int x, .long uu, .long dd])).length) Slot.unset).toArray = ls at hl ⊢
  have hl : lv_has ls 7 [(0, .ref (ad 0 0)), (1, .int x), (2, .long uu), (4, .long dd)] := hl
  have hnp := hO.1
  have hnc := hO.2.1
  have hS : va_S (fun z => (1 ≤ x.toInt.toNat ∧ x.toInt.toNat ≤ np) ∧ z = ad 3 x.toInt.toNat) s.heap s.heap [] := va_S.rf
  have z0 : (lN 0).toInt = 0 := by decide +kernel
  have z1 : (lN 1).toInt = 1 := by decide +kernel
  have zb : (lN 1000000).toInt = 1000000 := by decide +kernel
  refine lv_aload_n hx hb dX2_clock_0 rfl (lv_at hl 0 rfl) ?_
  refine lv_iload_n hx hb dX2_clock_1 rfl (lv_at hl 1 rfl) ?_
  refine va_csq (va_Run.run (va_runV (As := [.int x]) (rest := []) ⟨hx, hb, hml, hown, hts⟩ (x_pieceNumbered l D ka s.heap ad np nc pe an up dn rw so mn wd wv x hX hO) (cw_V 1 hts tb_102 rfl rfl tb_99 tb_1 tb_101 ts_1 (by decide +kernel) ⟨Nat.le_of_ble_eq_true rfl, Nat.le_of_ble_eq_true rfl⟩) (ro_V (ci := 2) hK hN hX.o rfl) rfl rfl hl.1 rfl (lv_room (Nat.le_of_ble_eq_true rfl)) dX2_clock_2 ⟨Nat.zero_le _, Nat.zero_le _⟩)) (fun r er => ?_)
  subst er
  by_cases q1 : cNo x np = true
  · rw [if_pos q1, show va_rf none = Value.null from rfl]
    refine lv_astoreN (lv' := [(6, .null), (0, .ref (ad 0 0)), (1, .int x), (2, .long uu), (4, .long dd)]) hx hb dX2_clock_5 hl (by decide) rfl (fun ls hl => ?_)
    refine lv_aloadN hx hb dX2_clock_7 (lv_at hl 0 rfl) ?_
    refine lv_ifnonnullN hx hb dX2_clock_9 ?_
    refine lv_iconst (v := (-1)) hx hb dX2_clock_12 (by decide) ?_
    exact W.iret (v := (-1)) hx hb hr (fun t ht hW => ⟨⟨_, (mkM np nc pe an up dn rw so mn wd wv, ad), rfl, by rw [opClock, if_pos q1], by (try dsimp only); rw [ht]; exact ⟨hX, xFr_same⟩⟩, hS.F ht⟩) hS.2.2 dX2_clock_13
  · rw [if_neg q1, show va_rf (some (ad 3 x.toInt.toNat)) = Value.ref (ad 3 x.toInt.toNat) from rfl]
    have q0 : cNo x np = false := by simpa using q1
    obtain ⟨ex, h1, h2⟩ := cNo_nI q0
    have hpb := hO.2.2.1 x.toInt.toNat h1 h2
    refine lv_astore (lv' := [(6, .ref (ad 3 x.toInt.toNat)), (0, .ref (ad 0 0)), (1, .int x), (2, .long uu), (4, .long dd)]) hx hb dX2_clock_5 hl (by decide) rfl (fun ls hl => ?_)
    refine lv_aload hx hb dX2_clock_7 (lv_at hl 0 rfl) ?_
    refine lv_ifnonnull (tgt := 14) hx hb dX2_clock_9 (by decide) ?_
    refine lv_lload hx hb dX2_clock_14 (lv_at hl 4 rfl) ?_
    refine lv_lconst (v := lN 1) hx hb dX2_clock_16 rfl ?_
    refine r_lcmp_lt (tgt := 43) hx hb dX2_clock_17 dX2_clock_18 (by decide) (fun q2 => ?_) (fun q2 => ?_)
    · refine lv_bipush (v := (-2)) hx hb dX2_clock_43 (by decide) ?_
      exact W.iret (v := (-2)) hx hb hr (fun t ht hW => ⟨⟨_, (mkM np nc pe an up dn rw so mn wd wv, ad), rfl, by rw [opClock, if_neg q1, if_pos (by omega)], by (try dsimp only); rw [ht]; exact ⟨hX, xFr_same⟩⟩, hS.F ht⟩) hS.2.2 dX2_clock_45
    · refine lv_lload hx hb dX2_clock_21 (lv_at hl 4 rfl) ?_
      refine lv_ldc2 (v := lN 1000000) hx hb hown (hts _ tb_152) dX2_clock_23 ?_
      refine r_lcmp_gt (tgt := 43) hx hb dX2_clock_26 dX2_clock_27 (by decide) (fun q3 => ?_) (fun q3 => ?_)
      · refine lv_bipush (v := (-2)) hx hb dX2_clock_43 (by decide) ?_
        exact W.iret (v := (-2)) hx hb hr (fun t ht hW => ⟨⟨_, (mkM np nc pe an up dn rw so mn wd wv, ad), rfl, by rw [opClock, if_neg q1, if_pos (by omega)], by (try dsimp only); rw [ht]; exact ⟨hX, xFr_same⟩⟩, hS.F ht⟩) hS.2.2 dX2_clock_45
      · refine lv_lload_n hx hb dX2_clock_30 rfl (lv_at hl 3 rfl) ?_
        refine lv_lconst (v := lN 0) hx hb dX2_clock_31 rfl ?_
        refine r_lcmp_lt (tgt := 43) hx hb dX2_clock_32 dX2_clock_33 (by decide) (fun q4 => ?_) (fun q4 => ?_)
        · refine lv_bipush (v := (-2)) hx hb dX2_clock_43 (by decide) ?_
          exact W.iret (v := (-2)) hx hb hr (fun t ht hW => ⟨⟨_, (mkM np nc pe an up dn rw so mn wd wv, ad), rfl, by rw [opClock, if_neg q1, if_pos (by omega)], by (try dsimp only); rw [ht]; exact ⟨hX, xFr_same⟩⟩, hS.F ht⟩) hS.2.2 dX2_clock_45
        · refine lv_lload_n hx hb dX2_clock_36 rfl (lv_at hl 3 rfl) ?_
          refine lv_lload hx hb dX2_clock_37 (lv_at hl 4 rfl) ?_
          refine r_lcmp_lt (tgt := 46) hx hb dX2_clock_39 dX2_clock_40 (by decide) (fun q5 => ?_) (fun q5 => ?_)
          · obtain ⟨ed, hd9⟩ := lon_of (x := dd) (n := 1000000) (by omega) (by omega)
            obtain ⟨eu2, hu9⟩ := lon_of (x := uu) (n := 1000000) (by omega) (by omega)
            rw [ed, eu2] at hl
            have hok : ¬ (dd.toInt < 1 ∨ 1000000 < dd.toInt ∨ uu.toInt < 0 ∨ dd.toInt ≤ uu.toInt) := by omega
            have hP : va_P D vwCl [(ad 3 x.toInt.toNat, .inr (1, [.long (lN (pe x.toInt.toNat)), .long (lN (an x.toInt.toNat)), .long (lN (up x.toInt.toNat)), .long (lN (dn x.toInt.toNat))]))] s.heap := va_one (hX.pc h1 h2)
            have hD : va_D (fun z => (1 ≤ x.toInt.toNat ∧ x.toInt.toNat ≤ np) ∧ z = ad 3 x.toInt.toNat) [(ad 3 x.toInt.toNat, .inr (1, [.long (lN (pe x.toInt.toNat)), .long (lN (an x.toInt.toNat)), .long (lN (up x.toInt.toNat)), .long (lN (dn x.toInt.toNat))]))] := va_D_of (by simp) (by intro q hq; rw [List.mem_singleton.mp hq]; exact ⟨⟨h1, h2⟩, rfl⟩)
            refine lv_aload hx hb dX2_clock_46 (lv_at hl 0 rfl) ?_
            refine lv_lload_n hx hb dX2_clock_48 rfl (lv_at hl 3 rfl) ?_
            refine va_putN (D := D) (cl := vwCl) (ci := 1) (v := .long (lN (uu.toInt.toNat))) (ty := .long) (C := RX1) (T := TX1) (N := 4) hx hb hts inX1 tyX1 tyX1_ok nmX1 hown hK hP hD hS 0 rfl rfl 2 (by decide) (va_Nw.use rfl (hN _ tn_51 rfl)) (fun _ h9 => h9) rfl (by decide +kernel) rfl rfl (Nat.le_of_ble_eq_true rfl) dX2_clock_49 (fun H locs hP hD hS => ?_)
            have hP : va_P D vwCl [(ad 3 x.toInt.toNat, .inr (1, [.long (lN (pe x.toInt.toNat)), .long (lN (an x.toInt.toNat)), .long (lN (uu.toInt.toNat)), .long (lN (dn x.toInt.toNat))]))] H := hP
            have hD : va_D (fun z => (1 ≤ x.toInt.toNat ∧ x.toInt.toNat ≤ np) ∧ z = ad 3 x.toInt.toNat) [(ad 3 x.toInt.toNat, .inr (1, [.long (lN (pe x.toInt.toNat)), .long (lN (an x.toInt.toNat)), .long (lN (uu.toInt.toNat)), .long (lN (dn x.toInt.toNat))]))] := hD
            refine lv_aload hx hb dX2_clock_52 (lv_at hl 0 rfl) ?_
            refine lv_lload hx hb dX2_clock_54 (lv_at hl 4 rfl) ?_
            refine va_putN (D := D) (cl := vwCl) (ci := 1) (v := .long (lN (dd.toInt.toNat))) (ty := .long) (C := RX1) (T := TX1) (N := 4) hx hb hts inX1 tyX1 tyX1_ok nmX1 hown hK hP hD hS 0 rfl rfl 3 (by decide) (va_Nw.use rfl (hN _ tn_54 rfl)) (fun _ h9 => h9) rfl (by decide +kernel) rfl rfl (Nat.le_of_ble_eq_true rfl) dX2_clock_56 (fun H locs hP hD hS => ?_)
            have hP : va_P D vwCl [(ad 3 x.toInt.toNat, .inr (1, [.long (lN (pe x.toInt.toNat)), .long (lN (an x.toInt.toNat)), .long (lN (uu.toInt.toNat)), .long (lN (dd.toInt.toNat))]))] H := hP
            have hD : va_D (fun z => (1 ≤ x.toInt.toNat ∧ x.toInt.toNat ≤ np) ∧ z = ad 3 x.toInt.toNat) [(ad 3 x.toInt.toNat, .inr (1, [.long (lN (pe x.toInt.toNat)), .long (lN (an x.toInt.toNat)), .long (lN (uu.toInt.toNat)), .long (lN (dd.toInt.toNat))]))] := hD
            refine lv_aload hx hb dX2_clock_59 (lv_at hl 0 rfl) ?_
            have hX2 := hX.clock (H1 := H) h1 h2 (fun q hq hn => hS.2.1 q hq (fun e => hn e.2)) hP.fst
            refine vp_callSl (va_Run.run (va_runVN (As := []) (rest := []) ⟨hx, hb, hml, hown, hts⟩ (c_longPeriod l D ka H (ad 3 x.toInt.toNat) (pe x.toInt.toNat) (an x.toInt.toNat) uu.toInt.toNat dd.toInt.toNat hP.fst hpb.1 (by omega) (by omega)) (cw_VN 0 hts tb_127 rfl rfl (hN _ tn_153 rfl) tb_3 tb_126 ts_6 (by decide +kernel) ⟨Nat.le_of_ble_eq_true rfl, Nat.le_of_ble_eq_true rfl⟩) (ro_V (ci := 1) hK hN (hP.nth 0 rfl) rfl) rfl rfl hl.1 rfl (lv_room (Nat.le_of_ble_eq_true rfl)) dX2_clock_61 ⟨Nat.zero_le _, Nat.zero_le _⟩)) (fun r er => ?_)
            subst er
            refine n_l2i hx hb dX2_clock_64 ?_
            exact W.iret (v := nI (lgP (pe x.toInt.toNat) uu.toInt.toNat dd.toInt.toNat)) hx hb hr (fun t ht hW => ⟨⟨_, (mkM np nc pe an (va_up up x.toInt.toNat uu.toInt.toNat) (va_up dn x.toInt.toNat dd.toInt.toNat) rw so mn wd wv, ad), rfl, by rw [opClock, if_neg q1, if_neg hok], by (try dsimp only); rw [ht]; exact ⟨hX2, xFr_same⟩⟩, hS.F ht⟩) hS.2.2 dX2_clock_65
          · refine lv_bipush (v := (-2)) hx hb dX2_clock_43 (by decide) ?_
            exact W.iret (v := (-2)) hx hb hr (fun t ht hW => ⟨⟨_, (mkM np nc pe an up dn rw so mn wd wv, ad), rfl, by rw [opClock, if_neg q1, if_pos (by omega)], by (try dsimp only); rw [ht]; exact ⟨hX, xFr_same⟩⟩, hS.F ht⟩) hS.2.2 dX2_clock_45
set_option maxHeartbeats 4000000 in
set_option maxRecDepth 100000 in
theorem x_wish (l : Launch) (D : va_G) (ka : Nat → ClassId) (H0 : Heap) (ad : Nat → Nat → Nat) (np nc : Nat) (pe an up dn rw : Nat → Nat) (so : Nat → Bool) (mn : Nat → Nat) (wd : Nat → Bool) (wv : Nat → Int64) (x : Int32) (mi : Int64) (hX : XInv D ka ad np nc pe an up dn rw so mn wd wv H0) (hO : mOk np nc pe an up dn rw so mn wd wv) : Met l yX2_wish (.code yX2_wish cX2_wish 5 (some .int) :: gT) ({ frames := 5, cells := 0, slots := 0, locals := 107 }) (ro_Pc D vwCl (tyL ka) H0 [.ref (ad 0 0), .int x, .long mi]) (va_Qi (fun (r : Int32) (u : MSt × (Nat → Nat → Nat)) => (u.1, r) = opWish np nc pe an up dn rw so mn wd wv x mi) (fun (u : MSt × (Nat → Nat → Nat)) t => XIs D ka u.2 u.1 t.heap ∧ xFr ad np nc H0.size u) (fun z => (1 ≤ x.toInt.toNat ∧ x.toInt.toNat ≤ nc) ∧ z = ad 4 x.toInt.toNat)) 0 0 (fun z => (1 ≤ x.toInt.toNat ∧ x.toInt.toNat ≤ nc) ∧ z = ad 4 x.toInt.toNat) := by
  refine Met.ofW (cc := cX2_wish) (maxL := 5) (ret := (some .int)) (by decide) rfl ?_
  intro p e s m args below meth c s₁ B hml hv
  obtain ⟨rfl, hH, hK, hN⟩ := hv
  subst hH
  have hx := B.exec
  have hb := B.bytes
  have hr := B.returns
  have hts : ∀ w ∈ gT, w.before ([.ref (ad 0 0), .int x, .long mi] : List Value).toArray s = true := fun w h => atoms_spec (ws := (.code yX2_wish cX2_wish 5 (some .int) :: gT)) B.pre w (List.mem_cons_of_mem _ h)
  have hown : s.vm.findClass RX2 = some m.cls := findClass_of_methodNamed B.named
  have hlocks := B.notSynchronized
  have hl := lv_entry ([.ref (ad 0 0), .int x, .long mi]) (n := 5) (Nat.le_of_ble_eq_true rfl)
  rw [lg_entry_eq]
  generalize (lg_sl ([.ref (ad 0 0), .int x, .long mi]) ++ List.replicate (5 - (lg_sl ([.ref (ad 0 0), .int x, .long mi])).length) Slot.unset).toArray = ls at hl ⊢
  have hl : lv_has ls 5 [(0, .ref (ad 0 0)), (1, .int x), (2, .long mi)] := hl
  have hnp := hO.1
  have hnc := hO.2.1
  have hS : va_S (fun z => (1 ≤ x.toInt.toNat ∧ x.toInt.toNat ≤ nc) ∧ z = ad 4 x.toInt.toNat) s.heap s.heap [] := va_S.rf
  have z0 : (lN 0).toInt = 0 := by decide +kernel
  have zm : ((-1 : Int64)).toInt = -1 := by decide +kernel
  refine lv_aload_n hx hb dX2_wish_0 rfl (lv_at hl 0 rfl) ?_
  refine lv_iload_n hx hb dX2_wish_1 rfl (lv_at hl 1 rfl) ?_
  refine va_csq (va_Run.run (va_runV (As := [.int x]) (rest := []) ⟨hx, hb, hml, hown, hts⟩ (x_filledChain l D ka s.heap ad np nc pe an up dn rw so mn wd wv x hX hO) (cw_V 1 hts tb_118 rfl rfl tb_115 tb_1 tb_117 ts_4 (by decide +kernel) ⟨Nat.le_of_ble_eq_true rfl, Nat.le_of_ble_eq_true rfl⟩) (ro_V (ci := 2) hK hN hX.o rfl) rfl rfl hl.1 rfl (lv_room (Nat.le_of_ble_eq_true rfl)) dX2_wish_2 ⟨Nat.zero_le _, Nat.zero_le _⟩)) (fun r er => ?_)
  subst er
  by_cases q1 : spEmp nc mn x = true
  · rw [if_pos q1, show va_rf none = Value.null from rfl]
    refine lv_astoreN (lv' := [(4, .null), (0, .ref (ad 0 0)), (1, .int x), (2, .long mi)]) hx hb dX2_wish_5 hl (by decide) rfl (fun ls hl => ?_)
    refine lv_aloadN hx hb dX2_wish_7 (lv_at hl 0 rfl) ?_
    refine lv_ifnonnullN hx hb dX2_wish_9 ?_
    refine lv_iconst (v := (-1)) hx hb dX2_wish_12 (by decide) ?_
    exact W.iret (v := (-1)) hx hb hr (fun t ht hW => ⟨⟨_, (mkM np nc pe an up dn rw so mn wd wv, ad), rfl, by rw [opWish, if_pos q1], by (try dsimp only); rw [ht]; exact ⟨hX, xFr_same⟩⟩, hS.F ht⟩) hS.2.2 dX2_wish_13
  · rw [if_neg q1, show va_rf (some (ad 4 x.toInt.toNat)) = Value.ref (ad 4 x.toInt.toNat) from rfl]
    have q2 : spEmp nc mn x = false := by simpa using q1
    obtain ⟨ex, h1, h2, hn0⟩ := spEmp_f q2
    have hCh := hX.ch hO h1 h2
    have hmn := (hO.2.2.2.1 x.toInt.toNat h1 h2).1
    refine lv_astore (lv' := [(4, .ref (ad 4 x.toInt.toNat)), (0, .ref (ad 0 0)), (1, .int x), (2, .long mi)]) hx hb dX2_wish_5 hl (by decide) rfl (fun ls hl => ?_)
    refine lv_aload hx hb dX2_wish_7 (lv_at hl 0 rfl) ?_
    refine lv_ifnonnull (tgt := 14) hx hb dX2_wish_9 (by decide) ?_
    refine lv_lload_n hx hb dX2_wish_14 rfl (lv_at hl 3 rfl) ?_
    refine lv_lconst (v := lN 0) hx hb dX2_wish_15 rfl ?_
    refine r_lcmp_ge (tgt := 23) hx hb dX2_wish_16 dX2_wish_17 (by decide) (fun q4 => ?_) (fun q4 => ?_)
    · have hP : va_P D vwCl [(ad 4 x.toInt.toNat, .inr (0, [.ref (ad 5 x.toInt.toNat), .ref (ad 6 x.toInt.toNat), .int (nI (mn x.toInt.toNat)), .long (wiN wd wv x.toInt.toNat)]))] s.heap := va_one hCh.1
      have hD : va_D (fun z => (1 ≤ x.toInt.toNat ∧ x.toInt.toNat ≤ nc) ∧ z = ad 4 x.toInt.toNat) [(ad 4 x.toInt.toNat, .inr (0, [.ref (ad 5 x.toInt.toNat), .ref (ad 6 x.toInt.toNat), .int (nI (mn x.toInt.toNat)), .long (wiN wd wv x.toInt.toNat)]))] := va_D_of (by simp) (by intro q hq; rw [List.mem_singleton.mp hq]; exact ⟨⟨h1, h2⟩, rfl⟩)
      refine lv_aload hx hb dX2_wish_23 (lv_at hl 0 rfl) ?_
      refine lv_lload_n hx hb dX2_wish_25 rfl (lv_at hl 3 rfl) ?_
      refine va_putN (D := D) (cl := vwCl) (ci := 0) (v := .long mi) (ty := .long) (C := RX0) (T := TX0) (N := 4) hx hb hts inX0 tyX0 tyX0_ok nmX0 hown hK hP hD hS 0 rfl rfl 3 (by decide) (va_Nw.use rfl (hN _ tn_80 rfl)) (fun _ h9 => h9) rfl (by decide +kernel) rfl rfl (Nat.le_of_ble_eq_true rfl) dX2_wish_26 (fun H locs hP hD hS => ?_)
      have hP : va_P D vwCl [(ad 4 x.toInt.toNat, .inr (0, [.ref (ad 5 x.toInt.toNat), .ref (ad 6 x.toInt.toNat), .int (nI (mn x.toInt.toNat)), .long mi]))] H := hP
      have hD : va_D (fun z => (1 ≤ x.toInt.toNat ∧ x.toInt.toNat ≤ nc) ∧ z = ad 4 x.toInt.toNat) [(ad 4 x.toInt.toNat, .inr (0, [.ref (ad 5 x.toInt.toNat), .ref (ad 6 x.toInt.toNat), .int (nI (mn x.toInt.toNat)), .long mi]))] := hD
      refine lv_aload hx hb dX2_wish_29 (lv_at hl 0 rfl) ?_
      have hX2 := hX.wish (H1 := H) h1 h2 (fun q hq hn => hS.2.1 q hq (fun e => hn e.2)) hP.fst
      have hO2 := mOk_wish (mi := mi) hO h2 (by omega)
      have hCh2 := hX2.ch hO2 h1 h2
      have ewi : wiN (va_up wd x.toInt.toNat true) (va_up wv x.toInt.toNat mi) x.toInt.toNat = mi := by unfold wiN; rw [va_up_self, va_up_self, if_pos rfl]
      rw [ewi] at hCh2
      refine vp_callSi (va_Run.run (va_runVN (As := []) (rest := []) ⟨hx, hb, hml, hown, hts⟩ (c_keepsWish l D ka H (ad 4 x.toInt.toNat) (ad 5 x.toInt.toNat) (ad 6 x.toInt.toNat) (mn x.toInt.toNat) mi (fun k => ad 3 (rw (12 * x.toInt.toNat + k))) (qS so x.toInt.toNat) (qF pe rw x.toInt.toNat) (qF an rw x.toInt.toNat) (qF up rw x.toInt.toNat) (qF dn rw x.toInt.toNat) hCh2) (cw_VN 0 hts tb_161 rfl rfl (hN _ tn_158 rfl) tb_4 tb_160 ts_10 (by decide +kernel) ⟨Nat.le_of_ble_eq_true rfl, Nat.le_of_ble_eq_true rfl⟩) (ro_V (ci := 0) hK hN (hP.nth 0 rfl) rfl) rfl rfl hl.1 rfl (lv_room (Nat.le_of_ble_eq_true rfl)) dX2_wish_31 ⟨Nat.zero_le _, Nat.zero_le _⟩)) (fun r er => ?_)
      subst er
      have ekp : kpN mi (rea pe an up dn rw so mn x.toInt.toNat) = decide ((lN (rea pe an up dn rw so mn x.toInt.toNat)).toInt ≤ mi.toInt) := by unfold kpN; rw [decide_eq_false (by omega : ¬ mi.toInt = (-1 : Int64).toInt)]; rfl
      rw [ekp]
      refine b_if_eq (tgt := 41) hx hb dX2_wish_34 (by decide) (fun q5 => ?_) (fun q5 => ?_)
      · refine lv_iconst (v := nI 0) hx hb dX2_wish_41 (by decide) ?_
        exact W.iret (v := nI 0) hx hb hr (fun t ht hW => ⟨⟨_, (mkM np nc pe an up dn rw so mn (va_up wd x.toInt.toNat true) (va_up wv x.toInt.toNat mi), ad), rfl, by rw [opWish, if_neg q1, if_neg (by omega), q5]; rfl, by (try dsimp only); rw [ht]; exact ⟨hX2, xFr_same⟩⟩, hS.F ht⟩) hS.2.2 dX2_wish_42
      · refine lv_iconst (v := nI 1) hx hb dX2_wish_37 (by decide) ?_
        refine lv_goto (tgt := 42) hx hb dX2_wish_38 (by decide) ?_
        exact W.iret (v := nI 1) hx hb hr (fun t ht hW => ⟨⟨_, (mkM np nc pe an up dn rw so mn (va_up wd x.toInt.toNat true) (va_up wv x.toInt.toNat mi), ad), rfl, by rw [opWish, if_neg q1, if_neg (by omega), q5]; rfl, by (try dsimp only); rw [ht]; exact ⟨hX2, xFr_same⟩⟩, hS.F ht⟩) hS.2.2 dX2_wish_42
    · refine lv_bipush (v := (-2)) hx hb dX2_wish_20 (by decide) ?_
      exact W.iret (v := (-2)) hx hb hr (fun t ht hW => ⟨⟨_, (mkM np nc pe an up dn rw so mn wd wv, ad), rfl, by rw [opWish, if_neg q1, if_pos (by omega)], by (try dsimp only); rw [ht]; exact ⟨hX, xFr_same⟩⟩, hS.F ht⟩) hS.2.2 dX2_wish_22
set_option maxHeartbeats 4000000 in
set_option maxRecDepth 100000 in
theorem x_add (l : Launch) (D : va_G) (ka : Nat → ClassId) (H0 : Heap) (ad : Nat → Nat → Nat) (np nc : Nat) (pe an up dn rw : Nat → Nat) (so : Nat → Bool) (mn : Nat → Nat) (wd : Nat → Bool) (wv : Nat → Int64) (x y : Int32) (tr : Bool) (hX : XInv D ka ad np nc pe an up dn rw so mn wd wv H0) (hO : mOk np nc pe an up dn rw so mn wd wv) : Met l yX2_add (.code yX2_add cX2_add 7 (some .int) :: gT) ({ frames := 1, cells := 0, slots := 0, locals := 22 }) (ro_Pc D vwCl (tyL ka) H0 [.ref (ad 0 0), .int x, .int y, .int (bI tr)]) (va_Qi (fun (r : Int32) (u : MSt × (Nat → Nat → Nat)) => (u.1, r) = opAdd np nc pe an up dn rw so mn wd wv x y tr) (fun (u : MSt × (Nat → Nat → Nat)) t => XIs D ka u.2 u.1 t.heap ∧ xFr ad np nc H0.size u) (fun z => ((1 ≤ x.toInt.toNat ∧ x.toInt.toNat ≤ nc) ∧ (1 ≤ y.toInt.toNat ∧ y.toInt.toNat ≤ np)) ∧ (z = ad 4 x.toInt.toNat ∨ z = ad 5 x.toInt.toNat ∨ z = ad 6 x.toInt.toNat ∨ z = ad 3 y.toInt.toNat))) 0 0 (fun z => ((1 ≤ x.toInt.toNat ∧ x.toInt.toNat ≤ nc) ∧ (1 ≤ y.toInt.toNat ∧ y.toInt.toNat ≤ np)) ∧ (z = ad 4 x.toInt.toNat ∨ z = ad 5 x.toInt.toNat ∨ z = ad 6 x.toInt.toNat ∨ z = ad 3 y.toInt.toNat)) := by
  refine Met.ofW (cc := cX2_add) (maxL := 7) (ret := (some .int)) (by decide) rfl ?_
  intro p e s m args below meth c s₁ B hml hv
  obtain ⟨rfl, hH, hK, hN⟩ := hv
  subst hH
  have hx := B.exec
  have hb := B.bytes
  have hr := B.returns
  have hts : ∀ w ∈ gT, w.before ([.ref (ad 0 0), .int x, .int y, .int (bI tr)] : List Value).toArray s = true := fun w h => atoms_spec (ws := (.code yX2_add cX2_add 7 (some .int) :: gT)) B.pre w (List.mem_cons_of_mem _ h)
  have hown : s.vm.findClass RX2 = some m.cls := findClass_of_methodNamed B.named
  have hlocks := B.notSynchronized
  have hl := lv_entry ([.ref (ad 0 0), .int x, .int y, .int (bI tr)]) (n := 7) (Nat.le_of_ble_eq_true rfl)
  rw [lg_entry_eq]
  generalize (lg_sl ([.ref (ad 0 0), .int x, .int y, .int (bI tr)]) ++ List.replicate (7 - (lg_sl ([.ref (ad 0 0), .int x, .int y, .int (bI tr)])).length) Slot.unset).toArray = ls at hl ⊢
  have hl : lv_has ls 7 [(0, .ref (ad 0 0)), (1, .int x), (2, .int y), (3, .int (bI tr))] := hl
  have hnp := hO.1
  have hnc := hO.2.1
  have hS : va_S (fun z => ((1 ≤ x.toInt.toNat ∧ x.toInt.toNat ≤ nc) ∧ (1 ≤ y.toInt.toNat ∧ y.toInt.toNat ≤ np)) ∧ (z = ad 4 x.toInt.toNat ∨ z = ad 5 x.toInt.toNat ∨ z = ad 6 x.toInt.toNat ∨ z = ad 3 y.toInt.toNat)) s.heap s.heap [] := va_S.rf
  refine lv_aload_n hx hb dX2_add_0 rfl (lv_at hl 0 rfl) ?_
  refine lv_iload_n hx hb dX2_add_1 rfl (lv_at hl 1 rfl) ?_
  refine va_csq (va_Run.run (va_runV (As := [.int x]) (rest := []) ⟨hx, hb, hml, hown, hts⟩ (x_chainNumbered l D ka s.heap ad np nc pe an up dn rw so mn wd wv x hX hO) (cw_V 1 hts tb_98 rfl rfl tb_95 tb_1 tb_97 ts_0 (by decide +kernel) ⟨Nat.le_of_ble_eq_true rfl, Nat.le_of_ble_eq_true rfl⟩) (ro_V (ci := 2) hK hN hX.o rfl) rfl rfl hl.1 rfl (lv_room (Nat.le_of_ble_eq_true rfl)) dX2_add_2 ⟨Nat.zero_le _, Nat.zero_le _⟩)) (fun r er => ?_)
  subst er
  by_cases q1 : cNo x nc = true
  · rw [if_pos q1, show va_rf none = Value.null from rfl]
    refine lv_astoreN (lv' := [(4, .null), (0, .ref (ad 0 0)), (1, .int x), (2, .int y), (3, .int (bI tr))]) hx hb dX2_add_5 hl (by decide) rfl (fun ls hl => ?_)
    refine lv_aload_n hx hb dX2_add_7 rfl (lv_at hl 1 rfl) ?_
    refine lv_iload_n hx hb dX2_add_8 rfl (lv_at hl 3 rfl) ?_
    refine va_csq (va_Run.run (va_runV (As := [.int y]) (rest := []) ⟨hx, hb, hml, hown, hts⟩ (x_pieceNumbered l D ka s.heap ad np nc pe an up dn rw so mn wd wv y hX hO) (cw_V 1 hts tb_102 rfl rfl tb_99 tb_1 tb_101 ts_1 (by decide +kernel) ⟨Nat.le_of_ble_eq_true rfl, Nat.le_of_ble_eq_true rfl⟩) (ro_V (ci := 2) hK hN hX.o rfl) rfl rfl hl.1 rfl (lv_room (Nat.le_of_ble_eq_true rfl)) dX2_add_9 ⟨Nat.zero_le _, Nat.zero_le _⟩)) (fun r er => ?_)
    subst er
    by_cases q2 : cNo y np = true
    · rw [if_pos q2, show va_rf none = Value.null from rfl]
      refine lv_astoreN (lv' := [(5, .null), (4, .null), (0, .ref (ad 0 0)), (1, .int x), (2, .int y), (3, .int (bI tr))]) hx hb dX2_add_12 hl (by decide) rfl (fun ls hl => ?_)
      refine lv_aloadN hx hb dX2_add_14 (lv_at hl 1 rfl) ?_
      refine lv_ifnullN (tgt := 24) hx hb dX2_add_16 (by decide) ?_
      refine lv_iconst (v := (-1)) hx hb dX2_add_24 (by decide) ?_
      exact W.iret (v := (-1)) hx hb hr (fun t ht hW => ⟨⟨_, (mkM np nc pe an up dn rw so mn wd wv, ad), rfl, by rw [opAdd, if_pos (by rw [q1]; rfl)], by (try dsimp only); rw [ht]; exact ⟨hX, xFr_same⟩⟩, hS.F ht⟩) hS.2.2 dX2_add_25
    · rw [if_neg q2, show va_rf (some (ad 3 y.toInt.toNat)) = Value.ref (ad 3 y.toInt.toNat) from rfl]
      refine lv_astore (lv' := [(5, .ref (ad 3 y.toInt.toNat)), (4, .null), (0, .ref (ad 0 0)), (1, .int x), (2, .int y), (3, .int (bI tr))]) hx hb dX2_add_12 hl (by decide) rfl (fun ls hl => ?_)
      refine lv_aloadN hx hb dX2_add_14 (lv_at hl 1 rfl) ?_
      refine lv_ifnullN (tgt := 24) hx hb dX2_add_16 (by decide) ?_
      refine lv_iconst (v := (-1)) hx hb dX2_add_24 (by decide) ?_
      exact W.iret (v := (-1)) hx hb hr (fun t ht hW => ⟨⟨_, (mkM np nc pe an up dn rw so mn wd wv, ad), rfl, by rw [opAdd, if_pos (by rw [q1]; rfl)], by (try dsimp only); rw [ht]; exact ⟨hX, xFr_same⟩⟩, hS.F ht⟩) hS.2.2 dX2_add_25
  · rw [if_neg q1, show va_rf (some (ad 4 x.toInt.toNat)) = Value.ref (ad 4 x.toInt.toNat) from rfl]
    refine lv_astore (lv' := [(4, .ref (ad 4 x.toInt.toNat)), (0, .ref (ad 0 0)), (1, .int x), (2, .int y), (3, .int (bI tr))]) hx hb dX2_add_5 hl (by decide) rfl (fun ls hl => ?_)
    refine lv_aload_n hx hb dX2_add_7 rfl (lv_at hl 1 rfl) ?_
    refine lv_iload_n hx hb dX2_add_8 rfl (lv_at hl 3 rfl) ?_
    refine va_csq (va_Run.run (va_runV (As := [.int y]) (rest := []) ⟨hx, hb, hml, hown, hts⟩ (x_pieceNumbered l D ka s.heap ad np nc pe an up dn rw so mn wd wv y hX hO) (cw_V 1 hts tb_102 rfl rfl tb_99 tb_1 tb_101 ts_1 (by decide +kernel) ⟨Nat.le_of_ble_eq_true rfl, Nat.le_of_ble_eq_true rfl⟩) (ro_V (ci := 2) hK hN hX.o rfl) rfl rfl hl.1 rfl (lv_room (Nat.le_of_ble_eq_true rfl)) dX2_add_9 ⟨Nat.zero_le _, Nat.zero_le _⟩)) (fun r er => ?_)
    subst er
    by_cases q2 : cNo y np = true
    · rw [if_pos q2, show va_rf none = Value.null from rfl]
      refine lv_astoreN (lv' := [(5, .null), (4, .ref (ad 4 x.toInt.toNat)), (0, .ref (ad 0 0)), (1, .int x), (2, .int y), (3, .int (bI tr))]) hx hb dX2_add_12 hl (by decide) rfl (fun ls hl => ?_)
      refine lv_aload hx hb dX2_add_14 (lv_at hl 1 rfl) ?_
      refine lv_ifnull hx hb dX2_add_16 ?_
      refine lv_aloadN hx hb dX2_add_19 (lv_at hl 0 rfl) ?_
      refine lv_ifnonnullN hx hb dX2_add_21 ?_
      refine lv_iconst (v := (-1)) hx hb dX2_add_24 (by decide) ?_
      exact W.iret (v := (-1)) hx hb hr (fun t ht hW => ⟨⟨_, (mkM np nc pe an up dn rw so mn wd wv, ad), rfl, by rw [opAdd, if_pos (by rw [q2, Bool.or_true])], by (try dsimp only); rw [ht]; exact ⟨hX, xFr_same⟩⟩, hS.F ht⟩) hS.2.2 dX2_add_25
    · rw [if_neg q2, show va_rf (some (ad 3 y.toInt.toNat)) = Value.ref (ad 3 y.toInt.toNat) from rfl]
      refine lv_astore (lv' := [(5, .ref (ad 3 y.toInt.toNat)), (4, .ref (ad 4 x.toInt.toNat)), (0, .ref (ad 0 0)), (1, .int x), (2, .int y), (3, .int (bI tr))]) hx hb dX2_add_12 hl (by decide) rfl (fun ls hl => ?_)
      refine lv_aload hx hb dX2_add_14 (lv_at hl 1 rfl) ?_
      have p1 : cNo x nc = false := by simpa using q1
      have p2 : cNo y np = false := by simpa using q2
      have hno : ¬ (cNo x nc || cNo y np) = true := by rw [p1, p2]; decide
      obtain ⟨ex, h1, h2⟩ := cNo_nI p1
      obtain ⟨ey, y1, y2⟩ := cNo_nI p2
      have hCh := hX.ch hO h1 h2
      have hmn := (hO.2.2.2.1 x.toInt.toNat h1 h2).1
      have hpb := hO.2.2.1 y.toInt.toNat y1 y2
      refine lv_ifnull hx hb dX2_add_16 ?_
      refine lv_aload hx hb dX2_add_19 (lv_at hl 0 rfl) ?_
      refine lv_ifnonnull (tgt := 26) hx hb dX2_add_21 (by decide) ?_
      refine lv_iload_n hx hb dX2_add_26 rfl (lv_at hl 5 rfl) ?_
      refine b_if_eq (tgt := 38) hx hb dX2_add_27 (by decide) (fun q3 => ?_) (fun q3 => ?_)
      · have hsm : (mn x.toInt.toNat == 0 || !tr) = true := by rw [q3]; exact Bool.or_true _
        refine lv_iconst (v := nI 1) hx hb dX2_add_38 (by decide) ?_
        refine lv_goto (tgt := 43) hx hb dX2_add_39 (by decide) ?_
        refine lv_istore (lv' := [(6, .int (nI 1)), (5, .ref (ad 3 y.toInt.toNat)), (4, .ref (ad 4 x.toInt.toNat)), (0, .ref (ad 0 0)), (1, .int x), (2, .int y), (3, .int (bI tr))]) hx hb dX2_add_43 hl (by decide) rfl (fun ls hl => ?_)
        have eb : nI 1 = bI true := rfl
        rw [eb] at hl
        refine lv_iload hx hb dX2_add_45 (lv_at hl 0 rfl) ?_
        refine b_if_eq (tgt := 63) hx hb dX2_add_47 (by decide) (fun hc7 => ?_) (fun hc7 => ?_)
        · exact Bool.noConfusion hc7
        · refine lv_aload hx hb dX2_add_50 (lv_at hl 1 rfl) ?_
          refine g_getN (cl := vwCl) (ci := 1) (v := .long (lN (pe y.toInt.toNat))) hx hb hts inX1 hown hK (hX.pc y1 y2) rfl 0 (by decide) (va_Nw.use rfl (hN _ tn_46 rfl)) rfl dX2_add_52 ?_
          refine lv_lconst (v := lN 0) hx hb dX2_add_55 rfl ?_
          refine n_lcmp_ne (tgt := 63) hx hb (by omega) (by omega) dX2_add_56 dX2_add_57 (by decide) (fun q6 => ?_) (fun q6 => ?_)
          · have hno3 : ¬ ((mn x.toInt.toNat == 0 || !tr) && pe y.toInt.toNat == 0) = true := by rw [hsm, show (pe y.toInt.toNat == 0) = false from beq_eq_false_iff_ne.mpr q6]; decide
            refine lv_aload hx hb dX2_add_63 (lv_at hl 2 rfl) ?_
            refine g_getN (cl := vwCl) (ci := 0) (v := .int (nI (mn x.toInt.toNat))) hx hb hts inX0 hown hK hCh.1 rfl 2 (by decide) (va_Nw.use rfl (hN _ tn_78 rfl)) rfl dX2_add_65 ?_
            refine lv_bipush (v := nI 12) hx hb dX2_add_68 (by decide) ?_
            refine n_icmp_lt (tgt := 76) hx hb (by omega) (by omega) dX2_add_70 (by decide) (fun q7 => ?_) (fun q7 => ?_)
            · have hlt : mn x.toInt.toNat < 12 := by omega
              have hhe := holds_eq hX hO h1 h2 y1 y2
              refine lv_aload hx hb dX2_add_76 (lv_at hl 2 rfl) ?_
              refine lv_aload hx hb dX2_add_78 (lv_at hl 1 rfl) ?_
              refine vp_callSi (va_Run.run (va_runVN (As := [.ref (ad 3 y.toInt.toNat)]) (rest := []) ⟨hx, hb, hml, hown, hts⟩ (c_holds l D ka s.heap (ad 4 x.toInt.toNat) (ad 5 x.toInt.toNat) (ad 6 x.toInt.toNat) (mn x.toInt.toNat) (wiN wd wv x.toInt.toNat) (fun k => ad 3 (rw (12 * x.toInt.toNat + k))) (qS so x.toInt.toNat) (qF pe rw x.toInt.toNat) (qF an rw x.toInt.toNat) (qF up rw x.toInt.toNat) (qF dn rw x.toInt.toNat) (ad 3 y.toInt.toNat) hCh) (cw_VN 1 hts tb_106 rfl rfl (hN _ tn_103 rfl) tb_4 tb_105 ts_2 (by decide +kernel) ⟨Nat.le_of_ble_eq_true rfl, Nat.le_of_ble_eq_true rfl⟩) (ro_V (ci := 0) hK hN hCh.1 rfl) rfl rfl hl.1 rfl (lv_room (Nat.le_of_ble_eq_true rfl)) dX2_add_80 ⟨Nat.zero_le _, Nat.zero_le _⟩)) (fun r er => ?_)
              subst er
              rw [hhe]
              refine b_if_eq (tgt := 88) hx hb dX2_add_83 (by decide) (fun q8 => ?_) (fun q8 => ?_)
              · refine lv_aload hx hb dX2_add_88 (lv_at hl 2 rfl) ?_
                refine lv_aload hx hb dX2_add_90 (lv_at hl 1 rfl) ?_
                refine lv_iload hx hb dX2_add_92 (lv_at hl 0 rfl) ?_
                have e45 : ad 4 x.toInt.toNat ≠ ad 5 x.toInt.toNat := fun e => absurd (hX.2 _ _ _ _ (vl_4 h1 h2) (vl_5 h1 h2) e).1 (by decide)
                have e46 : ad 4 x.toInt.toNat ≠ ad 6 x.toInt.toNat := fun e => absurd (hX.2 _ _ _ _ (vl_4 h1 h2) (vl_6 h1 h2) e).1 (by decide)
                have e56 : ad 5 x.toInt.toNat ≠ ad 6 x.toInt.toNat := fun e => absurd (hX.2 _ _ _ _ (vl_5 h1 h2) (vl_6 h1 h2) e).1 (by decide)
                have e43 : ad 4 x.toInt.toNat ≠ ad 3 y.toInt.toNat := fun e => absurd (hX.2 _ _ _ _ (vl_4 h1 h2) (vl_3 y1 y2) e).1 (by decide)
                have e53 : ad 5 x.toInt.toNat ≠ ad 3 y.toInt.toNat := fun e => absurd (hX.2 _ _ _ _ (vl_5 h1 h2) (vl_3 y1 y2) e).1 (by decide)
                have e63 : ad 6 x.toInt.toNat ≠ ad 3 y.toInt.toNat := fun e => absurd (hX.2 _ _ _ _ (vl_6 h1 h2) (vl_3 y1 y2) e).1 (by decide)
                refine va_callv (va_runVN (As := [.ref (ad 3 y.toInt.toNat), .int (bI true)]) (rest := []) ⟨hx, hb, hml, hown, hts⟩ (k_append l D ka s.heap (ad 4 x.toInt.toNat) (ad 5 x.toInt.toNat) (ad 6 x.toInt.toNat) (mn x.toInt.toNat) (ad 3 y.toInt.toNat) (pe y.toInt.toNat) (an y.toInt.toNat) (up y.toInt.toNat) (dn y.toInt.toNat) (wiN wd wv x.toInt.toNat) (fun j => if j < mn x.toInt.toNat then some (ad 3 (rw (12 * x.toInt.toNat + j))) else none) (fun j => if j < mn x.toInt.toNat then bI (!so (12 * x.toInt.toNat + j)) else 0) true hCh.1 hCh.2.1 hCh.2.2.1 (hX.pc y1 y2) e45 e46 e43 e56 e53 e63 hlt) (cw_VN 2 hts tb_110 rfl rfl (hN _ tn_107 rfl) tb_4 tb_109 ts_3 (by decide +kernel) ⟨Nat.le_of_ble_eq_true rfl, Nat.le_of_ble_eq_true rfl⟩) (ro_V (ci := 0) hK hN hCh.1 rfl) rfl rfl hl.1 rfl (lv_room (Nat.le_of_ble_eq_true rfl)) dX2_add_94 ⟨Nat.le_of_ble_eq_true rfl, Nat.le_of_ble_eq_true rfl⟩) hS (fun z _ h9 => ⟨⟨⟨h1, h2⟩, y1, y2⟩, h9⟩) (fun z h9 => ⟨⟨⟨h1, h2⟩, y1, y2⟩, h9⟩) (fun u t H1 locs ht hvm hw hB hz1 hk1 hS => ?_)
                (try dsimp only at hB)
                rw [ht] at hB
                have hX2 := hX.add (H1 := H1) (b := !(mn x.toInt.toNat == 0 || !tr)) h1 h2 y1 y2 hlt (fun j j1 j2 => (hO.2.2.2.1 j j1 j2).1) hk1 hB.1 hB.2.1 (by rw [Bool.not_not, hsm]; exact hB.2.2.1) hB.2.2.2
                refine lv_iconst (v := nI 1) hx hb dX2_add_97 (by decide) ?_
                exact W.iret (v := nI 1) hx hb hr (fun t ht hW => ⟨⟨_, (mkM np nc pe an up dn (va_up rw (12 * x.toInt.toNat + mn x.toInt.toNat) y.toInt.toNat) (va_up so (12 * x.toInt.toNat + mn x.toInt.toNat) (!(mn x.toInt.toNat == 0 || !tr))) (va_up mn x.toInt.toNat (mn x.toInt.toNat + 1)) wd wv, ad), rfl, by rw [opAdd, if_neg hno, if_neg hno3, if_neg (by omega), if_neg (by rw [q8]; decide)], by (try dsimp only); rw [ht]; exact ⟨hX2, xFr_same⟩⟩, hS.F ht⟩) hS.2.2 dX2_add_98
              · refine lv_iconst (v := nI 0) hx hb dX2_add_86 (by decide) ?_
                exact W.iret (v := nI 0) hx hb hr (fun t ht hW => ⟨⟨_, (mkM np nc pe an up dn rw so mn wd wv, ad), rfl, by rw [opAdd, if_neg hno, if_neg hno3, if_neg (by omega), if_pos q8], by (try dsimp only); rw [ht]; exact ⟨hX, xFr_same⟩⟩, hS.F ht⟩) hS.2.2 dX2_add_87
            · refine lv_bipush (v := (-4)) hx hb dX2_add_73 (by decide) ?_
              exact W.iret (v := (-4)) hx hb hr (fun t ht hW => ⟨⟨_, (mkM np nc pe an up dn rw so mn wd wv, ad), rfl, by rw [opAdd, if_neg hno, if_neg hno3, if_pos (by omega)], by (try dsimp only); rw [ht]; exact ⟨hX, xFr_same⟩⟩, hS.F ht⟩) hS.2.2 dX2_add_75
          · refine lv_bipush (v := (-3)) hx hb dX2_add_60 (by decide) ?_
            exact W.iret (v := (-3)) hx hb hr (fun t ht hW => ⟨⟨_, (mkM np nc pe an up dn rw so mn wd wv, ad), rfl, by rw [opAdd, if_neg hno, if_pos (by rw [hsm, show (pe y.toInt.toNat == 0) = true from beq_iff_eq.mpr q6]; rfl)], by (try dsimp only); rw [ht]; exact ⟨hX, xFr_same⟩⟩, hS.F ht⟩) hS.2.2 dX2_add_62
      · refine lv_aload hx hb dX2_add_30 (lv_at hl 1 rfl) ?_
        refine g_getN (cl := vwCl) (ci := 0) (v := .int (nI (mn x.toInt.toNat))) hx hb hts inX0 hown hK hCh.1 rfl 2 (by decide) (va_Nw.use rfl (hN _ tn_78 rfl)) rfl dX2_add_32 ?_
        refine n_if_ne (tgt := 42) hx hb (by omega) dX2_add_35 (by decide) (fun q4 => ?_) (fun q4 => ?_)
        · have hsm : (mn x.toInt.toNat == 0 || !tr) = false := by rw [show (mn x.toInt.toNat == 0) = false from beq_eq_false_iff_ne.mpr q4, q3]; rfl
          refine lv_iconst (v := nI 0) hx hb dX2_add_42 (by decide) ?_
          refine lv_istore (lv' := [(6, .int (nI 0)), (5, .ref (ad 3 y.toInt.toNat)), (4, .ref (ad 4 x.toInt.toNat)), (0, .ref (ad 0 0)), (1, .int x), (2, .int y), (3, .int (bI tr))]) hx hb dX2_add_43 hl (by decide) rfl (fun ls hl => ?_)
          have eb : nI 0 = bI false := rfl
          rw [eb] at hl
          refine lv_iload hx hb dX2_add_45 (lv_at hl 0 rfl) ?_
          refine b_if_eq (tgt := 63) hx hb dX2_add_47 (by decide) (fun hc7 => ?_) (fun hc7 => ?_)
          · have hno3 : ¬ ((mn x.toInt.toNat == 0 || !tr) && pe y.toInt.toNat == 0) = true := by rw [hsm]; simp
            refine lv_aload hx hb dX2_add_63 (lv_at hl 2 rfl) ?_
            refine g_getN (cl := vwCl) (ci := 0) (v := .int (nI (mn x.toInt.toNat))) hx hb hts inX0 hown hK hCh.1 rfl 2 (by decide) (va_Nw.use rfl (hN _ tn_78 rfl)) rfl dX2_add_65 ?_
            refine lv_bipush (v := nI 12) hx hb dX2_add_68 (by decide) ?_
            refine n_icmp_lt (tgt := 76) hx hb (by omega) (by omega) dX2_add_70 (by decide) (fun q7 => ?_) (fun q7 => ?_)
            · have hlt : mn x.toInt.toNat < 12 := by omega
              have hhe := holds_eq hX hO h1 h2 y1 y2
              refine lv_aload hx hb dX2_add_76 (lv_at hl 2 rfl) ?_
              refine lv_aload hx hb dX2_add_78 (lv_at hl 1 rfl) ?_
              refine vp_callSi (va_Run.run (va_runVN (As := [.ref (ad 3 y.toInt.toNat)]) (rest := []) ⟨hx, hb, hml, hown, hts⟩ (c_holds l D ka s.heap (ad 4 x.toInt.toNat) (ad 5 x.toInt.toNat) (ad 6 x.toInt.toNat) (mn x.toInt.toNat) (wiN wd wv x.toInt.toNat) (fun k => ad 3 (rw (12 * x.toInt.toNat + k))) (qS so x.toInt.toNat) (qF pe rw x.toInt.toNat) (qF an rw x.toInt.toNat) (qF up rw x.toInt.toNat) (qF dn rw x.toInt.toNat) (ad 3 y.toInt.toNat) hCh) (cw_VN 1 hts tb_106 rfl rfl (hN _ tn_103 rfl) tb_4 tb_105 ts_2 (by decide +kernel) ⟨Nat.le_of_ble_eq_true rfl, Nat.le_of_ble_eq_true rfl⟩) (ro_V (ci := 0) hK hN hCh.1 rfl) rfl rfl hl.1 rfl (lv_room (Nat.le_of_ble_eq_true rfl)) dX2_add_80 ⟨Nat.zero_le _, Nat.zero_le _⟩)) (fun r er => ?_)
              subst er
              rw [hhe]
              refine b_if_eq (tgt := 88) hx hb dX2_add_83 (by decide) (fun q8 => ?_) (fun q8 => ?_)
              · refine lv_aload hx hb dX2_add_88 (lv_at hl 2 rfl) ?_
                refine lv_aload hx hb dX2_add_90 (lv_at hl 1 rfl) ?_
                refine lv_iload hx hb dX2_add_92 (lv_at hl 0 rfl) ?_
                have e45 : ad 4 x.toInt.toNat ≠ ad 5 x.toInt.toNat := fun e => absurd (hX.2 _ _ _ _ (vl_4 h1 h2) (vl_5 h1 h2) e).1 (by decide)
                have e46 : ad 4 x.toInt.toNat ≠ ad 6 x.toInt.toNat := fun e => absurd (hX.2 _ _ _ _ (vl_4 h1 h2) (vl_6 h1 h2) e).1 (by decide)
                have e56 : ad 5 x.toInt.toNat ≠ ad 6 x.toInt.toNat := fun e => absurd (hX.2 _ _ _ _ (vl_5 h1 h2) (vl_6 h1 h2) e).1 (by decide)
                have e43 : ad 4 x.toInt.toNat ≠ ad 3 y.toInt.toNat := fun e => absurd (hX.2 _ _ _ _ (vl_4 h1 h2) (vl_3 y1 y2) e).1 (by decide)
                have e53 : ad 5 x.toInt.toNat ≠ ad 3 y.toInt.toNat := fun e => absurd (hX.2 _ _ _ _ (vl_5 h1 h2) (vl_3 y1 y2) e).1 (by decide)
                have e63 : ad 6 x.toInt.toNat ≠ ad 3 y.toInt.toNat := fun e => absurd (hX.2 _ _ _ _ (vl_6 h1 h2) (vl_3 y1 y2) e).1 (by decide)
                refine va_callv (va_runVN (As := [.ref (ad 3 y.toInt.toNat), .int (bI false)]) (rest := []) ⟨hx, hb, hml, hown, hts⟩ (k_append l D ka s.heap (ad 4 x.toInt.toNat) (ad 5 x.toInt.toNat) (ad 6 x.toInt.toNat) (mn x.toInt.toNat) (ad 3 y.toInt.toNat) (pe y.toInt.toNat) (an y.toInt.toNat) (up y.toInt.toNat) (dn y.toInt.toNat) (wiN wd wv x.toInt.toNat) (fun j => if j < mn x.toInt.toNat then some (ad 3 (rw (12 * x.toInt.toNat + j))) else none) (fun j => if j < mn x.toInt.toNat then bI (!so (12 * x.toInt.toNat + j)) else 0) false hCh.1 hCh.2.1 hCh.2.2.1 (hX.pc y1 y2) e45 e46 e43 e56 e53 e63 hlt) (cw_VN 2 hts tb_110 rfl rfl (hN _ tn_107 rfl) tb_4 tb_109 ts_3 (by decide +kernel) ⟨Nat.le_of_ble_eq_true rfl, Nat.le_of_ble_eq_true rfl⟩) (ro_V (ci := 0) hK hN hCh.1 rfl) rfl rfl hl.1 rfl (lv_room (Nat.le_of_ble_eq_true rfl)) dX2_add_94 ⟨Nat.le_of_ble_eq_true rfl, Nat.le_of_ble_eq_true rfl⟩) hS (fun z _ h9 => ⟨⟨⟨h1, h2⟩, y1, y2⟩, h9⟩) (fun z h9 => ⟨⟨⟨h1, h2⟩, y1, y2⟩, h9⟩) (fun u t H1 locs ht hvm hw hB hz1 hk1 hS => ?_)
                (try dsimp only at hB)
                rw [ht] at hB
                have hX2 := hX.add (H1 := H1) (b := !(mn x.toInt.toNat == 0 || !tr)) h1 h2 y1 y2 hlt (fun j j1 j2 => (hO.2.2.2.1 j j1 j2).1) hk1 hB.1 hB.2.1 (by rw [Bool.not_not, hsm]; exact hB.2.2.1) hB.2.2.2
                refine lv_iconst (v := nI 1) hx hb dX2_add_97 (by decide) ?_
                exact W.iret (v := nI 1) hx hb hr (fun t ht hW => ⟨⟨_, (mkM np nc pe an up dn (va_up rw (12 * x.toInt.toNat + mn x.toInt.toNat) y.toInt.toNat) (va_up so (12 * x.toInt.toNat + mn x.toInt.toNat) (!(mn x.toInt.toNat == 0 || !tr))) (va_up mn x.toInt.toNat (mn x.toInt.toNat + 1)) wd wv, ad), rfl, by rw [opAdd, if_neg hno, if_neg hno3, if_neg (by omega), if_neg (by rw [q8]; decide)], by (try dsimp only); rw [ht]; exact ⟨hX2, xFr_same⟩⟩, hS.F ht⟩) hS.2.2 dX2_add_98
              · refine lv_iconst (v := nI 0) hx hb dX2_add_86 (by decide) ?_
                exact W.iret (v := nI 0) hx hb hr (fun t ht hW => ⟨⟨_, (mkM np nc pe an up dn rw so mn wd wv, ad), rfl, by rw [opAdd, if_neg hno, if_neg hno3, if_neg (by omega), if_pos q8], by (try dsimp only); rw [ht]; exact ⟨hX, xFr_same⟩⟩, hS.F ht⟩) hS.2.2 dX2_add_87
            · refine lv_bipush (v := (-4)) hx hb dX2_add_73 (by decide) ?_
              exact W.iret (v := (-4)) hx hb hr (fun t ht hW => ⟨⟨_, (mkM np nc pe an up dn rw so mn wd wv, ad), rfl, by rw [opAdd, if_neg hno, if_neg hno3, if_pos (by omega)], by (try dsimp only); rw [ht]; exact ⟨hX, xFr_same⟩⟩, hS.F ht⟩) hS.2.2 dX2_add_75
          · exact Bool.noConfusion hc7
        · have hsm : (mn x.toInt.toNat == 0 || !tr) = true := by rw [show (mn x.toInt.toNat == 0) = true from beq_iff_eq.mpr q4]; rfl
          refine lv_iconst (v := nI 1) hx hb dX2_add_38 (by decide) ?_
          refine lv_goto (tgt := 43) hx hb dX2_add_39 (by decide) ?_
          refine lv_istore (lv' := [(6, .int (nI 1)), (5, .ref (ad 3 y.toInt.toNat)), (4, .ref (ad 4 x.toInt.toNat)), (0, .ref (ad 0 0)), (1, .int x), (2, .int y), (3, .int (bI tr))]) hx hb dX2_add_43 hl (by decide) rfl (fun ls hl => ?_)
          have eb : nI 1 = bI true := rfl
          rw [eb] at hl
          refine lv_iload hx hb dX2_add_45 (lv_at hl 0 rfl) ?_
          refine b_if_eq (tgt := 63) hx hb dX2_add_47 (by decide) (fun hc7 => ?_) (fun hc7 => ?_)
          · exact Bool.noConfusion hc7
          · refine lv_aload hx hb dX2_add_50 (lv_at hl 1 rfl) ?_
            refine g_getN (cl := vwCl) (ci := 1) (v := .long (lN (pe y.toInt.toNat))) hx hb hts inX1 hown hK (hX.pc y1 y2) rfl 0 (by decide) (va_Nw.use rfl (hN _ tn_46 rfl)) rfl dX2_add_52 ?_
            refine lv_lconst (v := lN 0) hx hb dX2_add_55 rfl ?_
            refine n_lcmp_ne (tgt := 63) hx hb (by omega) (by omega) dX2_add_56 dX2_add_57 (by decide) (fun q6 => ?_) (fun q6 => ?_)
            · have hno3 : ¬ ((mn x.toInt.toNat == 0 || !tr) && pe y.toInt.toNat == 0) = true := by rw [hsm, show (pe y.toInt.toNat == 0) = false from beq_eq_false_iff_ne.mpr q6]; decide
              refine lv_aload hx hb dX2_add_63 (lv_at hl 2 rfl) ?_
              refine g_getN (cl := vwCl) (ci := 0) (v := .int (nI (mn x.toInt.toNat))) hx hb hts inX0 hown hK hCh.1 rfl 2 (by decide) (va_Nw.use rfl (hN _ tn_78 rfl)) rfl dX2_add_65 ?_
              refine lv_bipush (v := nI 12) hx hb dX2_add_68 (by decide) ?_
              refine n_icmp_lt (tgt := 76) hx hb (by omega) (by omega) dX2_add_70 (by decide) (fun q7 => ?_) (fun q7 => ?_)
              · have hlt : mn x.toInt.toNat < 12 := by omega
                have hhe := holds_eq hX hO h1 h2 y1 y2
                refine lv_aload hx hb dX2_add_76 (lv_at hl 2 rfl) ?_
                refine lv_aload hx hb dX2_add_78 (lv_at hl 1 rfl) ?_
                refine vp_callSi (va_Run.run (va_runVN (As := [.ref (ad 3 y.toInt.toNat)]) (rest := []) ⟨hx, hb, hml, hown, hts⟩ (c_holds l D ka s.heap (ad 4 x.toInt.toNat) (ad 5 x.toInt.toNat) (ad 6 x.toInt.toNat) (mn x.toInt.toNat) (wiN wd wv x.toInt.toNat) (fun k => ad 3 (rw (12 * x.toInt.toNat + k))) (qS so x.toInt.toNat) (qF pe rw x.toInt.toNat) (qF an rw x.toInt.toNat) (qF up rw x.toInt.toNat) (qF dn rw x.toInt.toNat) (ad 3 y.toInt.toNat) hCh) (cw_VN 1 hts tb_106 rfl rfl (hN _ tn_103 rfl) tb_4 tb_105 ts_2 (by decide +kernel) ⟨Nat.le_of_ble_eq_true rfl, Nat.le_of_ble_eq_true rfl⟩) (ro_V (ci := 0) hK hN hCh.1 rfl) rfl rfl hl.1 rfl (lv_room (Nat.le_of_ble_eq_true rfl)) dX2_add_80 ⟨Nat.zero_le _, Nat.zero_le _⟩)) (fun r er => ?_)
                subst er
                rw [hhe]
                refine b_if_eq (tgt := 88) hx hb dX2_add_83 (by decide) (fun q8 => ?_) (fun q8 => ?_)
                · refine lv_aload hx hb dX2_add_88 (lv_at hl 2 rfl) ?_
                  refine lv_aload hx hb dX2_add_90 (lv_at hl 1 rfl) ?_
                  refine lv_iload hx hb dX2_add_92 (lv_at hl 0 rfl) ?_
                  have e45 : ad 4 x.toInt.toNat ≠ ad 5 x.toInt.toNat := fun e => absurd (hX.2 _ _ _ _ (vl_4 h1 h2) (vl_5 h1 h2) e).1 (by decide)
                  have e46 : ad 4 x.toInt.toNat ≠ ad 6 x.toInt.toNat := fun e => absurd (hX.2 _ _ _ _ (vl_4 h1 h2) (vl_6 h1 h2) e).1 (by decide)
                  have e56 : ad 5 x.toInt.toNat ≠ ad 6 x.toInt.toNat := fun e => absurd (hX.2 _ _ _ _ (vl_5 h1 h2) (vl_6 h1 h2) e).1 (by decide)
                  have e43 : ad 4 x.toInt.toNat ≠ ad 3 y.toInt.toNat := fun e => absurd (hX.2 _ _ _ _ (vl_4 h1 h2) (vl_3 y1 y2) e).1 (by decide)
                  have e53 : ad 5 x.toInt.toNat ≠ ad 3 y.toInt.toNat := fun e => absurd (hX.2 _ _ _ _ (vl_5 h1 h2) (vl_3 y1 y2) e).1 (by decide)
                  have e63 : ad 6 x.toInt.toNat ≠ ad 3 y.toInt.toNat := fun e => absurd (hX.2 _ _ _ _ (vl_6 h1 h2) (vl_3 y1 y2) e).1 (by decide)
                  refine va_callv (va_runVN (As := [.ref (ad 3 y.toInt.toNat), .int (bI true)]) (rest := []) ⟨hx, hb, hml, hown, hts⟩ (k_append l D ka s.heap (ad 4 x.toInt.toNat) (ad 5 x.toInt.toNat) (ad 6 x.toInt.toNat) (mn x.toInt.toNat) (ad 3 y.toInt.toNat) (pe y.toInt.toNat) (an y.toInt.toNat) (up y.toInt.toNat) (dn y.toInt.toNat) (wiN wd wv x.toInt.toNat) (fun j => if j < mn x.toInt.toNat then some (ad 3 (rw (12 * x.toInt.toNat + j))) else none) (fun j => if j < mn x.toInt.toNat then bI (!so (12 * x.toInt.toNat + j)) else 0) true hCh.1 hCh.2.1 hCh.2.2.1 (hX.pc y1 y2) e45 e46 e43 e56 e53 e63 hlt) (cw_VN 2 hts tb_110 rfl rfl (hN _ tn_107 rfl) tb_4 tb_109 ts_3 (by decide +kernel) ⟨Nat.le_of_ble_eq_true rfl, Nat.le_of_ble_eq_true rfl⟩) (ro_V (ci := 0) hK hN hCh.1 rfl) rfl rfl hl.1 rfl (lv_room (Nat.le_of_ble_eq_true rfl)) dX2_add_94 ⟨Nat.le_of_ble_eq_true rfl, Nat.le_of_ble_eq_true rfl⟩) hS (fun z _ h9 => ⟨⟨⟨h1, h2⟩, y1, y2⟩, h9⟩) (fun z h9 => ⟨⟨⟨h1, h2⟩, y1, y2⟩, h9⟩) (fun u t H1 locs ht hvm hw hB hz1 hk1 hS => ?_)
                  (try dsimp only at hB)
                  rw [ht] at hB
                  have hX2 := hX.add (H1 := H1) (b := !(mn x.toInt.toNat == 0 || !tr)) h1 h2 y1 y2 hlt (fun j j1 j2 => (hO.2.2.2.1 j j1 j2).1) hk1 hB.1 hB.2.1 (by rw [Bool.not_not, hsm]; exact hB.2.2.1) hB.2.2.2
                  refine lv_iconst (v := nI 1) hx hb dX2_add_97 (by decide) ?_
                  exact W.iret (v := nI 1) hx hb hr (fun t ht hW => ⟨⟨_, (mkM np nc pe an up dn (va_up rw (12 * x.toInt.toNat + mn x.toInt.toNat) y.toInt.toNat) (va_up so (12 * x.toInt.toNat + mn x.toInt.toNat) (!(mn x.toInt.toNat == 0 || !tr))) (va_up mn x.toInt.toNat (mn x.toInt.toNat + 1)) wd wv, ad), rfl, by rw [opAdd, if_neg hno, if_neg hno3, if_neg (by omega), if_neg (by rw [q8]; decide)], by (try dsimp only); rw [ht]; exact ⟨hX2, xFr_same⟩⟩, hS.F ht⟩) hS.2.2 dX2_add_98
                · refine lv_iconst (v := nI 0) hx hb dX2_add_86 (by decide) ?_
                  exact W.iret (v := nI 0) hx hb hr (fun t ht hW => ⟨⟨_, (mkM np nc pe an up dn rw so mn wd wv, ad), rfl, by rw [opAdd, if_neg hno, if_neg hno3, if_neg (by omega), if_pos q8], by (try dsimp only); rw [ht]; exact ⟨hX, xFr_same⟩⟩, hS.F ht⟩) hS.2.2 dX2_add_87
              · refine lv_bipush (v := (-4)) hx hb dX2_add_73 (by decide) ?_
                exact W.iret (v := (-4)) hx hb hr (fun t ht hW => ⟨⟨_, (mkM np nc pe an up dn rw so mn wd wv, ad), rfl, by rw [opAdd, if_neg hno, if_neg hno3, if_pos (by omega)], by (try dsimp only); rw [ht]; exact ⟨hX, xFr_same⟩⟩, hS.F ht⟩) hS.2.2 dX2_add_75
            · refine lv_bipush (v := (-3)) hx hb dX2_add_60 (by decide) ?_
              exact W.iret (v := (-3)) hx hb hr (fun t ht hW => ⟨⟨_, (mkM np nc pe an up dn rw so mn wd wv, ad), rfl, by rw [opAdd, if_neg hno, if_pos (by rw [hsm, show (pe y.toInt.toNat == 0) = true from beq_iff_eq.mpr q6]; rfl)], by (try dsimp only); rw [ht]; exact ⟨hX, xFr_same⟩⟩, hS.F ht⟩) hS.2.2 dX2_add_62
set_option maxHeartbeats 4000000 in
set_option maxRecDepth 100000 in
theorem x_piece (l : Launch) (D : va_G) (ka : Nat → ClassId) (H0 : Heap) (ad : Nat → Nat → Nat) (np nc : Nat) (pe an up dn rw : Nat → Nat) (so : Nat → Bool) (mn : Nat → Nat) (wd : Nat → Bool) (wv : Nat → Int64) (kd : Int32) (x y : Int64) (hX : XInv D ka ad np nc pe an up dn rw so mn wd wv H0) (hO : mOk np nc pe an up dn rw so mn wd wv) : Met l yX2_piece (.code yX2_piece cX2_piece 6 (some .int) :: gT) ({ frames := 2, cells := 1, slots := 4, locals := 36 }) (ro_Pc D vwCl (tyL ka) H0 [.ref (ad 0 0), .int kd, .long x, .long y]) (va_Qi (fun (r : Int32) (u : MSt × (Nat → Nat → Nat)) => (u.1, r) = opPiece np nc pe an up dn rw so mn wd wv kd x y) (fun (u : MSt × (Nat → Nat → Nat)) t => XIs D ka u.2 u.1 t.heap ∧ xFr ad np nc H0.size u) (fun z => (z = ad 0 0 ∨ z = ad 1 0) ∨ H0.size ≤ z)) 1 4 (fun z => (z = ad 0 0 ∨ z = ad 1 0) ∨ H0.size ≤ z) := by
  refine Met.ofW (cc := cX2_piece) (maxL := 6) (ret := (some .int)) (by decide) rfl ?_
  intro p e s m args below meth c s₁ B hml hv
  obtain ⟨rfl, hH, hK, hN⟩ := hv
  subst hH
  have hx := B.exec
  have hb := B.bytes
  have hr := B.returns
  have hts : ∀ w ∈ gT, w.before ([.ref (ad 0 0), .int kd, .long x, .long y] : List Value).toArray s = true := fun w h => atoms_spec (ws := (.code yX2_piece cX2_piece 6 (some .int) :: gT)) B.pre w (List.mem_cons_of_mem _ h)
  have hown : s.vm.findClass RX2 = some m.cls := findClass_of_methodNamed B.named
  have hlocks := B.notSynchronized
  have hl := lv_entry ([.ref (ad 0 0), .int kd, .long x, .long y]) (n := 6) (Nat.le_of_ble_eq_true rfl)
  rw [lg_entry_eq]
  generalize (lg_sl ([.ref (ad 0 0), .int kd, .long x, .long y]) ++ List.replicate (6 - (lg_sl ([.ref (ad 0 0), .int kd, .long x, .long y])).length) Slot.unset).toArray = ls at hl ⊢
  have hl : lv_has ls 6 [(0, .ref (ad 0 0)), (1, .int kd), (2, .long x), (4, .long y)] := hl
  have hnp := hO.1
  have hnc := hO.2.1
  have hS : va_S (fun z => (z = ad 0 0 ∨ z = ad 1 0) ∨ s.heap.size ≤ z) s.heap s.heap [] := va_S.rf
  have hA : ∀ z9 : Nat, s.heap.size ≤ z9 → (fun z => (z = ad 0 0 ∨ z = ad 1 0) ∨ s.heap.size ≤ z) z9 := fun z9 h => Or.inr h
  have z2 : (nI 2).toInt = 2 := by decide +kernel
  have z0 : (lN 0).toInt = 0 := by decide +kernel
  have zb : (lN 20000).toInt = 20000 := by decide +kernel
  refine lv_iload_n hx hb dX2_piece_0 rfl (lv_at hl 1 rfl) ?_
  refine r_if_lt (tgt := 9) hx hb dX2_piece_1 (by decide) (fun q1 => ?_) (fun q1 => ?_)
  · refine lv_bipush (v := (-2)) hx hb dX2_piece_9 (by decide) ?_
    refine W.widen (k := 1) (n := 4) (Nat.le_of_ble_eq_true rfl) (Nat.le_of_ble_eq_true rfl) ?_
    exact W.iret (v := (-2)) hx hb hr (fun t ht hW => ⟨⟨_, (mkM np nc pe an up dn rw so mn wd wv, ad), rfl, by rw [opPiece, if_pos (by omega)], by (try dsimp only); rw [ht]; exact ⟨hX, xFr_same⟩⟩, hS.F ht⟩) hS.2.2 dX2_piece_11
  · refine lv_iload_n hx hb dX2_piece_4 rfl (lv_at hl 1 rfl) ?_
    refine lv_iconst (v := nI 2) hx hb dX2_piece_5 (by decide) ?_
    refine r_icmp_le (tgt := 12) hx hb dX2_piece_6 (by decide) (fun q2 => ?_) (fun q2 => ?_)
    · refine lv_lload_n hx hb dX2_piece_12 rfl (lv_at hl 2 rfl) ?_
      refine lv_lconst (v := lN 0) hx hb dX2_piece_13 rfl ?_
      refine r_lcmp_lt (tgt := 42) hx hb dX2_piece_14 dX2_piece_15 (by decide) (fun q3 => ?_) (fun q3 => ?_)
      · refine lv_bipush (v := (-2)) hx hb dX2_piece_42 (by decide) ?_
        refine W.widen (k := 1) (n := 4) (Nat.le_of_ble_eq_true rfl) (Nat.le_of_ble_eq_true rfl) ?_
        exact W.iret (v := (-2)) hx hb hr (fun t ht hW => ⟨⟨_, (mkM np nc pe an up dn rw so mn wd wv, ad), rfl, by rw [opPiece, if_pos (by omega)], by (try dsimp only); rw [ht]; exact ⟨hX, xFr_same⟩⟩, hS.F ht⟩) hS.2.2 dX2_piece_44
      · refine lv_lload_n hx hb dX2_piece_18 rfl (lv_at hl 2 rfl) ?_
        refine lv_ldc2 (v := lN 20000) hx hb hown (hts _ tb_39) dX2_piece_19 ?_
        refine r_lcmp_gt (tgt := 42) hx hb dX2_piece_22 dX2_piece_23 (by decide) (fun q4 => ?_) (fun q4 => ?_)
        · refine lv_bipush (v := (-2)) hx hb dX2_piece_42 (by decide) ?_
          refine W.widen (k := 1) (n := 4) (Nat.le_of_ble_eq_true rfl) (Nat.le_of_ble_eq_true rfl) ?_
          exact W.iret (v := (-2)) hx hb hr (fun t ht hW => ⟨⟨_, (mkM np nc pe an up dn rw so mn wd wv, ad), rfl, by rw [opPiece, if_pos (by omega)], by (try dsimp only); rw [ht]; exact ⟨hX, xFr_same⟩⟩, hS.F ht⟩) hS.2.2 dX2_piece_44
        · refine lv_lload hx hb dX2_piece_26 (lv_at hl 3 rfl) ?_
          refine lv_lconst (v := lN 0) hx hb dX2_piece_28 rfl ?_
          refine r_lcmp_lt (tgt := 42) hx hb dX2_piece_29 dX2_piece_30 (by decide) (fun q5 => ?_) (fun q5 => ?_)
          · refine lv_bipush (v := (-2)) hx hb dX2_piece_42 (by decide) ?_
            refine W.widen (k := 1) (n := 4) (Nat.le_of_ble_eq_true rfl) (Nat.le_of_ble_eq_true rfl) ?_
            exact W.iret (v := (-2)) hx hb hr (fun t ht hW => ⟨⟨_, (mkM np nc pe an up dn rw so mn wd wv, ad), rfl, by rw [opPiece, if_pos (by omega)], by (try dsimp only); rw [ht]; exact ⟨hX, xFr_same⟩⟩, hS.F ht⟩) hS.2.2 dX2_piece_44
          · refine lv_lload hx hb dX2_piece_33 (lv_at hl 3 rfl) ?_
            refine lv_ldc2 (v := lN 20000) hx hb hown (hts _ tb_39) dX2_piece_35 ?_
            refine r_lcmp_le (tgt := 45) hx hb dX2_piece_38 dX2_piece_39 (by decide) (fun q6 => ?_) (fun q6 => ?_)
            · have hok : ¬ (kd.toInt < 0 ∨ 2 < kd.toInt ∨ x.toInt < 0 ∨ 20000 < x.toInt ∨ y.toInt < 0 ∨ 20000 < y.toInt) := by omega
              obtain ⟨ex, hx9⟩ := lon_of (x := x) (n := 20000) (by omega) (by omega)
              obtain ⟨ey, hy9⟩ := lon_of (x := y) (n := 20000) (by omega) (by omega)
              refine lv_aload_n hx hb dX2_piece_45 rfl (lv_at hl 0 rfl) ?_
              refine g_get (cl := vwCl) (ci := 2) (v := .int (nI np)) hx hb hts inX2 hown hK hX.o rfl 2 (by decide) (hts _ tb_24) rfl dX2_piece_46 ?_
              refine lv_bipush (v := nI 30) hx hb dX2_piece_49 (by decide) ?_
              refine n_icmp_lt (tgt := 57) hx hb (by omega) (by omega) dX2_piece_51 (by decide) (fun q7 => ?_) (fun q7 => ?_)
              · rw [ex, ey] at hl
                have hlt : np < 30 := by omega
                have e01 : ad 0 0 ≠ ad 1 0 := fun e => absurd (hX.2 _ _ _ _ vl_0 vl_1 e).1 (by decide)
                have hP : va_P D vwCl [(ad 0 0, .inr (2, [.ref (ad 1 0), .ref (ad 2 0), .int (nI np), .int (nI nc)])), (ad 1 0, refE (ka 0) 30 (fun j => if j < np then some (ad 3 (j + 1)) else none))] s.heap := va_P_cons hX.o (va_P_cons hX.pa va_P_nil)
                have hD : va_D (fun z => (z = ad 0 0 ∨ z = ad 1 0) ∨ s.heap.size ≤ z) [(ad 0 0, .inr (2, [.ref (ad 1 0), .ref (ad 2 0), .int (nI np), .int (nI nc)])), (ad 1 0, refE (ka 0) 30 (fun j => if j < np then some (ad 3 (j + 1)) else none))] := va_D_of (by simp [e01]) (by simp)
                refine lv_aload_n hx hb dX2_piece_57 rfl (lv_at hl 0 rfl) ?_
                refine g_get (cl := vwCl) (ci := 2) (v := .ref (ad 1 0)) hx hb hts inX2 hown hK (hP.nth 0 rfl) rfl 0 (by decide) (hts _ tb_22) rfl dX2_piece_58 ?_
                refine lv_aload_n hx hb dX2_piece_61 rfl (lv_at hl 0 rfl) ?_
                refine g_get (cl := vwCl) (ci := 2) (v := .int (nI np)) hx hb hts inX2 hown hK (hP.nth 0 rfl) rfl 2 (by decide) (hts _ tb_24) rfl dX2_piece_62 ?_
                refine va_new (cl := vwCl) (ci := 1) (fs := [.long 0, .long 0, .long 0, .long 0]) (C := RX1) (T := TX1) (N := 4) hx hb hts inX1 tyX1 tyX1_ok hown (hts _ tb_18) (hts _ tb_40) (hts _ tb_3) hK hP hD hS hA rfl (fun j hj => by rcases (show j = 0 ∨ j = 1 ∨ j = 2 ∨ j = 3 by omega) with rfl | rfl | rfl | rfl <;> rfl) (Nat.le_of_ble_eq_true rfl) (Nat.le_of_ble_eq_true rfl) dX2_piece_65 (fun q_1 H hP hD hS => ?_)
                have hP : va_P D vwCl [(ad 0 0, .inr (2, [.ref (ad 1 0), .ref (ad 2 0), .int (nI np), .int (nI nc)])), (ad 1 0, refE (ka 0) 30 (fun j => if j < np then some (ad 3 (j + 1)) else none)), (q_1, .inr (1, [.long 0, .long 0, .long 0, .long 0]))] H := hP
                have hD : va_D (fun z => (z = ad 0 0 ∨ z = ad 1 0) ∨ s.heap.size ≤ z) [(ad 0 0, .inr (2, [.ref (ad 1 0), .ref (ad 2 0), .int (nI np), .int (nI nc)])), (ad 1 0, refE (ka 0) 30 (fun j => if j < np then some (ad 3 (j + 1)) else none)), (q_1, .inr (1, [.long 0, .long 0, .long 0, .long 0]))] := hD
                refine lv_dup hx hb dX2_piece_68 rfl ?_
                refine lv_lload_n hx hb dX2_piece_69 rfl (lv_at hl 2 rfl) ?_
                refine lv_lload hx hb dX2_piece_70 (lv_at hl 3 rfl) ?_
                have hqA := hD.2 2 _ rfl
                refine va_callv (va_runIN (As := [.long (lN (x.toInt.toNat)), .long (lN (y.toInt.toNat))]) (rest := [.ref q_1, .int (nI np), .ref (ad 1 0)]) ⟨hx, hb, hml, hown, hts⟩ (k_PieceInit l D ka H q_1 x.toInt.toNat y.toInt.toNat (hP.nth 2 rfl)) (cw_IN 2 hts tb_43 rfl rfl (hN _ tn_41 rfl) tb_3 tb_42 rfl (by decide +kernel) ⟨Nat.le_of_ble_eq_true rfl, Nat.le_of_ble_eq_true rfl⟩) (ro_S hK hN) rfl rfl hl.1 rfl (lv_room (Nat.le_of_ble_eq_true rfl)) dX2_piece_72 ⟨Nat.le_of_ble_eq_true rfl, Nat.le_of_ble_eq_true rfl⟩) hS (fun z _ h9 => (show z = q_1 from h9) ▸ hqA) (fun z h9 => (show z = q_1 from h9) ▸ hqA) (fun u t H1 locs ht hvm hw hB hz1 hk1 hS => ?_)
                (try dsimp only at hB)
                rw [ht] at hB
                have hP := hP.upd hD (p := 2) rfl hB hk1
                have hD := hD.set (p := 2) (e := pcE x.toInt.toNat y.toInt.toNat 0 1) rfl
                generalize H1 = H at hP hS hB ⊢
                have hP : va_P D vwCl [(ad 0 0, .inr (2, [.ref (ad 1 0), .ref (ad 2 0), .int (nI np), .int (nI nc)])), (ad 1 0, refE (ka 0) 30 (fun j => if j < np then some (ad 3 (j + 1)) else none)), (q_1, .inr (1, [.long (lN (x.toInt.toNat)), .long (lN (y.toInt.toNat)), .long (lN 0), .long (lN 1)]))] H := hP
                have hD : va_D (fun z => (z = ad 0 0 ∨ z = ad 1 0) ∨ s.heap.size ≤ z) [(ad 0 0, .inr (2, [.ref (ad 1 0), .ref (ad 2 0), .int (nI np), .int (nI nc)])), (ad 1 0, refE (ka 0) 30 (fun j => if j < np then some (ad 3 (j + 1)) else none)), (q_1, .inr (1, [.long (lN (x.toInt.toNat)), .long (lN (y.toInt.toNat)), .long (lN 0), .long (lN 1)]))] := hD
                refine g_astq (r := (RX1, TX1, 4)) (f2 := va_up (fun j => if j < np then some (ad 3 (j + 1)) else none) np (some q_1)) hx hb hK hP hD hS 1 0 2 1 rfl rfl rfl rfl hlt (by decide) rfl dX2_piece_75 (fun H locs hP hD hS => ?_)
                have hP : va_P D vwCl [(ad 0 0, .inr (2, [.ref (ad 1 0), .ref (ad 2 0), .int (nI np), .int (nI nc)])), (ad 1 0, refE (ka 0) 30 (va_up (fun j => if j < np then some (ad 3 (j + 1)) else none) np (some q_1))), (q_1, .inr (1, [.long (lN (x.toInt.toNat)), .long (lN (y.toInt.toNat)), .long (lN 0), .long (lN 1)]))] H := hP
                have hD : va_D (fun z => (z = ad 0 0 ∨ z = ad 1 0) ∨ s.heap.size ≤ z) [(ad 0 0, .inr (2, [.ref (ad 1 0), .ref (ad 2 0), .int (nI np), .int (nI nc)])), (ad 1 0, refE (ka 0) 30 (va_up (fun j => if j < np then some (ad 3 (j + 1)) else none) np (some q_1))), (q_1, .inr (1, [.long (lN (x.toInt.toNat)), .long (lN (y.toInt.toNat)), .long (lN 0), .long (lN 1)]))] := hD
                refine lv_aload_n hx hb dX2_piece_76 rfl (lv_at hl 0 rfl) ?_
                refine lv_dup hx hb dX2_piece_77 rfl ?_
                refine g_get (cl := vwCl) (ci := 2) (v := .int (nI np)) hx hb hts inX2 hown hK (hP.nth 0 rfl) rfl 2 (by decide) (hts _ tb_24) rfl dX2_piece_78 ?_
                refine lv_iconst (v := nI 1) hx hb dX2_piece_81 (by decide) ?_
                refine n_iadd hx hb dX2_piece_82 ?_
                refine va_put (D := D) (cl := vwCl) (ci := 2) (v := .int (nI (np + 1))) (ty := .int) (C := RX2) (T := TX2) (N := 4) hx hb hts inX2 tyX2 tyX2_ok nmX2 hown hK hP hD hS 0 rfl rfl 2 (by decide) (hts _ tb_24) (fun _ h9 => h9) rfl (by decide +kernel) rfl rfl (Nat.le_of_ble_eq_true rfl) dX2_piece_83 (fun H locs hP hD hS => ?_)
                have hP : va_P D vwCl [(ad 0 0, .inr (2, [.ref (ad 1 0), .ref (ad 2 0), .int (nI (np + 1)), .int (nI nc)])), (ad 1 0, refE (ka 0) 30 (va_up (fun j => if j < np then some (ad 3 (j + 1)) else none) np (some q_1))), (q_1, .inr (1, [.long (lN (x.toInt.toNat)), .long (lN (y.toInt.toNat)), .long (lN 0), .long (lN 1)]))] H := hP
                have hD : va_D (fun z => (z = ad 0 0 ∨ z = ad 1 0) ∨ s.heap.size ≤ z) [(ad 0 0, .inr (2, [.ref (ad 1 0), .ref (ad 2 0), .int (nI (np + 1)), .int (nI nc)])), (ad 1 0, refE (ka 0) 30 (va_up (fun j => if j < np then some (ad 3 (j + 1)) else none) np (some q_1))), (q_1, .inr (1, [.long (lN (x.toInt.toNat)), .long (lN (y.toInt.toNat)), .long (lN 0), .long (lN 1)]))] := hD
                refine lv_aload_n hx hb dX2_piece_86 rfl (lv_at hl 0 rfl) ?_
                refine g_get (cl := vwCl) (ci := 2) (v := .int (nI (np + 1))) hx hb hts inX2 hown hK (hP.nth 0 rfl) rfl 2 (by decide) (hts _ tb_24) rfl dX2_piece_87 ?_
                have nq0 : ¬ ad 0 0 = q_1 := fun e => absurd (hD.1 0 2 _ _ rfl rfl e) (by decide)
                have nq1 : ¬ ad 1 0 = q_1 := fun e => absurd (hD.1 1 2 _ _ rfl rfl e) (by decide)
                have fq : s.heap.size ≤ q_1 := hqA.resolve_left (fun e => e.elim (fun e => nq0 e.symm) (fun e => nq1 e.symm))
                have hX2 := hX.piece (H1 := H) (T := x.toInt.toNat) (R := y.toInt.toNat) hO fq (fun z hz hn => hS.2.1 z hz (fun e => e.elim hn (fun h9 => absurd h9 (Nat.not_le.mpr hz)))) (hP.nth 0 rfl) (hP.nth 1 rfl) (hP.nth 2 rfl)
                exact W.iret (v := nI (np + 1)) hx hb hr (fun t ht hW => ⟨⟨_, (mkM (np + 1) nc (va_up pe (np + 1) x.toInt.toNat) (va_up an (np + 1) y.toInt.toNat) (va_up up (np + 1) 0) (va_up dn (np + 1) 1) rw so mn wd wv, ad1 ad 3 (np + 1) q_1), rfl, by rw [opPiece, if_neg hok, if_neg (by omega)], by (try dsimp only); rw [ht]; exact ⟨hX2, xFr_piece fq⟩⟩, hS.F ht⟩) hS.2.2 dX2_piece_90
              · refine lv_bipush (v := (-4)) hx hb dX2_piece_54 (by decide) ?_
                refine W.widen (k := 1) (n := 4) (Nat.le_of_ble_eq_true rfl) (Nat.le_of_ble_eq_true rfl) ?_
                exact W.iret (v := (-4)) hx hb hr (fun t ht hW => ⟨⟨_, (mkM np nc pe an up dn rw so mn wd wv, ad), rfl, by rw [opPiece, if_neg hok, if_pos (by omega)], by (try dsimp only); rw [ht]; exact ⟨hX, xFr_same⟩⟩, hS.F ht⟩) hS.2.2 dX2_piece_56
            · refine lv_bipush (v := (-2)) hx hb dX2_piece_42 (by decide) ?_
              refine W.widen (k := 1) (n := 4) (Nat.le_of_ble_eq_true rfl) (Nat.le_of_ble_eq_true rfl) ?_
              exact W.iret (v := (-2)) hx hb hr (fun t ht hW => ⟨⟨_, (mkM np nc pe an up dn rw so mn wd wv, ad), rfl, by rw [opPiece, if_pos (by omega)], by (try dsimp only); rw [ht]; exact ⟨hX, xFr_same⟩⟩, hS.F ht⟩) hS.2.2 dX2_piece_44
    · refine lv_bipush (v := (-2)) hx hb dX2_piece_9 (by decide) ?_
      refine W.widen (k := 1) (n := 4) (Nat.le_of_ble_eq_true rfl) (Nat.le_of_ble_eq_true rfl) ?_
      exact W.iret (v := (-2)) hx hb hr (fun t ht hW => ⟨⟨_, (mkM np nc pe an up dn rw so mn wd wv, ad), rfl, by rw [opPiece, if_pos (by omega)], by (try dsimp only); rw [ht]; exact ⟨hX, xFr_same⟩⟩, hS.F ht⟩) hS.2.2 dX2_piece_11
set_option maxHeartbeats 4000000 in
set_option maxRecDepth 100000 in
theorem x_chain (l : Launch) (D : va_G) (ka : Nat → ClassId) (H0 : Heap) (ad : Nat → Nat → Nat) (np nc : Nat) (pe an up dn rw : Nat → Nat) (so : Nat → Bool) (mn : Nat → Nat) (wd : Nat → Bool) (wv : Nat → Int64)  (hX : XInv D ka ad np nc pe an up dn rw so mn wd wv H0) (hO : mOk np nc pe an up dn rw so mn wd wv) : Met l yX2_chain (.code yX2_chain cX2_chain 1 (some .int) :: gT) ({ frames := 2, cells := 3, slots := 28, locals := 32 }) (ro_Pc D vwCl (tyL ka) H0 [.ref (ad 0 0)]) (va_Qi (fun (r : Int32) (u : MSt × (Nat → Nat → Nat)) => (u.1, r) = opChain np nc pe an up dn rw so mn wd wv) (fun (u : MSt × (Nat → Nat → Nat)) t => XIs D ka u.2 u.1 t.heap ∧ xFr ad np nc H0.size u) (fun z => (z = ad 0 0 ∨ z = ad 2 0) ∨ H0.size ≤ z)) 3 28 (fun z => (z = ad 0 0 ∨ z = ad 2 0) ∨ H0.size ≤ z) := by
  refine Met.ofW (cc := cX2_chain) (maxL := 1) (ret := (some .int)) (by decide) rfl ?_
  intro p e s m args below meth c s₁ B hml hv
  obtain ⟨rfl, hH, hK, hN⟩ := hv
  subst hH
  have hx := B.exec
  have hb := B.bytes
  have hr := B.returns
  have hts : ∀ w ∈ gT, w.before ([.ref (ad 0 0)] : List Value).toArray s = true := fun w h => atoms_spec (ws := (.code yX2_chain cX2_chain 1 (some .int) :: gT)) B.pre w (List.mem_cons_of_mem _ h)
  have hown : s.vm.findClass RX2 = some m.cls := findClass_of_methodNamed B.named
  have hlocks := B.notSynchronized
  have hl := lv_entry ([.ref (ad 0 0)]) (n := 1) (Nat.le_of_ble_eq_true rfl)
  rw [lg_entry_eq]
  generalize (lg_sl ([.ref (ad 0 0)]) ++ List.replicate (1 - (lg_sl ([.ref (ad 0 0)])).length) Slot.unset).toArray = ls at hl ⊢
  have hl : lv_has ls 1 [(0, .ref (ad 0 0))] := hl
  have hnp := hO.1
  have hnc := hO.2.1
  have hS : va_S (fun z => (z = ad 0 0 ∨ z = ad 2 0) ∨ s.heap.size ≤ z) s.heap s.heap [] := va_S.rf
  have hA : ∀ z9 : Nat, s.heap.size ≤ z9 → (fun z => (z = ad 0 0 ∨ z = ad 2 0) ∨ s.heap.size ≤ z) z9 := fun z9 h => Or.inr h
  refine lv_aload_n hx hb dX2_chain_0 rfl (lv_at hl 0 rfl) ?_
  refine g_get (cl := vwCl) (ci := 2) (v := .int (nI nc)) hx hb hts inX2 hown hK hX.o rfl 3 (by decide) (hts _ tb_25) rfl dX2_chain_1 ?_
  refine lv_bipush (v := nI 20) hx hb dX2_chain_4 (by decide) ?_
  refine n_icmp_lt (tgt := 12) hx hb (by omega) (by omega) dX2_chain_6 (by decide) (fun q7 => ?_) (fun q7 => ?_)
  · have hlt : nc < 20 := by omega
    have e02 : ad 0 0 ≠ ad 2 0 := fun e => absurd (hX.2 _ _ _ _ vl_0 vl_2 e).1 (by decide)
    have hP : va_P D vwCl [(ad 0 0, .inr (2, [.ref (ad 1 0), .ref (ad 2 0), .int (nI np), .int (nI nc)])), (ad 2 0, refE (ka 1) 20 (fun j => if j < nc then some (ad 4 (j + 1)) else none))] s.heap := va_P_cons hX.o (va_P_cons hX.ca va_P_nil)
    have hD : va_D (fun z => (z = ad 0 0 ∨ z = ad 2 0) ∨ s.heap.size ≤ z) [(ad 0 0, .inr (2, [.ref (ad 1 0), .ref (ad 2 0), .int (nI np), .int (nI nc)])), (ad 2 0, refE (ka 1) 20 (fun j => if j < nc then some (ad 4 (j + 1)) else none))] := va_D_of (by simp [e02]) (by simp)
    refine lv_aload_n hx hb dX2_chain_12 rfl (lv_at hl 0 rfl) ?_
    refine g_get (cl := vwCl) (ci := 2) (v := .ref (ad 2 0)) hx hb hts inX2 hown hK (hP.nth 0 rfl) rfl 1 (by decide) (hts _ tb_23) rfl dX2_chain_13 ?_
    refine lv_aload_n hx hb dX2_chain_16 rfl (lv_at hl 0 rfl) ?_
    refine g_get (cl := vwCl) (ci := 2) (v := .int (nI nc)) hx hb hts inX2 hown hK (hP.nth 0 rfl) rfl 3 (by decide) (hts _ tb_25) rfl dX2_chain_17 ?_
    refine va_new (cl := vwCl) (ci := 0) (fs := [.null, .null, .int 0, .long 0]) (C := RX0) (T := TX0) (N := 4) hx hb hts inX0 tyX0 tyX0_ok hown (hts _ tb_20) (hts _ tb_68) (hts _ tb_4) hK hP hD hS hA rfl (fun j hj => by rcases (show j = 0 ∨ j = 1 ∨ j = 2 ∨ j = 3 by omega) with rfl | rfl | rfl | rfl <;> rfl) (Nat.le_of_ble_eq_true rfl) (Nat.le_of_ble_eq_true rfl) dX2_chain_20 (fun q_1 H hP hD hS => ?_)
    have hP : va_P D vwCl [(ad 0 0, .inr (2, [.ref (ad 1 0), .ref (ad 2 0), .int (nI np), .int (nI nc)])), (ad 2 0, refE (ka 1) 20 (fun j => if j < nc then some (ad 4 (j + 1)) else none)), (q_1, .inr (0, [.null, .null, .int 0, .long 0]))] H := hP
    have hD : va_D (fun z => (z = ad 0 0 ∨ z = ad 2 0) ∨ s.heap.size ≤ z) [(ad 0 0, .inr (2, [.ref (ad 1 0), .ref (ad 2 0), .int (nI np), .int (nI nc)])), (ad 2 0, refE (ka 1) 20 (fun j => if j < nc then some (ad 4 (j + 1)) else none)), (q_1, .inr (0, [.null, .null, .int 0, .long 0]))] := hD
    refine lv_dup hx hb dX2_chain_23 rfl ?_
    have hqA := hD.2 2 _ rfl
    have hsz := hS.1
    have nq0 : ¬ ad 0 0 = q_1 := fun e => absurd (hD.1 0 2 _ _ rfl rfl e) (by decide)
    have nq2 : ¬ ad 2 0 = q_1 := fun e => absurd (hD.1 1 2 _ _ rfl rfl e) (by decide)
    have l0 := (hP.nth 0 rfl).lt
    have l1 := (hP.nth 1 rfl).lt
    have l2 := (hP.nth 2 rfl).lt
    (try dsimp only at l0 l1 l2)
    refine va_callv (va_runIN (As := []) (rest := [.ref q_1, .int (nI nc), .ref (ad 2 0)]) ⟨hx, hb, hml, hown, hts⟩ (k_ChainInit l D ka H q_1 (hP.nth 2 rfl)) (cw_IN 0 hts tb_71 rfl rfl (hN _ tn_69 rfl) tb_4 tb_70 rfl (by decide +kernel) ⟨Nat.le_of_ble_eq_true rfl, Nat.le_of_ble_eq_true rfl⟩) (ro_S hK hN) rfl rfl hl.1 rfl (lv_room (Nat.le_of_ble_eq_true rfl)) dX2_chain_24 ⟨Nat.le_of_ble_eq_true rfl, Nat.le_of_ble_eq_true rfl⟩) hS (fun z _ h9 => h9.elim (fun e => e ▸ hqA) (fun h8 => hA z (Nat.le_trans hsz h8))) (fun z h9 => h9.elim (fun e => e ▸ hqA) (fun h8 => hA z (Nat.le_trans hsz h8))) (fun u t H1 locs ht hvm hw hB hz1 hk1 hS => ?_)
    (try dsimp only at hB)
    rw [ht] at hB
    obtain ⟨r9, m9⟩ := u
    (try dsimp only at hB)
    obtain ⟨⟨b1, b2, b3⟩, fr, fm, nrm⟩ := hB
    have c0 := (hP.nth 0 rfl).kept (hk1 _ l0 (fun e => e.elim nq0 (fun h9 => absurd h9 (Nat.not_le.mpr l0))))
    have c1 := (hP.nth 1 rfl).kept (hk1 _ l1 (fun e => e.elim nq2 (fun h9 => absurd h9 (Nat.not_le.mpr l1))))
    have hP : va_P D vwCl [(ad 0 0, .inr (2, [.ref (ad 1 0), .ref (ad 2 0), .int (nI np), .int (nI nc)])), (ad 2 0, refE (ka 1) 20 (fun j => if j < nc then some (ad 4 (j + 1)) else none)), (q_1, .inr (0, [.ref r9, .ref m9, .int (nI 0), .long ((-1))])), (r9, refE (ka 0) 12 (fun _ => none)), (m9, intE (ka 2) 12 (fun _ => 0))] H1 := va_P_cons c0 (va_P_cons c1 (va_P_cons b1 (va_P_cons b2 (va_P_cons b3 va_P_nil))))
    have x1 : ad 0 0 ≠ r9 := by omega
    have x2 : ad 0 0 ≠ m9 := by omega
    have x3 : ad 2 0 ≠ r9 := by omega
    have x4 : ad 2 0 ≠ m9 := by omega
    have x5 : q_1 ≠ r9 := by omega
    have x6 : q_1 ≠ m9 := by omega
    have hD : va_D (fun z => (z = ad 0 0 ∨ z = ad 2 0) ∨ s.heap.size ≤ z) [(ad 0 0, .inr (2, [.ref (ad 1 0), .ref (ad 2 0), .int (nI np), .int (nI nc)])), (ad 2 0, refE (ka 1) 20 (fun j => if j < nc then some (ad 4 (j + 1)) else none)), (q_1, .inr (0, [.ref r9, .ref m9, .int (nI 0), .long ((-1))])), (r9, refE (ka 0) 12 (fun _ => none)), (m9, intE (ka 2) 12 (fun _ => 0))] := va_D_of (by simp [e02, nq0, nq2, x1, x2, x3, x4, x5, x6, nrm]) (by
      intro z hz; simp only [List.mem_cons, List.not_mem_nil, or_false] at hz
      rcases hz with rfl | rfl | rfl | rfl | rfl
      · exact Or.inl (Or.inl rfl)
      · exact Or.inl (Or.inr rfl)
      · exact hqA
      · exact hA _ (Nat.le_trans hsz fr)
      · exact hA _ (Nat.le_trans hsz fm))
    generalize H1 = H at hP hS ⊢
    refine g_astq (r := (RX0, TX0, 4)) (f2 := va_up (fun j => if j < nc then some (ad 4 (j + 1)) else none) nc (some q_1)) hx hb hK hP hD hS 1 1 2 0 rfl rfl rfl rfl hlt (by decide) rfl dX2_chain_27 (fun H locs hP hD hS => ?_)
    have hP : va_P D vwCl [(ad 0 0, .inr (2, [.ref (ad 1 0), .ref (ad 2 0), .int (nI np), .int (nI nc)])), (ad 2 0, refE (ka 1) 20 (va_up (fun j => if j < nc then some (ad 4 (j + 1)) else none) nc (some q_1))), (q_1, .inr (0, [.ref r9, .ref m9, .int (nI 0), .long ((-1))])), (r9, refE (ka 0) 12 (fun _ => none)), (m9, intE (ka 2) 12 (fun _ => 0))] H := hP
    have hD : va_D (fun z => (z = ad 0 0 ∨ z = ad 2 0) ∨ s.heap.size ≤ z) [(ad 0 0, .inr (2, [.ref (ad 1 0), .ref (ad 2 0), .int (nI np), .int (nI nc)])), (ad 2 0, refE (ka 1) 20 (va_up (fun j => if j < nc then some (ad 4 (j + 1)) else none) nc (some q_1))), (q_1, .inr (0, [.ref r9, .ref m9, .int (nI 0), .long ((-1))])), (r9, refE (ka 0) 12 (fun _ => none)), (m9, intE (ka 2) 12 (fun _ => 0))] := hD
    refine lv_aload_n hx hb dX2_chain_28 rfl (lv_at hl 0 rfl) ?_
    refine lv_dup hx hb dX2_chain_29 rfl ?_
    refine g_get (cl := vwCl) (ci := 2) (v := .int (nI nc)) hx hb hts inX2 hown hK (hP.nth 0 rfl) rfl 3 (by decide) (hts _ tb_25) rfl dX2_chain_30 ?_
    refine lv_iconst (v := nI 1) hx hb dX2_chain_33 (by decide) ?_
    refine n_iadd hx hb dX2_chain_34 ?_
    refine va_put (D := D) (cl := vwCl) (ci := 2) (v := .int (nI (nc + 1))) (ty := .int) (C := RX2) (T := TX2) (N := 4) hx hb hts inX2 tyX2 tyX2_ok nmX2 hown hK hP hD hS 0 rfl rfl 3 (by decide) (hts _ tb_25) (fun _ h9 => h9) rfl (by decide +kernel) rfl rfl (Nat.le_of_ble_eq_true rfl) dX2_chain_35 (fun H locs hP hD hS => ?_)
    have hP : va_P D vwCl [(ad 0 0, .inr (2, [.ref (ad 1 0), .ref (ad 2 0), .int (nI np), .int (nI (nc + 1))])), (ad 2 0, refE (ka 1) 20 (va_up (fun j => if j < nc then some (ad 4 (j + 1)) else none) nc (some q_1))), (q_1, .inr (0, [.ref r9, .ref m9, .int (nI 0), .long ((-1))])), (r9, refE (ka 0) 12 (fun _ => none)), (m9, intE (ka 2) 12 (fun _ => 0))] H := hP
    have hD : va_D (fun z => (z = ad 0 0 ∨ z = ad 2 0) ∨ s.heap.size ≤ z) [(ad 0 0, .inr (2, [.ref (ad 1 0), .ref (ad 2 0), .int (nI np), .int (nI (nc + 1))])), (ad 2 0, refE (ka 1) 20 (va_up (fun j => if j < nc then some (ad 4 (j + 1)) else none) nc (some q_1))), (q_1, .inr (0, [.ref r9, .ref m9, .int (nI 0), .long ((-1))])), (r9, refE (ka 0) 12 (fun _ => none)), (m9, intE (ka 2) 12 (fun _ => 0))] := hD
    refine lv_aload_n hx hb dX2_chain_38 rfl (lv_at hl 0 rfl) ?_
    refine g_get (cl := vwCl) (ci := 2) (v := .int (nI (nc + 1))) hx hb hts inX2 hown hK (hP.nth 0 rfl) rfl 3 (by decide) (hts _ tb_25) rfl dX2_chain_39 ?_
    have fq : s.heap.size ≤ q_1 := hqA.resolve_left (fun e => e.elim (fun e => nq0 e.symm) (fun e => nq2 e.symm))
    have hX2 := hX.chain (H1 := H) hO hlt fq (Nat.le_trans hsz fr) (Nat.le_trans hsz fm) x5 x6 nrm (fun z hz hn => hS.2.1 z hz (fun e => e.elim hn (fun h9 => absurd h9 (Nat.not_le.mpr hz)))) (hP.nth 0 rfl) (hP.nth 1 rfl) (hP.nth 2 rfl) (hP.nth 3 rfl) (hP.nth 4 rfl)
    exact W.iret (v := nI (nc + 1)) hx hb hr (fun t ht hW => ⟨⟨_, (mkM np (nc + 1) pe an up dn rw so mn wd wv, ad1 (ad1 (ad1 ad 4 (nc + 1) q_1) 5 (nc + 1) r9) 6 (nc + 1) m9), rfl, by rw [opChain, if_neg (by omega)], by (try dsimp only); rw [ht]; exact ⟨hX2, xFr_chain fq (Nat.le_trans hsz fr) (Nat.le_trans hsz fm)⟩⟩, hS.F ht⟩) hS.2.2 dX2_chain_42
  · refine lv_bipush (v := (-4)) hx hb dX2_chain_9 (by decide) ?_
    refine W.widen (k := 3) (n := 28) (Nat.le_of_ble_eq_true rfl) (Nat.le_of_ble_eq_true rfl) ?_
    exact W.iret (v := (-4)) hx hb hr (fun t ht hW => ⟨⟨_, (mkM np nc pe an up dn rw so mn wd wv, ad), rfl, by rw [opChain, if_pos (by omega)], by (try dsimp only); rw [ht]; exact ⟨hX, xFr_same⟩⟩, hS.F ht⟩) hS.2.2 dX2_chain_11
