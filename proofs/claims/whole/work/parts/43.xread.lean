set_option maxHeartbeats 4000000 in
set_option maxRecDepth 100000 in
theorem x_pieceNumbered (l : Launch) (D : va_G) (ka : Nat → ClassId) (H0 : Heap) (ad : Nat → Nat → Nat) (np nc : Nat) (pe an up dn rw : Nat → Nat) (so : Nat → Bool) (mn : Nat → Nat) (wd : Nat → Bool) (wv : Nat → Int64) (x : Int32) (hX : XInv D ka ad np nc pe an up dn rw so mn wd wv H0) (hO : mOk np nc pe an up dn rw so mn wd wv) : Met l yX2_pieceNumbered (.code yX2_pieceNumbered cX2_pieceNumbered 2 (some (.object "ChainSums$Piece")) :: gT) ({ frames := 0, cells := 0, slots := 0, locals := 0 }) (ro_Pc D vwCl (tyL ka) H0 [.ref (ad 0 0), .int x]) (va_Sq (fun r => r = (if cNo x np = true then none else some (ad 3 x.toInt.toNat)))) 0 0 (fun _ => False) := by
  refine Met.ofW (cc := cX2_pieceNumbered) (maxL := 2) (ret := (some (.object "ChainSums$Piece"))) (by decide) rfl ?_
  intro p e s m args below meth c s₁ B hml hv
  obtain ⟨rfl, hH, hK, hN⟩ := hv
  subst hH
  have hx := B.exec
  have hb := B.bytes
  have hr := B.returns
  have hts : ∀ w ∈ gT, w.before ([.ref (ad 0 0), .int x] : List Value).toArray s = true := fun w h => atoms_spec (ws := (.code yX2_pieceNumbered cX2_pieceNumbered 2 (some (.object "ChainSums$Piece")) :: gT)) B.pre w (List.mem_cons_of_mem _ h)
  have hown : s.vm.findClass RX2 = some m.cls := findClass_of_methodNamed B.named
  have hlocks := B.notSynchronized
  have hl := lv_entry ([.ref (ad 0 0), .int x]) (n := 2) (Nat.le_of_ble_eq_true rfl)
  rw [lg_entry_eq]
  generalize (lg_sl ([.ref (ad 0 0), .int x]) ++ List.replicate (2 - (lg_sl ([.ref (ad 0 0), .int x])).length) Slot.unset).toArray = ls at hl ⊢
  have hl : lv_has ls 2 [(0, .ref (ad 0 0)), (1, .int x)] := hl
  have hnp := hO.1
  have hnc := hO.2.1
  refine lv_iload_n hx hb dX2_pieceNumbered_0 rfl (lv_at hl 1 rfl) ?_
  refine lv_iconst (v := nI 1) hx hb dX2_pieceNumbered_1 (by decide) ?_
  refine r_icmp_lt (tgt := 13) hx hb dX2_pieceNumbered_2 (by decide) (fun hc0 => ?_) (fun hc0 => ?_)
  · refine lv_null hx hb dX2_pieceNumbered_13 ?_
    refine lv_goto (tgt := 25) hx hb dX2_pieceNumbered_14 (by decide) ?_
    exact W.aret hx hb hr (Or.inl ⟨_, rfl⟩) (va_rf_or (none)) (fun t ht hW => ⟨none, rfl, by rw [if_pos (cNo_t1 (by rw [nI_toInt (by omega)] at hc0; omega))], ht⟩) t_nil dX2_pieceNumbered_25
  · refine lv_iload_n hx hb dX2_pieceNumbered_5 rfl (lv_at hl 1 rfl) ?_
    refine lv_aload_n hx hb dX2_pieceNumbered_6 rfl (lv_at hl 0 rfl) ?_
    refine g_get (cl := vwCl) (ci := 2) (v := .int (nI np)) hx hb hts inX2 hown hK hX.o rfl 2 (by decide) (hts _ tb_24) rfl dX2_pieceNumbered_7 ?_
    refine r_icmp_le (tgt := 17) hx hb dX2_pieceNumbered_10 (by decide) (fun hc => ?_) (fun hc => ?_)
    · have hno : cNo x np = false := cNo_f (by rw [nI_toInt (by omega)] at hc0; omega) (by rw [nI_toInt (by omega)] at hc; omega)
      obtain ⟨ex, h1, h2⟩ := cNo_nI hno
      rw [ex] at hl
      refine lv_aload_n hx hb dX2_pieceNumbered_17 rfl (lv_at hl 0 rfl) ?_
      refine g_get (cl := vwCl) (ci := 2) (v := .ref (ad 1 0)) hx hb hts inX2 hown hK hX.o rfl 0 (by decide) (hts _ tb_22) rfl dX2_pieceNumbered_18 ?_
      refine lv_iload_n hx hb dX2_pieceNumbered_21 rfl (lv_at hl 1 rfl) ?_
      refine lv_iconst (v := nI 1) hx hb dX2_pieceNumbered_22 (by decide) ?_
      refine n_isub hx hb (by omega) dX2_pieceNumbered_23 ?_
      refine g_aldr hx hb hK 0 hX.pa rfl (by omega) (by decide) (if_pos (by omega)) dX2_pieceNumbered_24 ?_
      exact W.aret hx hb hr (Or.inl ⟨_, rfl⟩) (va_rf_or (some (ad 3 (x.toInt.toNat - 1 + 1)))) (fun t ht hW => ⟨some (ad 3 (x.toInt.toNat - 1 + 1)), rfl, by rw [hno, if_neg (by decide), Nat.sub_add_cancel h1], ht⟩) t_nil dX2_pieceNumbered_25
    · refine lv_null hx hb dX2_pieceNumbered_13 ?_
      refine lv_goto (tgt := 25) hx hb dX2_pieceNumbered_14 (by decide) ?_
      exact W.aret hx hb hr (Or.inl ⟨_, rfl⟩) (va_rf_or (none)) (fun t ht hW => ⟨none, rfl, by rw [if_pos (cNo_t2 (by rw [nI_toInt (by omega)] at hc; omega))], ht⟩) t_nil dX2_pieceNumbered_25
set_option maxHeartbeats 4000000 in
set_option maxRecDepth 100000 in
theorem x_chainNumbered (l : Launch) (D : va_G) (ka : Nat → ClassId) (H0 : Heap) (ad : Nat → Nat → Nat) (np nc : Nat) (pe an up dn rw : Nat → Nat) (so : Nat → Bool) (mn : Nat → Nat) (wd : Nat → Bool) (wv : Nat → Int64) (x : Int32) (hX : XInv D ka ad np nc pe an up dn rw so mn wd wv H0) (hO : mOk np nc pe an up dn rw so mn wd wv) : Met l yX2_chainNumbered (.code yX2_chainNumbered cX2_chainNumbered 2 (some (.object "ChainSums$Chain")) :: gT) ({ frames := 0, cells := 0, slots := 0, locals := 0 }) (ro_Pc D vwCl (tyL ka) H0 [.ref (ad 0 0), .int x]) (va_Sq (fun r => r = (if cNo x nc = true then none else some (ad 4 x.toInt.toNat)))) 0 0 (fun _ => False) := by
  refine Met.ofW (cc := cX2_chainNumbered) (maxL := 2) (ret := (some (.object "ChainSums$Chain"))) (by decide) rfl ?_
  intro p e s m args below meth c s₁ B hml hv
  obtain ⟨rfl, hH, hK, hN⟩ := hv
  subst hH
  have hx := B.exec
  have hb := B.bytes
  have hr := B.returns
  have hts : ∀ w ∈ gT, w.before ([.ref (ad 0 0), .int x] : List Value).toArray s = true := fun w h => atoms_spec (ws := (.code yX2_chainNumbered cX2_chainNumbered 2 (some (.object "ChainSums$Chain")) :: gT)) B.pre w (List.mem_cons_of_mem _ h)
  have hown : s.vm.findClass RX2 = some m.cls := findClass_of_methodNamed B.named
  have hlocks := B.notSynchronized
  have hl := lv_entry ([.ref (ad 0 0), .int x]) (n := 2) (Nat.le_of_ble_eq_true rfl)
  rw [lg_entry_eq]
  generalize (lg_sl ([.ref (ad 0 0), .int x]) ++ List.replicate (2 - (lg_sl ([.ref (ad 0 0), .int x])).length) Slot.unset).toArray = ls at hl ⊢
  have hl : lv_has ls 2 [(0, .ref (ad 0 0)), (1, .int x)] := hl
  have hnp := hO.1
  have hnc := hO.2.1
  refine lv_iload_n hx hb dX2_chainNumbered_0 rfl (lv_at hl 1 rfl) ?_
  refine lv_iconst (v := nI 1) hx hb dX2_chainNumbered_1 (by decide) ?_
  refine r_icmp_lt (tgt := 13) hx hb dX2_chainNumbered_2 (by decide) (fun hc0 => ?_) (fun hc0 => ?_)
  · refine lv_null hx hb dX2_chainNumbered_13 ?_
    refine lv_goto (tgt := 25) hx hb dX2_chainNumbered_14 (by decide) ?_
    exact W.aret hx hb hr (Or.inl ⟨_, rfl⟩) (va_rf_or (none)) (fun t ht hW => ⟨none, rfl, by rw [if_pos (cNo_t1 (by rw [nI_toInt (by omega)] at hc0; omega))], ht⟩) t_nil dX2_chainNumbered_25
  · refine lv_iload_n hx hb dX2_chainNumbered_5 rfl (lv_at hl 1 rfl) ?_
    refine lv_aload_n hx hb dX2_chainNumbered_6 rfl (lv_at hl 0 rfl) ?_
    refine g_get (cl := vwCl) (ci := 2) (v := .int (nI nc)) hx hb hts inX2 hown hK hX.o rfl 3 (by decide) (hts _ tb_25) rfl dX2_chainNumbered_7 ?_
    refine r_icmp_le (tgt := 17) hx hb dX2_chainNumbered_10 (by decide) (fun hc => ?_) (fun hc => ?_)
    · have hno : cNo x nc = false := cNo_f (by rw [nI_toInt (by omega)] at hc0; omega) (by rw [nI_toInt (by omega)] at hc; omega)
      obtain ⟨ex, h1, h2⟩ := cNo_nI hno
      rw [ex] at hl
      refine lv_aload_n hx hb dX2_chainNumbered_17 rfl (lv_at hl 0 rfl) ?_
      refine g_get (cl := vwCl) (ci := 2) (v := .ref (ad 2 0)) hx hb hts inX2 hown hK hX.o rfl 1 (by decide) (hts _ tb_23) rfl dX2_chainNumbered_18 ?_
      refine lv_iload_n hx hb dX2_chainNumbered_21 rfl (lv_at hl 1 rfl) ?_
      refine lv_iconst (v := nI 1) hx hb dX2_chainNumbered_22 (by decide) ?_
      refine n_isub hx hb (by omega) dX2_chainNumbered_23 ?_
      refine g_aldr hx hb hK 1 hX.ca rfl (by omega) (by decide) (if_pos (by omega)) dX2_chainNumbered_24 ?_
      exact W.aret hx hb hr (Or.inl ⟨_, rfl⟩) (va_rf_or (some (ad 4 (x.toInt.toNat - 1 + 1)))) (fun t ht hW => ⟨some (ad 4 (x.toInt.toNat - 1 + 1)), rfl, by rw [hno, if_neg (by decide), Nat.sub_add_cancel h1], ht⟩) t_nil dX2_chainNumbered_25
    · refine lv_null hx hb dX2_chainNumbered_13 ?_
      refine lv_goto (tgt := 25) hx hb dX2_chainNumbered_14 (by decide) ?_
      exact W.aret hx hb hr (Or.inl ⟨_, rfl⟩) (va_rf_or (none)) (fun t ht hW => ⟨none, rfl, by rw [if_pos (cNo_t2 (by rw [nI_toInt (by omega)] at hc; omega))], ht⟩) t_nil dX2_chainNumbered_25
set_option maxHeartbeats 4000000 in
set_option maxRecDepth 100000 in
theorem x_filledChain (l : Launch) (D : va_G) (ka : Nat → ClassId) (H0 : Heap) (ad : Nat → Nat → Nat) (np nc : Nat) (pe an up dn rw : Nat → Nat) (so : Nat → Bool) (mn : Nat → Nat) (wd : Nat → Bool) (wv : Nat → Int64) (x : Int32) (hX : XInv D ka ad np nc pe an up dn rw so mn wd wv H0) (hO : mOk np nc pe an up dn rw so mn wd wv) : Met l yX2_filledChain (.code yX2_filledChain cX2_filledChain 3 (some (.object "ChainSums$Chain")) :: gT) ({ frames := 1, cells := 0, slots := 0, locals := 21 }) (ro_Pc D vwCl (tyL ka) H0 [.ref (ad 0 0), .int x]) (va_Sq (fun r => r = (if spEmp nc mn x = true then none else some (ad 4 x.toInt.toNat)))) 0 0 (fun _ => False) := by
  refine Met.ofW (cc := cX2_filledChain) (maxL := 3) (ret := (some (.object "ChainSums$Chain"))) (by decide) rfl ?_
  intro p e s m args below meth c s₁ B hml hv
  obtain ⟨rfl, hH, hK, hN⟩ := hv
  subst hH
  have hx := B.exec
  have hb := B.bytes
  have hr := B.returns
  have hts : ∀ w ∈ gT, w.before ([.ref (ad 0 0), .int x] : List Value).toArray s = true := fun w h => atoms_spec (ws := (.code yX2_filledChain cX2_filledChain 3 (some (.object "ChainSums$Chain")) :: gT)) B.pre w (List.mem_cons_of_mem _ h)
  have hown : s.vm.findClass RX2 = some m.cls := findClass_of_methodNamed B.named
  have hlocks := B.notSynchronized
  have hl := lv_entry ([.ref (ad 0 0), .int x]) (n := 3) (Nat.le_of_ble_eq_true rfl)
  rw [lg_entry_eq]
  generalize (lg_sl ([.ref (ad 0 0), .int x]) ++ List.replicate (3 - (lg_sl ([.ref (ad 0 0), .int x])).length) Slot.unset).toArray = ls at hl ⊢
  have hl : lv_has ls 3 [(0, .ref (ad 0 0)), (1, .int x)] := hl
  have hnp := hO.1
  have hnc := hO.2.1
  refine lv_aload_n hx hb dX2_filledChain_0 rfl (lv_at hl 0 rfl) ?_
  refine lv_iload_n hx hb dX2_filledChain_1 rfl (lv_at hl 1 rfl) ?_
  refine va_csq (va_Run.run (va_runV (As := [.int x]) (rest := []) ⟨hx, hb, hml, hown, hts⟩ (x_chainNumbered l D ka s.heap ad np nc pe an up dn rw so mn wd wv x hX hO) (cw_V 1 hts tb_98 rfl rfl tb_95 tb_1 tb_97 ts_0 (by decide +kernel) ⟨Nat.le_of_ble_eq_true rfl, Nat.le_of_ble_eq_true rfl⟩) (ro_V (ci := 2) hK hN hX.o rfl) rfl rfl hl.1 rfl (lv_room (Nat.le_of_ble_eq_true rfl)) dX2_filledChain_2 ⟨Nat.zero_le _, Nat.zero_le _⟩)) (fun r er => ?_)
  subst er
  by_cases q1 : cNo x nc = true
  · rw [if_pos q1, show va_rf none = Value.null from rfl]
    refine lv_astore_nN (lv' := [(2, .null), (0, .ref (ad 0 0)), (1, .int x)]) hx hb dX2_filledChain_5 rfl hl (by decide) rfl (fun ls hl => ?_)
    refine lv_aload_nN hx hb dX2_filledChain_6 rfl (lv_at hl 0 rfl) ?_
    refine lv_ifnullN (tgt := 17) hx hb dX2_filledChain_7 (by decide) ?_
    refine lv_null hx hb dX2_filledChain_17 ?_
    refine lv_goto (tgt := 22) hx hb dX2_filledChain_18 (by decide) ?_
    exact W.aret hx hb hr (Or.inl ⟨_, rfl⟩) (va_rf_or (none)) (fun t ht hW => ⟨none, rfl, by rw [if_pos (by rw [spEmp, q1]; rfl)], ht⟩) t_nil dX2_filledChain_22
  · rw [if_neg q1, show va_rf (some (ad 4 x.toInt.toNat)) = Value.ref (ad 4 x.toInt.toNat) from rfl]
    have q2 : cNo x nc = false := by simpa using q1
    obtain ⟨ex, h1, h2⟩ := cNo_nI q2
    have hCh := hX.ch hO h1 h2
    have hmn := (hO.2.2.2.1 x.toInt.toNat h1 h2).1
    refine lv_astore_n (lv' := [(2, .ref (ad 4 x.toInt.toNat)), (0, .ref (ad 0 0)), (1, .int x)]) hx hb dX2_filledChain_5 rfl hl (by decide) rfl (fun ls hl => ?_)
    refine lv_aload_n hx hb dX2_filledChain_6 rfl (lv_at hl 0 rfl) ?_
    refine lv_ifnull hx hb dX2_filledChain_7 ?_
    refine lv_aload_n hx hb dX2_filledChain_10 rfl (lv_at hl 0 rfl) ?_
    refine g_getN (cl := vwCl) (ci := 0) (v := .int (nI (mn x.toInt.toNat))) hx hb hts inX0 hown hK hCh.1 rfl 2 (by decide) (va_Nw.use rfl (hN _ tn_78 rfl)) rfl dX2_filledChain_11 ?_
    refine n_if_ne (tgt := 21) hx hb (by omega) dX2_filledChain_14 (by decide) (fun q3 => ?_) (fun q3 => ?_)
    · refine lv_aload_n hx hb dX2_filledChain_21 rfl (lv_at hl 0 rfl) ?_
      exact W.aret hx hb hr (Or.inl ⟨_, rfl⟩) (va_rf_or (some (ad 4 x.toInt.toNat))) (fun t ht hW => ⟨some (ad 4 x.toInt.toNat), rfl, by rw [if_neg (by rw [spEmp, q2, show (mn x.toInt.toNat == 0) = false from beq_eq_false_iff_ne.mpr q3]; decide)], ht⟩) t_nil dX2_filledChain_22
    · refine lv_null hx hb dX2_filledChain_17 ?_
      refine lv_goto (tgt := 22) hx hb dX2_filledChain_18 (by decide) ?_
      exact W.aret hx hb hr (Or.inl ⟨_, rfl⟩) (va_rf_or (none)) (fun t ht hW => ⟨none, rfl, by rw [if_pos (by rw [spEmp, q2, show (mn x.toInt.toNat == 0) = true from beq_iff_eq.mpr q3]; rfl)], ht⟩) t_nil dX2_filledChain_22
set_option maxHeartbeats 4000000 in
set_option maxRecDepth 100000 in
theorem x_worst (l : Launch) (D : va_G) (ka : Nat → ClassId) (H0 : Heap) (ad : Nat → Nat → Nat) (np nc : Nat) (pe an up dn rw : Nat → Nat) (so : Nat → Bool) (mn : Nat → Nat) (wd : Nat → Bool) (wv : Nat → Int64) (x : Int32) (ag : Bool) (hX : XInv D ka ad np nc pe an up dn rw so mn wd wv H0) (hO : mOk np nc pe an up dn rw so mn wd wv) : Met l yX2_worst (.code yX2_worst cX2_worst 4 (some .long) :: gT) ({ frames := 5, cells := 0, slots := 0, locals := 112 }) (ro_Pc D vwCl (tyL ka) H0 [.ref (ad 0 0), .int x, .int (bI ag)]) (vp_Sl (fun r => r = spWorst nc pe an up dn rw so mn x ag)) 0 0 (fun _ => False) := by
  refine Met.ofW (cc := cX2_worst) (maxL := 4) (ret := (some .long)) (by decide) rfl ?_
  intro p e s m args below meth c s₁ B hml hv
  obtain ⟨rfl, hH, hK, hN⟩ := hv
  subst hH
  have hx := B.exec
  have hb := B.bytes
  have hr := B.returns
  have hts : ∀ w ∈ gT, w.before ([.ref (ad 0 0), .int x, .int (bI ag)] : List Value).toArray s = true := fun w h => atoms_spec (ws := (.code yX2_worst cX2_worst 4 (some .long) :: gT)) B.pre w (List.mem_cons_of_mem _ h)
  have hown : s.vm.findClass RX2 = some m.cls := findClass_of_methodNamed B.named
  have hlocks := B.notSynchronized
  have hl := lv_entry ([.ref (ad 0 0), .int x, .int (bI ag)]) (n := 4) (Nat.le_of_ble_eq_true rfl)
  rw [lg_entry_eq]
  generalize (lg_sl ([.ref (ad 0 0), .int x, .int (bI ag)]) ++ List.replicate (4 - (lg_sl ([.ref (ad 0 0), .int x, .int (bI ag)])).length) Slot.unset).toArray = ls at hl ⊢
  have hl : lv_has ls 4 [(0, .ref (ad 0 0)), (1, .int x), (2, .int (bI ag))] := hl
  have hnp := hO.1
  have hnc := hO.2.1
  refine lv_aload_n hx hb dX2_worst_0 rfl (lv_at hl 0 rfl) ?_
  refine lv_iload_n hx hb dX2_worst_1 rfl (lv_at hl 1 rfl) ?_
  refine va_csq (va_Run.run (va_runV (As := [.int x]) (rest := []) ⟨hx, hb, hml, hown, hts⟩ (x_filledChain l D ka s.heap ad np nc pe an up dn rw so mn wd wv x hX hO) (cw_V 1 hts tb_118 rfl rfl tb_115 tb_1 tb_117 ts_4 (by decide +kernel) ⟨Nat.le_of_ble_eq_true rfl, Nat.le_of_ble_eq_true rfl⟩) (ro_V (ci := 2) hK hN hX.o rfl) rfl rfl hl.1 rfl (lv_room (Nat.le_of_ble_eq_true rfl)) dX2_worst_2 ⟨Nat.zero_le _, Nat.zero_le _⟩)) (fun r er => ?_)
  subst er
  by_cases q1 : spEmp nc mn x = true
  · rw [if_pos q1, show va_rf none = Value.null from rfl]
    refine lv_astore_nN (lv' := [(3, .null), (0, .ref (ad 0 0)), (1, .int x), (2, .int (bI ag))]) hx hb dX2_worst_5 rfl hl (by decide) rfl (fun ls hl => ?_)
    refine lv_aload_nN hx hb dX2_worst_6 rfl (lv_at hl 0 rfl) ?_
    refine lv_ifnonnullN hx hb dX2_worst_7 ?_
    refine lv_ldc2 (v := (-1)) hx hb hown (hts _ tb_119) dX2_worst_10 ?_
    exact W.lret (v := (-1)) hx hb hr (fun t ht hW => ⟨_, rfl, by rw [spWorst, if_pos q1], ht⟩) t_nil dX2_worst_13
  · rw [if_neg q1, show va_rf (some (ad 4 x.toInt.toNat)) = Value.ref (ad 4 x.toInt.toNat) from rfl]
    have q2 : spEmp nc mn x = false := by simpa using q1
    obtain ⟨ex, h1, h2, hn0⟩ := spEmp_f q2
    have hCh := hX.ch hO h1 h2
    have hmn := (hO.2.2.2.1 x.toInt.toNat h1 h2).1
    refine lv_astore_n (lv' := [(3, .ref (ad 4 x.toInt.toNat)), (0, .ref (ad 0 0)), (1, .int x), (2, .int (bI ag))]) hx hb dX2_worst_5 rfl hl (by decide) rfl (fun ls hl => ?_)
    refine lv_aload_n hx hb dX2_worst_6 rfl (lv_at hl 0 rfl) ?_
    refine lv_ifnonnull (tgt := 14) hx hb dX2_worst_7 (by decide) ?_
    refine lv_iload_n hx hb dX2_worst_14 rfl (lv_at hl 3 rfl) ?_
    refine b_if_eq (tgt := 25) hx hb dX2_worst_15 (by decide) (fun q3 => ?_) (fun q3 => ?_)
    · refine lv_aload_n hx hb dX2_worst_25 rfl (lv_at hl 0 rfl) ?_
      refine vp_callSl (va_Run.run (va_runVN (As := []) (rest := []) ⟨hx, hb, hml, hown, hts⟩ (c_worstReaction l D ka s.heap (ad 4 x.toInt.toNat) (ad 5 x.toInt.toNat) (ad 6 x.toInt.toNat) (mn x.toInt.toNat) (wiN wd wv x.toInt.toNat) (fun k => ad 3 (rw (12 * x.toInt.toNat + k))) (qS so x.toInt.toNat) (qF pe rw x.toInt.toNat) (qF an rw x.toInt.toNat) (qF up rw x.toInt.toNat) (qF dn rw x.toInt.toNat) hCh) (cw_VN 0 hts tb_134 rfl rfl (hN _ tn_139 rfl) tb_4 tb_133 ts_7 (by decide +kernel) ⟨Nat.le_of_ble_eq_true rfl, Nat.le_of_ble_eq_true rfl⟩) (ro_V (ci := 0) hK hN hCh.1 rfl) rfl rfl hl.1 rfl (lv_room (Nat.le_of_ble_eq_true rfl)) dX2_worst_26 ⟨Nat.zero_le _, Nat.zero_le _⟩)) (fun r er => ?_)
      subst er
      exact W.lret (v := lN (rea pe an up dn rw so mn x.toInt.toNat)) hx hb hr (fun t ht hW => ⟨_, rfl, by rw [spWorst, if_neg q1, if_neg (by rw [q3]; decide)], ht⟩) t_nil dX2_worst_29
    · refine lv_aload_n hx hb dX2_worst_18 rfl (lv_at hl 0 rfl) ?_
      refine vp_callSl (va_Run.run (va_runVN (As := []) (rest := []) ⟨hx, hb, hml, hown, hts⟩ (c_worstAge l D ka s.heap (ad 4 x.toInt.toNat) (ad 5 x.toInt.toNat) (ad 6 x.toInt.toNat) (mn x.toInt.toNat) (wiN wd wv x.toInt.toNat) (fun k => ad 3 (rw (12 * x.toInt.toNat + k))) (qS so x.toInt.toNat) (qF pe rw x.toInt.toNat) (qF an rw x.toInt.toNat) (qF up rw x.toInt.toNat) (qF dn rw x.toInt.toNat) hCh hn0) (cw_VN 0 hts tb_123 rfl rfl (hN _ tn_120 rfl) tb_4 tb_122 ts_5 (by decide +kernel) ⟨Nat.le_of_ble_eq_true rfl, Nat.le_of_ble_eq_true rfl⟩) (ro_V (ci := 0) hK hN hCh.1 rfl) rfl rfl hl.1 rfl (lv_room (Nat.le_of_ble_eq_true rfl)) dX2_worst_19 ⟨Nat.zero_le _, Nat.zero_le _⟩)) (fun r er => ?_)
      subst er
      refine lv_goto (tgt := 29) hx hb dX2_worst_22 (by decide) ?_
      exact W.lret (v := lN (ageN pe an up dn rw so mn x.toInt.toNat)) hx hb hr (fun t ht hW => ⟨_, rfl, by rw [spWorst, if_neg q1, if_pos q3], ht⟩) t_nil dX2_worst_29
set_option maxHeartbeats 4000000 in
set_option maxRecDepth 100000 in
theorem x_best (l : Launch) (D : va_G) (ka : Nat → ClassId) (H0 : Heap) (ad : Nat → Nat → Nat) (np nc : Nat) (pe an up dn rw : Nat → Nat) (so : Nat → Bool) (mn : Nat → Nat) (wd : Nat → Bool) (wv : Nat → Int64) (x : Int32) (ag : Bool) (hX : XInv D ka ad np nc pe an up dn rw so mn wd wv H0) (hO : mOk np nc pe an up dn rw so mn wd wv) : Met l yX2_best (.code yX2_best cX2_best 4 (some .long) :: gT) ({ frames := 2, cells := 0, slots := 0, locals := 43 }) (ro_Pc D vwCl (tyL ka) H0 [.ref (ad 0 0), .int x, .int (bI ag)]) (vp_Sl (fun r => r = spBest nc an rw mn x ag)) 0 0 (fun _ => False) := by
  refine Met.ofW (cc := cX2_best) (maxL := 4) (ret := (some .long)) (by decide) rfl ?_
  intro p e s m args below meth c s₁ B hml hv
  obtain ⟨rfl, hH, hK, hN⟩ := hv
  subst hH
  have hx := B.exec
  have hb := B.bytes
  have hr := B.returns
  have hts : ∀ w ∈ gT, w.before ([.ref (ad 0 0), .int x, .int (bI ag)] : List Value).toArray s = true := fun w h => atoms_spec (ws := (.code yX2_best cX2_best 4 (some .long) :: gT)) B.pre w (List.mem_cons_of_mem _ h)
  have hown : s.vm.findClass RX2 = some m.cls := findClass_of_methodNamed B.named
  have hlocks := B.notSynchronized
  have hl := lv_entry ([.ref (ad 0 0), .int x, .int (bI ag)]) (n := 4) (Nat.le_of_ble_eq_true rfl)
  rw [lg_entry_eq]
  generalize (lg_sl ([.ref (ad 0 0), .int x, .int (bI ag)]) ++ List.replicate (4 - (lg_sl ([.ref (ad 0 0), .int x, .int (bI ag)])).length) Slot.unset).toArray = ls at hl ⊢
  have hl : lv_has ls 4 [(0, .ref (ad 0 0)), (1, .int x), (2, .int (bI ag))] := hl
  have hnp := hO.1
  have hnc := hO.2.1
  refine lv_aload_n hx hb dX2_best_0 rfl (lv_at hl 0 rfl) ?_
  refine lv_iload_n hx hb dX2_best_1 rfl (lv_at hl 1 rfl) ?_
  refine va_csq (va_Run.run (va_runV (As := [.int x]) (rest := []) ⟨hx, hb, hml, hown, hts⟩ (x_filledChain l D ka s.heap ad np nc pe an up dn rw so mn wd wv x hX hO) (cw_V 1 hts tb_118 rfl rfl tb_115 tb_1 tb_117 ts_4 (by decide +kernel) ⟨Nat.le_of_ble_eq_true rfl, Nat.le_of_ble_eq_true rfl⟩) (ro_V (ci := 2) hK hN hX.o rfl) rfl rfl hl.1 rfl (lv_room (Nat.le_of_ble_eq_true rfl)) dX2_best_2 ⟨Nat.zero_le _, Nat.zero_le _⟩)) (fun r er => ?_)
  subst er
  by_cases q1 : spEmp nc mn x = true
  · rw [if_pos q1, show va_rf none = Value.null from rfl]
    refine lv_astore_nN (lv' := [(3, .null), (0, .ref (ad 0 0)), (1, .int x), (2, .int (bI ag))]) hx hb dX2_best_5 rfl hl (by decide) rfl (fun ls hl => ?_)
    refine lv_aload_nN hx hb dX2_best_6 rfl (lv_at hl 0 rfl) ?_
    refine lv_ifnonnullN hx hb dX2_best_7 ?_
    refine lv_ldc2 (v := (-1)) hx hb hown (hts _ tb_119) dX2_best_10 ?_
    exact W.lret (v := (-1)) hx hb hr (fun t ht hW => ⟨_, rfl, by rw [spBest, if_pos q1], ht⟩) t_nil dX2_best_13
  · rw [if_neg q1, show va_rf (some (ad 4 x.toInt.toNat)) = Value.ref (ad 4 x.toInt.toNat) from rfl]
    have q2 : spEmp nc mn x = false := by simpa using q1
    obtain ⟨ex, h1, h2, hn0⟩ := spEmp_f q2
    have hCh := hX.ch hO h1 h2
    have hmn := (hO.2.2.2.1 x.toInt.toNat h1 h2).1
    refine lv_astore_n (lv' := [(3, .ref (ad 4 x.toInt.toNat)), (0, .ref (ad 0 0)), (1, .int x), (2, .int (bI ag))]) hx hb dX2_best_5 rfl hl (by decide) rfl (fun ls hl => ?_)
    refine lv_aload_n hx hb dX2_best_6 rfl (lv_at hl 0 rfl) ?_
    refine lv_ifnonnull (tgt := 14) hx hb dX2_best_7 (by decide) ?_
    refine lv_aload_n hx hb dX2_best_14 rfl (lv_at hl 0 rfl) ?_
    refine lv_iload_n hx hb dX2_best_15 rfl (lv_at hl 3 rfl) ?_
    refine b_if_eq (tgt := 23) hx hb dX2_best_16 (by decide) (fun q3 => ?_) (fun q3 => ?_)
    · refine lv_iconst (v := nI 0) hx hb dX2_best_23 (by decide) ?_
      refine vp_callSl (va_Run.run (va_runVN (As := [.int (nI 0)]) (rest := []) ⟨hx, hb, hml, hown, hts⟩ (c_answersFrom l D ka s.heap (ad 4 x.toInt.toNat) (ad 5 x.toInt.toNat) (ad 6 x.toInt.toNat) (mn x.toInt.toNat) (wiN wd wv x.toInt.toNat) (fun k => ad 3 (rw (12 * x.toInt.toNat + k))) (qS so x.toInt.toNat) (qF pe rw x.toInt.toNat) (qF an rw x.toInt.toNat) (qF up rw x.toInt.toNat) (qF dn rw x.toInt.toNat) 0 hCh (by omega)) (cw_VN 1 hts tb_147 rfl rfl (hN _ tn_144 rfl) tb_4 tb_146 ts_9 (by decide +kernel) ⟨Nat.le_of_ble_eq_true rfl, Nat.le_of_ble_eq_true rfl⟩) (ro_V (ci := 0) hK hN hCh.1 rfl) rfl rfl hl.1 rfl (lv_room (Nat.le_of_ble_eq_true rfl)) dX2_best_24 ⟨Nat.zero_le _, Nat.zero_le _⟩)) (fun r er => ?_)
      subst er
      exact W.lret (v := lN (sumN (qF an rw x.toInt.toNat) (mn x.toInt.toNat) - sumN (qF an rw x.toInt.toNat) 0)) hx hb hr (fun t ht hW => ⟨_, rfl, by rw [spBest, if_neg q1, if_neg (by rw [q3]; decide)], ht⟩) t_nil dX2_best_27
    · refine lv_iconst (v := nI 1) hx hb dX2_best_19 (by decide) ?_
      refine lv_goto (tgt := 24) hx hb dX2_best_20 (by decide) ?_
      refine vp_callSl (va_Run.run (va_runVN (As := [.int (nI 1)]) (rest := []) ⟨hx, hb, hml, hown, hts⟩ (c_answersFrom l D ka s.heap (ad 4 x.toInt.toNat) (ad 5 x.toInt.toNat) (ad 6 x.toInt.toNat) (mn x.toInt.toNat) (wiN wd wv x.toInt.toNat) (fun k => ad 3 (rw (12 * x.toInt.toNat + k))) (qS so x.toInt.toNat) (qF pe rw x.toInt.toNat) (qF an rw x.toInt.toNat) (qF up rw x.toInt.toNat) (qF dn rw x.toInt.toNat) 1 hCh (by omega)) (cw_VN 1 hts tb_147 rfl rfl (hN _ tn_144 rfl) tb_4 tb_146 ts_9 (by decide +kernel) ⟨Nat.le_of_ble_eq_true rfl, Nat.le_of_ble_eq_true rfl⟩) (ro_V (ci := 0) hK hN hCh.1 rfl) rfl rfl hl.1 rfl (lv_room (Nat.le_of_ble_eq_true rfl)) dX2_best_24 ⟨Nat.zero_le _, Nat.zero_le _⟩)) (fun r er => ?_)
      subst er
      exact W.lret (v := lN (sumN (qF an rw x.toInt.toNat) (mn x.toInt.toNat) - sumN (qF an rw x.toInt.toNat) 1)) hx hb hr (fun t ht hW => ⟨_, rfl, by rw [spBest, if_neg q1, if_pos q3], ht⟩) t_nil dX2_best_27
set_option maxHeartbeats 4000000 in
set_option maxRecDepth 100000 in
theorem x_plain (l : Launch) (D : va_G) (ka : Nat → ClassId) (H0 : Heap) (ad : Nat → Nat → Nat) (np nc : Nat) (pe an up dn rw : Nat → Nat) (so : Nat → Bool) (mn : Nat → Nat) (wd : Nat → Bool) (wv : Nat → Int64) (x : Int32) (hX : XInv D ka ad np nc pe an up dn rw so mn wd wv H0) (hO : mOk np nc pe an up dn rw so mn wd wv) : Met l yX2_plain (.code yX2_plain cX2_plain 3 (some .boolean) :: gT) ({ frames := 4, cells := 0, slots := 0, locals := 99 }) (ro_Pc D vwCl (tyL ka) H0 [.ref (ad 0 0), .int x]) (vp_Si (fun r => r = bI (spPlain nc pe up rw so mn x))) 0 0 (fun _ => False) := by
  refine Met.ofW (cc := cX2_plain) (maxL := 3) (ret := (some .boolean)) (by decide) rfl ?_
  intro p e s m args below meth c s₁ B hml hv
  obtain ⟨rfl, hH, hK, hN⟩ := hv
  subst hH
  have hx := B.exec
  have hb := B.bytes
  have hr := B.returns
  have hts : ∀ w ∈ gT, w.before ([.ref (ad 0 0), .int x] : List Value).toArray s = true := fun w h => atoms_spec (ws := (.code yX2_plain cX2_plain 3 (some .boolean) :: gT)) B.pre w (List.mem_cons_of_mem _ h)
  have hown : s.vm.findClass RX2 = some m.cls := findClass_of_methodNamed B.named
  have hlocks := B.notSynchronized
  have hl := lv_entry ([.ref (ad 0 0), .int x]) (n := 3) (Nat.le_of_ble_eq_true rfl)
  rw [lg_entry_eq]
  generalize (lg_sl ([.ref (ad 0 0), .int x]) ++ List.replicate (3 - (lg_sl ([.ref (ad 0 0), .int x])).length) Slot.unset).toArray = ls at hl ⊢
  have hl : lv_has ls 3 [(0, .ref (ad 0 0)), (1, .int x)] := hl
  have hnp := hO.1
  have hnc := hO.2.1
  refine lv_aload_n hx hb dX2_plain_0 rfl (lv_at hl 0 rfl) ?_
  refine lv_iload_n hx hb dX2_plain_1 rfl (lv_at hl 1 rfl) ?_
  refine va_csq (va_Run.run (va_runV (As := [.int x]) (rest := []) ⟨hx, hb, hml, hown, hts⟩ (x_filledChain l D ka s.heap ad np nc pe an up dn rw so mn wd wv x hX hO) (cw_V 1 hts tb_118 rfl rfl tb_115 tb_1 tb_117 ts_4 (by decide +kernel) ⟨Nat.le_of_ble_eq_true rfl, Nat.le_of_ble_eq_true rfl⟩) (ro_V (ci := 2) hK hN hX.o rfl) rfl rfl hl.1 rfl (lv_room (Nat.le_of_ble_eq_true rfl)) dX2_plain_2 ⟨Nat.zero_le _, Nat.zero_le _⟩)) (fun r er => ?_)
  subst er
  by_cases q1 : spEmp nc mn x = true
  · rw [if_pos q1, show va_rf none = Value.null from rfl]
    refine lv_astore_nN (lv' := [(2, .null), (0, .ref (ad 0 0)), (1, .int x)]) hx hb dX2_plain_5 rfl hl (by decide) rfl (fun ls hl => ?_)
    refine lv_aload_nN hx hb dX2_plain_6 rfl (lv_at hl 0 rfl) ?_
    refine lv_ifnullN (tgt := 21) hx hb dX2_plain_7 (by decide) ?_
    refine lv_iconst (v := nI 0) hx hb dX2_plain_21 (by decide) ?_
    exact W.zret (v := nI 0) (ty := .boolean) hx hb hr (by decide) (fun t ht hW => ⟨_, rfl, by rw [spPlain, q1]; rfl, ht⟩) t_nil dX2_plain_22
  · rw [if_neg q1, show va_rf (some (ad 4 x.toInt.toNat)) = Value.ref (ad 4 x.toInt.toNat) from rfl]
    have q2 : spEmp nc mn x = false := by simpa using q1
    obtain ⟨ex, h1, h2, hn0⟩ := spEmp_f q2
    have hCh := hX.ch hO h1 h2
    have hmn := (hO.2.2.2.1 x.toInt.toNat h1 h2).1
    refine lv_astore_n (lv' := [(2, .ref (ad 4 x.toInt.toNat)), (0, .ref (ad 0 0)), (1, .int x)]) hx hb dX2_plain_5 rfl hl (by decide) rfl (fun ls hl => ?_)
    refine lv_aload_n hx hb dX2_plain_6 rfl (lv_at hl 0 rfl) ?_
    refine lv_ifnull hx hb dX2_plain_7 ?_
    refine lv_aload_n hx hb dX2_plain_10 rfl (lv_at hl 0 rfl) ?_
    refine vp_callSi (va_Run.run (va_runVN (As := []) (rest := []) ⟨hx, hb, hml, hown, hts⟩ (c_canBeStepped l D ka s.heap (ad 4 x.toInt.toNat) (ad 5 x.toInt.toNat) (ad 6 x.toInt.toNat) (mn x.toInt.toNat) (wiN wd wv x.toInt.toNat) (fun k => ad 3 (rw (12 * x.toInt.toNat + k))) (qS so x.toInt.toNat) (qF pe rw x.toInt.toNat) (qF an rw x.toInt.toNat) (qF up rw x.toInt.toNat) (qF dn rw x.toInt.toNat) hCh) (cw_VN 0 hts tb_179 rfl rfl (hN _ tn_176 rfl) tb_4 tb_178 ts_12 (by decide +kernel) ⟨Nat.le_of_ble_eq_true rfl, Nat.le_of_ble_eq_true rfl⟩) (ro_V (ci := 0) hK hN hCh.1 rfl) rfl rfl hl.1 rfl (lv_room (Nat.le_of_ble_eq_true rfl)) dX2_plain_11 ⟨Nat.zero_le _, Nat.zero_le _⟩)) (fun r er => ?_)
    subst er
    refine b_if_eq (tgt := 21) hx hb dX2_plain_14 (by decide) (fun q3 => ?_) (fun q3 => ?_)
    · refine lv_iconst (v := nI 0) hx hb dX2_plain_21 (by decide) ?_
      exact W.zret (v := nI 0) (ty := .boolean) hx hb hr (by decide) (fun t ht hW => ⟨_, rfl, by rw [spPlain, q2, q3]; rfl, ht⟩) t_nil dX2_plain_22
    · refine lv_iconst (v := nI 1) hx hb dX2_plain_17 (by decide) ?_
      refine lv_goto (tgt := 22) hx hb dX2_plain_18 (by decide) ?_
      exact W.zret (v := nI 1) (ty := .boolean) hx hb hr (by decide) (fun t ht hW => ⟨_, rfl, by rw [spPlain, q2, q3]; rfl, ht⟩) t_nil dX2_plain_22
set_option maxHeartbeats 4000000 in
set_option maxRecDepth 100000 in
theorem x_stepped (l : Launch) (D : va_G) (ka : Nat → ClassId) (H0 : Heap) (ad : Nat → Nat → Nat) (np nc : Nat) (pe an up dn rw : Nat → Nat) (so : Nat → Bool) (mn : Nat → Nat) (wd : Nat → Bool) (wv : Nat → Int64) (x : Int32) (hX : XInv D ka ad np nc pe an up dn rw so mn wd wv H0) (hO : mOk np nc pe an up dn rw so mn wd wv) : Met l yX2_stepped (.code yX2_stepped cX2_stepped 3 (some .long) :: gT) ({ frames := 4, cells := 0, slots := 0, locals := 107 }) (ro_Pc D vwCl (tyL ka) H0 [.ref (ad 0 0), .int x]) (vp_Sl (fun r => r = spStep nc pe an up dn rw so mn x)) 0 0 (fun _ => False) := by
  refine Met.ofW (cc := cX2_stepped) (maxL := 3) (ret := (some .long)) (by decide) rfl ?_
  intro p e s m args below meth c s₁ B hml hv
  obtain ⟨rfl, hH, hK, hN⟩ := hv
  subst hH
  have hx := B.exec
  have hb := B.bytes
  have hr := B.returns
  have hts : ∀ w ∈ gT, w.before ([.ref (ad 0 0), .int x] : List Value).toArray s = true := fun w h => atoms_spec (ws := (.code yX2_stepped cX2_stepped 3 (some .long) :: gT)) B.pre w (List.mem_cons_of_mem _ h)
  have hown : s.vm.findClass RX2 = some m.cls := findClass_of_methodNamed B.named
  have hlocks := B.notSynchronized
  have hl := lv_entry ([.ref (ad 0 0), .int x]) (n := 3) (Nat.le_of_ble_eq_true rfl)
  rw [lg_entry_eq]
  generalize (lg_sl ([.ref (ad 0 0), .int x]) ++ List.replicate (3 - (lg_sl ([.ref (ad 0 0), .int x])).length) Slot.unset).toArray = ls at hl ⊢
  have hl : lv_has ls 3 [(0, .ref (ad 0 0)), (1, .int x)] := hl
  have hnp := hO.1
  have hnc := hO.2.1
  refine lv_aload_n hx hb dX2_stepped_0 rfl (lv_at hl 0 rfl) ?_
  refine lv_iload_n hx hb dX2_stepped_1 rfl (lv_at hl 1 rfl) ?_
  refine va_csq (va_Run.run (va_runV (As := [.int x]) (rest := []) ⟨hx, hb, hml, hown, hts⟩ (x_filledChain l D ka s.heap ad np nc pe an up dn rw so mn wd wv x hX hO) (cw_V 1 hts tb_118 rfl rfl tb_115 tb_1 tb_117 ts_4 (by decide +kernel) ⟨Nat.le_of_ble_eq_true rfl, Nat.le_of_ble_eq_true rfl⟩) (ro_V (ci := 2) hK hN hX.o rfl) rfl rfl hl.1 rfl (lv_room (Nat.le_of_ble_eq_true rfl)) dX2_stepped_2 ⟨Nat.zero_le _, Nat.zero_le _⟩)) (fun r er => ?_)
  subst er
  by_cases q1 : spEmp nc mn x = true
  · rw [if_pos q1, show va_rf none = Value.null from rfl]
    refine lv_astore_nN (lv' := [(2, .null), (0, .ref (ad 0 0)), (1, .int x)]) hx hb dX2_stepped_5 rfl hl (by decide) rfl (fun ls hl => ?_)
    refine lv_aload_nN hx hb dX2_stepped_6 rfl (lv_at hl 0 rfl) ?_
    refine lv_ifnonnullN hx hb dX2_stepped_7 ?_
    refine lv_ldc2 (v := (-1)) hx hb hown (hts _ tb_119) dX2_stepped_10 ?_
    exact W.lret (v := (-1)) hx hb hr (fun t ht hW => ⟨_, rfl, by rw [spStep, if_pos q1], ht⟩) t_nil dX2_stepped_13
  · rw [if_neg q1, show va_rf (some (ad 4 x.toInt.toNat)) = Value.ref (ad 4 x.toInt.toNat) from rfl]
    have q2 : spEmp nc mn x = false := by simpa using q1
    obtain ⟨ex, h1, h2, hn0⟩ := spEmp_f q2
    have hCh := hX.ch hO h1 h2
    have hmn := (hO.2.2.2.1 x.toInt.toNat h1 h2).1
    refine lv_astore_n (lv' := [(2, .ref (ad 4 x.toInt.toNat)), (0, .ref (ad 0 0)), (1, .int x)]) hx hb dX2_stepped_5 rfl hl (by decide) rfl (fun ls hl => ?_)
    refine lv_aload_n hx hb dX2_stepped_6 rfl (lv_at hl 0 rfl) ?_
    refine lv_ifnonnull (tgt := 14) hx hb dX2_stepped_7 (by decide) ?_
    refine lv_aload_n hx hb dX2_stepped_14 rfl (lv_at hl 0 rfl) ?_
    refine vp_callSi (va_Run.run (va_runVN (As := []) (rest := []) ⟨hx, hb, hml, hown, hts⟩ (c_canBeStepped l D ka s.heap (ad 4 x.toInt.toNat) (ad 5 x.toInt.toNat) (ad 6 x.toInt.toNat) (mn x.toInt.toNat) (wiN wd wv x.toInt.toNat) (fun k => ad 3 (rw (12 * x.toInt.toNat + k))) (qS so x.toInt.toNat) (qF pe rw x.toInt.toNat) (qF an rw x.toInt.toNat) (qF up rw x.toInt.toNat) (qF dn rw x.toInt.toNat) hCh) (cw_VN 0 hts tb_179 rfl rfl (hN _ tn_176 rfl) tb_4 tb_178 ts_12 (by decide +kernel) ⟨Nat.le_of_ble_eq_true rfl, Nat.le_of_ble_eq_true rfl⟩) (ro_V (ci := 0) hK hN hCh.1 rfl) rfl rfl hl.1 rfl (lv_room (Nat.le_of_ble_eq_true rfl)) dX2_stepped_15 ⟨Nat.zero_le _, Nat.zero_le _⟩)) (fun r er => ?_)
    subst er
    refine b_if_eq (tgt := 28) hx hb dX2_stepped_18 (by decide) (fun q3 => ?_) (fun q3 => ?_)
    · refine lv_aload_n hx hb dX2_stepped_28 rfl (lv_at hl 0 rfl) ?_
      refine vp_callSl (va_Run.run (va_runVN (As := []) (rest := []) ⟨hx, hb, hml, hown, hts⟩ (c_worstReaction l D ka s.heap (ad 4 x.toInt.toNat) (ad 5 x.toInt.toNat) (ad 6 x.toInt.toNat) (mn x.toInt.toNat) (wiN wd wv x.toInt.toNat) (fun k => ad 3 (rw (12 * x.toInt.toNat + k))) (qS so x.toInt.toNat) (qF pe rw x.toInt.toNat) (qF an rw x.toInt.toNat) (qF up rw x.toInt.toNat) (qF dn rw x.toInt.toNat) hCh) (cw_VN 0 hts tb_134 rfl rfl (hN _ tn_139 rfl) tb_4 tb_133 ts_7 (by decide +kernel) ⟨Nat.le_of_ble_eq_true rfl, Nat.le_of_ble_eq_true rfl⟩) (ro_V (ci := 0) hK hN hCh.1 rfl) rfl rfl hl.1 rfl (lv_room (Nat.le_of_ble_eq_true rfl)) dX2_stepped_29 ⟨Nat.zero_le _, Nat.zero_le _⟩)) (fun r er => ?_)
      subst er
      exact W.lret (v := lN (rea pe an up dn rw so mn x.toInt.toNat)) hx hb hr (fun t ht hW => ⟨_, rfl, by rw [spStep, if_neg q1, if_neg (by rw [q3]; decide)], ht⟩) t_nil dX2_stepped_32
    · have hcy := canN_cyc q3
      have hse := step_eq hO h1 h2 hn0 hcy
      refine lv_aload_n hx hb dX2_stepped_21 rfl (lv_at hl 0 rfl) ?_
      refine vp_callSl (va_Run.run (va_runVN (As := []) (rest := []) ⟨hx, hb, hml, hown, hts⟩ (c_longestByStepping l D ka s.heap (ad 4 x.toInt.toNat) (ad 5 x.toInt.toNat) (ad 6 x.toInt.toNat) (mn x.toInt.toNat) (wiN wd wv x.toInt.toNat) (fun k => ad 3 (rw (12 * x.toInt.toNat + k))) (qS so x.toInt.toNat) (qF pe rw x.toInt.toNat) (qF an rw x.toInt.toNat) (qF up rw x.toInt.toNat) (qF dn rw x.toInt.toNat) hCh hn0 hcy) (cw_VN 0 hts tb_202 rfl rfl (hN _ tn_199 rfl) tb_4 tb_201 ts_15 (by decide +kernel) ⟨Nat.le_of_ble_eq_true rfl, Nat.le_of_ble_eq_true rfl⟩) (ro_V (ci := 0) hK hN hCh.1 rfl) rfl rfl hl.1 rfl (lv_room (Nat.le_of_ble_eq_true rfl)) dX2_stepped_22 ⟨Nat.zero_le _, Nat.zero_le _⟩)) (fun r er => ?_)
      subst er
      refine lv_goto (tgt := 32) hx hb dX2_stepped_25 (by decide) ?_
      exact W.lret (v := lN (qF pe rw x.toInt.toNat 0 - 1 + mxN (fun k => stp (qS so x.toInt.toNat) (qF pe rw x.toInt.toNat) (qF an rw x.toInt.toNat) (k * qF pe rw x.toInt.toNat 0) (mn x.toInt.toNat) - k * qF pe rw x.toInt.toNat 0) (cyc (fun i => qS so x.toInt.toNat i || !true) (qF pe rw x.toInt.toNat) (mn x.toInt.toNat) / qF pe rw x.toInt.toNat 0))) hx hb hr (fun t ht hW => ⟨_, rfl, by rw [spStep, if_neg q1, if_pos q3, ← hse], ht⟩) t_nil dX2_stepped_32
set_option maxHeartbeats 4000000 in
set_option maxRecDepth 100000 in
theorem x_wishesKept (l : Launch) (D : va_G) (ka : Nat → ClassId) (H0 : Heap) (ad : Nat → Nat → Nat) (np nc : Nat) (pe an up dn rw : Nat → Nat) (so : Nat → Bool) (mn : Nat → Nat) (wd : Nat → Bool) (wv : Nat → Int64) (hX : XInv D ka ad np nc pe an up dn rw so mn wd wv H0) (hO : mOk np nc pe an up dn rw so mn wd wv) : Met l yX2_wishesKept (.code yX2_wishesKept cX2_wishesKept 3 (some .int) :: gT) ({ frames := 5, cells := 0, slots := 0, locals := 107 }) (ro_Pc D vwCl (tyL ka) H0 [.ref (ad 0 0)]) (vp_Si (fun r => r = nI (cntN (kept pe an up dn rw so mn wd wv) nc))) 0 0 (fun _ => False) := by
  refine Met.ofW (cc := cX2_wishesKept) (maxL := 3) (ret := (some .int)) (by decide) rfl ?_
  intro p e s m args below meth c s₁ B hml hv
  obtain ⟨rfl, hH, hK, hN⟩ := hv
  subst hH
  have hx := B.exec
  have hb := B.bytes
  have hr := B.returns
  have hts : ∀ w ∈ gT, w.before ([.ref (ad 0 0)] : List Value).toArray s = true := fun w h => atoms_spec (ws := (.code yX2_wishesKept cX2_wishesKept 3 (some .int) :: gT)) B.pre w (List.mem_cons_of_mem _ h)
  have hown : s.vm.findClass RX2 = some m.cls := findClass_of_methodNamed B.named
  have hlocks := B.notSynchronized
  have hl := lv_entry ([.ref (ad 0 0)]) (n := 3) (Nat.le_of_ble_eq_true rfl)
  rw [lg_entry_eq]
  generalize (lg_sl ([.ref (ad 0 0)]) ++ List.replicate (3 - (lg_sl ([.ref (ad 0 0)])).length) Slot.unset).toArray = ls at hl ⊢
  have hl : lv_has ls 3 [(0, .ref (ad 0 0))] := hl
  have hnp := hO.1
  have hnc := hO.2.1
  refine lv_iconst (v := nI 0) hx hb dX2_wishesKept_0 (by decide) ?_
  refine lv_istore_n (lv' := [(1, .int (nI 0)), (0, .ref (ad 0 0))]) hx hb dX2_wishesKept_1 rfl hl (by decide) rfl (fun ls hl => ?_)
  refine lv_iconst (v := nI 0) hx hb dX2_wishesKept_2 (by decide) ?_
  refine lv_istore_n (lv' := [(2, .int (nI 0)), (1, .int (nI 0)), (0, .ref (ad 0 0))]) hx hb dX2_wishesKept_3 rfl hl (by decide) rfl (fun ls hl => ?_)
  have loop : ∀ (fu i : Nat), i ≤ nc → nc < i + fu → ∀ ls : Array Slot, lv_has ls 3 [(2, .int (nI i)), (1, .int (nI (cntN (kept pe an up dn rw so mn wd wv) i))), (0, .ref (ad 0 0))] → W p l e (headSpec (.code yX2_wishesKept cX2_wishesKept 3 (some .int) :: gT) ({ frames := 5, cells := 0, slots := 0, locals := 107 })).room s m ([.ref (ad 0 0)] : List Value).toArray below meth c s.heap [] 0 0 (MQ below (vp_Si (fun r => r = nI (cntN (kept pe an up dn rw so mn wd wv) nc))) ([.ref (ad 0 0)] : List Value).toArray s 0 0 (fun _ => False)) (F0 m 4 ls []) := by
    intro fu
    induction fu with
    | zero => intro i h1 h2; exact absurd h2 (by omega)
    | succ fu ih =>
      intro i hi hf  ls hl
      refine lv_iload_n hx hb dX2_wishesKept_4 rfl (lv_at hl 0 rfl) ?_
      refine lv_aload_n hx hb dX2_wishesKept_5 rfl (lv_at hl 2 rfl) ?_
      refine g_get (cl := vwCl) (ci := 2) (v := .int (nI nc)) hx hb hts inX2 hown hK hX.o rfl 3 (by decide) (hts _ tb_25) rfl dX2_wishesKept_6 ?_
      refine n_icmp_ge (tgt := 33) hx hb (by omega) (by omega) dX2_wishesKept_9 (by decide) (fun hc => ?_) (fun hc => ?_)
      · refine lv_iload_n hx hb dX2_wishesKept_33 rfl (lv_at hl 1 rfl) ?_
        exact W.iret (v := nI (cntN (kept pe an up dn rw so mn wd wv) i)) hx hb hr (fun t ht hW => ⟨_, rfl, by rw [show i = nc by omega], ht⟩) t_nil dX2_wishesKept_34
      · have hCh := hX.ch hO (c := i + 1) (by omega) (by omega)
        have hkp := kp_kept hO (c := i + 1) (by omega) (by omega)
        refine lv_aload_n hx hb dX2_wishesKept_12 rfl (lv_at hl 2 rfl) ?_
        refine g_get (cl := vwCl) (ci := 2) (v := .ref (ad 2 0)) hx hb hts inX2 hown hK hX.o rfl 1 (by decide) (hts _ tb_23) rfl dX2_wishesKept_13 ?_
        refine lv_iload_n hx hb dX2_wishesKept_16 rfl (lv_at hl 0 rfl) ?_
        refine g_aldr hx hb hK 1 hX.ca rfl (by omega) (by decide) (if_pos (by omega)) dX2_wishesKept_17 ?_
        refine vp_callSi (va_Run.run (va_runVN (As := []) (rest := []) ⟨hx, hb, hml, hown, hts⟩ (c_keepsWish l D ka s.heap (ad 4 (i + 1)) (ad 5 (i + 1)) (ad 6 (i + 1)) (mn (i + 1)) (wiN wd wv (i + 1)) (fun k => ad 3 (rw (12 * (i + 1) + k))) (qS so (i + 1)) (qF pe rw (i + 1)) (qF an rw (i + 1)) (qF up rw (i + 1)) (qF dn rw (i + 1)) hCh) (cw_VN 0 hts tb_161 rfl rfl (hN _ tn_158 rfl) tb_4 tb_160 ts_10 (by decide +kernel) ⟨Nat.le_of_ble_eq_true rfl, Nat.le_of_ble_eq_true rfl⟩) (ro_V (ci := 0) hK hN hCh.1 rfl) rfl rfl hl.1 rfl (lv_room (Nat.le_of_ble_eq_true rfl)) dX2_wishesKept_18 ⟨Nat.zero_le _, Nat.zero_le _⟩)) (fun r er => ?_)
        subst er
        rw [hkp]
        refine b_if_eq (tgt := 27) hx hb dX2_wishesKept_21 (by decide) (fun q3 => ?_) (fun q3 => ?_)
        · refine lv_iinc (v := nI (i + 1)) (lv' := [(2, .int (nI (i + 1))), (1, .int (nI (cntN (kept pe an up dn rw so mn wd wv) i))), (0, .ref (ad 0 0))]) hx hb dX2_wishesKept_27 hl (k := 0) rfl (nI_add i 1) (by decide) rfl (fun ls hl => ?_)
          refine lv_goto (tgt := 4) hx hb dX2_wishesKept_30 (by decide) ?_
          have e1 : cntN (kept pe an up dn rw so mn wd wv) (i + 1) = cntN (kept pe an up dn rw so mn wd wv) i := by show (if _ then _ else _) = _; rw [if_neg (by rw [q3]; decide)]
          exact ih (i + 1) (by omega) (by omega) ls (by rw [e1]; exact lv_sub hl [0, 1, 2] rfl)
        · refine lv_iinc (v := nI ((cntN (kept pe an up dn rw so mn wd wv) i) + 1)) (lv' := [(1, .int (nI ((cntN (kept pe an up dn rw so mn wd wv) i) + 1))), (2, .int (nI i)), (0, .ref (ad 0 0))]) hx hb dX2_wishesKept_24 hl (k := 1) rfl (nI_add (cntN (kept pe an up dn rw so mn wd wv) i) 1) (by decide) rfl (fun ls hl => ?_)
          refine lv_iinc (v := nI (i + 1)) (lv' := [(2, .int (nI (i + 1))), (1, .int (nI ((cntN (kept pe an up dn rw so mn wd wv) i) + 1))), (0, .ref (ad 0 0))]) hx hb dX2_wishesKept_27 hl (k := 1) rfl (nI_add i 1) (by decide) rfl (fun ls hl => ?_)
          refine lv_goto (tgt := 4) hx hb dX2_wishesKept_30 (by decide) ?_
          have e1 : cntN (kept pe an up dn rw so mn wd wv) (i + 1) = cntN (kept pe an up dn rw so mn wd wv) i + 1 := by show (if _ then _ else _) = _; rw [if_pos q3]
          exact ih (i + 1) (by omega) (by omega) ls (by rw [e1]; exact lv_sub hl [0, 1, 2] rfl)
  exact loop (nc + 1) 0 (by omega) (by omega) ls (lv_sub hl [0, 1, 2] rfl)
set_option maxHeartbeats 4000000 in
set_option maxRecDepth 100000 in
theorem x_share (l : Launch) (D : va_G) (ka : Nat → ClassId) (H0 : Heap) (ad : Nat → Nat → Nat) (np nc : Nat) (pe an up dn rw : Nat → Nat) (so : Nat → Bool) (mn : Nat → Nat) (wd : Nat → Bool) (wv : Nat → Int64) (x ix : Int32) (hX : XInv D ka ad np nc pe an up dn rw so mn wd wv H0) (hO : mOk np nc pe an up dn rw so mn wd wv) : Met l yX2_share (.code yX2_share cX2_share 6 (some .int) :: gT) ({ frames := 6, cells := 0, slots := 0, locals := 129 }) (ro_Pc D vwCl (tyL ka) H0 [.ref (ad 0 0), .int x, .int ix]) (vp_Si (fun r => r = spShare nc pe an up dn rw so mn wd wv x ix)) 0 0 (fun _ => False) := by
  refine Met.ofW (cc := cX2_share) (maxL := 6) (ret := (some .int)) (by decide) rfl ?_
  intro p e s m args below meth c s₁ B hml hv
  obtain ⟨rfl, hH, hK, hN⟩ := hv
  subst hH
  have hx := B.exec
  have hb := B.bytes
  have hr := B.returns
  have hts : ∀ w ∈ gT, w.before ([.ref (ad 0 0), .int x, .int ix] : List Value).toArray s = true := fun w h => atoms_spec (ws := (.code yX2_share cX2_share 6 (some .int) :: gT)) B.pre w (List.mem_cons_of_mem _ h)
  have hown : s.vm.findClass RX2 = some m.cls := findClass_of_methodNamed B.named
  have hlocks := B.notSynchronized
  have hl := lv_entry ([.ref (ad 0 0), .int x, .int ix]) (n := 6) (Nat.le_of_ble_eq_true rfl)
  rw [lg_entry_eq]
  generalize (lg_sl ([.ref (ad 0 0), .int x, .int ix]) ++ List.replicate (6 - (lg_sl ([.ref (ad 0 0), .int x, .int ix])).length) Slot.unset).toArray = ls at hl ⊢
  have hl : lv_has ls 6 [(0, .ref (ad 0 0)), (1, .int x), (2, .int ix)] := hl
  have hnp := hO.1
  have hnc := hO.2.1
  have zm : ((-1 : Int32)).toInt = -1 := by decide +kernel
  refine lv_iload_n hx hb dX2_share_0 rfl (lv_at hl 2 rfl) ?_
  refine lv_iconst (v := (-1)) hx hb dX2_share_1 (by decide) ?_
  refine r_icmp_ne (tgt := 10) hx hb dX2_share_2 (by decide) (fun q0 => ?_) (fun q0 => ?_)
  · refine lv_aload_n hx hb dX2_share_10 rfl (lv_at hl 0 rfl) ?_
    refine lv_iload_n hx hb dX2_share_11 rfl (lv_at hl 1 rfl) ?_
    have hn1 : ¬ ix.toInt = -1 := by omega
    refine va_csq (va_Run.run (va_runV (As := [.int x]) (rest := []) ⟨hx, hb, hml, hown, hts⟩ (x_filledChain l D ka s.heap ad np nc pe an up dn rw so mn wd wv x hX hO) (cw_V 1 hts tb_118 rfl rfl tb_115 tb_1 tb_117 ts_4 (by decide +kernel) ⟨Nat.le_of_ble_eq_true rfl, Nat.le_of_ble_eq_true rfl⟩) (ro_V (ci := 2) hK hN hX.o rfl) rfl rfl hl.1 rfl (lv_room (Nat.le_of_ble_eq_true rfl)) dX2_share_12 ⟨Nat.zero_le _, Nat.zero_le _⟩)) (fun r er => ?_)
    subst er
    by_cases q1 : spEmp nc mn x = true
    · rw [if_pos q1, show va_rf none = Value.null from rfl]
      refine lv_astore_nN (lv' := [(3, .null), (0, .ref (ad 0 0)), (1, .int x), (2, .int ix)]) hx hb dX2_share_15 rfl hl (by decide) rfl (fun ls hl => ?_)
      refine lv_aload_nN hx hb dX2_share_16 rfl (lv_at hl 0 rfl) ?_
      have hq : cNo x nc = true ∨ mn x.toInt.toNat = 0 := by
        rw [spEmp, Bool.or_eq_true, beq_iff_eq] at q1; exact q1
      refine lv_ifnullN (tgt := 32) hx hb dX2_share_17 (by decide) ?_
      refine lv_iconst (v := (-1)) hx hb dX2_share_32 (by decide) ?_
      exact W.iret (v := (-1)) hx hb hr (fun t ht hW => ⟨_, rfl, by rw [spShare, if_neg hn1, if_pos (by rcases hq with h9 | h9; exact Or.inl h9; exact Or.inr (by omega))], ht⟩) t_nil dX2_share_33
    · rw [if_neg q1, show va_rf (some (ad 4 x.toInt.toNat)) = Value.ref (ad 4 x.toInt.toNat) from rfl]
      have q2 : spEmp nc mn x = false := by simpa using q1
      obtain ⟨ex, h1, h2, hn0⟩ := spEmp_f q2
      have hCh := hX.ch hO h1 h2
      have hmn := (hO.2.2.2.1 x.toInt.toNat h1 h2).1
      refine lv_astore_n (lv' := [(3, .ref (ad 4 x.toInt.toNat)), (0, .ref (ad 0 0)), (1, .int x), (2, .int ix)]) hx hb dX2_share_15 rfl hl (by decide) rfl (fun ls hl => ?_)
      refine lv_aload_n hx hb dX2_share_16 rfl (lv_at hl 0 rfl) ?_
      have q4 : cNo x nc = false := by rw [spEmp, Bool.or_eq_false_iff] at q2; exact q2.1
      refine lv_ifnull hx hb dX2_share_17 ?_
      refine lv_iload_n hx hb dX2_share_20 rfl (lv_at hl 3 rfl) ?_
      refine r_if_lt (tgt := 32) hx hb dX2_share_21 (by decide) (fun q5 => ?_) (fun q5 => ?_)
      · refine lv_iconst (v := (-1)) hx hb dX2_share_32 (by decide) ?_
        exact W.iret (v := (-1)) hx hb hr (fun t ht hW => ⟨_, rfl, by rw [spShare, if_neg hn1, if_pos (Or.inr (Or.inl (by omega)))], ht⟩) t_nil dX2_share_33
      · refine lv_iload_n hx hb dX2_share_24 rfl (lv_at hl 3 rfl) ?_
        refine lv_aload_n hx hb dX2_share_25 rfl (lv_at hl 0 rfl) ?_
        refine g_getN (cl := vwCl) (ci := 0) (v := .int (nI (mn x.toInt.toNat))) hx hb hts inX0 hown hK hCh.1 rfl 2 (by decide) (va_Nw.use rfl (hN _ tn_78 rfl)) rfl dX2_share_26 ?_
        have zmn : (nI (mn x.toInt.toNat)).toInt = (mn x.toInt.toNat : Int) := nI_toInt (by omega)
        refine r_icmp_lt (tgt := 34) hx hb dX2_share_29 (by decide) (fun q6 => ?_) (fun q6 => ?_)
        · refine lv_aload_n hx hb dX2_share_34 rfl (lv_at hl 0 rfl) ?_
          refine vp_callSl (va_Run.run (va_runVN (As := []) (rest := []) ⟨hx, hb, hml, hown, hts⟩ (c_worstReaction l D ka s.heap (ad 4 x.toInt.toNat) (ad 5 x.toInt.toNat) (ad 6 x.toInt.toNat) (mn x.toInt.toNat) (wiN wd wv x.toInt.toNat) (fun k => ad 3 (rw (12 * x.toInt.toNat + k))) (qS so x.toInt.toNat) (qF pe rw x.toInt.toNat) (qF an rw x.toInt.toNat) (qF up rw x.toInt.toNat) (qF dn rw x.toInt.toNat) hCh) (cw_VN 0 hts tb_134 rfl rfl (hN _ tn_139 rfl) tb_4 tb_133 ts_7 (by decide +kernel) ⟨Nat.le_of_ble_eq_true rfl, Nat.le_of_ble_eq_true rfl⟩) (ro_V (ci := 0) hK hN hCh.1 rfl) rfl rfl hl.1 rfl (lv_room (Nat.le_of_ble_eq_true rfl)) dX2_share_35 ⟨Nat.zero_le _, Nat.zero_le _⟩)) (fun r er => ?_)
          subst er
          have hrb := rea_le hO h1 h2
          refine lv_lstore (lv' := [(4, .long (lN (rea pe an up dn rw so mn x.toInt.toNat))), (3, .ref (ad 4 x.toInt.toNat)), (0, .ref (ad 0 0)), (1, .int x), (2, .int ix)]) hx hb dX2_share_38 hl (by decide) rfl (fun ls hl => ?_)
          refine lv_lload hx hb dX2_share_40 (lv_at hl 0 rfl) ?_
          refine lv_lconst (v := lN 0) hx hb dX2_share_42 rfl ?_
          refine n_lcmp_ne (tgt := 49) hx hb (by omega) (by omega) dX2_share_43 dX2_share_44 (by decide) (fun q7 => ?_) (fun q7 => ?_)
          · have hik : ix.toInt.toNat < mn x.toInt.toNat := by omega
            have eix : ix = nI ix.toInt.toNat := Int32.toInt_inj.mp (by rw [nI_toInt (by omega)]; omega)
            rw [eix] at hl
            have hbb := brN_le hO h1 h2 hik
            refine lv_aload_n hx hb dX2_share_49 rfl (lv_at hl 1 rfl) ?_
            refine lv_iload_n hx hb dX2_share_50 rfl (lv_at hl 4 rfl) ?_
            refine vp_callSl (va_Run.run (va_runVN (As := [.int (nI (ix.toInt.toNat))]) (rest := []) ⟨hx, hb, hml, hown, hts⟩ (c_broughtBy l D ka s.heap (ad 4 x.toInt.toNat) (ad 5 x.toInt.toNat) (ad 6 x.toInt.toNat) (mn x.toInt.toNat) (wiN wd wv x.toInt.toNat) (fun k => ad 3 (rw (12 * x.toInt.toNat + k))) (qS so x.toInt.toNat) (qF pe rw x.toInt.toNat) (qF an rw x.toInt.toNat) (qF up rw x.toInt.toNat) (qF dn rw x.toInt.toNat) ix.toInt.toNat hCh hik) (cw_VN 1 hts tb_138 rfl rfl (hN _ tn_170 rfl) tb_4 tb_137 ts_8 (by decide +kernel) ⟨Nat.le_of_ble_eq_true rfl, Nat.le_of_ble_eq_true rfl⟩) (ro_V (ci := 0) hK hN hCh.1 rfl) rfl rfl hl.1 rfl (lv_room (Nat.le_of_ble_eq_true rfl)) dX2_share_51 ⟨Nat.zero_le _, Nat.zero_le _⟩)) (fun r er => ?_)
            subst er
            refine lv_ldc2 (v := lN 1000) hx hb hown (hts _ tb_171) dX2_share_54 ?_
            refine n_lmul hx hb dX2_share_57 ?_
            refine lv_lload hx hb dX2_share_58 (lv_at hl 0 rfl) ?_
            refine n_ldiv hx hb (by omega) (by omega) (by omega) dX2_share_60 ?_
            refine n_l2i hx hb dX2_share_61 ?_
            exact W.iret (v := nI (((brN (qS so x.toInt.toNat) (qF pe rw x.toInt.toNat) (qF an rw x.toInt.toNat) (qF up rw x.toInt.toNat) (qF dn rw x.toInt.toNat) ix.toInt.toNat) * 1000) / (rea pe an up dn rw so mn x.toInt.toNat))) hx hb hr (fun t ht hW => ⟨_, rfl, by rw [spShare, if_neg hn1, if_neg (by rw [q4]; simp only [Bool.false_eq_true, false_or]; omega), Nat.mul_comm 1000], ht⟩) t_nil dX2_share_62
          · refine lv_iconst (v := (-1)) hx hb dX2_share_47 (by decide) ?_
            exact W.iret (v := (-1)) hx hb hr (fun t ht hW => ⟨_, rfl, by rw [spShare, if_neg hn1, if_pos (Or.inr (Or.inr (Or.inr (by omega))))], ht⟩) t_nil dX2_share_48
        · refine lv_iconst (v := (-1)) hx hb dX2_share_32 (by decide) ?_
          exact W.iret (v := (-1)) hx hb hr (fun t ht hW => ⟨_, rfl, by rw [spShare, if_neg hn1, if_pos (Or.inr (Or.inr (Or.inl (by omega))))], ht⟩) t_nil dX2_share_33
  · refine lv_aload_n hx hb dX2_share_5 rfl (lv_at hl 0 rfl) ?_
    refine vp_callSi (va_Run.run (va_runV (As := []) (rest := []) ⟨hx, hb, hml, hown, hts⟩ (x_wishesKept l D ka s.heap ad np nc pe an up dn rw so mn wd wv hX hO) (cw_V 0 hts tb_169 rfl rfl tb_166 tb_1 tb_168 ts_11 (by decide +kernel) ⟨Nat.le_of_ble_eq_true rfl, Nat.le_of_ble_eq_true rfl⟩) (ro_V (ci := 2) hK hN hX.o rfl) rfl rfl hl.1 rfl (lv_room (Nat.le_of_ble_eq_true rfl)) dX2_share_6 ⟨Nat.zero_le _, Nat.zero_le _⟩)) (fun r er => ?_)
    subst er
    exact W.iret (v := nI (cntN (kept pe an up dn rw so mn wd wv) nc)) hx hb hr (fun t ht hW => ⟨_, rfl, by rw [spShare, if_pos (by omega)], ht⟩) t_nil dX2_share_9
