set_option maxHeartbeats 4000000 in
set_option maxRecDepth 100000 in
theorem m_noChain (l : Launch) (D : va_G) (ka : Nat → ClassId) (H0 : Heap) (a : Nat → Nat) (tv np nc : Nat) (pe an up dn rw : Nat → Nat) (so : Nat → Bool) (mn : Nat → Nat) (wd : Nat → Bool) (wv : Nat → Int64) (x : Int32) (hM : va_P D vwCl (mW ka a tv np nc pe an up dn rw so mn wd wv) H0) (hO : mOk np nc pe an up dn rw so mn wd wv) : Met l yM_noChain (.code yM_noChain cM_noChain 2 (some .boolean) :: gT) ({ frames := 0, cells := 0, slots := 0, locals := 0 }) (ro_Pc D vwCl (tyL ka) H0 [.ref (a 0), .int x]) (vp_Si (fun r => r = bI (cNo x nc))) 0 0 (fun _ => False) := by
  refine Met.ofW (cc := cM_noChain) (maxL := 2) (ret := (some .boolean)) (by decide) rfl ?_
  intro p e s m args below meth c s₁ B hml hv
  obtain ⟨rfl, hH, hK, hN⟩ := hv
  subst hH
  have hx := B.exec
  have hb := B.bytes
  have hr := B.returns
  have hts : ∀ w ∈ gT, w.before ([.ref (a 0), .int x] : List Value).toArray s = true := fun w h => atoms_spec (ws := (.code yM_noChain cM_noChain 2 (some .boolean) :: gT)) B.pre w (List.mem_cons_of_mem _ h)
  have hown : s.vm.findClass RM = some m.cls := findClass_of_methodNamed B.named
  have hlocks := B.notSynchronized
  have hl := lv_entry ([.ref (a 0), .int x]) (n := 2) (Nat.le_of_ble_eq_true rfl)
  rw [lg_entry_eq]
  generalize (lg_sl ([.ref (a 0), .int x]) ++ List.replicate (2 - (lg_sl ([.ref (a 0), .int x])).length) Slot.unset).toArray = ls at hl ⊢
  have hl : lv_has ls 2 [(0, .ref (a 0)), (1, .int x)] := hl
  have hnp := hO.1
  have hnc := hO.2.1
  refine lv_iload_n hx hb dM_noChain_0 rfl (lv_at hl 1 rfl) ?_
  refine lv_iconst (v := nI 1) hx hb dM_noChain_1 (by decide) ?_
  refine r_icmp_lt (tgt := 13) hx hb dM_noChain_2 (by decide) (fun hc0 => ?_) (fun hc0 => ?_)
  · refine lv_iconst (v := nI 1) hx hb dM_noChain_13 (by decide) ?_
    refine lv_goto (tgt := 18) hx hb dM_noChain_14 (by decide) ?_
    exact W.zret (v := nI 1) (ty := .boolean) hx hb hr (by decide) (fun t ht hW => ⟨_, rfl, by rw [cNo_t1 (by rw [nI_toInt (by omega)] at hc0; omega)]; rfl, ht⟩) t_nil dM_noChain_18
  · refine lv_iload_n hx hb dM_noChain_5 rfl (lv_at hl 1 rfl) ?_
    refine lv_aload_n hx hb dM_noChain_6 rfl (lv_at hl 0 rfl) ?_
    refine g_get (cl := vwCl) (ci := 3) (v := .int (nI nc)) hx hb hts inM hown hK (hM.nth 0 rfl) rfl 6 (by decide) (hts _ tb_306) rfl dM_noChain_7 ?_
    refine r_icmp_le (tgt := 17) hx hb dM_noChain_10 (by decide) (fun hc => ?_) (fun hc => ?_)
    · refine lv_iconst (v := nI 0) hx hb dM_noChain_17 (by decide) ?_
      exact W.zret (v := nI 0) (ty := .boolean) hx hb hr (by decide) (fun t ht hW => ⟨_, rfl, by rw [cNo_f (by rw [nI_toInt (by omega)] at hc0; omega) (by rw [nI_toInt (by omega)] at hc; omega)]; rfl, ht⟩) t_nil dM_noChain_18
    · refine lv_iconst (v := nI 1) hx hb dM_noChain_13 (by decide) ?_
      refine lv_goto (tgt := 18) hx hb dM_noChain_14 (by decide) ?_
      exact W.zret (v := nI 1) (ty := .boolean) hx hb hr (by decide) (fun t ht hW => ⟨_, rfl, by rw [cNo_t2 (by rw [nI_toInt (by omega)] at hc; omega)]; rfl, ht⟩) t_nil dM_noChain_18
set_option maxHeartbeats 4000000 in
set_option maxRecDepth 100000 in
theorem m_noPiece (l : Launch) (D : va_G) (ka : Nat → ClassId) (H0 : Heap) (a : Nat → Nat) (tv np nc : Nat) (pe an up dn rw : Nat → Nat) (so : Nat → Bool) (mn : Nat → Nat) (wd : Nat → Bool) (wv : Nat → Int64) (x : Int32) (hM : va_P D vwCl (mW ka a tv np nc pe an up dn rw so mn wd wv) H0) (hO : mOk np nc pe an up dn rw so mn wd wv) : Met l yM_noPiece (.code yM_noPiece cM_noPiece 2 (some .boolean) :: gT) ({ frames := 0, cells := 0, slots := 0, locals := 0 }) (ro_Pc D vwCl (tyL ka) H0 [.ref (a 0), .int x]) (vp_Si (fun r => r = bI (cNo x np))) 0 0 (fun _ => False) := by
  refine Met.ofW (cc := cM_noPiece) (maxL := 2) (ret := (some .boolean)) (by decide) rfl ?_
  intro p e s m args below meth c s₁ B hml hv
  obtain ⟨rfl, hH, hK, hN⟩ := hv
  subst hH
  have hx := B.exec
  have hb := B.bytes
  have hr := B.returns
  have hts : ∀ w ∈ gT, w.before ([.ref (a 0), .int x] : List Value).toArray s = true := fun w h => atoms_spec (ws := (.code yM_noPiece cM_noPiece 2 (some .boolean) :: gT)) B.pre w (List.mem_cons_of_mem _ h)
  have hown : s.vm.findClass RM = some m.cls := findClass_of_methodNamed B.named
  have hlocks := B.notSynchronized
  have hl := lv_entry ([.ref (a 0), .int x]) (n := 2) (Nat.le_of_ble_eq_true rfl)
  rw [lg_entry_eq]
  generalize (lg_sl ([.ref (a 0), .int x]) ++ List.replicate (2 - (lg_sl ([.ref (a 0), .int x])).length) Slot.unset).toArray = ls at hl ⊢
  have hl : lv_has ls 2 [(0, .ref (a 0)), (1, .int x)] := hl
  have hnp := hO.1
  have hnc := hO.2.1
  refine lv_iload_n hx hb dM_noPiece_0 rfl (lv_at hl 1 rfl) ?_
  refine lv_iconst (v := nI 1) hx hb dM_noPiece_1 (by decide) ?_
  refine r_icmp_lt (tgt := 13) hx hb dM_noPiece_2 (by decide) (fun hc0 => ?_) (fun hc0 => ?_)
  · refine lv_iconst (v := nI 1) hx hb dM_noPiece_13 (by decide) ?_
    refine lv_goto (tgt := 18) hx hb dM_noPiece_14 (by decide) ?_
    exact W.zret (v := nI 1) (ty := .boolean) hx hb hr (by decide) (fun t ht hW => ⟨_, rfl, by rw [cNo_t1 (by rw [nI_toInt (by omega)] at hc0; omega)]; rfl, ht⟩) t_nil dM_noPiece_18
  · refine lv_iload_n hx hb dM_noPiece_5 rfl (lv_at hl 1 rfl) ?_
    refine lv_aload_n hx hb dM_noPiece_6 rfl (lv_at hl 0 rfl) ?_
    refine g_get (cl := vwCl) (ci := 3) (v := .int (nI np)) hx hb hts inM hown hK (hM.nth 0 rfl) rfl 1 (by decide) (hts _ tb_301) rfl dM_noPiece_7 ?_
    refine r_icmp_le (tgt := 17) hx hb dM_noPiece_10 (by decide) (fun hc => ?_) (fun hc => ?_)
    · refine lv_iconst (v := nI 0) hx hb dM_noPiece_17 (by decide) ?_
      exact W.zret (v := nI 0) (ty := .boolean) hx hb hr (by decide) (fun t ht hW => ⟨_, rfl, by rw [cNo_f (by rw [nI_toInt (by omega)] at hc0; omega) (by rw [nI_toInt (by omega)] at hc; omega)]; rfl, ht⟩) t_nil dM_noPiece_18
    · refine lv_iconst (v := nI 1) hx hb dM_noPiece_13 (by decide) ?_
      refine lv_goto (tgt := 18) hx hb dM_noPiece_14 (by decide) ?_
      exact W.zret (v := nI 1) (ty := .boolean) hx hb hr (by decide) (fun t ht hW => ⟨_, rfl, by rw [cNo_t2 (by rw [nI_toInt (by omega)] at hc; omega)]; rfl, ht⟩) t_nil dM_noPiece_18
set_option maxHeartbeats 4000000 in
set_option maxRecDepth 100000 in
theorem m_isEmpty (l : Launch) (D : va_G) (ka : Nat → ClassId) (H0 : Heap) (a : Nat → Nat) (tv np nc : Nat) (pe an up dn rw : Nat → Nat) (so : Nat → Bool) (mn : Nat → Nat) (wd : Nat → Bool) (wv : Nat → Int64) (x : Int32) (hM : va_P D vwCl (mW ka a tv np nc pe an up dn rw so mn wd wv) H0) (hO : mOk np nc pe an up dn rw so mn wd wv) : Met l yM_isEmpty (.code yM_isEmpty cM_isEmpty 2 (some .boolean) :: gT) ({ frames := 1, cells := 0, slots := 0, locals := 21 }) (ro_Pc D vwCl (tyL ka) H0 [.ref (a 0), .int x]) (vp_Si (fun r => r = bI (spEmp nc mn x))) 0 0 (fun _ => False) := by
  refine Met.ofW (cc := cM_isEmpty) (maxL := 2) (ret := (some .boolean)) (by decide) rfl ?_
  intro p e s m args below meth c s₁ B hml hv
  obtain ⟨rfl, hH, hK, hN⟩ := hv
  subst hH
  have hx := B.exec
  have hb := B.bytes
  have hr := B.returns
  have hts : ∀ w ∈ gT, w.before ([.ref (a 0), .int x] : List Value).toArray s = true := fun w h => atoms_spec (ws := (.code yM_isEmpty cM_isEmpty 2 (some .boolean) :: gT)) B.pre w (List.mem_cons_of_mem _ h)
  have hown : s.vm.findClass RM = some m.cls := findClass_of_methodNamed B.named
  have hlocks := B.notSynchronized
  have hl := lv_entry ([.ref (a 0), .int x]) (n := 2) (Nat.le_of_ble_eq_true rfl)
  rw [lg_entry_eq]
  generalize (lg_sl ([.ref (a 0), .int x]) ++ List.replicate (2 - (lg_sl ([.ref (a 0), .int x])).length) Slot.unset).toArray = ls at hl ⊢
  have hl : lv_has ls 2 [(0, .ref (a 0)), (1, .int x)] := hl
  have hnp := hO.1
  have hnc := hO.2.1
  refine lv_aload_n hx hb dM_isEmpty_0 rfl (lv_at hl 0 rfl) ?_
  refine lv_iload_n hx hb dM_isEmpty_1 rfl (lv_at hl 1 rfl) ?_
  refine vp_callSi (va_Run.run (va_runV (As := [.int x]) (rest := []) ⟨hx, hb, hml, hown, hts⟩ (m_noChain l D ka s.heap a tv np nc pe an up dn rw so mn wd wv x hM hO) (cw_V 1 hts tb_359 rfl rfl tb_356 tb_2 tb_358 ts_19 (by decide +kernel) ⟨Nat.le_of_ble_eq_true rfl, Nat.le_of_ble_eq_true rfl⟩) (ro_V (ci := 3) hK hN (hM.nth 0 rfl) rfl) rfl rfl hl.1 rfl (lv_room (Nat.le_of_ble_eq_true rfl)) dM_isEmpty_2 ⟨Nat.zero_le _, Nat.zero_le _⟩)) (fun r er => ?_)
  subst er
  refine b_if_ne (tgt := 17) hx hb dM_isEmpty_5 (by decide) (fun hc => ?_) (fun hc => ?_)
  · refine lv_iconst (v := nI 1) hx hb dM_isEmpty_17 (by decide) ?_
    refine lv_goto (tgt := 22) hx hb dM_isEmpty_18 (by decide) ?_
    exact W.zret (v := nI 1) (ty := .boolean) hx hb hr (by decide) (fun t ht hW => ⟨_, rfl, by rw [spEmp, hc]; rfl, ht⟩) t_nil dM_isEmpty_22
  · have hse : spEmp nc mn x = (mn x.toInt.toNat == 0) := by rw [spEmp, hc]; rfl
    obtain ⟨ex, h1, h2⟩ := cNo_nI hc
    generalize hcx : x.toInt.toNat = ch at ex h1 h2 hse
    rw [ex] at hl
    have hmn := (hO.2.2.2.1 ch h1 h2).1
    refine lv_aload_n hx hb dM_isEmpty_8 rfl (lv_at hl 0 rfl) ?_
    refine g_get (cl := vwCl) (ci := 3) (v := .ref (a 7)) hx hb hts inM hown hK (hM.nth 0 rfl) rfl 9 (by decide) (hts _ tb_309) rfl dM_isEmpty_9 ?_
    refine lv_iload_n hx hb dM_isEmpty_12 rfl (lv_at hl 1 rfl) ?_
    refine g_ialdv (v := nI (mn ch)) hx hb hK 4 (hM.nth 7 rfl) rfl (by omega) (by decide) (rfl) dM_isEmpty_13 ?_
    refine n_if_ne (tgt := 21) hx hb (by omega) dM_isEmpty_14 (by decide) (fun hc3 => ?_) (fun hc3 => ?_)
    · refine lv_iconst (v := nI 0) hx hb dM_isEmpty_21 (by decide) ?_
      exact W.zret (v := nI 0) (ty := .boolean) hx hb hr (by decide) (fun t ht hW => ⟨_, rfl, by rw [hse, show (mn ch == 0) = false by simpa using hc3]; rfl, ht⟩) t_nil dM_isEmpty_22
    · refine lv_iconst (v := nI 1) hx hb dM_isEmpty_17 (by decide) ?_
      refine lv_goto (tgt := 22) hx hb dM_isEmpty_18 (by decide) ?_
      exact W.zret (v := nI 1) (ty := .boolean) hx hb hr (by decide) (fun t ht hW => ⟨_, rfl, by rw [hse, show (mn ch == 0) = true by simpa using hc3]; rfl, ht⟩) t_nil dM_isEmpty_22
set_option maxHeartbeats 4000000 in
set_option maxRecDepth 100000 in
theorem m_longPeriod (l : Launch) (D : va_G) (ka : Nat → ClassId) (H0 : Heap) (a : Nat → Nat) (tv np nc : Nat) (pe an up dn rw : Nat → Nat) (so : Nat → Bool) (mn : Nat → Nat) (wd : Nat → Bool) (wv : Nat → Int64) (p1 : Nat) (hM : va_P D vwCl (mW ka a tv np nc pe an up dn rw so mn wd wv) H0) (hO : mOk np nc pe an up dn rw so mn wd wv) (h1 : 1 ≤ p1) (h2 : p1 ≤ np) : Met l yM_longPeriod (.code yM_longPeriod cM_longPeriod 2 (some .long) :: gT) ({ frames := 0, cells := 0, slots := 0, locals := 0 }) (ro_Pc D vwCl (tyL ka) H0 [.ref (a 0), .int (nI p1)]) (vp_Sl (fun r => r = lN (lgP (pe p1) (up p1) (dn p1)))) 0 0 (fun _ => False) := by
  refine Met.ofW (cc := cM_longPeriod) (maxL := 2) (ret := (some .long)) (by decide) rfl ?_
  intro p e s m args below meth c s₁ B hml hv
  obtain ⟨rfl, hH, hK, hN⟩ := hv
  subst hH
  have hx := B.exec
  have hb := B.bytes
  have hr := B.returns
  have hts : ∀ w ∈ gT, w.before ([.ref (a 0), .int (nI p1)] : List Value).toArray s = true := fun w h => atoms_spec (ws := (.code yM_longPeriod cM_longPeriod 2 (some .long) :: gT)) B.pre w (List.mem_cons_of_mem _ h)
  have hown : s.vm.findClass RM = some m.cls := findClass_of_methodNamed B.named
  have hlocks := B.notSynchronized
  have hl := lv_entry ([.ref (a 0), .int (nI p1)]) (n := 2) (Nat.le_of_ble_eq_true rfl)
  rw [lg_entry_eq]
  generalize (lg_sl ([.ref (a 0), .int (nI p1)]) ++ List.replicate (2 - (lg_sl ([.ref (a 0), .int (nI p1)])).length) Slot.unset).toArray = ls at hl ⊢
  have hl : lv_has ls 2 [(0, .ref (a 0)), (1, .int (nI p1))] := hl
  have hnp := hO.1
  have hnc := hO.2.1
  have hB := hO.2.2.1 p1 h1 h2
  have hv2 : pe p1 * (dn p1 + up p1) ≤ 20000 * 2000000 := Nat.mul_le_mul hB.1 (by omega)
  refine lv_aload_n hx hb dM_longPeriod_0 rfl (lv_at hl 0 rfl) ?_
  refine g_get (cl := vwCl) (ci := 3) (v := .ref (a 1)) hx hb hts inM hown hK (hM.nth 0 rfl) rfl 2 (by decide) (hts _ tb_302) rfl dM_longPeriod_1 ?_
  refine lv_iload_n hx hb dM_longPeriod_4 rfl (lv_at hl 1 rfl) ?_
  refine g_laldv (v := lN (pe p1)) hx hb hK 3 (hM.nth 1 rfl) rfl (by omega) (by decide) (rfl) dM_longPeriod_5 ?_
  refine lv_aload_n hx hb dM_longPeriod_6 rfl (lv_at hl 0 rfl) ?_
  refine g_get (cl := vwCl) (ci := 3) (v := .ref (a 4)) hx hb hts inM hown hK (hM.nth 0 rfl) rfl 5 (by decide) (hts _ tb_305) rfl dM_longPeriod_7 ?_
  refine lv_iload_n hx hb dM_longPeriod_10 rfl (lv_at hl 1 rfl) ?_
  refine g_laldv (v := lN (dn p1)) hx hb hK 3 (hM.nth 4 rfl) rfl (by omega) (by decide) (rfl) dM_longPeriod_11 ?_
  refine lv_aload_n hx hb dM_longPeriod_12 rfl (lv_at hl 0 rfl) ?_
  refine g_get (cl := vwCl) (ci := 3) (v := .ref (a 3)) hx hb hts inM hown hK (hM.nth 0 rfl) rfl 4 (by decide) (hts _ tb_304) rfl dM_longPeriod_13 ?_
  refine lv_iload_n hx hb dM_longPeriod_16 rfl (lv_at hl 1 rfl) ?_
  refine g_laldv (v := lN (up p1)) hx hb hK 3 (hM.nth 3 rfl) rfl (by omega) (by decide) (rfl) dM_longPeriod_17 ?_
  refine n_ladd hx hb dM_longPeriod_18 ?_
  refine n_lmul hx hb dM_longPeriod_19 ?_
  refine lv_aload_n hx hb dM_longPeriod_20 rfl (lv_at hl 0 rfl) ?_
  refine g_get (cl := vwCl) (ci := 3) (v := .ref (a 4)) hx hb hts inM hown hK (hM.nth 0 rfl) rfl 5 (by decide) (hts _ tb_305) rfl dM_longPeriod_21 ?_
  refine lv_iload_n hx hb dM_longPeriod_24 rfl (lv_at hl 1 rfl) ?_
  refine g_laldv (v := lN (dn p1)) hx hb hK 3 (hM.nth 4 rfl) rfl (by omega) (by decide) (rfl) dM_longPeriod_25 ?_
  refine n_ladd hx hb dM_longPeriod_26 ?_
  refine lv_lconst (v := lN 1) hx hb dM_longPeriod_27 rfl ?_
  refine n_lsub hx hb (by omega) dM_longPeriod_28 ?_
  refine lv_aload_n hx hb dM_longPeriod_29 rfl (lv_at hl 0 rfl) ?_
  refine g_get (cl := vwCl) (ci := 3) (v := .ref (a 4)) hx hb hts inM hown hK (hM.nth 0 rfl) rfl 5 (by decide) (hts _ tb_305) rfl dM_longPeriod_30 ?_
  refine lv_iload_n hx hb dM_longPeriod_33 rfl (lv_at hl 1 rfl) ?_
  refine g_laldv (v := lN (dn p1)) hx hb hK 3 (hM.nth 4 rfl) rfl (by omega) (by decide) (rfl) dM_longPeriod_34 ?_
  refine n_ldiv hx hb (by omega) (by omega) (by omega) dM_longPeriod_35 ?_
  exact W.lret (v := lN (((((pe p1) * ((dn p1) + (up p1))) + (dn p1)) - 1) / (dn p1))) hx hb hr (fun t ht hW => ⟨_, rfl, rfl, ht⟩) t_nil dM_longPeriod_36
set_option maxHeartbeats 4000000 in
set_option maxRecDepth 100000 in
theorem m_brings (l : Launch) (D : va_G) (ka : Nat → ClassId) (H0 : Heap) (a : Nat → Nat) (tv np nc : Nat) (pe an up dn rw : Nat → Nat) (so : Nat → Bool) (mn : Nat → Nat) (wd : Nat → Bool) (wv : Nat → Int64) (ch k : Nat) (hM : va_P D vwCl (mW ka a tv np nc pe an up dn rw so mn wd wv) H0) (hO : mOk np nc pe an up dn rw so mn wd wv) (hc1 : 1 ≤ ch) (hc2 : ch ≤ nc) (hk : k < mn ch) : Met l yM_brings (.code yM_brings cM_brings 4 (some .long) :: gT) ({ frames := 1, cells := 0, slots := 0, locals := 21 }) (ro_Pc D vwCl (tyL ka) H0 [.ref (a 0), .int (nI ch), .int (nI k)]) (vp_Sl (fun r => r = lN ((brN (qS so ch) (qF pe rw ch) (qF an rw ch) (qF up rw ch) (qF dn rw ch)) k))) 0 0 (fun _ => False) := by
  refine Met.ofW (cc := cM_brings) (maxL := 4) (ret := (some .long)) (by decide) rfl ?_
  intro p e s m args below meth c s₁ B hml hv
  obtain ⟨rfl, hH, hK, hN⟩ := hv
  subst hH
  have hx := B.exec
  have hb := B.bytes
  have hr := B.returns
  have hts : ∀ w ∈ gT, w.before ([.ref (a 0), .int (nI ch), .int (nI k)] : List Value).toArray s = true := fun w h => atoms_spec (ws := (.code yM_brings cM_brings 4 (some .long) :: gT)) B.pre w (List.mem_cons_of_mem _ h)
  have hown : s.vm.findClass RM = some m.cls := findClass_of_methodNamed B.named
  have hlocks := B.notSynchronized
  have hl := lv_entry ([.ref (a 0), .int (nI ch), .int (nI k)]) (n := 4) (Nat.le_of_ble_eq_true rfl)
  rw [lg_entry_eq]
  generalize (lg_sl ([.ref (a 0), .int (nI ch), .int (nI k)]) ++ List.replicate (4 - (lg_sl ([.ref (a 0), .int (nI ch), .int (nI k)])).length) Slot.unset).toArray = ls at hl ⊢
  have hl : lv_has ls 4 [(0, .ref (a 0)), (1, .int (nI ch)), (2, .int (nI k))] := hl
  have hnp := hO.1
  have hnc := hO.2.1
  have hmn := (hO.2.2.2.1 ch hc1 hc2).1
  have hR := hO.row hc1 hc2 hk
  refine lv_aload_n hx hb dM_brings_0 rfl (lv_at hl 0 rfl) ?_
  refine g_get (cl := vwCl) (ci := 3) (v := .ref (a 5)) hx hb hts inM hown hK (hM.nth 0 rfl) rfl 7 (by decide) (hts _ tb_307) rfl dM_brings_1 ?_
  refine lv_bipush (v := nI 12) hx hb dM_brings_4 (by decide) ?_
  refine lv_iload_n hx hb dM_brings_6 rfl (lv_at hl 1 rfl) ?_
  refine n_imul hx hb dM_brings_7 ?_
  refine lv_iload_n hx hb dM_brings_8 rfl (lv_at hl 2 rfl) ?_
  refine n_iadd hx hb dM_brings_9 ?_
  refine g_ialdv (v := nI (rw ((12 * ch) + k))) hx hb hK 4 (hM.nth 5 rfl) rfl (by omega) (by decide) (rfl) dM_brings_10 ?_
  refine lv_istore_n (lv' := [(3, .int (nI (rw ((12 * ch) + k)))), (0, .ref (a 0)), (1, .int (nI ch)), (2, .int (nI k))]) hx hb dM_brings_11 rfl hl (by decide) rfl (fun ls hl => ?_)
  refine lv_aload_n hx hb dM_brings_12 rfl (lv_at hl 1 rfl) ?_
  refine g_get (cl := vwCl) (ci := 3) (v := .ref (a 2)) hx hb hts inM hown hK (hM.nth 0 rfl) rfl 3 (by decide) (hts _ tb_303) rfl dM_brings_13 ?_
  refine lv_iload_n hx hb dM_brings_16 rfl (lv_at hl 0 rfl) ?_
  refine g_laldv (v := lN (an (rw ((12 * ch) + k)))) hx hb hK 3 (hM.nth 2 rfl) rfl (by omega) (by decide) (rfl) dM_brings_17 ?_
  refine lv_aload_n hx hb dM_brings_18 rfl (lv_at hl 1 rfl) ?_
  refine g_get (cl := vwCl) (ci := 3) (v := .ref (a 6)) hx hb hts inM hown hK (hM.nth 0 rfl) rfl 8 (by decide) (hts _ tb_308) rfl dM_brings_19 ?_
  refine lv_bipush (v := nI 12) hx hb dM_brings_22 (by decide) ?_
  refine lv_iload_n hx hb dM_brings_24 rfl (lv_at hl 2 rfl) ?_
  refine n_imul hx hb dM_brings_25 ?_
  refine lv_iload_n hx hb dM_brings_26 rfl (lv_at hl 3 rfl) ?_
  refine n_iadd hx hb dM_brings_27 ?_
  refine g_zaldv (v := bI (so ((12 * ch) + k))) hx hb hK 2 (hM.nth 6 rfl) rfl (by omega) (by decide) (rfl) dM_brings_28 ?_
  refine b_if_eq (tgt := 36) hx hb dM_brings_29 (by decide) (fun hc => ?_) (fun hc => ?_)
  · refine lv_aload_n hx hb dM_brings_36 rfl (lv_at hl 1 rfl) ?_
    refine lv_iload_n hx hb dM_brings_37 rfl (lv_at hl 0 rfl) ?_
    refine vp_callSl (va_Run.run (va_runV (As := [.int (nI (rw ((12 * ch) + k)))]) (rest := [.long (lN (an (rw ((12 * ch) + k))))]) ⟨hx, hb, hml, hown, hts⟩ (m_longPeriod l D ka s.heap a tv np nc pe an up dn rw so mn wd wv (rw ((12 * ch) + k)) hM hO hR.1.1 hR.1.2.1) (cw_V 1 hts tb_388 rfl rfl tb_385 tb_2 tb_387 ts_25 (by decide +kernel) ⟨Nat.le_of_ble_eq_true rfl, Nat.le_of_ble_eq_true rfl⟩) (ro_V (ci := 3) hK hN (hM.nth 0 rfl) rfl) rfl rfl hl.1 rfl (lv_room (Nat.le_of_ble_eq_true rfl)) dM_brings_38 ⟨Nat.zero_le _, Nat.zero_le _⟩)) (fun r er => ?_)
    subst er
    refine n_ladd hx hb dM_brings_41 ?_
    exact W.lret (v := lN ((an (rw ((12 * ch) + k))) + (lgP (pe (rw ((12 * ch) + k))) (up (rw ((12 * ch) + k))) (dn (rw ((12 * ch) + k)))))) hx hb hr (fun t ht hW => ⟨_, rfl, by rw [brN, if_pos (by simp [qS, hc])]; exact congrArg lN (Nat.add_comm _ _), ht⟩) t_nil dM_brings_42
  · refine lv_lconst (v := lN 0) hx hb dM_brings_32 rfl ?_
    refine lv_goto (tgt := 41) hx hb dM_brings_33 (by decide) ?_
    refine n_ladd hx hb dM_brings_41 ?_
    exact W.lret (v := lN ((an (rw ((12 * ch) + k))) + 0)) hx hb hr (fun t ht hW => ⟨_, rfl, by simp [brN, qS, qF, hc], ht⟩) t_nil dM_brings_42
set_option maxHeartbeats 4000000 in
set_option maxRecDepth 100000 in
theorem m_reaction (l : Launch) (D : va_G) (ka : Nat → ClassId) (H0 : Heap) (a : Nat → Nat) (tv np nc : Nat) (pe an up dn rw : Nat → Nat) (so : Nat → Bool) (mn : Nat → Nat) (wd : Nat → Bool) (wv : Nat → Int64) (ch : Nat) (hM : va_P D vwCl (mW ka a tv np nc pe an up dn rw so mn wd wv) H0) (hO : mOk np nc pe an up dn rw so mn wd wv) (hc1 : 1 ≤ ch) (hc2 : ch ≤ nc) : Met l yM_reaction (.code yM_reaction cM_reaction 5 (some .long) :: gT) ({ frames := 2, cells := 0, slots := 0, locals := 44 }) (ro_Pc D vwCl (tyL ka) H0 [.ref (a 0), .int (nI ch)]) (vp_Sl (fun r => r = lN (rea pe an up dn rw so mn ch))) 0 0 (fun _ => False) := by
  refine Met.ofW (cc := cM_reaction) (maxL := 5) (ret := (some .long)) (by decide) rfl ?_
  intro p e s m args below meth c s₁ B hml hv
  obtain ⟨rfl, hH, hK, hN⟩ := hv
  subst hH
  have hx := B.exec
  have hb := B.bytes
  have hr := B.returns
  have hts : ∀ w ∈ gT, w.before ([.ref (a 0), .int (nI ch)] : List Value).toArray s = true := fun w h => atoms_spec (ws := (.code yM_reaction cM_reaction 5 (some .long) :: gT)) B.pre w (List.mem_cons_of_mem _ h)
  have hown : s.vm.findClass RM = some m.cls := findClass_of_methodNamed B.named
  have hlocks := B.notSynchronized
  have hl := lv_entry ([.ref (a 0), .int (nI ch)]) (n := 5) (Nat.le_of_ble_eq_true rfl)
  rw [lg_entry_eq]
  generalize (lg_sl ([.ref (a 0), .int (nI ch)]) ++ List.replicate (5 - (lg_sl ([.ref (a 0), .int (nI ch)])).length) Slot.unset).toArray = ls at hl ⊢
  have hl : lv_has ls 5 [(0, .ref (a 0)), (1, .int (nI ch))] := hl
  have hnp := hO.1
  have hnc := hO.2.1
  have hmn := (hO.2.2.2.1 ch hc1 hc2).1
  refine lv_lconst (v := lN 0) hx hb dM_reaction_0 rfl ?_
  refine lv_lstore_n (lv' := [(2, .long (lN 0)), (0, .ref (a 0)), (1, .int (nI ch))]) hx hb dM_reaction_1 rfl hl (by decide) rfl (fun ls hl => ?_)
  refine lv_iconst (v := nI 0) hx hb dM_reaction_2 (by decide) ?_
  refine lv_istore (lv' := [(4, .int (nI 0)), (2, .long (lN 0)), (0, .ref (a 0)), (1, .int (nI ch))]) hx hb dM_reaction_3 hl (by decide) rfl (fun ls hl => ?_)
  have loop : ∀ (fu i : Nat), i ≤ mn ch → mn ch < i + fu → ∀ ls : Array Slot, lv_has ls 5 [(4, .int (nI i)), (2, .long (lN (sumN (brN (qS so ch) (qF pe rw ch) (qF an rw ch) (qF up rw ch) (qF dn rw ch)) i))), (1, .int (nI ch)), (0, .ref (a 0))] → W p l e (headSpec (.code yM_reaction cM_reaction 5 (some .long) :: gT) ({ frames := 2, cells := 0, slots := 0, locals := 44 })).room s m ([.ref (a 0), .int (nI ch)] : List Value).toArray below meth c s.heap [] 0 0 (MQ below (vp_Sl (fun r => r = lN (rea pe an up dn rw so mn ch))) ([.ref (a 0), .int (nI ch)] : List Value).toArray s 0 0 (fun _ => False)) (F0 m 5 ls []) := by
    intro fu
    induction fu with
    | zero => intro i h1 h2; exact absurd h2 (by omega)
    | succ fu ih =>
      intro i hi hf  ls hl
      refine lv_iload hx hb dM_reaction_5 (lv_at hl 0 rfl) ?_
      refine lv_aload_n hx hb dM_reaction_7 rfl (lv_at hl 3 rfl) ?_
      refine g_get (cl := vwCl) (ci := 3) (v := .ref (a 7)) hx hb hts inM hown hK (hM.nth 0 rfl) rfl 9 (by decide) (hts _ tb_309) rfl dM_reaction_8 ?_
      refine lv_iload_n hx hb dM_reaction_11 rfl (lv_at hl 2 rfl) ?_
      refine g_ialdv (v := nI (mn ch)) hx hb hK 4 (hM.nth 7 rfl) rfl (by omega) (by decide) (rfl) dM_reaction_12 ?_
      refine n_icmp_ge (tgt := 32) hx hb (by omega) (by omega) dM_reaction_13 (by decide) (fun hc => ?_) (fun hc => ?_)
      · refine lv_lload_n hx hb dM_reaction_32 rfl (lv_at hl 1 rfl) ?_
        exact W.lret (v := lN (sumN (brN (qS so ch) (qF pe rw ch) (qF an rw ch) (qF up rw ch) (qF dn rw ch)) i)) hx hb hr (fun t ht hW => ⟨_, rfl, by rw [show i = mn ch by omega], ht⟩) t_nil dM_reaction_33
      · refine lv_lload_n hx hb dM_reaction_16 rfl (lv_at hl 1 rfl) ?_
        refine lv_aload_n hx hb dM_reaction_17 rfl (lv_at hl 3 rfl) ?_
        refine lv_iload_n hx hb dM_reaction_18 rfl (lv_at hl 2 rfl) ?_
        refine lv_iload hx hb dM_reaction_19 (lv_at hl 0 rfl) ?_
        refine vp_callSl (va_Run.run (va_runV (As := [.int (nI ch), .int (nI i)]) (rest := [.long (lN (sumN (brN (qS so ch) (qF pe rw ch) (qF an rw ch) (qF up rw ch) (qF dn rw ch)) i))]) ⟨hx, hb, hml, hown, hts⟩ (m_brings l D ka s.heap a tv np nc pe an up dn rw so mn wd wv ch i hM hO hc1 hc2 hc) (cw_V 2 hts tb_384 rfl rfl tb_381 tb_2 tb_383 ts_24 (by decide +kernel) ⟨Nat.le_of_ble_eq_true rfl, Nat.le_of_ble_eq_true rfl⟩) (ro_V (ci := 3) hK hN (hM.nth 0 rfl) rfl) rfl rfl hl.1 rfl (lv_room (Nat.le_of_ble_eq_true rfl)) dM_reaction_21 ⟨Nat.zero_le _, Nat.zero_le _⟩)) (fun r er => ?_)
        subst er
        refine n_ladd hx hb dM_reaction_24 ?_
        refine lv_lstore_n (lv' := [(2, .long (lN ((sumN (brN (qS so ch) (qF pe rw ch) (qF an rw ch) (qF up rw ch) (qF dn rw ch)) i) + ((brN (qS so ch) (qF pe rw ch) (qF an rw ch) (qF up rw ch) (qF dn rw ch)) i)))), (4, .int (nI i)), (1, .int (nI ch)), (0, .ref (a 0))]) hx hb dM_reaction_25 rfl hl (by decide) rfl (fun ls hl => ?_)
        refine lv_iinc (v := nI (i + 1)) (lv' := [(4, .int (nI (i + 1))), (2, .long (lN ((sumN (brN (qS so ch) (qF pe rw ch) (qF an rw ch) (qF up rw ch) (qF dn rw ch)) i) + ((brN (qS so ch) (qF pe rw ch) (qF an rw ch) (qF up rw ch) (qF dn rw ch)) i)))), (1, .int (nI ch)), (0, .ref (a 0))]) hx hb dM_reaction_26 hl (k := 1) rfl (nI_add i 1) (by decide) rfl (fun ls hl => ?_)
        refine lv_goto (tgt := 5) hx hb dM_reaction_29 (by decide) ?_
        exact ih (i + 1) (by omega) (by omega) ls (lv_sub hl [0, 1, 2, 3] rfl)
  exact loop (mn ch + 1) 0 (by omega) (by omega) ls (lv_sub hl [0, 1, 3, 2] rfl)
set_option maxHeartbeats 4000000 in
set_option maxRecDepth 100000 in
theorem m_age (l : Launch) (D : va_G) (ka : Nat → ClassId) (H0 : Heap) (a : Nat → Nat) (tv np nc : Nat) (pe an up dn rw : Nat → Nat) (so : Nat → Bool) (mn : Nat → Nat) (wd : Nat → Bool) (wv : Nat → Int64) (ch : Nat) (hM : va_P D vwCl (mW ka a tv np nc pe an up dn rw so mn wd wv) H0) (hO : mOk np nc pe an up dn rw so mn wd wv) (hc1 : 1 ≤ ch) (hc2 : ch ≤ nc) (hn0 : 0 < mn ch) : Met l yM_age (.code yM_age cM_age 4 (some .long) :: gT) ({ frames := 3, cells := 0, slots := 0, locals := 68 }) (ro_Pc D vwCl (tyL ka) H0 [.ref (a 0), .int (nI ch)]) (vp_Sl (fun r => r = lN (rea pe an up dn rw so mn ch - lgP ((qF pe rw ch) 0) ((qF up rw ch) 0) ((qF dn rw ch) 0) + lastS (qS so ch) (fun i => lgP ((qF pe rw ch) i) ((qF up rw ch) i) ((qF dn rw ch) i)) (mn ch)))) 0 0 (fun _ => False) := by
  refine Met.ofW (cc := cM_age) (maxL := 4) (ret := (some .long)) (by decide) rfl ?_
  intro p e s m args below meth c s₁ B hml hv
  obtain ⟨rfl, hH, hK, hN⟩ := hv
  subst hH
  have hx := B.exec
  have hb := B.bytes
  have hr := B.returns
  have hts : ∀ w ∈ gT, w.before ([.ref (a 0), .int (nI ch)] : List Value).toArray s = true := fun w h => atoms_spec (ws := (.code yM_age cM_age 4 (some .long) :: gT)) B.pre w (List.mem_cons_of_mem _ h)
  have hown : s.vm.findClass RM = some m.cls := findClass_of_methodNamed B.named
  have hlocks := B.notSynchronized
  have hl := lv_entry ([.ref (a 0), .int (nI ch)]) (n := 4) (Nat.le_of_ble_eq_true rfl)
  rw [lg_entry_eq]
  generalize (lg_sl ([.ref (a 0), .int (nI ch)]) ++ List.replicate (4 - (lg_sl ([.ref (a 0), .int (nI ch)])).length) Slot.unset).toArray = ls at hl ⊢
  have hl : lv_has ls 4 [(0, .ref (a 0)), (1, .int (nI ch))] := hl
  have hnp := hO.1
  have hnc := hO.2.1
  have hmn := (hO.2.2.2.1 ch hc1 hc2).1
  refine lv_iconst (v := nI 0) hx hb dM_age_0 (by decide) ?_
  refine lv_istore_n (lv' := [(2, .int (nI 0)), (0, .ref (a 0)), (1, .int (nI ch))]) hx hb dM_age_1 rfl hl (by decide) rfl (fun ls hl => ?_)
  refine lv_iconst (v := nI 0) hx hb dM_age_2 (by decide) ?_
  refine lv_istore_n (lv' := [(3, .int (nI 0)), (2, .int (nI 0)), (0, .ref (a 0)), (1, .int (nI ch))]) hx hb dM_age_3 rfl hl (by decide) rfl (fun ls hl => ?_)
  have hs0 : (qS so ch) 0 = true := by simp [qS, (hO.2.2.2.1 ch hc1 hc2).2.2 hn0]
  have loop : ∀ (fu i : Nat), i ≤ mn ch → mn ch < i + fu → ∀ ls : Array Slot, lv_has ls 4 [(3, .int (nI i)), (2, .int (nI (lastI (qS so ch) i))), (1, .int (nI ch)), (0, .ref (a 0))] → W p l e (headSpec (.code yM_age cM_age 4 (some .long) :: gT) ({ frames := 3, cells := 0, slots := 0, locals := 68 })).room s m ([.ref (a 0), .int (nI ch)] : List Value).toArray below meth c s.heap [] 0 0 (MQ below (vp_Sl (fun r => r = lN (rea pe an up dn rw so mn ch - lgP ((qF pe rw ch) 0) ((qF up rw ch) 0) ((qF dn rw ch) 0) + lastS (qS so ch) (fun i => lgP ((qF pe rw ch) i) ((qF up rw ch) i) ((qF dn rw ch) i)) (mn ch)))) ([.ref (a 0), .int (nI ch)] : List Value).toArray s 0 0 (fun _ => False)) (F0 m 4 ls []) := by
    intro fu
    induction fu with
    | zero => intro i h1 h2; exact absurd h2 (by omega)
    | succ fu ih =>
      intro i hi hf  ls hl
      refine lv_iload_n hx hb dM_age_4 rfl (lv_at hl 0 rfl) ?_
      refine lv_aload_n hx hb dM_age_5 rfl (lv_at hl 3 rfl) ?_
      refine g_get (cl := vwCl) (ci := 3) (v := .ref (a 7)) hx hb hts inM hown hK (hM.nth 0 rfl) rfl 9 (by decide) (hts _ tb_309) rfl dM_age_6 ?_
      refine lv_iload_n hx hb dM_age_9 rfl (lv_at hl 2 rfl) ?_
      refine g_ialdv (v := nI (mn ch)) hx hb hK 4 (hM.nth 7 rfl) rfl (by omega) (by decide) (rfl) dM_age_10 ?_
      refine n_icmp_ge (tgt := 40) hx hb (by omega) (by omega) dM_age_11 (by decide) (fun hc => ?_) (fun hc => ?_)
      · obtain hi2 : i = mn ch := by omega
        subst hi2
        have hR0 := hO.row hc1 hc2 hn0
        have hlt := lastI_lt (sel := (qS so ch)) (mn ch) hn0
        have hRl := hO.row hc1 hc2 hlt
        refine lv_aload_n hx hb dM_age_40 rfl (lv_at hl 3 rfl) ?_
        refine lv_iload_n hx hb dM_age_41 rfl (lv_at hl 2 rfl) ?_
        refine vp_callSl (va_Run.run (va_runV (As := [.int (nI ch)]) (rest := []) ⟨hx, hb, hml, hown, hts⟩ (m_reaction l D ka s.heap a tv np nc pe an up dn rw so mn wd wv ch hM hO hc1 hc2) (cw_V 1 hts tb_380 rfl rfl tb_377 tb_2 tb_379 ts_23 (by decide +kernel) ⟨Nat.le_of_ble_eq_true rfl, Nat.le_of_ble_eq_true rfl⟩) (ro_V (ci := 3) hK hN (hM.nth 0 rfl) rfl) rfl rfl hl.1 rfl (lv_room (Nat.le_of_ble_eq_true rfl)) dM_age_42 ⟨Nat.zero_le _, Nat.zero_le _⟩)) (fun r er => ?_)
        subst er
        refine lv_aload_n hx hb dM_age_45 rfl (lv_at hl 3 rfl) ?_
        refine lv_aload_n hx hb dM_age_46 rfl (lv_at hl 3 rfl) ?_
        refine g_get (cl := vwCl) (ci := 3) (v := .ref (a 5)) hx hb hts inM hown hK (hM.nth 0 rfl) rfl 7 (by decide) (hts _ tb_307) rfl dM_age_47 ?_
        refine lv_bipush (v := nI 12) hx hb dM_age_50 (by decide) ?_
        refine lv_iload_n hx hb dM_age_52 rfl (lv_at hl 2 rfl) ?_
        refine n_imul hx hb dM_age_53 ?_
        refine g_ialdv (v := nI (rw (12 * ch))) hx hb hK 4 (hM.nth 5 rfl) rfl (by omega) (by decide) (rfl) dM_age_54 ?_
        refine vp_callSl (va_Run.run (va_runV (As := [.int (nI (rw (12 * ch)))]) (rest := [.long (lN (rea pe an up dn rw so mn ch))]) ⟨hx, hb, hml, hown, hts⟩ (m_longPeriod l D ka s.heap a tv np nc pe an up dn rw so mn wd wv (rw (12 * ch)) hM hO hR0.1.1 hR0.1.2.1) (cw_V 1 hts tb_388 rfl rfl tb_385 tb_2 tb_387 ts_25 (by decide +kernel) ⟨Nat.le_of_ble_eq_true rfl, Nat.le_of_ble_eq_true rfl⟩) (ro_V (ci := 3) hK hN (hM.nth 0 rfl) rfl) rfl rfl hl.1 rfl (lv_room (Nat.le_of_ble_eq_true rfl)) dM_age_55 ⟨Nat.zero_le _, Nat.zero_le _⟩)) (fun r er => ?_)
        subst er
        have hfs : lgP (pe (rw (12 * ch))) (up (rw (12 * ch))) (dn (rw (12 * ch))) ≤ rea pe an up dn rw so mn ch := by
          refine Nat.le_trans ?_ (sumN_ge (f := (brN (qS so ch) (qF pe rw ch) (qF an rw ch) (qF up rw ch) (qF dn rw ch))) hn0)
          rw [brN, if_pos hs0]
          exact Nat.le_add_right _ _
        refine n_lsub hx hb (by omega) dM_age_58 ?_
        refine lv_aload_n hx hb dM_age_59 rfl (lv_at hl 3 rfl) ?_
        refine lv_aload_n hx hb dM_age_60 rfl (lv_at hl 3 rfl) ?_
        refine g_get (cl := vwCl) (ci := 3) (v := .ref (a 5)) hx hb hts inM hown hK (hM.nth 0 rfl) rfl 7 (by decide) (hts _ tb_307) rfl dM_age_61 ?_
        refine lv_bipush (v := nI 12) hx hb dM_age_64 (by decide) ?_
        refine lv_iload_n hx hb dM_age_66 rfl (lv_at hl 2 rfl) ?_
        refine n_imul hx hb dM_age_67 ?_
        refine lv_iload_n hx hb dM_age_68 rfl (lv_at hl 1 rfl) ?_
        refine n_iadd hx hb dM_age_69 ?_
        refine g_ialdv (v := nI (rw ((12 * ch) + (lastI (qS so ch) (mn ch))))) hx hb hK 4 (hM.nth 5 rfl) rfl (by omega) (by decide) (rfl) dM_age_70 ?_
        refine vp_callSl (va_Run.run (va_runV (As := [.int (nI (rw ((12 * ch) + (lastI (qS so ch) (mn ch)))))]) (rest := [.long (lN ((rea pe an up dn rw so mn ch) - (lgP (pe (rw (12 * ch))) (up (rw (12 * ch))) (dn (rw (12 * ch))))))]) ⟨hx, hb, hml, hown, hts⟩ (m_longPeriod l D ka s.heap a tv np nc pe an up dn rw so mn wd wv (rw ((12 * ch) + lastI (qS so ch) (mn ch))) hM hO hRl.1.1 hRl.1.2.1) (cw_V 1 hts tb_388 rfl rfl tb_385 tb_2 tb_387 ts_25 (by decide +kernel) ⟨Nat.le_of_ble_eq_true rfl, Nat.le_of_ble_eq_true rfl⟩) (ro_V (ci := 3) hK hN (hM.nth 0 rfl) rfl) rfl rfl hl.1 rfl (lv_room (Nat.le_of_ble_eq_true rfl)) dM_age_71 ⟨Nat.zero_le _, Nat.zero_le _⟩)) (fun r er => ?_)
        subst er
        refine n_ladd hx hb dM_age_74 ?_
        exact W.lret (v := lN (((rea pe an up dn rw so mn ch) - (lgP (pe (rw (12 * ch))) (up (rw (12 * ch))) (dn (rw (12 * ch))))) + (lgP (pe (rw ((12 * ch) + lastI (qS so ch) (mn ch)))) (up (rw ((12 * ch) + lastI (qS so ch) (mn ch)))) (dn (rw ((12 * ch) + lastI (qS so ch) (mn ch))))))) hx hb hr (fun t ht hW => ⟨_, rfl, by obtain ⟨q, hq⟩ : ∃ q, mn ch = q + 1 := ⟨mn ch - 1, by omega⟩; rw [hq, lastS_I hs0 q]; rfl, ht⟩) t_nil dM_age_75
      · have hR := hO.row hc1 hc2 hc
        refine lv_aload_n hx hb dM_age_14 rfl (lv_at hl 3 rfl) ?_
        refine g_get (cl := vwCl) (ci := 3) (v := .ref (a 6)) hx hb hts inM hown hK (hM.nth 0 rfl) rfl 8 (by decide) (hts _ tb_308) rfl dM_age_15 ?_
        refine lv_bipush (v := nI 12) hx hb dM_age_18 (by decide) ?_
        refine lv_iload_n hx hb dM_age_20 rfl (lv_at hl 2 rfl) ?_
        refine n_imul hx hb dM_age_21 ?_
        refine lv_iload_n hx hb dM_age_22 rfl (lv_at hl 0 rfl) ?_
        refine n_iadd hx hb dM_age_23 ?_
        refine g_zaldv (v := bI (so ((12 * ch) + i))) hx hb hK 2 (hM.nth 6 rfl) rfl (by omega) (by decide) (rfl) dM_age_24 ?_
        refine b_if_eq (tgt := 32) hx hb dM_age_25 (by decide) (fun hc3 => ?_) (fun hc3 => ?_)
        · refine lv_iload_n hx hb dM_age_32 rfl (lv_at hl 0 rfl) ?_
          refine lv_istore_n (lv' := [(2, .int (nI i)), (3, .int (nI i)), (1, .int (nI ch)), (0, .ref (a 0))]) hx hb dM_age_33 rfl hl (by decide) rfl (fun ls hl => ?_)
          refine lv_iinc (v := nI (i + 1)) (lv' := [(3, .int (nI (i + 1))), (2, .int (nI i)), (1, .int (nI ch)), (0, .ref (a 0))]) hx hb dM_age_34 hl (k := 1) rfl (nI_add i 1) (by decide) rfl (fun ls hl => ?_)
          refine lv_goto (tgt := 4) hx hb dM_age_37 (by decide) ?_
          have e1 : lastI (qS so ch) (i + 1) = i := by simp [lastI, qS, hc3]
          exact ih (i + 1) (by omega) (by omega) ls (by rw [e1]; exact lv_sub hl [0, 1, 2, 3] rfl)
        · refine lv_iload_n hx hb dM_age_28 rfl (lv_at hl 1 rfl) ?_
          refine lv_goto (tgt := 33) hx hb dM_age_29 (by decide) ?_
          refine lv_istore_n (lv' := [(2, .int (nI (lastI (qS so ch) i))), (3, .int (nI i)), (1, .int (nI ch)), (0, .ref (a 0))]) hx hb dM_age_33 rfl hl (by decide) rfl (fun ls hl => ?_)
          refine lv_iinc (v := nI (i + 1)) (lv' := [(3, .int (nI (i + 1))), (2, .int (nI (lastI (qS so ch) i))), (1, .int (nI ch)), (0, .ref (a 0))]) hx hb dM_age_34 hl (k := 1) rfl (nI_add i 1) (by decide) rfl (fun ls hl => ?_)
          refine lv_goto (tgt := 4) hx hb dM_age_37 (by decide) ?_
          have e1 : lastI (qS so ch) (i + 1) = lastI (qS so ch) i := by simp [lastI, qS, hc3]
          exact ih (i + 1) (by omega) (by omega) ls (by rw [e1]; exact lv_sub hl [0, 1, 2, 3] rfl)
  exact loop (mn ch + 1) 0 (by omega) (by omega) ls (lv_sub hl [0, 1, 3, 2] rfl)
set_option maxHeartbeats 4000000 in
set_option maxRecDepth 100000 in
theorem m_divisor (l : Launch) (D : va_G) (ka : Nat → ClassId) (H0 : Heap) (a1 b1 : Nat) (ha : a1 < 2 ^ 62) (hb2 : b1 < 2 ^ 62) : Met l yM_divisor (.code yM_divisor cM_divisor 10 (some .long) :: gT) ({ frames := 0, cells := 0, slots := 0, locals := 0 }) (ro_Pc D vwCl (tyL ka) H0 [.long (lN a1), .long (lN b1)]) (vp_Sl (fun r => r = lN (Nat.gcd a1 b1))) 0 0 (fun _ => False) := by
  refine Met.ofW (cc := cM_divisor) (maxL := 10) (ret := (some .long)) (by decide) rfl ?_
  intro p e s m args below meth c s₁ B hml hv
  obtain ⟨rfl, hH, hK, hN⟩ := hv
  subst hH
  have hx := B.exec
  have hb := B.bytes
  have hr := B.returns
  have hts : ∀ w ∈ gT, w.before ([.long (lN a1), .long (lN b1)] : List Value).toArray s = true := fun w h => atoms_spec (ws := (.code yM_divisor cM_divisor 10 (some .long) :: gT)) B.pre w (List.mem_cons_of_mem _ h)
  have hown : s.vm.findClass RM = some m.cls := findClass_of_methodNamed B.named
  have hlocks := B.notSynchronized
  have hl := lv_entry ([.long (lN a1), .long (lN b1)]) (n := 10) (Nat.le_of_ble_eq_true rfl)
  rw [lg_entry_eq]
  generalize (lg_sl ([.long (lN a1), .long (lN b1)]) ++ List.replicate (10 - (lg_sl ([.long (lN a1), .long (lN b1)])).length) Slot.unset).toArray = ls at hl ⊢
  have hl : lv_has ls 10 [(0, .long (lN a1)), (2, .long (lN b1))] := hl
  refine lv_lload_n hx hb dM_divisor_0 rfl (lv_at hl 0 rfl) ?_
  refine lv_lstore (lv' := [(4, .long (lN a1)), (0, .long (lN a1)), (2, .long (lN b1))]) hx hb dM_divisor_1 hl (by decide) rfl (fun ls hl => ?_)
  refine lv_lload_n hx hb dM_divisor_3 rfl (lv_at hl 2 rfl) ?_
  refine lv_lstore (lv' := [(6, .long (lN b1)), (4, .long (lN a1)), (0, .long (lN a1)), (2, .long (lN b1))]) hx hb dM_divisor_4 hl (by decide) rfl (fun ls hl => ?_)
  have loop : ∀ (fu x y : Nat), y < fu → x < 2 ^ 62 → y < 2 ^ 62 → Nat.gcd x y = Nat.gcd a1 b1 → ∀ ls : Array Slot, lv_has ls 10 [(6, .long (lN y)), (4, .long (lN x)), (2, .long (lN b1)), (0, .long (lN a1))] → W p l e (headSpec (.code yM_divisor cM_divisor 10 (some .long) :: gT) ({ frames := 0, cells := 0, slots := 0, locals := 0 })).room s m ([.long (lN a1), .long (lN b1)] : List Value).toArray below meth c s.heap [] 0 0 (MQ below (vp_Sl (fun r => r = lN (Nat.gcd a1 b1))) ([.long (lN a1), .long (lN b1)] : List Value).toArray s 0 0 (fun _ => False)) (F0 m 6 ls []) := by
    intro fu
    induction fu with
    | zero => intro x y h1; exact absurd h1 (by omega)
    | succ fu ih =>
      intro x y h1 hx2 hy2 hgc ls hl
      refine lv_lload hx hb dM_divisor_6 (lv_at hl 0 rfl) ?_
      refine lv_lconst (v := lN 0) hx hb dM_divisor_8 rfl ?_
      refine n_lcmp_eq (tgt := 31) hx hb (by omega) (by omega) dM_divisor_9 dM_divisor_10 (by decide) (fun hc => ?_) (fun hc => ?_)
      · refine lv_lload hx hb dM_divisor_31 (lv_at hl 1 rfl) ?_
        exact W.lret (v := lN x) hx hb hr (fun t ht hW => ⟨_, rfl, by rw [← hgc, show y = 0 by omega, Nat.gcd_zero_right], ht⟩) t_nil dM_divisor_33
      · have hy : 0 < y := by omega
        have hm := Nat.mod_lt x hy
        refine lv_lload hx hb dM_divisor_13 (lv_at hl 1 rfl) ?_
        refine lv_lload hx hb dM_divisor_15 (lv_at hl 0 rfl) ?_
        refine n_lrem hx hb (by omega) (by omega) (by omega) dM_divisor_17 ?_
        refine lv_lstore (lv' := [(8, .long (lN (x % y))), (6, .long (lN y)), (4, .long (lN x)), (2, .long (lN b1)), (0, .long (lN a1))]) hx hb dM_divisor_18 hl (by decide) rfl (fun ls hl => ?_)
        refine lv_lload hx hb dM_divisor_20 (lv_at hl 1 rfl) ?_
        refine lv_lstore (lv' := [(4, .long (lN y)), (8, .long (lN (x % y))), (6, .long (lN y)), (2, .long (lN b1)), (0, .long (lN a1))]) hx hb dM_divisor_22 hl (by decide) rfl (fun ls hl => ?_)
        refine lv_lload hx hb dM_divisor_24 (lv_at hl 1 rfl) ?_
        refine lv_lstore (lv' := [(6, .long (lN (x % y))), (4, .long (lN y)), (8, .long (lN (x % y))), (2, .long (lN b1)), (0, .long (lN a1))]) hx hb dM_divisor_26 hl (by decide) rfl (fun ls hl => ?_)
        refine lv_goto (tgt := 6) hx hb dM_divisor_28 (by decide) ?_
        exact ih y (x % y) (by omega) (by omega) (by omega) (by rw [← hgc]; exact (gcd_step x y).symm) ls (lv_sub hl [0, 1, 3, 4] rfl)
  exact loop (b1 + 1) a1 b1 (by omega) ha hb2 rfl ls (lv_sub hl [0, 1, 3, 2] rfl)
set_option maxHeartbeats 4000000 in
set_option maxRecDepth 100000 in
theorem m_common (l : Launch) (D : va_G) (ka : Nat → ClassId) (H0 : Heap) (a : Nat → Nat) (tv np nc : Nat) (pe an up dn rw : Nat → Nat) (so : Nat → Bool) (mn : Nat → Nat) (wd : Nat → Bool) (wv : Nat → Int64) (ch : Nat) (al : Bool) (Bd : Nat) (hM : va_P D vwCl (mW ka a tv np nc pe an up dn rw so mn wd wv) H0) (hO : mOk np nc pe an up dn rw so mn wd wv) (hc1 : 1 ≤ ch) (hc2 : ch ≤ nc) (hB1 : 1 < Bd) (hB2 : Bd ≤ 1000000000) (hal : ∀ i, i < mn ch → ((qS so ch) i || al) = true → 0 < (qF pe rw ch) i) : Met l yM_common (.code yM_common cM_common 10 (some .long) :: gT) ({ frames := 1, cells := 0, slots := 0, locals := 29 }) (ro_Pc D vwCl (tyL ka) H0 [.ref (a 0), .int (nI ch), .int (bI al), .long (lN Bd)]) (vp_Sl (fun r => r = lN (cyM Bd (fun i => (qS so ch) i || al) (qF pe rw ch) (mn ch)))) 0 0 (fun _ => False) := by
  refine Met.ofW (cc := cM_common) (maxL := 10) (ret := (some .long)) (by decide) rfl ?_
  intro p e s m args below meth c s₁ B hml hv
  obtain ⟨rfl, hH, hK, hN⟩ := hv
  subst hH
  have hx := B.exec
  have hb := B.bytes
  have hr := B.returns
  have hts : ∀ w ∈ gT, w.before ([.ref (a 0), .int (nI ch), .int (bI al), .long (lN Bd)] : List Value).toArray s = true := fun w h => atoms_spec (ws := (.code yM_common cM_common 10 (some .long) :: gT)) B.pre w (List.mem_cons_of_mem _ h)
  have hown : s.vm.findClass RM = some m.cls := findClass_of_methodNamed B.named
  have hlocks := B.notSynchronized
  have hl := lv_entry ([.ref (a 0), .int (nI ch), .int (bI al), .long (lN Bd)]) (n := 10) (Nat.le_of_ble_eq_true rfl)
  rw [lg_entry_eq]
  generalize (lg_sl ([.ref (a 0), .int (nI ch), .int (bI al), .long (lN Bd)]) ++ List.replicate (10 - (lg_sl ([.ref (a 0), .int (nI ch), .int (bI al), .long (lN Bd)])).length) Slot.unset).toArray = ls at hl ⊢
  have hl : lv_has ls 10 [(0, .ref (a 0)), (1, .int (nI ch)), (2, .int (bI al)), (3, .long (lN Bd))] := hl
  have hnp := hO.1
  have hnc := hO.2.1
  have hmn := (hO.2.2.2.1 ch hc1 hc2).1
  refine lv_lconst (v := lN 1) hx hb dM_common_0 rfl ?_
  refine lv_lstore (lv' := [(5, .long (lN 1)), (0, .ref (a 0)), (1, .int (nI ch)), (2, .int (bI al)), (3, .long (lN Bd))]) hx hb dM_common_1 hl (by decide) rfl (fun ls hl => ?_)
  refine lv_iconst (v := nI 0) hx hb dM_common_3 (by decide) ?_
  refine lv_istore (lv' := [(7, .int (nI 0)), (5, .long (lN 1)), (0, .ref (a 0)), (1, .int (nI ch)), (2, .int (bI al)), (3, .long (lN Bd))]) hx hb dM_common_4 hl (by decide) rfl (fun ls hl => ?_)
  have hB0 : 0 < Bd := by omega
  have loop : ∀ (fu i : Nat), i ≤ mn ch → mn ch < i + fu → ∀ ls : Array Slot, lv_has ls 10 [(7, .int (nI i)), (5, .long (lN (cyM Bd (fun i => (qS so ch) i || al) (qF pe rw ch) i))), (3, .long (lN Bd)), (2, .int (bI al)), (1, .int (nI ch)), (0, .ref (a 0))] → W p l e (headSpec (.code yM_common cM_common 10 (some .long) :: gT) ({ frames := 1, cells := 0, slots := 0, locals := 29 })).room s m ([.ref (a 0), .int (nI ch), .int (bI al), .long (lN Bd)] : List Value).toArray below meth c s.heap [] 0 0 (MQ below (vp_Sl (fun r => r = lN (cyM Bd (fun i => (qS so ch) i || al) (qF pe rw ch) (mn ch)))) ([.ref (a 0), .int (nI ch), .int (bI al), .long (lN Bd)] : List Value).toArray s 0 0 (fun _ => False)) (F0 m 6 ls []) := by
    intro fu
    induction fu with
    | zero => intro i h1 h2; exact absurd h2 (by omega)
    | succ fu ih =>
      intro i hi hf  ls hl
      refine lv_iload hx hb dM_common_6 (lv_at hl 0 rfl) ?_
      refine lv_aload_n hx hb dM_common_8 rfl (lv_at hl 5 rfl) ?_
      refine g_get (cl := vwCl) (ci := 3) (v := .ref (a 7)) hx hb hts inM hown hK (hM.nth 0 rfl) rfl 9 (by decide) (hts _ tb_309) rfl dM_common_9 ?_
      refine lv_iload_n hx hb dM_common_12 rfl (lv_at hl 4 rfl) ?_
      refine g_ialdv (v := nI (mn ch)) hx hb hK 4 (hM.nth 7 rfl) rfl (by omega) (by decide) (rfl) dM_common_13 ?_
      refine n_icmp_ge (tgt := 100) hx hb (by omega) (by omega) dM_common_14 (by decide) (fun hc => ?_) (fun hc => ?_)
      · refine lv_lload hx hb dM_common_100 (lv_at hl 1 rfl) ?_
        exact W.lret (v := lN (cyM Bd (fun i => (qS so ch) i || al) (qF pe rw ch) i)) hx hb hr (fun t ht hW => ⟨_, rfl, by rw [show i = mn ch by omega], ht⟩) t_nil dM_common_102
      · have hR := hO.row hc1 hc2 hc
        have hR2 : pe (rw ((12 * ch) + i)) ≤ 20000 := hR.2.1
        have hci := cyM_in hB0 (sel := (fun i => (qS so ch) i || al)) (T := (qF pe rw ch)) i (fun j hj hs => hal j (by omega) hs)
        refine lv_aload_n hx hb dM_common_17 rfl (lv_at hl 5 rfl) ?_
        refine g_get (cl := vwCl) (ci := 3) (v := .ref (a 1)) hx hb hts inM hown hK (hM.nth 0 rfl) rfl 2 (by decide) (hts _ tb_302) rfl dM_common_18 ?_
        refine lv_aload_n hx hb dM_common_21 rfl (lv_at hl 5 rfl) ?_
        refine g_get (cl := vwCl) (ci := 3) (v := .ref (a 5)) hx hb hts inM hown hK (hM.nth 0 rfl) rfl 7 (by decide) (hts _ tb_307) rfl dM_common_22 ?_
        refine lv_bipush (v := nI 12) hx hb dM_common_25 (by decide) ?_
        refine lv_iload_n hx hb dM_common_27 rfl (lv_at hl 4 rfl) ?_
        refine n_imul hx hb dM_common_28 ?_
        refine lv_iload hx hb dM_common_29 (lv_at hl 0 rfl) ?_
        refine n_iadd hx hb dM_common_31 ?_
        refine g_ialdv (v := nI (rw ((12 * ch) + i))) hx hb hK 4 (hM.nth 5 rfl) rfl (by omega) (by decide) (rfl) dM_common_32 ?_
        refine g_laldv (v := lN (pe (rw ((12 * ch) + i)))) hx hb hK 3 (hM.nth 1 rfl) rfl (by omega) (by decide) (rfl) dM_common_33 ?_
        refine lv_lstore (lv' := [(8, .long (lN (pe (rw ((12 * ch) + i))))), (7, .int (nI i)), (5, .long (lN (cyM Bd (fun i => (qS so ch) i || al) (qF pe rw ch) i))), (3, .long (lN Bd)), (2, .int (bI al)), (1, .int (nI ch)), (0, .ref (a 0))]) hx hb dM_common_34 hl (by decide) rfl (fun ls hl => ?_)
        refine lv_iload_n hx hb dM_common_36 rfl (lv_at hl 4 rfl) ?_
        refine b_if_ne (tgt := 55) hx hb dM_common_37 (by decide) (fun hc3 => ?_) (fun hc3 => ?_)
        · have hs : ((qS so ch) i || al) = true := by simp [hc3]
          have hTp : 0 < pe (rw ((12 * ch) + i)) := hal i hc hs
          have hlp := lcm_le (a := cyM Bd (fun i => (qS so ch) i || al) (qF pe rw ch) i) (b := pe (rw ((12 * ch) + i)))
          have hlq : cyM Bd (fun i => (qS so ch) i || al) (qF pe rw ch) i * pe (rw ((12 * ch) + i)) ≤ 1000000000 * 20000 := Nat.mul_le_mul (by omega) hR2
          have hg := Nat.gcd_pos_of_pos_left (pe (rw ((12 * ch) + i))) hci.1
          have hg2 := Nat.gcd_le_left (pe (rw ((12 * ch) + i))) hci.1
          have e0 : cyM Bd (fun i => (qS so ch) i || al) (qF pe rw ch) i / Nat.gcd (cyM Bd (fun i => (qS so ch) i || al) (qF pe rw ch) i) (pe (rw ((12 * ch) + i))) * pe (rw ((12 * ch) + i)) = Nat.lcm (cyM Bd (fun i => (qS so ch) i || al) (qF pe rw ch) i) (pe (rw ((12 * ch) + i))) := lcm_eq hg
          have e1 : cyM Bd (fun i => (qS so ch) i || al) (qF pe rw ch) (i + 1) = min Bd (Nat.lcm (cyM Bd (fun i => (qS so ch) i || al) (qF pe rw ch) i) (pe (rw ((12 * ch) + i)))) := by show (if _ then _ else _) = _; rw [if_pos hs]; rfl
          have htop : cyM Bd (fun i => (qS so ch) i || al) (qF pe rw ch) (i + 1) = Bd → cyM Bd (fun i => (qS so ch) i || al) (qF pe rw ch) (mn ch) = Bd := fun q => cyM_top hB0 (i := i + 1) (by omega) hal q
          refine lv_lload hx hb dM_common_55 (lv_at hl 2 rfl) ?_
          refine lv_lload hx hb dM_common_57 (lv_at hl 2 rfl) ?_
          refine lv_lload hx hb dM_common_59 (lv_at hl 0 rfl) ?_
          refine vp_callSl (va_Run.run (va_runS (As := [.long (lN (cyM Bd (fun i => (qS so ch) i || al) (qF pe rw ch) i)), .long (lN (pe (rw ((12 * ch) + i))))]) (rest := [.long (lN (cyM Bd (fun i => (qS so ch) i || al) (qF pe rw ch) i))]) ⟨hx, hb, hml, hown, hts⟩ (m_divisor l D ka s.heap (cyM Bd (fun i => (qS so ch) i || al) (qF pe rw ch) i) (pe (rw ((12 * ch) + i))) (by omega) (by omega)) (cw_S 2 hts tb_418 rfl rfl tb_416 tb_2 tb_417 (by decide +kernel) ⟨Nat.le_of_ble_eq_true rfl, Nat.le_of_ble_eq_true rfl⟩) (ro_S hK hN) rfl rfl hl.1 rfl (lv_room (Nat.le_of_ble_eq_true rfl)) dM_common_61 ⟨Nat.zero_le _, Nat.zero_le _⟩)) (fun r er => ?_)
          subst er
          refine n_ldiv hx hb (by omega) (by omega) (by omega) dM_common_64 ?_
          refine lv_lload hx hb dM_common_65 (lv_at hl 0 rfl) ?_
          refine n_lmul hx hb dM_common_67 ?_
          rw [e0]
          generalize hLL : Nat.lcm (cyM Bd (fun i => (qS so ch) i || al) (qF pe rw ch) i) (pe (rw ((12 * ch) + i))) = LL at hlp e1 ⊢
          refine lv_lstore (lv' := [(5, .long (lN LL)), (8, .long (lN (pe (rw ((12 * ch) + i))))), (7, .int (nI i)), (3, .long (lN Bd)), (2, .int (bI al)), (1, .int (nI ch)), (0, .ref (a 0))]) hx hb dM_common_68 hl (by decide) rfl (fun ls hl => ?_)
          refine lv_lload hx hb dM_common_70 (lv_at hl 0 rfl) ?_
          refine lv_lload_n hx hb dM_common_72 rfl (lv_at hl 3 rfl) ?_
          refine n_lcmp_le (tgt := 81) hx hb (by omega) (by omega) dM_common_73 dM_common_74 (by decide) (fun hc5 => ?_) (fun hc5 => ?_)
          · refine lv_lload hx hb dM_common_81 (lv_at hl 0 rfl) ?_
            refine lv_lstore (lv' := [(5, .long (lN LL)), (8, .long (lN (pe (rw ((12 * ch) + i))))), (7, .int (nI i)), (3, .long (lN Bd)), (2, .int (bI al)), (1, .int (nI ch)), (0, .ref (a 0))]) hx hb dM_common_83 hl (by decide) rfl (fun ls hl => ?_)
            refine lv_lload hx hb dM_common_85 (lv_at hl 0 rfl) ?_
            refine lv_lload_n hx hb dM_common_87 rfl (lv_at hl 3 rfl) ?_
            refine n_lcmp_ne (tgt := 94) hx hb (by omega) (by omega) dM_common_88 dM_common_89 (by decide) (fun hc6 => ?_) (fun hc6 => ?_)
            · refine lv_iinc (v := nI (i + 1)) (lv' := [(7, .int (nI (i + 1))), (5, .long (lN LL)), (8, .long (lN (pe (rw ((12 * ch) + i))))), (3, .long (lN Bd)), (2, .int (bI al)), (1, .int (nI ch)), (0, .ref (a 0))]) hx hb dM_common_94 hl (k := 2) rfl (nI_add i 1) (by decide) rfl (fun ls hl => ?_)
              refine lv_goto (tgt := 6) hx hb dM_common_97 (by decide) ?_
              exact ih (i + 1) (by omega) (by omega) ls (by rw [e1, show min Bd LL = LL by omega]; exact lv_sub hl [0, 1, 3, 4, 5, 6] rfl)
            · refine lv_lload_n hx hb dM_common_92 rfl (lv_at hl 3 rfl) ?_
              exact W.lret (v := lN Bd) hx hb hr (fun t ht hW => ⟨_, rfl, by rw [htop (by rw [e1]; omega)], ht⟩) t_nil dM_common_93
          · refine lv_lload_n hx hb dM_common_77 rfl (lv_at hl 3 rfl) ?_
            refine lv_goto (tgt := 83) hx hb dM_common_78 (by decide) ?_
            refine lv_lstore (lv' := [(5, .long (lN Bd)), (8, .long (lN (pe (rw ((12 * ch) + i))))), (7, .int (nI i)), (3, .long (lN Bd)), (2, .int (bI al)), (1, .int (nI ch)), (0, .ref (a 0))]) hx hb dM_common_83 hl (by decide) rfl (fun ls hl => ?_)
            refine lv_lload hx hb dM_common_85 (lv_at hl 0 rfl) ?_
            refine lv_lload_n hx hb dM_common_87 rfl (lv_at hl 3 rfl) ?_
            refine n_lcmp_ne (tgt := 94) hx hb (by omega) (by omega) dM_common_88 dM_common_89 (by decide) (fun hc6 => ?_) (fun hc6 => ?_)
            · refine lv_iinc (v := nI (i + 1)) (lv' := [(7, .int (nI (i + 1))), (5, .long (lN Bd)), (8, .long (lN (pe (rw ((12 * ch) + i))))), (3, .long (lN Bd)), (2, .int (bI al)), (1, .int (nI ch)), (0, .ref (a 0))]) hx hb dM_common_94 hl (k := 2) rfl (nI_add i 1) (by decide) rfl (fun ls hl => ?_)
              refine lv_goto (tgt := 6) hx hb dM_common_97 (by decide) ?_
              exact ih (i + 1) (by omega) (by omega) ls (by rw [e1, show min Bd LL = Bd by omega]; exact lv_sub hl [0, 1, 3, 4, 5, 6] rfl)
            · refine lv_lload_n hx hb dM_common_92 rfl (lv_at hl 3 rfl) ?_
              exact W.lret (v := lN Bd) hx hb hr (fun t ht hW => ⟨_, rfl, by rw [htop (by rw [e1]; omega)], ht⟩) t_nil dM_common_93
        · refine lv_aload_n hx hb dM_common_40 rfl (lv_at hl 6 rfl) ?_
          refine g_get (cl := vwCl) (ci := 3) (v := .ref (a 6)) hx hb hts inM hown hK (hM.nth 0 rfl) rfl 8 (by decide) (hts _ tb_308) rfl dM_common_41 ?_
          refine lv_bipush (v := nI 12) hx hb dM_common_44 (by decide) ?_
          refine lv_iload_n hx hb dM_common_46 rfl (lv_at hl 5 rfl) ?_
          refine n_imul hx hb dM_common_47 ?_
          refine lv_iload hx hb dM_common_48 (lv_at hl 1 rfl) ?_
          refine n_iadd hx hb dM_common_50 ?_
          refine g_zaldv (v := bI (so ((12 * ch) + i))) hx hb hK 2 (hM.nth 6 rfl) rfl (by omega) (by decide) (rfl) dM_common_51 ?_
          refine b_if_ne (tgt := 94) hx hb dM_common_52 (by decide) (fun hc4 => ?_) (fun hc4 => ?_)
          · refine lv_iinc (v := nI (i + 1)) (lv' := [(7, .int (nI (i + 1))), (8, .long (lN (pe (rw ((12 * ch) + i))))), (5, .long (lN (cyM Bd (fun i => (qS so ch) i || al) (qF pe rw ch) i))), (3, .long (lN Bd)), (2, .int (bI al)), (1, .int (nI ch)), (0, .ref (a 0))]) hx hb dM_common_94 hl (k := 1) rfl (nI_add i 1) (by decide) rfl (fun ls hl => ?_)
            refine lv_goto (tgt := 6) hx hb dM_common_97 (by decide) ?_
            have e1 : cyM Bd (fun i => (qS so ch) i || al) (qF pe rw ch) (i + 1) = cyM Bd (fun i => (qS so ch) i || al) (qF pe rw ch) i := by show (if _ then _ else _) = _; rw [if_neg (by simp [qS, hc3, hc4])]
            exact ih (i + 1) (by omega) (by omega) ls (by rw [e1]; exact lv_sub hl [0, 2, 3, 4, 5, 6] rfl)
          · have hs : ((qS so ch) i || al) = true := by simp [qS, hc3, hc4]
            have hTp : 0 < pe (rw ((12 * ch) + i)) := hal i hc hs
            have hlp := lcm_le (a := cyM Bd (fun i => (qS so ch) i || al) (qF pe rw ch) i) (b := pe (rw ((12 * ch) + i)))
            have hlq : cyM Bd (fun i => (qS so ch) i || al) (qF pe rw ch) i * pe (rw ((12 * ch) + i)) ≤ 1000000000 * 20000 := Nat.mul_le_mul (by omega) hR2
            have hg := Nat.gcd_pos_of_pos_left (pe (rw ((12 * ch) + i))) hci.1
            have hg2 := Nat.gcd_le_left (pe (rw ((12 * ch) + i))) hci.1
            have e0 : cyM Bd (fun i => (qS so ch) i || al) (qF pe rw ch) i / Nat.gcd (cyM Bd (fun i => (qS so ch) i || al) (qF pe rw ch) i) (pe (rw ((12 * ch) + i))) * pe (rw ((12 * ch) + i)) = Nat.lcm (cyM Bd (fun i => (qS so ch) i || al) (qF pe rw ch) i) (pe (rw ((12 * ch) + i))) := lcm_eq hg
            have e1 : cyM Bd (fun i => (qS so ch) i || al) (qF pe rw ch) (i + 1) = min Bd (Nat.lcm (cyM Bd (fun i => (qS so ch) i || al) (qF pe rw ch) i) (pe (rw ((12 * ch) + i)))) := by show (if _ then _ else _) = _; rw [if_pos hs]; rfl
            have htop : cyM Bd (fun i => (qS so ch) i || al) (qF pe rw ch) (i + 1) = Bd → cyM Bd (fun i => (qS so ch) i || al) (qF pe rw ch) (mn ch) = Bd := fun q => cyM_top hB0 (i := i + 1) (by omega) hal q
            refine lv_lload hx hb dM_common_55 (lv_at hl 2 rfl) ?_
            refine lv_lload hx hb dM_common_57 (lv_at hl 2 rfl) ?_
            refine lv_lload hx hb dM_common_59 (lv_at hl 0 rfl) ?_
            refine vp_callSl (va_Run.run (va_runS (As := [.long (lN (cyM Bd (fun i => (qS so ch) i || al) (qF pe rw ch) i)), .long (lN (pe (rw ((12 * ch) + i))))]) (rest := [.long (lN (cyM Bd (fun i => (qS so ch) i || al) (qF pe rw ch) i))]) ⟨hx, hb, hml, hown, hts⟩ (m_divisor l D ka s.heap (cyM Bd (fun i => (qS so ch) i || al) (qF pe rw ch) i) (pe (rw ((12 * ch) + i))) (by omega) (by omega)) (cw_S 2 hts tb_418 rfl rfl tb_416 tb_2 tb_417 (by decide +kernel) ⟨Nat.le_of_ble_eq_true rfl, Nat.le_of_ble_eq_true rfl⟩) (ro_S hK hN) rfl rfl hl.1 rfl (lv_room (Nat.le_of_ble_eq_true rfl)) dM_common_61 ⟨Nat.zero_le _, Nat.zero_le _⟩)) (fun r er => ?_)
            subst er
            refine n_ldiv hx hb (by omega) (by omega) (by omega) dM_common_64 ?_
            refine lv_lload hx hb dM_common_65 (lv_at hl 0 rfl) ?_
            refine n_lmul hx hb dM_common_67 ?_
            rw [e0]
            generalize hLL : Nat.lcm (cyM Bd (fun i => (qS so ch) i || al) (qF pe rw ch) i) (pe (rw ((12 * ch) + i))) = LL at hlp e1 ⊢
            refine lv_lstore (lv' := [(5, .long (lN LL)), (8, .long (lN (pe (rw ((12 * ch) + i))))), (7, .int (nI i)), (3, .long (lN Bd)), (2, .int (bI al)), (1, .int (nI ch)), (0, .ref (a 0))]) hx hb dM_common_68 hl (by decide) rfl (fun ls hl => ?_)
            refine lv_lload hx hb dM_common_70 (lv_at hl 0 rfl) ?_
            refine lv_lload_n hx hb dM_common_72 rfl (lv_at hl 3 rfl) ?_
            refine n_lcmp_le (tgt := 81) hx hb (by omega) (by omega) dM_common_73 dM_common_74 (by decide) (fun hc5 => ?_) (fun hc5 => ?_)
            · refine lv_lload hx hb dM_common_81 (lv_at hl 0 rfl) ?_
              refine lv_lstore (lv' := [(5, .long (lN LL)), (8, .long (lN (pe (rw ((12 * ch) + i))))), (7, .int (nI i)), (3, .long (lN Bd)), (2, .int (bI al)), (1, .int (nI ch)), (0, .ref (a 0))]) hx hb dM_common_83 hl (by decide) rfl (fun ls hl => ?_)
              refine lv_lload hx hb dM_common_85 (lv_at hl 0 rfl) ?_
              refine lv_lload_n hx hb dM_common_87 rfl (lv_at hl 3 rfl) ?_
              refine n_lcmp_ne (tgt := 94) hx hb (by omega) (by omega) dM_common_88 dM_common_89 (by decide) (fun hc6 => ?_) (fun hc6 => ?_)
              · refine lv_iinc (v := nI (i + 1)) (lv' := [(7, .int (nI (i + 1))), (5, .long (lN LL)), (8, .long (lN (pe (rw ((12 * ch) + i))))), (3, .long (lN Bd)), (2, .int (bI al)), (1, .int (nI ch)), (0, .ref (a 0))]) hx hb dM_common_94 hl (k := 2) rfl (nI_add i 1) (by decide) rfl (fun ls hl => ?_)
                refine lv_goto (tgt := 6) hx hb dM_common_97 (by decide) ?_
                exact ih (i + 1) (by omega) (by omega) ls (by rw [e1, show min Bd LL = LL by omega]; exact lv_sub hl [0, 1, 3, 4, 5, 6] rfl)
              · refine lv_lload_n hx hb dM_common_92 rfl (lv_at hl 3 rfl) ?_
                exact W.lret (v := lN Bd) hx hb hr (fun t ht hW => ⟨_, rfl, by rw [htop (by rw [e1]; omega)], ht⟩) t_nil dM_common_93
            · refine lv_lload_n hx hb dM_common_77 rfl (lv_at hl 3 rfl) ?_
              refine lv_goto (tgt := 83) hx hb dM_common_78 (by decide) ?_
              refine lv_lstore (lv' := [(5, .long (lN Bd)), (8, .long (lN (pe (rw ((12 * ch) + i))))), (7, .int (nI i)), (3, .long (lN Bd)), (2, .int (bI al)), (1, .int (nI ch)), (0, .ref (a 0))]) hx hb dM_common_83 hl (by decide) rfl (fun ls hl => ?_)
              refine lv_lload hx hb dM_common_85 (lv_at hl 0 rfl) ?_
              refine lv_lload_n hx hb dM_common_87 rfl (lv_at hl 3 rfl) ?_
              refine n_lcmp_ne (tgt := 94) hx hb (by omega) (by omega) dM_common_88 dM_common_89 (by decide) (fun hc6 => ?_) (fun hc6 => ?_)
              · refine lv_iinc (v := nI (i + 1)) (lv' := [(7, .int (nI (i + 1))), (5, .long (lN Bd)), (8, .long (lN (pe (rw ((12 * ch) + i))))), (3, .long (lN Bd)), (2, .int (bI al)), (1, .int (nI ch)), (0, .ref (a 0))]) hx hb dM_common_94 hl (k := 2) rfl (nI_add i 1) (by decide) rfl (fun ls hl => ?_)
                refine lv_goto (tgt := 6) hx hb dM_common_97 (by decide) ?_
                exact ih (i + 1) (by omega) (by omega) ls (by rw [e1, show min Bd LL = Bd by omega]; exact lv_sub hl [0, 1, 3, 4, 5, 6] rfl)
              · refine lv_lload_n hx hb dM_common_92 rfl (lv_at hl 3 rfl) ?_
                exact W.lret (v := lN Bd) hx hb hr (fun t ht hW => ⟨_, rfl, by rw [htop (by rw [e1]; omega)], ht⟩) t_nil dM_common_93
  exact loop (mn ch + 1) 0 (by omega) (by omega) ls (lv_sub hl [0, 1, 5, 4, 3, 2] rfl)
set_option maxHeartbeats 4000000 in
set_option maxRecDepth 100000 in
theorem m_isPlain (l : Launch) (D : va_G) (ka : Nat → ClassId) (H0 : Heap) (a : Nat → Nat) (tv np nc : Nat) (pe an up dn rw : Nat → Nat) (so : Nat → Bool) (mn : Nat → Nat) (wd : Nat → Bool) (wv : Nat → Int64) (ch : Nat) (hM : va_P D vwCl (mW ka a tv np nc pe an up dn rw so mn wd wv) H0) (hO : mOk np nc pe an up dn rw so mn wd wv) (hc1 : 1 ≤ ch) (hc2 : ch ≤ nc) : Met l yM_isPlain (.code yM_isPlain cM_isPlain 4 (some .boolean) :: gT) ({ frames := 2, cells := 0, slots := 0, locals := 58 }) (ro_Pc D vwCl (tyL ka) H0 [.ref (a 0), .int (nI ch)]) (vp_Si (fun r => r = bI (canN (qS so ch) (qF pe rw ch) (qF up rw ch) (mn ch)))) 0 0 (fun _ => False) := by
  refine Met.ofW (cc := cM_isPlain) (maxL := 4) (ret := (some .boolean)) (by decide) rfl ?_
  intro p e s m args below meth c s₁ B hml hv
  obtain ⟨rfl, hH, hK, hN⟩ := hv
  subst hH
  have hx := B.exec
  have hb := B.bytes
  have hr := B.returns
  have hts : ∀ w ∈ gT, w.before ([.ref (a 0), .int (nI ch)] : List Value).toArray s = true := fun w h => atoms_spec (ws := (.code yM_isPlain cM_isPlain 4 (some .boolean) :: gT)) B.pre w (List.mem_cons_of_mem _ h)
  have hown : s.vm.findClass RM = some m.cls := findClass_of_methodNamed B.named
  have hlocks := B.notSynchronized
  have hl := lv_entry ([.ref (a 0), .int (nI ch)]) (n := 4) (Nat.le_of_ble_eq_true rfl)
  rw [lg_entry_eq]
  generalize (lg_sl ([.ref (a 0), .int (nI ch)]) ++ List.replicate (4 - (lg_sl ([.ref (a 0), .int (nI ch)])).length) Slot.unset).toArray = ls at hl ⊢
  have hl : lv_has ls 4 [(0, .ref (a 0)), (1, .int (nI ch))] := hl
  have hnp := hO.1
  have hnc := hO.2.1
  have hmn := (hO.2.2.2.1 ch hc1 hc2).1
  have hal : ∀ i, i < mn ch → ((qS so ch) i || false) = true → 0 < (qF pe rw ch) i := fun i hi hs => hO.sel hc1 hc2 i hi (by simpa using hs)
  have hcl := cyM_le hal
  refine lv_iconst (v := nI 1) hx hb dM_isPlain_0 (by decide) ?_
  refine lv_istore_n (lv' := [(2, .int (nI 1)), (0, .ref (a 0)), (1, .int (nI ch))]) hx hb dM_isPlain_1 rfl hl (by decide) rfl (fun ls hl => ?_)
  refine lv_iconst (v := nI 0) hx hb dM_isPlain_2 (by decide) ?_
  refine lv_istore_n (lv' := [(3, .int (nI 0)), (2, .int (nI 1)), (0, .ref (a 0)), (1, .int (nI ch))]) hx hb dM_isPlain_3 rfl hl (by decide) rfl (fun ls hl => ?_)
  have ebt : nI 1 = bI true := rfl
  rw [ebt] at hl
  have loop : ∀ (fu i : Nat), i ≤ mn ch → mn ch < i + fu → ∀ ls : Array Slot, lv_has ls 4 [(3, .int (nI i)), (2, .int (bI (!(anyN (fun i => (qF up rw ch) i != 0) i)))), (1, .int (nI ch)), (0, .ref (a 0))] → W p l e (headSpec (.code yM_isPlain cM_isPlain 4 (some .boolean) :: gT) ({ frames := 2, cells := 0, slots := 0, locals := 58 })).room s m ([.ref (a 0), .int (nI ch)] : List Value).toArray below meth c s.heap [] 0 0 (MQ below (vp_Si (fun r => r = bI (canN (qS so ch) (qF pe rw ch) (qF up rw ch) (mn ch)))) ([.ref (a 0), .int (nI ch)] : List Value).toArray s 0 0 (fun _ => False)) (F0 m 4 ls []) := by
    intro fu
    induction fu with
    | zero => intro i h1 h2; exact absurd h2 (by omega)
    | succ fu ih =>
      intro i hi hf  ls hl
      refine lv_iload_n hx hb dM_isPlain_4 rfl (lv_at hl 0 rfl) ?_
      refine lv_aload_n hx hb dM_isPlain_5 rfl (lv_at hl 3 rfl) ?_
      refine g_get (cl := vwCl) (ci := 3) (v := .ref (a 7)) hx hb hts inM hown hK (hM.nth 0 rfl) rfl 9 (by decide) (hts _ tb_309) rfl dM_isPlain_6 ?_
      refine lv_iload_n hx hb dM_isPlain_9 rfl (lv_at hl 2 rfl) ?_
      refine g_ialdv (v := nI (mn ch)) hx hb hK 4 (hM.nth 7 rfl) rfl (by omega) (by decide) (rfl) dM_isPlain_10 ?_
      refine n_icmp_ge (tgt := 51) hx hb (by omega) (by omega) dM_isPlain_11 (by decide) (fun hc => ?_) (fun hc => ?_)
      · obtain hi2 : i = mn ch := by omega
        subst hi2
        refine lv_iload_n hx hb dM_isPlain_51 rfl (lv_at hl 1 rfl) ?_
        refine b_if_eq (tgt := 75) hx hb dM_isPlain_52 (by decide) (fun hc3 => ?_) (fun hc3 => ?_)
        · refine lv_iconst (v := nI 0) hx hb dM_isPlain_75 (by decide) ?_
          exact W.zret (v := nI 0) (ty := .boolean) hx hb hr (by decide) (fun t ht hW => ⟨_, rfl, by rw [show canN (qS so ch) (qF pe rw ch) (qF up rw ch) (mn ch) = false by simp [canN, hc3]]; rfl, ht⟩) t_nil dM_isPlain_76
        · refine lv_aload_n hx hb dM_isPlain_55 rfl (lv_at hl 3 rfl) ?_
          refine lv_iload_n hx hb dM_isPlain_56 rfl (lv_at hl 2 rfl) ?_
          refine lv_iconst (v := nI 0) hx hb dM_isPlain_57 (by decide) ?_
          have ebf : nI 0 = bI false := rfl
          rw [ebf]
          refine lv_ldc2 (v := lN 20001) hx hb hown (hts _ tb_427) dM_isPlain_58 ?_
          refine vp_callSl (va_Run.run (va_runV (As := [.int (nI ch), .int (bI false), .long (lN 20001)]) (rest := []) ⟨hx, hb, hml, hown, hts⟩ (m_common l D ka s.heap a tv np nc pe an up dn rw so mn wd wv ch false 20001 hM hO hc1 hc2 (by omega) (by omega) hal) (cw_V 3 hts tb_415 rfl rfl tb_412 tb_2 tb_414 ts_26 (by decide +kernel) ⟨Nat.le_of_ble_eq_true rfl, Nat.le_of_ble_eq_true rfl⟩) (ro_V (ci := 3) hK hN (hM.nth 0 rfl) rfl) rfl rfl hl.1 rfl (lv_room (Nat.le_of_ble_eq_true rfl)) dM_isPlain_61 ⟨Nat.zero_le _, Nat.zero_le _⟩)) (fun r er => ?_)
          subst er
          have hcin := cyM_in (B := 20001) (by decide) (sel := fun i => (qS so ch) i || false) (T := (qF pe rw ch)) (mn ch) hal
          refine lv_ldc2 (v := lN 20000) hx hb hown (hts _ tb_347) dM_isPlain_64 ?_
          refine n_lcmp_gt (tgt := 75) hx hb (by omega) (by omega) dM_isPlain_67 dM_isPlain_68 (by decide) (fun hc4 => ?_) (fun hc4 => ?_)
          · refine lv_iconst (v := nI 0) hx hb dM_isPlain_75 (by decide) ?_
            exact W.zret (v := nI 0) (ty := .boolean) hx hb hr (by decide) (fun t ht hW => ⟨_, rfl, by rw [canN_no (Nat.lt_of_not_le (fun q => absurd (hcl.mpr q) (by omega)))]; rfl, ht⟩) t_nil dM_isPlain_76
          · refine lv_iconst (v := nI 1) hx hb dM_isPlain_71 (by decide) ?_
            refine lv_goto (tgt := 76) hx hb dM_isPlain_72 (by decide) ?_
            exact W.zret (v := nI 1) (ty := .boolean) hx hb hr (by decide) (fun t ht hW => ⟨_, rfl, by rw [canN_yes hc3 (hcl.mp hc4)]; rfl, ht⟩) t_nil dM_isPlain_76
      · have hR := hO.row hc1 hc2 hc
        refine lv_iload_n hx hb dM_isPlain_14 rfl (lv_at hl 1 rfl) ?_
        refine b_if_eq (tgt := 43) hx hb dM_isPlain_15 (by decide) (fun hc3 => ?_) (fun hc3 => ?_)
        · refine lv_iconst (v := nI 0) hx hb dM_isPlain_43 (by decide) ?_
          refine lv_istore_n (lv' := [(2, .int (nI 0)), (3, .int (nI i)), (1, .int (nI ch)), (0, .ref (a 0))]) hx hb dM_isPlain_44 rfl hl (by decide) rfl (fun ls hl => ?_)
          refine lv_iinc (v := nI (i + 1)) (lv' := [(3, .int (nI (i + 1))), (2, .int (nI 0)), (1, .int (nI ch)), (0, .ref (a 0))]) hx hb dM_isPlain_45 hl (k := 1) rfl (nI_add i 1) (by decide) rfl (fun ls hl => ?_)
          refine lv_goto (tgt := 4) hx hb dM_isPlain_48 (by decide) ?_
          have e1 : bI (!(anyN (fun i => (qF up rw ch) i != 0) (i + 1))) = nI 0 := by rw [show (!(anyN (fun i => (qF up rw ch) i != 0) (i + 1))) = false by simp [anyN]; intro h9; simp [h9] at hc3]; rfl
          exact ih (i + 1) (by omega) (by omega) ls (by rw [e1]; exact lv_sub hl [0, 1, 2, 3] rfl)
        · have hu : up (rw ((12 * ch) + i)) ≤ 1000000 := by have h9 := hR.2.2.2.1; have h8 := hR.2.2.2.2.1; simp only [qF] at h9 h8; omega
          refine lv_aload_n hx hb dM_isPlain_18 rfl (lv_at hl 3 rfl) ?_
          refine g_get (cl := vwCl) (ci := 3) (v := .ref (a 3)) hx hb hts inM hown hK (hM.nth 0 rfl) rfl 4 (by decide) (hts _ tb_304) rfl dM_isPlain_19 ?_
          refine lv_aload_n hx hb dM_isPlain_22 rfl (lv_at hl 3 rfl) ?_
          refine g_get (cl := vwCl) (ci := 3) (v := .ref (a 5)) hx hb hts inM hown hK (hM.nth 0 rfl) rfl 7 (by decide) (hts _ tb_307) rfl dM_isPlain_23 ?_
          refine lv_bipush (v := nI 12) hx hb dM_isPlain_26 (by decide) ?_
          refine lv_iload_n hx hb dM_isPlain_28 rfl (lv_at hl 2 rfl) ?_
          refine n_imul hx hb dM_isPlain_29 ?_
          refine lv_iload_n hx hb dM_isPlain_30 rfl (lv_at hl 0 rfl) ?_
          refine n_iadd hx hb dM_isPlain_31 ?_
          refine g_ialdv (v := nI (rw ((12 * ch) + i))) hx hb hK 4 (hM.nth 5 rfl) rfl (by omega) (by decide) (rfl) dM_isPlain_32 ?_
          refine g_laldv (v := lN (up (rw ((12 * ch) + i)))) hx hb hK 3 (hM.nth 3 rfl) rfl (by omega) (by decide) (rfl) dM_isPlain_33 ?_
          refine lv_lconst (v := lN 0) hx hb dM_isPlain_34 rfl ?_
          refine n_lcmp_ne (tgt := 43) hx hb (by omega) (by omega) dM_isPlain_35 dM_isPlain_36 (by decide) (fun hc4 => ?_) (fun hc4 => ?_)
          · refine lv_iconst (v := nI 0) hx hb dM_isPlain_43 (by decide) ?_
            refine lv_istore_n (lv' := [(2, .int (nI 0)), (3, .int (nI i)), (1, .int (nI ch)), (0, .ref (a 0))]) hx hb dM_isPlain_44 rfl hl (by decide) rfl (fun ls hl => ?_)
            refine lv_iinc (v := nI (i + 1)) (lv' := [(3, .int (nI (i + 1))), (2, .int (nI 0)), (1, .int (nI ch)), (0, .ref (a 0))]) hx hb dM_isPlain_45 hl (k := 1) rfl (nI_add i 1) (by decide) rfl (fun ls hl => ?_)
            refine lv_goto (tgt := 4) hx hb dM_isPlain_48 (by decide) ?_
            have e1 : bI (!(anyN (fun i => (qF up rw ch) i != 0) (i + 1))) = nI 0 := by rw [show (!(anyN (fun i => (qF up rw ch) i != 0) (i + 1))) = false by simp [anyN, qF, hc4]]; rfl
            exact ih (i + 1) (by omega) (by omega) ls (by rw [e1]; exact lv_sub hl [0, 1, 2, 3] rfl)
          · refine lv_iconst (v := nI 1) hx hb dM_isPlain_39 (by decide) ?_
            refine lv_goto (tgt := 44) hx hb dM_isPlain_40 (by decide) ?_
            refine lv_istore_n (lv' := [(2, .int (nI 1)), (3, .int (nI i)), (1, .int (nI ch)), (0, .ref (a 0))]) hx hb dM_isPlain_44 rfl hl (by decide) rfl (fun ls hl => ?_)
            refine lv_iinc (v := nI (i + 1)) (lv' := [(3, .int (nI (i + 1))), (2, .int (nI 1)), (1, .int (nI ch)), (0, .ref (a 0))]) hx hb dM_isPlain_45 hl (k := 1) rfl (nI_add i 1) (by decide) rfl (fun ls hl => ?_)
            refine lv_goto (tgt := 4) hx hb dM_isPlain_48 (by decide) ?_
            have e1 : bI (!(anyN (fun i => (qF up rw ch) i != 0) (i + 1))) = nI 1 := by rw [show (!(anyN (fun i => (qF up rw ch) i != 0) (i + 1))) = true by simp only [anyN]; rw [show (anyN (fun i => (qF up rw ch) i != 0) i) = false by simpa using hc3]; simp [qF, hc4]]; rfl
            exact ih (i + 1) (by omega) (by omega) ls (by rw [e1]; exact lv_sub hl [0, 1, 2, 3] rfl)
  exact loop (mn ch + 1) 0 (by omega) (by omega) ls (lv_sub hl [0, 1, 3, 2] rfl)
