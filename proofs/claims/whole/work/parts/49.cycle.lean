theorem thC_tab : ∀ w ∈ thC, w.onTables = true := by decide +kernel
set_option maxHeartbeats 4000000 in
set_option maxRecDepth 100000 in
theorem x_cycle (l : Launch) (D : va_G) (ka : Nat → ClassId) (H0 : Heap) (hl0 : l.stackTraces = false) (A : Nat → Prop) (ad : Nat → Nat → Nat) (np nc : Nat) (pe an up dn rw : Nat → Nat) (so : Nat → Bool) (mn : Nat → Nat) (wd : Nat → Bool) (wv : Nat → Int64) (x : Int32) (hX : XInv D ka ad np nc pe an up dn rw so mn wd wv H0) (hO : mOk np nc pe an up dn rw so mn wd wv) : vx_Met l yX2_cycle (.code yX2_cycle cX2_cycle 3 (some .long) :: gT) ({ frames := 6, cells := 1, slots := 6, locals := 90 }) (th_Pc A D vwCl (tyL ka) H0 [.ref (ad 0 0), .int x]) (va_Ql (fun (r : Int64) (u : Unit) => (spEmp nc mn x = true ∨ lack pe rw mn x.toInt.toNat = false) ∧ r = spCycle nc pe rw so mn x) (fun u t => True) (fun z => H0.size ≤ z)) (vx_X (fun (u : Unit) => True) (fun E u t => E = AE ∧ spEmp nc mn x = false ∧ lack pe rw mn x.toInt.toNat = true) (fun z => H0.size ≤ z)) 1 6 (fun z => H0.size ≤ z) := by
  refine vx_ofW (cc := cX2_cycle) (maxL := 3) (ret := (some .long)) (by decide) rfl ?_
  intro p e s m args below meth c s₁ B hml hex hv
  obtain ⟨rfl, hH, hK, hN, hT⟩ := hv
  subst hH
  have hx := B.exec
  have hb := B.bytes
  have hr := B.returns
  have hts : ∀ w ∈ gT, w.before ([.ref (ad 0 0), .int x] : List Value).toArray s = true := fun w h => atoms_spec (ws := (.code yX2_cycle cX2_cycle 3 (some .long) :: gT)) B.pre w (List.mem_cons_of_mem _ h)
  have hown : s.vm.findClass RX2 = some m.cls := findClass_of_methodNamed B.named
  have hlocks := B.notSynchronized
  have hl := lv_entry ([.ref (ad 0 0), .int x]) (n := 3) (Nat.le_of_ble_eq_true rfl)
  rw [lg_entry_eq]
  generalize (lg_sl ([.ref (ad 0 0), .int x]) ++ List.replicate (3 - (lg_sl ([.ref (ad 0 0), .int x])).length) Slot.unset).toArray = ls at hl ⊢
  have hl : lv_has ls 3 [(0, .ref (ad 0 0)), (1, .int x)] := hl
  have hnp := hO.1
  have hnc := hO.2.1
  refine lv_aload_n hx hb dX2_cycle_0 rfl (lv_at hl 0 rfl) ?_
  refine lv_iload_n hx hb dX2_cycle_1 rfl (lv_at hl 1 rfl) ?_
  refine va_csq (va_Run.run (va_runV (As := [.int x]) (rest := []) ⟨hx, hb, hml, hown, hts⟩ (x_filledChain l D ka s.heap ad np nc pe an up dn rw so mn wd wv x hX hO) (cw_V 1 hts tb_118 rfl rfl tb_115 tb_1 tb_117 ts_4 (by decide +kernel) ⟨Nat.le_of_ble_eq_true rfl, Nat.le_of_ble_eq_true rfl⟩) (ro_V (ci := 2) hK hN hX.o rfl) rfl rfl hl.1 rfl (lv_room (Nat.le_of_ble_eq_true rfl)) dX2_cycle_2 ⟨Nat.zero_le _, Nat.zero_le _⟩)) (fun r er => ?_)
  subst er
  by_cases q1 : spEmp nc mn x = true
  · rw [if_pos q1, show va_rf none = Value.null from rfl]
    refine lv_astore_nN (lv' := [(2, .null), (0, .ref (ad 0 0)), (1, .int x)]) hx hb dX2_cycle_5 rfl hl (by decide) rfl (fun ls hl => ?_)
    refine lv_aload_nN hx hb dX2_cycle_6 rfl (lv_at hl 0 rfl) ?_
    refine lv_ifnonnullN hx hb dX2_cycle_7 ?_
    refine lv_ldc2 (v := (-1)) hx hb hown (hts _ tb_119) dX2_cycle_10 ?_
    refine vx_ret ?_
    refine W.widen (k := 1) (n := 6) (Nat.le_of_ble_eq_true rfl) (Nat.le_of_ble_eq_true rfl) ?_
    exact W.lret (v := (-1)) hx hb hr (fun t ht hW => ⟨⟨_, (), rfl, ⟨Or.inl q1, by rw [spCycle, if_pos q1]⟩, trivial⟩, va_S.F (A := (fun z => s.heap.size ≤ z)) va_S.rf ht⟩) t_nil dX2_cycle_13
  · rw [if_neg q1, show va_rf (some (ad 4 x.toInt.toNat)) = Value.ref (ad 4 x.toInt.toNat) from rfl]
    have q2 : spEmp nc mn x = false := by simpa using q1
    obtain ⟨ex, h1, h2, hn0⟩ := spEmp_f q2
    have hCh := hX.ch hO h1 h2
    have hmn := (hO.2.2.2.1 x.toInt.toNat h1 h2).1
    refine lv_astore_n (lv' := [(2, .ref (ad 4 x.toInt.toNat)), (0, .ref (ad 0 0)), (1, .int x)]) hx hb dX2_cycle_5 rfl hl (by decide) rfl (fun ls hl => ?_)
    refine lv_aload_n hx hb dX2_cycle_6 rfl (lv_at hl 0 rfl) ?_
    refine lv_ifnonnull (tgt := 14) hx hb dX2_cycle_7 (by decide) ?_
    refine lv_aload_n hx hb dX2_cycle_14 rfl (lv_at hl 0 rfl) ?_
    refine vp_callSi (va_Run.run (va_runVN (As := []) (rest := []) ⟨hx, hb, hml, hown, hts⟩ (c_lacksPeriod l D ka s.heap (ad 4 x.toInt.toNat) (ad 5 x.toInt.toNat) (ad 6 x.toInt.toNat) (mn x.toInt.toNat) (wiN wd wv x.toInt.toNat) (fun k => ad 3 (rw (12 * x.toInt.toNat + k))) (qS so x.toInt.toNat) (qF pe rw x.toInt.toNat) (qF an rw x.toInt.toNat) (qF up rw x.toInt.toNat) (qF dn rw x.toInt.toNat) hCh) (cw_VN 0 hts tb_226 rfl rfl (hN _ tn_223 rfl) tb_4 tb_225 ts_17 (by decide +kernel) ⟨Nat.le_of_ble_eq_true rfl, Nat.le_of_ble_eq_true rfl⟩) (ro_V (ci := 0) hK hN hCh.1 rfl) rfl rfl hl.1 rfl (lv_room (Nat.le_of_ble_eq_true rfl)) dX2_cycle_15 ⟨Nat.zero_le _, Nat.zero_le _⟩)) (fun r er => ?_)
    subst er
    refine b_if_eq (tgt := 31) hx hb dX2_cycle_18 (by decide) (fun q3 => ?_) (fun q3 => ?_)
    · have hal : ∀ i, i < mn x.toInt.toNat → (qS so x.toInt.toNat i || !false) = true → 0 < qF pe rw x.toInt.toNat i := fun i hi _ => Nat.pos_of_ne_zero (fun h9 => Bool.noConfusion ((anyN_hit (p := fun i => qF pe rw x.toInt.toNat i == 0) hi (show (qF pe rw x.toInt.toNat i == 0) = true from beq_iff_eq.mpr h9)).symm.trans q3))
      refine lv_aload_n hx hb dX2_cycle_31 rfl (lv_at hl 0 rfl) ?_
      refine lv_iconst (v := nI 0) hx hb dX2_cycle_32 (by decide) ?_
      have ebf : nI 0 = bI false := rfl
      rw [ebf]
      refine vp_callSl (va_Run.run (va_runVN (As := [.int (bI false)]) (rest := []) ⟨hx, hb, hml, hown, hts⟩ (c_commonCycle l D ka s.heap (ad 4 x.toInt.toNat) (ad 5 x.toInt.toNat) (ad 6 x.toInt.toNat) (mn x.toInt.toNat) (wiN wd wv x.toInt.toNat) (fun k => ad 3 (rw (12 * x.toInt.toNat + k))) (qS so x.toInt.toNat) (qF pe rw x.toInt.toNat) (qF an rw x.toInt.toNat) (qF up rw x.toInt.toNat) (qF dn rw x.toInt.toNat) false hCh hal) (cw_VN 1 hts tb_187 rfl rfl (hN _ tn_293 rfl) tb_4 tb_186 ts_14 (by decide +kernel) ⟨Nat.le_of_ble_eq_true rfl, Nat.le_of_ble_eq_true rfl⟩) (ro_V (ci := 0) hK hN hCh.1 rfl) rfl rfl hl.1 rfl (lv_room (Nat.le_of_ble_eq_true rfl)) dX2_cycle_33 ⟨Nat.zero_le _, Nat.zero_le _⟩)) (fun r er => ?_)
      subst er
      refine vx_ret ?_
      refine W.widen (k := 1) (n := 6) (Nat.le_of_ble_eq_true rfl) (Nat.le_of_ble_eq_true rfl) ?_
      exact W.lret (v := lN (cyc (fun i => qS so x.toInt.toNat i || !false) (qF pe rw x.toInt.toNat) (mn x.toInt.toNat))) hx hb hr (fun t ht hW => ⟨⟨_, (), rfl, ⟨Or.inr q3, by rw [spCycle, if_neg q1]; rfl⟩, trivial⟩, va_S.F (A := (fun z => s.heap.size ≤ z)) va_S.rf ht⟩) t_nil dX2_cycle_36
    · obtain ⟨t1, t2, ⟨sa, t3⟩, t4, t5, t6, t7, t8⟩ := hT
      exact vx_throwS (A := A) (cls := AE) (names := ["java/lang/RuntimeException", "java/lang/Exception"]) (ik := 103) (is := 105) (ic := 107) (text := "a piece of the chain has no period") (sa := sa) hx hb hl0 hown (by decide +kernel) (by decide +kernel) (va_Nw.use rfl t5) (va_Nw.use rfl t6) t3 (fun w9 hw9 => va_tabs (thC_tab w9 hw9) rfl (t4 w9 hw9)) thC_ot t1 t2 va_S.rf (by rw [hml]; exact hl.1) dX2_cycle_21 dX2_cycle_24 dX2_cycle_25 dX2_cycle_27 dX2_cycle_30 (fun x9 h9 => (hex x9 h9).elim) (Nat.le_of_ble_eq_true rfl) (Nat.le_of_ble_eq_true rfl) (Nat.le_of_ble_eq_true rfl) (Nat.le_of_ble_eq_true rfl) hlocks (fun t h8 h9 h10 => ⟨(), trivial, ⟨rfl, q2, q3⟩, h9, fun q hq _ => h10 q hq⟩) t_nil (Nat.le_of_ble_eq_true rfl) (Nat.le_of_ble_eq_true rfl)
set_option maxHeartbeats 4000000 in
set_option maxRecDepth 100000 in
theorem l_cycle (l : Launch) (D : va_G) (ka : Nat → ClassId) (H0 : Heap) (hl0 : l.stackTraces = false) (A : Nat → Prop) (ad : Nat → Nat → Nat) (np nc : Nat) (pe an up dn rw : Nat → Nat) (so : Nat → Bool) (mn : Nat → Nat) (wd : Nat → Bool) (wv : Nat → Int64) (x : Int32) (o : Nat) (f : Nat → Int64) (hX : XInv D ka ad np nc pe an up dn rw so mn wd wv H0) (hO : mOk np nc pe an up dn rw so mn wd wv) (ho : va_at D vwCl (o, lonE (ka 3) 1 f) H0) : Met l yL_cycle (.codeWith yL_cycle cL_cycle 4 (some .int) [(0, 8, 11, 13)] :: gT) ({ frames := 7, cells := 1, slots := 6, locals := 112 }) (th_Pc A D vwCl (tyL ka) H0 [.ref (ad 0 0), .int x, .ref o]) (va_Qi (fun (r : Int32) (u : Nat → Int64) => r = (if (!spEmp nc mn x && lack pe rw mn x.toInt.toNat) = true then nI 1 else nI 0) ∧ ((!spEmp nc mn x && lack pe rw mn x.toInt.toNat) = false → u 0 = spCycle nc pe rw so mn x)) (fun u t => va_at D vwCl (o, lonE (ka 3) 1 u) t.heap) (fun z => z = o ∨ H0.size ≤ z)) 1 6 (fun z => z = o ∨ H0.size ≤ z) := by
  refine va_MetW (cc := cL_cycle) (maxL := 4) (ret := (some .int)) (hh := [(0, 8, 11, 13)]) (by decide) rfl ?_
  intro p e s m args below meth c s₁ B hml hv
  obtain ⟨rfl, hH, hK, hN, hT⟩ := hv
  subst hH
  have hx := B.exec
  have hb := B.bytes
  have hr := B.returns
  have hts : ∀ w ∈ gT, w.before ([.ref (ad 0 0), .int x, .ref o] : List Value).toArray s = true := fun w h => atoms_spec (ws := (.codeWith yL_cycle cL_cycle 4 (some .int) [(0, 8, 11, 13)] :: gT)) B.pre w (List.mem_cons_of_mem _ h)
  have hown : s.vm.findClass RL = some m.cls := findClass_of_methodNamed B.named
  have hlocks := B.notSynchronized
  have hl := lv_entry ([.ref (ad 0 0), .int x, .ref o]) (n := 4) (Nat.le_of_ble_eq_true rfl)
  rw [lg_entry_eq]
  generalize (lg_sl ([.ref (ad 0 0), .int x, .ref o]) ++ List.replicate (4 - (lg_sl ([.ref (ad 0 0), .int x, .ref o])).length) Slot.unset).toArray = ls at hl ⊢
  have htab := vx_table (x := yL_cycle) (hh := [(0, 8, 11, 13)]) (bytes := cL_cycle) (maxL' := 4) (ret' := some .int) B (atoms_spec (ws := (.codeWith yL_cycle cL_cycle 4 (some .int) [(0, 8, 11, 13)] :: gT)) B.pre _ List.mem_cons_self)
  have hl : lv_has ls 4 [(0, .ref (ad 0 0)), (1, .int x), (2, .ref o)] := hl
  have hP : va_P D vwCl [(o, lonE (ka 3) 1 f)] s.heap := va_one ho
  have hD : va_D (fun z => z = o ∨ s.heap.size ≤ z) [(o, lonE (ka 3) 1 f)] := va_D_of (by simp) (by simp)
  have hS : va_S (fun z => z = o ∨ s.heap.size ≤ z) s.heap s.heap [] := va_S.rf
  have hA : ∀ z9 : Nat, s.heap.size ≤ z9 → (fun z => z = o ∨ s.heap.size ≤ z) z9 := fun z9 h => Or.inr h
  have lo1 := ho.lt
  (try dsimp only at lo1)
  refine lv_aload_n hx hb dL_cycle_0 rfl (lv_at hl 2 rfl) ?_
  refine lv_iconst (v := nI 0) hx hb dL_cycle_1 (by decide) ?_
  refine lv_aload_n hx hb dL_cycle_2 rfl (lv_at hl 0 rfl) ?_
  refine lv_iload_n hx hb dL_cycle_3 rfl (lv_at hl 1 rfl) ?_
  refine vx_calll (vx_runV (As := [.int x]) (rest := [.int (nI 0), .ref o]) ⟨hx, hb, hml, hown, hts⟩ (x_cycle l D ka s.heap hl0 A ad np nc pe an up dn rw so mn wd wv x hX hO) (cw_V 1 hts tb_222 rfl rfl tb_219 tb_1 tb_220 tb_221 (by decide +kernel) ⟨Nat.le_of_ble_eq_true rfl, Nat.le_of_ble_eq_true rfl⟩) (th_V (ci := 2) hK hN hT hX.o rfl) rfl rfl hl.1 rfl (lv_room (Nat.le_of_ble_eq_true rfl)) dL_cycle_4 ⟨Nat.le_of_ble_eq_true rfl, Nat.le_of_ble_eq_true rfl⟩) hS (fun z _ h9 => hA z h9) (fun z h9 => hA z h9) (fun z _ h9 => hA z h9) (fun E ce q9 u t H1 locs ht hvm hp hB hz1 hk1 hS hce hcv hcl => ?_) (fun r u t H1 locs ht hvm hw hB hz1 hk1 hS => ?_)
  · obtain ⟨rfl, q1, q2⟩ := hB
    obtain ⟨t1, t2, t3, t4, t5, t6, t7, t8⟩ := hT
    have hP : va_P D vwCl [(o, lonE (ka 3) 1 f)] H1 := hP.kept (fun k q hk => hk1 q.1 (hP k q hk).lt (Nat.not_le.mpr (hP k q hk).lt))
    refine vx_catch (own := RL) (name := AE) (ce := ce) hown [] ⟨0, 8, 11, 13⟩ [] (by rw [htab]; rfl) (fun z hz => nomatch hz) (by decide) (by decide) (va_Nw.use rfl t8) (va_Nw.use rfl t7) hce hcv hcl ?_
    refine lv_astore_n (lv' := [(3, .ref q9), (0, .ref (ad 0 0)), (1, .int x), (2, .ref o)]) hx hb dL_cycle_11 rfl hl (by decide) rfl (fun ls hl => ?_)
    refine lv_iconst (v := nI 1) hx hb dL_cycle_12 (by decide) ?_
    exact W.iret (v := nI 1) hx hb hr (fun t ht hW => ⟨⟨_, f, rfl, ⟨by rw [if_pos (by rw [q1, q2]; rfl)], fun h9 => by rw [q1, q2] at h9; cases h9⟩, by show va_at D vwCl _ t.heap; rw [ht]; exact hP.fst⟩, hS.F ht⟩) hS.2.2 dL_cycle_13
  · obtain ⟨q1, rfl⟩ := hw
    have hth : (!spEmp nc mn x && lack pe rw mn x.toInt.toNat) = false := by rcases q1 with h9 | h9 <;> rw [h9] <;> simp
    have hP : va_P D vwCl [(o, lonE (ka 3) 1 f)] H1 := hP.kept (fun k q hk => hk1 q.1 (hP k q hk).lt (Nat.not_le.mpr (hP k q hk).lt))
    refine g_last hx hb hK hP hD hS 0 3 rfl rfl (by decide) (by decide) rfl dL_cycle_7 (fun H locs hP hD hS => ?_)
    have hP : va_P D vwCl [(o, lonE (ka 3) 1 (vp_updL f 0 (spCycle nc pe rw so mn x)))] H := hP
    refine lv_goto (tgt := 14) hx hb dL_cycle_8 (by decide) ?_
    refine lv_iconst (v := nI 0) hx hb dL_cycle_14 (by decide) ?_
    exact W.iret (v := nI 0) hx hb hr (fun t ht hW => ⟨⟨_, vp_updL f 0 (spCycle nc pe rw so mn x), rfl, ⟨by rw [hth]; rfl, fun _ => pk_uLs⟩, by show va_at D vwCl _ t.heap; rw [ht]; exact hP.fst⟩, hS.F ht⟩) hS.2.2 dL_cycle_15
