set_option maxHeartbeats 4000000 in
set_option maxRecDepth 100000 in
theorem c_units (l : Launch) (D : va_G) (ka : Nat → ClassId) (H0 : Heap) (v u : Nat) (hu : 0 < u) (hv : v + u < 2 ^ 63) : Met l yX2_unitsUpwards (.code yX2_unitsUpwards cX2_unitsUpwards 4 (some .long) :: gT) ({ frames := 0, cells := 0, slots := 0, locals := 0 }) (ro_Pc D vwCl (tyL ka) H0 [.long (lN v), .long (lN u)]) (vp_Sl (fun r => r = lN ((v + u - 1) / u))) 0 0 (fun _ => False) := by
  refine Met.ofW (cc := cX2_unitsUpwards) (maxL := 4) (ret := (some .long)) (by decide) rfl ?_
  intro p e s m args below meth c s₁ B hml hv
  obtain ⟨rfl, hH, hK, hN⟩ := hv
  subst hH
  have hx := B.exec
  have hb := B.bytes
  have hr := B.returns
  have hts : ∀ w ∈ gT, w.before ([.long (lN v), .long (lN u)] : List Value).toArray s = true := fun w h => atoms_spec (ws := (.code yX2_unitsUpwards cX2_unitsUpwards 4 (some .long) :: gT)) B.pre w (List.mem_cons_of_mem _ h)
  have hown : s.vm.findClass RX2 = some m.cls := findClass_of_methodNamed B.named
  have hlocks := B.notSynchronized
  have hl := lv_entry ([.long (lN v), .long (lN u)]) (n := 4) (Nat.le_of_ble_eq_true rfl)
  rw [lg_entry_eq]
  generalize (lg_sl ([.long (lN v), .long (lN u)]) ++ List.replicate (4 - (lg_sl ([.long (lN v), .long (lN u)])).length) Slot.unset).toArray = ls at hl ⊢
  have hl : lv_has ls 4 [(0, .long (lN v)), (2, .long (lN u))] := hl
  refine lv_lload_n hx hb dX2_unitsUpwards_0 rfl (lv_at hl 1 rfl) ?_
  refine lv_lconst (v := lN 1) hx hb dX2_unitsUpwards_1 rfl ?_
  refine n_lcmp_ge (tgt := 10) hx hb (by omega) (by omega) dX2_unitsUpwards_2 dX2_unitsUpwards_3 (by decide) (fun hc => ?_) (fun hc => ?_)
  · refine lv_lload_n hx hb dX2_unitsUpwards_10 rfl (lv_at hl 0 rfl) ?_
    refine lv_lload_n hx hb dX2_unitsUpwards_11 rfl (lv_at hl 1 rfl) ?_
    refine n_ladd hx hb dX2_unitsUpwards_12 ?_
    refine lv_lconst (v := lN 1) hx hb dX2_unitsUpwards_13 rfl ?_
    refine n_lsub hx hb (by omega) dX2_unitsUpwards_14 ?_
    refine lv_lload_n hx hb dX2_unitsUpwards_15 rfl (lv_at hl 1 rfl) ?_
    refine n_ldiv hx hb (by omega) (by omega) (by omega) dX2_unitsUpwards_16 ?_
    exact W.lret (v := lN (((v + u) - 1) / u)) hx hb hr (fun t ht hW => ⟨_, rfl, rfl, ht⟩) t_nil dX2_unitsUpwards_17
  · exact absurd hc (by omega)
set_option maxHeartbeats 4000000 in
set_option maxRecDepth 100000 in
theorem c_gcd (l : Launch) (D : va_G) (ka : Nat → ClassId) (H0 : Heap) (a b : Nat) (ha : a < 2 ^ 62) (hb2 : b < 2 ^ 15) : Met l yX2_greatestCommonDivisor (.code yX2_greatestCommonDivisor cX2_greatestCommonDivisor 11 (some .long) :: gT) ({ frames := 0, cells := 0, slots := 0, locals := 0 }) (ro_Pc D vwCl (tyL ka) H0 [.long (lN a), .long (lN b)]) (vp_Sl (fun r => r = lN (Nat.gcd a b))) 0 0 (fun _ => False) := by
  refine Met.ofW (cc := cX2_greatestCommonDivisor) (maxL := 11) (ret := (some .long)) (by decide) rfl ?_
  intro p e s m args below meth c s₁ B hml hv
  obtain ⟨rfl, hH, hK, hN⟩ := hv
  subst hH
  have hx := B.exec
  have hb := B.bytes
  have hr := B.returns
  have hts : ∀ w ∈ gT, w.before ([.long (lN a), .long (lN b)] : List Value).toArray s = true := fun w h => atoms_spec (ws := (.code yX2_greatestCommonDivisor cX2_greatestCommonDivisor 11 (some .long) :: gT)) B.pre w (List.mem_cons_of_mem _ h)
  have hown : s.vm.findClass RX2 = some m.cls := findClass_of_methodNamed B.named
  have hlocks := B.notSynchronized
  have hl := lv_entry ([.long (lN a), .long (lN b)]) (n := 11) (Nat.le_of_ble_eq_true rfl)
  rw [lg_entry_eq]
  generalize (lg_sl ([.long (lN a), .long (lN b)]) ++ List.replicate (11 - (lg_sl ([.long (lN a), .long (lN b)])).length) Slot.unset).toArray = ls at hl ⊢
  have hl : lv_has ls 11 [(0, .long (lN a)), (2, .long (lN b))] := hl
  refine lv_lload_n hx hb dX2_greatestCommonDivisor_0 rfl (lv_at hl 0 rfl) ?_
  refine lv_lstore (lv' := [(4, .long (lN a)), (0, .long (lN a)), (2, .long (lN b))]) hx hb dX2_greatestCommonDivisor_1 hl (by decide) rfl (fun ls hl => ?_)
  refine lv_lload_n hx hb dX2_greatestCommonDivisor_3 rfl (lv_at hl 2 rfl) ?_
  refine lv_lstore (lv' := [(6, .long (lN b)), (4, .long (lN a)), (0, .long (lN a)), (2, .long (lN b))]) hx hb dX2_greatestCommonDivisor_4 hl (by decide) rfl (fun ls hl => ?_)
  refine lv_iconst (v := nI 0) hx hb dX2_greatestCommonDivisor_6 (by decide) ?_
  refine lv_istore (lv' := [(8, .int (nI 0)), (6, .long (lN b)), (4, .long (lN a)), (0, .long (lN a)), (2, .long (lN b))]) hx hb dX2_greatestCommonDivisor_7 hl (by decide) rfl (fun ls hl => ?_)
  have loop : ∀ (fu i x y : Nat), eu fu x y → i + fu ≤ 126 → x < 2 ^ 62 → y < 2 ^ 62 → Nat.gcd x y = Nat.gcd a b → ∀ ls : Array Slot, lv_has ls 11 [(8, .int (nI i)), (6, .long (lN y)), (4, .long (lN x)), (2, .long (lN b)), (0, .long (lN a))] → W p l e (headSpec (.code yX2_greatestCommonDivisor cX2_greatestCommonDivisor 11 (some .long) :: gT) ({ frames := 0, cells := 0, slots := 0, locals := 0 })).room s m ([.long (lN a), .long (lN b)] : List Value).toArray below meth c s.heap [] 0 0 (MQ below (vp_Sl (fun r => r = lN (Nat.gcd a b))) ([.long (lN a), .long (lN b)] : List Value).toArray s 0 0 (fun _ => False)) (F0 m 9 ls []) := by
    intro fu
    induction fu with
    | zero =>
      intro i x y he hi hx2 hy2 hgc ls hl
      refine lv_iload hx hb dX2_greatestCommonDivisor_9 (lv_at hl 0 rfl) ?_
      refine lv_bipush (v := nI 126) hx hb dX2_greatestCommonDivisor_11 (by decide) ?_
      refine n_icmp_ge (tgt := 44) hx hb (by omega) (by omega) dX2_greatestCommonDivisor_13 (by decide) (fun hc => ?_) (fun hc => ?_)
      · have hz : y = 0 := by exact he
        refine lv_lload hx hb dX2_greatestCommonDivisor_44 (lv_at hl 2 rfl) ?_
        exact W.lret (v := lN x) hx hb hr (fun t ht hW => ⟨_, rfl, by rw [← hgc, hz, Nat.gcd_zero_right], ht⟩) t_nil dX2_greatestCommonDivisor_46
      · refine lv_lload hx hb dX2_greatestCommonDivisor_16 (lv_at hl 1 rfl) ?_
        refine lv_lconst (v := lN 0) hx hb dX2_greatestCommonDivisor_18 rfl ?_
        refine n_lcmp_le (tgt := 44) hx hb (by omega) (by omega) dX2_greatestCommonDivisor_19 dX2_greatestCommonDivisor_20 (by decide) (fun hc => ?_) (fun hc => ?_)
        · have hz : y = 0 := by exact he
          refine lv_lload hx hb dX2_greatestCommonDivisor_44 (lv_at hl 2 rfl) ?_
          exact W.lret (v := lN x) hx hb hr (fun t ht hW => ⟨_, rfl, by rw [← hgc, hz, Nat.gcd_zero_right], ht⟩) t_nil dX2_greatestCommonDivisor_46
        · exact absurd (show y = 0 from he) (by omega)
    | succ fu ih =>
      intro i x y he hi hx2 hy2 hgc ls hl
      refine lv_iload hx hb dX2_greatestCommonDivisor_9 (lv_at hl 0 rfl) ?_
      refine lv_bipush (v := nI 126) hx hb dX2_greatestCommonDivisor_11 (by decide) ?_
      refine n_icmp_ge (tgt := 44) hx hb (by omega) (by omega) dX2_greatestCommonDivisor_13 (by decide) (fun hc => ?_) (fun hc => ?_)
      · exact absurd hc (by omega)
      · refine lv_lload hx hb dX2_greatestCommonDivisor_16 (lv_at hl 1 rfl) ?_
        refine lv_lconst (v := lN 0) hx hb dX2_greatestCommonDivisor_18 rfl ?_
        refine n_lcmp_le (tgt := 44) hx hb (by omega) (by omega) dX2_greatestCommonDivisor_19 dX2_greatestCommonDivisor_20 (by decide) (fun hc => ?_) (fun hc => ?_)
        · have hz : y = 0 := by omega
          refine lv_lload hx hb dX2_greatestCommonDivisor_44 (lv_at hl 2 rfl) ?_
          exact W.lret (v := lN x) hx hb hr (fun t ht hW => ⟨_, rfl, by rw [← hgc, hz, Nat.gcd_zero_right], ht⟩) t_nil dX2_greatestCommonDivisor_46
        · have hy : 0 < y := by omega
          have he2 : eu fu y (x % y) := by
            rcases he with q | q
            · omega
            · exact q
          have hm := Nat.mod_lt x hy
          refine lv_lload hx hb dX2_greatestCommonDivisor_23 (lv_at hl 2 rfl) ?_
          refine lv_lload hx hb dX2_greatestCommonDivisor_25 (lv_at hl 1 rfl) ?_
          refine n_lrem hx hb (by omega) (by omega) (by omega) dX2_greatestCommonDivisor_27 ?_
          refine lv_lstore (lv' := [(9, .long (lN (x % y))), (8, .int (nI i)), (6, .long (lN y)), (4, .long (lN x)), (2, .long (lN b)), (0, .long (lN a))]) hx hb dX2_greatestCommonDivisor_28 hl (by decide) rfl (fun ls hl => ?_)
          refine lv_lload hx hb dX2_greatestCommonDivisor_30 (lv_at hl 2 rfl) ?_
          refine lv_lstore (lv' := [(4, .long (lN y)), (9, .long (lN (x % y))), (8, .int (nI i)), (6, .long (lN y)), (2, .long (lN b)), (0, .long (lN a))]) hx hb dX2_greatestCommonDivisor_32 hl (by decide) rfl (fun ls hl => ?_)
          refine lv_lload hx hb dX2_greatestCommonDivisor_34 (lv_at hl 1 rfl) ?_
          refine lv_lstore (lv' := [(6, .long (lN (x % y))), (4, .long (lN y)), (9, .long (lN (x % y))), (8, .int (nI i)), (2, .long (lN b)), (0, .long (lN a))]) hx hb dX2_greatestCommonDivisor_36 hl (by decide) rfl (fun ls hl => ?_)
          refine lv_iinc (v := nI (i + 1)) (lv' := [(8, .int (nI (i + 1))), (6, .long (lN (x % y))), (4, .long (lN y)), (9, .long (lN (x % y))), (2, .long (lN b)), (0, .long (lN a))]) hx hb dX2_greatestCommonDivisor_38 hl (k := 3) rfl (nI_add i 1) (by decide) rfl (fun ls hl => ?_)
          refine lv_goto (tgt := 9) hx hb dX2_greatestCommonDivisor_41 (by decide) ?_
          exact ih (i + 1) y (x % y) he2 (by omega) (by omega) (by omega) (by rw [← hgc]; exact (gcd_step x y).symm) ls (lv_sub hl [0, 1, 2, 4, 5] rfl)
  exact loop 30 0 a b (eu_lt 15 a b hb2) (by omega) ha (by omega) rfl ls (lv_sub hl [0, 1, 2, 4, 3] rfl)
set_option maxHeartbeats 4000000 in
set_option maxRecDepth 100000 in
theorem c_lcm (l : Launch) (D : va_G) (ka : Nat → ClassId) (H0 : Heap) (a b : Nat) (ha : a < 2 ^ 62) (hb2 : b < 2 ^ 15) (ha0 : 0 < a) : Met l yX2_leastCommonMultiple (.code yX2_leastCommonMultiple cX2_leastCommonMultiple 6 (some .long) :: gT) ({ frames := 1, cells := 0, slots := 0, locals := 30 }) (ro_Pc D vwCl (tyL ka) H0 [.long (lN a), .long (lN b)]) (vp_Sl (fun r => r = lN (Nat.lcm a b))) 0 0 (fun _ => False) := by
  refine Met.ofW (cc := cX2_leastCommonMultiple) (maxL := 6) (ret := (some .long)) (by decide) rfl ?_
  intro p e s m args below meth c s₁ B hml hv
  obtain ⟨rfl, hH, hK, hN⟩ := hv
  subst hH
  have hx := B.exec
  have hb := B.bytes
  have hr := B.returns
  have hts : ∀ w ∈ gT, w.before ([.long (lN a), .long (lN b)] : List Value).toArray s = true := fun w h => atoms_spec (ws := (.code yX2_leastCommonMultiple cX2_leastCommonMultiple 6 (some .long) :: gT)) B.pre w (List.mem_cons_of_mem _ h)
  have hown : s.vm.findClass RX2 = some m.cls := findClass_of_methodNamed B.named
  have hlocks := B.notSynchronized
  have hl := lv_entry ([.long (lN a), .long (lN b)]) (n := 6) (Nat.le_of_ble_eq_true rfl)
  rw [lg_entry_eq]
  generalize (lg_sl ([.long (lN a), .long (lN b)]) ++ List.replicate (6 - (lg_sl ([.long (lN a), .long (lN b)])).length) Slot.unset).toArray = ls at hl ⊢
  have hl : lv_has ls 6 [(0, .long (lN a)), (2, .long (lN b))] := hl
  refine lv_lload_n hx hb dX2_leastCommonMultiple_0 rfl (lv_at hl 0 rfl) ?_
  refine lv_lload_n hx hb dX2_leastCommonMultiple_1 rfl (lv_at hl 1 rfl) ?_
  refine vp_callSl (va_Run.run (va_runS (As := [.long (lN a), .long (lN b)]) (rest := []) ⟨hx, hb, hml, hown, hts⟩ (c_gcd l D ka s.heap a b ha hb2) (cw_S 2 hts tb_194 rfl rfl tb_192 tb_1 tb_193 (by decide +kernel) ⟨Nat.le_of_ble_eq_true rfl, Nat.le_of_ble_eq_true rfl⟩) (ro_S hK hN) rfl rfl hl.1 rfl (lv_room (Nat.le_of_ble_eq_true rfl)) dX2_leastCommonMultiple_2 ⟨Nat.zero_le _, Nat.zero_le _⟩)) (fun r er => ?_)
  subst er
  have hg : 0 < Nat.gcd a b := Nat.gcd_pos_of_pos_left b ha0
  have hg2 : Nat.gcd a b ≤ a := Nat.gcd_le_left b ha0
  refine lv_lstore (lv' := [(4, .long (lN (Nat.gcd a b))), (0, .long (lN a)), (2, .long (lN b))]) hx hb dX2_leastCommonMultiple_5 hl (by decide) rfl (fun ls hl => ?_)
  refine lv_lload hx hb dX2_leastCommonMultiple_7 (lv_at hl 0 rfl) ?_
  refine lv_lconst (v := lN 1) hx hb dX2_leastCommonMultiple_9 rfl ?_
  refine n_lcmp_ge (tgt := 18) hx hb (by omega) (by omega) dX2_leastCommonMultiple_10 dX2_leastCommonMultiple_11 (by decide) (fun hc => ?_) (fun hc => ?_)
  · refine lv_lload_n hx hb dX2_leastCommonMultiple_18 rfl (lv_at hl 1 rfl) ?_
    refine lv_lload hx hb dX2_leastCommonMultiple_19 (lv_at hl 0 rfl) ?_
    refine n_ldiv hx hb (by omega) (by omega) (by omega) dX2_leastCommonMultiple_21 ?_
    refine lv_lload_n hx hb dX2_leastCommonMultiple_22 rfl (lv_at hl 2 rfl) ?_
    refine n_lmul hx hb dX2_leastCommonMultiple_23 ?_
    exact W.lret (v := lN ((a / (Nat.gcd a b)) * b)) hx hb hr (fun t ht hW => ⟨_, rfl, congrArg lN (lcm_eq hg), ht⟩) t_nil dX2_leastCommonMultiple_24
  · exact absurd hc (by omega)
set_option maxHeartbeats 4000000 in
set_option maxRecDepth 100000 in
theorem c_longPeriod (l : Launch) (D : va_G) (ka : Nat → ClassId) (H0 : Heap) (a T R U Dn : Nat) (ha : va_at D vwCl (a, pcE T R U Dn) H0) (hT : T ≤ 20000) (hU : U < Dn) (hD : Dn ≤ 1000000) : Met l yX1_longPeriod (.code yX1_longPeriod cX1_longPeriod 1 (some .long) :: gT) ({ frames := 1, cells := 0, slots := 0, locals := 23 }) (ro_Pc D vwCl (tyL ka) H0 [.ref a]) (vp_Sl (fun r => r = lN (lgP T U Dn))) 0 0 (fun _ => False) := by
  refine Met.ofW (cc := cX1_longPeriod) (maxL := 1) (ret := (some .long)) (by decide) rfl ?_
  intro p e s m args below meth c s₁ B hml hv
  obtain ⟨rfl, hH, hK, hN⟩ := hv
  subst hH
  have hx := B.exec
  have hb := B.bytes
  have hr := B.returns
  have hts : ∀ w ∈ gT, w.before ([.ref a] : List Value).toArray s = true := fun w h => atoms_spec (ws := (.code yX1_longPeriod cX1_longPeriod 1 (some .long) :: gT)) B.pre w (List.mem_cons_of_mem _ h)
  have hown : s.vm.findClass RX1 = some m.cls := findClass_of_methodNamed B.named
  have hlocks := B.notSynchronized
  have hl := lv_entry ([.ref a]) (n := 1) (Nat.le_of_ble_eq_true rfl)
  rw [lg_entry_eq]
  generalize (lg_sl ([.ref a]) ++ List.replicate (1 - (lg_sl ([.ref a])).length) Slot.unset).toArray = ls at hl ⊢
  have hl : lv_has ls 1 [(0, .ref a)] := hl
  refine lv_aload_n hx hb dX1_longPeriod_0 rfl (lv_at hl 0 rfl) ?_
  refine g_get (cl := vwCl) (ci := 1) (v := .long (lN T)) hx hb hts inX1 hown hK ha rfl 0 (by decide) (hts _ tb_45) rfl dX1_longPeriod_1 ?_
  refine lv_aload_n hx hb dX1_longPeriod_4 rfl (lv_at hl 0 rfl) ?_
  refine g_get (cl := vwCl) (ci := 1) (v := .long (lN Dn)) hx hb hts inX1 hown hK ha rfl 3 (by decide) (hts _ tb_53) rfl dX1_longPeriod_5 ?_
  refine lv_aload_n hx hb dX1_longPeriod_8 rfl (lv_at hl 0 rfl) ?_
  refine g_get (cl := vwCl) (ci := 1) (v := .long (lN U)) hx hb hts inX1 hown hK ha rfl 2 (by decide) (hts _ tb_50) rfl dX1_longPeriod_9 ?_
  refine n_ladd hx hb dX1_longPeriod_12 ?_
  refine n_lmul hx hb dX1_longPeriod_13 ?_
  refine lv_aload_n hx hb dX1_longPeriod_14 rfl (lv_at hl 0 rfl) ?_
  refine g_get (cl := vwCl) (ci := 1) (v := .long (lN Dn)) hx hb hts inX1 hown hK ha rfl 3 (by decide) (hts _ tb_53) rfl dX1_longPeriod_15 ?_
  have hv2 : T * (Dn + U) ≤ 20000 * 2000000 := Nat.mul_le_mul hT (by omega)
  refine vp_callSl (va_Run.run (va_runSN (As := [.long (lN (T * (Dn + U))), .long (lN Dn)]) (rest := []) ⟨hx, hb, hml, hown, hts⟩ (c_units l D ka s.heap (T * (Dn + U)) Dn (by omega) (by omega)) (cw_SN 2 hts tb_130 rfl rfl (hN _ tn_128 rfl) tb_1 tb_129 (by decide +kernel) ⟨Nat.le_of_ble_eq_true rfl, Nat.le_of_ble_eq_true rfl⟩) (ro_S hK hN) rfl rfl hl.1 rfl (lv_room (Nat.le_of_ble_eq_true rfl)) dX1_longPeriod_18 ⟨Nat.zero_le _, Nat.zero_le _⟩)) (fun r er => ?_)
  subst er
  exact W.lret (v := lN ((T * (Dn + U) + Dn - 1) / Dn)) hx hb hr (fun t ht hW => ⟨_, rfl, rfl, ht⟩) t_nil dX1_longPeriod_21
set_option maxHeartbeats 4000000 in
set_option maxRecDepth 100000 in
theorem c_broughtBy (l : Launch) (D : va_G) (ka : Nat → ClassId) (H0 : Heap) (h rw sm n : Nat) (wi : Int64) (f : Nat → Nat) (sel : Nat → Bool) (T R U Dn : Nat → Nat) (i : Nat) (hC : ChAt D ka h rw sm n wi f sel T R U Dn H0) (hlt : i < n) : Met l yX0_broughtBy (.code yX0_broughtBy cX0_broughtBy 2 (some .long) :: gT) ({ frames := 2, cells := 0, slots := 0, locals := 43 }) (ro_Pc D vwCl (tyL ka) H0 [.ref h, .int (nI i)]) (vp_Sl (fun r => r = lN (brN sel T R U Dn i))) 0 0 (fun _ => False) := by
  refine Met.ofW (cc := cX0_broughtBy) (maxL := 2) (ret := (some .long)) (by decide) rfl ?_
  intro p e s m args below meth c s₁ B hml hv
  obtain ⟨rfl, hH, hK, hN⟩ := hv
  subst hH
  have hx := B.exec
  have hb := B.bytes
  have hr := B.returns
  have hts : ∀ w ∈ gT, w.before ([.ref h, .int (nI i)] : List Value).toArray s = true := fun w h => atoms_spec (ws := (.code yX0_broughtBy cX0_broughtBy 2 (some .long) :: gT)) B.pre w (List.mem_cons_of_mem _ h)
  have hown : s.vm.findClass RX0 = some m.cls := findClass_of_methodNamed B.named
  have hlocks := B.notSynchronized
  have hl := lv_entry ([.ref h, .int (nI i)]) (n := 2) (Nat.le_of_ble_eq_true rfl)
  rw [lg_entry_eq]
  generalize (lg_sl ([.ref h, .int (nI i)]) ++ List.replicate (2 - (lg_sl ([.ref h, .int (nI i)])).length) Slot.unset).toArray = ls at hl ⊢
  have hl : lv_has ls 2 [(0, .ref h), (1, .int (nI i))] := hl
  obtain ⟨hCo, hCr, hCs, hCp, hn12, hbd, hfirst⟩ := id hC
  have hB := hbd i hlt
  refine lv_aload_n hx hb dX0_broughtBy_0 rfl (lv_at hl 0 rfl) ?_
  refine g_get (cl := vwCl) (ci := 0) (v := .ref sm) hx hb hts inX0 hown hK hCo rfl 1 (by decide) (hts _ tb_76) rfl dX0_broughtBy_1 ?_
  refine lv_iload_n hx hb dX0_broughtBy_4 rfl (lv_at hl 1 rfl) ?_
  refine g_zaldv (v := bI (sel i)) hx hb hK 2 hCs rfl (by omega) (by decide) (if_pos (by omega)) dX0_broughtBy_5 ?_
  refine b_if_eq (tgt := 31) hx hb dX0_broughtBy_6 (by decide) (fun hc => ?_) (fun hc => ?_)
  · refine lv_aload_n hx hb dX0_broughtBy_31 rfl (lv_at hl 0 rfl) ?_
    refine g_get (cl := vwCl) (ci := 0) (v := .ref rw) hx hb hts inX0 hown hK hCo rfl 0 (by decide) (hts _ tb_75) rfl dX0_broughtBy_32 ?_
    refine lv_iload_n hx hb dX0_broughtBy_35 rfl (lv_at hl 1 rfl) ?_
    refine g_aldr hx hb hK 0 hCr rfl (by omega) (by decide) (if_pos (by omega)) dX0_broughtBy_36 ?_
    refine g_getN (cl := vwCl) (ci := 1) (v := .long (lN (R i))) hx hb hts inX1 hown hK (hCp i hlt) rfl 1 (by decide) (va_Nw.use rfl (hN _ tn_49 rfl)) rfl dX0_broughtBy_37 ?_
    exact W.lret (v := lN (R i)) hx hb hr (fun t ht hW => ⟨_, rfl, by simp [brN, hc], ht⟩) t_nil dX0_broughtBy_40
  · refine lv_aload_n hx hb dX0_broughtBy_9 rfl (lv_at hl 0 rfl) ?_
    refine g_get (cl := vwCl) (ci := 0) (v := .ref rw) hx hb hts inX0 hown hK hCo rfl 0 (by decide) (hts _ tb_75) rfl dX0_broughtBy_10 ?_
    refine lv_iload_n hx hb dX0_broughtBy_13 rfl (lv_at hl 1 rfl) ?_
    refine g_aldr hx hb hK 0 hCr rfl (by omega) (by decide) (if_pos (by omega)) dX0_broughtBy_14 ?_
    refine vp_callSl (va_Run.run (va_runVN (As := []) (rest := []) ⟨hx, hb, hml, hown, hts⟩ (c_longPeriod l D ka s.heap (f i) (T i) (R i) (U i) (Dn i) (hCp i hlt) hB.1 hB.2.2.1 hB.2.2.2.1) (cw_VN 0 hts tb_127 rfl rfl (hN _ tn_124 rfl) tb_3 tb_126 ts_6 (by decide +kernel) ⟨Nat.le_of_ble_eq_true rfl, Nat.le_of_ble_eq_true rfl⟩) (ro_V (ci := 1) hK hN (hCp i hlt) rfl) rfl rfl hl.1 rfl (lv_room (Nat.le_of_ble_eq_true rfl)) dX0_broughtBy_15 ⟨Nat.zero_le _, Nat.zero_le _⟩)) (fun r er => ?_)
    subst er
    refine lv_aload_n hx hb dX0_broughtBy_18 rfl (lv_at hl 0 rfl) ?_
    refine g_get (cl := vwCl) (ci := 0) (v := .ref rw) hx hb hts inX0 hown hK hCo rfl 0 (by decide) (hts _ tb_75) rfl dX0_broughtBy_19 ?_
    refine lv_iload_n hx hb dX0_broughtBy_22 rfl (lv_at hl 1 rfl) ?_
    refine g_aldr hx hb hK 0 hCr rfl (by omega) (by decide) (if_pos (by omega)) dX0_broughtBy_23 ?_
    refine g_getN (cl := vwCl) (ci := 1) (v := .long (lN (R i))) hx hb hts inX1 hown hK (hCp i hlt) rfl 1 (by decide) (va_Nw.use rfl (hN _ tn_49 rfl)) rfl dX0_broughtBy_24 ?_
    refine n_ladd hx hb dX0_broughtBy_27 ?_
    refine lv_goto (tgt := 40) hx hb dX0_broughtBy_28 (by decide) ?_
    exact W.lret (v := lN ((lgP (T i) (U i) (Dn i)) + (R i))) hx hb hr (fun t ht hW => ⟨_, rfl, by simp [brN, hc], ht⟩) t_nil dX0_broughtBy_40
set_option maxHeartbeats 4000000 in
set_option maxRecDepth 100000 in
theorem c_worstReaction (l : Launch) (D : va_G) (ka : Nat → ClassId) (H0 : Heap) (h rw sm n : Nat) (wi : Int64) (f : Nat → Nat) (sel : Nat → Bool) (T R U Dn : Nat → Nat) (hC : ChAt D ka h rw sm n wi f sel T R U Dn H0) : Met l yX0_worstReaction (.code yX0_worstReaction cX0_worstReaction 4 (some .long) :: gT) ({ frames := 3, cells := 0, slots := 0, locals := 64 }) (ro_Pc D vwCl (tyL ka) H0 [.ref h]) (vp_Sl (fun r => r = lN (sumN (brN sel T R U Dn) n))) 0 0 (fun _ => False) := by
  refine Met.ofW (cc := cX0_worstReaction) (maxL := 4) (ret := (some .long)) (by decide) rfl ?_
  intro p e s m args below meth c s₁ B hml hv
  obtain ⟨rfl, hH, hK, hN⟩ := hv
  subst hH
  have hx := B.exec
  have hb := B.bytes
  have hr := B.returns
  have hts : ∀ w ∈ gT, w.before ([.ref h] : List Value).toArray s = true := fun w h => atoms_spec (ws := (.code yX0_worstReaction cX0_worstReaction 4 (some .long) :: gT)) B.pre w (List.mem_cons_of_mem _ h)
  have hown : s.vm.findClass RX0 = some m.cls := findClass_of_methodNamed B.named
  have hlocks := B.notSynchronized
  have hl := lv_entry ([.ref h]) (n := 4) (Nat.le_of_ble_eq_true rfl)
  rw [lg_entry_eq]
  generalize (lg_sl ([.ref h]) ++ List.replicate (4 - (lg_sl ([.ref h])).length) Slot.unset).toArray = ls at hl ⊢
  have hl : lv_has ls 4 [(0, .ref h)] := hl
  obtain ⟨hCo, hCr, hCs, hCp, hn12, hbd, hfirst⟩ := id hC
  refine lv_lconst (v := lN 0) hx hb dX0_worstReaction_0 rfl ?_
  refine lv_lstore_n (lv' := [(1, .long (lN 0)), (0, .ref h)]) hx hb dX0_worstReaction_1 rfl hl (by decide) rfl (fun ls hl => ?_)
  refine lv_iconst (v := nI 0) hx hb dX0_worstReaction_2 (by decide) ?_
  refine lv_istore_n (lv' := [(3, .int (nI 0)), (1, .long (lN 0)), (0, .ref h)]) hx hb dX0_worstReaction_3 rfl hl (by decide) rfl (fun ls hl => ?_)
  have loop : ∀ (fu i : Nat), i ≤ n → n < i + fu → ∀ ls : Array Slot, lv_has ls 4 [(3, .int (nI i)), (1, .long (lN (sumN (brN sel T R U Dn) i))), (0, .ref h)] → W p l e (headSpec (.code yX0_worstReaction cX0_worstReaction 4 (some .long) :: gT) ({ frames := 3, cells := 0, slots := 0, locals := 64 })).room s m ([.ref h] : List Value).toArray below meth c s.heap [] 0 0 (MQ below (vp_Sl (fun r => r = lN (sumN (brN sel T R U Dn) n))) ([.ref h] : List Value).toArray s 0 0 (fun _ => False)) (F0 m 4 ls []) := by
    intro fu
    induction fu with
    | zero => intro i h1 h2; exact absurd h2 (by omega)
    | succ fu ih =>
      intro i hi hf  ls hl
      refine lv_iload_n hx hb dX0_worstReaction_4 rfl (lv_at hl 0 rfl) ?_
      refine lv_aload_n hx hb dX0_worstReaction_5 rfl (lv_at hl 2 rfl) ?_
      refine g_get (cl := vwCl) (ci := 0) (v := .int (nI n)) hx hb hts inX0 hown hK hCo rfl 2 (by decide) (hts _ tb_77) rfl dX0_worstReaction_6 ?_
      refine n_icmp_ge (tgt := 26) hx hb (by omega) (by omega) dX0_worstReaction_9 (by decide) (fun hc => ?_) (fun hc => ?_)
      · refine lv_lload_n hx hb dX0_worstReaction_26 rfl (lv_at hl 1 rfl) ?_
        exact W.lret (v := lN (sumN (brN sel T R U Dn) i)) hx hb hr (fun t ht hW => ⟨_, rfl, by rw [show i = n by omega], ht⟩) t_nil dX0_worstReaction_27
      · have hlt : i < n := hc
        refine lv_lload_n hx hb dX0_worstReaction_12 rfl (lv_at hl 1 rfl) ?_
        refine lv_aload_n hx hb dX0_worstReaction_13 rfl (lv_at hl 2 rfl) ?_
        refine lv_iload_n hx hb dX0_worstReaction_14 rfl (lv_at hl 0 rfl) ?_
        refine vp_callSl (va_Run.run (va_runV (As := [.int (nI i)]) (rest := [.long (lN (sumN (brN sel T R U Dn) i))]) ⟨hx, hb, hml, hown, hts⟩ (c_broughtBy l D ka s.heap h rw sm n wi f sel T R U Dn i hC hlt) (cw_V 1 hts tb_138 rfl rfl tb_135 tb_4 tb_137 ts_8 (by decide +kernel) ⟨Nat.le_of_ble_eq_true rfl, Nat.le_of_ble_eq_true rfl⟩) (ro_V (ci := 0) hK hN hCo rfl) rfl rfl hl.1 rfl (lv_room (Nat.le_of_ble_eq_true rfl)) dX0_worstReaction_15 ⟨Nat.zero_le _, Nat.zero_le _⟩)) (fun r er => ?_)
        subst er
        refine n_ladd hx hb dX0_worstReaction_18 ?_
        refine lv_lstore_n (lv' := [(1, .long (lN ((sumN (brN sel T R U Dn) i) + (brN sel T R U Dn i)))), (3, .int (nI i)), (0, .ref h)]) hx hb dX0_worstReaction_19 rfl hl (by decide) rfl (fun ls hl => ?_)
        refine lv_iinc (v := nI (i + 1)) (lv' := [(3, .int (nI (i + 1))), (1, .long (lN ((sumN (brN sel T R U Dn) i) + (brN sel T R U Dn i)))), (0, .ref h)]) hx hb dX0_worstReaction_20 hl (k := 1) rfl (nI_add i 1) (by decide) rfl (fun ls hl => ?_)
        refine lv_goto (tgt := 4) hx hb dX0_worstReaction_23 (by decide) ?_
        exact ih (i + 1) (by omega) (by omega) ls (lv_sub hl [0, 1, 2] rfl)
  exact loop (n + 1) 0 (by omega) (by omega) ls (lv_sub hl [0, 1, 2] rfl)
set_option maxHeartbeats 4000000 in
set_option maxRecDepth 100000 in
theorem c_worstAge (l : Launch) (D : va_G) (ka : Nat → ClassId) (H0 : Heap) (h rw sm n : Nat) (wi : Int64) (f : Nat → Nat) (sel : Nat → Bool) (T R U Dn : Nat → Nat) (hC : ChAt D ka h rw sm n wi f sel T R U Dn H0) (hn0 : 0 < n) : Met l yX0_worstAge (.code yX0_worstAge cX0_worstAge 6 (some .long) :: gT) ({ frames := 4, cells := 0, slots := 0, locals := 87 }) (ro_Pc D vwCl (tyL ka) H0 [.ref h]) (vp_Sl (fun r => r = lN (sumN (brN sel T R U Dn) n - lgP (T 0) (U 0) (Dn 0) + lastS sel (fun i => lgP (T i) (U i) (Dn i)) n))) 0 0 (fun _ => False) := by
  refine Met.ofW (cc := cX0_worstAge) (maxL := 6) (ret := (some .long)) (by decide) rfl ?_
  intro p e s m args below meth c s₁ B hml hv
  obtain ⟨rfl, hH, hK, hN⟩ := hv
  subst hH
  have hx := B.exec
  have hb := B.bytes
  have hr := B.returns
  have hts : ∀ w ∈ gT, w.before ([.ref h] : List Value).toArray s = true := fun w h => atoms_spec (ws := (.code yX0_worstAge cX0_worstAge 6 (some .long) :: gT)) B.pre w (List.mem_cons_of_mem _ h)
  have hown : s.vm.findClass RX0 = some m.cls := findClass_of_methodNamed B.named
  have hlocks := B.notSynchronized
  have hl := lv_entry ([.ref h]) (n := 6) (Nat.le_of_ble_eq_true rfl)
  rw [lg_entry_eq]
  generalize (lg_sl ([.ref h]) ++ List.replicate (6 - (lg_sl ([.ref h])).length) Slot.unset).toArray = ls at hl ⊢
  have hl : lv_has ls 6 [(0, .ref h)] := hl
  obtain ⟨hCo, hCr, hCs, hCp, hn12, hbd, hfirst⟩ := id hC
  refine lv_lconst (v := lN 0) hx hb dX0_worstAge_0 rfl ?_
  refine lv_lstore_n (lv' := [(1, .long (lN 0)), (0, .ref h)]) hx hb dX0_worstAge_1 rfl hl (by decide) rfl (fun ls hl => ?_)
  refine lv_lconst (v := lN 0) hx hb dX0_worstAge_2 rfl ?_
  refine lv_lstore_n (lv' := [(3, .long (lN 0)), (1, .long (lN 0)), (0, .ref h)]) hx hb dX0_worstAge_3 rfl hl (by decide) rfl (fun ls hl => ?_)
  refine lv_iconst (v := nI 0) hx hb dX0_worstAge_4 (by decide) ?_
  refine lv_istore (lv' := [(5, .int (nI 0)), (3, .long (lN 0)), (1, .long (lN 0)), (0, .ref h)]) hx hb dX0_worstAge_5 hl (by decide) rfl (fun ls hl => ?_)
  have loop : ∀ (fu i : Nat), i ≤ n → n < i + fu → ∀ ls : Array Slot, lv_has ls 6 [(5, .int (nI i)), (3, .long (lN (lastS sel (fun i => lgP (T i) (U i) (Dn i)) i))), (1, .long (lN (if i = 0 then 0 else lgP (T 0) (U 0) (Dn 0)))), (0, .ref h)] → W p l e (headSpec (.code yX0_worstAge cX0_worstAge 6 (some .long) :: gT) ({ frames := 4, cells := 0, slots := 0, locals := 87 })).room s m ([.ref h] : List Value).toArray below meth c s.heap [] 0 0 (MQ below (vp_Sl (fun r => r = lN (sumN (brN sel T R U Dn) n - lgP (T 0) (U 0) (Dn 0) + lastS sel (fun i => lgP (T i) (U i) (Dn i)) n))) ([.ref h] : List Value).toArray s 0 0 (fun _ => False)) (F0 m 7 ls []) := by
    intro fu
    induction fu with
    | zero => intro i h1 h2; exact absurd h2 (by omega)
    | succ fu ih =>
      intro i hi hf  ls hl
      refine lv_iload hx hb dX0_worstAge_7 (lv_at hl 0 rfl) ?_
      refine lv_aload_n hx hb dX0_worstAge_9 rfl (lv_at hl 3 rfl) ?_
      refine g_get (cl := vwCl) (ci := 0) (v := .int (nI n)) hx hb hts inX0 hown hK hCo rfl 2 (by decide) (hts _ tb_77) rfl dX0_worstAge_10 ?_
      refine n_icmp_ge (tgt := 59) hx hb (by omega) (by omega) dX0_worstAge_13 (by decide) (fun hc => ?_) (fun hc => ?_)
      · obtain rfl : i = n := by omega
        rw [if_neg (by omega : ¬ i = 0)] at hl
        refine lv_aload_n hx hb dX0_worstAge_59 rfl (lv_at hl 3 rfl) ?_
        refine vp_callSl (va_Run.run (va_runV (As := []) (rest := []) ⟨hx, hb, hml, hown, hts⟩ (c_worstReaction l D ka s.heap h rw sm i wi f sel T R U Dn hC) (cw_V 0 hts tb_134 rfl rfl tb_131 tb_4 tb_133 ts_7 (by decide +kernel) ⟨Nat.le_of_ble_eq_true rfl, Nat.le_of_ble_eq_true rfl⟩) (ro_V (ci := 0) hK hN hCo rfl) rfl rfl hl.1 rfl (lv_room (Nat.le_of_ble_eq_true rfl)) dX0_worstAge_60 ⟨Nat.zero_le _, Nat.zero_le _⟩)) (fun r er => ?_)
        subst er
        have hfs : lgP (T 0) (U 0) (Dn 0) ≤ sumN (brN sel T R U Dn) i := by
          refine Nat.le_trans ?_ (sumN_ge (f := brN sel T R U Dn) hn0)
          simp [brN, hfirst hn0]
        refine lv_lload_n hx hb dX0_worstAge_63 rfl (lv_at hl 2 rfl) ?_
        refine n_lsub hx hb (by omega) dX0_worstAge_64 ?_
        refine lv_lload_n hx hb dX0_worstAge_65 rfl (lv_at hl 1 rfl) ?_
        refine n_ladd hx hb dX0_worstAge_66 ?_
        exact W.lret (v := lN (((sumN (brN sel T R U Dn) i) - (lgP (T 0) (U 0) (Dn 0))) + (lastS sel (fun i => lgP (T i) (U i) (Dn i)) i))) hx hb hr (fun t ht hW => ⟨_, rfl, rfl, ht⟩) t_nil dX0_worstAge_67
      · have hlt : i < n := hc
        have hB := hbd i hlt
        refine lv_iload hx hb dX0_worstAge_16 (lv_at hl 0 rfl) ?_
        refine n_if_ne (tgt := 32) hx hb (by omega) dX0_worstAge_18 (by decide) (fun hc0 => ?_) (fun hc0 => ?_)
        · rw [if_neg hc0] at hl
          refine lv_aload_n hx hb dX0_worstAge_32 rfl (lv_at hl 3 rfl) ?_
          refine g_get (cl := vwCl) (ci := 0) (v := .ref sm) hx hb hts inX0 hown hK hCo rfl 1 (by decide) (hts _ tb_76) rfl dX0_worstAge_33 ?_
          refine lv_iload hx hb dX0_worstAge_36 (lv_at hl 0 rfl) ?_
          refine g_zaldv (v := bI (sel i)) hx hb hK 2 hCs rfl (by omega) (by decide) (if_pos (by omega)) dX0_worstAge_38 ?_
          refine b_if_eq (tgt := 53) hx hb dX0_worstAge_39 (by decide) (fun hc => ?_) (fun hc => ?_)
          · refine lv_iinc (v := nI (i + 1)) (lv' := [(5, .int (nI (i + 1))), (3, .long (lN (lastS sel (fun i => lgP (T i) (U i) (Dn i)) i))), (1, .long (lN (lgP (T 0) (U 0) (Dn 0)))), (0, .ref h)]) hx hb dX0_worstAge_53 hl (k := 0) rfl (nI_add i 1) (by decide) rfl (fun ls hl => ?_)
            refine lv_goto (tgt := 7) hx hb dX0_worstAge_56 (by decide) ?_
            have e1 : lastS sel (fun i => lgP (T i) (U i) (Dn i)) (i + 1) = lastS sel (fun i => lgP (T i) (U i) (Dn i)) i := by simp [lastS, hc]
            exact ih (i + 1) (by omega) (by omega) ls (by rw [e1, if_neg (by omega : ¬ i + 1 = 0)]; exact lv_sub hl [0, 1, 2, 3] rfl)
          · refine lv_aload_n hx hb dX0_worstAge_42 rfl (lv_at hl 3 rfl) ?_
            refine g_get (cl := vwCl) (ci := 0) (v := .ref rw) hx hb hts inX0 hown hK hCo rfl 0 (by decide) (hts _ tb_75) rfl dX0_worstAge_43 ?_
            refine lv_iload hx hb dX0_worstAge_46 (lv_at hl 0 rfl) ?_
            refine g_aldr hx hb hK 0 hCr rfl (by omega) (by decide) (if_pos (by omega)) dX0_worstAge_48 ?_
            refine vp_callSl (va_Run.run (va_runVN (As := []) (rest := []) ⟨hx, hb, hml, hown, hts⟩ (c_longPeriod l D ka s.heap (f i) (T i) (R i) (U i) (Dn i) (hCp i hlt) hB.1 hB.2.2.1 hB.2.2.2.1) (cw_VN 0 hts tb_127 rfl rfl (hN _ tn_124 rfl) tb_3 tb_126 ts_6 (by decide +kernel) ⟨Nat.le_of_ble_eq_true rfl, Nat.le_of_ble_eq_true rfl⟩) (ro_V (ci := 1) hK hN (hCp i hlt) rfl) rfl rfl hl.1 rfl (lv_room (Nat.le_of_ble_eq_true rfl)) dX0_worstAge_49 ⟨Nat.zero_le _, Nat.zero_le _⟩)) (fun r er => ?_)
            subst er
            refine lv_lstore_n (lv' := [(3, .long (lN (lgP (T i) (U i) (Dn i)))), (5, .int (nI i)), (1, .long (lN (lgP (T 0) (U 0) (Dn 0)))), (0, .ref h)]) hx hb dX0_worstAge_52 rfl hl (by decide) rfl (fun ls hl => ?_)
            refine lv_iinc (v := nI (i + 1)) (lv' := [(5, .int (nI (i + 1))), (3, .long (lN (lgP (T i) (U i) (Dn i)))), (1, .long (lN (lgP (T 0) (U 0) (Dn 0)))), (0, .ref h)]) hx hb dX0_worstAge_53 hl (k := 1) rfl (nI_add i 1) (by decide) rfl (fun ls hl => ?_)
            refine lv_goto (tgt := 7) hx hb dX0_worstAge_56 (by decide) ?_
            have e1 : lastS sel (fun i => lgP (T i) (U i) (Dn i)) (i + 1) = lgP (T i) (U i) (Dn i) := by simp [lastS, hc]
            exact ih (i + 1) (by omega) (by omega) ls (by rw [e1, if_neg (by omega : ¬ i + 1 = 0)]; exact lv_sub hl [0, 1, 2, 3] rfl)
        · refine lv_aload_n hx hb dX0_worstAge_21 rfl (lv_at hl 3 rfl) ?_
          refine g_get (cl := vwCl) (ci := 0) (v := .ref rw) hx hb hts inX0 hown hK hCo rfl 0 (by decide) (hts _ tb_75) rfl dX0_worstAge_22 ?_
          refine lv_iload hx hb dX0_worstAge_25 (lv_at hl 0 rfl) ?_
          refine g_aldr hx hb hK 0 hCr rfl (by omega) (by decide) (if_pos (by omega)) dX0_worstAge_27 ?_
          refine vp_callSl (va_Run.run (va_runVN (As := []) (rest := []) ⟨hx, hb, hml, hown, hts⟩ (c_longPeriod l D ka s.heap (f i) (T i) (R i) (U i) (Dn i) (hCp i hlt) hB.1 hB.2.2.1 hB.2.2.2.1) (cw_VN 0 hts tb_127 rfl rfl (hN _ tn_124 rfl) tb_3 tb_126 ts_6 (by decide +kernel) ⟨Nat.le_of_ble_eq_true rfl, Nat.le_of_ble_eq_true rfl⟩) (ro_V (ci := 1) hK hN (hCp i hlt) rfl) rfl rfl hl.1 rfl (lv_room (Nat.le_of_ble_eq_true rfl)) dX0_worstAge_28 ⟨Nat.zero_le _, Nat.zero_le _⟩)) (fun r er => ?_)
          subst er
          refine lv_lstore_n (lv' := [(1, .long (lN (lgP (T i) (U i) (Dn i)))), (5, .int (nI i)), (3, .long (lN (lastS sel (fun i => lgP (T i) (U i) (Dn i)) i))), (0, .ref h)]) hx hb dX0_worstAge_31 rfl hl (by decide) rfl (fun ls hl => ?_)
          rw [show lgP (T i) (U i) (Dn i) = lgP (T 0) (U 0) (Dn 0) by rw [hc0]] at hl
          refine lv_aload_n hx hb dX0_worstAge_32 rfl (lv_at hl 3 rfl) ?_
          refine g_get (cl := vwCl) (ci := 0) (v := .ref sm) hx hb hts inX0 hown hK hCo rfl 1 (by decide) (hts _ tb_76) rfl dX0_worstAge_33 ?_
          refine lv_iload hx hb dX0_worstAge_36 (lv_at hl 1 rfl) ?_
          refine g_zaldv (v := bI (sel i)) hx hb hK 2 hCs rfl (by omega) (by decide) (if_pos (by omega)) dX0_worstAge_38 ?_
          refine b_if_eq (tgt := 53) hx hb dX0_worstAge_39 (by decide) (fun hc => ?_) (fun hc => ?_)
          · refine lv_iinc (v := nI (i + 1)) (lv' := [(5, .int (nI (i + 1))), (1, .long (lN (lgP (T 0) (U 0) (Dn 0)))), (3, .long (lN (lastS sel (fun i => lgP (T i) (U i) (Dn i)) i))), (0, .ref h)]) hx hb dX0_worstAge_53 hl (k := 1) rfl (nI_add i 1) (by decide) rfl (fun ls hl => ?_)
            refine lv_goto (tgt := 7) hx hb dX0_worstAge_56 (by decide) ?_
            have e1 : lastS sel (fun i => lgP (T i) (U i) (Dn i)) (i + 1) = lastS sel (fun i => lgP (T i) (U i) (Dn i)) i := by simp [lastS, hc]
            exact ih (i + 1) (by omega) (by omega) ls (by rw [e1, if_neg (by omega : ¬ i + 1 = 0)]; exact lv_sub hl [0, 2, 1, 3] rfl)
          · refine lv_aload_n hx hb dX0_worstAge_42 rfl (lv_at hl 3 rfl) ?_
            refine g_get (cl := vwCl) (ci := 0) (v := .ref rw) hx hb hts inX0 hown hK hCo rfl 0 (by decide) (hts _ tb_75) rfl dX0_worstAge_43 ?_
            refine lv_iload hx hb dX0_worstAge_46 (lv_at hl 1 rfl) ?_
            refine g_aldr hx hb hK 0 hCr rfl (by omega) (by decide) (if_pos (by omega)) dX0_worstAge_48 ?_
            refine vp_callSl (va_Run.run (va_runVN (As := []) (rest := []) ⟨hx, hb, hml, hown, hts⟩ (c_longPeriod l D ka s.heap (f i) (T i) (R i) (U i) (Dn i) (hCp i hlt) hB.1 hB.2.2.1 hB.2.2.2.1) (cw_VN 0 hts tb_127 rfl rfl (hN _ tn_124 rfl) tb_3 tb_126 ts_6 (by decide +kernel) ⟨Nat.le_of_ble_eq_true rfl, Nat.le_of_ble_eq_true rfl⟩) (ro_V (ci := 1) hK hN (hCp i hlt) rfl) rfl rfl hl.1 rfl (lv_room (Nat.le_of_ble_eq_true rfl)) dX0_worstAge_49 ⟨Nat.zero_le _, Nat.zero_le _⟩)) (fun r er => ?_)
            subst er
            refine lv_lstore_n (lv' := [(3, .long (lN (lgP (T i) (U i) (Dn i)))), (1, .long (lN (lgP (T 0) (U 0) (Dn 0)))), (5, .int (nI i)), (0, .ref h)]) hx hb dX0_worstAge_52 rfl hl (by decide) rfl (fun ls hl => ?_)
            refine lv_iinc (v := nI (i + 1)) (lv' := [(5, .int (nI (i + 1))), (3, .long (lN (lgP (T i) (U i) (Dn i)))), (1, .long (lN (lgP (T 0) (U 0) (Dn 0)))), (0, .ref h)]) hx hb dX0_worstAge_53 hl (k := 2) rfl (nI_add i 1) (by decide) rfl (fun ls hl => ?_)
            refine lv_goto (tgt := 7) hx hb dX0_worstAge_56 (by decide) ?_
            have e1 : lastS sel (fun i => lgP (T i) (U i) (Dn i)) (i + 1) = lgP (T i) (U i) (Dn i) := by simp [lastS, hc]
            exact ih (i + 1) (by omega) (by omega) ls (by rw [e1, if_neg (by omega : ¬ i + 1 = 0)]; exact lv_sub hl [0, 1, 2, 3] rfl)
  exact loop (n + 1) 0 (by omega) (by omega) ls (lv_sub hl [0, 1, 2, 3] rfl)
set_option maxHeartbeats 4000000 in
set_option maxRecDepth 100000 in
theorem c_answersFrom (l : Launch) (D : va_G) (ka : Nat → ClassId) (H0 : Heap) (h rw sm n : Nat) (wi : Int64) (f : Nat → Nat) (sel : Nat → Bool) (T R U Dn : Nat → Nat) (k : Nat) (hC : ChAt D ka h rw sm n wi f sel T R U Dn H0) (hk : k ≤ n) : Met l yX0_answersFrom (.code yX0_answersFrom cX0_answersFrom 5 (some .long) :: gT) ({ frames := 0, cells := 0, slots := 0, locals := 0 }) (ro_Pc D vwCl (tyL ka) H0 [.ref h, .int (nI k)]) (vp_Sl (fun r => r = lN (sumN R n - sumN R k))) 0 0 (fun _ => False) := by
  refine Met.ofW (cc := cX0_answersFrom) (maxL := 5) (ret := (some .long)) (by decide) rfl ?_
  intro p e s m args below meth c s₁ B hml hv
  obtain ⟨rfl, hH, hK, hN⟩ := hv
  subst hH
  have hx := B.exec
  have hb := B.bytes
  have hr := B.returns
  have hts : ∀ w ∈ gT, w.before ([.ref h, .int (nI k)] : List Value).toArray s = true := fun w h => atoms_spec (ws := (.code yX0_answersFrom cX0_answersFrom 5 (some .long) :: gT)) B.pre w (List.mem_cons_of_mem _ h)
  have hown : s.vm.findClass RX0 = some m.cls := findClass_of_methodNamed B.named
  have hlocks := B.notSynchronized
  have hl := lv_entry ([.ref h, .int (nI k)]) (n := 5) (Nat.le_of_ble_eq_true rfl)
  rw [lg_entry_eq]
  generalize (lg_sl ([.ref h, .int (nI k)]) ++ List.replicate (5 - (lg_sl ([.ref h, .int (nI k)])).length) Slot.unset).toArray = ls at hl ⊢
  have hl : lv_has ls 5 [(0, .ref h), (1, .int (nI k))] := hl
  obtain ⟨hCo, hCr, hCs, hCp, hn12, hbd, hfirst⟩ := id hC
  have hb31 : k < 2 ^ 31 := by omega
  refine lv_lconst (v := lN 0) hx hb dX0_answersFrom_0 rfl ?_
  refine lv_lstore_n (lv' := [(2, .long (lN 0)), (0, .ref h), (1, .int (nI k))]) hx hb dX0_answersFrom_1 rfl hl (by decide) rfl (fun ls hl => ?_)
  refine lv_iload_n hx hb dX0_answersFrom_2 rfl (lv_at hl 2 rfl) ?_
  refine lv_istore (lv' := [(4, .int (nI k)), (2, .long (lN 0)), (0, .ref h), (1, .int (nI k))]) hx hb dX0_answersFrom_3 hl (by decide) rfl (fun ls hl => ?_)
  have loop : ∀ (fu i : Nat), i ≤ n → n < i + fu → k ≤ i → ∀ ls : Array Slot, lv_has ls 5 [(4, .int (nI i)), (2, .long (lN (sumN R i - sumN R k))), (1, .int (nI k)), (0, .ref h)] → W p l e (headSpec (.code yX0_answersFrom cX0_answersFrom 5 (some .long) :: gT) ({ frames := 0, cells := 0, slots := 0, locals := 0 })).room s m ([.ref h, .int (nI k)] : List Value).toArray below meth c s.heap [] 0 0 (MQ below (vp_Sl (fun r => r = lN (sumN R n - sumN R k))) ([.ref h, .int (nI k)] : List Value).toArray s 0 0 (fun _ => False)) (F0 m 5 ls []) := by
    intro fu
    induction fu with
    | zero => intro i h1 h2; exact absurd h2 (by omega)
    | succ fu ih =>
      intro i hi hf hg0 ls hl
      refine lv_iload hx hb dX0_answersFrom_5 (lv_at hl 0 rfl) ?_
      refine lv_aload_n hx hb dX0_answersFrom_7 rfl (lv_at hl 3 rfl) ?_
      refine g_get (cl := vwCl) (ci := 0) (v := .int (nI n)) hx hb hts inX0 hown hK hCo rfl 2 (by decide) (hts _ tb_77) rfl dX0_answersFrom_8 ?_
      refine n_icmp_ge (tgt := 33) hx hb (by omega) (by omega) dX0_answersFrom_11 (by decide) (fun hc => ?_) (fun hc => ?_)
      · refine lv_lload_n hx hb dX0_answersFrom_33 rfl (lv_at hl 1 rfl) ?_
        exact W.lret (v := lN (sumN R i - sumN R k)) hx hb hr (fun t ht hW => ⟨_, rfl, by rw [show i = n by omega], ht⟩) t_nil dX0_answersFrom_34
      · have hlt : i < n := hc
        have hmo := sumN_mono (f := R) i k hg0
        refine lv_lload_n hx hb dX0_answersFrom_14 rfl (lv_at hl 1 rfl) ?_
        refine lv_aload_n hx hb dX0_answersFrom_15 rfl (lv_at hl 3 rfl) ?_
        refine g_get (cl := vwCl) (ci := 0) (v := .ref rw) hx hb hts inX0 hown hK hCo rfl 0 (by decide) (hts _ tb_75) rfl dX0_answersFrom_16 ?_
        refine lv_iload hx hb dX0_answersFrom_19 (lv_at hl 0 rfl) ?_
        refine g_aldr hx hb hK 0 hCr rfl (by omega) (by decide) (if_pos (by omega)) dX0_answersFrom_21 ?_
        refine g_getN (cl := vwCl) (ci := 1) (v := .long (lN (R i))) hx hb hts inX1 hown hK (hCp i hlt) rfl 1 (by decide) (va_Nw.use rfl (hN _ tn_49 rfl)) rfl dX0_answersFrom_22 ?_
        refine n_ladd hx hb dX0_answersFrom_25 ?_
        refine lv_lstore_n (lv' := [(2, .long (lN ((sumN R i - sumN R k) + (R i)))), (4, .int (nI i)), (1, .int (nI k)), (0, .ref h)]) hx hb dX0_answersFrom_26 rfl hl (by decide) rfl (fun ls hl => ?_)
        refine lv_iinc (v := nI (i + 1)) (lv' := [(4, .int (nI (i + 1))), (2, .long (lN ((sumN R i - sumN R k) + (R i)))), (1, .int (nI k)), (0, .ref h)]) hx hb dX0_answersFrom_27 hl (k := 1) rfl (nI_add i 1) (by decide) rfl (fun ls hl => ?_)
        refine lv_goto (tgt := 5) hx hb dX0_answersFrom_30 (by decide) ?_
        exact ih (i + 1) (by omega) (by omega) (by omega) ls (by rw [show sumN R (i + 1) - sumN R k = sumN R i - sumN R k + R i from (by show sumN R i + R i - sumN R k = _; omega)]; exact lv_sub hl [0, 1, 2, 3] rfl)
  exact loop (n + 1) k hk (by omega) (Nat.le_refl k) ls (by rw [Nat.sub_self]; exact lv_sub hl [0, 1, 3, 2] rfl)
set_option maxHeartbeats 4000000 in
set_option maxRecDepth 100000 in
theorem c_lacksPeriod (l : Launch) (D : va_G) (ka : Nat → ClassId) (H0 : Heap) (h rw sm n : Nat) (wi : Int64) (f : Nat → Nat) (sel : Nat → Bool) (T R U Dn : Nat → Nat) (hC : ChAt D ka h rw sm n wi f sel T R U Dn H0) : Met l yX0_lacksPeriod (.code yX0_lacksPeriod cX0_lacksPeriod 2 (some .boolean) :: gT) ({ frames := 0, cells := 0, slots := 0, locals := 0 }) (ro_Pc D vwCl (tyL ka) H0 [.ref h]) (vp_Si (fun r => r = bI (anyN (fun i => T i == 0) n))) 0 0 (fun _ => False) := by
  refine Met.ofW (cc := cX0_lacksPeriod) (maxL := 2) (ret := (some .boolean)) (by decide) rfl ?_
  intro p e s m args below meth c s₁ B hml hv
  obtain ⟨rfl, hH, hK, hN⟩ := hv
  subst hH
  have hx := B.exec
  have hb := B.bytes
  have hr := B.returns
  have hts : ∀ w ∈ gT, w.before ([.ref h] : List Value).toArray s = true := fun w h => atoms_spec (ws := (.code yX0_lacksPeriod cX0_lacksPeriod 2 (some .boolean) :: gT)) B.pre w (List.mem_cons_of_mem _ h)
  have hown : s.vm.findClass RX0 = some m.cls := findClass_of_methodNamed B.named
  have hlocks := B.notSynchronized
  have hl := lv_entry ([.ref h]) (n := 2) (Nat.le_of_ble_eq_true rfl)
  rw [lg_entry_eq]
  generalize (lg_sl ([.ref h]) ++ List.replicate (2 - (lg_sl ([.ref h])).length) Slot.unset).toArray = ls at hl ⊢
  have hl : lv_has ls 2 [(0, .ref h)] := hl
  obtain ⟨hCo, hCr, hCs, hCp, hn12, hbd, hfirst⟩ := id hC
  refine lv_iconst (v := nI 0) hx hb dX0_lacksPeriod_0 (by decide) ?_
  refine lv_istore_n (lv' := [(1, .int (nI 0)), (0, .ref h)]) hx hb dX0_lacksPeriod_1 rfl hl (by decide) rfl (fun ls hl => ?_)
  have loop : ∀ (fu i : Nat), i ≤ n → n < i + fu → anyN (fun i => T i == 0) i = false → ∀ ls : Array Slot, lv_has ls 2 [(1, .int (nI i)), (0, .ref h)] → W p l e (headSpec (.code yX0_lacksPeriod cX0_lacksPeriod 2 (some .boolean) :: gT) ({ frames := 0, cells := 0, slots := 0, locals := 0 })).room s m ([.ref h] : List Value).toArray below meth c s.heap [] 0 0 (MQ below (vp_Si (fun r => r = bI (anyN (fun i => T i == 0) n))) ([.ref h] : List Value).toArray s 0 0 (fun _ => False)) (F0 m 2 ls []) := by
    intro fu
    induction fu with
    | zero => intro i h1 h2; exact absurd h2 (by omega)
    | succ fu ih =>
      intro i hi hf hg0 ls hl
      refine lv_iload_n hx hb dX0_lacksPeriod_2 rfl (lv_at hl 0 rfl) ?_
      refine lv_aload_n hx hb dX0_lacksPeriod_3 rfl (lv_at hl 1 rfl) ?_
      refine g_get (cl := vwCl) (ci := 0) (v := .int (nI n)) hx hb hts inX0 hown hK hCo rfl 2 (by decide) (hts _ tb_77) rfl dX0_lacksPeriod_4 ?_
      refine n_icmp_ge (tgt := 32) hx hb (by omega) (by omega) dX0_lacksPeriod_7 (by decide) (fun hc => ?_) (fun hc => ?_)
      · obtain rfl : i = n := by omega
        refine lv_iconst (v := nI 0) hx hb dX0_lacksPeriod_32 (by decide) ?_
        exact W.zret (v := nI 0) (ty := .boolean) hx hb hr (by decide) (fun t ht hW => ⟨_, rfl, by rw [hg0]; rfl, ht⟩) t_nil dX0_lacksPeriod_33
      · have hlt : i < n := hc
        have hB := hbd i hlt
        refine lv_aload_n hx hb dX0_lacksPeriod_10 rfl (lv_at hl 1 rfl) ?_
        refine g_get (cl := vwCl) (ci := 0) (v := .ref rw) hx hb hts inX0 hown hK hCo rfl 0 (by decide) (hts _ tb_75) rfl dX0_lacksPeriod_11 ?_
        refine lv_iload_n hx hb dX0_lacksPeriod_14 rfl (lv_at hl 0 rfl) ?_
        refine g_aldr hx hb hK 0 hCr rfl (by omega) (by decide) (if_pos (by omega)) dX0_lacksPeriod_15 ?_
        refine g_getN (cl := vwCl) (ci := 1) (v := .long (lN (T i))) hx hb hts inX1 hown hK (hCp i hlt) rfl 0 (by decide) (va_Nw.use rfl (hN _ tn_47 rfl)) rfl dX0_lacksPeriod_16 ?_
        refine lv_lconst (v := lN 0) hx hb dX0_lacksPeriod_19 rfl ?_
        refine n_lcmp_ne (tgt := 26) hx hb (by omega) (by omega) dX0_lacksPeriod_20 dX0_lacksPeriod_21 (by decide) (fun hc => ?_) (fun hc => ?_)
        · refine lv_iinc (v := nI (i + 1)) (lv' := [(1, .int (nI (i + 1))), (0, .ref h)]) hx hb dX0_lacksPeriod_26 hl (k := 0) rfl (nI_add i 1) (by decide) rfl (fun ls hl => ?_)
          refine lv_goto (tgt := 2) hx hb dX0_lacksPeriod_29 (by decide) ?_
          exact ih (i + 1) (by omega) (by omega) (anyN_next hg0 (by simp; omega)) ls (lv_sub hl [0, 1] rfl)
        · refine lv_iconst (v := nI 1) hx hb dX0_lacksPeriod_24 (by decide) ?_
          exact W.zret (v := nI 1) (ty := .boolean) hx hb hr (by decide) (fun t ht hW => ⟨_, rfl, by rw [anyN_hit hlt (by simp [hc])]; rfl, ht⟩) t_nil dX0_lacksPeriod_25
  exact loop (n + 1) 0 (by omega) (by omega) rfl ls (lv_sub hl [0, 1] rfl)
set_option maxHeartbeats 4000000 in
set_option maxRecDepth 100000 in
theorem c_clocksAreRight (l : Launch) (D : va_G) (ka : Nat → ClassId) (H0 : Heap) (h rw sm n : Nat) (wi : Int64) (f : Nat → Nat) (sel : Nat → Bool) (T R U Dn : Nat → Nat) (hC : ChAt D ka h rw sm n wi f sel T R U Dn H0) : Met l yX0_clocksAreRight (.code yX0_clocksAreRight cX0_clocksAreRight 2 (some .boolean) :: gT) ({ frames := 0, cells := 0, slots := 0, locals := 0 }) (ro_Pc D vwCl (tyL ka) H0 [.ref h]) (vp_Si (fun r => r = bI (!(anyN (fun i => U i != 0) n)))) 0 0 (fun _ => False) := by
  refine Met.ofW (cc := cX0_clocksAreRight) (maxL := 2) (ret := (some .boolean)) (by decide) rfl ?_
  intro p e s m args below meth c s₁ B hml hv
  obtain ⟨rfl, hH, hK, hN⟩ := hv
  subst hH
  have hx := B.exec
  have hb := B.bytes
  have hr := B.returns
  have hts : ∀ w ∈ gT, w.before ([.ref h] : List Value).toArray s = true := fun w h => atoms_spec (ws := (.code yX0_clocksAreRight cX0_clocksAreRight 2 (some .boolean) :: gT)) B.pre w (List.mem_cons_of_mem _ h)
  have hown : s.vm.findClass RX0 = some m.cls := findClass_of_methodNamed B.named
  have hlocks := B.notSynchronized
  have hl := lv_entry ([.ref h]) (n := 2) (Nat.le_of_ble_eq_true rfl)
  rw [lg_entry_eq]
  generalize (lg_sl ([.ref h]) ++ List.replicate (2 - (lg_sl ([.ref h])).length) Slot.unset).toArray = ls at hl ⊢
  have hl : lv_has ls 2 [(0, .ref h)] := hl
  obtain ⟨hCo, hCr, hCs, hCp, hn12, hbd, hfirst⟩ := id hC
  refine lv_iconst (v := nI 0) hx hb dX0_clocksAreRight_0 (by decide) ?_
  refine lv_istore_n (lv' := [(1, .int (nI 0)), (0, .ref h)]) hx hb dX0_clocksAreRight_1 rfl hl (by decide) rfl (fun ls hl => ?_)
  have loop : ∀ (fu i : Nat), i ≤ n → n < i + fu → anyN (fun i => U i != 0) i = false → ∀ ls : Array Slot, lv_has ls 2 [(1, .int (nI i)), (0, .ref h)] → W p l e (headSpec (.code yX0_clocksAreRight cX0_clocksAreRight 2 (some .boolean) :: gT) ({ frames := 0, cells := 0, slots := 0, locals := 0 })).room s m ([.ref h] : List Value).toArray below meth c s.heap [] 0 0 (MQ below (vp_Si (fun r => r = bI (!(anyN (fun i => U i != 0) n)))) ([.ref h] : List Value).toArray s 0 0 (fun _ => False)) (F0 m 2 ls []) := by
    intro fu
    induction fu with
    | zero => intro i h1 h2; exact absurd h2 (by omega)
    | succ fu ih =>
      intro i hi hf hg0 ls hl
      refine lv_iload_n hx hb dX0_clocksAreRight_2 rfl (lv_at hl 0 rfl) ?_
      refine lv_aload_n hx hb dX0_clocksAreRight_3 rfl (lv_at hl 1 rfl) ?_
      refine g_get (cl := vwCl) (ci := 0) (v := .int (nI n)) hx hb hts inX0 hown hK hCo rfl 2 (by decide) (hts _ tb_77) rfl dX0_clocksAreRight_4 ?_
      refine n_icmp_ge (tgt := 32) hx hb (by omega) (by omega) dX0_clocksAreRight_7 (by decide) (fun hc => ?_) (fun hc => ?_)
      · obtain rfl : i = n := by omega
        refine lv_iconst (v := nI 1) hx hb dX0_clocksAreRight_32 (by decide) ?_
        exact W.zret (v := nI 1) (ty := .boolean) hx hb hr (by decide) (fun t ht hW => ⟨_, rfl, by rw [hg0]; rfl, ht⟩) t_nil dX0_clocksAreRight_33
      · have hlt : i < n := hc
        have hB := hbd i hlt
        refine lv_aload_n hx hb dX0_clocksAreRight_10 rfl (lv_at hl 1 rfl) ?_
        refine g_get (cl := vwCl) (ci := 0) (v := .ref rw) hx hb hts inX0 hown hK hCo rfl 0 (by decide) (hts _ tb_75) rfl dX0_clocksAreRight_11 ?_
        refine lv_iload_n hx hb dX0_clocksAreRight_14 rfl (lv_at hl 0 rfl) ?_
        refine g_aldr hx hb hK 0 hCr rfl (by omega) (by decide) (if_pos (by omega)) dX0_clocksAreRight_15 ?_
        refine g_getN (cl := vwCl) (ci := 1) (v := .long (lN (U i))) hx hb hts inX1 hown hK (hCp i hlt) rfl 2 (by decide) (va_Nw.use rfl (hN _ tn_52 rfl)) rfl dX0_clocksAreRight_16 ?_
        refine lv_lconst (v := lN 0) hx hb dX0_clocksAreRight_19 rfl ?_
        refine n_lcmp_eq (tgt := 26) hx hb (by omega) (by omega) dX0_clocksAreRight_20 dX0_clocksAreRight_21 (by decide) (fun hc => ?_) (fun hc => ?_)
        · refine lv_iinc (v := nI (i + 1)) (lv' := [(1, .int (nI (i + 1))), (0, .ref h)]) hx hb dX0_clocksAreRight_26 hl (k := 0) rfl (nI_add i 1) (by decide) rfl (fun ls hl => ?_)
          refine lv_goto (tgt := 2) hx hb dX0_clocksAreRight_29 (by decide) ?_
          exact ih (i + 1) (by omega) (by omega) (anyN_next hg0 (by simp [hc])) ls (lv_sub hl [0, 1] rfl)
        · refine lv_iconst (v := nI 0) hx hb dX0_clocksAreRight_24 (by decide) ?_
          exact W.zret (v := nI 0) (ty := .boolean) hx hb hr (by decide) (fun t ht hW => ⟨_, rfl, by rw [anyN_hit hlt (by simp [hc])]; rfl, ht⟩) t_nil dX0_clocksAreRight_25
  exact loop (n + 1) 0 (by omega) (by omega) rfl ls (lv_sub hl [0, 1] rfl)
set_option maxHeartbeats 4000000 in
set_option maxRecDepth 100000 in
theorem c_commonCycle (l : Launch) (D : va_G) (ka : Nat → ClassId) (H0 : Heap) (h rw sm n : Nat) (wi : Int64) (f : Nat → Nat) (sel : Nat → Bool) (T R U Dn : Nat → Nat) (al : Bool) (hC : ChAt D ka h rw sm n wi f sel T R U Dn H0) (hal : ∀ i, i < n → (sel i || !al) = true → 0 < T i) : Met l yX0_commonCycle (.code yX0_commonCycle cX0_commonCycle 5 (some .long) :: gT) ({ frames := 2, cells := 0, slots := 0, locals := 55 }) (ro_Pc D vwCl (tyL ka) H0 [.ref h, .int (bI al)]) (vp_Sl (fun r => r = lN (cyc (fun i => sel i || !al) T n))) 0 0 (fun _ => False) := by
  refine Met.ofW (cc := cX0_commonCycle) (maxL := 5) (ret := (some .long)) (by decide) rfl ?_
  intro p e s m args below meth c s₁ B hml hv
  obtain ⟨rfl, hH, hK, hN⟩ := hv
  subst hH
  have hx := B.exec
  have hb := B.bytes
  have hr := B.returns
  have hts : ∀ w ∈ gT, w.before ([.ref h, .int (bI al)] : List Value).toArray s = true := fun w h => atoms_spec (ws := (.code yX0_commonCycle cX0_commonCycle 5 (some .long) :: gT)) B.pre w (List.mem_cons_of_mem _ h)
  have hown : s.vm.findClass RX0 = some m.cls := findClass_of_methodNamed B.named
  have hlocks := B.notSynchronized
  have hl := lv_entry ([.ref h, .int (bI al)]) (n := 5) (Nat.le_of_ble_eq_true rfl)
  rw [lg_entry_eq]
  generalize (lg_sl ([.ref h, .int (bI al)]) ++ List.replicate (5 - (lg_sl ([.ref h, .int (bI al)])).length) Slot.unset).toArray = ls at hl ⊢
  have hl : lv_has ls 5 [(0, .ref h), (1, .int (bI al))] := hl
  obtain ⟨hCo, hCr, hCs, hCp, hn12, hbd, hfirst⟩ := id hC
  refine lv_lconst (v := lN 1) hx hb dX0_commonCycle_0 rfl ?_
  refine lv_lstore_n (lv' := [(2, .long (lN 1)), (0, .ref h), (1, .int (bI al))]) hx hb dX0_commonCycle_1 rfl hl (by decide) rfl (fun ls hl => ?_)
  refine lv_iconst (v := nI 0) hx hb dX0_commonCycle_2 (by decide) ?_
  refine lv_istore (lv' := [(4, .int (nI 0)), (2, .long (lN 1)), (0, .ref h), (1, .int (bI al))]) hx hb dX0_commonCycle_3 hl (by decide) rfl (fun ls hl => ?_)
  have loop : ∀ (fu i : Nat), i ≤ n → n < i + fu → ∀ ls : Array Slot, lv_has ls 5 [(4, .int (nI i)), (2, .long (lN (cyc (fun i => sel i || !al) T i))), (1, .int (bI al)), (0, .ref h)] → W p l e (headSpec (.code yX0_commonCycle cX0_commonCycle 5 (some .long) :: gT) ({ frames := 2, cells := 0, slots := 0, locals := 55 })).room s m ([.ref h, .int (bI al)] : List Value).toArray below meth c s.heap [] 0 0 (MQ below (vp_Sl (fun r => r = lN (cyc (fun i => sel i || !al) T n))) ([.ref h, .int (bI al)] : List Value).toArray s 0 0 (fun _ => False)) (F0 m 5 ls []) := by
    intro fu
    induction fu with
    | zero => intro i h1 h2; exact absurd h2 (by omega)
    | succ fu ih =>
      intro i hi hf  ls hl
      refine lv_iload hx hb dX0_commonCycle_5 (lv_at hl 0 rfl) ?_
      refine lv_aload_n hx hb dX0_commonCycle_7 rfl (lv_at hl 3 rfl) ?_
      refine g_get (cl := vwCl) (ci := 0) (v := .int (nI n)) hx hb hts inX0 hown hK hCo rfl 2 (by decide) (hts _ tb_77) rfl dX0_commonCycle_8 ?_
      refine n_icmp_ge (tgt := 55) hx hb (by omega) (by omega) dX0_commonCycle_11 (by decide) (fun hc => ?_) (fun hc => ?_)
      · refine lv_lload_n hx hb dX0_commonCycle_55 rfl (lv_at hl 1 rfl) ?_
        exact W.lret (v := lN (cyc (fun i => sel i || !al) T i)) hx hb hr (fun t ht hW => ⟨_, rfl, by rw [show i = n by omega], ht⟩) t_nil dX0_commonCycle_56
      · have hlt : i < n := hc
        have hB := hbd i hlt
        have hci := cyc_in (sel := fun i => sel i || !al) (T := T) i (fun j hj hs => hal j (by omega) hs)
        refine lv_aload_n hx hb dX0_commonCycle_14 rfl (lv_at hl 3 rfl) ?_
        refine g_get (cl := vwCl) (ci := 0) (v := .ref sm) hx hb hts inX0 hown hK hCo rfl 1 (by decide) (hts _ tb_76) rfl dX0_commonCycle_15 ?_
        refine lv_iload hx hb dX0_commonCycle_18 (lv_at hl 0 rfl) ?_
        refine g_zaldv (v := bI (sel i)) hx hb hK 2 hCs rfl (by omega) (by decide) (if_pos (by omega)) dX0_commonCycle_20 ?_
        refine b_if_ne (tgt := 28) hx hb dX0_commonCycle_21 (by decide) (fun hc1 => ?_) (fun hc1 => ?_)
        · have hs : (sel i || !al) = true := by simp [hc1]
          have hTp := hal i hlt hs
          have hlp := lcm_le (a := cyc (fun i => sel i || !al) T i) (b := T i)
          have hlq : cyc (fun i => sel i || !al) T i * T i ≤ 1000000000 * 20000 := Nat.mul_le_mul hci.2 hB.1
          refine lv_ldc2 (v := lN 1000000000) hx hb hown (hts _ tb_188) dX0_commonCycle_28 ?_
          refine lv_lload_n hx hb dX0_commonCycle_31 rfl (lv_at hl 1 rfl) ?_
          refine lv_aload_n hx hb dX0_commonCycle_32 rfl (lv_at hl 3 rfl) ?_
          refine g_get (cl := vwCl) (ci := 0) (v := .ref rw) hx hb hts inX0 hown hK hCo rfl 0 (by decide) (hts _ tb_75) rfl dX0_commonCycle_33 ?_
          refine lv_iload hx hb dX0_commonCycle_36 (lv_at hl 0 rfl) ?_
          refine g_aldr hx hb hK 0 hCr rfl (by omega) (by decide) (if_pos (by omega)) dX0_commonCycle_38 ?_
          refine g_getN (cl := vwCl) (ci := 1) (v := .long (lN (T i))) hx hb hts inX1 hown hK (hCp i hlt) rfl 0 (by decide) (va_Nw.use rfl (hN _ tn_47 rfl)) rfl dX0_commonCycle_39 ?_
          refine vp_callSl (va_Run.run (va_runSN (As := [.long (lN (cyc (fun i => sel i || !al) T i)), .long (lN (T i))]) (rest := [.long (lN 1000000000)]) ⟨hx, hb, hml, hown, hts⟩ (c_lcm l D ka s.heap (cyc (fun i => sel i || !al) T i) (T i) (by omega) (by omega) hci.1) (cw_SN 2 hts tb_191 rfl rfl (hN _ tn_189 rfl) tb_1 tb_190 (by decide +kernel) ⟨Nat.le_of_ble_eq_true rfl, Nat.le_of_ble_eq_true rfl⟩) (ro_S hK hN) rfl rfl hl.1 rfl (lv_room (Nat.le_of_ble_eq_true rfl)) dX0_commonCycle_42 ⟨Nat.zero_le _, Nat.zero_le _⟩)) (fun r er => ?_)
          subst er
          refine n_lmin hx hb (by rw [hml, hl.1]) hown (hts _ tb_195) (hts _ tb_196) (hts _ tb_9) (hts _ tb_197) (Nat.le_of_ble_eq_true rfl) (Nat.le_of_ble_eq_true rfl) (Nat.zero_le _) (Nat.zero_le _) (by omega) (by omega) dX0_commonCycle_45 ?_
          refine lv_lstore_n (lv' := [(2, .long (lN (min 1000000000 (Nat.lcm (cyc (fun i => sel i || !al) T i) (T i))))), (4, .int (nI i)), (1, .int (bI al)), (0, .ref h)]) hx hb dX0_commonCycle_48 rfl hl (by decide) rfl (fun ls hl => ?_)
          refine lv_iinc (v := nI (i + 1)) (lv' := [(4, .int (nI (i + 1))), (2, .long (lN (min 1000000000 (Nat.lcm (cyc (fun i => sel i || !al) T i) (T i))))), (1, .int (bI al)), (0, .ref h)]) hx hb dX0_commonCycle_49 hl (k := 1) rfl (nI_add i 1) (by decide) rfl (fun ls hl => ?_)
          refine lv_goto (tgt := 5) hx hb dX0_commonCycle_52 (by decide) ?_
          have e1 : cyc (fun i => sel i || !al) T (i + 1) = min 1000000000 (Nat.lcm (cyc (fun i => sel i || !al) T i) (T i)) := by simp only [cyc]; rw [if_pos hs]
          exact ih (i + 1) (by omega) (by omega) ls (by rw [e1]; exact lv_sub hl [0, 1, 2, 3] rfl)
        · refine lv_iload_n hx hb dX0_commonCycle_24 rfl (lv_at hl 2 rfl) ?_
          refine b_if_ne (tgt := 49) hx hb dX0_commonCycle_25 (by decide) (fun hc2 => ?_) (fun hc2 => ?_)
          · refine lv_iinc (v := nI (i + 1)) (lv' := [(4, .int (nI (i + 1))), (2, .long (lN (cyc (fun i => sel i || !al) T i))), (1, .int (bI al)), (0, .ref h)]) hx hb dX0_commonCycle_49 hl (k := 0) rfl (nI_add i 1) (by decide) rfl (fun ls hl => ?_)
            refine lv_goto (tgt := 5) hx hb dX0_commonCycle_52 (by decide) ?_
            have e1 : cyc (fun i => sel i || !al) T (i + 1) = cyc (fun i => sel i || !al) T i := by simp only [cyc]; rw [if_neg (by simp [hc1, hc2])]
            exact ih (i + 1) (by omega) (by omega) ls (by rw [e1]; exact lv_sub hl [0, 1, 2, 3] rfl)
          · have hs : (sel i || !al) = true := by simp [hc2]
            have hTp := hal i hlt hs
            have hlp := lcm_le (a := cyc (fun i => sel i || !al) T i) (b := T i)
            have hlq : cyc (fun i => sel i || !al) T i * T i ≤ 1000000000 * 20000 := Nat.mul_le_mul hci.2 hB.1
            refine lv_ldc2 (v := lN 1000000000) hx hb hown (hts _ tb_188) dX0_commonCycle_28 ?_
            refine lv_lload_n hx hb dX0_commonCycle_31 rfl (lv_at hl 1 rfl) ?_
            refine lv_aload_n hx hb dX0_commonCycle_32 rfl (lv_at hl 3 rfl) ?_
            refine g_get (cl := vwCl) (ci := 0) (v := .ref rw) hx hb hts inX0 hown hK hCo rfl 0 (by decide) (hts _ tb_75) rfl dX0_commonCycle_33 ?_
            refine lv_iload hx hb dX0_commonCycle_36 (lv_at hl 0 rfl) ?_
            refine g_aldr hx hb hK 0 hCr rfl (by omega) (by decide) (if_pos (by omega)) dX0_commonCycle_38 ?_
            refine g_getN (cl := vwCl) (ci := 1) (v := .long (lN (T i))) hx hb hts inX1 hown hK (hCp i hlt) rfl 0 (by decide) (va_Nw.use rfl (hN _ tn_47 rfl)) rfl dX0_commonCycle_39 ?_
            refine vp_callSl (va_Run.run (va_runSN (As := [.long (lN (cyc (fun i => sel i || !al) T i)), .long (lN (T i))]) (rest := [.long (lN 1000000000)]) ⟨hx, hb, hml, hown, hts⟩ (c_lcm l D ka s.heap (cyc (fun i => sel i || !al) T i) (T i) (by omega) (by omega) hci.1) (cw_SN 2 hts tb_191 rfl rfl (hN _ tn_189 rfl) tb_1 tb_190 (by decide +kernel) ⟨Nat.le_of_ble_eq_true rfl, Nat.le_of_ble_eq_true rfl⟩) (ro_S hK hN) rfl rfl hl.1 rfl (lv_room (Nat.le_of_ble_eq_true rfl)) dX0_commonCycle_42 ⟨Nat.zero_le _, Nat.zero_le _⟩)) (fun r er => ?_)
            subst er
            refine n_lmin hx hb (by rw [hml, hl.1]) hown (hts _ tb_195) (hts _ tb_196) (hts _ tb_9) (hts _ tb_197) (Nat.le_of_ble_eq_true rfl) (Nat.le_of_ble_eq_true rfl) (Nat.zero_le _) (Nat.zero_le _) (by omega) (by omega) dX0_commonCycle_45 ?_
            refine lv_lstore_n (lv' := [(2, .long (lN (min 1000000000 (Nat.lcm (cyc (fun i => sel i || !al) T i) (T i))))), (4, .int (nI i)), (1, .int (bI al)), (0, .ref h)]) hx hb dX0_commonCycle_48 rfl hl (by decide) rfl (fun ls hl => ?_)
            refine lv_iinc (v := nI (i + 1)) (lv' := [(4, .int (nI (i + 1))), (2, .long (lN (min 1000000000 (Nat.lcm (cyc (fun i => sel i || !al) T i) (T i))))), (1, .int (bI al)), (0, .ref h)]) hx hb dX0_commonCycle_49 hl (k := 1) rfl (nI_add i 1) (by decide) rfl (fun ls hl => ?_)
            refine lv_goto (tgt := 5) hx hb dX0_commonCycle_52 (by decide) ?_
            have e1 : cyc (fun i => sel i || !al) T (i + 1) = min 1000000000 (Nat.lcm (cyc (fun i => sel i || !al) T i) (T i)) := by simp only [cyc]; rw [if_pos hs]
            exact ih (i + 1) (by omega) (by omega) ls (by rw [e1]; exact lv_sub hl [0, 1, 2, 3] rfl)
  exact loop (n + 1) 0 (by omega) (by omega) ls (lv_sub hl [0, 1, 3, 2] rfl)
set_option maxHeartbeats 4000000 in
set_option maxRecDepth 100000 in
theorem c_keepsWish (l : Launch) (D : va_G) (ka : Nat → ClassId) (H0 : Heap) (h rw sm n : Nat) (wi : Int64) (f : Nat → Nat) (sel : Nat → Bool) (T R U Dn : Nat → Nat) (hC : ChAt D ka h rw sm n wi f sel T R U Dn H0) : Met l yX0_keepsWish (.code yX0_keepsWish cX0_keepsWish 1 (some .boolean) :: gT) ({ frames := 4, cells := 0, slots := 0, locals := 87 }) (ro_Pc D vwCl (tyL ka) H0 [.ref h]) (vp_Si (fun r => r = bI (kpN wi (sumN (brN sel T R U Dn) n)))) 0 0 (fun _ => False) := by
  refine Met.ofW (cc := cX0_keepsWish) (maxL := 1) (ret := (some .boolean)) (by decide) rfl ?_
  intro p e s m args below meth c s₁ B hml hv
  obtain ⟨rfl, hH, hK, hN⟩ := hv
  subst hH
  have hx := B.exec
  have hb := B.bytes
  have hr := B.returns
  have hts : ∀ w ∈ gT, w.before ([.ref h] : List Value).toArray s = true := fun w h => atoms_spec (ws := (.code yX0_keepsWish cX0_keepsWish 1 (some .boolean) :: gT)) B.pre w (List.mem_cons_of_mem _ h)
  have hown : s.vm.findClass RX0 = some m.cls := findClass_of_methodNamed B.named
  have hlocks := B.notSynchronized
  have hl := lv_entry ([.ref h]) (n := 1) (Nat.le_of_ble_eq_true rfl)
  rw [lg_entry_eq]
  generalize (lg_sl ([.ref h]) ++ List.replicate (1 - (lg_sl ([.ref h])).length) Slot.unset).toArray = ls at hl ⊢
  have hl : lv_has ls 1 [(0, .ref h)] := hl
  obtain ⟨hCo, hCr, hCs, hCp, hn12, hbd, hfirst⟩ := id hC
  refine lv_aload_n hx hb dX0_keepsWish_0 rfl (lv_at hl 0 rfl) ?_
  refine g_get (cl := vwCl) (ci := 0) (v := .long wi) hx hb hts inX0 hown hK hCo rfl 3 (by decide) (hts _ tb_79) rfl dX0_keepsWish_1 ?_
  refine lv_ldc2 (v := (-1)) hx hb hown (hts _ tb_74) dX0_keepsWish_4 ?_
  refine r_lcmp_eq (tgt := 27) hx hb dX0_keepsWish_7 dX0_keepsWish_8 (by decide) (fun hc1 => ?_) (fun hc1 => ?_)
  · refine lv_iconst (v := nI 0) hx hb dX0_keepsWish_27 (by decide) ?_
    exact W.zret (v := nI 0) (ty := .boolean) hx hb hr (by decide) (fun t ht hW => ⟨_, rfl, by rw [kpN_none (by omega)]; rfl, ht⟩) t_nil dX0_keepsWish_28
  · refine lv_aload_n hx hb dX0_keepsWish_11 rfl (lv_at hl 0 rfl) ?_
    refine vp_callSl (va_Run.run (va_runV (As := []) (rest := []) ⟨hx, hb, hml, hown, hts⟩ (c_worstReaction l D ka s.heap h rw sm n wi f sel T R U Dn hC) (cw_V 0 hts tb_134 rfl rfl tb_131 tb_4 tb_133 ts_7 (by decide +kernel) ⟨Nat.le_of_ble_eq_true rfl, Nat.le_of_ble_eq_true rfl⟩) (ro_V (ci := 0) hK hN hCo rfl) rfl rfl hl.1 rfl (lv_room (Nat.le_of_ble_eq_true rfl)) dX0_keepsWish_12 ⟨Nat.zero_le _, Nat.zero_le _⟩)) (fun r er => ?_)
    subst er
    refine lv_aload_n hx hb dX0_keepsWish_15 rfl (lv_at hl 0 rfl) ?_
    refine g_get (cl := vwCl) (ci := 0) (v := .long wi) hx hb hts inX0 hown hK hCo rfl 3 (by decide) (hts _ tb_79) rfl dX0_keepsWish_16 ?_
    refine r_lcmp_gt (tgt := 27) hx hb dX0_keepsWish_19 dX0_keepsWish_20 (by decide) (fun hc => ?_) (fun hc => ?_)
    · refine lv_iconst (v := nI 0) hx hb dX0_keepsWish_27 (by decide) ?_
      exact W.zret (v := nI 0) (ty := .boolean) hx hb hr (by decide) (fun t ht hW => ⟨_, rfl, by rw [kpN_no hc1 hc]; rfl, ht⟩) t_nil dX0_keepsWish_28
    · refine lv_iconst (v := nI 1) hx hb dX0_keepsWish_23 (by decide) ?_
      refine lv_goto (tgt := 28) hx hb dX0_keepsWish_24 (by decide) ?_
      exact W.zret (v := nI 1) (ty := .boolean) hx hb hr (by decide) (fun t ht hW => ⟨_, rfl, by rw [kpN_yes hc1 hc]; rfl, ht⟩) t_nil dX0_keepsWish_28
set_option maxHeartbeats 4000000 in
set_option maxRecDepth 100000 in
theorem c_canBeStepped (l : Launch) (D : va_G) (ka : Nat → ClassId) (H0 : Heap) (h rw sm n : Nat) (wi : Int64) (f : Nat → Nat) (sel : Nat → Bool) (T R U Dn : Nat → Nat) (hC : ChAt D ka h rw sm n wi f sel T R U Dn H0) : Met l yX0_canBeStepped (.code yX0_canBeStepped cX0_canBeStepped 1 (some .boolean) :: gT) ({ frames := 3, cells := 0, slots := 0, locals := 79 }) (ro_Pc D vwCl (tyL ka) H0 [.ref h]) (vp_Si (fun r => r = bI (canN sel T U n))) 0 0 (fun _ => False) := by
  refine Met.ofW (cc := cX0_canBeStepped) (maxL := 1) (ret := (some .boolean)) (by decide) rfl ?_
  intro p e s m args below meth c s₁ B hml hv
  obtain ⟨rfl, hH, hK, hN⟩ := hv
  subst hH
  have hx := B.exec
  have hb := B.bytes
  have hr := B.returns
  have hts : ∀ w ∈ gT, w.before ([.ref h] : List Value).toArray s = true := fun w h => atoms_spec (ws := (.code yX0_canBeStepped cX0_canBeStepped 1 (some .boolean) :: gT)) B.pre w (List.mem_cons_of_mem _ h)
  have hown : s.vm.findClass RX0 = some m.cls := findClass_of_methodNamed B.named
  have hlocks := B.notSynchronized
  have hl := lv_entry ([.ref h]) (n := 1) (Nat.le_of_ble_eq_true rfl)
  rw [lg_entry_eq]
  generalize (lg_sl ([.ref h]) ++ List.replicate (1 - (lg_sl ([.ref h])).length) Slot.unset).toArray = ls at hl ⊢
  have hl : lv_has ls 1 [(0, .ref h)] := hl
  obtain ⟨hCo, hCr, hCs, hCp, hn12, hbd, hfirst⟩ := id hC
  refine lv_aload_n hx hb dX0_canBeStepped_0 rfl (lv_at hl 0 rfl) ?_
  have hal : ∀ i, i < n → (sel i || !true) = true → 0 < T i := fun i hi hs => (hbd i hi).2.2.2.2 (by simpa using hs)
  have hci := cyc_in (sel := fun i => sel i || !true) (T := T) n hal
  refine vp_callSi (va_Run.run (va_runV (As := []) (rest := []) ⟨hx, hb, hml, hown, hts⟩ (c_clocksAreRight l D ka s.heap h rw sm n wi f sel T R U Dn hC) (cw_V 0 hts tb_183 rfl rfl tb_180 tb_4 tb_182 ts_13 (by decide +kernel) ⟨Nat.le_of_ble_eq_true rfl, Nat.le_of_ble_eq_true rfl⟩) (ro_V (ci := 0) hK hN hCo rfl) rfl rfl hl.1 rfl (lv_room (Nat.le_of_ble_eq_true rfl)) dX0_canBeStepped_1 ⟨Nat.zero_le _, Nat.zero_le _⟩)) (fun r er => ?_)
  subst er
  refine b_if_eq (tgt := 23) hx hb dX0_canBeStepped_4 (by decide) (fun hc1 => ?_) (fun hc1 => ?_)
  · refine lv_iconst (v := nI 0) hx hb dX0_canBeStepped_23 (by decide) ?_
    exact W.zret (v := nI 0) (ty := .boolean) hx hb hr (by decide) (fun t ht hW => ⟨_, rfl, by rw [show canN sel T U n = false by simp [canN, hc1]]; rfl, ht⟩) t_nil dX0_canBeStepped_24
  · have ebt : bI true = nI 1 := rfl
    refine lv_aload_n hx hb dX0_canBeStepped_7 rfl (lv_at hl 0 rfl) ?_
    refine lv_iconst (v := nI 1) hx hb dX0_canBeStepped_8 (by decide) ?_
    rw [← ebt]
    refine vp_callSl (va_Run.run (va_runV (As := [.int (bI true)]) (rest := []) ⟨hx, hb, hml, hown, hts⟩ (c_commonCycle l D ka s.heap h rw sm n wi f sel T R U Dn true hC hal) (cw_V 1 hts tb_187 rfl rfl tb_184 tb_4 tb_186 ts_14 (by decide +kernel) ⟨Nat.le_of_ble_eq_true rfl, Nat.le_of_ble_eq_true rfl⟩) (ro_V (ci := 0) hK hN hCo rfl) rfl rfl hl.1 rfl (lv_room (Nat.le_of_ble_eq_true rfl)) dX0_canBeStepped_9 ⟨Nat.zero_le _, Nat.zero_le _⟩)) (fun r er => ?_)
    subst er
    refine lv_ldc2 (v := lN 20000) hx hb hown (hts _ tb_198) dX0_canBeStepped_12 ?_
    refine n_lcmp_gt (tgt := 23) hx hb (by omega) (by omega) dX0_canBeStepped_15 dX0_canBeStepped_16 (by decide) (fun hc => ?_) (fun hc => ?_)
    · refine lv_iconst (v := nI 0) hx hb dX0_canBeStepped_23 (by decide) ?_
      exact W.zret (v := nI 0) (ty := .boolean) hx hb hr (by decide) (fun t ht hW => ⟨_, rfl, by rw [canN_no hc]; rfl, ht⟩) t_nil dX0_canBeStepped_24
    · refine lv_iconst (v := nI 1) hx hb dX0_canBeStepped_19 (by decide) ?_
      refine lv_goto (tgt := 24) hx hb dX0_canBeStepped_20 (by decide) ?_
      exact W.zret (v := nI 1) (ty := .boolean) hx hb hr (by decide) (fun t ht hW => ⟨_, rfl, by rw [canN_yes hc1 hc]; rfl, ht⟩) t_nil dX0_canBeStepped_24
set_option maxHeartbeats 4000000 in
set_option maxRecDepth 100000 in
theorem c_timeFromBegin (l : Launch) (D : va_G) (ka : Nat → ClassId) (H0 : Heap) (h rw sm n : Nat) (wi : Int64) (f : Nat → Nat) (sel : Nat → Bool) (T R U Dn : Nat → Nat) (b : Nat) (hC : ChAt D ka h rw sm n wi f sel T R U Dn H0) (hb2 : b ≤ 20000) : Met l yX0_timeFromBegin (.code yX0_timeFromBegin cX0_timeFromBegin 6 (some .long) :: gT) ({ frames := 1, cells := 0, slots := 0, locals := 23 }) (ro_Pc D vwCl (tyL ka) H0 [.ref h, .long (lN b)]) (vp_Sl (fun r => r = lN (stp sel T R b n - b))) 0 0 (fun _ => False) := by
  refine Met.ofW (cc := cX0_timeFromBegin) (maxL := 6) (ret := (some .long)) (by decide) rfl ?_
  intro p e s m args below meth c s₁ B hml hv
  obtain ⟨rfl, hH, hK, hN⟩ := hv
  subst hH
  have hx := B.exec
  have hb := B.bytes
  have hr := B.returns
  have hts : ∀ w ∈ gT, w.before ([.ref h, .long (lN b)] : List Value).toArray s = true := fun w h => atoms_spec (ws := (.code yX0_timeFromBegin cX0_timeFromBegin 6 (some .long) :: gT)) B.pre w (List.mem_cons_of_mem _ h)
  have hown : s.vm.findClass RX0 = some m.cls := findClass_of_methodNamed B.named
  have hlocks := B.notSynchronized
  have hl := lv_entry ([.ref h, .long (lN b)]) (n := 6) (Nat.le_of_ble_eq_true rfl)
  rw [lg_entry_eq]
  generalize (lg_sl ([.ref h, .long (lN b)]) ++ List.replicate (6 - (lg_sl ([.ref h, .long (lN b)])).length) Slot.unset).toArray = ls at hl ⊢
  have hl : lv_has ls 6 [(0, .ref h), (1, .long (lN b))] := hl
  obtain ⟨hCo, hCr, hCs, hCp, hn12, hbd, hfirst⟩ := id hC
  refine lv_lload_n hx hb dX0_timeFromBegin_0 rfl (lv_at hl 1 rfl) ?_
  refine lv_lstore_n (lv' := [(3, .long (lN b)), (0, .ref h), (1, .long (lN b))]) hx hb dX0_timeFromBegin_1 rfl hl (by decide) rfl (fun ls hl => ?_)
  refine lv_iconst (v := nI 0) hx hb dX0_timeFromBegin_2 (by decide) ?_
  refine lv_istore (lv' := [(5, .int (nI 0)), (3, .long (lN b)), (0, .ref h), (1, .long (lN b))]) hx hb dX0_timeFromBegin_3 hl (by decide) rfl (fun ls hl => ?_)
  have loop : ∀ (fu i : Nat), i ≤ n → n < i + fu → ∀ ls : Array Slot, lv_has ls 6 [(5, .int (nI i)), (3, .long (lN (stp sel T R b i))), (1, .long (lN b)), (0, .ref h)] → W p l e (headSpec (.code yX0_timeFromBegin cX0_timeFromBegin 6 (some .long) :: gT) ({ frames := 1, cells := 0, slots := 0, locals := 23 })).room s m ([.ref h, .long (lN b)] : List Value).toArray below meth c s.heap [] 0 0 (MQ below (vp_Sl (fun r => r = lN (stp sel T R b n - b))) ([.ref h, .long (lN b)] : List Value).toArray s 0 0 (fun _ => False)) (F0 m 5 ls []) := by
    intro fu
    induction fu with
    | zero => intro i h1 h2; exact absurd h2 (by omega)
    | succ fu ih =>
      intro i hi hf  ls hl
      refine lv_iload hx hb dX0_timeFromBegin_5 (lv_at hl 0 rfl) ?_
      refine lv_aload_n hx hb dX0_timeFromBegin_7 rfl (lv_at hl 3 rfl) ?_
      refine g_get (cl := vwCl) (ci := 0) (v := .int (nI n)) hx hb hts inX0 hown hK hCo rfl 2 (by decide) (hts _ tb_77) rfl dX0_timeFromBegin_8 ?_
      refine n_icmp_ge (tgt := 69) hx hb (by omega) (by omega) dX0_timeFromBegin_11 (by decide) (fun hc => ?_) (fun hc => ?_)
      · obtain rfl : i = n := by omega
        have hge := stp_ge (R := R) (b := b) i (fun j hj hs => (hbd j hj).2.2.2.2 hs)
        refine lv_lload_n hx hb dX0_timeFromBegin_69 rfl (lv_at hl 1 rfl) ?_
        refine lv_lload_n hx hb dX0_timeFromBegin_70 rfl (lv_at hl 2 rfl) ?_
        refine n_lsub hx hb (by omega) dX0_timeFromBegin_71 ?_
        exact W.lret (v := lN ((stp sel T R b i) - b)) hx hb hr (fun t ht hW => ⟨_, rfl, rfl, ht⟩) t_nil dX0_timeFromBegin_72
      · have hlt : i < n := hc
        have hB := hbd i hlt
        have hle := stp_le (sel := sel) (T := T) (R := R) (b := b) (B := 20000) i (fun j hj => ⟨(hbd j (by omega)).1, (hbd j (by omega)).2.1, fun hs => (hbd j (by omega)).2.2.2.2 hs⟩)
        have hli : i * (2 * 20000) ≤ 12 * (2 * 20000) := Nat.mul_le_mul_right _ (by omega)
        refine lv_aload_n hx hb dX0_timeFromBegin_14 rfl (lv_at hl 3 rfl) ?_
        refine g_get (cl := vwCl) (ci := 0) (v := .ref sm) hx hb hts inX0 hown hK hCo rfl 1 (by decide) (hts _ tb_76) rfl dX0_timeFromBegin_15 ?_
        refine lv_iload hx hb dX0_timeFromBegin_18 (lv_at hl 0 rfl) ?_
        refine g_zaldv (v := bI (sel i)) hx hb hK 2 hCs rfl (by omega) (by decide) (if_pos (by omega)) dX0_timeFromBegin_20 ?_
        refine b_if_eq (tgt := 50) hx hb dX0_timeFromBegin_21 (by decide) (fun hc => ?_) (fun hc => ?_)
        · refine lv_lload_n hx hb dX0_timeFromBegin_50 rfl (lv_at hl 1 rfl) ?_
          refine lv_aload_n hx hb dX0_timeFromBegin_51 rfl (lv_at hl 3 rfl) ?_
          refine g_get (cl := vwCl) (ci := 0) (v := .ref rw) hx hb hts inX0 hown hK hCo rfl 0 (by decide) (hts _ tb_75) rfl dX0_timeFromBegin_52 ?_
          refine lv_iload hx hb dX0_timeFromBegin_55 (lv_at hl 0 rfl) ?_
          refine g_aldr hx hb hK 0 hCr rfl (by omega) (by decide) (if_pos (by omega)) dX0_timeFromBegin_57 ?_
          refine g_getN (cl := vwCl) (ci := 1) (v := .long (lN (R i))) hx hb hts inX1 hown hK (hCp i hlt) rfl 1 (by decide) (va_Nw.use rfl (hN _ tn_49 rfl)) rfl dX0_timeFromBegin_58 ?_
          refine n_ladd hx hb dX0_timeFromBegin_61 ?_
          refine lv_lstore_n (lv' := [(3, .long (lN ((stp sel T R b i) + (R i)))), (5, .int (nI i)), (1, .long (lN b)), (0, .ref h)]) hx hb dX0_timeFromBegin_62 rfl hl (by decide) rfl (fun ls hl => ?_)
          refine lv_iinc (v := nI (i + 1)) (lv' := [(5, .int (nI (i + 1))), (3, .long (lN ((stp sel T R b i) + (R i)))), (1, .long (lN b)), (0, .ref h)]) hx hb dX0_timeFromBegin_63 hl (k := 1) rfl (nI_add i 1) (by decide) rfl (fun ls hl => ?_)
          refine lv_goto (tgt := 5) hx hb dX0_timeFromBegin_66 (by decide) ?_
          have e1 : stp sel T R b (i + 1) = stp sel T R b i + R i := by simp [stp, hc]
          exact ih (i + 1) (by omega) (by omega) ls (by rw [e1]; exact lv_sub hl [0, 1, 2, 3] rfl)
        · have hTp := hB.2.2.2.2 hc
          refine lv_lload_n hx hb dX0_timeFromBegin_24 rfl (lv_at hl 1 rfl) ?_
          refine lv_aload_n hx hb dX0_timeFromBegin_25 rfl (lv_at hl 3 rfl) ?_
          refine g_get (cl := vwCl) (ci := 0) (v := .ref rw) hx hb hts inX0 hown hK hCo rfl 0 (by decide) (hts _ tb_75) rfl dX0_timeFromBegin_26 ?_
          refine lv_iload hx hb dX0_timeFromBegin_29 (lv_at hl 0 rfl) ?_
          refine g_aldr hx hb hK 0 hCr rfl (by omega) (by decide) (if_pos (by omega)) dX0_timeFromBegin_31 ?_
          refine g_getN (cl := vwCl) (ci := 1) (v := .long (lN (T i))) hx hb hts inX1 hown hK (hCp i hlt) rfl 0 (by decide) (va_Nw.use rfl (hN _ tn_47 rfl)) rfl dX0_timeFromBegin_32 ?_
          refine vp_callSl (va_Run.run (va_runSN (As := [.long (lN (stp sel T R b i)), .long (lN (T i))]) (rest := []) ⟨hx, hb, hml, hown, hts⟩ (c_units l D ka s.heap (stp sel T R b i) (T i) hTp (by omega)) (cw_SN 2 hts tb_130 rfl rfl (hN _ tn_207 rfl) tb_1 tb_129 (by decide +kernel) ⟨Nat.le_of_ble_eq_true rfl, Nat.le_of_ble_eq_true rfl⟩) (ro_S hK hN) rfl rfl hl.1 rfl (lv_room (Nat.le_of_ble_eq_true rfl)) dX0_timeFromBegin_35 ⟨Nat.zero_le _, Nat.zero_le _⟩)) (fun r er => ?_)
          subst er
          refine lv_aload_n hx hb dX0_timeFromBegin_38 rfl (lv_at hl 3 rfl) ?_
          refine g_get (cl := vwCl) (ci := 0) (v := .ref rw) hx hb hts inX0 hown hK hCo rfl 0 (by decide) (hts _ tb_75) rfl dX0_timeFromBegin_39 ?_
          refine lv_iload hx hb dX0_timeFromBegin_42 (lv_at hl 0 rfl) ?_
          refine g_aldr hx hb hK 0 hCr rfl (by omega) (by decide) (if_pos (by omega)) dX0_timeFromBegin_44 ?_
          refine g_getN (cl := vwCl) (ci := 1) (v := .long (lN (T i))) hx hb hts inX1 hown hK (hCp i hlt) rfl 0 (by decide) (va_Nw.use rfl (hN _ tn_47 rfl)) rfl dX0_timeFromBegin_45 ?_
          refine n_lmul hx hb dX0_timeFromBegin_48 ?_
          refine lv_lstore_n (lv' := [(3, .long (lN (((stp sel T R b i + T i - 1) / T i) * (T i)))), (5, .int (nI i)), (1, .long (lN b)), (0, .ref h)]) hx hb dX0_timeFromBegin_49 rfl hl (by decide) rfl (fun ls hl => ?_)
          refine lv_lload_n hx hb dX0_timeFromBegin_50 rfl (lv_at hl 0 rfl) ?_
          refine lv_aload_n hx hb dX0_timeFromBegin_51 rfl (lv_at hl 3 rfl) ?_
          refine g_get (cl := vwCl) (ci := 0) (v := .ref rw) hx hb hts inX0 hown hK hCo rfl 0 (by decide) (hts _ tb_75) rfl dX0_timeFromBegin_52 ?_
          refine lv_iload hx hb dX0_timeFromBegin_55 (lv_at hl 1 rfl) ?_
          refine g_aldr hx hb hK 0 hCr rfl (by omega) (by decide) (if_pos (by omega)) dX0_timeFromBegin_57 ?_
          refine g_getN (cl := vwCl) (ci := 1) (v := .long (lN (R i))) hx hb hts inX1 hown hK (hCp i hlt) rfl 1 (by decide) (va_Nw.use rfl (hN _ tn_49 rfl)) rfl dX0_timeFromBegin_58 ?_
          refine n_ladd hx hb dX0_timeFromBegin_61 ?_
          refine lv_lstore_n (lv' := [(3, .long (lN ((((stp sel T R b i + T i - 1) / T i) * (T i)) + (R i)))), (5, .int (nI i)), (1, .long (lN b)), (0, .ref h)]) hx hb dX0_timeFromBegin_62 rfl hl (by decide) rfl (fun ls hl => ?_)
          refine lv_iinc (v := nI (i + 1)) (lv' := [(5, .int (nI (i + 1))), (3, .long (lN ((((stp sel T R b i + T i - 1) / T i) * (T i)) + (R i)))), (1, .long (lN b)), (0, .ref h)]) hx hb dX0_timeFromBegin_63 hl (k := 1) rfl (nI_add i 1) (by decide) rfl (fun ls hl => ?_)
          refine lv_goto (tgt := 5) hx hb dX0_timeFromBegin_66 (by decide) ?_
          have e1 : stp sel T R b (i + 1) = (stp sel T R b i + T i - 1) / T i * T i + R i := by simp [stp, nx, hc]
          exact ih (i + 1) (by omega) (by omega) ls (by rw [e1]; exact lv_sub hl [0, 1, 2, 3] rfl)
  exact loop (n + 1) 0 (by omega) (by omega) ls (lv_sub hl [0, 1, 3, 2] rfl)
set_option maxHeartbeats 4000000 in
set_option maxRecDepth 100000 in
theorem c_longestByStepping (l : Launch) (D : va_G) (ka : Nat → ClassId) (H0 : Heap) (h rw sm n : Nat) (wi : Int64) (f : Nat → Nat) (sel : Nat → Bool) (T R U Dn : Nat → Nat) (hC : ChAt D ka h rw sm n wi f sel T R U Dn H0) (hn0 : 0 < n) (hcy : cyc (fun i => sel i || !true) T n ≤ 20000) : Met l yX0_longestByStepping (.code yX0_longestByStepping cX0_longestByStepping 9 (some .long) :: gT) ({ frames := 3, cells := 0, slots := 0, locals := 79 }) (ro_Pc D vwCl (tyL ka) H0 [.ref h]) (vp_Sl (fun r => r = lN (T 0 - 1 + mxN (fun k => stp sel T R (k * T 0) n - k * T 0) (cyc (fun i => sel i || !true) T n / T 0)))) 0 0 (fun _ => False) := by
  refine Met.ofW (cc := cX0_longestByStepping) (maxL := 9) (ret := (some .long)) (by decide) rfl ?_
  intro p e s m args below meth c s₁ B hml hv
  obtain ⟨rfl, hH, hK, hN⟩ := hv
  subst hH
  have hx := B.exec
  have hb := B.bytes
  have hr := B.returns
  have hts : ∀ w ∈ gT, w.before ([.ref h] : List Value).toArray s = true := fun w h => atoms_spec (ws := (.code yX0_longestByStepping cX0_longestByStepping 9 (some .long) :: gT)) B.pre w (List.mem_cons_of_mem _ h)
  have hown : s.vm.findClass RX0 = some m.cls := findClass_of_methodNamed B.named
  have hlocks := B.notSynchronized
  have hl := lv_entry ([.ref h]) (n := 9) (Nat.le_of_ble_eq_true rfl)
  rw [lg_entry_eq]
  generalize (lg_sl ([.ref h]) ++ List.replicate (9 - (lg_sl ([.ref h])).length) Slot.unset).toArray = ls at hl ⊢
  have hl : lv_has ls 9 [(0, .ref h)] := hl
  obtain ⟨hCo, hCr, hCs, hCp, hn12, hbd, hfirst⟩ := id hC
  have hal : ∀ i, i < n → (sel i || !true) = true → 0 < T i := fun i hi hs => (hbd i hi).2.2.2.2 (by simpa using hs)
  have hT0 : 0 < T 0 := (hbd 0 hn0).2.2.2.2 (hfirst hn0)
  have hT1 : T 0 ≤ 20000 := (hbd 0 hn0).1
  refine lv_aload_n hx hb dX0_longestByStepping_0 rfl (lv_at hl 0 rfl) ?_
  refine g_get (cl := vwCl) (ci := 0) (v := .int (nI n)) hx hb hts inX0 hown hK hCo rfl 2 (by decide) (hts _ tb_77) rfl dX0_longestByStepping_1 ?_
  refine n_if_eq (tgt := 21) hx hb (by omega) dX0_longestByStepping_4 (by decide) (fun hc => ?_) (fun hc => ?_)
  · exact absurd hc (by omega)
  · refine lv_aload_n hx hb dX0_longestByStepping_7 rfl (lv_at hl 0 rfl) ?_
    refine g_get (cl := vwCl) (ci := 0) (v := .ref rw) hx hb hts inX0 hown hK hCo rfl 0 (by decide) (hts _ tb_75) rfl dX0_longestByStepping_8 ?_
    refine lv_iconst (v := nI 0) hx hb dX0_longestByStepping_11 (by decide) ?_
    refine g_aldr hx hb hK 0 hCr rfl (by omega) (by decide) (if_pos (by omega)) dX0_longestByStepping_12 ?_
    refine g_getN (cl := vwCl) (ci := 1) (v := .long (lN (T 0))) hx hb hts inX1 hown hK (hCp 0 hn0) rfl 0 (by decide) (va_Nw.use rfl (hN _ tn_47 rfl)) rfl dX0_longestByStepping_13 ?_
    refine lv_lconst (v := lN 1) hx hb dX0_longestByStepping_16 rfl ?_
    refine n_lcmp_ge (tgt := 23) hx hb (by omega) (by omega) dX0_longestByStepping_17 dX0_longestByStepping_18 (by decide) (fun hc => ?_) (fun hc => ?_)
    · refine lv_aload_n hx hb dX0_longestByStepping_23 rfl (lv_at hl 0 rfl) ?_
      refine g_get (cl := vwCl) (ci := 0) (v := .ref rw) hx hb hts inX0 hown hK hCo rfl 0 (by decide) (hts _ tb_75) rfl dX0_longestByStepping_24 ?_
      refine lv_iconst (v := nI 0) hx hb dX0_longestByStepping_27 (by decide) ?_
      refine g_aldr hx hb hK 0 hCr rfl (by omega) (by decide) (if_pos (by omega)) dX0_longestByStepping_28 ?_
      refine g_getN (cl := vwCl) (ci := 1) (v := .long (lN (T 0))) hx hb hts inX1 hown hK (hCp 0 hn0) rfl 0 (by decide) (va_Nw.use rfl (hN _ tn_47 rfl)) rfl dX0_longestByStepping_29 ?_
      refine lv_lstore_n (lv' := [(1, .long (lN (T 0))), (0, .ref h)]) hx hb dX0_longestByStepping_32 rfl hl (by decide) rfl (fun ls hl => ?_)
      refine lv_aload_n hx hb dX0_longestByStepping_33 rfl (lv_at hl 1 rfl) ?_
      refine lv_iconst (v := nI 1) hx hb dX0_longestByStepping_34 (by decide) ?_
      have ebt : bI true = nI 1 := rfl
      rw [← ebt]
      refine vp_callSl (va_Run.run (va_runV (As := [.int (bI true)]) (rest := []) ⟨hx, hb, hml, hown, hts⟩ (c_commonCycle l D ka s.heap h rw sm n wi f sel T R U Dn true hC hal) (cw_V 1 hts tb_187 rfl rfl tb_184 tb_4 tb_186 ts_14 (by decide +kernel) ⟨Nat.le_of_ble_eq_true rfl, Nat.le_of_ble_eq_true rfl⟩) (ro_V (ci := 0) hK hN hCo rfl) rfl rfl hl.1 rfl (lv_room (Nat.le_of_ble_eq_true rfl)) dX0_longestByStepping_35 ⟨Nat.zero_le _, Nat.zero_le _⟩)) (fun r er => ?_)
      subst er
      have hqd : cyc (fun i => sel i || !true) T n / T 0 ≤ cyc (fun i => sel i || !true) T n := Nat.div_le_self _ _
      refine lv_lload_n hx hb dX0_longestByStepping_38 rfl (lv_at hl 0 rfl) ?_
      refine n_ldiv hx hb (by omega) (by omega) (by omega) dX0_longestByStepping_39 ?_
      refine lv_lstore_n (lv' := [(3, .long (lN ((cyc (fun i => sel i || !true) T n) / (T 0)))), (1, .long (lN (T 0))), (0, .ref h)]) hx hb dX0_longestByStepping_40 rfl hl (by decide) rfl (fun ls hl => ?_)
      refine lv_lconst (v := lN 0) hx hb dX0_longestByStepping_41 rfl ?_
      refine lv_lstore (lv' := [(5, .long (lN 0)), (3, .long (lN ((cyc (fun i => sel i || !true) T n) / (T 0)))), (1, .long (lN (T 0))), (0, .ref h)]) hx hb dX0_longestByStepping_42 hl (by decide) rfl (fun ls hl => ?_)
      refine lv_lconst (v := lN 0) hx hb dX0_longestByStepping_44 rfl ?_
      refine lv_lstore (lv' := [(7, .long (lN 0)), (5, .long (lN 0)), (3, .long (lN ((cyc (fun i => sel i || !true) T n) / (T 0)))), (1, .long (lN (T 0))), (0, .ref h)]) hx hb dX0_longestByStepping_45 hl (by decide) rfl (fun ls hl => ?_)
      generalize hQ : cyc (fun i => sel i || !true) T n / T 0 = Q at hqd hl ⊢
      have hkb : ∀ k, k < Q → k * T 0 ≤ 20000 := fun k hk => by
        have h1 : k * T 0 ≤ Q * T 0 := Nat.mul_le_mul_right _ (by omega)
        have h2 : Q * T 0 ≤ cyc (fun i => sel i || !true) T n := by rw [← hQ]; exact Nat.div_mul_le_self _ _
        omega
      have hgb : ∀ k, k < Q → (fun k => stp sel T R (k * T 0) n - k * T 0) k ≤ 20000 + 12 * 40000 := fun k hk => by
        have h1 := stp_le (sel := sel) (T := T) (R := R) (b := k * T 0) (B := 20000) n (fun j hj => ⟨(hbd j hj).1, (hbd j hj).2.1, fun hs => (hbd j hj).2.2.2.2 hs⟩)
        have h2 := hkb k hk
        have h3 : n * (2 * 20000) ≤ 12 * (2 * 20000) := Nat.mul_le_mul_right _ hn12
        show stp sel T R (k * T 0) n - k * T 0 ≤ _
        omega
      have loop : ∀ (fu k : Nat), k ≤ Q → Q < k + fu → ∀ ls : Array Slot, lv_has ls 9 [(7, .long (lN k)), (5, .long (lN (mxN (fun k => stp sel T R (k * T 0) n - k * T 0) k))), (3, .long (lN Q)), (1, .long (lN (T 0))), (0, .ref h)] → W p l e (headSpec (.code yX0_longestByStepping cX0_longestByStepping 9 (some .long) :: gT) ({ frames := 3, cells := 0, slots := 0, locals := 79 })).room s m ([.ref h] : List Value).toArray below meth c s.heap [] 0 0 (MQ below (vp_Sl (fun r => r = lN (T 0 - 1 + mxN (fun k => stp sel T R (k * T 0) n - k * T 0) (Q)))) ([.ref h] : List Value).toArray s 0 0 (fun _ => False)) (F0 m 47 ls []) := by
        intro fu
        induction fu with
        | zero => intro k h1 h2; exact absurd h2 (by omega)
        | succ fu ih =>
          intro k hk hf ls hl
          have hmb := mxN_le (f := (fun k => stp sel T R (k * T 0) n - k * T 0)) (B := 20000 + 12 * 40000) k (fun j hj => hgb j (by omega))
          refine lv_lload hx hb dX0_longestByStepping_47 (lv_at hl 0 rfl) ?_
          refine lv_lload_n hx hb dX0_longestByStepping_49 rfl (lv_at hl 2 rfl) ?_
          refine n_lcmp_ge (tgt := 78) hx hb (by omega) (by omega) dX0_longestByStepping_50 dX0_longestByStepping_51 (by decide) (fun hc => ?_) (fun hc => ?_)
          · obtain rfl : k = Q := by omega
            refine lv_lload_n hx hb dX0_longestByStepping_78 rfl (lv_at hl 3 rfl) ?_
            refine lv_lconst (v := lN 1) hx hb dX0_longestByStepping_79 rfl ?_
            refine n_lsub hx hb (by omega) dX0_longestByStepping_80 ?_
            refine lv_lload hx hb dX0_longestByStepping_81 (lv_at hl 1 rfl) ?_
            refine n_ladd hx hb dX0_longestByStepping_83 ?_
            exact W.lret (v := lN (((T 0) - 1) + (mxN (fun k => stp sel T R (k * T 0) n - k * T 0) k))) hx hb hr (fun t ht hW => ⟨_, rfl, rfl, ht⟩) t_nil dX0_longestByStepping_84
          · have hk1 := hkb k hc
            have hk2 := hgb k hc
            have hk3 : (fun k => stp sel T R (k * T 0) n - k * T 0) k = stp sel T R (k * T 0) n - k * T 0 := rfl
            refine lv_lload hx hb dX0_longestByStepping_54 (lv_at hl 1 rfl) ?_
            refine lv_aload_n hx hb dX0_longestByStepping_56 rfl (lv_at hl 4 rfl) ?_
            refine lv_lload hx hb dX0_longestByStepping_57 (lv_at hl 0 rfl) ?_
            refine lv_lload_n hx hb dX0_longestByStepping_59 rfl (lv_at hl 3 rfl) ?_
            refine n_lmul hx hb dX0_longestByStepping_60 ?_
            refine vp_callSl (va_Run.run (va_runV (As := [.long (lN (k * (T 0)))]) (rest := [.long (lN (mxN (fun k => stp sel T R (k * T 0) n - k * T 0) k))]) ⟨hx, hb, hml, hown, hts⟩ (c_timeFromBegin l D ka s.heap h rw sm n wi f sel T R U Dn (k * T 0) hC hk1) (cw_V 1 hts tb_206 rfl rfl tb_203 tb_4 tb_205 ts_16 (by decide +kernel) ⟨Nat.le_of_ble_eq_true rfl, Nat.le_of_ble_eq_true rfl⟩) (ro_V (ci := 0) hK hN hCo rfl) rfl rfl hl.1 rfl (lv_room (Nat.le_of_ble_eq_true rfl)) dX0_longestByStepping_61 ⟨Nat.zero_le _, Nat.zero_le _⟩)) (fun r er => ?_)
            subst er
            refine n_lmax hx hb (by rw [hml, hl.1]) hown (hts _ tb_208) (hts _ tb_209) (hts _ tb_9) (hts _ tb_210) (Nat.le_of_ble_eq_true rfl) (Nat.le_of_ble_eq_true rfl) (Nat.zero_le _) (Nat.zero_le _) (by omega) (by omega) dX0_longestByStepping_64 ?_
            refine lv_lstore (lv' := [(5, .long (lN (max (mxN (fun k => stp sel T R (k * T 0) n - k * T 0) k) (stp sel T R (k * T 0) n - k * T 0)))), (7, .long (lN k)), (3, .long (lN Q)), (1, .long (lN (T 0))), (0, .ref h)]) hx hb dX0_longestByStepping_67 hl (by decide) rfl (fun ls hl => ?_)
            refine lv_lload hx hb dX0_longestByStepping_69 (lv_at hl 1 rfl) ?_
            refine lv_lconst (v := lN 1) hx hb dX0_longestByStepping_71 rfl ?_
            refine n_ladd hx hb dX0_longestByStepping_72 ?_
            refine lv_lstore (lv' := [(7, .long (lN (k + 1))), (5, .long (lN (max (mxN (fun k => stp sel T R (k * T 0) n - k * T 0) k) (stp sel T R (k * T 0) n - k * T 0)))), (3, .long (lN Q)), (1, .long (lN (T 0))), (0, .ref h)]) hx hb dX0_longestByStepping_73 hl (by decide) rfl (fun ls hl => ?_)
            refine lv_goto (tgt := 47) hx hb dX0_longestByStepping_75 (by decide) ?_
            exact ih (k + 1) (by omega) (by omega) ls (lv_sub hl [0, 1, 2, 3, 4] rfl)
      exact loop (Q + 1) 0 (by omega) (by omega) ls (lv_sub hl [0, 1, 2, 3, 4] rfl)
    · exact absurd hc (by omega)
set_option maxHeartbeats 4000000 in
set_option maxRecDepth 100000 in
theorem c_holds (l : Launch) (D : va_G) (ka : Nat → ClassId) (H0 : Heap) (h rw sm n : Nat) (wi : Int64) (f : Nat → Nat) (sel : Nat → Bool) (T R U Dn : Nat → Nat) (a : Nat) (hC : ChAt D ka h rw sm n wi f sel T R U Dn H0) : Met l yX0_holds (.code yX0_holds cX0_holds 3 (some .boolean) :: gT) ({ frames := 0, cells := 0, slots := 0, locals := 0 }) (ro_Pc D vwCl (tyL ka) H0 [.ref h, .ref a]) (vp_Si (fun r => r = bI (anyN (fun i => f i == a) n))) 0 0 (fun _ => False) := by
  refine Met.ofW (cc := cX0_holds) (maxL := 3) (ret := (some .boolean)) (by decide) rfl ?_
  intro p e s m args below meth c s₁ B hml hv
  obtain ⟨rfl, hH, hK, hN⟩ := hv
  subst hH
  have hx := B.exec
  have hb := B.bytes
  have hr := B.returns
  have hts : ∀ w ∈ gT, w.before ([.ref h, .ref a] : List Value).toArray s = true := fun w h => atoms_spec (ws := (.code yX0_holds cX0_holds 3 (some .boolean) :: gT)) B.pre w (List.mem_cons_of_mem _ h)
  have hown : s.vm.findClass RX0 = some m.cls := findClass_of_methodNamed B.named
  have hlocks := B.notSynchronized
  have hl := lv_entry ([.ref h, .ref a]) (n := 3) (Nat.le_of_ble_eq_true rfl)
  rw [lg_entry_eq]
  generalize (lg_sl ([.ref h, .ref a]) ++ List.replicate (3 - (lg_sl ([.ref h, .ref a])).length) Slot.unset).toArray = ls at hl ⊢
  have hl : lv_has ls 3 [(0, .ref h), (1, .ref a)] := hl
  obtain ⟨hCo, hCr, hCs, hCp, hn12, hbd, hfirst⟩ := id hC
  refine lv_iconst (v := nI 0) hx hb dX0_holds_0 (by decide) ?_
  refine lv_istore_n (lv' := [(2, .int (nI 0)), (0, .ref h), (1, .ref a)]) hx hb dX0_holds_1 rfl hl (by decide) rfl (fun ls hl => ?_)
  have loop : ∀ (fu i : Nat), i ≤ n → n < i + fu → anyN (fun i => f i == a) i = false → ∀ ls : Array Slot, lv_has ls 3 [(2, .int (nI i)), (1, .ref a), (0, .ref h)] → W p l e (headSpec (.code yX0_holds cX0_holds 3 (some .boolean) :: gT) ({ frames := 0, cells := 0, slots := 0, locals := 0 })).room s m ([.ref h, .ref a] : List Value).toArray below meth c s.heap [] 0 0 (MQ below (vp_Si (fun r => r = bI (anyN (fun i => f i == a) n))) ([.ref h, .ref a] : List Value).toArray s 0 0 (fun _ => False)) (F0 m 2 ls []) := by
    intro fu
    induction fu with
    | zero => intro i h1 h2; exact absurd h2 (by omega)
    | succ fu ih =>
      intro i hi hf hg0 ls hl
      refine lv_iload_n hx hb dX0_holds_2 rfl (lv_at hl 0 rfl) ?_
      refine lv_aload_n hx hb dX0_holds_3 rfl (lv_at hl 2 rfl) ?_
      refine g_get (cl := vwCl) (ci := 0) (v := .int (nI n)) hx hb hts inX0 hown hK hCo rfl 2 (by decide) (hts _ tb_77) rfl dX0_holds_4 ?_
      refine n_icmp_ge (tgt := 28) hx hb (by omega) (by omega) dX0_holds_7 (by decide) (fun hc => ?_) (fun hc => ?_)
      · obtain rfl : i = n := by omega
        refine lv_iconst (v := nI 0) hx hb dX0_holds_28 (by decide) ?_
        exact W.zret (v := nI 0) (ty := .boolean) hx hb hr (by decide) (fun t ht hW => ⟨_, rfl, by rw [hg0]; rfl, ht⟩) t_nil dX0_holds_29
      · have hlt : i < n := hc
        refine lv_aload_n hx hb dX0_holds_10 rfl (lv_at hl 2 rfl) ?_
        refine g_get (cl := vwCl) (ci := 0) (v := .ref rw) hx hb hts inX0 hown hK hCo rfl 0 (by decide) (hts _ tb_75) rfl dX0_holds_11 ?_
        refine lv_iload_n hx hb dX0_holds_14 rfl (lv_at hl 0 rfl) ?_
        refine g_aldr hx hb hK 0 hCr rfl (by omega) (by decide) (if_pos (by omega)) dX0_holds_15 ?_
        refine lv_aload_n hx hb dX0_holds_16 rfl (lv_at hl 1 rfl) ?_
        refine lv_acmp_ne (rx := some (f i)) (ry := some a) (tgt := 22) hx hb dX0_holds_17 (by decide) (fun hc2 => ?_) (fun hc2 => ?_)
        · refine lv_iinc (v := nI (i + 1)) (lv' := [(2, .int (nI (i + 1))), (1, .ref a), (0, .ref h)]) hx hb dX0_holds_22 hl (k := 0) rfl (nI_add i 1) (by decide) rfl (fun ls hl => ?_)
          refine lv_goto (tgt := 2) hx hb dX0_holds_25 (by decide) ?_
          exact ih (i + 1) (by omega) (by omega) (anyN_next hg0 (by simpa using hc2)) ls (lv_sub hl [0, 1, 2] rfl)
        · refine lv_iconst (v := nI 1) hx hb dX0_holds_20 (by decide) ?_
          exact W.zret (v := nI 1) (ty := .boolean) hx hb hr (by decide) (fun t ht hW => ⟨_, rfl, by rw [anyN_hit hlt (by simpa using hc2)]; rfl, ht⟩) t_nil dX0_holds_21
  exact loop (n + 1) 0 (by omega) (by omega) rfl ls (lv_sub hl [0, 2, 1] rfl)
