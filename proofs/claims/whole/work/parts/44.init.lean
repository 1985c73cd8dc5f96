set_option maxHeartbeats 4000000 in
set_option maxRecDepth 100000 in
theorem k_PieceInit (l : Launch) (D : va_G) (ka : Nat → ClassId) (H0 : Heap) (q T R : Nat) (hq : va_at D vwCl (q, .inr (1, [.long 0, .long 0, .long 0, .long 0])) H0) : Met l yX1_init (.code yX1_init cX1_init 5 none :: gT) ({ frames := 1, cells := 0, slots := 0, locals := 12 }) (ro_Pc D vwCl (tyL ka) H0 [.ref q, .long (lN T), .long (lN R)]) (va_Qv (fun (u : Unit) => True) (fun (u : Unit) t => va_at D vwCl (q, pcE T R 0 1) t.heap) (fun z => z = q)) 0 0 (fun z => z = q) := by
  refine Met.ofW (cc := cX1_init) (maxL := 5) (ret := none) (by decide) rfl ?_
  intro p e s m args below meth c s₁ B hml hv
  obtain ⟨rfl, hH, hK, hN⟩ := hv
  subst hH
  have hx := B.exec
  have hb := B.bytes
  have hr := B.returns
  have hts : ∀ w ∈ gT, w.before ([.ref q, .long (lN T), .long (lN R)] : List Value).toArray s = true := fun w h => atoms_spec (ws := (.code yX1_init cX1_init 5 none :: gT)) B.pre w (List.mem_cons_of_mem _ h)
  have hown : s.vm.findClass RX1 = some m.cls := findClass_of_methodNamed B.named
  have hlocks := B.notSynchronized
  have hl := lv_entry ([.ref q, .long (lN T), .long (lN R)]) (n := 5) (Nat.le_of_ble_eq_true rfl)
  rw [lg_entry_eq]
  generalize (lg_sl ([.ref q, .long (lN T), .long (lN R)]) ++ List.replicate (5 - (lg_sl ([.ref q, .long (lN T), .long (lN R)])).length) Slot.unset).toArray = ls at hl ⊢
  have hin : meth.name = "<init>" := (name_of_methodNamed B.named B.method).1
  have hl : lv_has ls 5 [(0, .ref q), (1, .long (lN T)), (3, .long (lN R))] := hl
  have hP : va_P D vwCl [(q, .inr (1, [.long 0, .long 0, .long 0, .long 0]))] s.heap := va_one hq
  have hD : va_D (fun z => z = q) [(q, .inr (1, [.long 0, .long 0, .long 0, .long 0]))] := va_D_of (by simp) (by simp)
  have hS : va_S (fun z => z = q) s.heap s.heap [] := va_S.rf
  skip
  refine lv_aload_n hx hb dX1_init_0 rfl (lv_at hl 0 rfl) ?_
  refine W.objInit hx hb hown (hts _ tb_44) (hts _ tb_16) (hts _ tb_17) rfl (by rw [hml]; exact hl.1) rfl dX1_init_1 (Nat.le_of_ble_eq_true rfl) (Nat.le_of_ble_eq_true rfl) ?_
  refine W.eq (g2 := F0 m 4 ls []) rfl ?_
  refine lv_aload_n hx hb dX1_init_4 rfl (lv_at hl 0 rfl) ?_
  refine lv_lload_n hx hb dX1_init_5 rfl (lv_at hl 1 rfl) ?_
  refine va_putF (D := D) (cl := vwCl) (ci := 1) (v := .long (lN T)) (ty := .long) (C := RX1) (T := TX1) (N := 4) hx hb hts inX1 tyX1 tyX1_ok nmX1 hown hK hP hD hS 0 rfl rfl 0 (by decide) (hts _ tb_45) (fun _ h9 => h9) rfl hin rfl (by decide +kernel) rfl rfl (Nat.le_of_ble_eq_true rfl) dX1_init_6 (fun H locs hP hD hS => ?_)
  have hP : va_P D vwCl [(q, .inr (1, [.long (lN T), .long 0, .long 0, .long 0]))] H := hP
  have hD : va_D (fun z => z = q) [(q, .inr (1, [.long (lN T), .long 0, .long 0, .long 0]))] := hD
  refine lv_aload_n hx hb dX1_init_9 rfl (lv_at hl 0 rfl) ?_
  refine lv_lload_n hx hb dX1_init_10 rfl (lv_at hl 2 rfl) ?_
  refine va_putF (D := D) (cl := vwCl) (ci := 1) (v := .long (lN R)) (ty := .long) (C := RX1) (T := TX1) (N := 4) hx hb hts inX1 tyX1 tyX1_ok nmX1 hown hK hP hD hS 0 rfl rfl 1 (by decide) (hts _ tb_48) (fun _ h9 => h9) rfl hin rfl (by decide +kernel) rfl rfl (Nat.le_of_ble_eq_true rfl) dX1_init_11 (fun H locs hP hD hS => ?_)
  have hP : va_P D vwCl [(q, .inr (1, [.long (lN T), .long (lN R), .long 0, .long 0]))] H := hP
  have hD : va_D (fun z => z = q) [(q, .inr (1, [.long (lN T), .long (lN R), .long 0, .long 0]))] := hD
  refine lv_aload_n hx hb dX1_init_14 rfl (lv_at hl 0 rfl) ?_
  refine lv_lconst (v := lN 0) hx hb dX1_init_15 rfl ?_
  refine va_put (D := D) (cl := vwCl) (ci := 1) (v := .long (lN 0)) (ty := .long) (C := RX1) (T := TX1) (N := 4) hx hb hts inX1 tyX1 tyX1_ok nmX1 hown hK hP hD hS 0 rfl rfl 2 (by decide) (hts _ tb_50) (fun _ h9 => h9) rfl (by decide +kernel) rfl rfl (Nat.le_of_ble_eq_true rfl) dX1_init_16 (fun H locs hP hD hS => ?_)
  have hP : va_P D vwCl [(q, .inr (1, [.long (lN T), .long (lN R), .long (lN 0), .long 0]))] H := hP
  have hD : va_D (fun z => z = q) [(q, .inr (1, [.long (lN T), .long (lN R), .long (lN 0), .long 0]))] := hD
  refine lv_aload_n hx hb dX1_init_19 rfl (lv_at hl 0 rfl) ?_
  refine lv_lconst (v := lN 1) hx hb dX1_init_20 rfl ?_
  refine va_put (D := D) (cl := vwCl) (ci := 1) (v := .long (lN 1)) (ty := .long) (C := RX1) (T := TX1) (N := 4) hx hb hts inX1 tyX1 tyX1_ok nmX1 hown hK hP hD hS 0 rfl rfl 3 (by decide) (hts _ tb_53) (fun _ h9 => h9) rfl (by decide +kernel) rfl rfl (Nat.le_of_ble_eq_true rfl) dX1_init_21 (fun H locs hP hD hS => ?_)
  have hP : va_P D vwCl [(q, .inr (1, [.long (lN T), .long (lN R), .long (lN 0), .long (lN 1)]))] H := hP
  have hD : va_D (fun z => z = q) [(q, .inr (1, [.long (lN T), .long (lN R), .long (lN 0), .long (lN 1)]))] := hD
  exact W.vret hx hb hr (fun t ht hW => ⟨⟨(), rfl, trivial, by (try dsimp only); rw [ht]; exact hP.fst⟩, hS.F ht⟩) hS.2.2 dX1_init_24
set_option maxHeartbeats 4000000 in
set_option maxRecDepth 100000 in
theorem k_ChainInit (l : Launch) (D : va_G) (ka : Nat → ClassId) (H0 : Heap) (q : Nat) (hq : va_at D vwCl (q, .inr (0, [.null, .null, .int 0, .long 0])) H0) : Met l yX0_init (.code yX0_init cX0_init 1 none :: gT) ({ frames := 1, cells := 2, slots := 24, locals := 12 }) (ro_Pc D vwCl (tyL ka) H0 [.ref q]) (va_Qv (fun (u : Nat × Nat) => True) (fun (u : Nat × Nat) t => (va_at D vwCl (q, chE u.1 u.2 0 (-1)) t.heap ∧ va_at D vwCl (u.1, refE (ka 0) 12 (fun _ => none)) t.heap ∧ va_at D vwCl (u.2, intE (ka 2) 12 (fun _ => 0)) t.heap) ∧ H0.size ≤ u.1 ∧ H0.size ≤ u.2 ∧ u.1 ≠ u.2) (fun z => z = q ∨ H0.size ≤ z)) 2 24 (fun z => z = q ∨ H0.size ≤ z) := by
  refine Met.ofW (cc := cX0_init) (maxL := 1) (ret := none) (by decide) rfl ?_
  intro p e s m args below meth c s₁ B hml hv
  obtain ⟨rfl, hH, hK, hN⟩ := hv
  subst hH
  have hx := B.exec
  have hb := B.bytes
  have hr := B.returns
  have hts : ∀ w ∈ gT, w.before ([.ref q] : List Value).toArray s = true := fun w h => atoms_spec (ws := (.code yX0_init cX0_init 1 none :: gT)) B.pre w (List.mem_cons_of_mem _ h)
  have hown : s.vm.findClass RX0 = some m.cls := findClass_of_methodNamed B.named
  have hlocks := B.notSynchronized
  have hl := lv_entry ([.ref q]) (n := 1) (Nat.le_of_ble_eq_true rfl)
  rw [lg_entry_eq]
  generalize (lg_sl ([.ref q]) ++ List.replicate (1 - (lg_sl ([.ref q])).length) Slot.unset).toArray = ls at hl ⊢
  have hin : meth.name = "<init>" := (name_of_methodNamed B.named B.method).1
  have hl : lv_has ls 1 [(0, .ref q)] := hl
  have hP : va_P D vwCl [(q, .inr (0, [.null, .null, .int 0, .long 0]))] s.heap := va_one hq
  have hD : va_D (fun z => z = q ∨ s.heap.size ≤ z) [(q, .inr (0, [.null, .null, .int 0, .long 0]))] := va_D_of (by simp) (by simp)
  have hS : va_S (fun z => z = q ∨ s.heap.size ≤ z) s.heap s.heap [] := va_S.rf
  have hA : ∀ z9 : Nat, s.heap.size ≤ z9 → (fun z => z = q ∨ s.heap.size ≤ z) z9 := fun z9 h => by simp [h]
  refine lv_aload_n hx hb dX0_init_0 rfl (lv_at hl 0 rfl) ?_
  refine W.objInit hx hb hown (hts _ tb_72) (hts _ tb_16) (hts _ tb_17) rfl (by rw [hml]; exact hl.1) rfl dX0_init_1 (Nat.le_of_ble_eq_true rfl) (Nat.le_of_ble_eq_true rfl) ?_
  refine W.eq (g2 := F0 m 4 ls []) rfl ?_
  refine lv_aload_n hx hb dX0_init_4 rfl (lv_at hl 0 rfl) ?_
  refine lv_bipush (v := nI 12) hx hb dX0_init_5 (by decide) ?_
  refine va_newq (cl := vwCl) (N' := 12) (C := RX1) hx hb hown (hts _ tb_73) (hN _ tn_19 rfl) hK hP hD hS hA (nI_pos (by decide)) (nI_clamp (by decide)) (by decide) (Nat.le_of_ble_eq_true rfl) (Nat.le_of_ble_eq_true rfl) dX0_init_7 (fun q_1 cA H hK2 hP hD hS => ?_)
  obtain rfl : cA = ka 0 := ty_same hK2 hK (i := 5) (j := 0) rfl rfl
  have hP : va_P D vwCl [(q, .inr (0, [.null, .null, .int 0, .long 0])), (q_1, refE (ka 0) 12 (fun _ => none))] H := hP
  have hD : va_D (fun z => z = q ∨ s.heap.size ≤ z) [(q, .inr (0, [.null, .null, .int 0, .long 0])), (q_1, refE (ka 0) 12 (fun _ => none))] := hD
  refine va_putF (D := D) (cl := vwCl) (ci := 0) (v := .ref q_1) (ty := (.array (.object "ChainSums$Piece"))) (C := RX0) (T := TX0) (N := 4) hx hb hts inX0 tyX0 tyX0_ok nmX0 hown hK hP hD hS 0 rfl rfl 0 (by decide) (hts _ tb_75) (fun _ h9 => h9) rfl hin rfl (by decide +kernel) rfl rfl (Nat.le_of_ble_eq_true rfl) dX0_init_10 (fun H locs hP hD hS => ?_)
  have hP : va_P D vwCl [(q, .inr (0, [.ref q_1, .null, .int 0, .long 0])), (q_1, refE (ka 0) 12 (fun _ => none))] H := hP
  have hD : va_D (fun z => z = q ∨ s.heap.size ≤ z) [(q, .inr (0, [.ref q_1, .null, .int 0, .long 0])), (q_1, refE (ka 0) 12 (fun _ => none))] := hD
  refine lv_aload_n hx hb dX0_init_13 rfl (lv_at hl 0 rfl) ?_
  refine lv_bipush (v := nI 12) hx hb dX0_init_14 (by decide) ?_
  refine va_newa (cl := vwCl) (atype := .boolean) (N' := 12) (a0 := (12, .inl (fun _ => 0))) hx hb (hts _ tb_90) (ty := .boolean) rfl hK hP hD hS hA (fun _ => rfl) (nI_pos (by decide)) (nI_clamp (by decide)) (by decide) (Nat.le_of_ble_eq_true rfl) (Nat.le_of_ble_eq_true rfl) dX0_init_16 (fun q_2 cA H hK2 hP hD hS => ?_)
  obtain rfl : cA = ka 2 := ty_same hK2 hK (i := 5) (j := 2) rfl rfl
  have hP : va_P D vwCl [(q, .inr (0, [.ref q_1, .null, .int 0, .long 0])), (q_1, refE (ka 0) 12 (fun _ => none)), (q_2, intE (ka 2) 12 (fun _ => 0))] H := hP
  have hD : va_D (fun z => z = q ∨ s.heap.size ≤ z) [(q, .inr (0, [.ref q_1, .null, .int 0, .long 0])), (q_1, refE (ka 0) 12 (fun _ => none)), (q_2, intE (ka 2) 12 (fun _ => 0))] := hD
  refine va_putF (D := D) (cl := vwCl) (ci := 0) (v := .ref q_2) (ty := (.array .boolean)) (C := RX0) (T := TX0) (N := 4) hx hb hts inX0 tyX0 tyX0_ok nmX0 hown hK hP hD hS 0 rfl rfl 1 (by decide) (hts _ tb_76) (fun _ h9 => h9) rfl hin rfl (by decide +kernel) rfl rfl (Nat.le_of_ble_eq_true rfl) dX0_init_18 (fun H locs hP hD hS => ?_)
  have hP : va_P D vwCl [(q, .inr (0, [.ref q_1, .ref q_2, .int 0, .long 0])), (q_1, refE (ka 0) 12 (fun _ => none)), (q_2, intE (ka 2) 12 (fun _ => 0))] H := hP
  have hD : va_D (fun z => z = q ∨ s.heap.size ≤ z) [(q, .inr (0, [.ref q_1, .ref q_2, .int 0, .long 0])), (q_1, refE (ka 0) 12 (fun _ => none)), (q_2, intE (ka 2) 12 (fun _ => 0))] := hD
  refine lv_aload_n hx hb dX0_init_21 rfl (lv_at hl 0 rfl) ?_
  refine lv_iconst (v := nI 0) hx hb dX0_init_22 (by decide) ?_
  refine va_put (D := D) (cl := vwCl) (ci := 0) (v := .int (nI 0)) (ty := .int) (C := RX0) (T := TX0) (N := 4) hx hb hts inX0 tyX0 tyX0_ok nmX0 hown hK hP hD hS 0 rfl rfl 2 (by decide) (hts _ tb_77) (fun _ h9 => h9) rfl (by decide +kernel) rfl rfl (Nat.le_of_ble_eq_true rfl) dX0_init_23 (fun H locs hP hD hS => ?_)
  have hP : va_P D vwCl [(q, .inr (0, [.ref q_1, .ref q_2, .int (nI 0), .long 0])), (q_1, refE (ka 0) 12 (fun _ => none)), (q_2, intE (ka 2) 12 (fun _ => 0))] H := hP
  have hD : va_D (fun z => z = q ∨ s.heap.size ≤ z) [(q, .inr (0, [.ref q_1, .ref q_2, .int (nI 0), .long 0])), (q_1, refE (ka 0) 12 (fun _ => none)), (q_2, intE (ka 2) 12 (fun _ => 0))] := hD
  refine lv_aload_n hx hb dX0_init_26 rfl (lv_at hl 0 rfl) ?_
  refine lv_ldc2 (v := (-1)) hx hb hown (hts _ tb_74) dX0_init_27 ?_
  refine va_put (D := D) (cl := vwCl) (ci := 0) (v := .long ((-1))) (ty := .long) (C := RX0) (T := TX0) (N := 4) hx hb hts inX0 tyX0 tyX0_ok nmX0 hown hK hP hD hS 0 rfl rfl 3 (by decide) (hts _ tb_79) (fun _ h9 => h9) rfl (by decide +kernel) rfl rfl (Nat.le_of_ble_eq_true rfl) dX0_init_30 (fun H locs hP hD hS => ?_)
  have hP : va_P D vwCl [(q, .inr (0, [.ref q_1, .ref q_2, .int (nI 0), .long ((-1))])), (q_1, refE (ka 0) 12 (fun _ => none)), (q_2, intE (ka 2) 12 (fun _ => 0))] H := hP
  have hD : va_D (fun z => z = q ∨ s.heap.size ≤ z) [(q, .inr (0, [.ref q_1, .ref q_2, .int (nI 0), .long ((-1))])), (q_1, refE (ka 0) 12 (fun _ => none)), (q_2, intE (ka 2) 12 (fun _ => 0))] := hD
  have nqr : ¬ q = q_1 := fun e => absurd (hD.1 0 1 _ _ rfl rfl e) (by decide)
  have nqm : ¬ q = q_2 := fun e => absurd (hD.1 0 2 _ _ rfl rfl e) (by decide)
  have nrm : q_1 ≠ q_2 := fun e => absurd (hD.1 1 2 _ _ rfl rfl e) (by decide)
  have fr : s.heap.size ≤ q_1 := (hD.2 1 _ rfl).resolve_left (fun e => nqr e.symm)
  have fm : s.heap.size ≤ q_2 := (hD.2 2 _ rfl).resolve_left (fun e => nqm e.symm)
  have hw : (va_at D vwCl (q, chE q_1 q_2 0 (-1)) H ∧ va_at D vwCl (q_1, refE (ka 0) 12 (fun _ => none)) H ∧ va_at D vwCl (q_2, intE (ka 2) 12 (fun _ => 0)) H) ∧ s.heap.size ≤ q_1 ∧ s.heap.size ≤ q_2 ∧ q_1 ≠ q_2 := ⟨⟨hP.nth 0 rfl, hP.nth 1 rfl, hP.nth 2 rfl⟩, fr, fm, nrm⟩
  exact W.vret hx hb hr (fun t ht hW => ⟨⟨(q_1, q_2), rfl, trivial, by (try dsimp only); rw [ht]; exact hw⟩, hS.F ht⟩) hS.2.2 dX0_init_33
set_option maxHeartbeats 4000000 in
set_option maxRecDepth 100000 in
theorem k_XInit (l : Launch) (D : va_G) (ka : Nat → ClassId) (H0 : Heap) (q : Nat) (hq : va_at D vwCl (q, .inr (2, [.null, .null, .int 0, .int 0])) H0) : Met l yX2_init (.code yX2_init cX2_init 1 none :: gT) ({ frames := 1, cells := 2, slots := 50, locals := 12 }) (ro_Pc D vwCl (tyL ka) H0 [.ref q]) (va_Qv (fun (u : Nat × Nat) => True) (fun (u : Nat × Nat) t => (va_at D vwCl (q, .inr (2, [.ref u.1, .ref u.2, .int (nI 0), .int (nI 0)])) t.heap ∧ va_at D vwCl (u.1, refE (ka 0) 30 (fun _ => none)) t.heap ∧ va_at D vwCl (u.2, refE (ka 1) 20 (fun _ => none)) t.heap) ∧ H0.size ≤ u.1 ∧ H0.size ≤ u.2 ∧ u.1 ≠ u.2) (fun z => z = q ∨ H0.size ≤ z)) 2 50 (fun z => z = q ∨ H0.size ≤ z) := by
  refine Met.ofW (cc := cX2_init) (maxL := 1) (ret := none) (by decide) rfl ?_
  intro p e s m args below meth c s₁ B hml hv
  obtain ⟨rfl, hH, hK, hN⟩ := hv
  subst hH
  have hx := B.exec
  have hb := B.bytes
  have hr := B.returns
  have hts : ∀ w ∈ gT, w.before ([.ref q] : List Value).toArray s = true := fun w h => atoms_spec (ws := (.code yX2_init cX2_init 1 none :: gT)) B.pre w (List.mem_cons_of_mem _ h)
  have hown : s.vm.findClass RX2 = some m.cls := findClass_of_methodNamed B.named
  have hlocks := B.notSynchronized
  have hl := lv_entry ([.ref q]) (n := 1) (Nat.le_of_ble_eq_true rfl)
  rw [lg_entry_eq]
  generalize (lg_sl ([.ref q]) ++ List.replicate (1 - (lg_sl ([.ref q])).length) Slot.unset).toArray = ls at hl ⊢
  have hin : meth.name = "<init>" := (name_of_methodNamed B.named B.method).1
  have hl : lv_has ls 1 [(0, .ref q)] := hl
  have hP : va_P D vwCl [(q, .inr (2, [.null, .null, .int 0, .int 0]))] s.heap := va_one hq
  have hD : va_D (fun z => z = q ∨ s.heap.size ≤ z) [(q, .inr (2, [.null, .null, .int 0, .int 0]))] := va_D_of (by simp) (by simp)
  have hS : va_S (fun z => z = q ∨ s.heap.size ≤ z) s.heap s.heap [] := va_S.rf
  have hA : ∀ z9 : Nat, s.heap.size ≤ z9 → (fun z => z = q ∨ s.heap.size ≤ z) z9 := fun z9 h => by simp [h]
  refine lv_aload_n hx hb dX2_init_0 rfl (lv_at hl 0 rfl) ?_
  refine W.objInit hx hb hown (hts _ tb_15) (hts _ tb_16) (hts _ tb_17) rfl (by rw [hml]; exact hl.1) rfl dX2_init_1 (Nat.le_of_ble_eq_true rfl) (Nat.le_of_ble_eq_true rfl) ?_
  refine W.eq (g2 := F0 m 4 ls []) rfl ?_
  refine lv_aload_n hx hb dX2_init_4 rfl (lv_at hl 0 rfl) ?_
  refine lv_bipush (v := nI 30) hx hb dX2_init_5 (by decide) ?_
  refine va_newq (cl := vwCl) (N' := 30) (C := RX1) hx hb hown (hts _ tb_18) (hN _ tn_19 rfl) hK hP hD hS hA (nI_pos (by decide)) (nI_clamp (by decide)) (by decide) (Nat.le_of_ble_eq_true rfl) (Nat.le_of_ble_eq_true rfl) dX2_init_7 (fun q_1 cA H hK2 hP hD hS => ?_)
  obtain rfl : cA = ka 0 := ty_same hK2 hK (i := 5) (j := 0) rfl rfl
  have hP : va_P D vwCl [(q, .inr (2, [.null, .null, .int 0, .int 0])), (q_1, refE (ka 0) 30 (fun _ => none))] H := hP
  have hD : va_D (fun z => z = q ∨ s.heap.size ≤ z) [(q, .inr (2, [.null, .null, .int 0, .int 0])), (q_1, refE (ka 0) 30 (fun _ => none))] := hD
  refine va_putF (D := D) (cl := vwCl) (ci := 2) (v := .ref q_1) (ty := (.array (.object "ChainSums$Piece"))) (C := RX2) (T := TX2) (N := 4) hx hb hts inX2 tyX2 tyX2_ok nmX2 hown hK hP hD hS 0 rfl rfl 0 (by decide) (hts _ tb_22) (fun _ h9 => h9) rfl hin rfl (by decide +kernel) rfl rfl (Nat.le_of_ble_eq_true rfl) dX2_init_10 (fun H locs hP hD hS => ?_)
  have hP : va_P D vwCl [(q, .inr (2, [.ref q_1, .null, .int 0, .int 0])), (q_1, refE (ka 0) 30 (fun _ => none))] H := hP
  have hD : va_D (fun z => z = q ∨ s.heap.size ≤ z) [(q, .inr (2, [.ref q_1, .null, .int 0, .int 0])), (q_1, refE (ka 0) 30 (fun _ => none))] := hD
  refine lv_aload_n hx hb dX2_init_13 rfl (lv_at hl 0 rfl) ?_
  refine lv_bipush (v := nI 20) hx hb dX2_init_14 (by decide) ?_
  refine va_newq (cl := vwCl) (N' := 20) (C := RX0) hx hb hown (hts _ tb_20) (hN _ tn_21 rfl) hK hP hD hS hA (nI_pos (by decide)) (nI_clamp (by decide)) (by decide) (Nat.le_of_ble_eq_true rfl) (Nat.le_of_ble_eq_true rfl) dX2_init_16 (fun q_2 cA H hK2 hP hD hS => ?_)
  obtain rfl : cA = ka 1 := ty_same hK2 hK (i := 5) (j := 1) rfl rfl
  have hP : va_P D vwCl [(q, .inr (2, [.ref q_1, .null, .int 0, .int 0])), (q_1, refE (ka 0) 30 (fun _ => none)), (q_2, refE (ka 1) 20 (fun _ => none))] H := hP
  have hD : va_D (fun z => z = q ∨ s.heap.size ≤ z) [(q, .inr (2, [.ref q_1, .null, .int 0, .int 0])), (q_1, refE (ka 0) 30 (fun _ => none)), (q_2, refE (ka 1) 20 (fun _ => none))] := hD
  refine va_putF (D := D) (cl := vwCl) (ci := 2) (v := .ref q_2) (ty := (.array (.object "ChainSums$Chain"))) (C := RX2) (T := TX2) (N := 4) hx hb hts inX2 tyX2 tyX2_ok nmX2 hown hK hP hD hS 0 rfl rfl 1 (by decide) (hts _ tb_23) (fun _ h9 => h9) rfl hin rfl (by decide +kernel) rfl rfl (Nat.le_of_ble_eq_true rfl) dX2_init_19 (fun H locs hP hD hS => ?_)
  have hP : va_P D vwCl [(q, .inr (2, [.ref q_1, .ref q_2, .int 0, .int 0])), (q_1, refE (ka 0) 30 (fun _ => none)), (q_2, refE (ka 1) 20 (fun _ => none))] H := hP
  have hD : va_D (fun z => z = q ∨ s.heap.size ≤ z) [(q, .inr (2, [.ref q_1, .ref q_2, .int 0, .int 0])), (q_1, refE (ka 0) 30 (fun _ => none)), (q_2, refE (ka 1) 20 (fun _ => none))] := hD
  refine lv_aload_n hx hb dX2_init_22 rfl (lv_at hl 0 rfl) ?_
  refine lv_iconst (v := nI 0) hx hb dX2_init_23 (by decide) ?_
  refine va_put (D := D) (cl := vwCl) (ci := 2) (v := .int (nI 0)) (ty := .int) (C := RX2) (T := TX2) (N := 4) hx hb hts inX2 tyX2 tyX2_ok nmX2 hown hK hP hD hS 0 rfl rfl 2 (by decide) (hts _ tb_24) (fun _ h9 => h9) rfl (by decide +kernel) rfl rfl (Nat.le_of_ble_eq_true rfl) dX2_init_24 (fun H locs hP hD hS => ?_)
  have hP : va_P D vwCl [(q, .inr (2, [.ref q_1, .ref q_2, .int (nI 0), .int 0])), (q_1, refE (ka 0) 30 (fun _ => none)), (q_2, refE (ka 1) 20 (fun _ => none))] H := hP
  have hD : va_D (fun z => z = q ∨ s.heap.size ≤ z) [(q, .inr (2, [.ref q_1, .ref q_2, .int (nI 0), .int 0])), (q_1, refE (ka 0) 30 (fun _ => none)), (q_2, refE (ka 1) 20 (fun _ => none))] := hD
  refine lv_aload_n hx hb dX2_init_27 rfl (lv_at hl 0 rfl) ?_
  refine lv_iconst (v := nI 0) hx hb dX2_init_28 (by decide) ?_
  refine va_put (D := D) (cl := vwCl) (ci := 2) (v := .int (nI 0)) (ty := .int) (C := RX2) (T := TX2) (N := 4) hx hb hts inX2 tyX2 tyX2_ok nmX2 hown hK hP hD hS 0 rfl rfl 3 (by decide) (hts _ tb_25) (fun _ h9 => h9) rfl (by decide +kernel) rfl rfl (Nat.le_of_ble_eq_true rfl) dX2_init_29 (fun H locs hP hD hS => ?_)
  have hP : va_P D vwCl [(q, .inr (2, [.ref q_1, .ref q_2, .int (nI 0), .int (nI 0)])), (q_1, refE (ka 0) 30 (fun _ => none)), (q_2, refE (ka 1) 20 (fun _ => none))] H := hP
  have hD : va_D (fun z => z = q ∨ s.heap.size ≤ z) [(q, .inr (2, [.ref q_1, .ref q_2, .int (nI 0), .int (nI 0)])), (q_1, refE (ka 0) 30 (fun _ => none)), (q_2, refE (ka 1) 20 (fun _ => none))] := hD
  have nqr : ¬ q = q_1 := fun e => absurd (hD.1 0 1 _ _ rfl rfl e) (by decide)
  have nqm : ¬ q = q_2 := fun e => absurd (hD.1 0 2 _ _ rfl rfl e) (by decide)
  have nrm : q_1 ≠ q_2 := fun e => absurd (hD.1 1 2 _ _ rfl rfl e) (by decide)
  have fr : s.heap.size ≤ q_1 := (hD.2 1 _ rfl).resolve_left (fun e => nqr e.symm)
  have fm : s.heap.size ≤ q_2 := (hD.2 2 _ rfl).resolve_left (fun e => nqm e.symm)
  have hw : (va_at D vwCl (q, .inr (2, [.ref q_1, .ref q_2, .int (nI 0), .int (nI 0)])) H ∧ va_at D vwCl (q_1, refE (ka 0) 30 (fun _ => none)) H ∧ va_at D vwCl (q_2, refE (ka 1) 20 (fun _ => none)) H) ∧ s.heap.size ≤ q_1 ∧ s.heap.size ≤ q_2 ∧ q_1 ≠ q_2 := ⟨⟨hP.nth 0 rfl, hP.nth 1 rfl, hP.nth 2 rfl⟩, fr, fm, nrm⟩
  exact W.vret hx hb hr (fun t ht hW => ⟨⟨(q_1, q_2), rfl, trivial, by (try dsimp only); rw [ht]; exact hw⟩, hS.F ht⟩) hS.2.2 dX2_init_32
set_option maxHeartbeats 4000000 in
set_option maxRecDepth 100000 in
theorem k_MInit (l : Launch) (D : va_G) (ka : Nat → ClassId) (H0 : Heap) (q : Nat) (hq : va_at D vwCl (q, .inr (3, [.int 0, .int 0, .null, .null, .null, .null, .int 0, .null, .null, .null, .null, .null])) H0) : Met l yM_init (.code yM_init cM_init 1 none :: gT) ({ frames := 1, cells := 9, slots := 691, locals := 12 }) (ro_Pc D vwCl (tyL ka) H0 [.ref q]) (va_Qv (fun (u : Nat → Nat) => True) (fun (u : Nat → Nat) t => va_P D vwCl (mW ka u 0 0 0 z0 z0 z0 z0 z0 zF z0 zF (fun _ => 0)) t.heap ∧ u 0 = q ∧ (∀ i j, i < 10 → j < 10 → u i = u j → i = j) ∧ ∀ i, i < 10 → u i = q ∨ H0.size ≤ u i) (fun z => z = q ∨ H0.size ≤ z)) 9 691 (fun z => z = q ∨ H0.size ≤ z) := by
  refine Met.ofW (cc := cM_init) (maxL := 1) (ret := none) (by decide) rfl ?_
  intro p e s m args below meth c s₁ B hml hv
  obtain ⟨rfl, hH, hK, hN⟩ := hv
  subst hH
  have hx := B.exec
  have hb := B.bytes
  have hr := B.returns
  have hts : ∀ w ∈ gT, w.before ([.ref q] : List Value).toArray s = true := fun w h => atoms_spec (ws := (.code yM_init cM_init 1 none :: gT)) B.pre w (List.mem_cons_of_mem _ h)
  have hown : s.vm.findClass RM = some m.cls := findClass_of_methodNamed B.named
  have hlocks := B.notSynchronized
  have hl := lv_entry ([.ref q]) (n := 1) (Nat.le_of_ble_eq_true rfl)
  rw [lg_entry_eq]
  generalize (lg_sl ([.ref q]) ++ List.replicate (1 - (lg_sl ([.ref q])).length) Slot.unset).toArray = ls at hl ⊢
  have hin : meth.name = "<init>" := (name_of_methodNamed B.named B.method).1
  have hl : lv_has ls 1 [(0, .ref q)] := hl
  have hP : va_P D vwCl [(q, .inr (3, [.int 0, .int 0, .null, .null, .null, .null, .int 0, .null, .null, .null, .null, .null]))] s.heap := va_one hq
  have hD : va_D (fun z => z = q ∨ s.heap.size ≤ z) [(q, .inr (3, [.int 0, .int 0, .null, .null, .null, .null, .int 0, .null, .null, .null, .null, .null]))] := va_D_of (by simp) (by simp)
  have hS : va_S (fun z => z = q ∨ s.heap.size ≤ z) s.heap s.heap [] := va_S.rf
  have hA : ∀ z9 : Nat, s.heap.size ≤ z9 → (fun z => z = q ∨ s.heap.size ≤ z) z9 := fun z9 h => by simp [h]
  refine lv_aload_n hx hb dM_init_0 rfl (lv_at hl 0 rfl) ?_
  refine W.objInit hx hb hown (hts _ tb_299) (hts _ tb_16) (hts _ tb_17) rfl (by rw [hml]; exact hl.1) rfl dM_init_1 (Nat.le_of_ble_eq_true rfl) (Nat.le_of_ble_eq_true rfl) ?_
  refine W.eq (g2 := F0 m 4 ls []) rfl ?_
  refine lv_aload_n hx hb dM_init_4 rfl (lv_at hl 0 rfl) ?_
  refine lv_bipush (v := nI 31) hx hb dM_init_5 (by decide) ?_
  refine va_newa (cl := vwCl) (atype := .long) (N' := 31) (a0 := (31, .inr (.inl (fun _ => lN 0)))) hx hb (hts _ tb_337) (ty := .long) rfl hK hP hD hS hA (fun _ => rfl) (nI_pos (by decide)) (nI_clamp (by decide)) (by decide) (Nat.le_of_ble_eq_true rfl) (Nat.le_of_ble_eq_true rfl) dM_init_7 (fun q_1 cA H hK2 hP hD hS => ?_)
  obtain rfl : cA = ka 3 := ty_same hK2 hK (i := 5) (j := 3) rfl rfl
  have hP : va_P D vwCl [(q, .inr (3, [.int 0, .int 0, .null, .null, .null, .null, .int 0, .null, .null, .null, .null, .null])), (q_1, lonE (ka 3) 31 (fun _ => lN 0))] H := hP
  have hD : va_D (fun z => z = q ∨ s.heap.size ≤ z) [(q, .inr (3, [.int 0, .int 0, .null, .null, .null, .null, .int 0, .null, .null, .null, .null, .null])), (q_1, lonE (ka 3) 31 (fun _ => lN 0))] := hD
  refine va_putF (D := D) (cl := vwCl) (ci := 3) (v := .ref q_1) (ty := (.array .long)) (C := RM) (T := TM) (N := 12) hx hb hts inM tyM tyM_ok nmM hown hK hP hD hS 0 rfl rfl 2 (by decide) (hts _ tb_302) (fun _ h9 => h9) rfl hin rfl (by decide +kernel) rfl rfl (Nat.le_of_ble_eq_true rfl) dM_init_9 (fun H locs hP hD hS => ?_)
  have hP : va_P D vwCl [(q, .inr (3, [.int 0, .int 0, .ref q_1, .null, .null, .null, .int 0, .null, .null, .null, .null, .null])), (q_1, lonE (ka 3) 31 (fun _ => lN 0))] H := hP
  have hD : va_D (fun z => z = q ∨ s.heap.size ≤ z) [(q, .inr (3, [.int 0, .int 0, .ref q_1, .null, .null, .null, .int 0, .null, .null, .null, .null, .null])), (q_1, lonE (ka 3) 31 (fun _ => lN 0))] := hD
  refine lv_aload_n hx hb dM_init_12 rfl (lv_at hl 0 rfl) ?_
  refine lv_bipush (v := nI 31) hx hb dM_init_13 (by decide) ?_
  refine va_newa (cl := vwCl) (atype := .long) (N' := 31) (a0 := (31, .inr (.inl (fun _ => lN 0)))) hx hb (hts _ tb_337) (ty := .long) rfl hK hP hD hS hA (fun _ => rfl) (nI_pos (by decide)) (nI_clamp (by decide)) (by decide) (Nat.le_of_ble_eq_true rfl) (Nat.le_of_ble_eq_true rfl) dM_init_15 (fun q_2 cA H hK2 hP hD hS => ?_)
  obtain rfl : cA = ka 3 := ty_same hK2 hK (i := 5) (j := 3) rfl rfl
  have hP : va_P D vwCl [(q, .inr (3, [.int 0, .int 0, .ref q_1, .null, .null, .null, .int 0, .null, .null, .null, .null, .null])), (q_1, lonE (ka 3) 31 (fun _ => lN 0)), (q_2, lonE (ka 3) 31 (fun _ => lN 0))] H := hP
  have hD : va_D (fun z => z = q ∨ s.heap.size ≤ z) [(q, .inr (3, [.int 0, .int 0, .ref q_1, .null, .null, .null, .int 0, .null, .null, .null, .null, .null])), (q_1, lonE (ka 3) 31 (fun _ => lN 0)), (q_2, lonE (ka 3) 31 (fun _ => lN 0))] := hD
  refine va_putF (D := D) (cl := vwCl) (ci := 3) (v := .ref q_2) (ty := (.array .long)) (C := RM) (T := TM) (N := 12) hx hb hts inM tyM tyM_ok nmM hown hK hP hD hS 0 rfl rfl 3 (by decide) (hts _ tb_303) (fun _ h9 => h9) rfl hin rfl (by decide +kernel) rfl rfl (Nat.le_of_ble_eq_true rfl) dM_init_17 (fun H locs hP hD hS => ?_)
  have hP : va_P D vwCl [(q, .inr (3, [.int 0, .int 0, .ref q_1, .ref q_2, .null, .null, .int 0, .null, .null, .null, .null, .null])), (q_1, lonE (ka 3) 31 (fun _ => lN 0)), (q_2, lonE (ka 3) 31 (fun _ => lN 0))] H := hP
  have hD : va_D (fun z => z = q ∨ s.heap.size ≤ z) [(q, .inr (3, [.int 0, .int 0, .ref q_1, .ref q_2, .null, .null, .int 0, .null, .null, .null, .null, .null])), (q_1, lonE (ka 3) 31 (fun _ => lN 0)), (q_2, lonE (ka 3) 31 (fun _ => lN 0))] := hD
  refine lv_aload_n hx hb dM_init_20 rfl (lv_at hl 0 rfl) ?_
  refine lv_bipush (v := nI 31) hx hb dM_init_21 (by decide) ?_
  refine va_newa (cl := vwCl) (atype := .long) (N' := 31) (a0 := (31, .inr (.inl (fun _ => lN 0)))) hx hb (hts _ tb_337) (ty := .long) rfl hK hP hD hS hA (fun _ => rfl) (nI_pos (by decide)) (nI_clamp (by decide)) (by decide) (Nat.le_of_ble_eq_true rfl) (Nat.le_of_ble_eq_true rfl) dM_init_23 (fun q_3 cA H hK2 hP hD hS => ?_)
  obtain rfl : cA = ka 3 := ty_same hK2 hK (i := 5) (j := 3) rfl rfl
  have hP : va_P D vwCl [(q, .inr (3, [.int 0, .int 0, .ref q_1, .ref q_2, .null, .null, .int 0, .null, .null, .null, .null, .null])), (q_1, lonE (ka 3) 31 (fun _ => lN 0)), (q_2, lonE (ka 3) 31 (fun _ => lN 0)), (q_3, lonE (ka 3) 31 (fun _ => lN 0))] H := hP
  have hD : va_D (fun z => z = q ∨ s.heap.size ≤ z) [(q, .inr (3, [.int 0, .int 0, .ref q_1, .ref q_2, .null, .null, .int 0, .null, .null, .null, .null, .null])), (q_1, lonE (ka 3) 31 (fun _ => lN 0)), (q_2, lonE (ka 3) 31 (fun _ => lN 0)), (q_3, lonE (ka 3) 31 (fun _ => lN 0))] := hD
  refine va_putF (D := D) (cl := vwCl) (ci := 3) (v := .ref q_3) (ty := (.array .long)) (C := RM) (T := TM) (N := 12) hx hb hts inM tyM tyM_ok nmM hown hK hP hD hS 0 rfl rfl 4 (by decide) (hts _ tb_304) (fun _ h9 => h9) rfl hin rfl (by decide +kernel) rfl rfl (Nat.le_of_ble_eq_true rfl) dM_init_25 (fun H locs hP hD hS => ?_)
  have hP : va_P D vwCl [(q, .inr (3, [.int 0, .int 0, .ref q_1, .ref q_2, .ref q_3, .null, .int 0, .null, .null, .null, .null, .null])), (q_1, lonE (ka 3) 31 (fun _ => lN 0)), (q_2, lonE (ka 3) 31 (fun _ => lN 0)), (q_3, lonE (ka 3) 31 (fun _ => lN 0))] H := hP
  have hD : va_D (fun z => z = q ∨ s.heap.size ≤ z) [(q, .inr (3, [.int 0, .int 0, .ref q_1, .ref q_2, .ref q_3, .null, .int 0, .null, .null, .null, .null, .null])), (q_1, lonE (ka 3) 31 (fun _ => lN 0)), (q_2, lonE (ka 3) 31 (fun _ => lN 0)), (q_3, lonE (ka 3) 31 (fun _ => lN 0))] := hD
  refine lv_aload_n hx hb dM_init_28 rfl (lv_at hl 0 rfl) ?_
  refine lv_bipush (v := nI 31) hx hb dM_init_29 (by decide) ?_
  refine va_newa (cl := vwCl) (atype := .long) (N' := 31) (a0 := (31, .inr (.inl (fun _ => lN 0)))) hx hb (hts _ tb_337) (ty := .long) rfl hK hP hD hS hA (fun _ => rfl) (nI_pos (by decide)) (nI_clamp (by decide)) (by decide) (Nat.le_of_ble_eq_true rfl) (Nat.le_of_ble_eq_true rfl) dM_init_31 (fun q_4 cA H hK2 hP hD hS => ?_)
  obtain rfl : cA = ka 3 := ty_same hK2 hK (i := 5) (j := 3) rfl rfl
  have hP : va_P D vwCl [(q, .inr (3, [.int 0, .int 0, .ref q_1, .ref q_2, .ref q_3, .null, .int 0, .null, .null, .null, .null, .null])), (q_1, lonE (ka 3) 31 (fun _ => lN 0)), (q_2, lonE (ka 3) 31 (fun _ => lN 0)), (q_3, lonE (ka 3) 31 (fun _ => lN 0)), (q_4, lonE (ka 3) 31 (fun _ => lN 0))] H := hP
  have hD : va_D (fun z => z = q ∨ s.heap.size ≤ z) [(q, .inr (3, [.int 0, .int 0, .ref q_1, .ref q_2, .ref q_3, .null, .int 0, .null, .null, .null, .null, .null])), (q_1, lonE (ka 3) 31 (fun _ => lN 0)), (q_2, lonE (ka 3) 31 (fun _ => lN 0)), (q_3, lonE (ka 3) 31 (fun _ => lN 0)), (q_4, lonE (ka 3) 31 (fun _ => lN 0))] := hD
  refine va_putF (D := D) (cl := vwCl) (ci := 3) (v := .ref q_4) (ty := (.array .long)) (C := RM) (T := TM) (N := 12) hx hb hts inM tyM tyM_ok nmM hown hK hP hD hS 0 rfl rfl 5 (by decide) (hts _ tb_305) (fun _ h9 => h9) rfl hin rfl (by decide +kernel) rfl rfl (Nat.le_of_ble_eq_true rfl) dM_init_33 (fun H locs hP hD hS => ?_)
  have hP : va_P D vwCl [(q, .inr (3, [.int 0, .int 0, .ref q_1, .ref q_2, .ref q_3, .ref q_4, .int 0, .null, .null, .null, .null, .null])), (q_1, lonE (ka 3) 31 (fun _ => lN 0)), (q_2, lonE (ka 3) 31 (fun _ => lN 0)), (q_3, lonE (ka 3) 31 (fun _ => lN 0)), (q_4, lonE (ka 3) 31 (fun _ => lN 0))] H := hP
  have hD : va_D (fun z => z = q ∨ s.heap.size ≤ z) [(q, .inr (3, [.int 0, .int 0, .ref q_1, .ref q_2, .ref q_3, .ref q_4, .int 0, .null, .null, .null, .null, .null])), (q_1, lonE (ka 3) 31 (fun _ => lN 0)), (q_2, lonE (ka 3) 31 (fun _ => lN 0)), (q_3, lonE (ka 3) 31 (fun _ => lN 0)), (q_4, lonE (ka 3) 31 (fun _ => lN 0))] := hD
  refine lv_aload_n hx hb dM_init_36 rfl (lv_at hl 0 rfl) ?_
  refine lv_sipush (v := nI 252) hx hb dM_init_37 (by decide) ?_
  refine va_newa (cl := vwCl) (atype := .int) (N' := 252) (a0 := (252, .inl (fun _ => nI 0))) hx hb (hts _ tb_338) (ty := .int) rfl hK hP hD hS hA (fun _ => rfl) (nI_pos (by decide)) (nI_clamp (by decide)) (by decide) (Nat.le_of_ble_eq_true rfl) (Nat.le_of_ble_eq_true rfl) dM_init_40 (fun q_5 cA H hK2 hP hD hS => ?_)
  obtain rfl : cA = ka 4 := ty_same hK2 hK (i := 5) (j := 4) rfl rfl
  have hP : va_P D vwCl [(q, .inr (3, [.int 0, .int 0, .ref q_1, .ref q_2, .ref q_3, .ref q_4, .int 0, .null, .null, .null, .null, .null])), (q_1, lonE (ka 3) 31 (fun _ => lN 0)), (q_2, lonE (ka 3) 31 (fun _ => lN 0)), (q_3, lonE (ka 3) 31 (fun _ => lN 0)), (q_4, lonE (ka 3) 31 (fun _ => lN 0)), (q_5, intE (ka 4) 252 (fun _ => nI 0))] H := hP
  have hD : va_D (fun z => z = q ∨ s.heap.size ≤ z) [(q, .inr (3, [.int 0, .int 0, .ref q_1, .ref q_2, .ref q_3, .ref q_4, .int 0, .null, .null, .null, .null, .null])), (q_1, lonE (ka 3) 31 (fun _ => lN 0)), (q_2, lonE (ka 3) 31 (fun _ => lN 0)), (q_3, lonE (ka 3) 31 (fun _ => lN 0)), (q_4, lonE (ka 3) 31 (fun _ => lN 0)), (q_5, intE (ka 4) 252 (fun _ => nI 0))] := hD
  refine va_putF (D := D) (cl := vwCl) (ci := 3) (v := .ref q_5) (ty := (.array .int)) (C := RM) (T := TM) (N := 12) hx hb hts inM tyM tyM_ok nmM hown hK hP hD hS 0 rfl rfl 7 (by decide) (hts _ tb_307) (fun _ h9 => h9) rfl hin rfl (by decide +kernel) rfl rfl (Nat.le_of_ble_eq_true rfl) dM_init_42 (fun H locs hP hD hS => ?_)
  have hP : va_P D vwCl [(q, .inr (3, [.int 0, .int 0, .ref q_1, .ref q_2, .ref q_3, .ref q_4, .int 0, .ref q_5, .null, .null, .null, .null])), (q_1, lonE (ka 3) 31 (fun _ => lN 0)), (q_2, lonE (ka 3) 31 (fun _ => lN 0)), (q_3, lonE (ka 3) 31 (fun _ => lN 0)), (q_4, lonE (ka 3) 31 (fun _ => lN 0)), (q_5, intE (ka 4) 252 (fun _ => nI 0))] H := hP
  have hD : va_D (fun z => z = q ∨ s.heap.size ≤ z) [(q, .inr (3, [.int 0, .int 0, .ref q_1, .ref q_2, .ref q_3, .ref q_4, .int 0, .ref q_5, .null, .null, .null, .null])), (q_1, lonE (ka 3) 31 (fun _ => lN 0)), (q_2, lonE (ka 3) 31 (fun _ => lN 0)), (q_3, lonE (ka 3) 31 (fun _ => lN 0)), (q_4, lonE (ka 3) 31 (fun _ => lN 0)), (q_5, intE (ka 4) 252 (fun _ => nI 0))] := hD
  refine lv_aload_n hx hb dM_init_45 rfl (lv_at hl 0 rfl) ?_
  refine lv_sipush (v := nI 252) hx hb dM_init_46 (by decide) ?_
  refine va_newa (cl := vwCl) (atype := .boolean) (N' := 252) (a0 := (252, .inl (fun _ => 0))) hx hb (hts _ tb_90) (ty := .boolean) rfl hK hP hD hS hA (fun _ => rfl) (nI_pos (by decide)) (nI_clamp (by decide)) (by decide) (Nat.le_of_ble_eq_true rfl) (Nat.le_of_ble_eq_true rfl) dM_init_49 (fun q_6 cA H hK2 hP hD hS => ?_)
  obtain rfl : cA = ka 2 := ty_same hK2 hK (i := 5) (j := 2) rfl rfl
  have hP : va_P D vwCl [(q, .inr (3, [.int 0, .int 0, .ref q_1, .ref q_2, .ref q_3, .ref q_4, .int 0, .ref q_5, .null, .null, .null, .null])), (q_1, lonE (ka 3) 31 (fun _ => lN 0)), (q_2, lonE (ka 3) 31 (fun _ => lN 0)), (q_3, lonE (ka 3) 31 (fun _ => lN 0)), (q_4, lonE (ka 3) 31 (fun _ => lN 0)), (q_5, intE (ka 4) 252 (fun _ => nI 0)), (q_6, intE (ka 2) 252 (fun _ => 0))] H := hP
  have hD : va_D (fun z => z = q ∨ s.heap.size ≤ z) [(q, .inr (3, [.int 0, .int 0, .ref q_1, .ref q_2, .ref q_3, .ref q_4, .int 0, .ref q_5, .null, .null, .null, .null])), (q_1, lonE (ka 3) 31 (fun _ => lN 0)), (q_2, lonE (ka 3) 31 (fun _ => lN 0)), (q_3, lonE (ka 3) 31 (fun _ => lN 0)), (q_4, lonE (ka 3) 31 (fun _ => lN 0)), (q_5, intE (ka 4) 252 (fun _ => nI 0)), (q_6, intE (ka 2) 252 (fun _ => 0))] := hD
  refine va_putF (D := D) (cl := vwCl) (ci := 3) (v := .ref q_6) (ty := (.array .boolean)) (C := RM) (T := TM) (N := 12) hx hb hts inM tyM tyM_ok nmM hown hK hP hD hS 0 rfl rfl 8 (by decide) (hts _ tb_308) (fun _ h9 => h9) rfl hin rfl (by decide +kernel) rfl rfl (Nat.le_of_ble_eq_true rfl) dM_init_51 (fun H locs hP hD hS => ?_)
  have hP : va_P D vwCl [(q, .inr (3, [.int 0, .int 0, .ref q_1, .ref q_2, .ref q_3, .ref q_4, .int 0, .ref q_5, .ref q_6, .null, .null, .null])), (q_1, lonE (ka 3) 31 (fun _ => lN 0)), (q_2, lonE (ka 3) 31 (fun _ => lN 0)), (q_3, lonE (ka 3) 31 (fun _ => lN 0)), (q_4, lonE (ka 3) 31 (fun _ => lN 0)), (q_5, intE (ka 4) 252 (fun _ => nI 0)), (q_6, intE (ka 2) 252 (fun _ => 0))] H := hP
  have hD : va_D (fun z => z = q ∨ s.heap.size ≤ z) [(q, .inr (3, [.int 0, .int 0, .ref q_1, .ref q_2, .ref q_3, .ref q_4, .int 0, .ref q_5, .ref q_6, .null, .null, .null])), (q_1, lonE (ka 3) 31 (fun _ => lN 0)), (q_2, lonE (ka 3) 31 (fun _ => lN 0)), (q_3, lonE (ka 3) 31 (fun _ => lN 0)), (q_4, lonE (ka 3) 31 (fun _ => lN 0)), (q_5, intE (ka 4) 252 (fun _ => nI 0)), (q_6, intE (ka 2) 252 (fun _ => 0))] := hD
  refine lv_aload_n hx hb dM_init_54 rfl (lv_at hl 0 rfl) ?_
  refine lv_bipush (v := nI 21) hx hb dM_init_55 (by decide) ?_
  refine va_newa (cl := vwCl) (atype := .int) (N' := 21) (a0 := (21, .inl (fun _ => nI 0))) hx hb (hts _ tb_338) (ty := .int) rfl hK hP hD hS hA (fun _ => rfl) (nI_pos (by decide)) (nI_clamp (by decide)) (by decide) (Nat.le_of_ble_eq_true rfl) (Nat.le_of_ble_eq_true rfl) dM_init_57 (fun q_7 cA H hK2 hP hD hS => ?_)
  obtain rfl : cA = ka 4 := ty_same hK2 hK (i := 5) (j := 4) rfl rfl
  have hP : va_P D vwCl [(q, .inr (3, [.int 0, .int 0, .ref q_1, .ref q_2, .ref q_3, .ref q_4, .int 0, .ref q_5, .ref q_6, .null, .null, .null])), (q_1, lonE (ka 3) 31 (fun _ => lN 0)), (q_2, lonE (ka 3) 31 (fun _ => lN 0)), (q_3, lonE (ka 3) 31 (fun _ => lN 0)), (q_4, lonE (ka 3) 31 (fun _ => lN 0)), (q_5, intE (ka 4) 252 (fun _ => nI 0)), (q_6, intE (ka 2) 252 (fun _ => 0)), (q_7, intE (ka 4) 21 (fun _ => nI 0))] H := hP
  have hD : va_D (fun z => z = q ∨ s.heap.size ≤ z) [(q, .inr (3, [.int 0, .int 0, .ref q_1, .ref q_2, .ref q_3, .ref q_4, .int 0, .ref q_5, .ref q_6, .null, .null, .null])), (q_1, lonE (ka 3) 31 (fun _ => lN 0)), (q_2, lonE (ka 3) 31 (fun _ => lN 0)), (q_3, lonE (ka 3) 31 (fun _ => lN 0)), (q_4, lonE (ka 3) 31 (fun _ => lN 0)), (q_5, intE (ka 4) 252 (fun _ => nI 0)), (q_6, intE (ka 2) 252 (fun _ => 0)), (q_7, intE (ka 4) 21 (fun _ => nI 0))] := hD
  refine va_putF (D := D) (cl := vwCl) (ci := 3) (v := .ref q_7) (ty := (.array .int)) (C := RM) (T := TM) (N := 12) hx hb hts inM tyM tyM_ok nmM hown hK hP hD hS 0 rfl rfl 9 (by decide) (hts _ tb_309) (fun _ h9 => h9) rfl hin rfl (by decide +kernel) rfl rfl (Nat.le_of_ble_eq_true rfl) dM_init_59 (fun H locs hP hD hS => ?_)
  have hP : va_P D vwCl [(q, .inr (3, [.int 0, .int 0, .ref q_1, .ref q_2, .ref q_3, .ref q_4, .int 0, .ref q_5, .ref q_6, .ref q_7, .null, .null])), (q_1, lonE (ka 3) 31 (fun _ => lN 0)), (q_2, lonE (ka 3) 31 (fun _ => lN 0)), (q_3, lonE (ka 3) 31 (fun _ => lN 0)), (q_4, lonE (ka 3) 31 (fun _ => lN 0)), (q_5, intE (ka 4) 252 (fun _ => nI 0)), (q_6, intE (ka 2) 252 (fun _ => 0)), (q_7, intE (ka 4) 21 (fun _ => nI 0))] H := hP
  have hD : va_D (fun z => z = q ∨ s.heap.size ≤ z) [(q, .inr (3, [.int 0, .int 0, .ref q_1, .ref q_2, .ref q_3, .ref q_4, .int 0, .ref q_5, .ref q_6, .ref q_7, .null, .null])), (q_1, lonE (ka 3) 31 (fun _ => lN 0)), (q_2, lonE (ka 3) 31 (fun _ => lN 0)), (q_3, lonE (ka 3) 31 (fun _ => lN 0)), (q_4, lonE (ka 3) 31 (fun _ => lN 0)), (q_5, intE (ka 4) 252 (fun _ => nI 0)), (q_6, intE (ka 2) 252 (fun _ => 0)), (q_7, intE (ka 4) 21 (fun _ => nI 0))] := hD
  refine lv_aload_n hx hb dM_init_62 rfl (lv_at hl 0 rfl) ?_
  refine lv_bipush (v := nI 21) hx hb dM_init_63 (by decide) ?_
  refine va_newa (cl := vwCl) (atype := .boolean) (N' := 21) (a0 := (21, .inl (fun _ => 0))) hx hb (hts _ tb_90) (ty := .boolean) rfl hK hP hD hS hA (fun _ => rfl) (nI_pos (by decide)) (nI_clamp (by decide)) (by decide) (Nat.le_of_ble_eq_true rfl) (Nat.le_of_ble_eq_true rfl) dM_init_65 (fun q_8 cA H hK2 hP hD hS => ?_)
  obtain rfl : cA = ka 2 := ty_same hK2 hK (i := 5) (j := 2) rfl rfl
  have hP : va_P D vwCl [(q, .inr (3, [.int 0, .int 0, .ref q_1, .ref q_2, .ref q_3, .ref q_4, .int 0, .ref q_5, .ref q_6, .ref q_7, .null, .null])), (q_1, lonE (ka 3) 31 (fun _ => lN 0)), (q_2, lonE (ka 3) 31 (fun _ => lN 0)), (q_3, lonE (ka 3) 31 (fun _ => lN 0)), (q_4, lonE (ka 3) 31 (fun _ => lN 0)), (q_5, intE (ka 4) 252 (fun _ => nI 0)), (q_6, intE (ka 2) 252 (fun _ => 0)), (q_7, intE (ka 4) 21 (fun _ => nI 0)), (q_8, intE (ka 2) 21 (fun _ => 0))] H := hP
  have hD : va_D (fun z => z = q ∨ s.heap.size ≤ z) [(q, .inr (3, [.int 0, .int 0, .ref q_1, .ref q_2, .ref q_3, .ref q_4, .int 0, .ref q_5, .ref q_6, .ref q_7, .null, .null])), (q_1, lonE (ka 3) 31 (fun _ => lN 0)), (q_2, lonE (ka 3) 31 (fun _ => lN 0)), (q_3, lonE (ka 3) 31 (fun _ => lN 0)), (q_4, lonE (ka 3) 31 (fun _ => lN 0)), (q_5, intE (ka 4) 252 (fun _ => nI 0)), (q_6, intE (ka 2) 252 (fun _ => 0)), (q_7, intE (ka 4) 21 (fun _ => nI 0)), (q_8, intE (ka 2) 21 (fun _ => 0))] := hD
  refine va_putF (D := D) (cl := vwCl) (ci := 3) (v := .ref q_8) (ty := (.array .boolean)) (C := RM) (T := TM) (N := 12) hx hb hts inM tyM tyM_ok nmM hown hK hP hD hS 0 rfl rfl 10 (by decide) (hts _ tb_310) (fun _ h9 => h9) rfl hin rfl (by decide +kernel) rfl rfl (Nat.le_of_ble_eq_true rfl) dM_init_67 (fun H locs hP hD hS => ?_)
  have hP : va_P D vwCl [(q, .inr (3, [.int 0, .int 0, .ref q_1, .ref q_2, .ref q_3, .ref q_4, .int 0, .ref q_5, .ref q_6, .ref q_7, .ref q_8, .null])), (q_1, lonE (ka 3) 31 (fun _ => lN 0)), (q_2, lonE (ka 3) 31 (fun _ => lN 0)), (q_3, lonE (ka 3) 31 (fun _ => lN 0)), (q_4, lonE (ka 3) 31 (fun _ => lN 0)), (q_5, intE (ka 4) 252 (fun _ => nI 0)), (q_6, intE (ka 2) 252 (fun _ => 0)), (q_7, intE (ka 4) 21 (fun _ => nI 0)), (q_8, intE (ka 2) 21 (fun _ => 0))] H := hP
  have hD : va_D (fun z => z = q ∨ s.heap.size ≤ z) [(q, .inr (3, [.int 0, .int 0, .ref q_1, .ref q_2, .ref q_3, .ref q_4, .int 0, .ref q_5, .ref q_6, .ref q_7, .ref q_8, .null])), (q_1, lonE (ka 3) 31 (fun _ => lN 0)), (q_2, lonE (ka 3) 31 (fun _ => lN 0)), (q_3, lonE (ka 3) 31 (fun _ => lN 0)), (q_4, lonE (ka 3) 31 (fun _ => lN 0)), (q_5, intE (ka 4) 252 (fun _ => nI 0)), (q_6, intE (ka 2) 252 (fun _ => 0)), (q_7, intE (ka 4) 21 (fun _ => nI 0)), (q_8, intE (ka 2) 21 (fun _ => 0))] := hD
  refine lv_aload_n hx hb dM_init_70 rfl (lv_at hl 0 rfl) ?_
  refine lv_bipush (v := nI 21) hx hb dM_init_71 (by decide) ?_
  refine va_newa (cl := vwCl) (atype := .long) (N' := 21) (a0 := (21, .inr (.inl (fun _ => lN 0)))) hx hb (hts _ tb_337) (ty := .long) rfl hK hP hD hS hA (fun _ => rfl) (nI_pos (by decide)) (nI_clamp (by decide)) (by decide) (Nat.le_of_ble_eq_true rfl) (Nat.le_of_ble_eq_true rfl) dM_init_73 (fun q_9 cA H hK2 hP hD hS => ?_)
  obtain rfl : cA = ka 3 := ty_same hK2 hK (i := 5) (j := 3) rfl rfl
  have hP : va_P D vwCl [(q, .inr (3, [.int 0, .int 0, .ref q_1, .ref q_2, .ref q_3, .ref q_4, .int 0, .ref q_5, .ref q_6, .ref q_7, .ref q_8, .null])), (q_1, lonE (ka 3) 31 (fun _ => lN 0)), (q_2, lonE (ka 3) 31 (fun _ => lN 0)), (q_3, lonE (ka 3) 31 (fun _ => lN 0)), (q_4, lonE (ka 3) 31 (fun _ => lN 0)), (q_5, intE (ka 4) 252 (fun _ => nI 0)), (q_6, intE (ka 2) 252 (fun _ => 0)), (q_7, intE (ka 4) 21 (fun _ => nI 0)), (q_8, intE (ka 2) 21 (fun _ => 0)), (q_9, lonE (ka 3) 21 (fun _ => lN 0))] H := hP
  have hD : va_D (fun z => z = q ∨ s.heap.size ≤ z) [(q, .inr (3, [.int 0, .int 0, .ref q_1, .ref q_2, .ref q_3, .ref q_4, .int 0, .ref q_5, .ref q_6, .ref q_7, .ref q_8, .null])), (q_1, lonE (ka 3) 31 (fun _ => lN 0)), (q_2, lonE (ka 3) 31 (fun _ => lN 0)), (q_3, lonE (ka 3) 31 (fun _ => lN 0)), (q_4, lonE (ka 3) 31 (fun _ => lN 0)), (q_5, intE (ka 4) 252 (fun _ => nI 0)), (q_6, intE (ka 2) 252 (fun _ => 0)), (q_7, intE (ka 4) 21 (fun _ => nI 0)), (q_8, intE (ka 2) 21 (fun _ => 0)), (q_9, lonE (ka 3) 21 (fun _ => lN 0))] := hD
  refine va_putF (D := D) (cl := vwCl) (ci := 3) (v := .ref q_9) (ty := (.array .long)) (C := RM) (T := TM) (N := 12) hx hb hts inM tyM tyM_ok nmM hown hK hP hD hS 0 rfl rfl 11 (by decide) (hts _ tb_311) (fun _ h9 => h9) rfl hin rfl (by decide +kernel) rfl rfl (Nat.le_of_ble_eq_true rfl) dM_init_75 (fun H locs hP hD hS => ?_)
  have hP : va_P D vwCl [(q, .inr (3, [.int 0, .int 0, .ref q_1, .ref q_2, .ref q_3, .ref q_4, .int 0, .ref q_5, .ref q_6, .ref q_7, .ref q_8, .ref q_9])), (q_1, lonE (ka 3) 31 (fun _ => lN 0)), (q_2, lonE (ka 3) 31 (fun _ => lN 0)), (q_3, lonE (ka 3) 31 (fun _ => lN 0)), (q_4, lonE (ka 3) 31 (fun _ => lN 0)), (q_5, intE (ka 4) 252 (fun _ => nI 0)), (q_6, intE (ka 2) 252 (fun _ => 0)), (q_7, intE (ka 4) 21 (fun _ => nI 0)), (q_8, intE (ka 2) 21 (fun _ => 0)), (q_9, lonE (ka 3) 21 (fun _ => lN 0))] H := hP
  have hD : va_D (fun z => z = q ∨ s.heap.size ≤ z) [(q, .inr (3, [.int 0, .int 0, .ref q_1, .ref q_2, .ref q_3, .ref q_4, .int 0, .ref q_5, .ref q_6, .ref q_7, .ref q_8, .ref q_9])), (q_1, lonE (ka 3) 31 (fun _ => lN 0)), (q_2, lonE (ka 3) 31 (fun _ => lN 0)), (q_3, lonE (ka 3) 31 (fun _ => lN 0)), (q_4, lonE (ka 3) 31 (fun _ => lN 0)), (q_5, intE (ka 4) 252 (fun _ => nI 0)), (q_6, intE (ka 2) 252 (fun _ => 0)), (q_7, intE (ka 4) 21 (fun _ => nI 0)), (q_8, intE (ka 2) 21 (fun _ => 0)), (q_9, lonE (ka 3) 21 (fun _ => lN 0))] := hD
  have hP : va_P D vwCl (mW ka (fun i => [q, q_1, q_2, q_3, q_4, q_5, q_6, q_7, q_8, q_9].getD i 0) 0 0 0 z0 z0 z0 z0 z0 zF z0 zF (fun _ => 0)) H := hP
  have hD : va_D (fun z => z = q ∨ s.heap.size ≤ z) (mW ka (fun i => [q, q_1, q_2, q_3, q_4, q_5, q_6, q_7, q_8, q_9].getD i 0) 0 0 0 z0 z0 z0 z0 z0 zF z0 zF (fun _ => 0)) := hD
  generalize hu : (fun i => [q, q_1, q_2, q_3, q_4, q_5, q_6, q_7, q_8, q_9].getD i 0) = u at hP hD
  have hk : ∀ i, i < 10 → ∃ e : va_E, (mW ka u 0 0 0 z0 z0 z0 z0 z0 zF z0 zF (fun _ => 0))[i]? = some (u i, e) := fun i hi => by
    rcases (show i = 0 ∨ i = 1 ∨ i = 2 ∨ i = 3 ∨ i = 4 ∨ i = 5 ∨ i = 6 ∨ i = 7 ∨ i = 8 ∨ i = 9 by omega) with rfl | rfl | rfl | rfl | rfl | rfl | rfl | rfl | rfl | rfl <;> exact ⟨_, rfl⟩
  have hw : va_P D vwCl (mW ka u 0 0 0 z0 z0 z0 z0 z0 zF z0 zF (fun _ => 0)) H ∧ u 0 = q ∧ (∀ i j, i < 10 → j < 10 → u i = u j → i = j) ∧ ∀ i, i < 10 → u i = q ∨ s.heap.size ≤ u i := ⟨hP, by rw [← hu]; rfl, fun i j hi hj e => by
    obtain ⟨e1, h1⟩ := hk i hi; obtain ⟨e2, h2⟩ := hk j hj; exact hD.1 i j _ _ h1 h2 e, fun i hi => by
    obtain ⟨e1, h1⟩ := hk i hi; exact hD.2 i _ h1⟩
  exact W.vret hx hb hr (fun t ht hW => ⟨⟨u, rfl, trivial, by (try dsimp only); rw [ht]; exact hw⟩, hS.F ht⟩) hS.2.2 dM_init_78
set_option maxHeartbeats 4000000 in
set_option maxRecDepth 100000 in
theorem k_append (l : Launch) (D : va_G) (ka : Nat → ClassId) (H0 : Heap) (h rw sm n a T R U Dn : Nat) (wi : Int64) (f : Nat → Option Nat) (g : Nat → Int32) (sb : Bool) (h0 : va_at D vwCl (h, chE rw sm n wi) H0) (h1 : va_at D vwCl (rw, refE (ka 0) 12 f) H0) (h2 : va_at D vwCl (sm, intE (ka 2) 12 g) H0) (h3 : va_at D vwCl (a, pcE T R U Dn) H0) (n1 : h ≠ rw) (n2 : h ≠ sm) (n3 : h ≠ a) (n4 : rw ≠ sm) (n5 : rw ≠ a) (n6 : sm ≠ a) (hn : n < 12) : Met l yX0_append (.code yX0_append cX0_append 3 none :: gT) ({ frames := 0, cells := 0, slots := 0, locals := 0 }) (ro_Pc D vwCl (tyL ka) H0 [.ref h, .ref a, .int (bI sb)]) (va_Qv (fun (u : Unit) => True) (fun (u : Unit) t => va_at D vwCl (h, chE rw sm (n + 1) wi) t.heap ∧ va_at D vwCl (rw, refE (ka 0) 12 (va_up f n (some a))) t.heap ∧ va_at D vwCl (sm, intE (ka 2) 12 (upd g n (bI sb))) t.heap ∧ va_at D vwCl (a, pcE T R U Dn) t.heap) (fun z => z = h ∨ z = rw ∨ z = sm ∨ z = a)) 0 0 (fun z => z = h ∨ z = rw ∨ z = sm ∨ z = a) := by
  refine Met.ofW (cc := cX0_append) (maxL := 3) (ret := none) (by decide) rfl ?_
  intro p e s m args below meth c s₁ B hml hv
  obtain ⟨rfl, hH, hK, hN⟩ := hv
  subst hH
  have hx := B.exec
  have hb := B.bytes
  have hr := B.returns
  have hts : ∀ w ∈ gT, w.before ([.ref h, .ref a, .int (bI sb)] : List Value).toArray s = true := fun w h => atoms_spec (ws := (.code yX0_append cX0_append 3 none :: gT)) B.pre w (List.mem_cons_of_mem _ h)
  have hown : s.vm.findClass RX0 = some m.cls := findClass_of_methodNamed B.named
  have hlocks := B.notSynchronized
  have hl := lv_entry ([.ref h, .ref a, .int (bI sb)]) (n := 3) (Nat.le_of_ble_eq_true rfl)
  rw [lg_entry_eq]
  generalize (lg_sl ([.ref h, .ref a, .int (bI sb)]) ++ List.replicate (3 - (lg_sl ([.ref h, .ref a, .int (bI sb)])).length) Slot.unset).toArray = ls at hl ⊢
  have hl : lv_has ls 3 [(0, .ref h), (1, .ref a), (2, .int (bI sb))] := hl
  have hP : va_P D vwCl [(h, .inr (0, [.ref rw, .ref sm, .int (nI n), .long wi])), (rw, refE (ka 0) 12 f), (sm, intE (ka 2) 12 g), (a, .inr (1, [.long (lN T), .long (lN R), .long (lN U), .long (lN Dn)]))] s.heap := va_P_cons h0 (va_P_cons h1 (va_P_cons h2 (va_P_cons h3 va_P_nil)))
  have hD : va_D (fun z => z = h ∨ z = rw ∨ z = sm ∨ z = a) [(h, .inr (0, [.ref rw, .ref sm, .int (nI n), .long wi])), (rw, refE (ka 0) 12 f), (sm, intE (ka 2) 12 g), (a, .inr (1, [.long (lN T), .long (lN R), .long (lN U), .long (lN Dn)]))] := va_D_of (by simp [n1, n2, n3, n4, n5, n6]) (by simp)
  have hS : va_S (fun z => z = h ∨ z = rw ∨ z = sm ∨ z = a) s.heap s.heap [] := va_S.rf
  skip
  refine lv_aload_n hx hb dX0_append_0 rfl (lv_at hl 0 rfl) ?_
  refine g_get (cl := vwCl) (ci := 0) (v := .int (nI n)) hx hb hts inX0 hown hK (hP.nth 0 rfl) rfl 2 (by decide) (hts _ tb_77) rfl dX0_append_1 ?_
  refine lv_bipush (v := nI 12) hx hb dX0_append_4 (by decide) ?_
  refine n_icmp_ge (tgt := 39) hx hb (by omega) (by omega) dX0_append_6 (by decide) (fun hc => ?_) (fun hc => ?_)
  · exact absurd hc (by omega)
  · refine lv_aload_n hx hb dX0_append_9 rfl (lv_at hl 0 rfl) ?_
    refine g_get (cl := vwCl) (ci := 0) (v := .ref rw) hx hb hts inX0 hown hK (hP.nth 0 rfl) rfl 0 (by decide) (hts _ tb_75) rfl dX0_append_10 ?_
    refine lv_aload_n hx hb dX0_append_13 rfl (lv_at hl 0 rfl) ?_
    refine g_get (cl := vwCl) (ci := 0) (v := .int (nI n)) hx hb hts inX0 hown hK (hP.nth 0 rfl) rfl 2 (by decide) (hts _ tb_77) rfl dX0_append_14 ?_
    refine lv_aload_n hx hb dX0_append_17 rfl (lv_at hl 1 rfl) ?_
    refine g_astq (r := (RX1, TX1, 4)) (f2 := va_up f n (some a)) hx hb hK hP hD hS 1 0 3 1 rfl rfl rfl rfl hn (by decide) rfl dX0_append_18 (fun H locs hP hD hS => ?_)
    have hP : va_P D vwCl [(h, .inr (0, [.ref rw, .ref sm, .int (nI n), .long wi])), (rw, refE (ka 0) 12 (va_up f n (some a))), (sm, intE (ka 2) 12 g), (a, .inr (1, [.long (lN T), .long (lN R), .long (lN U), .long (lN Dn)]))] H := hP
    have hD : va_D (fun z => z = h ∨ z = rw ∨ z = sm ∨ z = a) [(h, .inr (0, [.ref rw, .ref sm, .int (nI n), .long wi])), (rw, refE (ka 0) 12 (va_up f n (some a))), (sm, intE (ka 2) 12 g), (a, .inr (1, [.long (lN T), .long (lN R), .long (lN U), .long (lN Dn)]))] := hD
    refine lv_aload_n hx hb dX0_append_19 rfl (lv_at hl 0 rfl) ?_
    refine g_get (cl := vwCl) (ci := 0) (v := .ref sm) hx hb hts inX0 hown hK (hP.nth 0 rfl) rfl 1 (by decide) (hts _ tb_76) rfl dX0_append_20 ?_
    refine lv_aload_n hx hb dX0_append_23 rfl (lv_at hl 0 rfl) ?_
    refine g_get (cl := vwCl) (ci := 0) (v := .int (nI n)) hx hb hts inX0 hown hK (hP.nth 0 rfl) rfl 2 (by decide) (hts _ tb_77) rfl dX0_append_24 ?_
    refine lv_iload_n hx hb dX0_append_27 rfl (lv_at hl 2 rfl) ?_
    refine g_zast (f2 := upd g n (bI sb)) hx hb hK hP hD hS 2 2 rfl rfl hn (by decide) (by rw [bI_nar]) dX0_append_28 (fun H locs hP hD hS => ?_)
    have hP : va_P D vwCl [(h, .inr (0, [.ref rw, .ref sm, .int (nI n), .long wi])), (rw, refE (ka 0) 12 (va_up f n (some a))), (sm, intE (ka 2) 12 (upd g n (bI sb))), (a, .inr (1, [.long (lN T), .long (lN R), .long (lN U), .long (lN Dn)]))] H := hP
    have hD : va_D (fun z => z = h ∨ z = rw ∨ z = sm ∨ z = a) [(h, .inr (0, [.ref rw, .ref sm, .int (nI n), .long wi])), (rw, refE (ka 0) 12 (va_up f n (some a))), (sm, intE (ka 2) 12 (upd g n (bI sb))), (a, .inr (1, [.long (lN T), .long (lN R), .long (lN U), .long (lN Dn)]))] := hD
    refine lv_aload_n hx hb dX0_append_29 rfl (lv_at hl 0 rfl) ?_
    refine lv_dup hx hb dX0_append_30 rfl ?_
    refine g_get (cl := vwCl) (ci := 0) (v := .int (nI n)) hx hb hts inX0 hown hK (hP.nth 0 rfl) rfl 2 (by decide) (hts _ tb_77) rfl dX0_append_31 ?_
    refine lv_iconst (v := nI 1) hx hb dX0_append_34 (by decide) ?_
    refine n_iadd hx hb dX0_append_35 ?_
    refine va_put (D := D) (cl := vwCl) (ci := 0) (v := .int (nI (n + 1))) (ty := .int) (C := RX0) (T := TX0) (N := 4) hx hb hts inX0 tyX0 tyX0_ok nmX0 hown hK hP hD hS 0 rfl rfl 2 (by decide) (hts _ tb_77) (fun _ h9 => h9) rfl (by decide +kernel) rfl rfl (Nat.le_of_ble_eq_true rfl) dX0_append_36 (fun H locs hP hD hS => ?_)
    have hP : va_P D vwCl [(h, .inr (0, [.ref rw, .ref sm, .int (nI (n + 1)), .long wi])), (rw, refE (ka 0) 12 (va_up f n (some a))), (sm, intE (ka 2) 12 (upd g n (bI sb))), (a, .inr (1, [.long (lN T), .long (lN R), .long (lN U), .long (lN Dn)]))] H := hP
    have hD : va_D (fun z => z = h ∨ z = rw ∨ z = sm ∨ z = a) [(h, .inr (0, [.ref rw, .ref sm, .int (nI (n + 1)), .long wi])), (rw, refE (ka 0) 12 (va_up f n (some a))), (sm, intE (ka 2) 12 (upd g n (bI sb))), (a, .inr (1, [.long (lN T), .long (lN R), .long (lN U), .long (lN Dn)]))] := hD
    have hw : va_at D vwCl (h, chE rw sm (n + 1) wi) H ∧ va_at D vwCl (rw, refE (ka 0) 12 (va_up f n (some a))) H ∧ va_at D vwCl (sm, intE (ka 2) 12 (upd g n (bI sb))) H ∧ va_at D vwCl (a, pcE T R U Dn) H := ⟨hP.nth 0 rfl, hP.nth 1 rfl, hP.nth 2 rfl, hP.nth 3 rfl⟩
    exact W.vret hx hb hr (fun t ht hW => ⟨⟨(), rfl, trivial, by (try dsimp only); rw [ht]; exact hw⟩, hS.F ht⟩) hS.2.2 dX0_append_39
