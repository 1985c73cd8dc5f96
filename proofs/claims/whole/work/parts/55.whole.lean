set_option maxHeartbeats 4000000 in
set_option maxRecDepth 100000 in
theorem law_first {p : Program} {l : Launch} {e : Env} {s : State} {m : MethodId} {below : List Frame} {meth : Method} {c : Code} {b L : Nat} {xs : Nat → Int32} {D : va_G} {ka : Nat → ClassId} (hl0 : l.stackTraces = false) (hL : L ≤ 3072) (C0 : lw_At p s m meth c b L xs) (hK : va_K D vwCl (tyL ka) s) (hN : nsW s) (hT : thW (lA s) s.heap s) {ls : Array Slot} (hl : lv_has ls 8 [(0, .ref b)]) :
    W p l e room_1 s m #[Value.ref b] below meth c s.heap [] 0 0 (lw_Z below #[Value.ref b] s) (F0 m 0 ls []) := by
  have hC := C0
  obtain ⟨hx, hb, hr, hml, hown, hts0, hXs, hbl, hlocks, hgv⟩ := hC
  have hts : ∀ w ∈ gT, w.before #[Value.ref b] s = true := fun w h => hts0 w (List.mem_filter.mp h).1
  have hA : ∀ z : Nat, s.heap.size ≤ z → lA s z := fun z h => h
  have hP : va_P D vwCl [] s.heap := va_P_nil
  have hD : va_D (lA s) [] := va_D_of (by simp) (by simp)
  have hS : va_S (lA s) s.heap s.heap [] := va_S.rf
  refine va_new (cl := vwCl) (ci := 2) (fs := [.null, .null, .int 0, .int 0]) (C := RX2) (T := TX2) (N := 4) hx hb hts inX2 tyX2 tyX2_ok hown (hts _ tb_10) (hts _ tb_11) (hts _ tb_1) hK hP hD hS hA rfl (fun j hj => by rcases (show j = 0 ∨ j = 1 ∨ j = 2 ∨ j = 3 by omega) with rfl | rfl | rfl | rfl <;> rfl) (Nat.le_of_ble_eq_true rfl) (Nat.le_of_ble_eq_true rfl) dL_law_0 (fun q1 H1 hP hD hS => ?_)
  have a1 : va_at D vwCl (q1, .inr (2, [.null, .null, .int 0, .int 0])) H1 := hP.nth 0 rfl
  have f1 : s.heap.size ≤ q1 := hD.2 0 _ rfl
  have z1 : q1 < H1.size := a1.lt
  have s1 := hS.1
  refine lv_dup hx hb dL_law_3 rfl ?_
  refine va_callv (va_runI (As := []) (rest := [.ref q1]) ⟨hx, hb, hml, hown, hts⟩ (k_XInit l D ka H1 q1 a1) (cw_I 0 hts tb_14 rfl rfl tb_12 tb_1 tb_13 rfl (by decide +kernel) ⟨Nat.le_of_ble_eq_true rfl, Nat.le_of_ble_eq_true rfl⟩) (ro_S hK hN) rfl rfl hl.1 rfl (lv_room (Nat.le_of_ble_eq_true rfl)) dL_law_4 ⟨Nat.le_of_ble_eq_true rfl, Nat.le_of_ble_eq_true rfl⟩) hS (fun z _ h9 => h9.elim (fun e => e ▸ f1) (fun h8 => Nat.le_trans s1 h8)) (fun z h9 => h9.elim (fun e => e ▸ f1) (fun h8 => Nat.le_trans s1 h8)) (fun u t H2 locs ht hvm hw hB hz1 hk1 hS => ?_)
  obtain ⟨p1, c1⟩ := u
  (try dsimp only at hw hB)
  rw [ht] at hB
  obtain ⟨⟨b1, b2, b3⟩, g1, g2, g3⟩ := hB
  clear ht hw hvm hk1 hP hD
  refine lv_astore_n (lv' := [(1, .ref q1), (0, .ref b)]) hx hb dL_law_7 rfl hl (by decide) rfl (fun ls hl => ?_)
  have hP : va_P D vwCl [(q1, .inr (2, [.ref p1, .ref c1, .int (nI 0), .int (nI 0)])), (p1, refE (ka 0) 30 (fun _ => none)), (c1, refE (ka 1) 20 (fun _ => none))] H2 := va_P_cons b1 (va_P_cons b2 (va_P_cons b3 va_P_nil))
  have n1 : q1 ≠ p1 := by omega
  have n2 : q1 ≠ c1 := by omega
  have hD : va_D (lA s) [(q1, .inr (2, [.ref p1, .ref c1, .int (nI 0), .int (nI 0)])), (p1, refE (ka 0) 30 (fun _ => none)), (c1, refE (ka 1) 20 (fun _ => none))] := va_D_of (by simp [n1, n2, g3]) (by
    intro q hq
    simp only [List.mem_cons, List.not_mem_nil, or_false] at hq
    rcases hq with rfl | rfl | rfl
    · exact f1
    · exact Nat.le_trans s1 g1
    · exact Nat.le_trans s1 g2)
  refine va_new (cl := vwCl) (ci := 3) (fs := [.int 0, .int 0, .null, .null, .null, .null, .int 0, .null, .null, .null, .null, .null]) (C := RM) (T := TM) (N := 12) hx hb hts inM tyM tyM_ok hown (hts _ tb_294) (hts _ tb_295) (hts _ tb_2) hK hP hD hS hA rfl (fun j hj => by rcases (show j = 0 ∨ j = 1 ∨ j = 2 ∨ j = 3 ∨ j = 4 ∨ j = 5 ∨ j = 6 ∨ j = 7 ∨ j = 8 ∨ j = 9 ∨ j = 10 ∨ j = 11 by omega) with rfl | rfl | rfl | rfl | rfl | rfl | rfl | rfl | rfl | rfl | rfl | rfl <;> rfl) (Nat.le_of_ble_eq_true rfl) (Nat.le_of_ble_eq_true rfl) dL_law_8 (fun q2 H3 hP hD hS => ?_)
  have a2 : va_at D vwCl (q2, .inr (3, [.int 0, .int 0, .null, .null, .null, .null, .int 0, .null, .null, .null, .null, .null])) H3 := hP.nth 3 rfl
  have d1 : va_at D vwCl (q1, .inr (2, [.ref p1, .ref c1, .int (nI 0), .int (nI 0)])) H3 := hP.nth 0 rfl
  have d2 : va_at D vwCl (p1, refE (ka 0) 30 (fun _ => none)) H3 := hP.nth 1 rfl
  have d3 : va_at D vwCl (c1, refE (ka 1) 20 (fun _ => none)) H3 := hP.nth 2 rfl
  have f2 : s.heap.size ≤ q2 := hD.2 3 _ rfl
  have f3 : s.heap.size ≤ p1 := hD.2 1 _ rfl
  have f4 : s.heap.size ≤ c1 := hD.2 2 _ rfl
  have n3 : q1 ≠ q2 := fun e => absurd (hD.1 0 3 _ _ rfl rfl e) (by decide)
  have n4 : p1 ≠ q2 := fun e => absurd (hD.1 1 3 _ _ rfl rfl e) (by decide)
  have n5 : c1 ≠ q2 := fun e => absurd (hD.1 2 3 _ _ rfl rfl e) (by decide)
  have l1 : q1 < H3.size := d1.lt
  have l2 : p1 < H3.size := d2.lt
  have l3 : c1 < H3.size := d3.lt
  have s3 := hS.1
  clear hP hD
  refine lv_dup hx hb dL_law_11 rfl ?_
  refine va_callv (va_runI (As := []) (rest := [.ref q2]) ⟨hx, hb, hml, hown, hts⟩ (k_MInit l D ka H3 q2 a2) (cw_I 0 hts tb_298 rfl rfl tb_296 tb_2 tb_297 rfl (by decide +kernel) ⟨Nat.le_of_ble_eq_true rfl, Nat.le_of_ble_eq_true rfl⟩) (ro_S hK hN) rfl rfl hl.1 rfl (lv_room (Nat.le_of_ble_eq_true rfl)) dL_law_12 ⟨Nat.le_of_ble_eq_true rfl, Nat.le_of_ble_eq_true rfl⟩) hS (fun z _ h9 => h9.elim (fun e => e ▸ f2) (fun h8 => Nat.le_trans s3 h8)) (fun z h9 => h9.elim (fun e => e ▸ f2) (fun h8 => Nat.le_trans s3 h8)) (fun a t H4 locs ht hvm hw hB hz1 hk1 hS => ?_)
  (try dsimp only at hw hB)
  rw [ht] at hB
  obtain ⟨hM, e0, haI, haF⟩ := hB
  have k1 := d1.kept (hk1 _ l1 (fun h9 => h9.elim n3 (fun h8 => absurd h8 (Nat.not_le.mpr l1))))
  have k2 := d2.kept (hk1 _ l2 (fun h9 => h9.elim n4 (fun h8 => absurd h8 (Nat.not_le.mpr l2))))
  have k3 := d3.kept (hk1 _ l3 (fun h9 => h9.elim n5 (fun h8 => absurd h8 (Nat.not_le.mpr l3))))
  have m1 : ∀ i, i < 10 → a i ≠ q1 := fun i hi e => (haF i hi).elim (fun h => n3 (e.symm.trans h)) (fun h => by omega)
  have m2 : ∀ i, i < 10 → a i ≠ p1 := fun i hi e => (haF i hi).elim (fun h => n4 (e.symm.trans h)) (fun h => by omega)
  have m3 : ∀ i, i < 10 → a i ≠ c1 := fun i hi e => (haF i hi).elim (fun h => n5 (e.symm.trans h)) (fun h => by omega)
  have m4 : ∀ i, i < 10 → s.heap.size ≤ a i := fun i hi => (haF i hi).elim (fun h => by rw [h]; exact f2) (fun h => Nat.le_trans s3 h)
  refine lv_astore_n (lv' := [(2, .ref q2), (1, .ref q1), (0, .ref b)]) hx hb dL_law_15 rfl hl (by decide) rfl (fun ls hl => ?_)
  refine lv_iconst (v := nI 1) hx hb dL_law_16 (by decide) ?_
  have hD3 : va_D (lA s) [(q1, .inr (2, [.ref p1, .ref c1, .int (nI 0), .int (nI 0)])), (p1, refE (ka 0) 30 (fun _ => none)), (c1, refE (ka 1) 20 (fun _ => none))] := va_D_of (by simp [n1, n2, g3]) (by
    intro q hq
    simp only [List.mem_cons, List.not_mem_nil, or_false] at hq
    rcases hq with rfl | rfl | rfl
    · exact f1
    · exact f3
    · exact f4)
  have hDM : va_D (lA s) (mW ka a 0 0 0 z0 z0 z0 z0 z0 zF z0 zF (fun _ => 0)) := (mD haI).weaken (fun k q _ ⟨i, hi, e9⟩ => by rw [← e9]; exact m4 i hi)
  have hMa : ∀ (k : Nat) (q : Nat × va_E), (mW ka a 0 0 0 z0 z0 z0 z0 z0 zF z0 zF (fun _ => 0))[k]? = some q → k < 10 ∧ q.1 = a k := fun k q hk => mW_a (u := mkM 0 0 z0 z0 z0 z0 z0 zF z0 zF (fun _ => 0)) k q hk
  have hP : va_P D vwCl ([(q1, .inr (2, [.ref p1, .ref c1, .int (nI 0), .int (nI 0)])), (p1, refE (ka 0) 30 (fun _ => none)), (c1, refE (ka 1) 20 (fun _ => none))] ++ mW ka a 0 0 0 z0 z0 z0 z0 z0 zF z0 zF (fun _ => 0)) H4 := va_P_cons k1 (va_P_cons k2 (va_P_cons k3 hM))
  have hD : va_D (lA s) ([(q1, .inr (2, [.ref p1, .ref c1, .int (nI 0), .int (nI 0)])), (p1, refE (ka 0) 30 (fun _ => none)), (c1, refE (ka 1) 20 (fun _ => none))] ++ mW ka a 0 0 0 z0 z0 z0 z0 z0 zF z0 zF (fun _ => 0)) := hD3.app hDM (fun i j x y hi hj e => by
    obtain ⟨j10, ej⟩ := hMa j y hj
    have hx9 := List.mem_of_getElem? hi
    simp only [List.mem_cons, List.not_mem_nil, or_false] at hx9
    rw [ej] at e
    rcases hx9 with rfl | rfl | rfl
    · exact m1 j j10 e.symm
    · exact m2 j j10 e.symm
    · exact m3 j j10 e.symm)
  refine va_newa (cl := vwCl) (atype := .long) (N' := 1) (a0 := (1, .inr (.inl (fun _ => lN 0)))) hx hb (hts _ tb_337) (ty := .long) rfl hK hP hD hS hA (fun _ => rfl) (nI_pos (by decide)) (nI_clamp (by decide)) (by decide) (Nat.le_of_ble_eq_true rfl) (Nat.le_of_ble_eq_true rfl) dL_law_17 (fun o cA H5 hK2 hP hD hS => ?_)
  obtain rfl : cA = ka 3 := ty_same hK2 hK (i := 5) (j := 3) rfl rfl
  have k1 : va_at D vwCl (q1, .inr (2, [.ref p1, .ref c1, .int (nI 0), .int (nI 0)])) H5 := hP.nth 0 rfl
  have k2 : va_at D vwCl (p1, refE (ka 0) 30 (fun _ => none)) H5 := hP.nth 1 rfl
  have k3 : va_at D vwCl (c1, refE (ka 1) 20 (fun _ => none)) H5 := hP.nth 2 rfl
  have k4 : va_at D vwCl (o, lonE (ka 3) 1 (fun _ => lN 0)) H5 := hP.nth 13 rfl
  have hM5 : va_P D vwCl (mW ka a 0 0 0 z0 z0 z0 z0 z0 zF z0 zF (fun _ => 0)) H5 := fun k q hk => hP (k + 3) q (by
    show (mW ka a 0 0 0 z0 z0 z0 z0 z0 zF z0 zF (fun _ => 0) ++ [(o, _)])[k]? = some q
    rw [List.getElem?_append_left (List.getElem?_eq_some_iff.mp hk).1]
    exact hk)
  have r1 : q1 ≠ o := fun e => absurd (hD.1 0 13 _ _ rfl rfl e) (by decide)
  have r2 : p1 ≠ o := fun e => absurd (hD.1 1 13 _ _ rfl rfl e) (by decide)
  have r3 : c1 ≠ o := fun e => absurd (hD.1 2 13 _ _ rfl rfl e) (by decide)
  have r4 : ∀ j, j < 10 → a j ≠ o := fun j hj e => by
    rcases (show j = 0 ∨ j = 1 ∨ j = 2 ∨ j = 3 ∨ j = 4 ∨ j = 5 ∨ j = 6 ∨ j = 7 ∨ j = 8 ∨ j = 9 by omega) with rfl | rfl | rfl | rfl | rfl | rfl | rfl | rfl | rfl | rfl
    · exact absurd (hD.1 3 13 _ _ rfl rfl e) (by decide)
    · exact absurd (hD.1 4 13 _ _ rfl rfl e) (by decide)
    · exact absurd (hD.1 5 13 _ _ rfl rfl e) (by decide)
    · exact absurd (hD.1 6 13 _ _ rfl rfl e) (by decide)
    · exact absurd (hD.1 7 13 _ _ rfl rfl e) (by decide)
    · exact absurd (hD.1 8 13 _ _ rfl rfl e) (by decide)
    · exact absurd (hD.1 9 13 _ _ rfl rfl e) (by decide)
    · exact absurd (hD.1 10 13 _ _ rfl rfl e) (by decide)
    · exact absurd (hD.1 11 13 _ _ rfl rfl e) (by decide)
    · exact absurd (hD.1 12 13 _ _ rfl rfl e) (by decide)
  have fo : s.heap.size ≤ o := hD.2 13 _ rfl
  clear hP hD
  refine lv_astore_n (lv' := [(3, .ref o), (2, .ref q2), (1, .ref q1), (0, .ref b)]) hx hb dL_law_19 rfl hl (by decide) rfl (fun ls hl => ?_)
  refine lv_iconst (v := nI (6 * 0)) hx hb dL_law_20 (by decide) ?_
  refine lv_istore (lv' := [(4, .int (nI (6 * 0))), (3, .ref o), (2, .ref q2), (1, .ref q1), (0, .ref b)]) hx hb dL_law_21 hl (by decide) rfl (fun ls hl => ?_)
  have had : ∀ k i, vl 0 0 k i → (fun (k _ : Nat) => if k = 0 then q1 else if k = 1 then p1 else c1) k i = q1 ∨ (fun (k _ : Nat) => if k = 0 then q1 else if k = 1 then p1 else c1) k i = p1 ∨ (fun (k _ : Nat) => if k = 0 then q1 else if k = 1 then p1 else c1) k i = c1 := fun k i _ => by
    show (if k = 0 then q1 else if k = 1 then p1 else c1) = q1 ∨ (if k = 0 then q1 else if k = 1 then p1 else c1) = p1 ∨ (if k = 0 then q1 else if k = 1 then p1 else c1) = c1
    by_cases h0 : k = 0
    · rw [if_pos h0]; exact Or.inl rfl
    · rw [if_neg h0]
      by_cases h1 : k = 1
      · rw [if_pos h1]; exact Or.inr (Or.inl rfl)
      · rw [if_neg h1]; exact Or.inr (Or.inr rfl)
  have hI : LInv s.heap.size D ka (fun (k _ : Nat) => if k = 0 then q1 else if k = 1 then p1 else c1) a 0 o (fun _ => lN 0) (mkM 0 0 z0 z0 z0 z0 z0 zF z0 zF (fun _ => 0)) H5 :=
    ⟨XInv_0 k1 k2 k3 n1 n2 g3, hM5, mOk_0, haI, k4,
      fun k i hv => (had k i hv).elim (fun e => by rw [e]; exact f1) (fun h => h.elim (fun e => by rw [e]; exact f3) (fun e => by rw [e]; exact f4)), m4, fo,
      fun k i j hv hj e => (had k i hv).elim (fun e1 => m1 j hj (e.symm.trans e1)) (fun h => h.elim (fun e1 => m2 j hj (e.symm.trans e1)) (fun e1 => m3 j hj (e.symm.trans e1))),
      fun k i hv e => (had k i hv).elim (fun e1 => r1 (e1.symm.trans e)) (fun h => h.elim (fun e1 => r2 (e1.symm.trans e)) (fun e1 => r3 (e1.symm.trans e))), r4⟩
  refine W.widen (k := 14 + 3 * 0) (n := 758 + 28 * 0) (by omega) (by omega) ?_
  exact law_loop hl0 hL C0 hK hN hT (L + 1) 0 (by omega) (by omega) _ _ 0 _ H5 locs ls hI hS (by rw [e0]; exact lv_sub hl [4, 3, 2, 1, 0] rfl)
/-- from the entry, for every script of at most 3072 ints, the law comes to its end with true -/
theorem whole_start {p : Program} {e : Env} {s : State} {m : MethodId} {below : List Frame} {meth : Method} {c : Code} (l : Launch) (hl0 : l.stackTraces = false) {b L : Nat} {xs : Nat → Int32} (hL : L ≤ 3072) (C0 : lw_At p s m meth c b L xs) : W p l e room_1 s m #[Value.ref b] below meth c s.heap [] 0 0 (lw_Z below #[Value.ref b] s) (entryFrame m ([Value.ref b] : List Value).toArray 8) := by
  have hts0 := C0.2.2.2.2.2.1
  have hgv := C0.2.2.2.2.2.2.2.2.2
  obtain ⟨D, ka, hK⟩ := start_K hts0
  have hl := lv_entry ([.ref b]) (n := 8) (Nat.le_of_ble_eq_true rfl)
  rw [lg_entry_eq]
  generalize (lg_sl ([.ref b]) ++ List.replicate (8 - (lg_sl ([.ref b])).length) Slot.unset).toArray = ls at hl ⊢
  exact law_first hl0 hL C0 hK (nsW.of hts0) (start_T hts0 hgv) hl
