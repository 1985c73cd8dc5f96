set_option maxHeartbeats 4000000 in
set_option maxRecDepth 100000 in
theorem law_c8 {p : Program} {l : Launch} {e : Env} {s : State} {m : MethodId} {below : List Frame} {meth : Method} {c : Code} {b L : Nat} {xs : Nat → Int32} {D : va_G} {ka : Nat → ClassId} {a : Nat → Nat} {o j : Nat} (hl0 : l.stackTraces = false) (hL : L ≤ 3072) (C0 : lw_At p s m meth c b L xs) (hK : va_K D vwCl (tyL ka) s) (hN : nsW s) (hT : thW (lA s) s.heap s) (hj : 6 * j + 6 ≤ L) (kk : LK p l e s m below meth c b D ka a o j) (u : MSt) (ad : Nat → Nat → Nat) (tv : Nat) (f : Nat → Int64) (H : Heap) (locs : List Loc) (ls : Array Slot) (hI : LInv s.heap.size D ka ad a tv o f u H) (hS : va_S (lA s) s.heap H locs) (hl : lv_has ls 8 [(0, .ref b), (1, .ref (ad 0 0)), (2, .ref (a 0)), (3, .ref o), (4, .int (nI (6 * j)))]) : W p l e room_1 s m #[Value.ref b] below meth c H locs (14 + 3 * j) (758 + 28 * j) (lw_Z below #[Value.ref b] s) (F0 m 618 ls []) := by
  obtain ⟨hx, hb, hr, hml, hown, hts0, hXs, hbl, hlocks, hgv⟩ := C0
  have hts : ∀ w ∈ gT, w.before #[Value.ref b] s = true := fun w h => hts0 w (List.mem_filter.mp h).1
  have hbA : ¬ lA s b := Nat.not_le.mpr hbl
  have hsz := hS.1
  obtain ⟨⟨np, nc⟩, ⟨pe, an, up, dn⟩, ⟨rw, so, mn⟩, ⟨wd, wv⟩⟩ := u
  obtain ⟨hX, hM, hO, haI, ho, hF1, hF2, hF3, hF4, hF5, hF6⟩ := id hI
  have hX : XInv D ka ad np nc pe an up dn rw so mn wd wv H := hX
  have hM : va_P D vwCl (mW ka a tv np nc pe an up dn rw so mn wd wv) H := hM
  have hO : mOk np nc pe an up dn rw so mn wd wv := hO
  have hF1 : ∀ k i, vl np nc k i → s.heap.size ≤ ad k i := hF1
  have hmA : ∀ q, mA a q → lA s q := fun q ⟨i, hi, e9⟩ => by rw [← e9]; exact hF2 i hi
  refine lv_aload_n hx hb dL_law_618 rfl (lv_at hl 1 rfl) ?_
  refine lv_aload_n hx hb dL_law_619 rfl (lv_at hl 0 rfl) ?_
  refine lv_iload hx hb dL_law_620 (lv_at hl 4 rfl) ?_
  refine lv_iconst (v := nI 1) hx hb dL_law_622 (by decide) ?_
  refine n_iadd hx hb dL_law_623 ?_
  refine g_sld hx hb hXs hbl hbA hS (k := (6 * j) + 1) (by omega) (by omega) dL_law_624 ?_
  refine lv_aload_n hx hb dL_law_625 rfl (lv_at hl 3 rfl) ?_
  have hoA : ∀ q, (q = o ∨ H.size ≤ q) → lA s q := fun q h9 => h9.elim (fun e9 => by rw [e9]; exact hF3) (fun h8 => Nat.le_trans hsz h8)
  refine va_calli (vx_runSW (As := [.ref (ad 0 0), .int (xs ((6 * j) + 1)), .ref o]) (rest := []) ⟨hx, hb, hml, hown, hts⟩ (l_cycle l D ka H hl0 (lA s) ad np nc pe an up dn rw so mn wd wv (xs ((6 * j) + 1)) o f hX hO ho) (cw_SW 3 hts tL_c rfl rfl tb_215 tb_0 tb_216 (by decide +kernel) ⟨Nat.le_of_ble_eq_true rfl, Nat.le_of_ble_eq_true rfl⟩) (th_S hK hN (hT.kept hS.2.1)) rfl rfl hl.1 rfl (lv_room (Nat.le_of_ble_eq_true rfl)) dL_law_626 ⟨by show 14 + 3 * j + 1 ≤ 610041; omega, by show 758 + 28 * j + 6 ≤ 7265980; omega⟩) hS (fun q _ h9 => hoA q h9) (fun q h9 => hoA q h9) (fun r f2 t H1 locs ht hvm hw hB hz1 hk1 hS => ?_)
  (try dsimp only at hw hB)
  rw [ht] at hB
  obtain ⟨er, hf2⟩ := hw
  have hX1 : XInv D ka ad np nc pe an up dn rw so mn wd wv H1 := ⟨fun k i hv => (hX.1 k i hv).kept (hk1 _ (hX.1 k i hv).lt (fun h9 => h9.elim (hF5 k i hv) (fun h8 => absurd h8 (Nat.not_le.mpr (hX.1 k i hv).lt)))), hX.2⟩
  have hM1 : va_P D vwCl (mW ka a tv np nc pe an up dn rw so mn wd wv) H1 := hM.kept (fun k q hk => hk1 q.1 (hM k q hk).lt (fun h9 => h9.elim (fun e9 => by obtain ⟨k10, hq⟩ := mW_a (u := mkM np nc pe an up dn rw so mn wd wv) k q hk; exact hF6 k k10 (hq ▸ e9)) (fun h8 => absurd h8 (Nat.not_le.mpr (hM k q hk).lt))))
  refine lv_istore (lv' := [(5, .int r), (0, .ref b), (1, .ref (ad 0 0)), (2, .ref (a 0)), (3, .ref o), (4, .int (nI (6 * j)))]) hx hb dL_law_629 hl (by decide) rfl (fun ls hl => ?_)
  refine lv_aload_n hx hb dL_law_631 rfl (lv_at hl 3 rfl) ?_
  refine lv_aload_n hx hb dL_law_632 rfl (lv_at hl 1 rfl) ?_
  refine lv_iload hx hb dL_law_633 (lv_at hl 5 rfl) ?_
  refine lv_iconst (v := nI 1) hx hb dL_law_635 (by decide) ?_
  refine n_iadd hx hb dL_law_636 ?_
  refine g_sld hx hb hXs hbl hbA hS (k := (6 * j) + 1) (by omega) (by omega) dL_law_637 ?_
  refine va_calll (va_runV (As := [.int (xs ((6 * j) + 1))]) (rest := []) ⟨hx, hb, hml, hown, hts⟩ (n_cycle l D ka H1 a tv np nc pe an up dn rw so mn wd wv (xs ((6 * j) + 1)) hM1 hO haI) (cw_V 1 hts tb_410 rfl rfl tb_407 tb_2 tb_408 tb_409 (by decide +kernel) ⟨Nat.le_of_ble_eq_true rfl, Nat.le_of_ble_eq_true rfl⟩) (ro_V (ci := 3) hK hN (hM1.nth 0 rfl) rfl) rfl rfl hl.1 rfl (lv_room (Nat.le_of_ble_eq_true rfl)) dL_law_638 ⟨by show 14 + 3 * j + 1 + 0 ≤ 610041; omega, by show 758 + 28 * j + 6 + 0 ≤ 7265980; omega⟩) hS (fun q _ h9 => hmA q h9) (fun q h9 => hmA q h9) (fun r2 u3 t2 H2 locs ht2 hvm2 hw2 hB2 hz2 hk2 hS => ?_)
  (try dsimp only at hw2 hB2)
  rw [ht2] at hB2
  have hM2 : va_P D vwCl (mW ka a (if (!spEmp nc mn (xs ((6 * j) + 1)) && lack pe rw mn (xs ((6 * j) + 1)).toInt.toNat) = true then 1 else 0) np nc pe an up dn rw so mn wd wv) H2 := hB2
  have hX2 : XInv D ka ad np nc pe an up dn rw so mn wd wv H2 := ⟨fun k i hv => (hX1.1 k i hv).kept (hk2 _ (hX1.1 k i hv).lt (fun ⟨j9, hj9, e9⟩ => hF4 k i j9 hv hj9 e9.symm)), hX1.2⟩
  have ho2 : va_at D vwCl (o, lonE (ka 3) 1 f2) H2 := hB.kept (hk2 _ hB.lt (fun ⟨j9, hj9, e9⟩ => hF6 j9 hj9 e9))
  refine lv_lstore (lv' := [(6, .long r2), (5, .int r), (0, .ref b), (1, .ref (ad 0 0)), (2, .ref (a 0)), (3, .ref o), (4, .int (nI (6 * j)))]) hx hb dL_law_641 hl (by decide) rfl (fun ls hl => ?_)
  refine lv_aload_n hx hb dL_law_643 rfl (lv_at hl 4 rfl) ?_
  refine va_calli (va_runV (As := []) (rest := []) ⟨hx, hb, hml, hown, hts⟩ (n_thrown l D ka H2 a (if (!spEmp nc mn (xs ((6 * j) + 1)) && lack pe rw mn (xs ((6 * j) + 1)).toInt.toNat) = true then 1 else 0) np nc pe an up dn rw so mn wd wv hM2 hO haI) (cw_V 0 hts tb_342 rfl rfl tb_339 tb_2 tb_340 tb_341 (by decide +kernel) ⟨Nat.le_of_ble_eq_true rfl, Nat.le_of_ble_eq_true rfl⟩) (ro_V (ci := 3) hK hN (hM2.nth 0 rfl) rfl) rfl rfl hl.1 rfl (lv_room (Nat.le_of_ble_eq_true rfl)) dL_law_644 ⟨by show 14 + 3 * j + 1 + 0 + 0 ≤ 610041; omega, by show 758 + 28 * j + 6 + 0 + 0 ≤ 7265980; omega⟩) hS (fun q _ h9 => hmA q h9) (fun q h9 => hmA q h9) (fun r3 u4 t3 H3 locs ht3 hvm3 hw3 hB3 hz3 hk3 hS => ?_)
  (try dsimp only at hw3 hB3)
  rw [ht3] at hB3
  subst hw3
  have hI2 := LInv.fin (u := mkM np nc pe an up dn rw so mn wd wv) (f := f2) hX2 hB3 hO haI ho2 hF1 hF2 hF3 hF4 hF5 hF6 hk3
  have ho3 := hI2.2.2.2.2.1
  refine lv_iload hx hb dL_law_647 (lv_at hl 1 rfl) ?_
  have etv : nI (if (!spEmp nc mn (xs ((6 * j) + 1)) && lack pe rw mn (xs ((6 * j) + 1)).toInt.toNat) = true then 1 else 0) = r := by rw [er]; (try split) <;> rfl
  refine lv_icmp_eq (tgt := 654) hx hb dL_law_649 (by decide) (fun _ => ?_) (fun h9 => absurd etv h9)
  refine lv_iload hx hb dL_law_654 (lv_at hl 1 rfl) ?_
  refine r_if_ne (tgt := 670) hx hb dL_law_656 (by decide) (fun g1 => ?_) (fun g1 => ?_)
  · refine lv_goto (tgt := 724) hx hb dL_law_670 (by decide) ?_
    refine W.widen (k := 14 + 3 * (j + 1)) (n := 758 + 28 * (j + 1)) (by omega) (by omega) ?_
    exact kk (mkM np nc pe an up dn rw so mn wd wv) ad (if (!spEmp nc mn (xs ((6 * j) + 1)) && lack pe rw mn (xs ((6 * j) + 1)).toInt.toNat) = true then 1 else 0) f2 H3 locs ls hI2 hS (lv_sub hl [2, 3, 4, 5, 6] rfl)
  · have hth : (!spEmp nc mn (xs ((6 * j) + 1)) && lack pe rw mn (xs ((6 * j) + 1)).toInt.toNat) = false := by
      cases h9 : (!spEmp nc mn (xs ((6 * j) + 1)) && lack pe rw mn (xs ((6 * j) + 1)).toInt.toNat) with
      | false => rfl
      | true => rw [er, h9] at g1; exact absurd g1 (by decide +kernel)
    have hor : spEmp nc mn (xs ((6 * j) + 1)) = true ∨ lack pe rw mn (xs ((6 * j) + 1)).toInt.toNat = false := by
      revert hth; cases spEmp nc mn (xs ((6 * j) + 1)) <;> cases lack pe rw mn (xs ((6 * j) + 1)).toInt.toNat <;> simp
    have er2 := hw2 hor
    have ef2 := hf2 hth
    refine lv_aload_n hx hb dL_law_659 rfl (lv_at hl 5 rfl) ?_
    refine lv_iconst (v := nI 0) hx hb dL_law_660 (by decide) ?_
    refine g_laldv (v := f2 0) hx hb hK 3 ho3 rfl (by decide) (by decide) (rfl) dL_law_661 ?_
    refine lv_lload hx hb dL_law_662 (lv_at hl 0 rfl) ?_
    refine r_lcmp_eq (tgt := 670) hx hb dL_law_664 dL_law_665 (by decide) (fun _ => ?_) (fun h9 => absurd (by rw [ef2, er2]) h9)
    refine lv_goto (tgt := 724) hx hb dL_law_670 (by decide) ?_
    refine W.widen (k := 14 + 3 * (j + 1)) (n := 758 + 28 * (j + 1)) (by omega) (by omega) ?_
    exact kk (mkM np nc pe an up dn rw so mn wd wv) ad (if (!spEmp nc mn (xs ((6 * j) + 1)) && lack pe rw mn (xs ((6 * j) + 1)).toInt.toNat) = true then 1 else 0) f2 H3 locs ls hI2 hS (lv_sub hl [2, 3, 4, 5, 6] rfl)
