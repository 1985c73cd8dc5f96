set_option maxHeartbeats 4000000 in
set_option maxRecDepth 100000 in
theorem law_c4 {p : Program} {l : Launch} {e : Env} {s : State} {m : MethodId} {below : List Frame} {meth : Method} {c : Code} {b L : Nat} {xs : Nat → Int32} {D : va_G} {ka : Nat → ClassId} {a : Nat → Nat} {o j : Nat} (hl0 : l.stackTraces = false) (hL : L ≤ 3072) (C0 : lw_At p s m meth c b L xs) (hK : va_K D vwCl (tyL ka) s) (hN : nsW s) (hT : thW (lA s) s.heap s) (hj : 6 * j + 6 ≤ L) (kk : LK p l e s m below meth c b D ka a o j) (u : MSt) (ad : Nat → Nat → Nat) (tv : Nat) (f : Nat → Int64) (H : Heap) (locs : List Loc) (ls : Array Slot) (hI : LInv s.heap.size D ka ad a tv o f u H) (hS : va_S (lA s) s.heap H locs) (hl : lv_has ls 8 [(0, .ref b), (1, .ref (ad 0 0)), (2, .ref (a 0)), (3, .ref o), (4, .int (nI (6 * j)))]) : W p l e room_1 s m #[Value.ref b] below meth c H locs (14 + 3 * j) (758 + 28 * j) (lw_Z below #[Value.ref b] s) (F0 m 345 ls []) := by
  obtain ⟨hx, hb, hr, hml, hown, hts0, hXs, hbl, hlocks, hgv⟩ := C0
  have hts : ∀ w ∈ gT, w.before #[Value.ref b] s = true := fun w h => hts0 w (List.mem_filter.mp h).1
  have hbA : ¬ lA s b := Nat.not_le.mpr hbl
  have hsz := hS.1
  obtain ⟨⟨np, nc⟩, ⟨pe, an, up, dn⟩, ⟨rw, so, mn⟩, ⟨wd, wv⟩⟩ := u
  obtain ⟨hX, hM, hO, haI, ho, hF1, hF2, hF3, hF4, hF5, hF6⟩ := id hI
  have hX : XInv D ka ad np nc pe an up dn rw so mn wd wv H := hX
  have hM : va_P D vwCl (mW ka a tv np nc pe an up dn rw so mn wd wv) H := hM
  have hO : mOk np nc pe an up dn rw so mn wd wv := hO
  have hF1 : ∀ k i, vl np nc k i → s.heap.size ≤ ad k i := hF1
  have hmA : ∀ q, mA a q → lA s q := fun q ⟨i, hi, e9⟩ => by rw [← e9]; exact hF2 i hi
  refine lv_aload_n hx hb dL_law_345 rfl (lv_at hl 1 rfl) ?_
  refine lv_aload_n hx hb dL_law_346 rfl (lv_at hl 0 rfl) ?_
  refine lv_iload hx hb dL_law_347 (lv_at hl 4 rfl) ?_
  refine lv_iconst (v := nI 1) hx hb dL_law_349 (by decide) ?_
  refine n_iadd hx hb dL_law_350 ?_
  refine g_sld hx hb hXs hbl hbA hS (k := (6 * j) + 1) (by omega) (by omega) dL_law_351 ?_
  refine lv_aload_n hx hb dL_law_352 rfl (lv_at hl 0 rfl) ?_
  refine lv_iload hx hb dL_law_353 (lv_at hl 4 rfl) ?_
  refine lv_iconst (v := nI 2) hx hb dL_law_355 (by decide) ?_
  refine n_iadd hx hb dL_law_356 ?_
  refine g_sld hx hb hXs hbl hbA hS (k := (6 * j) + 2) (by omega) (by omega) dL_law_357 ?_
  refine r_if_eq (tgt := 365) hx hb dL_law_358 (by decide) (fun f1 => ?_) (fun f1 => ?_)
  · refine lv_iconst (v := nI 0) hx hb dL_law_365 (by decide) ?_
    rw [show nI 0 = bI false from rfl]
    refine vp_callSl (va_Run.run (va_runV (As := [.int (xs ((6 * j) + 1)), .int (bI false)]) (rest := []) ⟨hx, hb, hml, hown, hts⟩ (x_best l D ka H ad np nc pe an up dn rw so mn wd wv (xs ((6 * j) + 1)) false hX hO) (cw_V 2 hts tb_143 rfl rfl tb_140 tb_1 tb_141 tb_142 (by decide +kernel) ⟨Nat.le_of_ble_eq_true rfl, Nat.le_of_ble_eq_true rfl⟩) (ro_V (ci := 2) hK hN hX.o rfl) rfl rfl hl.1 rfl (lv_room (Nat.le_of_ble_eq_true rfl)) dL_law_366 ⟨by show 14 + 3 * j + 0 ≤ 610041; omega, by show 758 + 28 * j + 0 ≤ 7265980; omega⟩)) (fun r er => ?_)
    subst er
    refine lv_aload_n hx hb dL_law_369 rfl (lv_at hl 2 rfl) ?_
    refine lv_aload_n hx hb dL_law_370 rfl (lv_at hl 0 rfl) ?_
    refine lv_iload hx hb dL_law_371 (lv_at hl 4 rfl) ?_
    refine lv_iconst (v := nI 1) hx hb dL_law_373 (by decide) ?_
    refine n_iadd hx hb dL_law_374 ?_
    refine g_sld hx hb hXs hbl hbA hS (k := (6 * j) + 1) (by omega) (by omega) dL_law_375 ?_
    refine lv_aload_n hx hb dL_law_376 rfl (lv_at hl 0 rfl) ?_
    refine lv_iload hx hb dL_law_377 (lv_at hl 4 rfl) ?_
    refine lv_iconst (v := nI 2) hx hb dL_law_379 (by decide) ?_
    refine n_iadd hx hb dL_law_380 ?_
    refine g_sld hx hb hXs hbl hbA hS (k := (6 * j) + 2) (by omega) (by omega) dL_law_381 ?_
    refine r_if_eq (tgt := 389) hx hb dL_law_382 (by decide) (fun f2 => ?_) (fun f2 => ?_)
    · refine lv_iconst (v := nI 0) hx hb dL_law_389 (by decide) ?_
      rw [show nI 0 = bI false from rfl]
      refine va_calll (va_runV (As := [.int (xs ((6 * j) + 1)), .int (bI false)]) (rest := [.long (spBest nc an rw mn (xs ((6 * j) + 1)) false)]) ⟨hx, hb, hml, hown, hts⟩ (n_best l D ka H a tv np nc pe an up dn rw so mn wd wv (xs ((6 * j) + 1)) false hM hO haI) (cw_V 2 hts tb_392 rfl rfl tb_389 tb_2 tb_390 tb_391 (by decide +kernel) ⟨Nat.le_of_ble_eq_true rfl, Nat.le_of_ble_eq_true rfl⟩) (ro_V (ci := 3) hK hN (hM.nth 0 rfl) rfl) rfl rfl hl.1 rfl (lv_room (Nat.le_of_ble_eq_true rfl)) dL_law_390 ⟨by show 14 + 3 * j + 0 ≤ 610041; omega, by show 758 + 28 * j + 0 ≤ 7265980; omega⟩) hS (fun q _ h9 => hmA q h9) (fun q h9 => hmA q h9) (fun r2 u3 t2 H2 locs ht2 hvm2 hw2 hB2 hz2 hk2 hS => ?_)
      (try dsimp only at hw2 hB2)
      rw [ht2] at hB2
      subst hw2
      have hI2 := LInv.fin (u := mkM np nc pe an up dn rw so mn wd wv) hX hB2 hO haI ho hF1 hF2 hF3 hF4 hF5 hF6 hk2
      refine r_lcmp_eq (tgt := 724) hx hb dL_law_393 dL_law_394 (by decide) (fun _ => ?_) (fun h9 => absurd rfl h9)
      refine W.widen (k := 14 + 3 * (j + 1)) (n := 758 + 28 * (j + 1)) (by omega) (by omega) ?_
      exact kk (mkM np nc pe an up dn rw so mn wd wv) ad 0 f H2 locs ls hI2 hS (lv_sub hl [0, 1, 2, 3, 4] rfl)
    · exact absurd f1 f2
  · refine lv_iconst (v := nI 1) hx hb dL_law_361 (by decide) ?_
    refine lv_goto (tgt := 366) hx hb dL_law_362 (by decide) ?_
    rw [show nI 1 = bI true from rfl]
    refine vp_callSl (va_Run.run (va_runV (As := [.int (xs ((6 * j) + 1)), .int (bI true)]) (rest := []) ⟨hx, hb, hml, hown, hts⟩ (x_best l D ka H ad np nc pe an up dn rw so mn wd wv (xs ((6 * j) + 1)) true hX hO) (cw_V 2 hts tb_143 rfl rfl tb_140 tb_1 tb_141 tb_142 (by decide +kernel) ⟨Nat.le_of_ble_eq_true rfl, Nat.le_of_ble_eq_true rfl⟩) (ro_V (ci := 2) hK hN hX.o rfl) rfl rfl hl.1 rfl (lv_room (Nat.le_of_ble_eq_true rfl)) dL_law_366 ⟨by show 14 + 3 * j + 0 ≤ 610041; omega, by show 758 + 28 * j + 0 ≤ 7265980; omega⟩)) (fun r er => ?_)
    subst er
    refine lv_aload_n hx hb dL_law_369 rfl (lv_at hl 2 rfl) ?_
    refine lv_aload_n hx hb dL_law_370 rfl (lv_at hl 0 rfl) ?_
    refine lv_iload hx hb dL_law_371 (lv_at hl 4 rfl) ?_
    refine lv_iconst (v := nI 1) hx hb dL_law_373 (by decide) ?_
    refine n_iadd hx hb dL_law_374 ?_
    refine g_sld hx hb hXs hbl hbA hS (k := (6 * j) + 1) (by omega) (by omega) dL_law_375 ?_
    refine lv_aload_n hx hb dL_law_376 rfl (lv_at hl 0 rfl) ?_
    refine lv_iload hx hb dL_law_377 (lv_at hl 4 rfl) ?_
    refine lv_iconst (v := nI 2) hx hb dL_law_379 (by decide) ?_
    refine n_iadd hx hb dL_law_380 ?_
    refine g_sld hx hb hXs hbl hbA hS (k := (6 * j) + 2) (by omega) (by omega) dL_law_381 ?_
    refine r_if_eq (tgt := 389) hx hb dL_law_382 (by decide) (fun f2 => ?_) (fun f2 => ?_)
    · exact absurd f2 f1
    · refine lv_iconst (v := nI 1) hx hb dL_law_385 (by decide) ?_
      refine lv_goto (tgt := 390) hx hb dL_law_386 (by decide) ?_
      rw [show nI 1 = bI true from rfl]
      refine va_calll (va_runV (As := [.int (xs ((6 * j) + 1)), .int (bI true)]) (rest := [.long (spBest nc an rw mn (xs ((6 * j) + 1)) true)]) ⟨hx, hb, hml, hown, hts⟩ (n_best l D ka H a tv np nc pe an up dn rw so mn wd wv (xs ((6 * j) + 1)) true hM hO haI) (cw_V 2 hts tb_392 rfl rfl tb_389 tb_2 tb_390 tb_391 (by decide +kernel) ⟨Nat.le_of_ble_eq_true rfl, Nat.le_of_ble_eq_true rfl⟩) (ro_V (ci := 3) hK hN (hM.nth 0 rfl) rfl) rfl rfl hl.1 rfl (lv_room (Nat.le_of_ble_eq_true rfl)) dL_law_390 ⟨by show 14 + 3 * j + 0 ≤ 610041; omega, by show 758 + 28 * j + 0 ≤ 7265980; omega⟩) hS (fun q _ h9 => hmA q h9) (fun q h9 => hmA q h9) (fun r2 u3 t2 H2 locs ht2 hvm2 hw2 hB2 hz2 hk2 hS => ?_)
      (try dsimp only at hw2 hB2)
      rw [ht2] at hB2
      subst hw2
      have hI2 := LInv.fin (u := mkM np nc pe an up dn rw so mn wd wv) hX hB2 hO haI ho hF1 hF2 hF3 hF4 hF5 hF6 hk2
      refine r_lcmp_eq (tgt := 724) hx hb dL_law_393 dL_law_394 (by decide) (fun _ => ?_) (fun h9 => absurd rfl h9)
      refine W.widen (k := 14 + 3 * (j + 1)) (n := 758 + 28 * (j + 1)) (by omega) (by omega) ?_
      exact kk (mkM np nc pe an up dn rw so mn wd wv) ad 0 f H2 locs ls hI2 hS (lv_sub hl [0, 1, 2, 3, 4] rfl)
