set_option maxHeartbeats 4000000 in
set_option maxRecDepth 100000 in
theorem law_c10 {p : Program} {l : Launch} {e : Env} {s : State} {m : MethodId} {below : List Frame} {meth : Method} {c : Code} {b L : Nat} {xs : Nat → Int32} {D : va_G} {ka : Nat → ClassId} {a : Nat → Nat} {o j : Nat} (hl0 : l.stackTraces = false) (hL : L ≤ 3072) (C0 : lw_At p s m meth c b L xs) (hK : va_K D vwCl (tyL ka) s) (hN : nsW s) (hT : thW (lA s) s.heap s) (hj : 6 * j + 6 ≤ L) (kk : LK p l e s m below meth c b D ka a o j) (u : MSt) (ad : Nat → Nat → Nat) (tv : Nat) (f : Nat → Int64) (H : Heap) (locs : List Loc) (ls : Array Slot) (hI : LInv s.heap.size D ka ad a tv o f u H) (hS : va_S (lA s) s.heap H locs) (hl : lv_has ls 8 [(0, .ref b), (1, .ref (ad 0 0)), (2, .ref (a 0)), (3, .ref o), (4, .int (nI (6 * j)))]) : W p l e room_1 s m #[Value.ref b] below meth c H locs (14 + 3 * j) (758 + 28 * j) (lw_Z below #[Value.ref b] s) (F0 m 699 ls []) := by
  obtain ⟨hx, hb, hr, hml, hown, hts0, hXs, hbl, hlocks, hgv⟩ := C0
  have hts : ∀ w ∈ gT, w.before #[Value.ref b] s = true := fun w h => hts0 w (List.mem_filter.mp h).1
  have hbA : ¬ lA s b := Nat.not_le.mpr hbl
  have hsz := hS.1
  obtain ⟨⟨np, nc⟩, ⟨pe, an, up, dn⟩, ⟨rw, so, mn⟩, ⟨wd, wv⟩⟩ := u
  obtain ⟨hX, hM, hO, haI, ho, hF1, hF2, hF3, hF4, hF5, hF6⟩ := id hI
  have hX : XInv D ka ad np nc pe an up dn rw so mn wd wv H := hX
  have hM : va_P D vwCl (mW ka a tv np nc pe an up dn rw so mn wd wv) H := hM
  have hO : mOk np nc pe an up dn rw so mn wd wv := hO
  have hF1 : ∀ k i, vl np nc k i → s.heap.size ≤ ad k i := hF1
  have hmA : ∀ q, mA a q → lA s q := fun q ⟨i, hi, e9⟩ => by rw [← e9]; exact hF2 i hi
  refine lv_aload_n hx hb dL_law_699 rfl (lv_at hl 1 rfl) ?_
  refine lv_aload_n hx hb dL_law_700 rfl (lv_at hl 0 rfl) ?_
  refine lv_iload hx hb dL_law_701 (lv_at hl 4 rfl) ?_
  refine lv_iconst (v := nI 1) hx hb dL_law_703 (by decide) ?_
  refine n_iadd hx hb dL_law_704 ?_
  refine g_sld hx hb hXs hbl hbA hS (k := (6 * j) + 1) (by omega) (by omega) dL_law_705 ?_
  refine vp_callSi (va_Run.run (va_runV (As := [.int (xs ((6 * j) + 1))]) (rest := []) ⟨hx, hb, hml, hown, hts⟩ (x_plain l D ka H ad np nc pe an up dn rw so mn wd wv (xs ((6 * j) + 1)) hX hO) (cw_V 1 hts tb_214 rfl rfl tb_211 tb_1 tb_212 tb_213 (by decide +kernel) ⟨Nat.le_of_ble_eq_true rfl, Nat.le_of_ble_eq_true rfl⟩) (ro_V (ci := 2) hK hN hX.o rfl) rfl rfl hl.1 rfl (lv_room (Nat.le_of_ble_eq_true rfl)) dL_law_706 ⟨by show 14 + 3 * j + 0 ≤ 610041; omega, by show 758 + 28 * j + 0 ≤ 7265980; omega⟩)) (fun r er => ?_)
  subst er
  refine lv_aload_n hx hb dL_law_709 rfl (lv_at hl 2 rfl) ?_
  refine lv_aload_n hx hb dL_law_710 rfl (lv_at hl 0 rfl) ?_
  refine lv_iload hx hb dL_law_711 (lv_at hl 4 rfl) ?_
  refine lv_iconst (v := nI 1) hx hb dL_law_713 (by decide) ?_
  refine n_iadd hx hb dL_law_714 ?_
  refine g_sld hx hb hXs hbl hbA hS (k := (6 * j) + 1) (by omega) (by omega) dL_law_715 ?_
  refine va_calli (va_runV (As := [.int (xs ((6 * j) + 1))]) (rest := [.int (bI (spPlain nc pe up rw so mn (xs ((6 * j) + 1))))]) ⟨hx, hb, hml, hown, hts⟩ (n_plain l D ka H a tv np nc pe an up dn rw so mn wd wv (xs ((6 * j) + 1)) hM hO haI) (cw_V 1 hts tb_431 rfl rfl tb_428 tb_2 tb_429 tb_430 (by decide +kernel) ⟨Nat.le_of_ble_eq_true rfl, Nat.le_of_ble_eq_true rfl⟩) (ro_V (ci := 3) hK hN (hM.nth 0 rfl) rfl) rfl rfl hl.1 rfl (lv_room (Nat.le_of_ble_eq_true rfl)) dL_law_716 ⟨by show 14 + 3 * j + 0 ≤ 610041; omega, by show 758 + 28 * j + 0 ≤ 7265980; omega⟩) hS (fun q _ h9 => hmA q h9) (fun q h9 => hmA q h9) (fun r2 u3 t2 H2 locs ht2 hvm2 hw2 hB2 hz2 hk2 hS => ?_)
  (try dsimp only at hw2 hB2)
  rw [ht2] at hB2
  subst hw2
  have hI2 := LInv.fin (u := mkM np nc pe an up dn rw so mn wd wv) hX hB2 hO haI ho hF1 hF2 hF3 hF4 hF5 hF6 hk2
  refine lv_icmp_eq (tgt := 724) hx hb dL_law_719 (by decide) (fun _ => ?_) (fun h9 => absurd rfl h9)
  refine W.widen (k := 14 + 3 * (j + 1)) (n := 758 + 28 * (j + 1)) (by omega) (by omega) ?_
  exact kk (mkM np nc pe an up dn rw so mn wd wv) ad 0 f H2 locs ls hI2 hS (lv_sub hl [0, 1, 2, 3, 4] rfl)
