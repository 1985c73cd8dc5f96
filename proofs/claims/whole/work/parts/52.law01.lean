set_option maxHeartbeats 4000000 in
set_option maxRecDepth 100000 in
theorem law_c1 {p : Program} {l : Launch} {e : Env} {s : State} {m : MethodId} {below : List Frame} {meth : Method} {c : Code} {b L : Nat} {xs : Nat → Int32} {D : va_G} {ka : Nat → ClassId} {a : Nat → Nat} {o j : Nat} (hl0 : l.stackTraces = false) (hL : L ≤ 3072) (C0 : lw_At p s m meth c b L xs) (hK : va_K D vwCl (tyL ka) s) (hN : nsW s) (hT : thW (lA s) s.heap s) (hj : 6 * j + 6 ≤ L) (kk : LK p l e s m below meth c b D ka a o j) (u : MSt) (ad : Nat → Nat → Nat) (tv : Nat) (f : Nat → Int64) (H : Heap) (locs : List Loc) (ls : Array Slot) (hI : LInv s.heap.size D ka ad a tv o f u H) (hS : va_S (lA s) s.heap H locs) (hl : lv_has ls 8 [(0, .ref b), (1, .ref (ad 0 0)), (2, .ref (a 0)), (3, .ref o), (4, .int (nI (6 * j)))]) : W p l e room_1 s m #[Value.ref b] below meth c H locs (14 + 3 * j) (758 + 28 * j) (lw_Z below #[Value.ref b] s) (F0 m 213 ls []) := by
  obtain ⟨hx, hb, hr, hml, hown, hts0, hXs, hbl, hlocks, hgv⟩ := C0
  have hts : ∀ w ∈ gT, w.before #[Value.ref b] s = true := fun w h => hts0 w (List.mem_filter.mp h).1
  have hbA : ¬ lA s b := Nat.not_le.mpr hbl
  have hsz := hS.1
  obtain ⟨⟨np, nc⟩, ⟨pe, an, up, dn⟩, ⟨rw, so, mn⟩, ⟨wd, wv⟩⟩ := u
  obtain ⟨hX, hM, hO, haI, ho, hF1, hF2, hF3, hF4, hF5, hF6⟩ := id hI
  have hX : XInv D ka ad np nc pe an up dn rw so mn wd wv H := hX
  have hM : va_P D vwCl (mW ka a tv np nc pe an up dn rw so mn wd wv) H := hM
  have hO : mOk np nc pe an up dn rw so mn wd wv := hO
  have hF1 : ∀ k i, vl np nc k i → s.heap.size ≤ ad k i := hF1
  have hmA : ∀ q, mA a q → lA s q := fun q ⟨i, hi, e9⟩ => by rw [← e9]; exact hF2 i hi
  refine lv_aload_n hx hb dL_law_213 rfl (lv_at hl 1 rfl) ?_
  have hOwn : ∀ q, (fun z => (z = ad 0 0 ∨ z = ad 2 0) ∨ H.size ≤ z) q → (∃ k i, vl np nc k i ∧ q = ad k i) ∨ H.size ≤ q := fun q h9 => h9.elim (fun h8 => Or.inl (h8.elim (fun e9 => ⟨0, 0, vl_0, e9⟩) (fun e9 => ⟨2, 0, vl_2, e9⟩))) Or.inr
  have hOA : ∀ q, (∃ k i, vl np nc k i ∧ q = ad k i) ∨ H.size ≤ q → lA s q := fun q h9 => h9.elim (fun ⟨k, i, hv, e9⟩ => by rw [e9]; exact hF1 k i hv) (fun h8 => Nat.le_trans hsz h8)
  refine va_calli (va_runV (As := []) (rest := []) ⟨hx, hb, hml, hown, hts⟩ (x_chain l D ka H ad np nc pe an up dn rw so mn wd wv  hX hO) (cw_V 0 hts tb_67 rfl rfl tb_64 tb_1 tb_65 tb_66 (by decide +kernel) ⟨Nat.le_of_ble_eq_true rfl, Nat.le_of_ble_eq_true rfl⟩) (ro_V (ci := 2) hK hN hX.o rfl) rfl rfl hl.1 rfl (lv_room (Nat.le_of_ble_eq_true rfl)) dL_law_214 ⟨by show 14 + 3 * j + 3 ≤ 610041; omega, by show 758 + 28 * j + 28 ≤ 7265980; omega⟩) hS (fun q _ h9 => hOA q (hOwn q h9)) (fun q h9 => hOA q (hOwn q h9)) (fun r w2 t H1 locs ht hvm hw hB hz1 hk1 hS => ?_)
  obtain ⟨u2, ad2⟩ := w2
  (try dsimp only at hw hB)
  rw [ht] at hB
  obtain ⟨hX2, hFr⟩ := hB
  obtain ⟨hM1, ho1, g6, g9, g10⟩ := hI.mid hsz (fun q hq h9 => (hOwn q h9).resolve_right (Nat.not_le.mpr hq)) hk1 hFr
  have hM1 : va_P D vwCl (mW ka a tv np nc pe an up dn rw so mn wd wv) H1 := hM1
  refine lv_aload_n hx hb dL_law_217 rfl (lv_at hl 2 rfl) ?_
  refine va_calli (va_runV (As := []) (rest := [.int r]) ⟨hx, hb, hml, hown, hts⟩ (n_chain l D ka H1 a tv np nc pe an up dn rw so mn wd wv  hM1 hO haI) (cw_V 0 hts tb_351 rfl rfl tb_348 tb_2 tb_349 tb_350 (by decide +kernel) ⟨Nat.le_of_ble_eq_true rfl, Nat.le_of_ble_eq_true rfl⟩) (ro_V (ci := 3) hK hN (hM1.nth 0 rfl) rfl) rfl rfl hl.1 rfl (lv_room (Nat.le_of_ble_eq_true rfl)) dL_law_218 ⟨by show 14 + 3 * j + 3 + 0 ≤ 610041; omega, by show 758 + 28 * j + 28 + 0 ≤ 7265980; omega⟩) hS (fun q _ h9 => hmA q h9) (fun q h9 => hmA q h9) (fun r2 u3 t2 H2 locs ht2 hvm2 hw2 hB2 hz2 hk2 hS => ?_)
  (try dsimp only at hw2 hB2)
  rw [ht2] at hB2
  have e2 := hw2.trans hw.symm
  obtain ⟨rfl, rfl⟩ : u3 = u2 ∧ r2 = r := ⟨congrArg Prod.fst e2, congrArg Prod.snd e2⟩
  have hOK : mOks u3 := by have h9 := opChain_ok hO; rw [← hw2] at h9; exact h9
  have hI2 := LInv.fin hX2 hB2 hOK haI ho1 g6 hF2 hF3 g9 g10 hF6 hk2
  refine lv_icmp_eq (tgt := 724) hx hb dL_law_221 (by decide) (fun _ => ?_) (fun h9 => absurd rfl h9)
  refine W.widen (k := 14 + 3 * (j + 1)) (n := 758 + 28 * (j + 1)) (by omega) (by omega) ?_
  exact kk u3 ad2 0 f H2 locs ls hI2 hS (by rw [show ad2 0 0 = ad 0 0 from hFr.1]; exact lv_sub hl [0, 1, 2, 3, 4] rfl)
