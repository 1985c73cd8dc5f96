set_option maxHeartbeats 4000000 in
set_option maxRecDepth 100000 in
theorem law_c0 {p : Program} {l : Launch} {e : Env} {s : State} {m : MethodId} {below : List Frame} {meth : Method} {c : Code} {b L : Nat} {xs : Nat → Int32} {D : va_G} {ka : Nat → ClassId} {a : Nat → Nat} {o j : Nat} (hl0 : l.stackTraces = false) (hL : L ≤ 3072) (C0 : lw_At p s m meth c b L xs) (hK : va_K D vwCl (tyL ka) s) (hN : nsW s) (hT : thW (lA s) s.heap s) (hj : 6 * j + 6 ≤ L) (kk : LK p l e s m below meth c b D ka a o j) (u : MSt) (ad : Nat → Nat → Nat) (tv : Nat) (f : Nat → Int64) (H : Heap) (locs : List Loc) (ls : Array Slot) (hI : LInv s.heap.size D ka ad a tv o f u H) (hS : va_S (lA s) s.heap H locs) (hl : lv_has ls 8 [(0, .ref b), (1, .ref (ad 0 0)), (2, .ref (a 0)), (3, .ref o), (4, .int (nI (6 * j)))]) : W p l e room_1 s m #[Value.ref b] below meth c H locs (14 + 3 * j) (758 + 28 * j) (lw_Z below #[Value.ref b] s) (F0 m 100 ls []) := by
  obtain ⟨hx, hb, hr, hml, hown, hts0, hXs, hbl, hlocks, hgv⟩ := C0
  have hts : ∀ w ∈ gT, w.before #[Value.ref b] s = true := fun w h => hts0 w (List.mem_filter.mp h).1
  have hbA : ¬ lA s b := Nat.not_le.mpr hbl
  have hsz := hS.1
  obtain ⟨⟨np, nc⟩, ⟨pe, an, up, dn⟩, ⟨rw, so, mn⟩, ⟨wd, wv⟩⟩ := u
  obtain ⟨hX, hM, hO, haI, ho, hF1, hF2, hF3, hF4, hF5, hF6⟩ := id hI
  have hX : XInv D ka ad np nc pe an up dn rw so mn wd wv H := hX
  have hM : va_P D vwCl (mW ka a tv np nc pe an up dn rw so mn wd wv) H := hM
  have hO : mOk np nc pe an up dn rw so mn wd wv := hO
  have hF1 : ∀ k i, vl np nc k i → s.heap.size ≤ ad k i := hF1
  have hmA : ∀ q, mA a q → lA s q := fun q ⟨i, hi, e9⟩ => by rw [← e9]; exact hF2 i hi
  refine lv_aload_n hx hb dL_law_100 rfl (lv_at hl 1 rfl) ?_
  refine lv_aload_n hx hb dL_law_101 rfl (lv_at hl 0 rfl) ?_
  refine lv_iload hx hb dL_law_102 (lv_at hl 4 rfl) ?_
  refine lv_iconst (v := nI 1) hx hb dL_law_104 (by decide) ?_
  refine n_iadd hx hb dL_law_105 ?_
  refine g_sld hx hb hXs hbl hbA hS (k := (6 * j) + 1) (by omega) (by omega) dL_law_106 ?_
  refine lv_aload_n hx hb dL_law_107 rfl (lv_at hl 0 rfl) ?_
  refine lv_iload hx hb dL_law_108 (lv_at hl 4 rfl) ?_
  refine lv_iconst (v := nI 2) hx hb dL_law_110 (by decide) ?_
  refine n_iadd hx hb dL_law_111 ?_
  refine g_sld hx hb hXs hbl hbA hS (k := (6 * j) + 2) (by omega) (by omega) dL_law_112 ?_
  refine lv_i2l (v := (xs ((6 * j) + 2)).toInt64) hx hb dL_law_113 rfl ?_
  refine lv_bipush (v := nI 32) hx hb dL_law_114 (by decide) ?_
  refine lv_lshl (v := ((xs ((6 * j) + 2)).toInt64) <<< ((nI 32).toInt64 &&& 63)) hx hb dL_law_116 rfl ?_
  refine lv_aload_n hx hb dL_law_117 rfl (lv_at hl 0 rfl) ?_
  refine lv_iload hx hb dL_law_118 (lv_at hl 4 rfl) ?_
  refine lv_iconst (v := nI 3) hx hb dL_law_120 (by decide) ?_
  refine n_iadd hx hb dL_law_121 ?_
  refine g_sld hx hb hXs hbl hbA hS (k := (6 * j) + 3) (by omega) (by omega) dL_law_122 ?_
  refine lv_i2l (v := (xs ((6 * j) + 3)).toInt64) hx hb dL_law_123 rfl ?_
  refine lv_ldc2 (v := lN 4294967295) hx hb hown (hts _ tb_432) dL_law_124 ?_
  refine lv_land hx hb dL_law_127 ?_
  refine lv_lor hx hb dL_law_128 ?_
  refine lv_aload_n hx hb dL_law_129 rfl (lv_at hl 0 rfl) ?_
  refine lv_iload hx hb dL_law_130 (lv_at hl 4 rfl) ?_
  refine lv_iconst (v := nI 4) hx hb dL_law_132 (by decide) ?_
  refine n_iadd hx hb dL_law_133 ?_
  refine g_sld hx hb hXs hbl hbA hS (k := (6 * j) + 4) (by omega) (by omega) dL_law_134 ?_
  refine lv_i2l (v := (xs ((6 * j) + 4)).toInt64) hx hb dL_law_135 rfl ?_
  refine lv_bipush (v := nI 32) hx hb dL_law_136 (by decide) ?_
  refine lv_lshl (v := ((xs ((6 * j) + 4)).toInt64) <<< ((nI 32).toInt64 &&& 63)) hx hb dL_law_138 rfl ?_
  refine lv_aload_n hx hb dL_law_139 rfl (lv_at hl 0 rfl) ?_
  refine lv_iload hx hb dL_law_140 (lv_at hl 4 rfl) ?_
  refine lv_iconst (v := nI 5) hx hb dL_law_142 (by decide) ?_
  refine n_iadd hx hb dL_law_143 ?_
  refine g_sld hx hb hXs hbl hbA hS (k := (6 * j) + 5) (by omega) (by omega) dL_law_144 ?_
  refine lv_i2l (v := (xs ((6 * j) + 5)).toInt64) hx hb dL_law_145 rfl ?_
  refine lv_ldc2 (v := lN 4294967295) hx hb hown (hts _ tb_432) dL_law_146 ?_
  refine lv_land hx hb dL_law_149 ?_
  refine lv_lor hx hb dL_law_150 ?_
  have hOwn : ∀ q, (fun z => (z = ad 0 0 ∨ z = ad 1 0) ∨ H.size ≤ z) q → (∃ k i, vl np nc k i ∧ q = ad k i) ∨ H.size ≤ q := fun q h9 => h9.elim (fun h8 => Or.inl (h8.elim (fun e9 => ⟨0, 0, vl_0, e9⟩) (fun e9 => ⟨1, 0, vl_1, e9⟩))) Or.inr
  have hOA : ∀ q, (∃ k i, vl np nc k i ∧ q = ad k i) ∨ H.size ≤ q → lA s q := fun q h9 => h9.elim (fun ⟨k, i, hv, e9⟩ => by rw [e9]; exact hF1 k i hv) (fun h8 => Nat.le_trans hsz h8)
  refine va_calli (va_runV (As := [.int (xs ((6 * j) + 1)), .long ((((xs ((6 * j) + 2)).toInt64) <<< ((nI 32).toInt64 &&& 63)) ||| (((xs ((6 * j) + 3)).toInt64) &&& (lN 4294967295))), .long ((((xs ((6 * j) + 4)).toInt64) <<< ((nI 32).toInt64 &&& 63)) ||| (((xs ((6 * j) + 5)).toInt64) &&& (lN 4294967295)))]) (rest := []) ⟨hx, hb, hml, hown, hts⟩ (x_piece l D ka H ad np nc pe an up dn rw so mn wd wv (xs ((6 * j) + 1)) ((((xs ((6 * j) + 2)).toInt64) <<< ((nI 32).toInt64 &&& 63)) ||| (((xs ((6 * j) + 3)).toInt64) &&& (lN 4294967295))) ((((xs ((6 * j) + 4)).toInt64) <<< ((nI 32).toInt64 &&& 63)) ||| (((xs ((6 * j) + 5)).toInt64) &&& (lN 4294967295))) hX hO) (cw_V 3 hts tb_38 rfl rfl tb_35 tb_1 tb_36 tb_37 (by decide +kernel) ⟨Nat.le_of_ble_eq_true rfl, Nat.le_of_ble_eq_true rfl⟩) (ro_V (ci := 2) hK hN hX.o rfl) rfl rfl hl.1 rfl (lv_room (Nat.le_of_ble_eq_true rfl)) dL_law_151 ⟨by show 14 + 3 * j + 1 ≤ 610041; omega, by show 758 + 28 * j + 4 ≤ 7265980; omega⟩) hS (fun q _ h9 => hOA q (hOwn q h9)) (fun q h9 => hOA q (hOwn q h9)) (fun r w2 t H1 locs ht hvm hw hB hz1 hk1 hS => ?_)
  obtain ⟨u2, ad2⟩ := w2
  (try dsimp only at hw hB)
  rw [ht] at hB
  obtain ⟨hX2, hFr⟩ := hB
  obtain ⟨hM1, ho1, g6, g9, g10⟩ := hI.mid hsz (fun q hq h9 => (hOwn q h9).resolve_right (Nat.not_le.mpr hq)) hk1 hFr
  have hM1 : va_P D vwCl (mW ka a tv np nc pe an up dn rw so mn wd wv) H1 := hM1
  refine lv_aload_n hx hb dL_law_154 rfl (lv_at hl 2 rfl) ?_
  refine lv_aload_n hx hb dL_law_155 rfl (lv_at hl 0 rfl) ?_
  refine lv_iload hx hb dL_law_156 (lv_at hl 4 rfl) ?_
  refine lv_iconst (v := nI 1) hx hb dL_law_158 (by decide) ?_
  refine n_iadd hx hb dL_law_159 ?_
  refine g_sld hx hb hXs hbl hbA hS (k := (6 * j) + 1) (by omega) (by omega) dL_law_160 ?_
  refine lv_aload_n hx hb dL_law_161 rfl (lv_at hl 0 rfl) ?_
  refine lv_iload hx hb dL_law_162 (lv_at hl 4 rfl) ?_
  refine lv_iconst (v := nI 2) hx hb dL_law_164 (by decide) ?_
  refine n_iadd hx hb dL_law_165 ?_
  refine g_sld hx hb hXs hbl hbA hS (k := (6 * j) + 2) (by omega) (by omega) dL_law_166 ?_
  refine lv_i2l (v := (xs ((6 * j) + 2)).toInt64) hx hb dL_law_167 rfl ?_
  refine lv_bipush (v := nI 32) hx hb dL_law_168 (by decide) ?_
  refine lv_lshl (v := ((xs ((6 * j) + 2)).toInt64) <<< ((nI 32).toInt64 &&& 63)) hx hb dL_law_170 rfl ?_
  refine lv_aload_n hx hb dL_law_171 rfl (lv_at hl 0 rfl) ?_
  refine lv_iload hx hb dL_law_172 (lv_at hl 4 rfl) ?_
  refine lv_iconst (v := nI 3) hx hb dL_law_174 (by decide) ?_
  refine n_iadd hx hb dL_law_175 ?_
  refine g_sld hx hb hXs hbl hbA hS (k := (6 * j) + 3) (by omega) (by omega) dL_law_176 ?_
  refine lv_i2l (v := (xs ((6 * j) + 3)).toInt64) hx hb dL_law_177 rfl ?_
  refine lv_ldc2 (v := lN 4294967295) hx hb hown (hts _ tb_432) dL_law_178 ?_
  refine lv_land hx hb dL_law_181 ?_
  refine lv_lor hx hb dL_law_182 ?_
  refine lv_aload_n hx hb dL_law_183 rfl (lv_at hl 0 rfl) ?_
  refine lv_iload hx hb dL_law_184 (lv_at hl 4 rfl) ?_
  refine lv_iconst (v := nI 4) hx hb dL_law_186 (by decide) ?_
  refine n_iadd hx hb dL_law_187 ?_
  refine g_sld hx hb hXs hbl hbA hS (k := (6 * j) + 4) (by omega) (by omega) dL_law_188 ?_
  refine lv_i2l (v := (xs ((6 * j) + 4)).toInt64) hx hb dL_law_189 rfl ?_
  refine lv_bipush (v := nI 32) hx hb dL_law_190 (by decide) ?_
  refine lv_lshl (v := ((xs ((6 * j) + 4)).toInt64) <<< ((nI 32).toInt64 &&& 63)) hx hb dL_law_192 rfl ?_
  refine lv_aload_n hx hb dL_law_193 rfl (lv_at hl 0 rfl) ?_
  refine lv_iload hx hb dL_law_194 (lv_at hl 4 rfl) ?_
  refine lv_iconst (v := nI 5) hx hb dL_law_196 (by decide) ?_
  refine n_iadd hx hb dL_law_197 ?_
  refine g_sld hx hb hXs hbl hbA hS (k := (6 * j) + 5) (by omega) (by omega) dL_law_198 ?_
  refine lv_i2l (v := (xs ((6 * j) + 5)).toInt64) hx hb dL_law_199 rfl ?_
  refine lv_ldc2 (v := lN 4294967295) hx hb hown (hts _ tb_432) dL_law_200 ?_
  refine lv_land hx hb dL_law_203 ?_
  refine lv_lor hx hb dL_law_204 ?_
  refine va_calli (va_runV (As := [.int (xs ((6 * j) + 1)), .long ((((xs ((6 * j) + 2)).toInt64) <<< ((nI 32).toInt64 &&& 63)) ||| (((xs ((6 * j) + 3)).toInt64) &&& (lN 4294967295))), .long ((((xs ((6 * j) + 4)).toInt64) <<< ((nI 32).toInt64 &&& 63)) ||| (((xs ((6 * j) + 5)).toInt64) &&& (lN 4294967295)))]) (rest := [.int r]) ⟨hx, hb, hml, hown, hts⟩ (n_piece l D ka H1 a tv np nc pe an up dn rw so mn wd wv (xs ((6 * j) + 1)) ((((xs ((6 * j) + 2)).toInt64) <<< ((nI 32).toInt64 &&& 63)) ||| (((xs ((6 * j) + 3)).toInt64) &&& (lN 4294967295))) ((((xs ((6 * j) + 4)).toInt64) <<< ((nI 32).toInt64 &&& 63)) ||| (((xs ((6 * j) + 5)).toInt64) &&& (lN 4294967295))) hM1 hO haI) (cw_V 3 hts tb_346 rfl rfl tb_343 tb_2 tb_344 tb_345 (by decide +kernel) ⟨Nat.le_of_ble_eq_true rfl, Nat.le_of_ble_eq_true rfl⟩) (ro_V (ci := 3) hK hN (hM1.nth 0 rfl) rfl) rfl rfl hl.1 rfl (lv_room (Nat.le_of_ble_eq_true rfl)) dL_law_205 ⟨by show 14 + 3 * j + 1 + 0 ≤ 610041; omega, by show 758 + 28 * j + 4 + 0 ≤ 7265980; omega⟩) hS (fun q _ h9 => hmA q h9) (fun q h9 => hmA q h9) (fun r2 u3 t2 H2 locs ht2 hvm2 hw2 hB2 hz2 hk2 hS => ?_)
  (try dsimp only at hw2 hB2)
  rw [ht2] at hB2
  have e2 := hw2.trans hw.symm
  obtain ⟨rfl, rfl⟩ : u3 = u2 ∧ r2 = r := ⟨congrArg Prod.fst e2, congrArg Prod.snd e2⟩
  have hOK : mOks u3 := by have h9 := opPiece_ok hO (xs ((6 * j) + 1)) ((((xs ((6 * j) + 2)).toInt64) <<< ((nI 32).toInt64 &&& 63)) ||| (((xs ((6 * j) + 3)).toInt64) &&& (lN 4294967295))) ((((xs ((6 * j) + 4)).toInt64) <<< ((nI 32).toInt64 &&& 63)) ||| (((xs ((6 * j) + 5)).toInt64) &&& (lN 4294967295))); rw [← hw2] at h9; exact h9
  have hI2 := LInv.fin hX2 hB2 hOK haI ho1 g6 hF2 hF3 g9 g10 hF6 hk2
  refine lv_icmp_eq (tgt := 724) hx hb dL_law_208 (by decide) (fun _ => ?_) (fun h9 => absurd rfl h9)
  refine W.widen (k := 14 + 3 * (j + 1)) (n := 758 + 28 * (j + 1)) (by omega) (by omega) ?_
  exact kk u3 ad2 0 f H2 locs ls hI2 hS (by rw [show ad2 0 0 = ad 0 0 from hFr.1]; exact lv_sub hl [0, 1, 2, 3, 4] rfl)
