set_option maxHeartbeats 4000000 in
set_option maxRecDepth 100000 in
theorem law_loop {p : Program} {l : Launch} {e : Env} {s : State} {m : MethodId} {below : List Frame} {meth : Method} {c : Code} {b L : Nat} {xs : Nat → Int32} {D : va_G} {ka : Nat → ClassId} {a : Nat → Nat} {o : Nat} (hl0 : l.stackTraces = false) (hL : L ≤ 3072) (C0 : lw_At p s m meth c b L xs) (hK : va_K D vwCl (tyL ka) s) (hN : nsW s) (hT : thW (lA s) s.heap s) : ∀ (n j : Nat), 6 * j ≤ L → L < 6 * j + 6 * n → ∀ (u : MSt) (ad : Nat → Nat → Nat) (tv : Nat) (f : Nat → Int64) (H : Heap) (locs : List Loc) (ls : Array Slot), LInv s.heap.size D ka ad a tv o f u H → va_S (lA s) s.heap H locs → lv_has ls 8 [(0, .ref b), (1, .ref (ad 0 0)), (2, .ref (a 0)), (3, .ref o), (4, .int (nI (6 * j)))] →
    W p l e room_1 s m #[Value.ref b] below meth c H locs (14 + 3 * j) (758 + 28 * j) (lw_Z below #[Value.ref b] s) (F0 m 23 ls []) := by
  intro n
  induction n with
  | zero => intro j h1 h2; omega
  | succ n ih =>
  intro j h1 h2 u ad tv f H locs ls hI hS hl
  have hC := C0
  obtain ⟨hx, hb, hr, hml, hown, hts0, hXs, hbl, hlocks, hgv⟩ := hC
  have hbA : ¬ lA s b := Nat.not_le.mpr hbl
  refine lv_iload hx hb dL_law_23 (lv_at hl 4 rfl) ?_
  refine lv_aload_n hx hb dL_law_25 rfl (lv_at hl 0 rfl) ?_
  refine va_slen hx hb hXs hbl hbA hS dL_law_26 ?_
  refine lv_bipush (v := nI 6) hx hb dL_law_27 (by decide) ?_
  refine lv_isub hx hb dL_law_29 ?_
  have ei : (nI (6 * j)).toInt = ((6 * j : Nat) : Int) := nI_toInt (by omega)
  have es : (nI L - nI 6).toInt = (L : Int) - (6 : Nat) := pk_sub_toInt (by omega) (by omega)
  refine r_icmp_gt (x := nI (6 * j)) (y := nI L - nI 6) (tgt := 730) hx hb dL_law_30 (by decide) (fun _ => ?_) (fun h9 => ?_)
  · refine lv_iconst (v := 1) hx hb dL_law_730 (by decide) ?_
    refine va_forget (fun q hq => hS.2.2 q hq) ?_
    refine W.widen (k := 610041) (n := 7265980) (by omega) (by omega) ?_
    exact lw_ret hx hb hr hlocks dL_law_731
  · rw [ei, es] at h9
    have hj : 6 * j + 6 ≤ L := by omega
    refine lv_aload_n hx hb dL_law_33 rfl (lv_at hl 0 rfl) ?_
    refine lv_iload hx hb dL_law_34 (lv_at hl 4 rfl) ?_
    refine g_sld hx hb hXs hbl hbA hS (k := 6 * j) (by omega) (by omega) dL_law_36 ?_
    refine lv_bipush (v := nI 15) hx hb dL_law_37 (by decide) ?_
    refine lv_iand hx hb dL_law_39 ?_
    obtain ⟨v, hv, ev⟩ := pk_andE (xs (6 * j)) (m := nI 15) 4 (by decide)
    rw [ev]
    have kk : LK p l e s m below meth c b D ka a o j := by
      intro u ad tv f H locs ls hI hS hl
      refine lv_iinc (v := nI (6 * (j + 1))) (lv' := [(4, .int (nI (6 * (j + 1)))), (0, .ref b), (1, .ref (ad 0 0)), (2, .ref (a 0)), (3, .ref o)]) hx hb dL_law_724 hl (k := 4) rfl (nI_add (6 * j) 6) (by decide) rfl (fun ls hl => ?_)
      refine lv_goto (tgt := 23) hx hb dL_law_727 (by decide) ?_
      exact ih (j + 1) (by omega) (by omega) u ad tv f H locs ls hI hS (lv_sub hl [1, 2, 3, 4, 0] rfl)
    have eo : (nI v).toInt = (v : Int) := nI_toInt (by omega)
    by_cases hv10 : 10 < v
    · refine lv_tableOut (tgt := 724) hx hb dL_law_40 (Or.inr (by rw [eo]; omega)) (by decide) ?_
      exact W.widen (k := 14 + 3 * (j + 1)) (n := 758 + 28 * (j + 1)) (by omega) (by omega) (kk u ad tv f H locs ls hI hS hl)
    · rcases (show v = 0 ∨ v = 1 ∨ v = 2 ∨ v = 3 ∨ v = 4 ∨ v = 5 ∨ v = 6 ∨ v = 7 ∨ v = 8 ∨ v = 9 ∨ v = 10 by omega) with rfl | rfl | rfl | rfl | rfl | rfl | rfl | rfl | rfl | rfl | rfl
      · refine lv_tableIn (off := 60) (tgt := 100) hx hb dL_law_40 (by decide) (by decide) (by decide) (by decide) ?_
        exact law_c0 hl0 hL C0 hK hN hT hj kk u ad tv f H locs ls hI hS hl
      · refine lv_tableIn (off := 173) (tgt := 213) hx hb dL_law_40 (by decide) (by decide) (by decide) (by decide) ?_
        exact law_c1 hl0 hL C0 hK hN hT hj kk u ad tv f H locs ls hI hS hl
      · refine lv_tableIn (off := 186) (tgt := 226) hx hb dL_law_40 (by decide) (by decide) (by decide) (by decide) ?_
        exact law_c2 hl0 hL C0 hK hN hT hj kk u ad tv f H locs ls hI hS hl
      · refine lv_tableIn (off := 251) (tgt := 291) hx hb dL_law_40 (by decide) (by decide) (by decide) (by decide) ?_
        exact law_c3 hl0 hL C0 hK hN hT hj kk u ad tv f H locs ls hI hS hl
      · refine lv_tableIn (off := 305) (tgt := 345) hx hb dL_law_40 (by decide) (by decide) (by decide) (by decide) ?_
        exact law_c4 hl0 hL C0 hK hN hT hj kk u ad tv f H locs ls hI hS hl
      · refine lv_tableIn (off := 359) (tgt := 399) hx hb dL_law_40 (by decide) (by decide) (by decide) (by decide) ?_
        exact law_c5 hl0 hL C0 hK hN hT hj kk u ad tv f H locs ls hI hS hl
      · refine lv_tableIn (off := 472) (tgt := 512) hx hb dL_law_40 (by decide) (by decide) (by decide) (by decide) ?_
        exact law_c6 hl0 hL C0 hK hN hT hj kk u ad tv f H locs ls hI hS hl
      · refine lv_tableIn (off := 541) (tgt := 581) hx hb dL_law_40 (by decide) (by decide) (by decide) (by decide) ?_
        exact law_c7 hl0 hL C0 hK hN hT hj kk u ad tv f H locs ls hI hS hl
      · refine lv_tableIn (off := 578) (tgt := 618) hx hb dL_law_40 (by decide) (by decide) (by decide) (by decide) ?_
        exact law_c8 hl0 hL C0 hK hN hT hj kk u ad tv f H locs ls hI hS hl
      · refine lv_tableIn (off := 633) (tgt := 673) hx hb dL_law_40 (by decide) (by decide) (by decide) (by decide) ?_
        exact law_c9 hl0 hL C0 hK hN hT hj kk u ad tv f H locs ls hI hS hl
      · refine lv_tableIn (off := 659) (tgt := 699) hx hb dL_law_40 (by decide) (by decide) (by decide) (by decide) ?_
        exact law_c10 hl0 hL C0 hK hN hT hj kk u ad tv f H locs ls hI hS hl
