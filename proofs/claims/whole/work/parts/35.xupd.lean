/-! the class's state after a write -/
section XU
variable {D : va_G} {ka : Nat → ClassId} {ad ad2 : Nat → Nat → Nat} {np nc np2 nc2 : Nat} {pe an up dn rw pe2 an2 up2 dn2 rw2 : Nat → Nat} {so so2 : Nat → Bool} {mn mn2 : Nat → Nat} {wd wd2 : Nat → Bool} {wv wv2 : Nat → Int64} {H H1 : Heap}
theorem XInv.renew (h : XInv D ka ad np nc pe an up dn rw so mn wd wv H) (t : Nat → Nat → Prop)
    (hsame : ∀ k i, vl np2 nc2 k i → ¬ t k i → vl np nc k i ∧ ad2 k i = ad k i ∧ xC ka ad2 np2 nc2 pe2 an2 up2 dn2 rw2 so2 mn2 wd2 wv2 k i = xC ka ad np nc pe an up dn rw so mn wd wv k i ∧ H1[ad k i]? = H[ad k i]?)
    (hnew : ∀ k i, vl np2 nc2 k i → t k i → va_at D vwCl (ad2 k i, xC ka ad2 np2 nc2 pe2 an2 up2 dn2 rw2 so2 mn2 wd2 wv2 k i) H1)
    (hinj : ∀ k i k' i', vl np2 nc2 k i → vl np2 nc2 k' i' → ad2 k i = ad2 k' i' → k = k' ∧ i = i') : XInv D ka ad2 np2 nc2 pe2 an2 up2 dn2 rw2 so2 mn2 wd2 wv2 H1 := by
  refine ⟨fun k i hv => ?_, hinj⟩
  by_cases ht : t k i
  · exact hnew k i hv ht
  · obtain ⟨h1, h2, h3, h4⟩ := hsame k i hv ht
    rw [h2, h3]
    exact (h.1 k i h1).kept h4
/-- a label's kind -/
theorem vl_k {k i : Nat} (h : vl np nc k i) : (k = 0 ∧ i = 0) ∨ (k = 1 ∧ i = 0) ∨ (k = 2 ∧ i = 0) ∨ (k = 3 ∧ 1 ≤ i ∧ i ≤ np) ∨ (k = 4 ∧ 1 ≤ i ∧ i ≤ nc) ∨ (k = 5 ∧ 1 ≤ i ∧ i ≤ nc) ∨ (k = 6 ∧ 1 ≤ i ∧ i ≤ nc) := by
  unfold vl at h; omega
theorem XInv.lt (h : XInv D ka ad np nc pe an up dn rw so mn wd wv H) {k i : Nat} (hv : vl np nc k i) : ad k i < H.size := (h.1 k i hv).lt
theorem XInv.clock (h : XInv D ka ad np nc pe an up dn rw so mn wd wv H) {y u d : Nat} (h1 : 1 ≤ y) (h2 : y ≤ np) (hk : ∀ q, q < H.size → ¬ q = ad 3 y → H1[q]? = H[q]?) (hn : va_at D vwCl (ad 3 y, pcE (pe y) (an y) u d) H1) : XInv D ka ad np nc pe an (va_up up y u) (va_up dn y d) rw so mn wd wv H1 := by
  refine h.renew (fun k i => k = 3 ∧ i = y) (fun k i hv ht => ?_) (fun k i hv ht => ?_) h.2
  · refine ⟨hv, rfl, ?_, hk _ (h.lt hv) (fun e => ht (h.2 k i 3 y hv (vl_3 h1 h2) e))⟩
    rcases vl_k hv with ⟨rfl, rfl⟩ | ⟨rfl, rfl⟩ | ⟨rfl, rfl⟩ | ⟨rfl, _⟩ | ⟨rfl, _⟩ | ⟨rfl, _⟩ | ⟨rfl, _⟩
    · rfl
    · rfl
    · rfl
    · have e : i ≠ y := fun e => ht ⟨rfl, e⟩
      show pcE (pe i) (an i) (va_up up y u i) (va_up dn y d i) = pcE (pe i) (an i) (up i) (dn i)
      rw [va_up_ne _ _ e, va_up_ne _ _ e]
    · rfl
    · rfl
    · rfl
  · obtain ⟨rfl, rfl⟩ := ht
    show va_at D vwCl (ad 3 i, pcE (pe i) (an i) (va_up up i u i) (va_up dn i d i)) H1
    rw [va_up_self, va_up_self]; exact hn
theorem XInv.wish (h : XInv D ka ad np nc pe an up dn rw so mn wd wv H) {c : Nat} {mi : Int64} (h1 : 1 ≤ c) (h2 : c ≤ nc) (hk : ∀ q, q < H.size → ¬ q = ad 4 c → H1[q]? = H[q]?) (hn : va_at D vwCl (ad 4 c, chE (ad 5 c) (ad 6 c) (mn c) mi) H1) : XInv D ka ad np nc pe an up dn rw so mn (va_up wd c true) (va_up wv c mi) H1 := by
  refine h.renew (fun k i => k = 4 ∧ i = c) (fun k i hv ht => ?_) (fun k i hv ht => ?_) h.2
  · refine ⟨hv, rfl, ?_, hk _ (h.lt hv) (fun e => ht (h.2 k i 4 c hv (vl_4 h1 h2) e))⟩
    rcases vl_k hv with ⟨rfl, rfl⟩ | ⟨rfl, rfl⟩ | ⟨rfl, rfl⟩ | ⟨rfl, _⟩ | ⟨rfl, _⟩ | ⟨rfl, _⟩ | ⟨rfl, _⟩
    · rfl
    · rfl
    · rfl
    · rfl
    · have e : i ≠ c := fun e => ht ⟨rfl, e⟩
      show chE (ad 5 i) (ad 6 i) (mn i) (wiN (va_up wd c true) (va_up wv c mi) i) = chE (ad 5 i) (ad 6 i) (mn i) (wiN wd wv i)
      unfold wiN
      rw [va_up_ne _ _ e, va_up_ne _ _ e]
    · rfl
    · rfl
  · obtain ⟨rfl, rfl⟩ := ht
    show va_at D vwCl (ad 4 i, chE (ad 5 i) (ad 6 i) (mn i) (wiN (va_up wd i true) (va_up wv i mi) i)) H1
    unfold wiN
    rw [va_up_self, va_up_self, if_pos rfl]; exact hn
theorem XInv.add (h : XInv D ka ad np nc pe an up dn rw so mn wd wv H) {c y : Nat} {b : Bool} (h1 : 1 ≤ c) (h2 : c ≤ nc) (y1 : 1 ≤ y) (y2 : y ≤ np) (hm : mn c < 12) (hall : ∀ j, 1 ≤ j → j ≤ nc → mn j ≤ 12)
    (hk : ∀ q, q < H.size → ¬ (q = ad 4 c ∨ q = ad 5 c ∨ q = ad 6 c ∨ q = ad 3 y) → H1[q]? = H[q]?) (ho : va_at D vwCl (ad 4 c, chE (ad 5 c) (ad 6 c) (mn c + 1) (wiN wd wv c)) H1)
    (hr : va_at D vwCl (ad 5 c, refE (ka 0) 12 (va_up (fun j => if j < mn c then some (ad 3 (rw (12 * c + j))) else none) (mn c) (some (ad 3 y)))) H1)
    (hs : va_at D vwCl (ad 6 c, intE (ka 2) 12 (upd (fun j => if j < mn c then bI (!so (12 * c + j)) else 0) (mn c) (bI (!b)))) H1) (hp : va_at D vwCl (ad 3 y, pcE (pe y) (an y) (up y) (dn y)) H1) :
    XInv D ka ad np nc pe an up dn (va_up rw (12 * c + mn c) y) (va_up so (12 * c + mn c) b) (va_up mn c (mn c + 1)) wd wv H1 := by
  refine h.renew (fun k i => (k = 3 ∧ i = y) ∨ ((k = 4 ∨ k = 5 ∨ k = 6) ∧ i = c)) (fun k i hv ht => ?_) (fun k i hv ht => ?_) h.2
  · refine ⟨hv, rfl, ?_, hk _ (h.lt hv) (fun e => ht ?_)⟩
    · rcases vl_k hv with ⟨rfl, rfl⟩ | ⟨rfl, rfl⟩ | ⟨rfl, rfl⟩ | ⟨rfl, _⟩ | ⟨rfl, i1, i2⟩ | ⟨rfl, i1, i2⟩ | ⟨rfl, i1, i2⟩
      · rfl
      · rfl
      · rfl
      · rfl
      · have e : i ≠ c := fun e => ht (Or.inr ⟨Or.inl rfl, e⟩)
        show chE (ad 5 i) (ad 6 i) (va_up mn c (mn c + 1) i) (wiN wd wv i) = chE (ad 5 i) (ad 6 i) (mn i) (wiN wd wv i)
        rw [va_up_ne _ _ e]
      · have e : i ≠ c := fun e => ht (Or.inr ⟨Or.inr (Or.inl rfl), e⟩)
        show refE (ka 0) 12 (fun j => if j < va_up mn c (mn c + 1) i then some (ad 3 (va_up rw (12 * c + mn c) y (12 * i + j))) else none) = refE (ka 0) 12 (fun j => if j < mn i then some (ad 3 (rw (12 * i + j))) else none)
        rw [va_up_ne _ _ e]
        congr; funext j
        by_cases hj : j < mn i
        · have := hall i i1 i2
          rw [if_pos hj, if_pos hj, va_up_ne _ _ (by omega)]
        · rw [if_neg hj, if_neg hj]
      · have e : i ≠ c := fun e => ht (Or.inr ⟨Or.inr (Or.inr rfl), e⟩)
        show intE (ka 2) 12 (fun j => if j < va_up mn c (mn c + 1) i then bI (!va_up so (12 * c + mn c) b (12 * i + j)) else 0) = intE (ka 2) 12 (fun j => if j < mn i then bI (!so (12 * i + j)) else 0)
        rw [va_up_ne _ _ e]
        congr; funext j
        by_cases hj : j < mn i
        · have := hall i i1 i2
          rw [if_pos hj, if_pos hj, va_up_ne _ _ (by omega)]
        · rw [if_neg hj, if_neg hj]
    · rcases e with e | e | e | e
      · have := h.2 k i 4 c hv (vl_4 h1 h2) e; exact Or.inr ⟨Or.inl this.1, this.2⟩
      · have := h.2 k i 5 c hv (vl_5 h1 h2) e; exact Or.inr ⟨Or.inr (Or.inl this.1), this.2⟩
      · have := h.2 k i 6 c hv (vl_6 h1 h2) e; exact Or.inr ⟨Or.inr (Or.inr this.1), this.2⟩
      · have := h.2 k i 3 y hv (vl_3 y1 y2) e; exact Or.inl this
  · rcases ht with ⟨rfl, rfl⟩ | ⟨rfl | rfl | rfl, rfl⟩
    · exact hp
    · show va_at D vwCl (ad 4 i, chE (ad 5 i) (ad 6 i) (va_up mn i (mn i + 1) i) (wiN wd wv i)) H1
      rw [va_up_self]; exact ho
    · show va_at D vwCl (ad 5 i, refE (ka 0) 12 (fun j => if j < va_up mn i (mn i + 1) i then some (ad 3 (va_up rw (12 * i + mn i) y (12 * i + j))) else none)) H1
      have e : (fun j => if j < va_up mn i (mn i + 1) i then some (ad 3 (va_up rw (12 * i + mn i) y (12 * i + j))) else none) = va_up (fun j => if j < mn i then some (ad 3 (rw (12 * i + j))) else none) (mn i) (some (ad 3 y)) := by
        funext j
        rw [va_up_self]
        by_cases hj : j = mn i
        · subst hj
          rw [if_pos (by omega), va_up_self, va_up_self]
        · rw [va_up_ne _ _ hj]
          by_cases h3 : j < mn i
          · rw [if_pos h3, if_pos (by omega), va_up_ne _ _ (by omega)]
          · rw [if_neg h3, if_neg (by omega)]
      rw [e]; exact hr
    · show va_at D vwCl (ad 6 i, intE (ka 2) 12 (fun j => if j < va_up mn i (mn i + 1) i then bI (!va_up so (12 * i + mn i) b (12 * i + j)) else 0)) H1
      have e : (fun j => if j < va_up mn i (mn i + 1) i then bI (!va_up so (12 * i + mn i) b (12 * i + j)) else 0) = upd (fun j => if j < mn i then bI (!so (12 * i + j)) else 0) (mn i) (bI (!b)) := by
        funext j
        rw [va_up_self]
        by_cases hj : j = mn i
        · subst hj
          rw [if_pos (by omega), va_up_self, pk_us]
        · rw [pk_un hj]
          by_cases h3 : j < mn i
          · rw [if_pos h3, if_pos (by omega), va_up_ne _ _ (by omega)]
          · rw [if_neg h3, if_neg (by omega)]
      rw [e]; exact hs
/-- an address laid beside the others -/
def ad1 (ad : Nat → Nat → Nat) (k i q : Nat) : Nat → Nat → Nat := fun k' i' => if k' = k ∧ i' = i then q else ad k' i'
theorem ad1_s {k i q : Nat} : ad1 ad k i q k i = q := if_pos ⟨rfl, rfl⟩
theorem ad1_n {k i q k' i' : Nat} (h : ¬ (k' = k ∧ i' = i)) : ad1 ad k i q k' i' = ad k' i' := if_neg h
theorem XInv.piece (h : XInv D ka ad np nc pe an up dn rw so mn wd wv H) (hO : mOk np nc pe an up dn rw so mn wd wv) {q T R : Nat} (hq : H.size ≤ q) (hk : ∀ z, z < H.size → ¬ (z = ad 0 0 ∨ z = ad 1 0) → H1[z]? = H[z]?)
    (ho : va_at D vwCl (ad 0 0, .inr (2, [.ref (ad 1 0), .ref (ad 2 0), .int (nI (np + 1)), .int (nI nc)])) H1)
    (hr : va_at D vwCl (ad 1 0, refE (ka 0) 30 (va_up (fun j => if j < np then some (ad 3 (j + 1)) else none) np (some q))) H1) (hp : va_at D vwCl (q, pcE T R 0 1) H1) :
    XInv D ka (ad1 ad 3 (np + 1) q) (np + 1) nc (va_up pe (np + 1) T) (va_up an (np + 1) R) (va_up up (np + 1) 0) (va_up dn (np + 1) 1) rw so mn wd wv H1 := by
  have old : ∀ k i, vl (np + 1) nc k i → ¬ (k = 3 ∧ i = np + 1) → vl np nc k i := by
    intro k i hv hn; unfold vl at hv ⊢; omega
  have hz : ∀ k i, vl np nc k i → ad k i ≠ q := fun k i hv e => by have := h.lt hv; omega
  refine h.renew (fun k i => (k = 0 ∨ k = 1) ∨ (k = 3 ∧ i = np + 1)) (fun k i hv ht => ?_) (fun k i hv ht => ?_) (fun k i k' i' hv hv' e => ?_)
  · have ho := old k i hv (fun e => ht (Or.inr e))
    refine ⟨ho, ad1_n (fun e => ht (Or.inr e)), ?_, hk _ (h.lt ho) (fun e => ht ?_)⟩
    · rcases vl_k ho with ⟨rfl, rfl⟩ | ⟨rfl, rfl⟩ | ⟨rfl, rfl⟩ | ⟨rfl, i1, i2⟩ | ⟨rfl, i1, i2⟩ | ⟨rfl, i1, i2⟩ | ⟨rfl, i1, i2⟩
      · exact absurd (Or.inl (Or.inl rfl)) ht
      · exact absurd (Or.inl (Or.inr rfl)) ht
      · show refE (ka 1) 20 (fun j => if j < nc then some (ad1 ad 3 (np + 1) q 4 (j + 1)) else none) = refE (ka 1) 20 (fun j => if j < nc then some (ad 4 (j + 1)) else none)
        rfl
      · show pcE (va_up pe (np + 1) T i) (va_up an (np + 1) R i) (va_up up (np + 1) 0 i) (va_up dn (np + 1) 1 i) = pcE (pe i) (an i) (up i) (dn i)
        rw [va_up_ne _ _ (by omega), va_up_ne _ _ (by omega), va_up_ne _ _ (by omega), va_up_ne _ _ (by omega)]
      · rfl
      · show refE (ka 0) 12 (fun j => if j < mn i then some (ad1 ad 3 (np + 1) q 3 (rw (12 * i + j))) else none) = refE (ka 0) 12 (fun j => if j < mn i then some (ad 3 (rw (12 * i + j))) else none)
        congr; funext j
        by_cases hj : j < mn i
        · have := hO.row i1 i2 hj
          rw [if_pos hj, if_pos hj, ad1_n (by omega)]
        · rw [if_neg hj, if_neg hj]
      · rfl
    · rcases e with e | e
      · exact Or.inl (Or.inl (h.2 k i 0 0 ho vl_0 e).1)
      · exact Or.inl (Or.inr (h.2 k i 1 0 ho vl_1 e).1)
  · rcases ht with (rfl | rfl) | ⟨rfl, rfl⟩
    · have : i = 0 := by unfold vl at hv; omega
      subst this
      exact ho
    · have : i = 0 := by unfold vl at hv; omega
      subst this
      show va_at D vwCl (ad 1 0, refE (ka 0) 30 (fun j => if j < np + 1 then some (ad1 ad 3 (np + 1) q 3 (j + 1)) else none)) H1
      have e : (fun j => if j < np + 1 then some (ad1 ad 3 (np + 1) q 3 (j + 1)) else none) = va_up (fun j => if j < np then some (ad 3 (j + 1)) else none) np (some q) := by
        funext j
        by_cases hj : j = np
        · subst hj
          rw [if_pos (by omega), ad1_s, va_up_self]
        · rw [va_up_ne _ _ hj]
          by_cases h3 : j < np
          · rw [if_pos h3, if_pos (by omega), ad1_n (by omega)]
          · rw [if_neg h3, if_neg (by omega)]
      rw [e]; exact hr
    · show va_at D vwCl (ad1 ad 3 (np + 1) q 3 (np + 1), pcE (va_up pe (np + 1) T (np + 1)) (va_up an (np + 1) R (np + 1)) (va_up up (np + 1) 0 (np + 1)) (va_up dn (np + 1) 1 (np + 1))) H1
      rw [ad1_s, va_up_self, va_up_self, va_up_self, va_up_self]; exact hp
  · by_cases a : k = 3 ∧ i = np + 1
    · by_cases b : k' = 3 ∧ i' = np + 1
      · exact ⟨a.1.trans b.1.symm, a.2.trans b.2.symm⟩
      · obtain ⟨rfl, rfl⟩ := a
        rw [ad1_s, ad1_n b] at e
        exact absurd e.symm (hz _ _ (old _ _ hv' b))
    · by_cases b : k' = 3 ∧ i' = np + 1
      · obtain ⟨rfl, rfl⟩ := b
        rw [ad1_s, ad1_n a] at e
        exact absurd e (hz _ _ (old _ _ hv a))
      · rw [ad1_n a, ad1_n b] at e
        exact h.2 _ _ _ _ (old _ _ hv a) (old _ _ hv' b) e
theorem XInv.chain (h : XInv D ka ad np nc pe an up dn rw so mn wd wv H) (hO : mOk np nc pe an up dn rw so mn wd wv) (hn20 : nc < 20) {q r m : Nat} (hq : H.size ≤ q) (hr0 : H.size ≤ r) (hm0 : H.size ≤ m) (hqr : q ≠ r) (hqm : q ≠ m) (hrm : r ≠ m) (hk : ∀ z, z < H.size → ¬ (z = ad 0 0 ∨ z = ad 2 0) → H1[z]? = H[z]?)
    (ho : va_at D vwCl (ad 0 0, .inr (2, [.ref (ad 1 0), .ref (ad 2 0), .int (nI np), .int (nI (nc + 1))])) H1)
    (hr : va_at D vwCl (ad 2 0, refE (ka 1) 20 (va_up (fun j => if j < nc then some (ad 4 (j + 1)) else none) nc (some q))) H1)
    (hc : va_at D vwCl (q, chE r m 0 (-1)) H1) (hrow : va_at D vwCl (r, refE (ka 0) 12 (fun _ => none)) H1) (hsm : va_at D vwCl (m, intE (ka 2) 12 (fun _ => 0)) H1) :
    XInv D ka (ad1 (ad1 (ad1 ad 4 (nc + 1) q) 5 (nc + 1) r) 6 (nc + 1) m) np (nc + 1) pe an up dn rw so mn wd wv H1 := by
  have hz0 := hO.2.2.2.2.1 (nc + 1) (by omega) (by omega)
  have e4 : ad1 (ad1 (ad1 ad 4 (nc + 1) q) 5 (nc + 1) r) 6 (nc + 1) m 4 (nc + 1) = q := by rw [ad1_n (by omega), ad1_n (by omega), ad1_s]
  have e5 : ad1 (ad1 (ad1 ad 4 (nc + 1) q) 5 (nc + 1) r) 6 (nc + 1) m 5 (nc + 1) = r := by rw [ad1_n (by omega), ad1_s]
  have e6 : ad1 (ad1 (ad1 ad 4 (nc + 1) q) 5 (nc + 1) r) 6 (nc + 1) m 6 (nc + 1) = m := ad1_s
  have en : ∀ k i, ¬ ((k = 4 ∨ k = 5 ∨ k = 6) ∧ i = nc + 1) → ad1 (ad1 (ad1 ad 4 (nc + 1) q) 5 (nc + 1) r) 6 (nc + 1) m k i = ad k i := fun k i hn => by rw [ad1_n (by omega), ad1_n (by omega), ad1_n (by omega)]
  generalize hAD : ad1 (ad1 (ad1 ad 4 (nc + 1) q) 5 (nc + 1) r) 6 (nc + 1) m = AD at e4 e5 e6 en ⊢
  have old : ∀ k i, vl np (nc + 1) k i → ¬ ((k = 4 ∨ k = 5 ∨ k = 6) ∧ i = nc + 1) → vl np nc k i := by
    intro k i hv hn; unfold vl at hv ⊢; omega
  have new : ∀ k i, vl np (nc + 1) k i → ((k = 4 ∨ k = 5 ∨ k = 6) ∧ i = nc + 1) → H.size ≤ AD k i ∧ ((k = 4 ∧ AD k i = q) ∨ (k = 5 ∧ AD k i = r) ∨ (k = 6 ∧ AD k i = m)) := by
    rintro k i hv ⟨rfl | rfl | rfl, rfl⟩
    · rw [e4]; exact ⟨hq, Or.inl ⟨rfl, rfl⟩⟩
    · rw [e5]; exact ⟨hr0, Or.inr (Or.inl ⟨rfl, rfl⟩)⟩
    · rw [e6]; exact ⟨hm0, Or.inr (Or.inr ⟨rfl, rfl⟩)⟩
  refine h.renew (fun k i => (k = 0 ∨ k = 2) ∨ ((k = 4 ∨ k = 5 ∨ k = 6) ∧ i = nc + 1)) (fun k i hv ht => ?_) (fun k i hv ht => ?_) (fun k i k' i' hv hv' e => ?_)
  · have hov := old k i hv (fun e => ht (Or.inr e))
    refine ⟨hov, en k i (fun e => ht (Or.inr e)), ?_, hk _ (h.lt hov) (fun e => ht ?_)⟩
    · rcases vl_k hov with ⟨rfl, rfl⟩ | ⟨rfl, rfl⟩ | ⟨rfl, rfl⟩ | ⟨rfl, i1, i2⟩ | ⟨rfl, i1, i2⟩ | ⟨rfl, i1, i2⟩ | ⟨rfl, i1, i2⟩
      · exact absurd (Or.inl (Or.inl rfl)) ht
      · show refE (ka 0) 30 (fun j => if j < np then some (AD 3 (j + 1)) else none) = refE (ka 0) 30 (fun j => if j < np then some (ad 3 (j + 1)) else none)
        congr; funext j; rw [en 3 (j + 1) (by omega)]
      · exact absurd (Or.inl (Or.inr rfl)) ht
      · rfl
      · show chE (AD 5 i) (AD 6 i) (mn i) (wiN wd wv i) = chE (ad 5 i) (ad 6 i) (mn i) (wiN wd wv i)
        rw [en 5 i (by omega), en 6 i (by omega)]
      · show refE (ka 0) 12 (fun j => if j < mn i then some (AD 3 (rw (12 * i + j))) else none) = refE (ka 0) 12 (fun j => if j < mn i then some (ad 3 (rw (12 * i + j))) else none)
        congr; funext j; rw [en 3 _ (by omega)]
      · rfl
    · rcases e with e | e
      · exact Or.inl (Or.inl (h.2 k i 0 0 hov vl_0 e).1)
      · exact Or.inl (Or.inr (h.2 k i 2 0 hov vl_2 e).1)
  · rcases ht with (rfl | rfl) | ⟨rfl | rfl | rfl, rfl⟩
    · have : i = 0 := by unfold vl at hv; omega
      subst this
      show va_at D vwCl (AD 0 0, .inr (2, [.ref (AD 1 0), .ref (AD 2 0), .int (nI np), .int (nI (nc + 1))])) H1
      rw [en 0 0 (by omega), en 1 0 (by omega), en 2 0 (by omega)]; exact ho
    · have : i = 0 := by unfold vl at hv; omega
      subst this
      show va_at D vwCl (AD 2 0, refE (ka 1) 20 (fun j => if j < nc + 1 then some (AD 4 (j + 1)) else none)) H1
      have e : (fun j => if j < nc + 1 then some (AD 4 (j + 1)) else none) = va_up (fun j => if j < nc then some (ad 4 (j + 1)) else none) nc (some q) := by
        funext j
        by_cases hj : j = nc
        · subst hj
          rw [if_pos (by omega), e4, va_up_self]
        · rw [va_up_ne _ _ hj]
          by_cases h3 : j < nc
          · rw [if_pos h3, if_pos (by omega), en 4 _ (by omega)]
          · rw [if_neg h3, if_neg (by omega)]
      rw [e, en 2 0 (by omega)]; exact hr
    · show va_at D vwCl (AD 4 (nc + 1), chE (AD 5 (nc + 1)) (AD 6 (nc + 1)) (mn (nc + 1)) (wiN wd wv (nc + 1))) H1
      rw [e4, e5, e6, hz0.1, wiN, hz0.2, if_neg (by decide)]; exact hc
    · show va_at D vwCl (AD 5 (nc + 1), refE (ka 0) 12 (fun j => if j < mn (nc + 1) then some (AD 3 (rw (12 * (nc + 1) + j))) else none)) H1
      rw [e5, hz0.1]
      exact hrow
    · show va_at D vwCl (AD 6 (nc + 1), intE (ka 2) 12 (fun j => if j < mn (nc + 1) then bI (!so (12 * (nc + 1) + j)) else 0)) H1
      rw [e6, hz0.1]
      exact hsm
  · by_cases a : (k = 4 ∨ k = 5 ∨ k = 6) ∧ i = nc + 1
    · have na := new k i hv a
      by_cases b : (k' = 4 ∨ k' = 5 ∨ k' = 6) ∧ i' = nc + 1
      · have nb := new k' i' hv' b
        refine ⟨?_, a.2.trans b.2.symm⟩
        omega
      · rw [en k' i' b] at e
        have := h.lt (old k' i' hv' b)
        omega
    · by_cases b : (k' = 4 ∨ k' = 5 ∨ k' = 6) ∧ i' = nc + 1
      · have nb := new k' i' hv' b
        rw [en k i a] at e
        have := h.lt (old k i hv a)
        omega
      · rw [en k i a, en k' i' b] at e
        exact h.2 _ _ _ _ (old _ _ hv a) (old _ _ hv' b) e
end XU
