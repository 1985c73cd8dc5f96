abbrev XIs (D : va_G) (ka : Nat → ClassId) (ad : Nat → Nat → Nat) (u : MSt) (H : Heap) : Prop := XInv D ka ad u.1.1 u.1.2 u.2.1.1 u.2.1.2.1 u.2.1.2.2.1 u.2.1.2.2.2 u.2.2.1.1 u.2.2.1.2.1 u.2.2.1.2.2 u.2.2.2.1 u.2.2.2.2 H
/-- the new addresses are the old ones, or new -/
def xFr (ad : Nat → Nat → Nat) (np nc sz : Nat) (u : MSt × (Nat → Nat → Nat)) : Prop := u.2 0 0 = ad 0 0 ∧ ∀ k i, vl u.1.1.1 u.1.1.2 k i → (∃ k' i', vl np nc k' i' ∧ u.2 k i = ad k' i') ∨ sz ≤ u.2 k i
theorem xFr_same {ad : Nat → Nat → Nat} {np nc sz : Nat} {r : ((Nat → Nat) × (Nat → Nat) × (Nat → Nat) × (Nat → Nat)) × ((Nat → Nat) × (Nat → Bool) × (Nat → Nat)) × ((Nat → Bool) × (Nat → Int64))} : xFr ad np nc sz (((np, nc), r), ad) := ⟨rfl, fun k i h => Or.inl ⟨k, i, h, rfl⟩⟩
theorem xFr_piece {ad : Nat → Nat → Nat} {np nc sz q : Nat} {r : ((Nat → Nat) × (Nat → Nat) × (Nat → Nat) × (Nat → Nat)) × ((Nat → Nat) × (Nat → Bool) × (Nat → Nat)) × ((Nat → Bool) × (Nat → Int64))} (hq : sz ≤ q) : xFr ad np nc sz (((np + 1, nc), r), ad1 ad 3 (np + 1) q) := by
  refine ⟨rfl, fun k i h => ?_⟩
  have h : vl (np + 1) nc k i := h
  by_cases e : k = 3 ∧ i = np + 1
  · obtain ⟨rfl, rfl⟩ := e
    exact Or.inr (by show sz ≤ ad1 ad 3 (np + 1) q 3 (np + 1); rw [ad1_s]; exact hq)
  · exact Or.inl ⟨k, i, by unfold vl at h ⊢; omega, ad1_n e⟩
theorem xFr_chain {ad : Nat → Nat → Nat} {np nc sz q p m : Nat} {r : ((Nat → Nat) × (Nat → Nat) × (Nat → Nat) × (Nat → Nat)) × ((Nat → Nat) × (Nat → Bool) × (Nat → Nat)) × ((Nat → Bool) × (Nat → Int64))} (hq : sz ≤ q) (hp : sz ≤ p) (hm : sz ≤ m) : xFr ad np nc sz (((np, nc + 1), r), ad1 (ad1 (ad1 ad 4 (nc + 1) q) 5 (nc + 1) p) 6 (nc + 1) m) := by
  refine ⟨rfl, fun k i h => ?_⟩
  have h : vl np (nc + 1) k i := h
  show _ ∨ sz ≤ ad1 (ad1 (ad1 ad 4 (nc + 1) q) 5 (nc + 1) p) 6 (nc + 1) m k i
  by_cases e6 : k = 6 ∧ i = nc + 1
  · obtain ⟨rfl, rfl⟩ := e6
    exact Or.inr (by rw [ad1_s]; exact hm)
  · by_cases e5 : k = 5 ∧ i = nc + 1
    · obtain ⟨rfl, rfl⟩ := e5
      exact Or.inr (by rw [ad1_n (by omega), ad1_s]; exact hp)
    · by_cases e4 : k = 4 ∧ i = nc + 1
      · obtain ⟨rfl, rfl⟩ := e4
        exact Or.inr (by rw [ad1_n (by omega), ad1_n (by omega), ad1_s]; exact hq)
      · refine Or.inl ⟨k, i, by unfold vl at h ⊢; omega, ?_⟩
        show ad1 (ad1 (ad1 ad 4 (nc + 1) q) 5 (nc + 1) p) 6 (nc + 1) m k i = ad k i
        rw [ad1_n e6, ad1_n e5, ad1_n e4]
theorem holds_eq {D : va_G} {ka : Nat → ClassId} {ad : Nat → Nat → Nat} {np nc : Nat} {pe an up dn rw : Nat → Nat} {so : Nat → Bool} {mn : Nat → Nat} {wd : Nat → Bool} {wv : Nat → Int64} {H : Heap} (hX : XInv D ka ad np nc pe an up dn rw so mn wd wv H) (hO : mOk np nc pe an up dn rw so mn wd wv) {c y : Nat} (h1 : 1 ≤ c) (h2 : c ≤ nc) (y1 : 1 ≤ y) (y2 : y ≤ np) : anyN (fun i => ad 3 (rw (12 * c + i)) == ad 3 y) (mn c) = anyN (fun k => rw (12 * c + k) == y) (mn c) := by
  refine anyN_congr (mn c) (fun i hi => ?_)
  have hR := hO.row h1 h2 hi
  by_cases e : rw (12 * c + i) = y
  · rw [e]; simp
  · have : ¬ ad 3 (rw (12 * c + i)) = ad 3 y := fun q => e (hX.2 3 _ 3 y (vl_3 hR.1.1 hR.1.2.1) (vl_3 y1 y2) q).2
    rw [beq_eq_false_iff_ne.mpr e, beq_eq_false_iff_ne.mpr this]
