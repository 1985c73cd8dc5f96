/-! what the reference's state is: ten cells -/
abbrev moE (a : Nat → Nat) (tv np nc : Nat) : va_E := .inr (3, [.int (nI tv), .int (nI np), .ref (a 1), .ref (a 2), .ref (a 3), .ref (a 4), .int (nI nc), .ref (a 5), .ref (a 6), .ref (a 7), .ref (a 8), .ref (a 9)])
abbrev mW (ka : Nat → ClassId) (a : Nat → Nat) (tv np nc : Nat) (pe an up dn rw : Nat → Nat) (so : Nat → Bool) (mn : Nat → Nat) (wd : Nat → Bool) (wv : Nat → Int64) : va_W :=
  [(a 0, moE a tv np nc), (a 1, lonE (ka 3) 31 (fun i => lN (pe i))), (a 2, lonE (ka 3) 31 (fun i => lN (an i))), (a 3, lonE (ka 3) 31 (fun i => lN (up i))), (a 4, lonE (ka 3) 31 (fun i => lN (dn i))),
   (a 5, intE (ka 4) 252 (fun i => nI (rw i))), (a 6, intE (ka 2) 252 (fun i => bI (so i))), (a 7, intE (ka 4) 21 (fun i => nI (mn i))), (a 8, intE (ka 2) 21 (fun i => bI (wd i))), (a 9, lonE (ka 3) 21 wv)]
def mOk (np nc : Nat) (pe an up dn rw : Nat → Nat) (so : Nat → Bool) (mn : Nat → Nat) (wd : Nat → Bool) (wv : Nat → Int64) : Prop :=
  np ≤ 30 ∧ nc ≤ 20 ∧ (∀ p, 1 ≤ p → p ≤ np → pe p ≤ 20000 ∧ an p ≤ 20000 ∧ up p < dn p ∧ dn p ≤ 1000000) ∧
  (∀ c, 1 ≤ c → c ≤ nc → mn c ≤ 12 ∧ (∀ k, k < mn c → 1 ≤ rw (12 * c + k) ∧ rw (12 * c + k) ≤ np ∧ (so (12 * c + k) = false → 0 < pe (rw (12 * c + k)))) ∧ (0 < mn c → so (12 * c) = false)) ∧
  (∀ c, nc < c → c ≤ 20 → mn c = 0 ∧ wd c = false) ∧ (∀ c, 1 ≤ c → c ≤ nc → wd c = true → 0 ≤ (wv c).toInt)
theorem mOk.sel {np nc : Nat} {pe an up dn rw : Nat → Nat} {so : Nat → Bool} {mn : Nat → Nat} {wd : Nat → Bool} {wv : Nat → Int64} (h : mOk np nc pe an up dn rw so mn wd wv) {c : Nat} (h1 : 1 ≤ c) (h2 : c ≤ nc) : ∀ i, i < mn c → qS so c i = true → 0 < qF pe rw c i :=
  fun i hi hs => ((h.2.2.2.1 c h1 h2).2.1 i hi).2.2 (by simpa [qS] using hs)
/-- the numbers of a chain's places -/
theorem mOk.row {np nc : Nat} {pe an up dn rw : Nat → Nat} {so : Nat → Bool} {mn : Nat → Nat} {wd : Nat → Bool} {wv : Nat → Int64} (h : mOk np nc pe an up dn rw so mn wd wv) {c : Nat} (h1 : 1 ≤ c) (h2 : c ≤ nc) {k : Nat} (hk : k < mn c) :
    (1 ≤ rw (12 * c + k) ∧ rw (12 * c + k) ≤ np ∧ mn c ≤ 12) ∧ qF pe rw c k ≤ 20000 ∧ qF an rw c k ≤ 20000 ∧ qF up rw c k < qF dn rw c k ∧ qF dn rw c k ≤ 1000000 ∧ (qS so c k = true → 0 < qF pe rw c k) := by
  have g := (h.2.2.2.1 c h1 h2).2.1 k hk
  exact ⟨⟨g.1, g.2.1, (h.2.2.2.1 c h1 h2).1⟩, (h.2.2.1 _ g.1 g.2.1).1, (h.2.2.1 _ g.1 g.2.1).2.1, (h.2.2.1 _ g.1 g.2.1).2.2.1, (h.2.2.1 _ g.1 g.2.1).2.2.2, fun hs => h.sel h1 h2 k hk hs⟩
abbrev rea (pe an up dn rw : Nat → Nat) (so : Nat → Bool) (mn : Nat → Nat) (c : Nat) : Nat := sumN (brN (qS so c) (qF pe rw c) (qF an rw c) (qF up rw c) (qF dn rw c)) (mn c)
