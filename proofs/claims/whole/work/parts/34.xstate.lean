/-! what the class's state is: cells by their kind and number -/
def vl (np nc k i : Nat) : Prop := (k ≤ 2 ∧ i = 0) ∨ (k = 3 ∧ 1 ≤ i ∧ i ≤ np) ∨ (4 ≤ k ∧ k ≤ 6 ∧ 1 ≤ i ∧ i ≤ nc)
def wiN (wd : Nat → Bool) (wv : Nat → Int64) (c : Nat) : Int64 := if wd c = true then wv c else -1
def xC (ka : Nat → ClassId) (ad : Nat → Nat → Nat) (np nc : Nat) (pe an up dn rw : Nat → Nat) (so : Nat → Bool) (mn : Nat → Nat) (wd : Nat → Bool) (wv : Nat → Int64) (k i : Nat) : va_E := match k with
  | 0 => .inr (2, [.ref (ad 1 0), .ref (ad 2 0), .int (nI np), .int (nI nc)])
  | 1 => refE (ka 0) 30 (fun j => if j < np then some (ad 3 (j + 1)) else none)
  | 2 => refE (ka 1) 20 (fun j => if j < nc then some (ad 4 (j + 1)) else none)
  | 3 => pcE (pe i) (an i) (up i) (dn i)
  | 4 => chE (ad 5 i) (ad 6 i) (mn i) (wiN wd wv i)
  | 5 => refE (ka 0) 12 (fun j => if j < mn i then some (ad 3 (rw (12 * i + j))) else none)
  | _ => intE (ka 2) 12 (fun j => if j < mn i then bI (!so (12 * i + j)) else 0)
def XInv (D : va_G) (ka : Nat → ClassId) (ad : Nat → Nat → Nat) (np nc : Nat) (pe an up dn rw : Nat → Nat) (so : Nat → Bool) (mn : Nat → Nat) (wd : Nat → Bool) (wv : Nat → Int64) (H : Heap) : Prop :=
  (∀ k i, vl np nc k i → va_at D vwCl (ad k i, xC ka ad np nc pe an up dn rw so mn wd wv k i) H) ∧ ∀ k i k' i', vl np nc k i → vl np nc k' i' → ad k i = ad k' i' → k = k' ∧ i = i'
section XI
variable {D : va_G} {ka : Nat → ClassId} {ad : Nat → Nat → Nat} {np nc : Nat} {pe an up dn rw : Nat → Nat} {so : Nat → Bool} {mn : Nat → Nat} {wd : Nat → Bool} {wv : Nat → Int64} {H : Heap}
theorem vl_0 : vl np nc 0 0 := Or.inl ⟨by decide, rfl⟩
theorem vl_1 : vl np nc 1 0 := Or.inl ⟨by decide, rfl⟩
theorem vl_2 : vl np nc 2 0 := Or.inl ⟨by decide, rfl⟩
theorem vl_3 {i : Nat} (h1 : 1 ≤ i) (h2 : i ≤ np) : vl np nc 3 i := Or.inr (Or.inl ⟨rfl, h1, h2⟩)
theorem vl_4 {i : Nat} (h1 : 1 ≤ i) (h2 : i ≤ nc) : vl np nc 4 i := Or.inr (Or.inr ⟨by decide, by decide, h1, h2⟩)
theorem vl_5 {i : Nat} (h1 : 1 ≤ i) (h2 : i ≤ nc) : vl np nc 5 i := Or.inr (Or.inr ⟨by decide, by decide, h1, h2⟩)
theorem vl_6 {i : Nat} (h1 : 1 ≤ i) (h2 : i ≤ nc) : vl np nc 6 i := Or.inr (Or.inr ⟨by decide, by decide, h1, h2⟩)
theorem XInv.o (h : XInv D ka ad np nc pe an up dn rw so mn wd wv H) : va_at D vwCl (ad 0 0, .inr (2, [.ref (ad 1 0), .ref (ad 2 0), .int (nI np), .int (nI nc)])) H := h.1 0 0 vl_0
theorem XInv.pa (h : XInv D ka ad np nc pe an up dn rw so mn wd wv H) : va_at D vwCl (ad 1 0, refE (ka 0) 30 (fun j => if j < np then some (ad 3 (j + 1)) else none)) H := h.1 1 0 vl_1
theorem XInv.ca (h : XInv D ka ad np nc pe an up dn rw so mn wd wv H) : va_at D vwCl (ad 2 0, refE (ka 1) 20 (fun j => if j < nc then some (ad 4 (j + 1)) else none)) H := h.1 2 0 vl_2
theorem XInv.pc (h : XInv D ka ad np nc pe an up dn rw so mn wd wv H) {i : Nat} (h1 : 1 ≤ i) (h2 : i ≤ np) : va_at D vwCl (ad 3 i, pcE (pe i) (an i) (up i) (dn i)) H := h.1 3 i (vl_3 h1 h2)
theorem XInv.ch (h : XInv D ka ad np nc pe an up dn rw so mn wd wv H) (hO : mOk np nc pe an up dn rw so mn wd wv) {c : Nat} (h1 : 1 ≤ c) (h2 : c ≤ nc) : ChAt D ka (ad 4 c) (ad 5 c) (ad 6 c) (mn c) (wiN wd wv c) (fun k => ad 3 (rw (12 * c + k))) (qS so c) (qF pe rw c) (qF an rw c) (qF up rw c) (qF dn rw c) H := by
  have g := hO.2.2.2.1 c h1 h2
  refine ⟨h.1 4 c (vl_4 h1 h2), h.1 5 c (vl_5 h1 h2), h.1 6 c (vl_6 h1 h2), fun i hi => ?_, g.1, fun i hi => ?_, fun hn => ?_⟩
  · exact h.pc (g.2.1 i hi).1 (g.2.1 i hi).2.1
  · have hR := hO.row h1 h2 hi
    exact ⟨hR.2.1, hR.2.2.1, hR.2.2.2.1, hR.2.2.2.2.1, hR.2.2.2.2.2⟩
  · show (!so (12 * c + 0)) = true
    rw [Nat.add_zero, g.2.2 hn]; rfl
theorem kp_kept (hO : mOk np nc pe an up dn rw so mn wd wv) {c : Nat} (h1 : 1 ≤ c) (h2 : c ≤ nc) : kpN (wiN wd wv c) (rea pe an up dn rw so mn c) = kept pe an up dn rw so mn wd wv c := by
  have zm : ((-1 : Int64)).toInt = -1 := by decide +kernel
  unfold kept wiN
  cases hw : wd c with
  | false => rw [if_neg (by decide), kpN_none rfl]; rfl
  | true =>
    rw [if_pos rfl]
    have := hO.2.2.2.2.2 c h1 h2 hw
    unfold kpN
    rw [decide_eq_false (by omega)]; rfl
/-- what the class steps by begins is what the reference steps by moments -/
theorem step_eq (hO : mOk np nc pe an up dn rw so mn wd wv) {c : Nat} (h1 : 1 ≤ c) (h2 : c ≤ nc) (hn : 0 < mn c) (hcy : cyc (fun i => qS so c i || !true) (qF pe rw c) (mn c) ≤ 20000) :
    qF pe rw c 0 - 1 + mxN (fun k => stp (qS so c) (qF pe rw c) (qF an rw c) (k * qF pe rw c 0) (mn c) - k * qF pe rw c 0) (cyc (fun i => qS so c i || !true) (qF pe rw c) (mn c) / qF pe rw c 0) = mxN (fun t => stp (qS so c) (qF pe rw c) (qF an rw c) t (mn c) - t) (cyc (fun i => qS so c i || false) (qF pe rw c) (mn c)) := by
  have hal : ∀ i, i < mn c → (qS so c i || !true) = true → 0 < qF pe rw c i := fun i hi hs => hO.sel h1 h2 i hi (by simpa using hs)
  have hs0 : qS so c 0 = true := by
    show (!so (12 * c + 0)) = true
    rw [Nat.add_zero, (hO.2.2.2.1 c h1 h2).2.2 hn]; rfl
  have hin := cyc_in (sel := fun i => qS so c i || !true) (T := qF pe rw c) (mn c) hal
  have hdv := cyc_dvd (sel := fun i => qS so c i || !true) (T := qF pe rw c) (mn c) hal (by omega)
  have hd0 : qF pe rw c 0 ∣ cyc (fun i => qS so c i || !true) (qF pe rw c) (mn c) := hdv 0 hn (by rw [hs0]; rfl)
  exact (stp_worst hs0 hn hin.1 (fun i hi hs => ⟨hO.sel h1 h2 i hi hs, hdv i hi (by rw [hs]; rfl)⟩) (Nat.div_mul_cancel hd0).symm).symm
end XI
