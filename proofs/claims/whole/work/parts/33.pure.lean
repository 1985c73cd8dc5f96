/-! the numbers stay in their ranges -/
theorem mOk_clock {np nc : Nat} {pe an up dn rw : Nat → Nat} {so : Nat → Bool} {mn : Nat → Nat} {wd : Nat → Bool} {wv : Nat → Int64} (h : mOk np nc pe an up dn rw so mn wd wv) {y u d : Nat} (h1 : 1 ≤ y) (h2 : y ≤ np) (hu : u < d) (hd : d ≤ 1000000) : mOk np nc pe an (va_up up y u) (va_up dn y d) rw so mn wd wv := by
  obtain ⟨a1, a2, a3, a4, a5, a6⟩ := h
  refine ⟨a1, a2, fun p q1 q2 => ?_, a4, a5, a6⟩
  have g := a3 p q1 q2
  by_cases e : p = y
  · subst e
    rw [va_up_self, va_up_self]
    exact ⟨g.1, g.2.1, hu, hd⟩
  · rw [va_up_ne _ _ e, va_up_ne _ _ e]
    exact g
theorem mOk_wish {np nc : Nat} {pe an up dn rw : Nat → Nat} {so : Nat → Bool} {mn : Nat → Nat} {wd : Nat → Bool} {wv : Nat → Int64} (h : mOk np nc pe an up dn rw so mn wd wv) {x : Nat} {mi : Int64} (h2 : x ≤ nc) (hm : 0 ≤ mi.toInt) : mOk np nc pe an up dn rw so mn (va_up wd x true) (va_up wv x mi) := by
  obtain ⟨a1, a2, a3, a4, a5, a6⟩ := h
  refine ⟨a1, a2, a3, a4, fun c q1 q2 => ⟨(a5 c q1 q2).1, ?_⟩, fun c q1 q2 q3 => ?_⟩
  · rw [va_up_ne _ _ (by omega)]; exact (a5 c q1 q2).2
  · by_cases e : c = x
    · subst e; rw [va_up_self]; exact hm
    · rw [va_up_ne _ _ e] at q3 ⊢; exact a6 c q1 q2 q3
theorem brN_le {np nc : Nat} {pe an up dn rw : Nat → Nat} {so : Nat → Bool} {mn : Nat → Nat} {wd : Nat → Bool} {wv : Nat → Int64} (h : mOk np nc pe an up dn rw so mn wd wv) {c k : Nat} (h1 : 1 ≤ c) (h2 : c ≤ nc) (hk : k < mn c) : brN (qS so c) (qF pe rw c) (qF an rw c) (qF up rw c) (qF dn rw c) k ≤ 60000 := by
  have hR := h.row h1 h2 hk
  have hl := lgP_le (T := qF pe rw c k) hR.2.2.2.1
  unfold brN
  split <;> omega
theorem rea_le {np nc : Nat} {pe an up dn rw : Nat → Nat} {so : Nat → Bool} {mn : Nat → Nat} {wd : Nat → Bool} {wv : Nat → Int64} (h : mOk np nc pe an up dn rw so mn wd wv) {c : Nat} (h1 : 1 ≤ c) (h2 : c ≤ nc) : rea pe an up dn rw so mn c ≤ 720000 := by
  have hs := sumN_le (f := brN (qS so c) (qF pe rw c) (qF an rw c) (qF up rw c) (qF dn rw c)) (B := 60000) (mn c) (fun i hi => brN_le h h1 h2 hi)
  have hm := (h.2.2.2.1 c h1 h2).1
  have h3 : mn c * 60000 ≤ 12 * 60000 := Nat.mul_le_mul_right _ hm
  show sumN (brN (qS so c) (qF pe rw c) (qF an rw c) (qF up rw c) (qF dn rw c)) (mn c) ≤ 720000
  omega
theorem canN_cyc {sel : Nat → Bool} {T U : Nat → Nat} {n : Nat} (h : canN sel T U n = true) : cyc (fun i => sel i || false) T n ≤ 20000 := by
  unfold canN at h
  rw [Bool.and_eq_true] at h
  exact of_decide_eq_true h.2
theorem opPiece_ok {np nc : Nat} {pe an up dn rw : Nat → Nat} {so : Nat → Bool} {mn : Nat → Nat} {wd : Nat → Bool} {wv : Nat → Int64} (h : mOk np nc pe an up dn rw so mn wd wv) (kd : Int32) (x y : Int64) : mOks (opPiece np nc pe an up dn rw so mn wd wv kd x y).1 := by
  unfold opPiece
  split
  · exact h
  · rename_i hb
    split
    · exact h
    · obtain ⟨a1, a2, a3, a4, a5, a6⟩ := h
      refine ⟨by show np + 1 ≤ 30; omega, a2, fun p q1 q2 => ?_, fun c q1 q2 => ⟨(a4 c q1 q2).1, fun k hk => ?_, (a4 c q1 q2).2.2⟩, a5, a6⟩
      · have q2 : p ≤ np + 1 := q2
        by_cases e : p = np + 1
        · subst e
          show va_up pe (np + 1) x.toInt.toNat (np + 1) ≤ 20000 ∧ va_up an (np + 1) y.toInt.toNat (np + 1) ≤ 20000 ∧ va_up up (np + 1) 0 (np + 1) < va_up dn (np + 1) 1 (np + 1) ∧ va_up dn (np + 1) 1 (np + 1) ≤ 1000000
          rw [va_up_self, va_up_self, va_up_self, va_up_self]
          omega
        · show va_up pe (np + 1) x.toInt.toNat p ≤ 20000 ∧ va_up an (np + 1) y.toInt.toNat p ≤ 20000 ∧ va_up up (np + 1) 0 p < va_up dn (np + 1) 1 p ∧ va_up dn (np + 1) 1 p ≤ 1000000
          rw [va_up_ne _ _ e, va_up_ne _ _ e, va_up_ne _ _ e, va_up_ne _ _ e]
          exact a3 p q1 (by omega)
      · obtain ⟨b1, b2, b3⟩ := (a4 c q1 q2).2.1 k hk
        refine ⟨b1, by show rw (12 * c + k) ≤ np + 1; omega, fun hs => ?_⟩
        show 0 < va_up pe (np + 1) x.toInt.toNat (rw (12 * c + k))
        rw [va_up_ne _ _ (by omega)]
        exact b3 hs
theorem opChain_ok {np nc : Nat} {pe an up dn rw : Nat → Nat} {so : Nat → Bool} {mn : Nat → Nat} {wd : Nat → Bool} {wv : Nat → Int64} (h : mOk np nc pe an up dn rw so mn wd wv) : mOks (opChain np nc pe an up dn rw so mn wd wv).1 := by
  unfold opChain
  split
  · exact h
  · rename_i hb
    obtain ⟨a1, a2, a3, a4, a5, a6⟩ := h
    refine ⟨a1, by show nc + 1 ≤ 20; omega, a3, fun c q1 q2 => ?_, fun c q1 q2 => a5 c (by have : nc + 1 < c := q1; omega) q2, fun c q1 q2 q3 => ?_⟩
    · have q2 : c ≤ nc + 1 := q2
      rcases Nat.lt_or_ge nc c with e | e
      · have hz := (a5 c e (by omega)).1
        refine ⟨by show mn c ≤ 12; omega, fun k hk => absurd (show k < mn c from hk) (by omega), fun hk => absurd (show 0 < mn c from hk) (by omega)⟩
      · exact a4 c q1 e
    · have q2 : c ≤ nc + 1 := q2
      rcases Nat.lt_or_ge nc c with e | e
      · have hz := (a5 c e (by omega)).2
        rw [show wd c = true from q3] at hz
        cases hz
      · exact a6 c q1 e q3
theorem opClock_ok {np nc : Nat} {pe an up dn rw : Nat → Nat} {so : Nat → Bool} {mn : Nat → Nat} {wd : Nat → Bool} {wv : Nat → Int64} (h : mOk np nc pe an up dn rw so mn wd wv) (y : Int32) (u d : Int64) : mOks (opClock np nc pe an up dn rw so mn wd wv y u d).1 := by
  unfold opClock
  split
  · exact h
  · rename_i hn
    split
    · exact h
    · obtain ⟨-, h1, h2⟩ := cNo_nI (show cNo y np = false by simpa using hn)
      exact mOk_clock h h1 h2 (by omega) (by omega)
theorem opWish_ok {np nc : Nat} {pe an up dn rw : Nat → Nat} {so : Nat → Bool} {mn : Nat → Nat} {wd : Nat → Bool} {wv : Nat → Int64} (h : mOk np nc pe an up dn rw so mn wd wv) (x : Int32) (mi : Int64) : mOks (opWish np nc pe an up dn rw so mn wd wv x mi).1 := by
  unfold opWish
  split
  · exact h
  · rename_i hn
    split
    · exact h
    · obtain ⟨-, h1, h2, -⟩ := spEmp_f (show spEmp nc mn x = false by simpa using hn)
      exact mOk_wish h h2 (by omega)
theorem opAdd_ok {np nc : Nat} {pe an up dn rw : Nat → Nat} {so : Nat → Bool} {mn : Nat → Nat} {wd : Nat → Bool} {wv : Nat → Int64} (h : mOk np nc pe an up dn rw so mn wd wv) (x y : Int32) (tr : Bool) : mOks (opAdd np nc pe an up dn rw so mn wd wv x y tr).1 := by
  unfold opAdd
  split
  · exact h
  · rename_i hn
    split
    · exact h
    · rename_i h3
      split
      · exact h
      · split
        · exact h
        · have hn2 : cNo x nc = false ∧ cNo y np = false := by simpa using hn
          obtain ⟨-, x1, x2⟩ := cNo_nI hn2.1
          obtain ⟨-, y1, y2⟩ := cNo_nI hn2.2
          generalize x.toInt.toNat = X at *
          generalize y.toInt.toNat = Y at *
          obtain ⟨a1, a2, a3, a4, a5, a6⟩ := h
          refine ⟨a1, a2, a3, fun c q1 q2 => ?_, fun c q1 q2 => ?_, a6⟩
          · have g := a4 c q1 q2
            show va_up mn X (mn X + 1) c ≤ 12 ∧ (∀ k, k < va_up mn X (mn X + 1) c → 1 ≤ va_up rw (12 * X + mn X) Y (12 * c + k) ∧ va_up rw (12 * X + mn X) Y (12 * c + k) ≤ np ∧ (va_up so (12 * X + mn X) (!(mn X == 0 || !tr)) (12 * c + k) = false → 0 < pe (va_up rw (12 * X + mn X) Y (12 * c + k)))) ∧ (0 < va_up mn X (mn X + 1) c → va_up so (12 * X + mn X) (!(mn X == 0 || !tr)) (12 * c) = false)
            by_cases e : c = X
            · subst e
              rw [va_up_self]
              refine ⟨by omega, fun k hk => ?_, fun _ => ?_⟩
              · by_cases ek : k = mn c
                · subst ek
                  rw [va_up_self, va_up_self]
                  refine ⟨y1, y2, fun hs => Nat.pos_of_ne_zero (fun hz => h3 ?_)⟩
                  rw [show (mn c == 0 || !tr) = true by revert hs; cases (mn c == 0 || !tr) <;> simp, hz]; rfl
                · rw [va_up_ne _ _ (by omega), va_up_ne _ _ (by omega)]
                  exact g.2.1 k (by omega)
              · by_cases ek : mn c = 0
                · rw [ek, Nat.add_zero, va_up_self]; simp
                · rw [va_up_ne _ _ (by omega)]
                  exact g.2.2 (by omega)
            · have gX := a4 X x1 x2
              rw [va_up_ne _ _ e]
              refine ⟨g.1, fun k hk => ?_, fun hk => ?_⟩
              · rw [va_up_ne _ _ (by omega), va_up_ne _ _ (by omega)]
                exact g.2.1 k hk
              · rw [va_up_ne _ _ (by omega)]
                exact g.2.2 hk
          · have g := a5 c q1 q2
            have q1 : nc < c := q1
            refine ⟨?_, g.2⟩
            show va_up mn X (mn X + 1) c = 0
            rw [va_up_ne _ _ (by omega)]
            exact g.1
