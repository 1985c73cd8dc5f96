/-! numbers: the long period, sums, the common cycle, Euclid, stepping -/
def lgP (T U D : Nat) : Nat := (T * (D + U) + D - 1) / D
theorem lgP_le {T U D : Nat} (h : U < D) : lgP T U D ≤ 2 * T := by
  unfold lgP
  have h0 : 0 < D := by omega
  have h1 : T * (D + U) ≤ T * (D + D) := Nat.mul_le_mul_left T (by omega)
  have e1 : T * (D + D) = T * D + T * D := Nat.mul_add T D D
  have e2 : (2 * T + 1) * D = T * D + T * D + D := by
    rw [Nat.add_mul, Nat.mul_assoc, Nat.one_mul, Nat.two_mul]
  have h2 : (T * (D + U) + D - 1) / D < 2 * T + 1 := by
    rw [Nat.div_lt_iff_lt_mul h0, e2]
    omega
  omega
theorem lgP_0 {T D : Nat} (h : 0 < D) : lgP T 0 D = T := by
  unfold lgP
  rw [Nat.add_zero]
  have e : T * D + D - 1 = (D - 1) + D * T := by rw [Nat.mul_comm D T]; omega
  rw [e, Nat.add_mul_div_left _ _ h, Nat.div_eq_of_lt (by omega), Nat.zero_add]
theorem mul_small {a b A B : Nat} (ha : a ≤ A) (hb : b ≤ B) : a * b ≤ A * B := Nat.mul_le_mul ha hb
def sumN (f : Nat → Nat) : Nat → Nat
  | 0 => 0
  | n + 1 => sumN f n + f n
theorem sumN_le {f : Nat → Nat} {B : Nat} : ∀ n, (∀ i, i < n → f i ≤ B) → sumN f n ≤ n * B
  | 0, _ => by simp [sumN]
  | n + 1, h => by
    have h1 := sumN_le n (fun i hi => h i (by omega))
    have h2 := h n (by omega)
    have e : (n + 1) * B = n * B + B := Nat.succ_mul n B
    show sumN f n + f n ≤ (n + 1) * B
    omega
theorem sumN_mono {f : Nat → Nat} : ∀ n i, i ≤ n → sumN f i ≤ sumN f n
  | 0, i, h => by rw [show i = 0 by omega]; exact Nat.le_refl _
  | n + 1, i, h => by
    rcases Nat.lt_or_ge i (n + 1) with q | q
    · exact Nat.le_trans (sumN_mono n i (by omega)) (Nat.le_add_right _ _)
    · rw [show i = n + 1 by omega]; exact Nat.le_refl _
theorem sumN_ge {f : Nat → Nat} {n i : Nat} (h : i < n) : f i ≤ sumN f n := by
  have h1 := sumN_mono (f := f) n (i + 1) h
  have h2 : f i ≤ sumN f (i + 1) := Nat.le_add_left _ _
  omega
theorem sumN_congr {f g : Nat → Nat} : ∀ n, (∀ i, i < n → f i = g i) → sumN f n = sumN g n
  | 0, _ => rfl
  | n + 1, h => by
    show sumN f n + f n = sumN g n + g n
    rw [sumN_congr n (fun i hi => h i (by omega)), h n (by omega)]
def lastS (sel : Nat → Bool) (f : Nat → Nat) : Nat → Nat
  | 0 => 0
  | n + 1 => if sel n = true then f n else lastS sel f n
theorem lastS_le {sel : Nat → Bool} {f : Nat → Nat} {B : Nat} : ∀ n, (∀ i, i < n → f i ≤ B) → lastS sel f n ≤ B
  | 0, _ => Nat.zero_le _
  | n + 1, h => by
    unfold lastS
    split
    · exact h n (by omega)
    · exact lastS_le n (fun i hi => h i (by omega))
/-! Euclid -/
def eu : Nat → Nat → Nat → Prop
  | 0, _, b => b = 0
  | n + 1, a, b => b = 0 ∨ eu n b (a % b)
theorem eu_lt : ∀ (k a b : Nat), b < 2 ^ k → eu (2 * k) a b
  | 0, a, b, h => by
    show b = 0
    have : 2 ^ 0 = 1 := rfl
    omega
  | k + 1, a, b, h => by
    show b = 0 ∨ eu (2 * k + 1) b (a % b)
    rcases Nat.eq_zero_or_pos b with q | q
    · exact Or.inl q
    · refine Or.inr ?_
      show a % b = 0 ∨ eu (2 * k) (a % b) (b % (a % b))
      have hr : a % b < b := Nat.mod_lt a q
      rcases Nat.eq_zero_or_pos (a % b) with z | z
      · exact Or.inl z
      · refine Or.inr (eu_lt k _ _ ?_)
        have hp : 2 ^ (k + 1) = 2 ^ k * 2 := Nat.pow_succ 2 k
        have hm := Nat.mod_lt b z
        rcases Nat.lt_or_ge (2 ^ k) (a % b) with y | y
        · have e : b % (a % b) = b - a % b := by
            rw [Nat.mod_eq_sub_mod (by omega)]
            exact Nat.mod_eq_of_lt (by omega)
          omega
        · omega
theorem gcd_step (a b : Nat) : Nat.gcd a b = Nat.gcd b (a % b) := by
  rw [Nat.gcd_comm a b, Nat.gcd_rec b a, Nat.gcd_comm]
theorem lcm_eq {a b : Nat} (h : 0 < Nat.gcd a b) : a / Nat.gcd a b * b = Nat.lcm a b := by
  obtain ⟨k, hk⟩ := Nat.gcd_dvd_left a b
  generalize hg : Nat.gcd a b = g at h hk
  unfold Nat.lcm
  rw [hg, hk, Nat.mul_div_cancel_left k h, Nat.mul_assoc, Nat.mul_div_cancel_left _ h]
theorem lcm_le {a b : Nat} : Nat.lcm a b ≤ a * b := by
  unfold Nat.lcm
  exact Nat.div_le_self _ _
theorem lcm_pos' {a b : Nat} (ha : 0 < a) (hb : 0 < b) : 0 < Nat.lcm a b := Nat.lcm_pos ha hb
def cyc (sel : Nat → Bool) (T : Nat → Nat) : Nat → Nat
  | 0 => 1
  | n + 1 => if sel n = true then min 1000000000 (Nat.lcm (cyc sel T n) (T n)) else cyc sel T n
theorem cyc_in {sel : Nat → Bool} {T : Nat → Nat} : ∀ n, (∀ i, i < n → sel i = true → 0 < T i) → 0 < cyc sel T n ∧ cyc sel T n ≤ 1000000000
  | 0, _ => ⟨Nat.zero_lt_one, (by decide : 1 ≤ 1000000000)⟩
  | n + 1, h => by
    have h1 := cyc_in n (fun i hi => h i (by omega))
    unfold cyc
    split
    · rename_i hs
      have h2 := lcm_pos' h1.1 (h n (by omega) hs)
      omega
    · exact h1
theorem cyc_dvd {sel : Nat → Bool} {T : Nat → Nat} : ∀ n, (∀ i, i < n → sel i = true → 0 < T i) → cyc sel T n < 1000000000 → ∀ i, i < n → sel i = true → T i ∣ cyc sel T n
  | 0, _, _, i, hi, _ => absurd hi (by omega)
  | n + 1, h, hl, i, hi, hs => by
    have h1 := cyc_in n (fun i hi => h i (by omega))
    unfold cyc at hl ⊢
    split at hl
    · rename_i hsn
      rw [if_pos hsn]
      have h2 := lcm_pos' h1.1 (h n (by omega) hsn)
      have e : min 1000000000 (Nat.lcm (cyc sel T n) (T n)) = Nat.lcm (cyc sel T n) (T n) := by omega
      rw [e] at hl ⊢
      rcases Nat.lt_or_ge i n with q | q
      · have h3 : cyc sel T n ∣ Nat.lcm (cyc sel T n) (T n) := Nat.dvd_lcm_left _ _
        have h4 := Nat.le_of_dvd h2 h3
        exact Nat.dvd_trans (cyc_dvd n (fun i hi => h i (by omega)) (by omega) i q hs) h3
      · rw [show i = n by omega]
        exact Nat.dvd_lcm_right _ _
    · rename_i hsn
      rw [if_neg hsn]
      have hin : i < n := by
        rcases Nat.lt_or_ge i n with q | q
        · exact q
        · rw [show i = n by omega] at hs; exact absurd hs hsn
      exact cyc_dvd n (fun i hi => h i (by omega)) hl i hin hs
/-! the next begin, and stepping -/
def nx (x T : Nat) : Nat := (x + T - 1) / T * T
theorem nx_ge {x T : Nat} (h : 0 < T) : x ≤ nx x T := by
  unfold nx
  have h1 := Nat.div_add_mod' (x + T - 1) T
  have h2 := Nat.mod_lt (x + T - 1) h
  omega
theorem nx_lt {x T : Nat} (h : 0 < T) : nx x T < x + T := by
  unfold nx
  have h1 := Nat.div_mul_le_self (x + T - 1) T
  omega
theorem nx_add {x T q : Nat} (h : 0 < T) : nx (x + T * q) T = nx x T + T * q := by
  unfold nx
  have e : x + T * q + T - 1 = (x + T - 1) + T * q := by omega
  rw [e, Nat.add_mul_div_left _ _ h, Nat.add_mul, Nat.mul_comm q T]
theorem nx_mul {T k : Nat} (h : 0 < T) : nx (k * T) T = k * T := by
  have e := nx_add (x := 0) (q := k) h
  rw [Nat.zero_add, Nat.mul_comm T k] at e
  have e0 : nx 0 T = 0 := by
    unfold nx
    rw [Nat.zero_add, Nat.div_eq_of_lt (by omega), Nat.zero_mul]
  rw [e, e0, Nat.zero_add]
theorem nx_nx {x T : Nat} (h : 0 < T) : nx (nx x T) T = nx x T := nx_mul h
def stp (sel : Nat → Bool) (T R : Nat → Nat) (b : Nat) : Nat → Nat
  | 0 => b
  | n + 1 => (if sel n = true then nx (stp sel T R b n) (T n) else stp sel T R b n) + R n
theorem stp_ge {sel : Nat → Bool} {T R : Nat → Nat} {b : Nat} : ∀ n, (∀ i, i < n → sel i = true → 0 < T i) → b ≤ stp sel T R b n
  | 0, _ => Nat.le_refl _
  | n + 1, h => by
    have h1 := stp_ge (R := R) (b := b) n (fun i hi => h i (by omega))
    unfold stp
    split
    · rename_i hs
      have := nx_ge (x := stp sel T R b n) (h n (by omega) hs)
      omega
    · omega
theorem stp_le {sel : Nat → Bool} {T R : Nat → Nat} {b B : Nat} : ∀ n, (∀ i, i < n → T i ≤ B ∧ R i ≤ B ∧ (sel i = true → 0 < T i)) → stp sel T R b n ≤ b + n * (2 * B)
  | 0, _ => Nat.le_add_right _ _
  | n + 1, h => by
    have h1 := stp_le (b := b) (B := B) n (fun i hi => h i (by omega))
    have h2 := h n (by omega)
    have e : (n + 1) * (2 * B) = n * (2 * B) + 2 * B := Nat.succ_mul n (2 * B)
    unfold stp
    split
    · rename_i hs
      have := nx_lt (x := stp sel T R b n) (h2.2.2 hs)
      omega
    · omega
theorem stp_add {sel : Nat → Bool} {T R : Nat → Nat} {b m : Nat} : ∀ n, (∀ i, i < n → sel i = true → 0 < T i ∧ T i ∣ m) → stp sel T R (b + m) n = stp sel T R b n + m
  | 0, _ => rfl
  | n + 1, h => by
    have h1 := stp_add (R := R) (b := b) n (fun i hi => h i (by omega))
    unfold stp
    rw [h1]
    split
    · rename_i hs
      obtain ⟨h2, q, hq⟩ := h n (by omega) hs
      rw [hq, nx_add h2]
      omega
    · omega
theorem stp_first {sel : Nat → Bool} {T R : Nat → Nat} {b : Nat} (h0 : sel 0 = true) (h1 : 0 < T 0) : ∀ n, stp sel T R b (n + 1) = stp sel T R (nx b (T 0)) (n + 1)
  | 0 => by
    show (if sel 0 = true then nx b (T 0) else b) + R 0 = (if sel 0 = true then nx (nx b (T 0)) (T 0) else nx b (T 0)) + R 0
    rw [if_pos h0, if_pos h0, nx_nx h1]
  | n + 1 => by
    have ih := stp_first (R := R) (b := b) h0 h1 n
    show (if sel (n + 1) = true then nx (stp sel T R b (n + 1)) (T (n + 1)) else stp sel T R b (n + 1)) + R (n + 1) = (if sel (n + 1) = true then nx (stp sel T R (nx b (T 0)) (n + 1)) (T (n + 1)) else stp sel T R (nx b (T 0)) (n + 1)) + R (n + 1)
    rw [ih]
def mxN (f : Nat → Nat) : Nat → Nat
  | 0 => 0
  | n + 1 => max (mxN f n) (f n)
theorem mxN_ge {f : Nat → Nat} : ∀ n i, i < n → f i ≤ mxN f n
  | 0, i, h => absurd h (by omega)
  | n + 1, i, h => by
    show f i ≤ max (mxN f n) (f n)
    rcases Nat.lt_or_ge i n with q | q
    · have := mxN_ge (f := f) n i q
      omega
    · rw [show i = n by omega]
      omega
theorem mxN_le {f : Nat → Nat} {B : Nat} : ∀ n, (∀ i, i < n → f i ≤ B) → mxN f n ≤ B
  | 0, _ => Nat.zero_le _
  | n + 1, h => by
    have h1 := mxN_le n (fun i hi => h i (by omega))
    have h2 := h n (by omega)
    show max (mxN f n) (f n) ≤ B
    omega
theorem mxN_le' {f : Nat → Nat} {c B : Nat} : ∀ n, 0 < n → (∀ i, i < n → c + f i ≤ B) → c + mxN f n ≤ B
  | 0, h, _ => absurd h (by omega)
  | n + 1, _, h => by
    have h2 := h n (by omega)
    show c + max (mxN f n) (f n) ≤ B
    rcases Nat.eq_zero_or_pos n with q | q
    · subst q
      show c + max 0 (f 0) ≤ B
      omega
    · have h1 := mxN_le' n q (fun i hi => h i (by omega))
      omega
theorem mxN_congr {f g : Nat → Nat} : ∀ n, (∀ i, i < n → f i = g i) → mxN f n = mxN g n
  | 0, _ => rfl
  | n + 1, h => by
    show max (mxN f n) (f n) = max (mxN g n) (g n)
    rw [mxN_congr n (fun i hi => h i (by omega)), h n (by omega)]
/-- one look for each begin finds the worst of all moments -/
theorem stp_worst {sel : Nat → Bool} {T R : Nat → Nat} {n m q : Nat} (h0 : sel 0 = true) (hn : 0 < n) (hm : 0 < m) (hT : ∀ i, i < n → sel i = true → 0 < T i ∧ T i ∣ m) (hq : m = q * T 0) :
    mxN (fun t => stp sel T R t n - t) m = (T 0 - 1) + mxN (fun k => stp sel T R (k * T 0) n - k * T 0) q := by
  obtain ⟨n, rfl⟩ : ∃ n', n = n' + 1 := ⟨n - 1, by omega⟩
  have hp : 0 < T 0 := (hT 0 hn h0).1
  have hq0 : 0 < q := by
    rcases Nat.eq_zero_or_pos q with z | z
    · rw [z, Nat.zero_mul] at hq; omega
    · exact z
  have hge : ∀ b, b ≤ stp sel T R b (n + 1) := fun b => stp_ge (n + 1) (fun i hi hs => (hT i hi hs).1)
  have hper : stp sel T R (q * T 0) (n + 1) = stp sel T R 0 (n + 1) + q * T 0 := by
    have e := stp_add (R := R) (b := 0) (m := m) (n + 1) hT
    rw [Nat.zero_add] at e
    rw [← hq]
    exact e
  have g0 : stp sel T R (q * T 0) (n + 1) - q * T 0 = stp sel T R (0 * T 0) (n + 1) - 0 * T 0 := by
    rw [hper, Nat.zero_mul]
    omega
  apply Nat.le_antisymm
  · refine mxN_le m (fun t ht => ?_)
    show stp sel T R t (n + 1) - t ≤ _
    rw [stp_first h0 hp n]
    have a1 := nx_ge (x := t) hp
    have a2 := nx_lt (x := t) hp
    obtain ⟨k, hk⟩ : ∃ k, nx t (T 0) = k * T 0 := ⟨_, rfl⟩
    rw [hk] at a1 a2 ⊢
    have hkq : k ≤ q := by
      rcases Nat.lt_or_ge q k with z | z
      · have : (q + 1) * T 0 ≤ k * T 0 := Nat.mul_le_mul_right _ z
        rw [Nat.succ_mul] at this
        omega
      · exact z
    have b1 := hge (k * T 0)
    rcases Nat.lt_or_ge k q with z | z
    · have c1 := mxN_ge (f := fun k => stp sel T R (k * T 0) (n + 1) - k * T 0) q k z
      (try dsimp only at c1)
      omega
    · have : k = q := by omega
      subst this
      have c1 := mxN_ge (f := fun k => stp sel T R (k * T 0) (n + 1) - k * T 0) k 0 hq0
      (try dsimp only at c1)
      omega
  · refine mxN_le' q hq0 (fun k hk => ?_)
    show T 0 - 1 + (stp sel T R (k * T 0) (n + 1) - k * T 0) ≤ _
    have look : ∀ j, 0 < j → j ≤ q → T 0 - 1 + (stp sel T R (j * T 0) (n + 1) - j * T 0) ≤ mxN (fun t => stp sel T R t (n + 1) - t) m ∨ j = q ∧ T 0 = 1 := by
      intro j hj hjq
      have e1 : j * T 0 = (j - 1) * T 0 + T 0 := by
        rw [← Nat.succ_mul]
        congr 1
        omega
      have e2 : j * T 0 ≤ q * T 0 := Nat.mul_le_mul_right _ hjq
      rcases Nat.lt_or_ge ((j - 1) * T 0 + 1) m with z | z
      · refine Or.inl ?_
        have c1 := mxN_ge (f := fun t => stp sel T R t (n + 1) - t) m ((j - 1) * T 0 + 1) z
        (try dsimp only at c1)
        have e3 : nx ((j - 1) * T 0 + 1) (T 0) = j * T 0 := by
          have := nx_add (x := 1) (q := j - 1) hp
          rw [Nat.add_comm 1, Nat.mul_comm (T 0) (j - 1)] at this
          rw [this]
          have e4 : nx 1 (T 0) = T 0 := by
            unfold nx
            rw [show 1 + T 0 - 1 = T 0 by omega, Nat.div_self hp, Nat.one_mul]
          rw [e4]
          omega
        rw [stp_first h0 hp n, e3] at c1
        have b1 := hge (j * T 0)
        omega
      · refine Or.inr ⟨?_, ?_⟩
        · rcases Nat.lt_or_ge j q with y | y
          · have : (j + 1) * T 0 ≤ q * T 0 := Nat.mul_le_mul_right _ y
            rw [Nat.succ_mul] at this
            omega
          · omega
        · omega
    rcases Nat.eq_zero_or_pos k with z | z
    · subst z
      rcases look q hq0 (Nat.le_refl _) with y | y
      · rw [g0] at y
        exact y
      · have c1 := mxN_ge (f := fun t => stp sel T R t (n + 1) - t) m 0 hm
        (try dsimp only at c1)
        rw [Nat.zero_mul]
        omega
    · rcases look k z (by omega) with y | y
      · exact y
      · omega
/-! looking through a row; the chain's numbers -/
def anyN (p : Nat → Bool) : Nat → Bool
  | 0 => false
  | n + 1 => anyN p n || p n
theorem anyN_next {p : Nat → Bool} {i : Nat} (h : anyN p i = false) (hp : p i = false) : anyN p (i + 1) = false := by
  show (anyN p i || p i) = false
  rw [h, hp]; rfl
theorem anyN_hit {p : Nat → Bool} : ∀ {n i : Nat}, i < n → p i = true → anyN p n = true
  | 0, i, h, _ => absurd h (by omega)
  | n + 1, i, h, hp => by
    show (anyN p n || p n) = true
    rcases Nat.lt_or_ge i n with q | q
    · rw [anyN_hit q hp]; rfl
    · rw [show n = i by omega, hp]; cases anyN p i <;> rfl
theorem anyN_skip {p : Nat → Bool} {i : Nat} (hp : p i = false) : anyN p (i + 1) = anyN p i := by
  show (anyN p i || p i) = anyN p i
  rw [hp]; cases anyN p i <;> rfl
theorem anyN_iff {p : Nat → Bool} : ∀ n : Nat, anyN p n = true ↔ ∃ i, i < n ∧ p i = true
  | 0 => ⟨fun h => Bool.noConfusion h, fun ⟨i, h, _⟩ => absurd h (Nat.not_lt_zero i)⟩
  | n + 1 => by
    show (anyN p n || p n) = true ↔ _
    rw [Bool.or_eq_true, anyN_iff n]
    constructor
    · rintro (⟨i, h1, h2⟩ | h)
      · exact ⟨i, by omega, h2⟩
      · exact ⟨n, by omega, h⟩
    · rintro ⟨i, h1, h2⟩
      rcases Nat.lt_or_ge i n with q | q
      · exact Or.inl ⟨i, q, h2⟩
      · rw [show n = i by omega]; exact Or.inr h2
theorem anyN_congr {p q : Nat → Bool} : ∀ n, (∀ i, i < n → p i = q i) → anyN p n = anyN q n
  | 0, _ => rfl
  | n + 1, h => by
    show (anyN p n || p n) = (anyN q n || q n)
    rw [anyN_congr n (fun i hi => h i (by omega)), h n (by omega)]
def brN (sel : Nat → Bool) (T R U Dn : Nat → Nat) (i : Nat) : Nat := if sel i = true then lgP (T i) (U i) (Dn i) + R i else R i
def kpN (wi : Int64) (w : Nat) : Bool := !(decide (wi.toInt = (-1 : Int64).toInt)) && decide ((lN w).toInt ≤ wi.toInt)
theorem kpN_none {wi : Int64} {w : Nat} (h : wi.toInt = (-1 : Int64).toInt) : kpN wi w = false := by simp [kpN, h]
theorem kpN_no {wi : Int64} {w : Nat} (h1 : ¬ wi.toInt = (-1 : Int64).toInt) (h : wi.toInt < (lN w).toInt) : kpN wi w = false := by
  have h2 : ¬ (lN w).toInt ≤ wi.toInt := by omega
  unfold kpN
  rw [decide_eq_false h2]
  cases (!decide (wi.toInt = (-1 : Int64).toInt)) <;> rfl
theorem kpN_yes {wi : Int64} {w : Nat} (h1 : ¬ wi.toInt = (-1 : Int64).toInt) (h : (lN w).toInt ≤ wi.toInt) : kpN wi w = true := by
  unfold kpN
  rw [decide_eq_false h1, decide_eq_true h]; rfl
def canN (sel : Nat → Bool) (T U : Nat → Nat) (n : Nat) : Bool := !(anyN (fun i => U i != 0) n) && decide (cyc (fun i => sel i || !true) T n ≤ 20000)
theorem canN_no {sel : Nat → Bool} {T U : Nat → Nat} {n : Nat} (h : 20000 < cyc (fun i => sel i || !true) T n) : canN sel T U n = false := by
  unfold canN
  rw [decide_eq_false (by omega : ¬ cyc (fun i => sel i || !true) T n ≤ 20000)]
  cases (!anyN (fun i => U i != 0) n) <;> rfl
theorem canN_yes {sel : Nat → Bool} {T U : Nat → Nat} {n : Nat} (h1 : (!(anyN (fun i => U i != 0) n)) = true) (h : cyc (fun i => sel i || !true) T n ≤ 20000) : canN sel T U n = true := by
  unfold canN
  rw [h1, decide_eq_true h]; rfl
/-! the last that samples; the common cycle under any bound -/
def lastI (sel : Nat → Bool) : Nat → Nat
  | 0 => 0
  | n + 1 => if sel n = true then n else lastI sel n
theorem lastI_lt {sel : Nat → Bool} : ∀ n, 0 < n → lastI sel n < n
  | 0, h => absurd h (by omega)
  | n + 1, _ => by
    unfold lastI
    split
    · omega
    · rcases Nat.eq_zero_or_pos n with q | q
      · subst q; exact Nat.zero_lt_one
      · have := lastI_lt (sel := sel) n q
        omega
theorem lastI_le {sel : Nat → Bool} : ∀ n, lastI sel n ≤ n
  | 0 => Nat.le_refl _
  | n + 1 => Nat.le_of_lt (lastI_lt (n + 1) (by omega))
theorem lastS_I {sel : Nat → Bool} {f : Nat → Nat} (h0 : sel 0 = true) : ∀ n, lastS sel f (n + 1) = f (lastI sel (n + 1))
  | 0 => by simp [lastS, lastI, h0]
  | n + 1 => by
    have ih := lastS_I (f := f) h0 n
    show (if sel (n + 1) = true then f (n + 1) else lastS sel f (n + 1)) = f (if sel (n + 1) = true then n + 1 else lastI sel (n + 1))
    by_cases h : sel (n + 1) = true
    · rw [if_pos h, if_pos h]
    · rw [if_neg h, if_neg h, ih]
def lcmN (sel : Nat → Bool) (T : Nat → Nat) : Nat → Nat
  | 0 => 1
  | n + 1 => if sel n = true then Nat.lcm (lcmN sel T n) (T n) else lcmN sel T n
theorem lcmN_pos {sel : Nat → Bool} {T : Nat → Nat} : ∀ n, (∀ i, i < n → sel i = true → 0 < T i) → 0 < lcmN sel T n
  | 0, _ => Nat.zero_lt_one
  | n + 1, h => by
    have h1 := lcmN_pos n (fun i hi => h i (by omega))
    unfold lcmN
    split
    · rename_i hs; exact lcm_pos' h1 (h n (by omega) hs)
    · exact h1
def cyM (B : Nat) (sel : Nat → Bool) (T : Nat → Nat) : Nat → Nat
  | 0 => 1
  | n + 1 => if sel n = true then min B (Nat.lcm (cyM B sel T n) (T n)) else cyM B sel T n
theorem cyM_min {B : Nat} (hB : 0 < B) {sel : Nat → Bool} {T : Nat → Nat} : ∀ n, (∀ i, i < n → sel i = true → 0 < T i) → cyM B sel T n = min B (lcmN sel T n)
  | 0, _ => by show 1 = min B 1; omega
  | n + 1, h => by
    have ih := cyM_min hB n (fun i hi => h i (by omega))
    have hp := lcmN_pos n (fun i hi => h i (by omega))
    unfold cyM lcmN
    by_cases hs : sel n = true
    · rw [if_pos hs, if_pos hs, ih]
      have ht := h n (by omega) hs
      rcases Nat.lt_or_ge (lcmN sel T n) B with q | q
      · rw [show min B (lcmN sel T n) = lcmN sel T n by omega]
      · rw [show min B (lcmN sel T n) = B by omega]
        have h1 : B ≤ Nat.lcm B (T n) := Nat.le_of_dvd (lcm_pos' hB ht) (Nat.dvd_lcm_left _ _)
        have h2 : lcmN sel T n ≤ Nat.lcm (lcmN sel T n) (T n) := Nat.le_of_dvd (lcm_pos' hp ht) (Nat.dvd_lcm_left _ _)
        omega
    · rw [if_neg hs, if_neg hs, ih]
theorem cyM_top {B : Nat} (hB : 0 < B) {sel : Nat → Bool} {T : Nat → Nat} {n i : Nat} (hin : i ≤ n) (h : ∀ i, i < n → sel i = true → 0 < T i) (ht : cyM B sel T i = B) : cyM B sel T n = B := by
  induction n with
  | zero => rw [show i = 0 by omega] at ht; exact ht
  | succ n ih =>
    rcases Nat.lt_or_ge n i with q | q
    · rw [show i = n + 1 by omega] at ht; exact ht
    · have h1 := ih q (fun j hj => h j (by omega))
      unfold cyM
      by_cases hs : sel n = true
      · rw [if_pos hs, h1]
        have h2 : B ≤ Nat.lcm B (T n) := Nat.le_of_dvd (lcm_pos' hB (h n (by omega) hs)) (Nat.dvd_lcm_left _ _)
        omega
      · rw [if_neg hs, h1]
theorem cyM_in {B : Nat} (hB : 0 < B) {sel : Nat → Bool} {T : Nat → Nat} (n : Nat) (h : ∀ i, i < n → sel i = true → 0 < T i) : 0 < cyM B sel T n ∧ cyM B sel T n ≤ B := by
  have h1 := cyM_min hB n h
  have h2 := lcmN_pos n h
  omega
theorem cyc_M {sel : Nat → Bool} {T : Nat → Nat} : ∀ n, cyc sel T n = cyM 1000000000 sel T n
  | 0 => rfl
  | n + 1 => by
    unfold cyc cyM
    rw [cyc_M n]
theorem cyc_min {sel : Nat → Bool} {T : Nat → Nat} {n : Nat} (h : ∀ i, i < n → sel i = true → 0 < T i) : cyc sel T n = min 1000000000 (lcmN sel T n) := by rw [cyc_M, cyM_min (by decide) n h]
/-- whether the cycle is at most 20000: by either bound; and then both are the same -/
theorem cyM_le {sel : Nat → Bool} {T : Nat → Nat} {n : Nat} (h : ∀ i, i < n → sel i = true → 0 < T i) : cyM 20001 sel T n ≤ 20000 ↔ cyc sel T n ≤ 20000 := by
  rw [cyc_min h, cyM_min (by decide) n h]; omega
theorem cyM_eq {sel : Nat → Bool} {T : Nat → Nat} {n : Nat} (h : ∀ i, i < n → sel i = true → 0 < T i) (hl : cyc sel T n ≤ 20000) : cyM 20001 sel T n = cyc sel T n := by
  have h1 := cyc_min h
  rw [h1] at hl ⊢
  rw [cyM_min (by decide) n h]; omega
/-! a chain of the reference: its rows' places -/
def qS (so : Nat → Bool) (c : Nat) : Nat → Bool := fun k => !so (12 * c + k)
def qF (pe rw : Nat → Nat) (c : Nat) : Nat → Nat := fun k => pe (rw (12 * c + k))
def cNo (x : Int32) (n : Nat) : Bool := decide (x.toInt < 1) || decide ((n : Int) < x.toInt)
theorem cNo_t1 {x : Int32} {n : Nat} (h : x.toInt < 1) : cNo x n = true := by simp [cNo, h]
theorem cNo_t2 {x : Int32} {n : Nat} (h : (n : Int) < x.toInt) : cNo x n = true := by simp [cNo, h]
theorem cNo_f {x : Int32} {n : Nat} (h1 : 1 ≤ x.toInt) (h2 : x.toInt ≤ (n : Int)) : cNo x n = false := by
  unfold cNo
  rw [decide_eq_false (by omega), decide_eq_false (by omega)]; rfl
theorem cNo_nI {x : Int32} {n : Nat} (h : cNo x n = false) : x = nI x.toInt.toNat ∧ 1 ≤ x.toInt.toNat ∧ x.toInt.toNat ≤ n := by
  unfold cNo at h
  rw [Bool.or_eq_false_iff, decide_eq_false_iff_not, decide_eq_false_iff_not] at h
  have hx := Int32.toInt_lt x
  refine ⟨Int32.toInt_inj.mp ?_, by omega, by omega⟩
  rw [nI_toInt (by omega)]; omega
