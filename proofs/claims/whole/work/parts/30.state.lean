/-! what a state is: the arrays' classes, a piece, a chain -/
abbrev tyL (ka : Nat → ClassId) : List (ClassId × FieldType) := [(ka 0, .object RX1), (ka 1, .object RX0), (ka 2, .boolean), (ka 3, .long), (ka 4, .int)]
abbrev refE (c : ClassId) (n : Nat) (f : Nat → Option Nat) : va_E := .inl (c, n, .inr (.inr (.inr (.inr f))))
abbrev intE (c : ClassId) (n : Nat) (f : Nat → Int32) : va_E := .inl (c, n, .inl f)
abbrev lonE (c : ClassId) (n : Nat) (f : Nat → Int64) : va_E := .inl (c, n, .inr (.inl f))
abbrev pcE (T R U Dn : Nat) : va_E := .inr (1, [.long (lN T), .long (lN R), .long (lN U), .long (lN Dn)])
abbrev chE (rw sm n : Nat) (wi : Int64) : va_E := .inr (0, [.ref rw, .ref sm, .int (nI n), .long wi])
/-- a chain at h: its row, its marks, its pieces at f 0, f 1 .. with their numbers -/
def ChAt (D : va_G) (ka : Nat → ClassId) (h rw sm n : Nat) (wi : Int64) (f : Nat → Nat) (sel : Nat → Bool) (T R U Dn : Nat → Nat) (H : Heap) : Prop :=
  va_at D vwCl (h, chE rw sm n wi) H ∧ va_at D vwCl (rw, refE (ka 0) 12 (fun i => if i < n then some (f i) else none)) H ∧ va_at D vwCl (sm, intE (ka 2) 12 (fun i => if i < n then bI (sel i) else 0)) H ∧
  (∀ i, i < n → va_at D vwCl (f i, pcE (T i) (R i) (U i) (Dn i)) H) ∧ n ≤ 12 ∧ (∀ i, i < n → T i ≤ 20000 ∧ R i ≤ 20000 ∧ U i < Dn i ∧ Dn i ≤ 1000000 ∧ (sel i = true → 0 < T i)) ∧ (0 < n → sel 0 = true)
