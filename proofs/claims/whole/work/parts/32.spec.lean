/-! the answers, and what a call does to the numbers: one word for the class and for the reference -/
abbrev MSt : Type := (Nat × Nat) × ((Nat → Nat) × (Nat → Nat) × (Nat → Nat) × (Nat → Nat)) × ((Nat → Nat) × (Nat → Bool) × (Nat → Nat)) × ((Nat → Bool) × (Nat → Int64))
abbrev mkM (np nc : Nat) (pe an up dn rw : Nat → Nat) (so : Nat → Bool) (mn : Nat → Nat) (wd : Nat → Bool) (wv : Nat → Int64) : MSt := ((np, nc), (pe, an, up, dn), (rw, so, mn), (wd, wv))
abbrev mWs (ka : Nat → ClassId) (a : Nat → Nat) (tv : Nat) (u : MSt) : va_W := mW ka a tv u.1.1 u.1.2 u.2.1.1 u.2.1.2.1 u.2.1.2.2.1 u.2.1.2.2.2 u.2.2.1.1 u.2.2.1.2.1 u.2.2.1.2.2 u.2.2.2.1 u.2.2.2.2
abbrev mOks (u : MSt) : Prop := mOk u.1.1 u.1.2 u.2.1.1 u.2.1.2.1 u.2.1.2.2.1 u.2.1.2.2.2 u.2.2.1.1 u.2.2.1.2.1 u.2.2.1.2.2 u.2.2.2.1 u.2.2.2.2
/-- the reference's cells -/
def mA (a : Nat → Nat) : Nat → Prop := fun q => ∃ i, i < 10 ∧ a i = q
theorem mD {ka : Nat → ClassId} {a : Nat → Nat} {tv np nc : Nat} {pe an up dn rw : Nat → Nat} {so : Nat → Bool} {mn : Nat → Nat} {wd : Nat → Bool} {wv : Nat → Int64} (haI : ∀ i j, i < 10 → j < 10 → a i = a j → i = j) : va_D (mA a) (mW ka a tv np nc pe an up dn rw so mn wd wv) := by
  have key : ∀ (k : Nat) (q : Nat × va_E), (mW ka a tv np nc pe an up dn rw so mn wd wv)[k]? = some q → k < 10 ∧ q.1 = a k := by
    intro k q hk
    have hl : k < 10 := (List.getElem?_eq_some_iff.mp hk).1
    refine ⟨hl, ?_⟩
    match k, hk with
    | 0, hk => cases hk; rfl
    | 1, hk => cases hk; rfl
    | 2, hk => cases hk; rfl
    | 3, hk => cases hk; rfl
    | 4, hk => cases hk; rfl
    | 5, hk => cases hk; rfl
    | 6, hk => cases hk; rfl
    | 7, hk => cases hk; rfl
    | 8, hk => cases hk; rfl
    | 9, hk => cases hk; rfl
    | k + 10, hk => omega
  refine ⟨fun i j x y hi hj hxy => ?_, fun k q hk => ⟨k, (key k q hk).1, (key k q hk).2.symm⟩⟩
  obtain ⟨h1, h2⟩ := key i x hi
  obtain ⟨h3, h4⟩ := key j y hj
  exact haI i j h1 h3 (by rw [← h2, ← h4]; exact hxy)
theorem upL {pe : Nat → Nat} {k x : Nat} : vp_updL (fun i => lN (pe i)) k (lN x) = fun i => lN (va_up pe k x i) := by
  funext i; by_cases h : i = k <;> simp [vp_updL, va_up, h]
theorem upI {pe : Nat → Nat} {k x : Nat} : upd (fun i => nI (pe i)) k (nI x) = fun i => nI (va_up pe k x i) := by
  funext i; by_cases h : i = k <;> simp [upd, va_up, h]
theorem upB {pe : Nat → Bool} {k : Nat} {x : Bool} : upd (fun i => bI (pe i)) k (vp_nar .boolean (bI x)) = fun i => bI (va_up pe k x i) := by
  rw [bI_nar]; funext i; by_cases h : i = k <;> simp [upd, va_up, h]
theorem upW {wv : Nat → Int64} {k : Nat} {x : Int64} : vp_updL wv k x = va_up wv k x := by
  funext i; by_cases h : i = k <;> simp [vp_updL, va_up, h]
def opPiece (np nc : Nat) (pe an up dn rw : Nat → Nat) (so : Nat → Bool) (mn : Nat → Nat) (wd : Nat → Bool) (wv : Nat → Int64) (kd : Int32) (x y : Int64) : MSt × Int32 :=
  if kd.toInt < 0 ∨ 2 < kd.toInt ∨ x.toInt < 0 ∨ 20000 < x.toInt ∨ y.toInt < 0 ∨ 20000 < y.toInt then (mkM np nc pe an up dn rw so mn wd wv, -2) else
  if 30 ≤ np then (mkM np nc pe an up dn rw so mn wd wv, -4) else
  (mkM (np + 1) nc (va_up pe (np + 1) x.toInt.toNat) (va_up an (np + 1) y.toInt.toNat) (va_up up (np + 1) 0) (va_up dn (np + 1) 1) rw so mn wd wv, nI (np + 1))
def opChain (np nc : Nat) (pe an up dn rw : Nat → Nat) (so : Nat → Bool) (mn : Nat → Nat) (wd : Nat → Bool) (wv : Nat → Int64) : MSt × Int32 :=
  if 20 ≤ nc then (mkM np nc pe an up dn rw so mn wd wv, -4) else (mkM np (nc + 1) pe an up dn rw so mn wd wv, nI (nc + 1))
def opAdd (np nc : Nat) (pe an up dn rw : Nat → Nat) (so : Nat → Bool) (mn : Nat → Nat) (wd : Nat → Bool) (wv : Nat → Int64) (x y : Int32) (tr : Bool) : MSt × Int32 :=
  if (cNo x nc || cNo y np) = true then (mkM np nc pe an up dn rw so mn wd wv, -1) else
  if ((mn x.toInt.toNat == 0 || !tr) && pe y.toInt.toNat == 0) = true then (mkM np nc pe an up dn rw so mn wd wv, -3) else
  if 12 ≤ mn x.toInt.toNat then (mkM np nc pe an up dn rw so mn wd wv, -4) else
  if anyN (fun k => rw (12 * x.toInt.toNat + k) == y.toInt.toNat) (mn x.toInt.toNat) = true then (mkM np nc pe an up dn rw so mn wd wv, nI 0) else
  (mkM np nc pe an up dn (va_up rw (12 * x.toInt.toNat + mn x.toInt.toNat) y.toInt.toNat) (va_up so (12 * x.toInt.toNat + mn x.toInt.toNat) (!(mn x.toInt.toNat == 0 || !tr))) (va_up mn x.toInt.toNat (mn x.toInt.toNat + 1)) wd wv, nI 1)
def opClock (np nc : Nat) (pe an up dn rw : Nat → Nat) (so : Nat → Bool) (mn : Nat → Nat) (wd : Nat → Bool) (wv : Nat → Int64) (y : Int32) (u d : Int64) : MSt × Int32 :=
  if cNo y np = true then (mkM np nc pe an up dn rw so mn wd wv, -1) else
  if d.toInt < 1 ∨ 1000000 < d.toInt ∨ u.toInt < 0 ∨ d.toInt ≤ u.toInt then (mkM np nc pe an up dn rw so mn wd wv, -2) else
  (mkM np nc pe an (va_up up y.toInt.toNat u.toInt.toNat) (va_up dn y.toInt.toNat d.toInt.toNat) rw so mn wd wv, nI (lgP (pe y.toInt.toNat) u.toInt.toNat d.toInt.toNat))
def spEmp (nc : Nat) (mn : Nat → Nat) (x : Int32) : Bool := cNo x nc || mn x.toInt.toNat == 0
def opWish (np nc : Nat) (pe an up dn rw : Nat → Nat) (so : Nat → Bool) (mn : Nat → Nat) (wd : Nat → Bool) (wv : Nat → Int64) (x : Int32) (mi : Int64) : MSt × Int32 :=
  if spEmp nc mn x = true then (mkM np nc pe an up dn rw so mn wd wv, -1) else
  if mi.toInt < 0 then (mkM np nc pe an up dn rw so mn wd wv, -2) else
  (mkM np nc pe an up dn rw so mn (va_up wd x.toInt.toNat true) (va_up wv x.toInt.toNat mi), bI (decide ((lN (rea pe an up dn rw so mn x.toInt.toNat)).toInt ≤ mi.toInt)))
abbrev ageN (pe an up dn rw : Nat → Nat) (so : Nat → Bool) (mn : Nat → Nat) (c : Nat) : Nat := rea pe an up dn rw so mn c - lgP (qF pe rw c 0) (qF up rw c 0) (qF dn rw c 0) + lastS (qS so c) (fun i => lgP (qF pe rw c i) (qF up rw c i) (qF dn rw c i)) (mn c)
def spWorst (nc : Nat) (pe an up dn rw : Nat → Nat) (so : Nat → Bool) (mn : Nat → Nat) (x : Int32) (ag : Bool) : Int64 :=
  if spEmp nc mn x = true then -1 else if ag = true then lN (ageN pe an up dn rw so mn x.toInt.toNat) else lN (rea pe an up dn rw so mn x.toInt.toNat)
def spBest (nc : Nat) (an rw : Nat → Nat) (mn : Nat → Nat) (x : Int32) (ag : Bool) : Int64 :=
  if spEmp nc mn x = true then -1 else lN (sumN (qF an rw x.toInt.toNat) (mn x.toInt.toNat) - sumN (qF an rw x.toInt.toNat) (if ag = true then 1 else 0))
def kept (pe an up dn rw : Nat → Nat) (so : Nat → Bool) (mn : Nat → Nat) (wd : Nat → Bool) (wv : Nat → Int64) (c : Nat) : Bool := wd c && decide ((lN (rea pe an up dn rw so mn c)).toInt ≤ (wv c).toInt)
def cntN (p : Nat → Bool) : Nat → Nat
  | 0 => 0
  | n + 1 => if p (n + 1) = true then cntN p n + 1 else cntN p n
theorem cntN_le {p : Nat → Bool} : ∀ n, cntN p n ≤ n
  | 0 => Nat.le_refl _
  | n + 1 => by
    have := cntN_le (p := p) n
    unfold cntN
    split <;> omega
def spShare (nc : Nat) (pe an up dn rw : Nat → Nat) (so : Nat → Bool) (mn : Nat → Nat) (wd : Nat → Bool) (wv : Nat → Int64) (x i : Int32) : Int32 :=
  if i.toInt = -1 then nI (cntN (kept pe an up dn rw so mn wd wv) nc) else
  if cNo x nc = true ∨ i.toInt < 0 ∨ (mn x.toInt.toNat : Int) ≤ i.toInt ∨ rea pe an up dn rw so mn x.toInt.toNat = 0 then -1 else
  nI (1000 * brN (qS so x.toInt.toNat) (qF pe rw x.toInt.toNat) (qF an rw x.toInt.toNat) (qF up rw x.toInt.toNat) (qF dn rw x.toInt.toNat) i.toInt.toNat / rea pe an up dn rw so mn x.toInt.toNat)
abbrev lack (pe rw : Nat → Nat) (mn : Nat → Nat) (c : Nat) : Bool := anyN (fun i => qF pe rw c i == 0) (mn c)
def spCycle (nc : Nat) (pe rw : Nat → Nat) (so : Nat → Bool) (mn : Nat → Nat) (x : Int32) : Int64 :=
  if spEmp nc mn x = true then -1 else lN (cyc (fun i => qS so x.toInt.toNat i || true) (qF pe rw x.toInt.toNat) (mn x.toInt.toNat))
def spPlain (nc : Nat) (pe up rw : Nat → Nat) (so : Nat → Bool) (mn : Nat → Nat) (x : Int32) : Bool :=
  !spEmp nc mn x && canN (qS so x.toInt.toNat) (qF pe rw x.toInt.toNat) (qF up rw x.toInt.toNat) (mn x.toInt.toNat)
def spStep (nc : Nat) (pe an up dn rw : Nat → Nat) (so : Nat → Bool) (mn : Nat → Nat) (x : Int32) : Int64 :=
  if spEmp nc mn x = true then -1 else
  if canN (qS so x.toInt.toNat) (qF pe rw x.toInt.toNat) (qF up rw x.toInt.toNat) (mn x.toInt.toNat) = true then lN (mxN (fun t => stp (qS so x.toInt.toNat) (qF pe rw x.toInt.toNat) (qF an rw x.toInt.toNat) t (mn x.toInt.toNat) - t) (cyc (fun i => qS so x.toInt.toNat i || false) (qF pe rw x.toInt.toNat) (mn x.toInt.toNat))) else
  lN (rea pe an up dn rw so mn x.toInt.toNat)
theorem spEmp_f {nc : Nat} {mn : Nat → Nat} {x : Int32} (h : spEmp nc mn x = false) : x = nI x.toInt.toNat ∧ 1 ≤ x.toInt.toNat ∧ x.toInt.toNat ≤ nc ∧ 0 < mn x.toInt.toNat := by
  unfold spEmp at h
  rw [Bool.or_eq_false_iff] at h
  obtain ⟨h1, h2, h3⟩ := cNo_nI h.1
  exact ⟨h1, h2, h3, Nat.pos_of_ne_zero (by simpa using h.2)⟩
/-- a long that is not outside a range is a number -/
theorem lon_of {x : Int64} {n : Nat} (h1 : 0 ≤ x.toInt) (h2 : x.toInt ≤ (n : Int)) : x = lN x.toInt.toNat ∧ x.toInt.toNat ≤ n := by
  have hx := Int64.toInt_lt x
  refine ⟨Int64.toInt_inj.mp ?_, by omega⟩
  rw [pk_lT (by omega)]; omega
