/-! between the turns: the class's state and the reference's are one -/
abbrev lA (s : State) : Nat → Prop := fun q => s.heap.size ≤ q
def LInv (sz : Nat) (D : va_G) (ka : Nat → ClassId) (ad : Nat → Nat → Nat) (a : Nat → Nat) (tv o : Nat) (f : Nat → Int64) (u : MSt) (H : Heap) : Prop :=
  XIs D ka ad u H ∧ va_P D vwCl (mWs ka a tv u) H ∧ mOks u ∧ (∀ i j, i < 10 → j < 10 → a i = a j → i = j) ∧ va_at D vwCl (o, lonE (ka 3) 1 f) H ∧
  (∀ k i, vl u.1.1 u.1.2 k i → sz ≤ ad k i) ∧ (∀ i, i < 10 → sz ≤ a i) ∧ sz ≤ o ∧ (∀ k i j, vl u.1.1 u.1.2 k i → j < 10 → ad k i ≠ a j) ∧ (∀ k i, vl u.1.1 u.1.2 k i → ad k i ≠ o) ∧ (∀ j, j < 10 → a j ≠ o)
theorem mW_a {ka : Nat → ClassId} {a : Nat → Nat} {tv : Nat} {u : MSt} (k : Nat) (q : Nat × va_E) (hk : (mWs ka a tv u)[k]? = some q) : k < 10 ∧ q.1 = a k := by
  have hl : k < 10 := (List.getElem?_eq_some_iff.mp hk).1
  refine ⟨hl, ?_⟩
  match k, hk with
  | 0, hk => cases hk; rfl
  | 1, hk => cases hk; rfl
  | 2, hk => cases hk; rfl
  | 3, hk => cases hk; rfl
  | 4, hk => cases hk; rfl
  | 5, hk => cases hk; rfl
  | 6, hk => cases hk; rfl
  | 7, hk => cases hk; rfl
  | 8, hk => cases hk; rfl
  | 9, hk => cases hk; rfl
  | k + 10, hk => omega
/-- after a call of the class: the reference's cells and the law's are as they were -/
theorem LInv.mid {sz : Nat} {D : va_G} {ka : Nat → ClassId} {ad ad2 : Nat → Nat → Nat} {a : Nat → Nat} {tv o : Nat} {f : Nat → Int64} {u u2 : MSt} {H H1 : Heap} {A1 : Nat → Prop} (h : LInv sz D ka ad a tv o f u H) (hsz : sz ≤ H.size)
    (hA1 : ∀ q, q < H.size → A1 q → ∃ k i, vl u.1.1 u.1.2 k i ∧ q = ad k i) (hk1 : ∀ q : Nat, q < H.size → ¬ A1 q → H1[q]? = H[q]?) (hF : xFr ad u.1.1 u.1.2 H.size (u2, ad2)) :
    va_P D vwCl (mWs ka a tv u) H1 ∧ va_at D vwCl (o, lonE (ka 3) 1 f) H1 ∧ (∀ k i, vl u2.1.1 u2.1.2 k i → sz ≤ ad2 k i) ∧ (∀ k i j, vl u2.1.1 u2.1.2 k i → j < 10 → ad2 k i ≠ a j) ∧ (∀ k i, vl u2.1.1 u2.1.2 k i → ad2 k i ≠ o) := by
  obtain ⟨h1, h2, h3, h4, h5, h6, h7, h8, h9, h10, h11⟩ := h
  have ha : ∀ j, j < 10 → a j < H.size := fun j hj => by
    obtain ⟨e, he⟩ : ∃ e : va_E, (mWs ka a tv u)[j]? = some (a j, e) := by
      rcases (show j = 0 ∨ j = 1 ∨ j = 2 ∨ j = 3 ∨ j = 4 ∨ j = 5 ∨ j = 6 ∨ j = 7 ∨ j = 8 ∨ j = 9 by omega) with rfl | rfl | rfl | rfl | rfl | rfl | rfl | rfl | rfl | rfl <;> exact ⟨_, rfl⟩
    exact (h2 j _ he).lt
  have ho : o < H.size := h5.lt
  refine ⟨h2.kept (fun k q hk => ?_), h5.kept (hk1 _ ho (fun e => ?_)), fun k i hv => ?_, fun k i j hv hj e => ?_, fun k i hv e => ?_⟩
  · obtain ⟨k10, hq⟩ := mW_a k q hk
    rw [hq]
    refine hk1 _ (ha k k10) (fun e => ?_)
    obtain ⟨k', i', hv, hq'⟩ := hA1 _ (ha k k10) e
    exact h9 k' i' k hv k10 hq'.symm
  · obtain ⟨k', i', hv, hq'⟩ := hA1 _ ho e
    exact h10 k' i' hv hq'.symm
  · rcases hF.2 k i hv with ⟨k', i', hv', e⟩ | e
    · show sz ≤ ad2 k i
      rw [show ad2 k i = ad k' i' from e]; exact h6 k' i' hv'
    · exact Nat.le_trans hsz e
  · rcases hF.2 k i hv with ⟨k', i', hv', e'⟩ | e'
    · exact h9 k' i' j hv' hj ((show ad2 k i = ad k' i' from e') ▸ e)
    · have := ha j hj
      have e' : H.size ≤ ad2 k i := e'
      omega
  · rcases hF.2 k i hv with ⟨k', i', hv', e'⟩ | e'
    · exact h10 k' i' hv' ((show ad2 k i = ad k' i' from e') ▸ e)
    · have e' : H.size ≤ ad2 k i := e'
      omega
/-- after a call of the reference: the class's cells and the law's are as they were -/
theorem LInv.fin {sz : Nat} {D : va_G} {ka : Nat → ClassId} {ad : Nat → Nat → Nat} {a : Nat → Nat} {tv o : Nat} {f : Nat → Int64} {u : MSt} {H H1 : Heap} (hX : XIs D ka ad u H) (hM : va_P D vwCl (mWs ka a tv u) H1) (hO : mOks u) (h4 : ∀ i j, i < 10 → j < 10 → a i = a j → i = j) (h5 : va_at D vwCl (o, lonE (ka 3) 1 f) H)
    (h6 : ∀ k i, vl u.1.1 u.1.2 k i → sz ≤ ad k i) (h7 : ∀ i, i < 10 → sz ≤ a i) (h8 : sz ≤ o) (h9 : ∀ k i j, vl u.1.1 u.1.2 k i → j < 10 → ad k i ≠ a j) (h10 : ∀ k i, vl u.1.1 u.1.2 k i → ad k i ≠ o) (h11 : ∀ j, j < 10 → a j ≠ o)
    (hk : ∀ q : Nat, q < H.size → ¬ mA a q → H1[q]? = H[q]?) : LInv sz D ka ad a tv o f u H1 := by
  refine ⟨⟨fun k i hv => (hX.1 k i hv).kept (hk _ (hX.1 k i hv).lt (fun ⟨j, hj, e⟩ => h9 k i j hv hj e.symm)), hX.2⟩, hM, hO, h4, h5.kept (hk _ h5.lt (fun ⟨j, hj, e⟩ => h11 j hj e)), h6, h7, h8, h9, h10, h11⟩
section SL
variable {p : Program} {l : Launch} {e : Env} {R : Room} {s : State} {m : MethodId} {args : Array Value} {below : List Frame} {meth : Method} {c : Code} {H : Heap} {locs : List Loc} {cells slots : Nat} {Q : State → Prop}
variable {cc : ByteArray} {pc : Nat} {ls : Array Slot} {rest : List Value} {A : Nat → Prop} {H0 : Heap}
theorem g_sld (hx : p.tables.exec = Jvm.exec) (hb : c.code = cc) {b L : Nat} {xs : Nat → Int32} (hX : va_X b L xs s H0) (hbl : b < H0.size) (hbA : ¬ A b) (hS : va_S A H0 H locs) {k : Nat} (hk : k < L) (hL : L < 2 ^ 31) (hdg : decode cc pc = .ok (.iaload, 1)) (kk : W p l e R s m args below meth c H locs cells slots Q (F0 m (pc + 1) ls (.int (xs k) :: rest))) : W p l e R s m args below meth c H locs cells slots Q (F0 m pc ls (.int (nI k) :: .ref b :: rest)) := va_sld hx hb hX hbl hbA hS (vp_in_nI hk hL) hdg (by rw [nI_clamp (by omega)]; exact kk)
end SL
/-- what a turn of the law owes: the same between the next -/
def LK (p : Program) (l : Launch) (e : Env) (s : State) (m : MethodId) (below : List Frame) (meth : Method) (c : Code) (b : Nat) (D : va_G) (ka : Nat → ClassId) (a : Nat → Nat) (o j : Nat) : Prop :=
  ∀ (u : MSt) (ad : Nat → Nat → Nat) (tv : Nat) (f : Nat → Int64) (H : Heap) (locs : List Loc) (ls : Array Slot), LInv s.heap.size D ka ad a tv o f u H → va_S (lA s) s.heap H locs → lv_has ls 8 [(0, .ref b), (1, .ref (ad 0 0)), (2, .ref (a 0)), (3, .ref o), (4, .int (nI (6 * j)))] →
    W p l e room_1 s m #[Value.ref b] below meth c H locs (14 + 3 * (j + 1)) (758 + 28 * (j + 1)) (lw_Z below #[Value.ref b] s) (F0 m 724 ls [])
