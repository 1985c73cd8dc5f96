theorem va_P_nil {D : va_G} {cl : List vw_C} {H : Heap} : va_P D cl [] H := fun k q h => by simp at h
theorem va_P_cons {D : va_G} {cl : List vw_C} {q : Nat × va_E} {r : va_W} {H : Heap} (h : va_at D cl q H) (hr : va_P D cl r H) : va_P D cl (q :: r) H := va_P_of (fun x hx => by
  rcases List.mem_cons.mp hx with rfl | hx
  · exact h
  · obtain ⟨k, hk⟩ := List.getElem?_of_mem hx
    exact hr k x hk)
/-- the reference's numbers at the start -/
abbrev z0 : Nat → Nat := fun _ => 0
abbrev zF : Nat → Bool := fun _ => false
theorem mOk_0 : mOk 0 0 z0 z0 z0 z0 z0 zF z0 zF (fun _ => 0) := ⟨by decide, by decide, fun p h1 h2 => absurd h2 (by omega), fun c h1 h2 => absurd h2 (by omega), fun _ _ _ => ⟨rfl, rfl⟩, fun c h1 h2 => absurd h2 (by omega)⟩
theorem XInv_0 {D : va_G} {ka : Nat → ClassId} {o p c : Nat} {H : Heap} (h1 : va_at D vwCl (o, .inr (2, [.ref p, .ref c, .int (nI 0), .int (nI 0)])) H) (h2 : va_at D vwCl (p, refE (ka 0) 30 (fun _ => none)) H) (h3 : va_at D vwCl (c, refE (ka 1) 20 (fun _ => none)) H) (n1 : o ≠ p) (n2 : o ≠ c) (n3 : p ≠ c) : XInv D ka (fun k _ => if k = 0 then o else if k = 1 then p else c) 0 0 z0 z0 z0 z0 z0 zF z0 zF (fun _ => 0) H := by
  have key : ∀ k i, vl 0 0 k i → (k = 0 ∨ k = 1 ∨ k = 2) ∧ i = 0 := fun k i h => by unfold vl at h; omega
  refine ⟨fun k i hv => ?_, fun k i k' i' hv hv' e => ?_⟩
  · obtain ⟨rfl | rfl | rfl, rfl⟩ := key k i hv
    · exact h1
    · show va_at D vwCl (p, refE (ka 0) 30 (fun j => if j < 0 then _ else none)) H
      exact h2
    · show va_at D vwCl (c, refE (ka 1) 20 (fun j => if j < 0 then _ else none)) H
      exact h3
  · obtain ⟨hk, rfl⟩ := key k i hv
    obtain ⟨hk', rfl⟩ := key k' i' hv'
    refine ⟨?_, rfl⟩
    rcases hk with rfl | rfl | rfl <;> rcases hk' with rfl | rfl | rfl <;> simp at e <;> first | rfl | (exfalso; first | exact n1 e | exact n2 e | exact n3 e | exact n1 e.symm | exact n2 e.symm | exact n3 e.symm)
