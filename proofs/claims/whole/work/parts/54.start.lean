theorem ao_K {args : Array Value} {s : State} {C : String} (h : (Cond.arrayOver (.object C)).before args s = true) : ∃ cA : ClassId, ArrOfT s cA (.object C) ∧ va_RA s cA (.object C) := by
  obtain ⟨comp, c, k, h1, h2, h3, h4, h5⟩ := Cond.arrayOver_spec h
  exact ⟨c, fun n z => ⟨fun k h => (by cases h), k, h3, comp, h4⟩, k, comp, h3, h4, h1, h5⟩
theorem ac_K {args : Array Value} {s : State} {ty : FieldType} (h : (Cond.arrayClass ty).before args s = true) : ∃ cA : ClassId, ArrOfT s cA ty ∧ s.vm.findClass ("[" ++ ty.toString) = some cA := by
  obtain ⟨c, k, comp, h1, h2, h3⟩ := Cond.arrayClass_spec h
  exact ⟨c, fun n z => ⟨fun k h => (by cases h), k, h2, comp, h3⟩, h1⟩
/-- the classes of the start -/
theorem start_K {args : Array Value} {s : State} (hts0 : ∀ w ∈ lw_tbl, w.before args s = true) : ∃ (D : va_G) (ka : Nat → ClassId), va_K D vwCl (tyL ka) s := by
  have hts : ∀ w ∈ gT, w.before args s = true := fun w h => hts0 w (List.mem_filter.mp h).1
  obtain ⟨c0, i0, k0⟩ := u_known (C := RX0) (T := TX0) (N := 4) hts inX0 (hts _ tb_68)
  obtain ⟨c1, i1, k1⟩ := u_known (C := RX1) (T := TX1) (N := 4) hts inX1 (hts _ tb_40)
  obtain ⟨c2, i2, k2⟩ := u_known (C := RX2) (T := TX2) (N := 4) hts inX2 (hts _ tb_11)
  obtain ⟨c3, i3, k3⟩ := u_known (C := RM) (T := TM) (N := 12) hts inM (hts _ tb_295)
  obtain ⟨a0, p0, r0⟩ := ao_K (hts0 _ (List.mem_append_right _ tn_19))
  obtain ⟨a1, p1, r1⟩ := ao_K (hts0 _ (List.mem_append_right _ tn_21))
  obtain ⟨a2, p2, r2⟩ := ac_K (hts _ tb_90)
  obtain ⟨a3, p3, r3⟩ := ac_K (hts _ tb_337)
  obtain ⟨a4, p4, r4⟩ := ac_K (hts _ tb_338)
  refine ⟨(fun k => match k with | 0 => c0 | 1 => c1 | 2 => c2 | _ => c3, fun k => match k with | 0 => i0 | 1 => i1 | 2 => i2 | _ => i3), fun k => match k with | 0 => a0 | 1 => a1 | 2 => a2 | 3 => a3 | _ => a4, fun c q hc => ?_, fun k q hk => ?_⟩
  · match c, hc with
    | 0, hc => cases hc; exact k0
    | 1, hc => cases hc; exact k1
    | 2, hc => cases hc; exact k2
    | 3, hc => cases hc; exact k3
    | n + 4, hc => exact absurd (List.getElem?_eq_some_iff.mp hc).1 (by show ¬ n + 4 < 4; omega)
  · match k, hk with
    | 0, hk => cases hk; exact ⟨p0, r0⟩
    | 1, hk => cases hk; exact ⟨p1, r1⟩
    | 2, hk => cases hk; exact ⟨p2, r2⟩
    | 3, hk => cases hk; exact ⟨p3, r3⟩
    | 4, hk => cases hk; exact ⟨p4, r4⟩
    | n + 5, hk => exact absurd (List.getElem?_eq_some_iff.mp hk).1 (by show ¬ n + 5 < 5; omega)
theorem tt_U : (.laysStatic Bundle.tN "UNASSIGNED_STACK" Bundle.steD : Cond) ∈ lw_tbl := by decide +kernel
theorem tt_S : (.laysStatic Bundle.tN "SUPPRESSED_SENTINEL" Bundle.listD : Cond) ∈ lw_tbl := by decide +kernel
theorem tt_I : (.initialized Bundle.tN : Cond) ∈ lw_tbl := by decide +kernel
theorem tt_R : (.stringRef RX2 105 "a piece of the chain has no period" : Cond) ∈ lw_tbl := by decide +kernel
theorem tt_c : (.classLink RX2 103 AE : Cond) ∈ lw_tbl := by decide +kernel
theorem tt_i : (.initialized AE : Cond) ∈ lw_tbl := by decide +kernel
theorem tt_k : (.castable AE AE : Cond) ∈ lw_tbl := by decide +kernel
theorem tt_l : (.classLink RL 13 AE : Cond) ∈ lw_tbl := by decide +kernel
theorem thC_on : ∀ w ∈ thC, w.onTables = true := by decide +kernel
/-- what a throw needs of the start -/
theorem start_T {args : Array Value} {s : State} (hts0 : ∀ w ∈ lw_tbl, w.before args s = true) (hgv : (Jvm.Cond.and given_1 narrow_1).before args s = true) : thW (lA s) s.heap s := by
  have hf := flat_of_before _ hgv
  have hA : ∀ a : Nat, a < s.heap.size → ¬ lA s a := fun a h => Nat.not_le.mpr h
  have e0 : (Cond.exactly (.string RX2 105) "java/lang/String").before args s = true := hf _ (by decide +kernel)
  obtain ⟨a, c, cell, k, q1, -⟩ := Cond.exactly_spec e0
  refine ⟨vx_Zqof (hts0 _ tt_U) (hts0 _ tt_I) (hf _ (by decide +kernel)) hA, vx_Zqof (hts0 _ tt_S) (hts0 _ tt_I) (hf _ (by decide +kernel)) hA, ⟨a, vk_R.of (hts0 _ tt_R) q1⟩, fun w hw => va_Nw.of (thC_on w hw) (hts0 w (thC_in w hw)), va_Nw.of rfl (hts0 _ tt_c), va_Nw.of rfl (hts0 _ tt_i), va_Nw.of rfl (hts0 _ tt_k), va_Nw.of rfl (hts0 _ tt_l)⟩
