/-! what a throw of 'cycle' needs of the start -/
abbrev AE : String := "java/lang/ArithmeticException"
def thC : List Cond := vx_atS RX2 107 AE ["java/lang/RuntimeException", "java/lang/Exception"]
def okT (w : Cond) : Bool := goodWord w || (match w with
  | .castable _ _ => true
  | .declares _ => true
  | _ => false)
theorem nw_warm {s U : State} {w : Cond} (hW : s.WarmedH U.vm) (ok : okT w = true) (h : va_Nw w s) : va_Nw w U := by
  by_cases hg : goodWord w = true
  · exact word_at hW (good_of_word hg) h
  · cases w with
    | castable C T => exact va_Nw.warmC hW h
    | declares x => exact va_Nw.warmD hW h
    | _ => simp [okT, hg] at ok
theorem thC_ok : ∀ w ∈ thC, okT w = true := by decide +kernel
theorem thC_in : ∀ w ∈ thC, w ∈ lw_tbl := by decide +kernel
def thW (A : Nat → Prop) (H : Heap) (U : State) : Prop :=
  vx_Zq Bundle.tN "UNASSIGNED_STACK" Bundle.steD A U H ∧ vx_Zq Bundle.tN "SUPPRESSED_SENTINEL" Bundle.listD A U H ∧ (∃ sa, vk_R RX2 105 "a piece of the chain has no period" sa U) ∧ (∀ w ∈ thC, va_Nw w U) ∧
  va_Nw (.classLink RX2 103 AE) U ∧ va_Nw (.initialized AE) U ∧ va_Nw (.castable AE AE) U ∧ va_Nw (.classLink RL 13 AE) U
theorem thW.warm {A : Nat → Prop} {H : Heap} {s U : State} (hW : s.WarmedH U.vm) (h : thW A H s) : thW A H U := by
  obtain ⟨h1, h2, ⟨sa, h3⟩, h4, h5, h6, h7, h8⟩ := h
  exact ⟨vx_Zq.moved hW.alike h1, vx_Zq.moved hW.alike h2, ⟨sa, vk_R.warm hW h3⟩, fun w hw => nw_warm hW (thC_ok w hw) (h4 w hw), nw_warm hW (by decide +kernel) h5, nw_warm hW (by decide +kernel) h6, nw_warm hW (by decide +kernel) h7, nw_warm hW (by decide +kernel) h8⟩
theorem thW.kept {A : Nat → Prop} {H H1 : Heap} {U : State} (h : thW A H U) (hq : ∀ a : Nat, a < H.size → ¬ A a → H1[a]? = H[a]?) : thW A H1 U := ⟨h.1.kept hq, h.2.1.kept hq, h.2.2⟩
def th_Pc (A : Nat → Prop) (D : va_G) (cl : List vw_C) (tys : List (ClassId × FieldType)) (H0 : Heap) (av : List Value) : Array Value → State → Prop := va_Pc av (fun U => U.heap = H0 ∧ va_K D cl tys U ∧ nsW U ∧ thW A H0 U)
theorem th_blind {A : Nat → Prop} {D : va_G} {cl : List vw_C} {tys : List (ClassId × FieldType)} {H0 : Heap} {av : List Value} : FrameBlind (th_Pc A D cl tys H0 av) := fun a U g mk q => ⟨q.1, q.2.1, va_K.moved (u := U) (U := U.calling g mk a) (Vm.Alike.refl U.vm) q.2.2.1, nsW.warm (s := U) (U := U.calling g mk a) (State.WarmedH.refl U) q.2.2.2.1, thW.warm (s := U) (U := U.calling g mk a) (State.WarmedH.refl U) q.2.2.2.2⟩
theorem th_S {A : Nat → Prop} {D : va_G} {cl : List vw_C} {tys : List (ClassId × FieldType)} {s : State} {H : Heap} {av : List Value} (hK : va_K D cl tys s) (hN : nsW s) (hT : thW A H s) : PreS s H (th_Pc A D cl tys H av) av := ⟨th_blind, fun U hU hW => ⟨rfl, hU, va_K.moved hW.alike hK, nsW.warm hW hN, thW.warm hW hT⟩⟩
theorem th_V {A : Nat → Prop} {D : va_G} {cl : List vw_C} {tys : List (ClassId × FieldType)} {s : State} {H : Heap} {av : List Value} {b ci N : Nat} {C : String} {T : u_T} {fs : List Value} (hK : va_K D cl tys s) (hN : nsW s) (hT : thW A H s) (hP : va_at D cl (b, .inr (ci, fs)) H) (hc : cl[ci]? = some (C, T, N)) : PreV s H C b (th_Pc A D cl tys H (.ref b :: av)) av := ⟨th_blind, va_recv hK (va_one hP) hc (q0 := 0) rfl, fun U hU hW => ⟨rfl, hU, va_K.moved hW.alike hK, nsW.warm hW hN, thW.warm hW hT⟩⟩
theorem thC_ot : ∀ w ∈ Cond.classLink RX2 103 AE :: Cond.initialized AE :: thC, vx_ot w = true := by decide +kernel
theorem tL_7 : (.methodLink RL 7 yX2_cycle : Cond) ∈ gT := by decide +kernel
theorem tL_c : (.codeWith yL_cycle cL_cycle 4 (some .int) [(0, 8, 11, 13)] : Cond) ∈ gT := by decide +kernel
