theorem gGW {y : MethodName} {b : ByteArray} {n : Nat} {r : Option FieldType} {hh : List (Nat × Nat × Nat × Nat)} (hc : Cond.codeWith y b n r hh ∈ gT) : GoodIn gT (Cond.codeWith y b n r hh :: gT) := by
  have h : ∀ w ∈ gT, w ∈ gT ∧ ((w.onTables && w.keeps) = true ∨ ∃ ty, w = .arrayClass ty) := fun w hw => ⟨hw, good_of_word (List.mem_filter.mp hw).2⟩
  intro w hw
  rcases List.mem_cons.mp hw with rfl | hw
  · exact h _ hc
  · exact h w hw
theorem cw_SW {R : Room} {s : State} {args : Array Value} {own : String} {index maxL mc ms : Nat} {y : MethodName} {b : ByteArray} {ret : Option FieldType} {hh : List (Nat × Nat × Nat × Nat)} {rm : Room} (n : Nat) (hts : ∀ w ∈ gT, w.before args s = true) (hc : Cond.codeWith y b maxL ret hh ∈ gT) (hrc : rm.cells = mc) (hrs : rm.slots = ms) (hl : Cond.methodLink own index y ∈ gT) (hini : Cond.initialized y.cls ∈ gT) (hi : Cond.static y ∈ gT) (hd : y.cls ≠ "java/lang/invoke/MethodHandle" ∧ y.cls ≠ "java/lang/invoke/VarHandle" ∧ (parseMethodDescriptor y.desc).map (fun d => d.parameters.length) = some n) (hR : rm.frames + 1 ≤ R.frames ∧ 8 + (maxL + 11) + rm.locals ≤ R.locals) : vx_CSW R s args own index y b maxL ret hh (Cond.codeWith y b maxL ret hh :: gT) rm mc ms n := by
  refine ⟨⟨hrc, hrs, hR.1, hR.2, pay_in hts (gGW hc), List.mem_cons_self⟩, hts _ hc, hts _ hini, ⟨hd.1, hd.2.1⟩, fun sig h => ?_, hts _ hl, hts _ hi⟩
  have h2 := hd.2.2
  rw [h] at h2
  exact (Option.some.inj h2).symm
