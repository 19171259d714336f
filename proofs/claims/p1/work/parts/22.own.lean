/-! what a new IllegalStateException needs of the start beside the good words, and how it goes along -/
theorem tx_lays {o n d : String} {s U : State} {a a' : Array Value} (hvm : s.vm.Alike U.vm) (hk : ∀ q : Nat, q < s.heap.size → U.heap[q]? = s.heap[q]?) (h : (Cond.laysStatic o n d).before a s = true) : (Cond.laysStatic o n d).before a' U = true := by
  obtain ⟨c, k, i, f, ad, cell, h1, h2, h3, h4, h5, h6, h7, h8, h9⟩ := Cond.laysStatic_spec h
  obtain ⟨k', h2', he⟩ := State.fieldFound?_setVm hvm h2
  have h5' : U.heap[ad]? = some cell := by rw [hk ad (Array.getElem?_eq_some_iff.mp h5).1]; exact h5
  have h1' : U.vm.findClass o = some c := by rw [hvm.findClass]; exact h1
  have h4' : k'.statics = some ad := by rw [he]; exact h4
  have h9' : k'.staticTypes[f.slot]? = some f.type := by rw [he]; exact h9
  have h2'' : U.fieldFound? o n d = some (c, k', i, f) := h2'
  simp [Cond.before, Cond.holds, Cond.value, h1', h2'', h3, h4', h5', h6, h7, h8, h9']
theorem tx_isRef {C n d : String} {A : Nat → Prop} {U : State} {a : Array Value} (h : va_Zq C n d A U U.heap) : (Cond.isRef (.static C n d)).before a U = true := by
  rcases h with ⟨cf, kf, fi, f, ad, cell, h1, h2, h3, h4, h5, h6, h7, -⟩ | ⟨t, cf, kf, fi, f, ad, cell, h1, h2, h3, h4, h5, h6, h7, -⟩
  · simp [Cond.before, Cond.holds, Cond.value, Term.eval, State.fieldNamed?, h1, h2, h4, h5, h6, h7]
  · simp [Cond.before, Cond.holds, Cond.value, Term.eval, State.fieldNamed?, h1, h2, h4, h5, h6, h7]
def tx_E (a1 a2 : Nat) (U : State) : Prop :=
  va_Zq Bundle.tN "UNASSIGNED_STACK" Bundle.steD (fun _ => False) U U.heap ∧ va_Zq Bundle.tN "SUPPRESSED_SENTINEL" Bundle.listD (fun _ => False) U U.heap ∧
  (Cond.laysStatic Bundle.tN "UNASSIGNED_STACK" Bundle.steD).before #[] U = true ∧ (Cond.laysStatic Bundle.tN "SUPPRESSED_SENTINEL" Bundle.listD).before #[] U = true ∧
  va_Nw (.declares (Bundle.initS "java/lang/RuntimeException")) U ∧ va_Nw (.declares (Bundle.initS "java/lang/Exception")) U ∧ va_Nw (.declares (Bundle.initS Bundle.tN)) U ∧
  va_Nw (.castable "java/lang/IllegalStateException" "java/lang/IllegalStateException") U ∧
  vk_R "PatternMachine" 146 "there is no pattern" a1 U ∧ vk_R "PatternMachine" 110 "nothing was found" a2 U
theorem tx_E.same {a1 a2 : Nat} {u U : State} (hv : U.vm = u.vm) (hh : U.heap = u.heap) (h : tx_E a1 a2 u) : tx_E a1 a2 U := by
  obtain ⟨h1, h2, h3, h4, h5, h6, h7, h8, h9, h10⟩ := h
  have hal : u.vm.Alike U.vm := by rw [hv]; exact Vm.Alike.refl _
  have hk : ∀ q : Nat, q < u.heap.size → U.heap[q]? = u.heap[q]? := fun q _ => by rw [hh]
  exact ⟨by rw [hh]; exact h1.moved hal, by rw [hh]; exact h2.moved hal, tx_lays hal hk h3, tx_lays hal hk h4, h5.same rfl hv.symm, h6.same rfl hv.symm, h7.same rfl hv.symm, h8.same rfl hv.symm, h9.same hv, h10.same hv⟩
theorem tx_E.go {a1 a2 : Nat} {s U : State} (hW : s.WarmedH U.vm) (hk : ∀ q : Nat, q < s.heap.size → U.heap[q]? = s.heap[q]?) (h : tx_E a1 a2 s) : tx_E a1 a2 U := by
  obtain ⟨h1, h2, h3, h4, h5, h6, h7, h8, h9, h10⟩ := h
  exact ⟨(h1.moved hW.alike).kept (fun a ha _ => hk a ha), (h2.moved hW.alike).kept (fun a ha _ => hk a ha), tx_lays hW.alike hk h3, tx_lays hW.alike hk h4, h5.warmD hW, h6.warmD hW, h7.warmD hW, h8.warmC hW, h9.warm hW, h10.warm hW⟩
def tx_bad : List Cond := [.laysStatic Bundle.tN "UNASSIGNED_STACK" Bundle.steD, .laysStatic Bundle.tN "SUPPRESSED_SENTINEL" Bundle.listD, .declares (Bundle.initS "java/lang/RuntimeException"), .declares (Bundle.initS "java/lang/Exception"), .declares (Bundle.initS Bundle.tN), .castable "java/lang/IllegalStateException" "java/lang/IllegalStateException", .isRef (.static Bundle.tN "UNASSIGNED_STACK" Bundle.steD), .isRef (.static Bundle.tN "SUPPRESSED_SENTINEL" Bundle.listD)]
set_option maxRecDepth 100000 in
theorem tx_split : ∀ w ∈ tx_atoms, goodWord w = true ∨ w ∈ tx_bad := by decide +kernel
theorem tx_own {a1 a2 : Nat} {s : State} {args : Array Value} (htc : ∀ w ∈ wC, w.before args s = true) (hE : tx_E a1 a2 s) : ∀ w ∈ tx_atoms, w.before args s = true := by
  intro w hw
  rcases tx_split w hw with h | h
  · exact htc w (in_T w (List.mem_filter.mpr ⟨hw, h⟩))
  · obtain ⟨h1, h2, h3, h4, h5, h6, h7, h8, -, -⟩ := hE
    simp only [tx_bad, List.mem_cons, List.not_mem_nil, or_false] at h
    rcases h with rfl | rfl | rfl | rfl | rfl | rfl | rfl | rfl
    · exact h3
    · exact h4
    · exact h5.use rfl
    · exact h6.use rfl
    · exact h7.use rfl
    · exact h8.use rfl
    · exact tx_isRef h1
    · exact tx_isRef h2
