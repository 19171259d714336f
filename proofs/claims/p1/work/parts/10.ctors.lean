set_option maxHeartbeats 4000000 in
set_option maxRecDepth 100000 in
theorem c_Row_init40 (l : Launch) (dC : Nat → ClassId) (dI : Nat → Nat → Nat) (h0 : Nat) (sz : Nat) : Met l y_Row_init (.code y_Row_init prog_6_method_1_code 2 none :: wC) ({ frames := 1, cells := 1, slots := 40, locals := 12 }) (va_Pc [.ref h0, .int 40] (fun U => U.heap.size = sz ∧ va_P (dC, dI) clP [(h0, .inr (0, [.null, .int 0]))] U.heap ∧ va_K (dC, dI) clP [] U ∧ va_D (fun _ => True) [(h0, .inr (0, [.null, .int 0]))])) (va_Qv (fun _ : Unit => True) (fun (_ : Unit) (t : State) => ∃ (q1 : Nat) (k2 : ClassId), va_P (dC, dI) clP [(h0, .inr (0, [.ref q1, .int 0])), (q1, .inl (k2, 40, .inl (fun _ => 0)))] t.heap ∧ va_K (dC, dI) clP [(k2, .char)] t ∧ va_D (va_A [(h0, .inr (0, [.null, .int 0]))] sz) [(h0, .inr (0, [.ref q1, .int 0])), (q1, .inl (k2, 40, .inl (fun _ => 0)))]) (va_A [(h0, .inr (0, [.null, .int 0]))] sz)) 1 40 (va_A [(h0, .inr (0, [.null, .int 0]))] sz) := by
  refine Met.ofW (cc := prog_6_method_1_code) (maxL := 2) (ret := none) (by decide) rfl ?_
  intro p e s m args below meth c s₁ B hml hv
  obtain ⟨rfl, hsz, hP, hK, hD0⟩ := hv
  have hx := B.exec
  have hb := B.bytes
  have hr := B.returns
  have htc := fun (w : Cond) (h : w ∈ wC) => atoms_spec (ws := (.code y_Row_init prog_6_method_1_code 2 none :: wC)) B.pre w (List.mem_cons_of_mem _ h)
  have hown : s.vm.findClass "PatternMachine$Row" = some m.cls := findClass_of_methodNamed B.named
  have hlocks := B.notSynchronized
  have hin : meth.name = "<init>" := (name_of_methodNamed B.named B.method).1
  subst hsz
  have hD := hD0.self (sz := s.heap.size)
  generalize hAe : va_A [(h0, .inr (0, [.null, .int 0]))] s.heap.size = A at hD ⊢
  have hA : ∀ q : Nat, s.heap.size ≤ q → A q := fun q h => by rw [← hAe]; exact Or.inr h
  have hS : va_S A s.heap s.heap [] := va_S.rf
  have hP : va_P (dC, dI) clP [(h0, .inr (0, [.null, .int 0]))] s.heap := hP
  have hl := lv_entry ([.ref h0, .int 40]) (n := 2) (Nat.le_of_ble_eq_true rfl)
  rw [lg_entry_eq]
  generalize (lg_sl ([.ref h0, .int 40]) ++ List.replicate (2 - (lg_sl ([.ref h0, .int 40])).length) Slot.unset).toArray = ls at hl ⊢
  have hl : lv_has ls 2 [(0, .ref h0), (1, .int 40)] := hl
  refine lv_aload_n hx hb d_Row_init_0 rfl (lv_at hl 0 rfl) ?_
  refine W.objInit hx hb hown (htc _ mw_0) (htc _ mw_1) (htc _ mw_2) rfl (by rw [hml]; exact hl.1) rfl d_Row_init_1 (Nat.le_of_ble_eq_true rfl) (Nat.le_of_ble_eq_true rfl) ?_
  refine W.eq (g2 := F0 m 4 ls []) rfl ?_
  refine lv_aload_n hx hb d_Row_init_4 rfl (lv_at hl 0 rfl) ?_
  refine lv_iload_n hx hb d_Row_init_5 rfl (lv_at hl 1 rfl) ?_
  refine va_newa (atype := .char) (ty := .char) (a0 := (40, .inl (fun _ => 0))) (N' := 40) hx hb (htc _ mw_3) rfl hK hP hD hS hA (fun _ => rfl) (by decide) (by decide) (by decide) (Nat.le_of_ble_eq_true rfl) (Nat.le_of_ble_eq_true rfl) d_Row_init_6 (fun q1 k2 H hK hP hD hS => ?_)
  refine W.cs (cells' := 1) (slots' := 40) rfl rfl ?_
  have hP : va_P (dC, dI) clP [(h0, .inr (0, [.null, .int 0])), (q1, .inl (k2, 40, .inl (fun _ => 0)))] H := hP
  have hD : va_D A [(h0, .inr (0, [.null, .int 0])), (q1, .inl (k2, 40, .inl (fun _ => 0)))] := hD
  have hK : va_K (dC, dI) clP [(k2, .char)] s := hK
  refine va_putF (D := (dC, dI)) (ci := 0) (v := .ref q1) (ty := (.array .char)) (C := "PatternMachine$Row") (T := T_Row) (N := 2) hx hb htc in_Row t_Row t_Row_ok n_Row hown hK hP hD hS 0 rfl rfl 0 (by decide) (htc _ mw_4) (fun _ h9 => h9) rfl hin rfl (by decide +kernel) rfl rfl (Nat.le_of_ble_eq_true rfl) d_Row_init_8 (fun H locs hP hD hS => ?_)
  have hP : va_P (dC, dI) clP [(h0, .inr (0, [.ref q1, .int 0])), (q1, .inl (k2, 40, .inl (fun _ => 0)))] H := hP
  have hD : va_D A [(h0, .inr (0, [.ref q1, .int 0])), (q1, .inl (k2, 40, .inl (fun _ => 0)))] := hD
  refine W.widen (k := 1) (n := 40) (by decide) (by decide) ?_
  have hP9 := hP.sub (ws' := [(h0, .inr (0, [.ref q1, .int 0])), (q1, .inl (k2, 40, .inl (fun _ => 0)))]) [0, 1] rfl
  have hD9 := hD.sub (ws' := [(h0, .inr (0, [.ref q1, .int 0])), (q1, .inl (k2, 40, .inl (fun _ => 0)))]) [0, 1] (by decide) rfl
  have hK9 := hK.sub (tys' := [(k2, .char)]) [0] rfl
  exact W.vret hx hb hr (fun t ht hW => ⟨⟨(), rfl, trivial, q1, k2, by rw [ht]; exact hP9, va_K.moved hW.alike hK9, hD9⟩, hS.F ht⟩) hS.2.2 d_Row_init_11
set_option maxHeartbeats 4000000 in
set_option maxRecDepth 100000 in
theorem c_Row_init80 (l : Launch) (dC : Nat → ClassId) (dI : Nat → Nat → Nat) (h0 : Nat) (sz : Nat) : Met l y_Row_init (.code y_Row_init prog_6_method_1_code 2 none :: wC) ({ frames := 1, cells := 1, slots := 80, locals := 12 }) (va_Pc [.ref h0, .int 80] (fun U => U.heap.size = sz ∧ va_P (dC, dI) clP [(h0, .inr (0, [.null, .int 0]))] U.heap ∧ va_K (dC, dI) clP [] U ∧ va_D (fun _ => True) [(h0, .inr (0, [.null, .int 0]))])) (va_Qv (fun _ : Unit => True) (fun (_ : Unit) (t : State) => ∃ (q1 : Nat) (k2 : ClassId), va_P (dC, dI) clP [(h0, .inr (0, [.ref q1, .int 0])), (q1, .inl (k2, 80, .inl (fun _ => 0)))] t.heap ∧ va_K (dC, dI) clP [(k2, .char)] t ∧ va_D (va_A [(h0, .inr (0, [.null, .int 0]))] sz) [(h0, .inr (0, [.ref q1, .int 0])), (q1, .inl (k2, 80, .inl (fun _ => 0)))]) (va_A [(h0, .inr (0, [.null, .int 0]))] sz)) 1 80 (va_A [(h0, .inr (0, [.null, .int 0]))] sz) := by
  refine Met.ofW (cc := prog_6_method_1_code) (maxL := 2) (ret := none) (by decide) rfl ?_
  intro p e s m args below meth c s₁ B hml hv
  obtain ⟨rfl, hsz, hP, hK, hD0⟩ := hv
  have hx := B.exec
  have hb := B.bytes
  have hr := B.returns
  have htc := fun (w : Cond) (h : w ∈ wC) => atoms_spec (ws := (.code y_Row_init prog_6_method_1_code 2 none :: wC)) B.pre w (List.mem_cons_of_mem _ h)
  have hown : s.vm.findClass "PatternMachine$Row" = some m.cls := findClass_of_methodNamed B.named
  have hlocks := B.notSynchronized
  have hin : meth.name = "<init>" := (name_of_methodNamed B.named B.method).1
  subst hsz
  have hD := hD0.self (sz := s.heap.size)
  generalize hAe : va_A [(h0, .inr (0, [.null, .int 0]))] s.heap.size = A at hD ⊢
  have hA : ∀ q : Nat, s.heap.size ≤ q → A q := fun q h => by rw [← hAe]; exact Or.inr h
  have hS : va_S A s.heap s.heap [] := va_S.rf
  have hP : va_P (dC, dI) clP [(h0, .inr (0, [.null, .int 0]))] s.heap := hP
  have hl := lv_entry ([.ref h0, .int 80]) (n := 2) (Nat.le_of_ble_eq_true rfl)
  rw [lg_entry_eq]
  generalize (lg_sl ([.ref h0, .int 80]) ++ List.replicate (2 - (lg_sl ([.ref h0, .int 80])).length) Slot.unset).toArray = ls at hl ⊢
  have hl : lv_has ls 2 [(0, .ref h0), (1, .int 80)] := hl
  refine lv_aload_n hx hb d_Row_init_0 rfl (lv_at hl 0 rfl) ?_
  refine W.objInit hx hb hown (htc _ mw_0) (htc _ mw_1) (htc _ mw_2) rfl (by rw [hml]; exact hl.1) rfl d_Row_init_1 (Nat.le_of_ble_eq_true rfl) (Nat.le_of_ble_eq_true rfl) ?_
  refine W.eq (g2 := F0 m 4 ls []) rfl ?_
  refine lv_aload_n hx hb d_Row_init_4 rfl (lv_at hl 0 rfl) ?_
  refine lv_iload_n hx hb d_Row_init_5 rfl (lv_at hl 1 rfl) ?_
  refine va_newa (atype := .char) (ty := .char) (a0 := (80, .inl (fun _ => 0))) (N' := 80) hx hb (htc _ mw_3) rfl hK hP hD hS hA (fun _ => rfl) (by decide) (by decide) (by decide) (Nat.le_of_ble_eq_true rfl) (Nat.le_of_ble_eq_true rfl) d_Row_init_6 (fun q1 k2 H hK hP hD hS => ?_)
  refine W.cs (cells' := 1) (slots' := 80) rfl rfl ?_
  have hP : va_P (dC, dI) clP [(h0, .inr (0, [.null, .int 0])), (q1, .inl (k2, 80, .inl (fun _ => 0)))] H := hP
  have hD : va_D A [(h0, .inr (0, [.null, .int 0])), (q1, .inl (k2, 80, .inl (fun _ => 0)))] := hD
  have hK : va_K (dC, dI) clP [(k2, .char)] s := hK
  refine va_putF (D := (dC, dI)) (ci := 0) (v := .ref q1) (ty := (.array .char)) (C := "PatternMachine$Row") (T := T_Row) (N := 2) hx hb htc in_Row t_Row t_Row_ok n_Row hown hK hP hD hS 0 rfl rfl 0 (by decide) (htc _ mw_4) (fun _ h9 => h9) rfl hin rfl (by decide +kernel) rfl rfl (Nat.le_of_ble_eq_true rfl) d_Row_init_8 (fun H locs hP hD hS => ?_)
  have hP : va_P (dC, dI) clP [(h0, .inr (0, [.ref q1, .int 0])), (q1, .inl (k2, 80, .inl (fun _ => 0)))] H := hP
  have hD : va_D A [(h0, .inr (0, [.ref q1, .int 0])), (q1, .inl (k2, 80, .inl (fun _ => 0)))] := hD
  refine W.widen (k := 1) (n := 80) (by decide) (by decide) ?_
  have hP9 := hP.sub (ws' := [(h0, .inr (0, [.ref q1, .int 0])), (q1, .inl (k2, 80, .inl (fun _ => 0)))]) [0, 1] rfl
  have hD9 := hD.sub (ws' := [(h0, .inr (0, [.ref q1, .int 0])), (q1, .inl (k2, 80, .inl (fun _ => 0)))]) [0, 1] (by decide) rfl
  have hK9 := hK.sub (tys' := [(k2, .char)]) [0] rfl
  exact W.vret hx hb hr (fun t ht hW => ⟨⟨(), rfl, trivial, q1, k2, by rw [ht]; exact hP9, va_K.moved hW.alike hK9, hD9⟩, hS.F ht⟩) hS.2.2 d_Row_init_11
set_option maxHeartbeats 4000000 in
set_option maxRecDepth 100000 in
theorem c_Node_init (l : Launch) (dC : Nat → ClassId) (dI : Nat → Nat → Nat) (h0 : Nat) (sz : Nat) : Met l y_Node_init (.code y_Node_init prog_3_method_1_code 1 none :: wC) ({ frames := 1, cells := 0, slots := 0, locals := 12 }) (va_Pc [.ref h0] (fun U => U.heap.size = sz ∧ va_P (dC, dI) clP [(h0, .inr (1, [.int 0, .null, .null, .null, .int 0, .int 0, .int 0, .int 0, .long 0, .long 0, .int 0]))] U.heap ∧ va_K (dC, dI) clP [] U ∧ va_D (fun _ => True) [(h0, .inr (1, [.int 0, .null, .null, .null, .int 0, .int 0, .int 0, .int 0, .long 0, .long 0, .int 0]))])) (va_Qv (fun _ : Unit => True) (fun (_ : Unit) (t : State) => va_P (dC, dI) clP [(h0, .inr (1, [.int 0, .null, .null, .null, .int 0, .int 0, .int 0, .int 0, .long 0, .long 0, .int 0]))] t.heap ∧ va_K (dC, dI) clP [] t ∧ va_D (va_A [(h0, .inr (1, [.int 0, .null, .null, .null, .int 0, .int 0, .int 0, .int 0, .long 0, .long 0, .int 0]))] sz) [(h0, .inr (1, [.int 0, .null, .null, .null, .int 0, .int 0, .int 0, .int 0, .long 0, .long 0, .int 0]))]) (va_A [(h0, .inr (1, [.int 0, .null, .null, .null, .int 0, .int 0, .int 0, .int 0, .long 0, .long 0, .int 0]))] sz)) 0 0 (va_A [(h0, .inr (1, [.int 0, .null, .null, .null, .int 0, .int 0, .int 0, .int 0, .long 0, .long 0, .int 0]))] sz) := by
  refine Met.ofW (cc := prog_3_method_1_code) (maxL := 1) (ret := none) (by decide) rfl ?_
  intro p e s m args below meth c s₁ B hml hv
  obtain ⟨rfl, hsz, hP, hK, hD0⟩ := hv
  have hx := B.exec
  have hb := B.bytes
  have hr := B.returns
  have htc := fun (w : Cond) (h : w ∈ wC) => atoms_spec (ws := (.code y_Node_init prog_3_method_1_code 1 none :: wC)) B.pre w (List.mem_cons_of_mem _ h)
  have hown : s.vm.findClass "PatternMachine$Node" = some m.cls := findClass_of_methodNamed B.named
  have hlocks := B.notSynchronized
  have hin : meth.name = "<init>" := (name_of_methodNamed B.named B.method).1
  subst hsz
  have hD := hD0.self (sz := s.heap.size)
  generalize hAe : va_A [(h0, .inr (1, [.int 0, .null, .null, .null, .int 0, .int 0, .int 0, .int 0, .long 0, .long 0, .int 0]))] s.heap.size = A at hD ⊢
  have hA : ∀ q : Nat, s.heap.size ≤ q → A q := fun q h => by rw [← hAe]; exact Or.inr h
  have hS : va_S A s.heap s.heap [] := va_S.rf
  have hP : va_P (dC, dI) clP [(h0, .inr (1, [.int 0, .null, .null, .null, .int 0, .int 0, .int 0, .int 0, .long 0, .long 0, .int 0]))] s.heap := hP
  have hl := lv_entry ([.ref h0]) (n := 1) (Nat.le_of_ble_eq_true rfl)
  rw [lg_entry_eq]
  generalize (lg_sl ([.ref h0]) ++ List.replicate (1 - (lg_sl ([.ref h0])).length) Slot.unset).toArray = ls at hl ⊢
  have hl : lv_has ls 1 [(0, .ref h0)] := hl
  refine lv_aload_n hx hb d_Node_init_0 rfl (lv_at hl 0 rfl) ?_
  refine W.objInit hx hb hown (htc _ mw_5) (htc _ mw_1) (htc _ mw_2) rfl (by rw [hml]; exact hl.1) rfl d_Node_init_1 (Nat.le_of_ble_eq_true rfl) (Nat.le_of_ble_eq_true rfl) ?_
  refine W.eq (g2 := F0 m 4 ls []) rfl ?_
  refine W.widen (k := 0) (n := 0) (by decide) (by decide) ?_
  have hP9 := hP.sub (ws' := [(h0, .inr (1, [.int 0, .null, .null, .null, .int 0, .int 0, .int 0, .int 0, .long 0, .long 0, .int 0]))]) [0] rfl
  have hD9 := hD.sub (ws' := [(h0, .inr (1, [.int 0, .null, .null, .null, .int 0, .int 0, .int 0, .int 0, .long 0, .long 0, .int 0]))]) [0] (by decide) rfl
  have hK9 := hK.sub (tys' := []) [] rfl
  exact W.vret hx hb hr (fun t ht hW => ⟨⟨(), rfl, trivial, by rw [ht]; exact hP9, va_K.moved hW.alike hK9, hD9⟩, hS.F ht⟩) hS.2.2 d_Node_init_4
set_option maxHeartbeats 4000000 in
set_option maxRecDepth 100000 in
theorem c_Program_init (l : Launch) (dC : Nat → ClassId) (dI : Nat → Nat → Nat) (h0 : Nat) (sz : Nat) : Met l y_Program_init (.code y_Program_init prog_4_method_1_code 1 none :: wC) ({ frames := 1, cells := 5, slots := 605, locals := 12 }) (va_Pc [.ref h0] (fun U => U.heap.size = sz ∧ va_P (dC, dI) clP [(h0, .inr (3, [.null, .null, .null, .null, .null, .int 0, .int 0]))] U.heap ∧ va_K (dC, dI) clP [] U ∧ va_D (fun _ => True) [(h0, .inr (3, [.null, .null, .null, .null, .null, .int 0, .int 0]))])) (va_Qv (fun _ : Unit => True) (fun (_ : Unit) (t : State) => ∃ (q1 q3 q5 q7 q9 : Nat) (k2 k4 k6 k8 k10 : ClassId), va_P (dC, dI) clP [(h0, .inr (3, [.ref q1, .ref q3, .ref q5, .ref q7, .ref q9, .int 0, .int 0])), (q1, .inl (k2, 121, .inl (fun _ => 0))), (q3, .inl (k4, 121, .inl (fun _ => 0))), (q5, .inl (k6, 121, .inl (fun _ => 0))), (q7, .inl (k8, 121, .inr (.inl (fun _ => 0)))), (q9, .inl (k10, 121, .inr (.inl (fun _ => 0))))] t.heap ∧ va_K (dC, dI) clP [(k2, .int), (k4, .int), (k6, .int), (k8, .long), (k10, .long)] t ∧ va_D (va_A [(h0, .inr (3, [.null, .null, .null, .null, .null, .int 0, .int 0]))] sz) [(h0, .inr (3, [.ref q1, .ref q3, .ref q5, .ref q7, .ref q9, .int 0, .int 0])), (q1, .inl (k2, 121, .inl (fun _ => 0))), (q3, .inl (k4, 121, .inl (fun _ => 0))), (q5, .inl (k6, 121, .inl (fun _ => 0))), (q7, .inl (k8, 121, .inr (.inl (fun _ => 0)))), (q9, .inl (k10, 121, .inr (.inl (fun _ => 0))))]) (va_A [(h0, .inr (3, [.null, .null, .null, .null, .null, .int 0, .int 0]))] sz)) 5 605 (va_A [(h0, .inr (3, [.null, .null, .null, .null, .null, .int 0, .int 0]))] sz) := by
  refine Met.ofW (cc := prog_4_method_1_code) (maxL := 1) (ret := none) (by decide) rfl ?_
  intro p e s m args below meth c s₁ B hml hv
  obtain ⟨rfl, hsz, hP, hK, hD0⟩ := hv
  have hx := B.exec
  have hb := B.bytes
  have hr := B.returns
  have htc := fun (w : Cond) (h : w ∈ wC) => atoms_spec (ws := (.code y_Program_init prog_4_method_1_code 1 none :: wC)) B.pre w (List.mem_cons_of_mem _ h)
  have hown : s.vm.findClass "PatternMachine$Program" = some m.cls := findClass_of_methodNamed B.named
  have hlocks := B.notSynchronized
  have hin : meth.name = "<init>" := (name_of_methodNamed B.named B.method).1
  subst hsz
  have hD := hD0.self (sz := s.heap.size)
  generalize hAe : va_A [(h0, .inr (3, [.null, .null, .null, .null, .null, .int 0, .int 0]))] s.heap.size = A at hD ⊢
  have hA : ∀ q : Nat, s.heap.size ≤ q → A q := fun q h => by rw [← hAe]; exact Or.inr h
  have hS : va_S A s.heap s.heap [] := va_S.rf
  have hP : va_P (dC, dI) clP [(h0, .inr (3, [.null, .null, .null, .null, .null, .int 0, .int 0]))] s.heap := hP
  have hl := lv_entry ([.ref h0]) (n := 1) (Nat.le_of_ble_eq_true rfl)
  rw [lg_entry_eq]
  generalize (lg_sl ([.ref h0]) ++ List.replicate (1 - (lg_sl ([.ref h0])).length) Slot.unset).toArray = ls at hl ⊢
  have hl : lv_has ls 1 [(0, .ref h0)] := hl
  refine lv_aload_n hx hb d_Program_init_0 rfl (lv_at hl 0 rfl) ?_
  refine W.objInit hx hb hown (htc _ mw_6) (htc _ mw_1) (htc _ mw_2) rfl (by rw [hml]; exact hl.1) rfl d_Program_init_1 (Nat.le_of_ble_eq_true rfl) (Nat.le_of_ble_eq_true rfl) ?_
  refine W.eq (g2 := F0 m 4 ls []) rfl ?_
  refine lv_aload_n hx hb d_Program_init_4 rfl (lv_at hl 0 rfl) ?_
  refine lv_bipush (v := 121) hx hb d_Program_init_5 (by decide) ?_
  refine va_newa (atype := .int) (ty := .int) (a0 := (121, .inl (fun _ => 0))) (N' := 121) hx hb (htc _ mw_7) rfl hK hP hD hS hA (fun _ => rfl) (by decide) (by decide) (by decide) (Nat.le_of_ble_eq_true rfl) (Nat.le_of_ble_eq_true rfl) d_Program_init_7 (fun q1 k2 H hK hP hD hS => ?_)
  refine W.cs (cells' := 1) (slots' := 121) rfl rfl ?_
  have hP : va_P (dC, dI) clP [(h0, .inr (3, [.null, .null, .null, .null, .null, .int 0, .int 0])), (q1, .inl (k2, 121, .inl (fun _ => 0)))] H := hP
  have hD : va_D A [(h0, .inr (3, [.null, .null, .null, .null, .null, .int 0, .int 0])), (q1, .inl (k2, 121, .inl (fun _ => 0)))] := hD
  have hK : va_K (dC, dI) clP [(k2, .int)] s := hK
  refine va_putF (D := (dC, dI)) (ci := 3) (v := .ref q1) (ty := (.array .int)) (C := "PatternMachine$Program") (T := T_Program) (N := 7) hx hb htc in_Program t_Program t_Program_ok n_Program hown hK hP hD hS 0 rfl rfl 0 (by decide) (htc _ mw_8) (fun _ h9 => h9) rfl hin rfl (by decide +kernel) rfl rfl (Nat.le_of_ble_eq_true rfl) d_Program_init_9 (fun H locs hP hD hS => ?_)
  have hP : va_P (dC, dI) clP [(h0, .inr (3, [.ref q1, .null, .null, .null, .null, .int 0, .int 0])), (q1, .inl (k2, 121, .inl (fun _ => 0)))] H := hP
  have hD : va_D A [(h0, .inr (3, [.ref q1, .null, .null, .null, .null, .int 0, .int 0])), (q1, .inl (k2, 121, .inl (fun _ => 0)))] := hD
  refine lv_aload_n hx hb d_Program_init_12 rfl (lv_at hl 0 rfl) ?_
  refine lv_bipush (v := 121) hx hb d_Program_init_13 (by decide) ?_
  refine va_newa (atype := .int) (ty := .int) (a0 := (121, .inl (fun _ => 0))) (N' := 121) hx hb (htc _ mw_7) rfl hK hP hD hS hA (fun _ => rfl) (by decide) (by decide) (by decide) (Nat.le_of_ble_eq_true rfl) (Nat.le_of_ble_eq_true rfl) d_Program_init_15 (fun q3 k4 H hK hP hD hS => ?_)
  refine W.cs (cells' := 2) (slots' := 242) rfl rfl ?_
  have hP : va_P (dC, dI) clP [(h0, .inr (3, [.ref q1, .null, .null, .null, .null, .int 0, .int 0])), (q1, .inl (k2, 121, .inl (fun _ => 0))), (q3, .inl (k4, 121, .inl (fun _ => 0)))] H := hP
  have hD : va_D A [(h0, .inr (3, [.ref q1, .null, .null, .null, .null, .int 0, .int 0])), (q1, .inl (k2, 121, .inl (fun _ => 0))), (q3, .inl (k4, 121, .inl (fun _ => 0)))] := hD
  have hK : va_K (dC, dI) clP [(k2, .int), (k4, .int)] s := hK
  refine va_putF (D := (dC, dI)) (ci := 3) (v := .ref q3) (ty := (.array .int)) (C := "PatternMachine$Program") (T := T_Program) (N := 7) hx hb htc in_Program t_Program t_Program_ok n_Program hown hK hP hD hS 0 rfl rfl 1 (by decide) (htc _ mw_9) (fun _ h9 => h9) rfl hin rfl (by decide +kernel) rfl rfl (Nat.le_of_ble_eq_true rfl) d_Program_init_17 (fun H locs hP hD hS => ?_)
  have hP : va_P (dC, dI) clP [(h0, .inr (3, [.ref q1, .ref q3, .null, .null, .null, .int 0, .int 0])), (q1, .inl (k2, 121, .inl (fun _ => 0))), (q3, .inl (k4, 121, .inl (fun _ => 0)))] H := hP
  have hD : va_D A [(h0, .inr (3, [.ref q1, .ref q3, .null, .null, .null, .int 0, .int 0])), (q1, .inl (k2, 121, .inl (fun _ => 0))), (q3, .inl (k4, 121, .inl (fun _ => 0)))] := hD
  refine lv_aload_n hx hb d_Program_init_20 rfl (lv_at hl 0 rfl) ?_
  refine lv_bipush (v := 121) hx hb d_Program_init_21 (by decide) ?_
  refine va_newa (atype := .int) (ty := .int) (a0 := (121, .inl (fun _ => 0))) (N' := 121) hx hb (htc _ mw_7) rfl hK hP hD hS hA (fun _ => rfl) (by decide) (by decide) (by decide) (Nat.le_of_ble_eq_true rfl) (Nat.le_of_ble_eq_true rfl) d_Program_init_23 (fun q5 k6 H hK hP hD hS => ?_)
  refine W.cs (cells' := 3) (slots' := 363) rfl rfl ?_
  have hP : va_P (dC, dI) clP [(h0, .inr (3, [.ref q1, .ref q3, .null, .null, .null, .int 0, .int 0])), (q1, .inl (k2, 121, .inl (fun _ => 0))), (q3, .inl (k4, 121, .inl (fun _ => 0))), (q5, .inl (k6, 121, .inl (fun _ => 0)))] H := hP
  have hD : va_D A [(h0, .inr (3, [.ref q1, .ref q3, .null, .null, .null, .int 0, .int 0])), (q1, .inl (k2, 121, .inl (fun _ => 0))), (q3, .inl (k4, 121, .inl (fun _ => 0))), (q5, .inl (k6, 121, .inl (fun _ => 0)))] := hD
  have hK : va_K (dC, dI) clP [(k2, .int), (k4, .int), (k6, .int)] s := hK
  refine va_putF (D := (dC, dI)) (ci := 3) (v := .ref q5) (ty := (.array .int)) (C := "PatternMachine$Program") (T := T_Program) (N := 7) hx hb htc in_Program t_Program t_Program_ok n_Program hown hK hP hD hS 0 rfl rfl 2 (by decide) (htc _ mw_10) (fun _ h9 => h9) rfl hin rfl (by decide +kernel) rfl rfl (Nat.le_of_ble_eq_true rfl) d_Program_init_25 (fun H locs hP hD hS => ?_)
  have hP : va_P (dC, dI) clP [(h0, .inr (3, [.ref q1, .ref q3, .ref q5, .null, .null, .int 0, .int 0])), (q1, .inl (k2, 121, .inl (fun _ => 0))), (q3, .inl (k4, 121, .inl (fun _ => 0))), (q5, .inl (k6, 121, .inl (fun _ => 0)))] H := hP
  have hD : va_D A [(h0, .inr (3, [.ref q1, .ref q3, .ref q5, .null, .null, .int 0, .int 0])), (q1, .inl (k2, 121, .inl (fun _ => 0))), (q3, .inl (k4, 121, .inl (fun _ => 0))), (q5, .inl (k6, 121, .inl (fun _ => 0)))] := hD
  refine lv_aload_n hx hb d_Program_init_28 rfl (lv_at hl 0 rfl) ?_
  refine lv_bipush (v := 121) hx hb d_Program_init_29 (by decide) ?_
  refine va_newa (atype := .long) (ty := .long) (a0 := (121, .inr (.inl (fun _ => 0)))) (N' := 121) hx hb (htc _ mw_11) rfl hK hP hD hS hA (fun _ => rfl) (by decide) (by decide) (by decide) (Nat.le_of_ble_eq_true rfl) (Nat.le_of_ble_eq_true rfl) d_Program_init_31 (fun q7 k8 H hK hP hD hS => ?_)
  refine W.cs (cells' := 4) (slots' := 484) rfl rfl ?_
  have hP : va_P (dC, dI) clP [(h0, .inr (3, [.ref q1, .ref q3, .ref q5, .null, .null, .int 0, .int 0])), (q1, .inl (k2, 121, .inl (fun _ => 0))), (q3, .inl (k4, 121, .inl (fun _ => 0))), (q5, .inl (k6, 121, .inl (fun _ => 0))), (q7, .inl (k8, 121, .inr (.inl (fun _ => 0))))] H := hP
  have hD : va_D A [(h0, .inr (3, [.ref q1, .ref q3, .ref q5, .null, .null, .int 0, .int 0])), (q1, .inl (k2, 121, .inl (fun _ => 0))), (q3, .inl (k4, 121, .inl (fun _ => 0))), (q5, .inl (k6, 121, .inl (fun _ => 0))), (q7, .inl (k8, 121, .inr (.inl (fun _ => 0))))] := hD
  have hK : va_K (dC, dI) clP [(k2, .int), (k4, .int), (k6, .int), (k8, .long)] s := hK
  refine va_putF (D := (dC, dI)) (ci := 3) (v := .ref q7) (ty := (.array .long)) (C := "PatternMachine$Program") (T := T_Program) (N := 7) hx hb htc in_Program t_Program t_Program_ok n_Program hown hK hP hD hS 0 rfl rfl 3 (by decide) (htc _ mw_12) (fun _ h9 => h9) rfl hin rfl (by decide +kernel) rfl rfl (Nat.le_of_ble_eq_true rfl) d_Program_init_33 (fun H locs hP hD hS => ?_)
  have hP : va_P (dC, dI) clP [(h0, .inr (3, [.ref q1, .ref q3, .ref q5, .ref q7, .null, .int 0, .int 0])), (q1, .inl (k2, 121, .inl (fun _ => 0))), (q3, .inl (k4, 121, .inl (fun _ => 0))), (q5, .inl (k6, 121, .inl (fun _ => 0))), (q7, .inl (k8, 121, .inr (.inl (fun _ => 0))))] H := hP
  have hD : va_D A [(h0, .inr (3, [.ref q1, .ref q3, .ref q5, .ref q7, .null, .int 0, .int 0])), (q1, .inl (k2, 121, .inl (fun _ => 0))), (q3, .inl (k4, 121, .inl (fun _ => 0))), (q5, .inl (k6, 121, .inl (fun _ => 0))), (q7, .inl (k8, 121, .inr (.inl (fun _ => 0))))] := hD
  refine lv_aload_n hx hb d_Program_init_36 rfl (lv_at hl 0 rfl) ?_
  refine lv_bipush (v := 121) hx hb d_Program_init_37 (by decide) ?_
  refine va_newa (atype := .long) (ty := .long) (a0 := (121, .inr (.inl (fun _ => 0)))) (N' := 121) hx hb (htc _ mw_11) rfl hK hP hD hS hA (fun _ => rfl) (by decide) (by decide) (by decide) (Nat.le_of_ble_eq_true rfl) (Nat.le_of_ble_eq_true rfl) d_Program_init_39 (fun q9 k10 H hK hP hD hS => ?_)
  refine W.cs (cells' := 5) (slots' := 605) rfl rfl ?_
  have hP : va_P (dC, dI) clP [(h0, .inr (3, [.ref q1, .ref q3, .ref q5, .ref q7, .null, .int 0, .int 0])), (q1, .inl (k2, 121, .inl (fun _ => 0))), (q3, .inl (k4, 121, .inl (fun _ => 0))), (q5, .inl (k6, 121, .inl (fun _ => 0))), (q7, .inl (k8, 121, .inr (.inl (fun _ => 0)))), (q9, .inl (k10, 121, .inr (.inl (fun _ => 0))))] H := hP
  have hD : va_D A [(h0, .inr (3, [.ref q1, .ref q3, .ref q5, .ref q7, .null, .int 0, .int 0])), (q1, .inl (k2, 121, .inl (fun _ => 0))), (q3, .inl (k4, 121, .inl (fun _ => 0))), (q5, .inl (k6, 121, .inl (fun _ => 0))), (q7, .inl (k8, 121, .inr (.inl (fun _ => 0)))), (q9, .inl (k10, 121, .inr (.inl (fun _ => 0))))] := hD
  have hK : va_K (dC, dI) clP [(k2, .int), (k4, .int), (k6, .int), (k8, .long), (k10, .long)] s := hK
  refine va_putF (D := (dC, dI)) (ci := 3) (v := .ref q9) (ty := (.array .long)) (C := "PatternMachine$Program") (T := T_Program) (N := 7) hx hb htc in_Program t_Program t_Program_ok n_Program hown hK hP hD hS 0 rfl rfl 4 (by decide) (htc _ mw_13) (fun _ h9 => h9) rfl hin rfl (by decide +kernel) rfl rfl (Nat.le_of_ble_eq_true rfl) d_Program_init_41 (fun H locs hP hD hS => ?_)
  have hP : va_P (dC, dI) clP [(h0, .inr (3, [.ref q1, .ref q3, .ref q5, .ref q7, .ref q9, .int 0, .int 0])), (q1, .inl (k2, 121, .inl (fun _ => 0))), (q3, .inl (k4, 121, .inl (fun _ => 0))), (q5, .inl (k6, 121, .inl (fun _ => 0))), (q7, .inl (k8, 121, .inr (.inl (fun _ => 0)))), (q9, .inl (k10, 121, .inr (.inl (fun _ => 0))))] H := hP
  have hD : va_D A [(h0, .inr (3, [.ref q1, .ref q3, .ref q5, .ref q7, .ref q9, .int 0, .int 0])), (q1, .inl (k2, 121, .inl (fun _ => 0))), (q3, .inl (k4, 121, .inl (fun _ => 0))), (q5, .inl (k6, 121, .inl (fun _ => 0))), (q7, .inl (k8, 121, .inr (.inl (fun _ => 0)))), (q9, .inl (k10, 121, .inr (.inl (fun _ => 0))))] := hD
  refine W.widen (k := 5) (n := 605) (by decide) (by decide) ?_
  have hP9 := hP.sub (ws' := [(h0, .inr (3, [.ref q1, .ref q3, .ref q5, .ref q7, .ref q9, .int 0, .int 0])), (q1, .inl (k2, 121, .inl (fun _ => 0))), (q3, .inl (k4, 121, .inl (fun _ => 0))), (q5, .inl (k6, 121, .inl (fun _ => 0))), (q7, .inl (k8, 121, .inr (.inl (fun _ => 0)))), (q9, .inl (k10, 121, .inr (.inl (fun _ => 0))))]) [0, 1, 2, 3, 4, 5] rfl
  have hD9 := hD.sub (ws' := [(h0, .inr (3, [.ref q1, .ref q3, .ref q5, .ref q7, .ref q9, .int 0, .int 0])), (q1, .inl (k2, 121, .inl (fun _ => 0))), (q3, .inl (k4, 121, .inl (fun _ => 0))), (q5, .inl (k6, 121, .inl (fun _ => 0))), (q7, .inl (k8, 121, .inr (.inl (fun _ => 0)))), (q9, .inl (k10, 121, .inr (.inl (fun _ => 0))))]) [0, 1, 2, 3, 4, 5] (by decide) rfl
  have hK9 := hK.sub (tys' := [(k2, .int), (k4, .int), (k6, .int), (k8, .long), (k10, .long)]) [0, 1, 2, 3, 4] rfl
  exact W.vret hx hb hr (fun t ht hW => ⟨⟨(), rfl, trivial, q1, q3, q5, q7, q9, k2, k4, k6, k8, k10, by rw [ht]; exact hP9, va_K.moved hW.alike hK9, hD9⟩, hS.F ht⟩) hS.2.2 d_Program_init_44
set_option maxHeartbeats 4000000 in
set_option maxRecDepth 100000 in
theorem c_Threads_init (l : Launch) (dC : Nat → ClassId) (dI : Nat → Nat → Nat) (h0 : Nat) (sz : Nat) : Met l y_Threads_init (.code y_Threads_init prog_7_method_1_code 1 none :: wC) ({ frames := 1, cells := 3, slots := 1452, locals := 12 }) (va_Pc [.ref h0] (fun U => U.heap.size = sz ∧ va_P (dC, dI) clP [(h0, .inr (4, [.null, .null, .null, .int 0]))] U.heap ∧ va_K (dC, dI) clP [] U ∧ va_D (fun _ => True) [(h0, .inr (4, [.null, .null, .null, .int 0]))])) (va_Qv (fun _ : Unit => True) (fun (_ : Unit) (t : State) => True) (va_A [(h0, .inr (4, [.null, .null, .null, .int 0]))] sz)) 3 1452 (va_A [(h0, .inr (4, [.null, .null, .null, .int 0]))] sz) := by
  refine Met.ofW (cc := prog_7_method_1_code) (maxL := 1) (ret := none) (by decide) rfl ?_
  intro p e s m args below meth c s₁ B hml hv
  obtain ⟨rfl, hsz, hP, hK, hD0⟩ := hv
  have hx := B.exec
  have hb := B.bytes
  have hr := B.returns
  have htc := fun (w : Cond) (h : w ∈ wC) => atoms_spec (ws := (.code y_Threads_init prog_7_method_1_code 1 none :: wC)) B.pre w (List.mem_cons_of_mem _ h)
  have hown : s.vm.findClass "PatternMachine$Threads" = some m.cls := findClass_of_methodNamed B.named
  have hlocks := B.notSynchronized
  have hin : meth.name = "<init>" := (name_of_methodNamed B.named B.method).1
  subst hsz
  have hD := hD0.self (sz := s.heap.size)
  generalize hAe : va_A [(h0, .inr (4, [.null, .null, .null, .int 0]))] s.heap.size = A at hD ⊢
  have hA : ∀ q : Nat, s.heap.size ≤ q → A q := fun q h => by rw [← hAe]; exact Or.inr h
  have hS : va_S A s.heap s.heap [] := va_S.rf
  have hP : va_P (dC, dI) clP [(h0, .inr (4, [.null, .null, .null, .int 0]))] s.heap := hP
  have hl := lv_entry ([.ref h0]) (n := 1) (Nat.le_of_ble_eq_true rfl)
  rw [lg_entry_eq]
  generalize (lg_sl ([.ref h0]) ++ List.replicate (1 - (lg_sl ([.ref h0])).length) Slot.unset).toArray = ls at hl ⊢
  have hl : lv_has ls 1 [(0, .ref h0)] := hl
  refine lv_aload_n hx hb d_Threads_init_0 rfl (lv_at hl 0 rfl) ?_
  refine W.objInit hx hb hown (htc _ mw_14) (htc _ mw_1) (htc _ mw_2) rfl (by rw [hml]; exact hl.1) rfl d_Threads_init_1 (Nat.le_of_ble_eq_true rfl) (Nat.le_of_ble_eq_true rfl) ?_
  refine W.eq (g2 := F0 m 4 ls []) rfl ?_
  refine lv_aload_n hx hb d_Threads_init_4 rfl (lv_at hl 0 rfl) ?_
  refine lv_bipush (v := 121) hx hb d_Threads_init_5 (by decide) ?_
  refine va_newa (atype := .int) (ty := .int) (a0 := (121, .inl (fun _ => 0))) (N' := 121) hx hb (htc _ mw_7) rfl hK hP hD hS hA (fun _ => rfl) (by decide) (by decide) (by decide) (Nat.le_of_ble_eq_true rfl) (Nat.le_of_ble_eq_true rfl) d_Threads_init_7 (fun q1 k2 H hK hP hD hS => ?_)
  refine W.cs (cells' := 1) (slots' := 121) rfl rfl ?_
  have hP : va_P (dC, dI) clP [(h0, .inr (4, [.null, .null, .null, .int 0])), (q1, .inl (k2, 121, .inl (fun _ => 0)))] H := hP
  have hD : va_D A [(h0, .inr (4, [.null, .null, .null, .int 0])), (q1, .inl (k2, 121, .inl (fun _ => 0)))] := hD
  have hK : va_K (dC, dI) clP [(k2, .int)] s := hK
  refine va_putF (D := (dC, dI)) (ci := 4) (v := .ref q1) (ty := (.array .int)) (C := "PatternMachine$Threads") (T := T_Threads) (N := 4) hx hb htc in_Threads t_Threads t_Threads_ok n_Threads hown hK hP hD hS 0 rfl rfl 0 (by decide) (htc _ mw_15) (fun _ h9 => h9) rfl hin rfl (by decide +kernel) rfl rfl (Nat.le_of_ble_eq_true rfl) d_Threads_init_9 (fun H locs hP hD hS => ?_)
  have hP : va_P (dC, dI) clP [(h0, .inr (4, [.ref q1, .null, .null, .int 0])), (q1, .inl (k2, 121, .inl (fun _ => 0)))] H := hP
  have hD : va_D A [(h0, .inr (4, [.ref q1, .null, .null, .int 0])), (q1, .inl (k2, 121, .inl (fun _ => 0)))] := hD
  refine lv_aload_n hx hb d_Threads_init_12 rfl (lv_at hl 0 rfl) ?_
  refine lv_sipush (v := 1210) hx hb d_Threads_init_13 (by decide) ?_
  refine va_newa (atype := .int) (ty := .int) (a0 := (1210, .inl (fun _ => 0))) (N' := 1210) hx hb (htc _ mw_7) rfl hK hP hD hS hA (fun _ => rfl) (by decide) (by decide) (by decide) (Nat.le_of_ble_eq_true rfl) (Nat.le_of_ble_eq_true rfl) d_Threads_init_16 (fun q3 k4 H hK hP hD hS => ?_)
  refine W.cs (cells' := 2) (slots' := 1331) rfl rfl ?_
  have hP : va_P (dC, dI) clP [(h0, .inr (4, [.ref q1, .null, .null, .int 0])), (q1, .inl (k2, 121, .inl (fun _ => 0))), (q3, .inl (k4, 1210, .inl (fun _ => 0)))] H := hP
  have hD : va_D A [(h0, .inr (4, [.ref q1, .null, .null, .int 0])), (q1, .inl (k2, 121, .inl (fun _ => 0))), (q3, .inl (k4, 1210, .inl (fun _ => 0)))] := hD
  have hK : va_K (dC, dI) clP [(k2, .int), (k4, .int)] s := hK
  refine va_putF (D := (dC, dI)) (ci := 4) (v := .ref q3) (ty := (.array .int)) (C := "PatternMachine$Threads") (T := T_Threads) (N := 4) hx hb htc in_Threads t_Threads t_Threads_ok n_Threads hown hK hP hD hS 0 rfl rfl 1 (by decide) (htc _ mw_16) (fun _ h9 => h9) rfl hin rfl (by decide +kernel) rfl rfl (Nat.le_of_ble_eq_true rfl) d_Threads_init_18 (fun H locs hP hD hS => ?_)
  have hP : va_P (dC, dI) clP [(h0, .inr (4, [.ref q1, .ref q3, .null, .int 0])), (q1, .inl (k2, 121, .inl (fun _ => 0))), (q3, .inl (k4, 1210, .inl (fun _ => 0)))] H := hP
  have hD : va_D A [(h0, .inr (4, [.ref q1, .ref q3, .null, .int 0])), (q1, .inl (k2, 121, .inl (fun _ => 0))), (q3, .inl (k4, 1210, .inl (fun _ => 0)))] := hD
  refine lv_aload_n hx hb d_Threads_init_21 rfl (lv_at hl 0 rfl) ?_
  refine lv_bipush (v := 121) hx hb d_Threads_init_22 (by decide) ?_
  refine va_newa (atype := .int) (ty := .int) (a0 := (121, .inl (fun _ => 0))) (N' := 121) hx hb (htc _ mw_7) rfl hK hP hD hS hA (fun _ => rfl) (by decide) (by decide) (by decide) (Nat.le_of_ble_eq_true rfl) (Nat.le_of_ble_eq_true rfl) d_Threads_init_24 (fun q5 k6 H hK hP hD hS => ?_)
  refine W.cs (cells' := 3) (slots' := 1452) rfl rfl ?_
  have hP : va_P (dC, dI) clP [(h0, .inr (4, [.ref q1, .ref q3, .null, .int 0])), (q1, .inl (k2, 121, .inl (fun _ => 0))), (q3, .inl (k4, 1210, .inl (fun _ => 0))), (q5, .inl (k6, 121, .inl (fun _ => 0)))] H := hP
  have hD : va_D A [(h0, .inr (4, [.ref q1, .ref q3, .null, .int 0])), (q1, .inl (k2, 121, .inl (fun _ => 0))), (q3, .inl (k4, 1210, .inl (fun _ => 0))), (q5, .inl (k6, 121, .inl (fun _ => 0)))] := hD
  have hK : va_K (dC, dI) clP [(k2, .int), (k4, .int), (k6, .int)] s := hK
  refine va_putF (D := (dC, dI)) (ci := 4) (v := .ref q5) (ty := (.array .int)) (C := "PatternMachine$Threads") (T := T_Threads) (N := 4) hx hb htc in_Threads t_Threads t_Threads_ok n_Threads hown hK hP hD hS 0 rfl rfl 2 (by decide) (htc _ mw_17) (fun _ h9 => h9) rfl hin rfl (by decide +kernel) rfl rfl (Nat.le_of_ble_eq_true rfl) d_Threads_init_26 (fun H locs hP hD hS => ?_)
  have hP : va_P (dC, dI) clP [(h0, .inr (4, [.ref q1, .ref q3, .ref q5, .int 0])), (q1, .inl (k2, 121, .inl (fun _ => 0))), (q3, .inl (k4, 1210, .inl (fun _ => 0))), (q5, .inl (k6, 121, .inl (fun _ => 0)))] H := hP
  have hD : va_D A [(h0, .inr (4, [.ref q1, .ref q3, .ref q5, .int 0])), (q1, .inl (k2, 121, .inl (fun _ => 0))), (q3, .inl (k4, 1210, .inl (fun _ => 0))), (q5, .inl (k6, 121, .inl (fun _ => 0)))] := hD
  refine W.widen (k := 3) (n := 1452) (by decide) (by decide) ?_
  exact W.vret hx hb hr (fun t ht hW => ⟨⟨(), rfl, trivial, trivial⟩, hS.F ht⟩) hS.2.2 d_Threads_init_29
set_option maxHeartbeats 4000000 in
set_option maxRecDepth 100000 in
theorem c_Machine_init (l : Launch) (dC : Nat → ClassId) (dI : Nat → Nat → Nat) (h0 h1 h2 : Nat) (sz : Nat) : Met l y_Machine_init (.code y_Machine_init prog_2_method_1_code 3 none :: wC) ({ frames := 2, cells := 12, slots := 5356, locals := 32 }) (va_Pc [.ref h0, .ref h1, .ref h2] (fun U => U.heap.size = sz ∧ va_P (dC, dI) clP [(h0, .inr (5, [.null, .null, .null, .null, .null, .null, .int 0, .null, .null]))] U.heap ∧ va_K (dC, dI) clP [] U ∧ va_D (fun _ => True) [(h0, .inr (5, [.null, .null, .null, .null, .null, .null, .int 0, .null, .null]))])) (va_Qv (fun _ : Unit => True) (fun (_ : Unit) (t : State) => True) (va_A [(h0, .inr (5, [.null, .null, .null, .null, .null, .null, .int 0, .null, .null]))] sz)) 12 5356 (va_A [(h0, .inr (5, [.null, .null, .null, .null, .null, .null, .int 0, .null, .null]))] sz) := by
  refine Met.ofW (cc := prog_2_method_1_code) (maxL := 3) (ret := none) (by decide) rfl ?_
  intro p e s m args below meth c s₁ B hml hv
  obtain ⟨rfl, hsz, hP, hK, hD0⟩ := hv
  have hx := B.exec
  have hb := B.bytes
  have hr := B.returns
  have htc := fun (w : Cond) (h : w ∈ wC) => atoms_spec (ws := (.code y_Machine_init prog_2_method_1_code 3 none :: wC)) B.pre w (List.mem_cons_of_mem _ h)
  have hown : s.vm.findClass "PatternMachine$Machine" = some m.cls := findClass_of_methodNamed B.named
  have hlocks := B.notSynchronized
  have hin : meth.name = "<init>" := (name_of_methodNamed B.named B.method).1
  subst hsz
  have hD := hD0.self (sz := s.heap.size)
  generalize hAe : va_A [(h0, .inr (5, [.null, .null, .null, .null, .null, .null, .int 0, .null, .null]))] s.heap.size = A at hD ⊢
  have hA : ∀ q : Nat, s.heap.size ≤ q → A q := fun q h => by rw [← hAe]; exact Or.inr h
  have hS : va_S A s.heap s.heap [] := va_S.rf
  have hP : va_P (dC, dI) clP [(h0, .inr (5, [.null, .null, .null, .null, .null, .null, .int 0, .null, .null]))] s.heap := hP
  have hl := lv_entry ([.ref h0, .ref h1, .ref h2]) (n := 3) (Nat.le_of_ble_eq_true rfl)
  rw [lg_entry_eq]
  generalize (lg_sl ([.ref h0, .ref h1, .ref h2]) ++ List.replicate (3 - (lg_sl ([.ref h0, .ref h1, .ref h2])).length) Slot.unset).toArray = ls at hl ⊢
  have hl : lv_has ls 3 [(0, .ref h0), (1, .ref h1), (2, .ref h2)] := hl
  refine lv_aload_n hx hb d_Machine_init_0 rfl (lv_at hl 0 rfl) ?_
  refine W.objInit hx hb hown (htc _ mw_18) (htc _ mw_1) (htc _ mw_2) rfl (by rw [hml]; exact hl.1) rfl d_Machine_init_1 (Nat.le_of_ble_eq_true rfl) (Nat.le_of_ble_eq_true rfl) ?_
  refine W.eq (g2 := F0 m 4 ls []) rfl ?_
  refine lv_aload_n hx hb d_Machine_init_4 rfl (lv_at hl 0 rfl) ?_
  refine lv_aload_n hx hb d_Machine_init_5 rfl (lv_at hl 1 rfl) ?_
  refine va_putF (D := (dC, dI)) (ci := 5) (v := .ref h1) (ty := (.object "PatternMachine$Program")) (C := "PatternMachine$Machine") (T := T_Machine) (N := 9) hx hb htc in_Machine t_Machine t_Machine_ok n_Machine hown hK hP hD hS 0 rfl rfl 0 (by decide) (htc _ mw_19) (fun _ h9 => h9) rfl hin rfl (by decide +kernel) rfl rfl (Nat.le_of_ble_eq_true rfl) d_Machine_init_6 (fun H locs hP hD hS => ?_)
  have hP : va_P (dC, dI) clP [(h0, .inr (5, [.ref h1, .null, .null, .null, .null, .null, .int 0, .null, .null]))] H := hP
  have hD : va_D A [(h0, .inr (5, [.ref h1, .null, .null, .null, .null, .null, .int 0, .null, .null]))] := hD
  refine lv_aload_n hx hb d_Machine_init_9 rfl (lv_at hl 0 rfl) ?_
  refine lv_aload_n hx hb d_Machine_init_10 rfl (lv_at hl 2 rfl) ?_
  refine va_putF (D := (dC, dI)) (ci := 5) (v := .ref h2) (ty := (.object "PatternMachine$Row")) (C := "PatternMachine$Machine") (T := T_Machine) (N := 9) hx hb htc in_Machine t_Machine t_Machine_ok n_Machine hown hK hP hD hS 0 rfl rfl 1 (by decide) (htc _ mw_20) (fun _ h9 => h9) rfl hin rfl (by decide +kernel) rfl rfl (Nat.le_of_ble_eq_true rfl) d_Machine_init_11 (fun H locs hP hD hS => ?_)
  have hP : va_P (dC, dI) clP [(h0, .inr (5, [.ref h1, .ref h2, .null, .null, .null, .null, .int 0, .null, .null]))] H := hP
  have hD : va_D A [(h0, .inr (5, [.ref h1, .ref h2, .null, .null, .null, .null, .int 0, .null, .null]))] := hD
  refine lv_aload_n hx hb d_Machine_init_14 rfl (lv_at hl 0 rfl) ?_
  refine lv_bipush (v := 10) hx hb d_Machine_init_15 (by decide) ?_
  refine va_newa (atype := .int) (ty := .int) (a0 := (10, .inl (fun _ => 0))) (N' := 10) hx hb (htc _ mw_7) rfl hK hP hD hS hA (fun _ => rfl) (by decide) (by decide) (by decide) (Nat.le_of_ble_eq_true rfl) (Nat.le_of_ble_eq_true rfl) d_Machine_init_17 (fun q1 k2 H hK hP hD hS => ?_)
  refine W.cs (cells' := 1) (slots' := 10) rfl rfl ?_
  have hP : va_P (dC, dI) clP [(h0, .inr (5, [.ref h1, .ref h2, .null, .null, .null, .null, .int 0, .null, .null])), (q1, .inl (k2, 10, .inl (fun _ => 0)))] H := hP
  have hD : va_D A [(h0, .inr (5, [.ref h1, .ref h2, .null, .null, .null, .null, .int 0, .null, .null])), (q1, .inl (k2, 10, .inl (fun _ => 0)))] := hD
  have hK : va_K (dC, dI) clP [(k2, .int)] s := hK
  refine va_putF (D := (dC, dI)) (ci := 5) (v := .ref q1) (ty := (.array .int)) (C := "PatternMachine$Machine") (T := T_Machine) (N := 9) hx hb htc in_Machine t_Machine t_Machine_ok n_Machine hown hK hP hD hS 0 rfl rfl 2 (by decide) (htc _ mw_21) (fun _ h9 => h9) rfl hin rfl (by decide +kernel) rfl rfl (Nat.le_of_ble_eq_true rfl) d_Machine_init_19 (fun H locs hP hD hS => ?_)
  have hP : va_P (dC, dI) clP [(h0, .inr (5, [.ref h1, .ref h2, .ref q1, .null, .null, .null, .int 0, .null, .null])), (q1, .inl (k2, 10, .inl (fun _ => 0)))] H := hP
  have hD : va_D A [(h0, .inr (5, [.ref h1, .ref h2, .ref q1, .null, .null, .null, .int 0, .null, .null])), (q1, .inl (k2, 10, .inl (fun _ => 0)))] := hD
  refine lv_aload_n hx hb d_Machine_init_22 rfl (lv_at hl 0 rfl) ?_
  refine lv_bipush (v := 10) hx hb d_Machine_init_23 (by decide) ?_
  refine va_newa (atype := .int) (ty := .int) (a0 := (10, .inl (fun _ => 0))) (N' := 10) hx hb (htc _ mw_7) rfl hK hP hD hS hA (fun _ => rfl) (by decide) (by decide) (by decide) (Nat.le_of_ble_eq_true rfl) (Nat.le_of_ble_eq_true rfl) d_Machine_init_25 (fun q3 k4 H hK hP hD hS => ?_)
  refine W.cs (cells' := 2) (slots' := 20) rfl rfl ?_
  have hP : va_P (dC, dI) clP [(h0, .inr (5, [.ref h1, .ref h2, .ref q1, .null, .null, .null, .int 0, .null, .null])), (q1, .inl (k2, 10, .inl (fun _ => 0))), (q3, .inl (k4, 10, .inl (fun _ => 0)))] H := hP
  have hD : va_D A [(h0, .inr (5, [.ref h1, .ref h2, .ref q1, .null, .null, .null, .int 0, .null, .null])), (q1, .inl (k2, 10, .inl (fun _ => 0))), (q3, .inl (k4, 10, .inl (fun _ => 0)))] := hD
  have hK : va_K (dC, dI) clP [(k2, .int), (k4, .int)] s := hK
  refine va_putF (D := (dC, dI)) (ci := 5) (v := .ref q3) (ty := (.array .int)) (C := "PatternMachine$Machine") (T := T_Machine) (N := 9) hx hb htc in_Machine t_Machine t_Machine_ok n_Machine hown hK hP hD hS 0 rfl rfl 3 (by decide) (htc _ mw_22) (fun _ h9 => h9) rfl hin rfl (by decide +kernel) rfl rfl (Nat.le_of_ble_eq_true rfl) d_Machine_init_27 (fun H locs hP hD hS => ?_)
  have hP : va_P (dC, dI) clP [(h0, .inr (5, [.ref h1, .ref h2, .ref q1, .ref q3, .null, .null, .int 0, .null, .null])), (q1, .inl (k2, 10, .inl (fun _ => 0))), (q3, .inl (k4, 10, .inl (fun _ => 0)))] H := hP
  have hD : va_D A [(h0, .inr (5, [.ref h1, .ref h2, .ref q1, .ref q3, .null, .null, .int 0, .null, .null])), (q1, .inl (k2, 10, .inl (fun _ => 0))), (q3, .inl (k4, 10, .inl (fun _ => 0)))] := hD
  refine lv_aload_n hx hb d_Machine_init_30 rfl (lv_at hl 0 rfl) ?_
  refine lv_sipush (v := 1212) hx hb d_Machine_init_31 (by decide) ?_
  refine va_newa (atype := .int) (ty := .int) (a0 := (1212, .inl (fun _ => 0))) (N' := 1212) hx hb (htc _ mw_7) rfl hK hP hD hS hA (fun _ => rfl) (by decide) (by decide) (by decide) (Nat.le_of_ble_eq_true rfl) (Nat.le_of_ble_eq_true rfl) d_Machine_init_34 (fun q5 k6 H hK hP hD hS => ?_)
  refine W.cs (cells' := 3) (slots' := 1232) rfl rfl ?_
  have hP : va_P (dC, dI) clP [(h0, .inr (5, [.ref h1, .ref h2, .ref q1, .ref q3, .null, .null, .int 0, .null, .null])), (q1, .inl (k2, 10, .inl (fun _ => 0))), (q3, .inl (k4, 10, .inl (fun _ => 0))), (q5, .inl (k6, 1212, .inl (fun _ => 0)))] H := hP
  have hD : va_D A [(h0, .inr (5, [.ref h1, .ref h2, .ref q1, .ref q3, .null, .null, .int 0, .null, .null])), (q1, .inl (k2, 10, .inl (fun _ => 0))), (q3, .inl (k4, 10, .inl (fun _ => 0))), (q5, .inl (k6, 1212, .inl (fun _ => 0)))] := hD
  have hK : va_K (dC, dI) clP [(k2, .int), (k4, .int), (k6, .int)] s := hK
  refine va_putF (D := (dC, dI)) (ci := 5) (v := .ref q5) (ty := (.array .int)) (C := "PatternMachine$Machine") (T := T_Machine) (N := 9) hx hb htc in_Machine t_Machine t_Machine_ok n_Machine hown hK hP hD hS 0 rfl rfl 4 (by decide) (htc _ mw_23) (fun _ h9 => h9) rfl hin rfl (by decide +kernel) rfl rfl (Nat.le_of_ble_eq_true rfl) d_Machine_init_36 (fun H locs hP hD hS => ?_)
  have hP : va_P (dC, dI) clP [(h0, .inr (5, [.ref h1, .ref h2, .ref q1, .ref q3, .ref q5, .null, .int 0, .null, .null])), (q1, .inl (k2, 10, .inl (fun _ => 0))), (q3, .inl (k4, 10, .inl (fun _ => 0))), (q5, .inl (k6, 1212, .inl (fun _ => 0)))] H := hP
  have hD : va_D A [(h0, .inr (5, [.ref h1, .ref h2, .ref q1, .ref q3, .ref q5, .null, .int 0, .null, .null])), (q1, .inl (k2, 10, .inl (fun _ => 0))), (q3, .inl (k4, 10, .inl (fun _ => 0))), (q5, .inl (k6, 1212, .inl (fun _ => 0)))] := hD
  refine lv_aload_n hx hb d_Machine_init_39 rfl (lv_at hl 0 rfl) ?_
  refine lv_sipush (v := 1212) hx hb d_Machine_init_40 (by decide) ?_
  refine va_newa (atype := .int) (ty := .int) (a0 := (1212, .inl (fun _ => 0))) (N' := 1212) hx hb (htc _ mw_7) rfl hK hP hD hS hA (fun _ => rfl) (by decide) (by decide) (by decide) (Nat.le_of_ble_eq_true rfl) (Nat.le_of_ble_eq_true rfl) d_Machine_init_43 (fun q7 k8 H hK hP hD hS => ?_)
  refine W.cs (cells' := 4) (slots' := 2444) rfl rfl ?_
  have hP : va_P (dC, dI) clP [(h0, .inr (5, [.ref h1, .ref h2, .ref q1, .ref q3, .ref q5, .null, .int 0, .null, .null])), (q1, .inl (k2, 10, .inl (fun _ => 0))), (q3, .inl (k4, 10, .inl (fun _ => 0))), (q5, .inl (k6, 1212, .inl (fun _ => 0))), (q7, .inl (k8, 1212, .inl (fun _ => 0)))] H := hP
  have hD : va_D A [(h0, .inr (5, [.ref h1, .ref h2, .ref q1, .ref q3, .ref q5, .null, .int 0, .null, .null])), (q1, .inl (k2, 10, .inl (fun _ => 0))), (q3, .inl (k4, 10, .inl (fun _ => 0))), (q5, .inl (k6, 1212, .inl (fun _ => 0))), (q7, .inl (k8, 1212, .inl (fun _ => 0)))] := hD
  have hK : va_K (dC, dI) clP [(k2, .int), (k4, .int), (k6, .int), (k8, .int)] s := hK
  refine va_putF (D := (dC, dI)) (ci := 5) (v := .ref q7) (ty := (.array .int)) (C := "PatternMachine$Machine") (T := T_Machine) (N := 9) hx hb htc in_Machine t_Machine t_Machine_ok n_Machine hown hK hP hD hS 0 rfl rfl 5 (by decide) (htc _ mw_24) (fun _ h9 => h9) rfl hin rfl (by decide +kernel) rfl rfl (Nat.le_of_ble_eq_true rfl) d_Machine_init_45 (fun H locs hP hD hS => ?_)
  have hP : va_P (dC, dI) clP [(h0, .inr (5, [.ref h1, .ref h2, .ref q1, .ref q3, .ref q5, .ref q7, .int 0, .null, .null])), (q1, .inl (k2, 10, .inl (fun _ => 0))), (q3, .inl (k4, 10, .inl (fun _ => 0))), (q5, .inl (k6, 1212, .inl (fun _ => 0))), (q7, .inl (k8, 1212, .inl (fun _ => 0)))] H := hP
  have hD : va_D A [(h0, .inr (5, [.ref h1, .ref h2, .ref q1, .ref q3, .ref q5, .ref q7, .int 0, .null, .null])), (q1, .inl (k2, 10, .inl (fun _ => 0))), (q3, .inl (k4, 10, .inl (fun _ => 0))), (q5, .inl (k6, 1212, .inl (fun _ => 0))), (q7, .inl (k8, 1212, .inl (fun _ => 0)))] := hD
  refine lv_aload_n hx hb d_Machine_init_48 rfl (lv_at hl 0 rfl) ?_
  refine va_new (ci := 4) (fs := [.null, .null, .null, .int 0]) (C := "PatternMachine$Threads") (T := T_Threads) (N := 4) hx hb htc in_Threads t_Threads t_Threads_ok hown (htc _ mw_25) (htc _ mw_26) (htc _ mw_27) hK hP hD hS hA rfl (by decide) (Nat.le_of_ble_eq_true rfl) (Nat.le_of_ble_eq_true rfl) d_Machine_init_49 (fun q9 H hP hD hS => ?_)
  refine W.cs (cells' := 5) (slots' := 2448) rfl rfl ?_
  have hP : va_P (dC, dI) clP [(h0, .inr (5, [.ref h1, .ref h2, .ref q1, .ref q3, .ref q5, .ref q7, .int 0, .null, .null])), (q1, .inl (k2, 10, .inl (fun _ => 0))), (q3, .inl (k4, 10, .inl (fun _ => 0))), (q5, .inl (k6, 1212, .inl (fun _ => 0))), (q7, .inl (k8, 1212, .inl (fun _ => 0))), (q9, .inr (4, [.null, .null, .null, .int 0]))] H := hP
  have hD : va_D A [(h0, .inr (5, [.ref h1, .ref h2, .ref q1, .ref q3, .ref q5, .ref q7, .int 0, .null, .null])), (q1, .inl (k2, 10, .inl (fun _ => 0))), (q3, .inl (k4, 10, .inl (fun _ => 0))), (q5, .inl (k6, 1212, .inl (fun _ => 0))), (q7, .inl (k8, 1212, .inl (fun _ => 0))), (q9, .inr (4, [.null, .null, .null, .int 0]))] := hD
  refine lv_dup hx hb d_Machine_init_52 rfl ?_
  have hPc := hP.sub (ws' := [(q9, .inr (4, [.null, .null, .null, .int 0]))]) [5] rfl
  have hDc := hD.sub (ws' := [(q9, .inr (4, [.null, .null, .null, .int 0]))]) [5] (by decide) rfl
  have hKc := hK.sub (tys' := []) [] rfl
  have hFc := va_free (wc := [(q9, .inr (4, [.null, .null, .null, .int 0]))]) hD hS hA [5] rfl
  refine va_callv (va_runI (As := []) (rest := [.ref q9, .ref h0]) ⟨hx, hb, hml, hown, htc⟩ (c_Threads_init l dC dI q9 H.size) (cwI 0 htc (gC mw_28) rfl rfl rfl (htc _ mw_27) (htc _ mw_29) (htc _ mw_30) rfl (by decide +kernel) ⟨Nat.le_of_ble_eq_true rfl, Nat.le_of_ble_eq_true rfl⟩) ⟨fun a U g mk q => by obtain ⟨q0, q1, qP, qK, qD⟩ := q; exact ⟨q0, q1, qP, va_K.moved (u := U) (U := U.calling g mk a) (Vm.Alike.refl U.vm) qK, qD⟩, fun U hU hW => ⟨rfl, by rw [hU], by rw [hU]; exact hPc, va_K.moved hW.alike hKc, hDc.weaken (fun _ _ _ _ => trivial)⟩⟩ rfl rfl hl.1 rfl (lv_room (Nat.le_of_ble_eq_true rfl)) d_Machine_init_53 ⟨Nat.le_of_ble_eq_true rfl, Nat.le_of_ble_eq_true rfl⟩) hS (fun q _ h => hFc q h) hFc (fun u t H locs ht hvm hw hB hz1 hk1 hS => ?_)
  refine W.cs (cells' := 8) (slots' := 3900) rfl rfl ?_
  obtain ⟨hP, hD⟩ := va_join (wr := [(h0, .inr (5, [.ref h1, .ref h2, .ref q1, .ref q3, .ref q5, .ref q7, .int 0, .null, .null])), (q1, .inl (k2, 10, .inl (fun _ => 0))), (q3, .inl (k4, 10, .inl (fun _ => 0))), (q5, .inl (k6, 1212, .inl (fun _ => 0))), (q7, .inl (k8, 1212, .inl (fun _ => 0)))]) (w1 := []) hP hD [5] [0, 1, 2, 3, 4] rfl rfl (by decide) (by decide) hk1 hFc nilP nilD
  have hK := hK.sub (tys' := [(k2, .int), (k4, .int), (k6, .int), (k8, .int)]) [0, 1, 2, 3] rfl
  have hP : va_P (dC, dI) clP [(h0, .inr (5, [.ref h1, .ref h2, .ref q1, .ref q3, .ref q5, .ref q7, .int 0, .null, .null])), (q1, .inl (k2, 10, .inl (fun _ => 0))), (q3, .inl (k4, 10, .inl (fun _ => 0))), (q5, .inl (k6, 1212, .inl (fun _ => 0))), (q7, .inl (k8, 1212, .inl (fun _ => 0)))] H := hP
  have hD : va_D A [(h0, .inr (5, [.ref h1, .ref h2, .ref q1, .ref q3, .ref q5, .ref q7, .int 0, .null, .null])), (q1, .inl (k2, 10, .inl (fun _ => 0))), (q3, .inl (k4, 10, .inl (fun _ => 0))), (q5, .inl (k6, 1212, .inl (fun _ => 0))), (q7, .inl (k8, 1212, .inl (fun _ => 0)))] := hD
  have hK : va_K (dC, dI) clP [(k2, .int), (k4, .int), (k6, .int), (k8, .int)] s := hK
  refine va_put (D := (dC, dI)) (ci := 5) (v := .ref q9) (ty := (.object "PatternMachine$Threads")) (C := "PatternMachine$Machine") (T := T_Machine) (N := 9) hx hb htc in_Machine t_Machine t_Machine_ok n_Machine hown hK hP hD hS 0 rfl rfl 7 (by decide) (htc _ mw_31) (fun _ h9 => h9) rfl (by decide +kernel) rfl rfl (Nat.le_of_ble_eq_true rfl) d_Machine_init_56 (fun H locs hP hD hS => ?_)
  have hP : va_P (dC, dI) clP [(h0, .inr (5, [.ref h1, .ref h2, .ref q1, .ref q3, .ref q5, .ref q7, .int 0, .ref q9, .null])), (q1, .inl (k2, 10, .inl (fun _ => 0))), (q3, .inl (k4, 10, .inl (fun _ => 0))), (q5, .inl (k6, 1212, .inl (fun _ => 0))), (q7, .inl (k8, 1212, .inl (fun _ => 0)))] H := hP
  have hD : va_D A [(h0, .inr (5, [.ref h1, .ref h2, .ref q1, .ref q3, .ref q5, .ref q7, .int 0, .ref q9, .null])), (q1, .inl (k2, 10, .inl (fun _ => 0))), (q3, .inl (k4, 10, .inl (fun _ => 0))), (q5, .inl (k6, 1212, .inl (fun _ => 0))), (q7, .inl (k8, 1212, .inl (fun _ => 0)))] := hD
  refine lv_aload_n hx hb d_Machine_init_59 rfl (lv_at hl 0 rfl) ?_
  refine va_new (ci := 4) (fs := [.null, .null, .null, .int 0]) (C := "PatternMachine$Threads") (T := T_Threads) (N := 4) hx hb htc in_Threads t_Threads t_Threads_ok hown (htc _ mw_25) (htc _ mw_26) (htc _ mw_27) hK hP hD hS hA rfl (by decide) (Nat.le_of_ble_eq_true rfl) (Nat.le_of_ble_eq_true rfl) d_Machine_init_60 (fun q10 H hP hD hS => ?_)
  refine W.cs (cells' := 9) (slots' := 3904) rfl rfl ?_
  have hP : va_P (dC, dI) clP [(h0, .inr (5, [.ref h1, .ref h2, .ref q1, .ref q3, .ref q5, .ref q7, .int 0, .ref q9, .null])), (q1, .inl (k2, 10, .inl (fun _ => 0))), (q3, .inl (k4, 10, .inl (fun _ => 0))), (q5, .inl (k6, 1212, .inl (fun _ => 0))), (q7, .inl (k8, 1212, .inl (fun _ => 0))), (q10, .inr (4, [.null, .null, .null, .int 0]))] H := hP
  have hD : va_D A [(h0, .inr (5, [.ref h1, .ref h2, .ref q1, .ref q3, .ref q5, .ref q7, .int 0, .ref q9, .null])), (q1, .inl (k2, 10, .inl (fun _ => 0))), (q3, .inl (k4, 10, .inl (fun _ => 0))), (q5, .inl (k6, 1212, .inl (fun _ => 0))), (q7, .inl (k8, 1212, .inl (fun _ => 0))), (q10, .inr (4, [.null, .null, .null, .int 0]))] := hD
  refine lv_dup hx hb d_Machine_init_63 rfl ?_
  have hPc := hP.sub (ws' := [(q10, .inr (4, [.null, .null, .null, .int 0]))]) [5] rfl
  have hDc := hD.sub (ws' := [(q10, .inr (4, [.null, .null, .null, .int 0]))]) [5] (by decide) rfl
  have hKc := hK.sub (tys' := []) [] rfl
  have hFc := va_free (wc := [(q10, .inr (4, [.null, .null, .null, .int 0]))]) hD hS hA [5] rfl
  refine va_callv (va_runI (As := []) (rest := [.ref q10, .ref h0]) ⟨hx, hb, hml, hown, htc⟩ (c_Threads_init l dC dI q10 H.size) (cwI 0 htc (gC mw_28) rfl rfl rfl (htc _ mw_27) (htc _ mw_29) (htc _ mw_30) rfl (by decide +kernel) ⟨Nat.le_of_ble_eq_true rfl, Nat.le_of_ble_eq_true rfl⟩) ⟨fun a U g mk q => by obtain ⟨q0, q1, qP, qK, qD⟩ := q; exact ⟨q0, q1, qP, va_K.moved (u := U) (U := U.calling g mk a) (Vm.Alike.refl U.vm) qK, qD⟩, fun U hU hW => ⟨rfl, by rw [hU], by rw [hU]; exact hPc, va_K.moved hW.alike hKc, hDc.weaken (fun _ _ _ _ => trivial)⟩⟩ rfl rfl hl.1 rfl (lv_room (Nat.le_of_ble_eq_true rfl)) d_Machine_init_64 ⟨Nat.le_of_ble_eq_true rfl, Nat.le_of_ble_eq_true rfl⟩) hS (fun q _ h => hFc q h) hFc (fun u t H locs ht hvm hw hB hz1 hk1 hS => ?_)
  refine W.cs (cells' := 12) (slots' := 5356) rfl rfl ?_
  obtain ⟨hP, hD⟩ := va_join (wr := [(h0, .inr (5, [.ref h1, .ref h2, .ref q1, .ref q3, .ref q5, .ref q7, .int 0, .ref q9, .null])), (q1, .inl (k2, 10, .inl (fun _ => 0))), (q3, .inl (k4, 10, .inl (fun _ => 0))), (q5, .inl (k6, 1212, .inl (fun _ => 0))), (q7, .inl (k8, 1212, .inl (fun _ => 0)))]) (w1 := []) hP hD [5] [0, 1, 2, 3, 4] rfl rfl (by decide) (by decide) hk1 hFc nilP nilD
  have hK := hK.sub (tys' := [(k2, .int), (k4, .int), (k6, .int), (k8, .int)]) [0, 1, 2, 3] rfl
  have hP : va_P (dC, dI) clP [(h0, .inr (5, [.ref h1, .ref h2, .ref q1, .ref q3, .ref q5, .ref q7, .int 0, .ref q9, .null])), (q1, .inl (k2, 10, .inl (fun _ => 0))), (q3, .inl (k4, 10, .inl (fun _ => 0))), (q5, .inl (k6, 1212, .inl (fun _ => 0))), (q7, .inl (k8, 1212, .inl (fun _ => 0)))] H := hP
  have hD : va_D A [(h0, .inr (5, [.ref h1, .ref h2, .ref q1, .ref q3, .ref q5, .ref q7, .int 0, .ref q9, .null])), (q1, .inl (k2, 10, .inl (fun _ => 0))), (q3, .inl (k4, 10, .inl (fun _ => 0))), (q5, .inl (k6, 1212, .inl (fun _ => 0))), (q7, .inl (k8, 1212, .inl (fun _ => 0)))] := hD
  have hK : va_K (dC, dI) clP [(k2, .int), (k4, .int), (k6, .int), (k8, .int)] s := hK
  refine va_put (D := (dC, dI)) (ci := 5) (v := .ref q10) (ty := (.object "PatternMachine$Threads")) (C := "PatternMachine$Machine") (T := T_Machine) (N := 9) hx hb htc in_Machine t_Machine t_Machine_ok n_Machine hown hK hP hD hS 0 rfl rfl 8 (by decide) (htc _ mw_32) (fun _ h9 => h9) rfl (by decide +kernel) rfl rfl (Nat.le_of_ble_eq_true rfl) d_Machine_init_67 (fun H locs hP hD hS => ?_)
  have hP : va_P (dC, dI) clP [(h0, .inr (5, [.ref h1, .ref h2, .ref q1, .ref q3, .ref q5, .ref q7, .int 0, .ref q9, .ref q10])), (q1, .inl (k2, 10, .inl (fun _ => 0))), (q3, .inl (k4, 10, .inl (fun _ => 0))), (q5, .inl (k6, 1212, .inl (fun _ => 0))), (q7, .inl (k8, 1212, .inl (fun _ => 0)))] H := hP
  have hD : va_D A [(h0, .inr (5, [.ref h1, .ref h2, .ref q1, .ref q3, .ref q5, .ref q7, .int 0, .ref q9, .ref q10])), (q1, .inl (k2, 10, .inl (fun _ => 0))), (q3, .inl (k4, 10, .inl (fun _ => 0))), (q5, .inl (k6, 1212, .inl (fun _ => 0))), (q7, .inl (k8, 1212, .inl (fun _ => 0)))] := hD
  refine W.widen (k := 12) (n := 5356) (by decide) (by decide) ?_
  exact W.vret hx hb hr (fun t ht hW => ⟨⟨(), rfl, trivial, trivial⟩, hS.F ht⟩) hS.2.2 d_Machine_init_70
