set_option maxHeartbeats 4000000 in
set_option maxRecDepth 100000 in
theorem c_Program_put (l : Launch) (dC : Nat → ClassId) (dI : Nat → Nat → Nat) (h0 p1 p2 p3 p4 p5 : Nat) (j1 j2 j3 : ClassId) (sz : Nat) : Met l y_Program_put (.code y_Program_put prog_4_method_3_code 4 none :: wC) ({ frames := 0, cells := 0, slots := 0, locals := 0 }) (va_Pc [.ref h0, .int 7, .int 0, .int 0] (fun U => U.heap.size = sz ∧ va_P (dC, dI) clP [(h0, .inr (3, [.ref p1, .ref p2, .ref p3, .ref p4, .ref p5, .int 0, .int 0])), (p1, .inl (j1, 121, .inl (fun _ => 0))), (p2, .inl (j2, 121, .inl (fun _ => 0))), (p3, .inl (j3, 121, .inl (fun _ => 0)))] U.heap ∧ va_K (dC, dI) clP [(j1, .int), (j2, .int), (j3, .int)] U ∧ va_D (fun _ => True) [(h0, .inr (3, [.ref p1, .ref p2, .ref p3, .ref p4, .ref p5, .int 0, .int 0])), (p1, .inl (j1, 121, .inl (fun _ => 0))), (p2, .inl (j2, 121, .inl (fun _ => 0))), (p3, .inl (j3, 121, .inl (fun _ => 0)))])) (va_Qv (fun _ : Unit => True) (fun (_ : Unit) (t : State) => va_P (dC, dI) clP [(h0, .inr (3, [.ref p1, .ref p2, .ref p3, .ref p4, .ref p5, .int 1, .int 0]))] t.heap ∧ va_K (dC, dI) clP [] t ∧ va_D (va_A [(h0, .inr (3, [.ref p1, .ref p2, .ref p3, .ref p4, .ref p5, .int 0, .int 0])), (p1, .inl (j1, 121, .inl (fun _ => 0))), (p2, .inl (j2, 121, .inl (fun _ => 0))), (p3, .inl (j3, 121, .inl (fun _ => 0)))] sz) [(h0, .inr (3, [.ref p1, .ref p2, .ref p3, .ref p4, .ref p5, .int 1, .int 0]))]) (va_A [(h0, .inr (3, [.ref p1, .ref p2, .ref p3, .ref p4, .ref p5, .int 0, .int 0])), (p1, .inl (j1, 121, .inl (fun _ => 0))), (p2, .inl (j2, 121, .inl (fun _ => 0))), (p3, .inl (j3, 121, .inl (fun _ => 0)))] sz)) 0 0 (va_A [(h0, .inr (3, [.ref p1, .ref p2, .ref p3, .ref p4, .ref p5, .int 0, .int 0])), (p1, .inl (j1, 121, .inl (fun _ => 0))), (p2, .inl (j2, 121, .inl (fun _ => 0))), (p3, .inl (j3, 121, .inl (fun _ => 0)))] sz) := by
  refine Met.ofW (cc := prog_4_method_3_code) (maxL := 4) (ret := none) (by decide) rfl ?_
  intro p e s m args below meth c s₁ B hml hv
  obtain ⟨rfl, hsz, hP, hK, hD0⟩ := hv
  have hx := B.exec
  have hb := B.bytes
  have hr := B.returns
  have htc := fun (w : Cond) (h : w ∈ wC) => atoms_spec (ws := (.code y_Program_put prog_4_method_3_code 4 none :: wC)) B.pre w (List.mem_cons_of_mem _ h)
  have hown : s.vm.findClass "PatternMachine$Program" = some m.cls := findClass_of_methodNamed B.named
  have hlocks := B.notSynchronized
  subst hsz
  have hD := hD0.self (sz := s.heap.size)
  generalize hAe : va_A [(h0, .inr (3, [.ref p1, .ref p2, .ref p3, .ref p4, .ref p5, .int 0, .int 0])), (p1, .inl (j1, 121, .inl (fun _ => 0))), (p2, .inl (j2, 121, .inl (fun _ => 0))), (p3, .inl (j3, 121, .inl (fun _ => 0)))] s.heap.size = A at hD ⊢
  have hA : ∀ q : Nat, s.heap.size ≤ q → A q := fun q h => by rw [← hAe]; exact Or.inr h
  have hS : va_S A s.heap s.heap [] := va_S.rf
  have hP : va_P (dC, dI) clP [(h0, .inr (3, [.ref p1, .ref p2, .ref p3, .ref p4, .ref p5, .int 0, .int 0])), (p1, .inl (j1, 121, .inl (fun _ => 0))), (p2, .inl (j2, 121, .inl (fun _ => 0))), (p3, .inl (j3, 121, .inl (fun _ => 0)))] s.heap := hP
  have hl := lv_entry ([.ref h0, .int 7, .int 0, .int 0]) (n := 4) (Nat.le_of_ble_eq_true rfl)
  rw [lg_entry_eq]
  generalize (lg_sl ([.ref h0, .int 7, .int 0, .int 0]) ++ List.replicate (4 - (lg_sl ([.ref h0, .int 7, .int 0, .int 0])).length) Slot.unset).toArray = ls at hl ⊢
  have hl : lv_has ls 4 [(0, .ref h0), (1, .int 7), (2, .int 0), (3, .int 0)] := hl
  refine lv_aload_n hx hb d_Program_put_0 rfl (lv_at hl 0 rfl) ?_
  refine va_get (D := (dC, dI)) (ci := 3) (v := .int 0) (C := "PatternMachine$Program") (T := T_Program) (N := 7) hx hb htc in_Program hown hK hP 0 rfl rfl 5 (by decide) (htc _ mw_122) (fun _ h9 => h9) rfl d_Program_put_1 ?_
  refine lv_bipush (v := 121) hx hb d_Program_put_4 (by decide) ?_
  refine lv_icmp_ge (tgt := 49) hx hb d_Program_put_6 rfl (fun h9 => absurd h9 (by decide)) (fun _ => ?_)
  refine lv_aload_n hx hb d_Program_put_9 rfl (lv_at hl 0 rfl) ?_
  refine va_get (D := (dC, dI)) (ci := 3) (v := .ref p1) (C := "PatternMachine$Program") (T := T_Program) (N := 7) hx hb htc in_Program hown hK hP 0 rfl rfl 0 (by decide) (htc _ mw_8) (fun _ h9 => h9) rfl d_Program_put_10 ?_
  refine lv_aload_n hx hb d_Program_put_13 rfl (lv_at hl 0 rfl) ?_
  refine va_get (D := (dC, dI)) (ci := 3) (v := .int 0) (C := "PatternMachine$Program") (T := T_Program) (N := 7) hx hb htc in_Program hown hK hP 0 rfl rfl 5 (by decide) (htc _ mw_122) (fun _ h9 => h9) rfl d_Program_put_14 ?_
  refine lv_iload_n hx hb d_Program_put_17 rfl (lv_at hl 1 rfl) ?_
  refine va_iast hx hb hK hP hD hS 1 0 rfl rfl (by unfold vp_in; decide) d_Program_put_18 (fun H locs hP hD hS => ?_)
  have hP : va_P (dC, dI) clP [(h0, .inr (3, [.ref p1, .ref p2, .ref p3, .ref p4, .ref p5, .int 0, .int 0])), (p1, .inl (j1, 121, .inl (upd (fun _ => 0) (0 : Int32).toNatClampNeg 7))), (p2, .inl (j2, 121, .inl (fun _ => 0))), (p3, .inl (j3, 121, .inl (fun _ => 0)))] H := hP
  have hD : va_D A [(h0, .inr (3, [.ref p1, .ref p2, .ref p3, .ref p4, .ref p5, .int 0, .int 0])), (p1, .inl (j1, 121, .inl (upd (fun _ => 0) (0 : Int32).toNatClampNeg 7))), (p2, .inl (j2, 121, .inl (fun _ => 0))), (p3, .inl (j3, 121, .inl (fun _ => 0)))] := hD
  refine lv_aload_n hx hb d_Program_put_19 rfl (lv_at hl 0 rfl) ?_
  refine va_get (D := (dC, dI)) (ci := 3) (v := .ref p2) (C := "PatternMachine$Program") (T := T_Program) (N := 7) hx hb htc in_Program hown hK hP 0 rfl rfl 1 (by decide) (htc _ mw_9) (fun _ h9 => h9) rfl d_Program_put_20 ?_
  refine lv_aload_n hx hb d_Program_put_23 rfl (lv_at hl 0 rfl) ?_
  refine va_get (D := (dC, dI)) (ci := 3) (v := .int 0) (C := "PatternMachine$Program") (T := T_Program) (N := 7) hx hb htc in_Program hown hK hP 0 rfl rfl 5 (by decide) (htc _ mw_122) (fun _ h9 => h9) rfl d_Program_put_24 ?_
  refine lv_iload_n hx hb d_Program_put_27 rfl (lv_at hl 2 rfl) ?_
  refine va_iast hx hb hK hP hD hS 2 1 rfl rfl (by unfold vp_in; decide) d_Program_put_28 (fun H locs hP hD hS => ?_)
  have hP : va_P (dC, dI) clP [(h0, .inr (3, [.ref p1, .ref p2, .ref p3, .ref p4, .ref p5, .int 0, .int 0])), (p1, .inl (j1, 121, .inl (upd (fun _ => 0) (0 : Int32).toNatClampNeg 7))), (p2, .inl (j2, 121, .inl (upd (fun _ => 0) (0 : Int32).toNatClampNeg 0))), (p3, .inl (j3, 121, .inl (fun _ => 0)))] H := hP
  have hD : va_D A [(h0, .inr (3, [.ref p1, .ref p2, .ref p3, .ref p4, .ref p5, .int 0, .int 0])), (p1, .inl (j1, 121, .inl (upd (fun _ => 0) (0 : Int32).toNatClampNeg 7))), (p2, .inl (j2, 121, .inl (upd (fun _ => 0) (0 : Int32).toNatClampNeg 0))), (p3, .inl (j3, 121, .inl (fun _ => 0)))] := hD
  refine lv_aload_n hx hb d_Program_put_29 rfl (lv_at hl 0 rfl) ?_
  refine va_get (D := (dC, dI)) (ci := 3) (v := .ref p3) (C := "PatternMachine$Program") (T := T_Program) (N := 7) hx hb htc in_Program hown hK hP 0 rfl rfl 2 (by decide) (htc _ mw_10) (fun _ h9 => h9) rfl d_Program_put_30 ?_
  refine lv_aload_n hx hb d_Program_put_33 rfl (lv_at hl 0 rfl) ?_
  refine va_get (D := (dC, dI)) (ci := 3) (v := .int 0) (C := "PatternMachine$Program") (T := T_Program) (N := 7) hx hb htc in_Program hown hK hP 0 rfl rfl 5 (by decide) (htc _ mw_122) (fun _ h9 => h9) rfl d_Program_put_34 ?_
  refine lv_iload_n hx hb d_Program_put_37 rfl (lv_at hl 3 rfl) ?_
  refine va_iast hx hb hK hP hD hS 3 2 rfl rfl (by unfold vp_in; decide) d_Program_put_38 (fun H locs hP hD hS => ?_)
  have hP : va_P (dC, dI) clP [(h0, .inr (3, [.ref p1, .ref p2, .ref p3, .ref p4, .ref p5, .int 0, .int 0])), (p1, .inl (j1, 121, .inl (upd (fun _ => 0) (0 : Int32).toNatClampNeg 7))), (p2, .inl (j2, 121, .inl (upd (fun _ => 0) (0 : Int32).toNatClampNeg 0))), (p3, .inl (j3, 121, .inl (upd (fun _ => 0) (0 : Int32).toNatClampNeg 0)))] H := hP
  have hD : va_D A [(h0, .inr (3, [.ref p1, .ref p2, .ref p3, .ref p4, .ref p5, .int 0, .int 0])), (p1, .inl (j1, 121, .inl (upd (fun _ => 0) (0 : Int32).toNatClampNeg 7))), (p2, .inl (j2, 121, .inl (upd (fun _ => 0) (0 : Int32).toNatClampNeg 0))), (p3, .inl (j3, 121, .inl (upd (fun _ => 0) (0 : Int32).toNatClampNeg 0)))] := hD
  refine lv_aload_n hx hb d_Program_put_39 rfl (lv_at hl 0 rfl) ?_
  refine lv_dup hx hb d_Program_put_40 rfl ?_
  refine va_get (D := (dC, dI)) (ci := 3) (v := .int 0) (C := "PatternMachine$Program") (T := T_Program) (N := 7) hx hb htc in_Program hown hK hP 0 rfl rfl 5 (by decide) (htc _ mw_122) (fun _ h9 => h9) rfl d_Program_put_41 ?_
  refine lv_iconst (v := 1) hx hb d_Program_put_44 (by decide) ?_
  refine lv_iadd hx hb d_Program_put_45 ?_
  refine lv_topi (fun z9 e9 => ?_)
  obtain rfl : z9 = 1 := e9.trans (by first | decide | rfl | simp [upd])
  refine va_put (D := (dC, dI)) (ci := 3) (v := .int 1) (ty := .int) (C := "PatternMachine$Program") (T := T_Program) (N := 7) hx hb htc in_Program t_Program t_Program_ok n_Program hown hK hP hD hS 0 rfl rfl 5 (by decide) (htc _ mw_122) (fun _ h9 => h9) rfl (by decide +kernel) rfl rfl (Nat.le_of_ble_eq_true rfl) d_Program_put_46 (fun H locs hP hD hS => ?_)
  have hP : va_P (dC, dI) clP [(h0, .inr (3, [.ref p1, .ref p2, .ref p3, .ref p4, .ref p5, .int 1, .int 0])), (p1, .inl (j1, 121, .inl (upd (fun _ => 0) (0 : Int32).toNatClampNeg 7))), (p2, .inl (j2, 121, .inl (upd (fun _ => 0) (0 : Int32).toNatClampNeg 0))), (p3, .inl (j3, 121, .inl (upd (fun _ => 0) (0 : Int32).toNatClampNeg 0)))] H := hP
  have hD : va_D A [(h0, .inr (3, [.ref p1, .ref p2, .ref p3, .ref p4, .ref p5, .int 1, .int 0])), (p1, .inl (j1, 121, .inl (upd (fun _ => 0) (0 : Int32).toNatClampNeg 7))), (p2, .inl (j2, 121, .inl (upd (fun _ => 0) (0 : Int32).toNatClampNeg 0))), (p3, .inl (j3, 121, .inl (upd (fun _ => 0) (0 : Int32).toNatClampNeg 0)))] := hD
  refine W.widen (k := 0) (n := 0) (by decide) (by decide) ?_
  have hP9 := hP.sub (ws' := [(h0, .inr (3, [.ref p1, .ref p2, .ref p3, .ref p4, .ref p5, .int 1, .int 0]))]) [0] rfl
  have hD9 := hD.sub (ws' := [(h0, .inr (3, [.ref p1, .ref p2, .ref p3, .ref p4, .ref p5, .int 1, .int 0]))]) [0] (by decide) rfl
  have hK9 := hK.sub (tys' := []) [] rfl
  exact W.vret hx hb hr (fun t ht hW => ⟨⟨(), rfl, trivial, by rw [ht]; exact hP9, va_K.moved hW.alike hK9, hD9⟩, hS.F ht⟩) hS.2.2 d_Program_put_49
set_option maxHeartbeats 4000000 in
set_option maxRecDepth 100000 in
theorem c_Program_writeParts (l : Launch) (dC : Nat → ClassId) (dI : Nat → Nat → Nat) (h0 h1 : Nat) (sz : Nat) : Met l y_Program_writeParts (.code y_Program_writeParts prog_4_method_6_code 5 none :: wC) ({ frames := 0, cells := 0, slots := 0, locals := 0 }) (va_Pc [.ref h0, .ref h1, .int 0, .int 2] (fun U => U.heap.size = sz ∧ va_P (dC, dI) clP [(h1, .inr (1, [.int 3, .null, .null, .null, .int 0, .int 0, .int 0, .int 0, .long 0, .long 0, .int 0]))] U.heap ∧ va_K (dC, dI) clP [] U ∧ va_D (fun _ => True) [(h1, .inr (1, [.int 3, .null, .null, .null, .int 0, .int 0, .int 0, .int 0, .long 0, .long 0, .int 0]))])) (va_Qv (fun _ : Unit => True) (fun (_ : Unit) (t : State) => va_P (dC, dI) clP [(h1, .inr (1, [.int 3, .null, .null, .null, .int 0, .int 0, .int 0, .int 0, .long 0, .long 0, .int 0]))] t.heap ∧ va_K (dC, dI) clP [] t ∧ va_D (va_A [(h1, .inr (1, [.int 3, .null, .null, .null, .int 0, .int 0, .int 0, .int 0, .long 0, .long 0, .int 0]))] sz) [(h1, .inr (1, [.int 3, .null, .null, .null, .int 0, .int 0, .int 0, .int 0, .long 0, .long 0, .int 0]))]) (va_A [(h1, .inr (1, [.int 3, .null, .null, .null, .int 0, .int 0, .int 0, .int 0, .long 0, .long 0, .int 0]))] sz)) 0 0 (va_A [(h1, .inr (1, [.int 3, .null, .null, .null, .int 0, .int 0, .int 0, .int 0, .long 0, .long 0, .int 0]))] sz) := by
  refine Met.ofW (cc := prog_4_method_6_code) (maxL := 5) (ret := none) (by decide) rfl ?_
  intro p e s m args below meth c s₁ B hml hv
  obtain ⟨rfl, hsz, hP, hK, hD0⟩ := hv
  have hx := B.exec
  have hb := B.bytes
  have hr := B.returns
  have htc := fun (w : Cond) (h : w ∈ wC) => atoms_spec (ws := (.code y_Program_writeParts prog_4_method_6_code 5 none :: wC)) B.pre w (List.mem_cons_of_mem _ h)
  have hown : s.vm.findClass "PatternMachine$Program" = some m.cls := findClass_of_methodNamed B.named
  have hlocks := B.notSynchronized
  subst hsz
  have hD := hD0.self (sz := s.heap.size)
  generalize hAe : va_A [(h1, .inr (1, [.int 3, .null, .null, .null, .int 0, .int 0, .int 0, .int 0, .long 0, .long 0, .int 0]))] s.heap.size = A at hD ⊢
  have hA : ∀ q : Nat, s.heap.size ≤ q → A q := fun q h => by rw [← hAe]; exact Or.inr h
  have hS : va_S A s.heap s.heap [] := va_S.rf
  have hP : va_P (dC, dI) clP [(h1, .inr (1, [.int 3, .null, .null, .null, .int 0, .int 0, .int 0, .int 0, .long 0, .long 0, .int 0]))] s.heap := hP
  have hl := lv_entry ([.ref h0, .ref h1, .int 0, .int 2]) (n := 5) (Nat.le_of_ble_eq_true rfl)
  rw [lg_entry_eq]
  generalize (lg_sl ([.ref h0, .ref h1, .int 0, .int 2]) ++ List.replicate (5 - (lg_sl ([.ref h0, .ref h1, .int 0, .int 2])).length) Slot.unset).toArray = ls at hl ⊢
  have hl : lv_has ls 5 [(0, .ref h0), (1, .ref h1), (2, .int 0), (3, .int 2)] := hl
  refine lv_aload_n hx hb d_Program_writeParts_0 rfl (lv_at hl 1 rfl) ?_
  refine va_get (D := (dC, dI)) (ci := 1) (v := .null) (C := "PatternMachine$Node") (T := T_Node) (N := 11) hx hb htc in_Node hown hK hP 0 rfl rfl 1 (by decide) (htc _ mw_123) (fun _ h9 => h9) rfl d_Program_writeParts_1 ?_
  refine lv_astoreN (lv' := [(4, .null), (0, .ref h0), (1, .ref h1), (2, .int 0), (3, .int 2)]) hx hb d_Program_writeParts_4 hl (by decide) rfl (fun ls hl => ?_)
  refine lv_aloadN hx hb d_Program_writeParts_6 (lv_at hl 0 rfl) ?_
  refine lv_ifnullN (tgt := 29) hx hb d_Program_writeParts_8 rfl ?_
  refine W.widen (k := 0) (n := 0) (by decide) (by decide) ?_
  have hP9 := hP.sub (ws' := [(h1, .inr (1, [.int 3, .null, .null, .null, .int 0, .int 0, .int 0, .int 0, .long 0, .long 0, .int 0]))]) [0] rfl
  have hD9 := hD.sub (ws' := [(h1, .inr (1, [.int 3, .null, .null, .null, .int 0, .int 0, .int 0, .int 0, .long 0, .long 0, .int 0]))]) [0] (by decide) rfl
  have hK9 := hK.sub (tys' := []) [] rfl
  exact W.vret hx hb hr (fun t ht hW => ⟨⟨(), rfl, trivial, by rw [ht]; exact hP9, va_K.moved hW.alike hK9, hD9⟩, hS.F ht⟩) hS.2.2 d_Program_writeParts_29
set_option maxHeartbeats 4000000 in
set_option maxRecDepth 100000 in
theorem c_Program_writeNode1 (l : Launch) (dC : Nat → ClassId) (dI : Nat → Nat → Nat) (h0 h1 p1 p2 p3 p4 p5 : Nat) (sz : Nat) : Met l y_Program_writeNode (.code y_Program_writeNode prog_4_method_4_code 4 none :: wC) ({ frames := 1, cells := 0, slots := 0, locals := 24 }) (va_Pc [.ref h0, .ref h1, .int 0, .int 1] (fun U => U.heap.size = sz ∧ va_P (dC, dI) clP [(h0, .inr (3, [.ref p1, .ref p2, .ref p3, .ref p4, .ref p5, .int 0, .int 0])), (h1, .inr (1, [.int 3, .null, .null, .null, .int 0, .int 0, .int 0, .int 0, .long 0, .long 0, .int 0]))] U.heap ∧ va_K (dC, dI) clP [] U ∧ va_D (fun _ => True) [(h0, .inr (3, [.ref p1, .ref p2, .ref p3, .ref p4, .ref p5, .int 0, .int 0])), (h1, .inr (1, [.int 3, .null, .null, .null, .int 0, .int 0, .int 0, .int 0, .long 0, .long 0, .int 0]))])) (va_Qv (fun _ : Unit => True) (fun (_ : Unit) (t : State) => va_P (dC, dI) clP [(h0, .inr (3, [.ref p1, .ref p2, .ref p3, .ref p4, .ref p5, .int 0, .int 0])), (h1, .inr (1, [.int 3, .null, .null, .null, .int 0, .int 0, .int 0, .int 0, .long 0, .long 0, .int 0]))] t.heap ∧ va_K (dC, dI) clP [] t ∧ va_D (va_A [(h0, .inr (3, [.ref p1, .ref p2, .ref p3, .ref p4, .ref p5, .int 0, .int 0])), (h1, .inr (1, [.int 3, .null, .null, .null, .int 0, .int 0, .int 0, .int 0, .long 0, .long 0, .int 0]))] sz) [(h0, .inr (3, [.ref p1, .ref p2, .ref p3, .ref p4, .ref p5, .int 0, .int 0])), (h1, .inr (1, [.int 3, .null, .null, .null, .int 0, .int 0, .int 0, .int 0, .long 0, .long 0, .int 0]))]) (va_A [(h0, .inr (3, [.ref p1, .ref p2, .ref p3, .ref p4, .ref p5, .int 0, .int 0])), (h1, .inr (1, [.int 3, .null, .null, .null, .int 0, .int 0, .int 0, .int 0, .long 0, .long 0, .int 0]))] sz)) 0 0 (va_A [(h0, .inr (3, [.ref p1, .ref p2, .ref p3, .ref p4, .ref p5, .int 0, .int 0])), (h1, .inr (1, [.int 3, .null, .null, .null, .int 0, .int 0, .int 0, .int 0, .long 0, .long 0, .int 0]))] sz) := by
  refine Met.ofW (cc := prog_4_method_4_code) (maxL := 4) (ret := none) (by decide) rfl ?_
  intro p e s m args below meth c s₁ B hml hv
  obtain ⟨rfl, hsz, hP, hK, hD0⟩ := hv
  have hx := B.exec
  have hb := B.bytes
  have hr := B.returns
  have htc := fun (w : Cond) (h : w ∈ wC) => atoms_spec (ws := (.code y_Program_writeNode prog_4_method_4_code 4 none :: wC)) B.pre w (List.mem_cons_of_mem _ h)
  have hown : s.vm.findClass "PatternMachine$Program" = some m.cls := findClass_of_methodNamed B.named
  have hlocks := B.notSynchronized
  subst hsz
  have hD := hD0.self (sz := s.heap.size)
  generalize hAe : va_A [(h0, .inr (3, [.ref p1, .ref p2, .ref p3, .ref p4, .ref p5, .int 0, .int 0])), (h1, .inr (1, [.int 3, .null, .null, .null, .int 0, .int 0, .int 0, .int 0, .long 0, .long 0, .int 0]))] s.heap.size = A at hD ⊢
  have hA : ∀ q : Nat, s.heap.size ≤ q → A q := fun q h => by rw [← hAe]; exact Or.inr h
  have hS : va_S A s.heap s.heap [] := va_S.rf
  have hP : va_P (dC, dI) clP [(h0, .inr (3, [.ref p1, .ref p2, .ref p3, .ref p4, .ref p5, .int 0, .int 0])), (h1, .inr (1, [.int 3, .null, .null, .null, .int 0, .int 0, .int 0, .int 0, .long 0, .long 0, .int 0]))] s.heap := hP
  have hl := lv_entry ([.ref h0, .ref h1, .int 0, .int 1]) (n := 4) (Nat.le_of_ble_eq_true rfl)
  rw [lg_entry_eq]
  generalize (lg_sl ([.ref h0, .ref h1, .int 0, .int 1]) ++ List.replicate (4 - (lg_sl ([.ref h0, .ref h1, .int 0, .int 1])).length) Slot.unset).toArray = ls at hl ⊢
  have hl : lv_has ls 4 [(0, .ref h0), (1, .ref h1), (2, .int 0), (3, .int 1)] := hl
  refine lv_aload_n hx hb d_Program_writeNode_0 rfl (lv_at hl 1 rfl) ?_
  refine lv_ifnull hx hb d_Program_writeNode_1 ?_
  refine lv_iload_n hx hb d_Program_writeNode_4 rfl (lv_at hl 3 rfl) ?_
  refine lv_bipush (v := 40) hx hb d_Program_writeNode_5 (by decide) ?_
  refine lv_icmp_le (tgt := 11) hx hb d_Program_writeNode_7 rfl (fun _ => ?_) (fun h9 => absurd (by decide) h9)
  refine lv_aload_n hx hb d_Program_writeNode_11 rfl (lv_at hl 1 rfl) ?_
  refine va_get (D := (dC, dI)) (ci := 1) (v := .int 3) (C := "PatternMachine$Node") (T := T_Node) (N := 11) hx hb htc in_Node hown hK hP 1 rfl rfl 0 (by decide) (htc _ mw_124) (fun _ h9 => h9) rfl d_Program_writeNode_12 ?_
  refine lv_tableIn (tgt := 139) hx hb d_Program_writeNode_15 (by decide) (by decide) rfl rfl ?_
  refine lv_aload_n hx hb d_Program_writeNode_139 rfl (lv_at hl 0 rfl) ?_
  refine lv_aload_n hx hb d_Program_writeNode_140 rfl (lv_at hl 1 rfl) ?_
  refine lv_iload_n hx hb d_Program_writeNode_141 rfl (lv_at hl 2 rfl) ?_
  refine lv_iload_n hx hb d_Program_writeNode_142 rfl (lv_at hl 3 rfl) ?_
  refine lv_iconst (v := 1) hx hb d_Program_writeNode_143 (by decide) ?_
  refine lv_iadd hx hb d_Program_writeNode_144 ?_
  refine lv_topi (fun z9 e9 => ?_)
  obtain rfl : z9 = 2 := e9.trans (by first | decide | rfl | simp [upd])
  have hPc := hP.sub (ws' := [(h1, .inr (1, [.int 3, .null, .null, .null, .int 0, .int 0, .int 0, .int 0, .long 0, .long 0, .int 0]))]) [1] rfl
  have hDc := hD.sub (ws' := [(h1, .inr (1, [.int 3, .null, .null, .null, .int 0, .int 0, .int 0, .int 0, .long 0, .long 0, .int 0]))]) [1] (by decide) rfl
  have hKc := hK.sub (tys' := []) [] rfl
  have hFc := va_free (wc := [(h1, .inr (1, [.int 3, .null, .null, .null, .int 0, .int 0, .int 0, .int 0, .long 0, .long 0, .int 0]))]) hD hS hA [1] rfl
  refine va_callv (va_runV (As := [.ref h1, .int 0, .int 2]) (rest := []) ⟨hx, hb, hml, hown, htc⟩ (c_Program_writeParts l dC dI h0 h1 s.heap.size) (cwV 3 htc (gV mw_126 mw_127 mw_128 mw_60 mw_125) rfl rfl rfl (by decide +kernel) ⟨Nat.le_of_ble_eq_true rfl, Nat.le_of_ble_eq_true rfl⟩) ⟨fun a U g mk q => by obtain ⟨q0, q1, qP, qK, qD⟩ := q; exact ⟨q0, q1, qP, va_K.moved (u := U) (U := U.calling g mk a) (Vm.Alike.refl U.vm) qK, qD⟩, va_recv hK hP (ci := 3) rfl (q0 := 0) rfl, fun U hU hW => ⟨rfl, by rw [hU], by rw [hU]; exact hPc, va_K.moved hW.alike hKc, hDc.weaken (fun _ _ _ _ => trivial)⟩⟩ rfl rfl hl.1 rfl (lv_room (Nat.le_of_ble_eq_true rfl)) d_Program_writeNode_145 ⟨Nat.le_of_ble_eq_true rfl, Nat.le_of_ble_eq_true rfl⟩) hS (fun q _ h => hFc q h) hFc (fun u t H locs ht hvm hw hB hz1 hk1 hS => ?_)
  refine W.cs (cells' := 0) (slots' := 0) rfl rfl ?_
  obtain ⟨hP1, hK1, hD1⟩ := hB
  rw [ht] at hP1
  have hK1 := va_K.moved hvm.symm hK1
  obtain ⟨hP, hD⟩ := va_join (wr := [(h0, .inr (3, [.ref p1, .ref p2, .ref p3, .ref p4, .ref p5, .int 0, .int 0]))]) (w1 := [(h1, .inr (1, [.int 3, .null, .null, .null, .int 0, .int 0, .int 0, .int 0, .long 0, .long 0, .int 0]))]) hP hD [1] [0] rfl rfl (by decide) (by decide) hk1 hFc hP1 hD1
  have hK := (hK.sub (tys' := []) [] rfl).app hK1
  have hP : va_P (dC, dI) clP [(h0, .inr (3, [.ref p1, .ref p2, .ref p3, .ref p4, .ref p5, .int 0, .int 0])), (h1, .inr (1, [.int 3, .null, .null, .null, .int 0, .int 0, .int 0, .int 0, .long 0, .long 0, .int 0]))] H := hP
  have hD : va_D A [(h0, .inr (3, [.ref p1, .ref p2, .ref p3, .ref p4, .ref p5, .int 0, .int 0])), (h1, .inr (1, [.int 3, .null, .null, .null, .int 0, .int 0, .int 0, .int 0, .long 0, .long 0, .int 0]))] := hD
  have hK : va_K (dC, dI) clP [] s := hK
  refine W.widen (k := 0) (n := 0) (by decide) (by decide) ?_
  have hP9 := hP.sub (ws' := [(h0, .inr (3, [.ref p1, .ref p2, .ref p3, .ref p4, .ref p5, .int 0, .int 0])), (h1, .inr (1, [.int 3, .null, .null, .null, .int 0, .int 0, .int 0, .int 0, .long 0, .long 0, .int 0]))]) [0, 1] rfl
  have hD9 := hD.sub (ws' := [(h0, .inr (3, [.ref p1, .ref p2, .ref p3, .ref p4, .ref p5, .int 0, .int 0])), (h1, .inr (1, [.int 3, .null, .null, .null, .int 0, .int 0, .int 0, .int 0, .long 0, .long 0, .int 0]))]) [0, 1] (by decide) rfl
  have hK9 := hK.sub (tys' := []) [] rfl
  exact W.vret hx hb hr (fun t ht hW => ⟨⟨(), rfl, trivial, by rw [ht]; exact hP9, va_K.moved hW.alike hK9, hD9⟩, hS.F ht⟩) hS.2.2 d_Program_writeNode_148
set_option maxHeartbeats 4000000 in
set_option maxRecDepth 100000 in
theorem c_Program_writeChains (l : Launch) (dC : Nat → ClassId) (dI : Nat → Nat → Nat) (h0 h1 p1 p2 p3 p4 p5 h2 : Nat) (sz : Nat) : Met l y_Program_writeChains (.code y_Program_writeChains prog_4_method_7_code 6 none :: wC) ({ frames := 2, cells := 0, slots := 0, locals := 47 }) (va_Pc [.ref h0, .ref h1, .int 0, .int 1] (fun U => U.heap.size = sz ∧ va_P (dC, dI) clP [(h0, .inr (3, [.ref p1, .ref p2, .ref p3, .ref p4, .ref p5, .int 0, .int 0])), (h1, .inr (1, [.int 2, .ref h2, .ref h2, .null, .int 0, .int 0, .int 0, .int 0, .long 0, .long 0, .int 0])), (h2, .inr (1, [.int 3, .null, .null, .null, .int 0, .int 0, .int 0, .int 0, .long 0, .long 0, .int 0]))] U.heap ∧ va_K (dC, dI) clP [] U ∧ va_D (fun _ => True) [(h0, .inr (3, [.ref p1, .ref p2, .ref p3, .ref p4, .ref p5, .int 0, .int 0])), (h1, .inr (1, [.int 2, .ref h2, .ref h2, .null, .int 0, .int 0, .int 0, .int 0, .long 0, .long 0, .int 0])), (h2, .inr (1, [.int 3, .null, .null, .null, .int 0, .int 0, .int 0, .int 0, .long 0, .long 0, .int 0]))])) (va_Qv (fun _ : Unit => True) (fun (_ : Unit) (t : State) => va_P (dC, dI) clP [(h0, .inr (3, [.ref p1, .ref p2, .ref p3, .ref p4, .ref p5, .int 0, .int 0])), (h1, .inr (1, [.int 2, .ref h2, .ref h2, .null, .int 0, .int 0, .int 0, .int 0, .long 0, .long 0, .int 0])), (h2, .inr (1, [.int 3, .null, .null, .null, .int 0, .int 0, .int 0, .int 0, .long 0, .long 0, .int 0]))] t.heap ∧ va_K (dC, dI) clP [] t ∧ va_D (va_A [(h0, .inr (3, [.ref p1, .ref p2, .ref p3, .ref p4, .ref p5, .int 0, .int 0])), (h1, .inr (1, [.int 2, .ref h2, .ref h2, .null, .int 0, .int 0, .int 0, .int 0, .long 0, .long 0, .int 0])), (h2, .inr (1, [.int 3, .null, .null, .null, .int 0, .int 0, .int 0, .int 0, .long 0, .long 0, .int 0]))] sz) [(h0, .inr (3, [.ref p1, .ref p2, .ref p3, .ref p4, .ref p5, .int 0, .int 0])), (h1, .inr (1, [.int 2, .ref h2, .ref h2, .null, .int 0, .int 0, .int 0, .int 0, .long 0, .long 0, .int 0])), (h2, .inr (1, [.int 3, .null, .null, .null, .int 0, .int 0, .int 0, .int 0, .long 0, .long 0, .int 0]))]) (va_A [(h0, .inr (3, [.ref p1, .ref p2, .ref p3, .ref p4, .ref p5, .int 0, .int 0])), (h1, .inr (1, [.int 2, .ref h2, .ref h2, .null, .int 0, .int 0, .int 0, .int 0, .long 0, .long 0, .int 0])), (h2, .inr (1, [.int 3, .null, .null, .null, .int 0, .int 0, .int 0, .int 0, .long 0, .long 0, .int 0]))] sz)) 0 0 (va_A [(h0, .inr (3, [.ref p1, .ref p2, .ref p3, .ref p4, .ref p5, .int 0, .int 0])), (h1, .inr (1, [.int 2, .ref h2, .ref h2, .null, .int 0, .int 0, .int 0, .int 0, .long 0, .long 0, .int 0])), (h2, .inr (1, [.int 3, .null, .null, .null, .int 0, .int 0, .int 0, .int 0, .long 0, .long 0, .int 0]))] sz) := by
  refine Met.ofW (cc := prog_4_method_7_code) (maxL := 6) (ret := none) (by decide) rfl ?_
  intro p e s m args below meth c s₁ B hml hv
  obtain ⟨rfl, hsz, hP, hK, hD0⟩ := hv
  have hx := B.exec
  have hb := B.bytes
  have hr := B.returns
  have htc := fun (w : Cond) (h : w ∈ wC) => atoms_spec (ws := (.code y_Program_writeChains prog_4_method_7_code 6 none :: wC)) B.pre w (List.mem_cons_of_mem _ h)
  have hown : s.vm.findClass "PatternMachine$Program" = some m.cls := findClass_of_methodNamed B.named
  have hlocks := B.notSynchronized
  subst hsz
  have hD := hD0.self (sz := s.heap.size)
  generalize hAe : va_A [(h0, .inr (3, [.ref p1, .ref p2, .ref p3, .ref p4, .ref p5, .int 0, .int 0])), (h1, .inr (1, [.int 2, .ref h2, .ref h2, .null, .int 0, .int 0, .int 0, .int 0, .long 0, .long 0, .int 0])), (h2, .inr (1, [.int 3, .null, .null, .null, .int 0, .int 0, .int 0, .int 0, .long 0, .long 0, .int 0]))] s.heap.size = A at hD ⊢
  have hA : ∀ q : Nat, s.heap.size ≤ q → A q := fun q h => by rw [← hAe]; exact Or.inr h
  have hS : va_S A s.heap s.heap [] := va_S.rf
  have hP : va_P (dC, dI) clP [(h0, .inr (3, [.ref p1, .ref p2, .ref p3, .ref p4, .ref p5, .int 0, .int 0])), (h1, .inr (1, [.int 2, .ref h2, .ref h2, .null, .int 0, .int 0, .int 0, .int 0, .long 0, .long 0, .int 0])), (h2, .inr (1, [.int 3, .null, .null, .null, .int 0, .int 0, .int 0, .int 0, .long 0, .long 0, .int 0]))] s.heap := hP
  have hl := lv_entry ([.ref h0, .ref h1, .int 0, .int 1]) (n := 6) (Nat.le_of_ble_eq_true rfl)
  rw [lg_entry_eq]
  generalize (lg_sl ([.ref h0, .ref h1, .int 0, .int 1]) ++ List.replicate (6 - (lg_sl ([.ref h0, .ref h1, .int 0, .int 1])).length) Slot.unset).toArray = ls at hl ⊢
  have hl : lv_has ls 6 [(0, .ref h0), (1, .ref h1), (2, .int 0), (3, .int 1)] := hl
  refine lv_aload_n hx hb d_Program_writeChains_0 rfl (lv_at hl 0 rfl) ?_
  refine va_get (D := (dC, dI)) (ci := 3) (v := .int 0) (C := "PatternMachine$Program") (T := T_Program) (N := 7) hx hb htc in_Program hown hK hP 0 rfl rfl 5 (by decide) (htc _ mw_122) (fun _ h9 => h9) rfl d_Program_writeChains_1 ?_
  refine lv_aload_n hx hb d_Program_writeChains_4 rfl (lv_at hl 1 rfl) ?_
  refine va_get (D := (dC, dI)) (ci := 1) (v := .int 0) (C := "PatternMachine$Node") (T := T_Node) (N := 11) hx hb htc in_Node hown hK hP 1 rfl rfl 10 (by decide) (htc _ mw_129) (fun _ h9 => h9) rfl d_Program_writeChains_5 ?_
  refine lv_iadd hx hb d_Program_writeChains_8 ?_
  refine lv_topi (fun z9 e9 => ?_)
  obtain rfl : z9 = 0 := e9.trans (by first | decide | rfl | simp [upd])
  refine lv_istore (lv' := [(4, .int 0), (0, .ref h0), (1, .ref h1), (2, .int 0), (3, .int 1)]) hx hb d_Program_writeChains_9 hl (by decide) rfl (fun ls hl => ?_)
  refine lv_aload_n hx hb d_Program_writeChains_11 rfl (lv_at hl 2 rfl) ?_
  refine va_get (D := (dC, dI)) (ci := 1) (v := .ref h2) (C := "PatternMachine$Node") (T := T_Node) (N := 11) hx hb htc in_Node hown hK hP 1 rfl rfl 1 (by decide) (htc _ mw_123) (fun _ h9 => h9) rfl d_Program_writeChains_12 ?_
  refine lv_astore (lv' := [(5, .ref h2), (4, .int 0), (0, .ref h0), (1, .ref h1), (2, .int 0), (3, .int 1)]) hx hb d_Program_writeChains_15 hl (by decide) rfl (fun ls hl => ?_)
  refine lv_aload hx hb d_Program_writeChains_17 (lv_at hl 0 rfl) ?_
  refine lv_ifnull hx hb d_Program_writeChains_19 ?_
  refine lv_aload hx hb d_Program_writeChains_22 (lv_at hl 0 rfl) ?_
  refine va_get (D := (dC, dI)) (ci := 1) (v := .null) (C := "PatternMachine$Node") (T := T_Node) (N := 11) hx hb htc in_Node hown hK hP 2 rfl rfl 3 (by decide) (htc _ mw_130) (fun _ h9 => h9) rfl d_Program_writeChains_24 ?_
  refine lv_ifnonnullN hx hb d_Program_writeChains_27 ?_
  refine lv_aload_n hx hb d_Program_writeChains_30 rfl (lv_at hl 2 rfl) ?_
  refine lv_aload hx hb d_Program_writeChains_31 (lv_at hl 0 rfl) ?_
  refine lv_iload_n hx hb d_Program_writeChains_33 rfl (lv_at hl 4 rfl) ?_
  refine lv_iload_n hx hb d_Program_writeChains_34 rfl (lv_at hl 5 rfl) ?_
  have hPc := hP.sub (ws' := [(h0, .inr (3, [.ref p1, .ref p2, .ref p3, .ref p4, .ref p5, .int 0, .int 0])), (h2, .inr (1, [.int 3, .null, .null, .null, .int 0, .int 0, .int 0, .int 0, .long 0, .long 0, .int 0]))]) [0, 2] rfl
  have hDc := hD.sub (ws' := [(h0, .inr (3, [.ref p1, .ref p2, .ref p3, .ref p4, .ref p5, .int 0, .int 0])), (h2, .inr (1, [.int 3, .null, .null, .null, .int 0, .int 0, .int 0, .int 0, .long 0, .long 0, .int 0]))]) [0, 2] (by decide) rfl
  have hKc := hK.sub (tys' := []) [] rfl
  have hFc := va_free (wc := [(h0, .inr (3, [.ref p1, .ref p2, .ref p3, .ref p4, .ref p5, .int 0, .int 0])), (h2, .inr (1, [.int 3, .null, .null, .null, .int 0, .int 0, .int 0, .int 0, .long 0, .long 0, .int 0]))]) hD hS hA [0, 2] rfl
  refine va_callv (va_runV (As := [.ref h2, .int 0, .int 1]) (rest := []) ⟨hx, hb, hml, hown, htc⟩ (c_Program_writeNode1 l dC dI h0 h2 p1 p2 p3 p4 p5 s.heap.size) (cwV 3 htc (gV mw_132 mw_133 mw_134 mw_60 mw_131) rfl rfl rfl (by decide +kernel) ⟨Nat.le_of_ble_eq_true rfl, Nat.le_of_ble_eq_true rfl⟩) ⟨fun a U g mk q => by obtain ⟨q0, q1, qP, qK, qD⟩ := q; exact ⟨q0, q1, qP, va_K.moved (u := U) (U := U.calling g mk a) (Vm.Alike.refl U.vm) qK, qD⟩, va_recv hK hP (ci := 3) rfl (q0 := 0) rfl, fun U hU hW => ⟨rfl, by rw [hU], by rw [hU]; exact hPc, va_K.moved hW.alike hKc, hDc.weaken (fun _ _ _ _ => trivial)⟩⟩ rfl rfl hl.1 rfl (lv_room (Nat.le_of_ble_eq_true rfl)) d_Program_writeChains_35 ⟨Nat.le_of_ble_eq_true rfl, Nat.le_of_ble_eq_true rfl⟩) hS (fun q _ h => hFc q h) hFc (fun u t H locs ht hvm hw hB hz1 hk1 hS => ?_)
  refine W.cs (cells' := 0) (slots' := 0) rfl rfl ?_
  obtain ⟨hP1, hK1, hD1⟩ := hB
  rw [ht] at hP1
  have hK1 := va_K.moved hvm.symm hK1
  obtain ⟨hP, hD⟩ := va_join (wr := [(h1, .inr (1, [.int 2, .ref h2, .ref h2, .null, .int 0, .int 0, .int 0, .int 0, .long 0, .long 0, .int 0]))]) (w1 := [(h0, .inr (3, [.ref p1, .ref p2, .ref p3, .ref p4, .ref p5, .int 0, .int 0])), (h2, .inr (1, [.int 3, .null, .null, .null, .int 0, .int 0, .int 0, .int 0, .long 0, .long 0, .int 0]))]) hP hD [0, 2] [1] rfl rfl (by decide) (by decide) hk1 hFc hP1 hD1
  have hK := (hK.sub (tys' := []) [] rfl).app hK1
  have hP : va_P (dC, dI) clP [(h1, .inr (1, [.int 2, .ref h2, .ref h2, .null, .int 0, .int 0, .int 0, .int 0, .long 0, .long 0, .int 0])), (h0, .inr (3, [.ref p1, .ref p2, .ref p3, .ref p4, .ref p5, .int 0, .int 0])), (h2, .inr (1, [.int 3, .null, .null, .null, .int 0, .int 0, .int 0, .int 0, .long 0, .long 0, .int 0]))] H := hP
  have hD : va_D A [(h1, .inr (1, [.int 2, .ref h2, .ref h2, .null, .int 0, .int 0, .int 0, .int 0, .long 0, .long 0, .int 0])), (h0, .inr (3, [.ref p1, .ref p2, .ref p3, .ref p4, .ref p5, .int 0, .int 0])), (h2, .inr (1, [.int 3, .null, .null, .null, .int 0, .int 0, .int 0, .int 0, .long 0, .long 0, .int 0]))] := hD
  have hK : va_K (dC, dI) clP [] s := hK
  refine lv_goto (tgt := 75) hx hb d_Program_writeChains_38 rfl ?_
  refine lv_aload hx hb d_Program_writeChains_75 (lv_at hl 0 rfl) ?_
  refine va_get (D := (dC, dI)) (ci := 1) (v := .null) (C := "PatternMachine$Node") (T := T_Node) (N := 11) hx hb htc in_Node hown hK hP 2 rfl rfl 3 (by decide) (htc _ mw_130) (fun _ h9 => h9) rfl d_Program_writeChains_77 ?_
  refine lv_astoreN (lv' := [(5, .null), (4, .int 0), (0, .ref h0), (1, .ref h1), (2, .int 0), (3, .int 1)]) hx hb d_Program_writeChains_80 hl (by decide) rfl (fun ls hl => ?_)
  refine lv_goto (tgt := 17) hx hb d_Program_writeChains_82 rfl ?_
  refine lv_aloadN hx hb d_Program_writeChains_17 (lv_at hl 0 rfl) ?_
  refine lv_ifnullN (tgt := 85) hx hb d_Program_writeChains_19 rfl ?_
  refine W.widen (k := 0) (n := 0) (by decide) (by decide) ?_
  have hP9 := hP.sub (ws' := [(h0, .inr (3, [.ref p1, .ref p2, .ref p3, .ref p4, .ref p5, .int 0, .int 0])), (h1, .inr (1, [.int 2, .ref h2, .ref h2, .null, .int 0, .int 0, .int 0, .int 0, .long 0, .long 0, .int 0])), (h2, .inr (1, [.int 3, .null, .null, .null, .int 0, .int 0, .int 0, .int 0, .long 0, .long 0, .int 0]))]) [1, 0, 2] rfl
  have hD9 := hD.sub (ws' := [(h0, .inr (3, [.ref p1, .ref p2, .ref p3, .ref p4, .ref p5, .int 0, .int 0])), (h1, .inr (1, [.int 2, .ref h2, .ref h2, .null, .int 0, .int 0, .int 0, .int 0, .long 0, .long 0, .int 0])), (h2, .inr (1, [.int 3, .null, .null, .null, .int 0, .int 0, .int 0, .int 0, .long 0, .long 0, .int 0]))]) [1, 0, 2] (by decide) rfl
  have hK9 := hK.sub (tys' := []) [] rfl
  exact W.vret hx hb hr (fun t ht hW => ⟨⟨(), rfl, trivial, by rw [ht]; exact hP9, va_K.moved hW.alike hK9, hD9⟩, hS.F ht⟩) hS.2.2 d_Program_writeChains_85
set_option maxHeartbeats 4000000 in
set_option maxRecDepth 100000 in
theorem c_Program_writeNode0 (l : Launch) (dC : Nat → ClassId) (dI : Nat → Nat → Nat) (h0 h1 p1 p2 p3 p4 p5 h2 : Nat) (sz : Nat) : Met l y_Program_writeNode (.code y_Program_writeNode prog_4_method_4_code 4 none :: wC) ({ frames := 3, cells := 0, slots := 0, locals := 72 }) (va_Pc [.ref h0, .ref h1, .int 0, .int 0] (fun U => U.heap.size = sz ∧ va_P (dC, dI) clP [(h0, .inr (3, [.ref p1, .ref p2, .ref p3, .ref p4, .ref p5, .int 0, .int 0])), (h1, .inr (1, [.int 2, .ref h2, .ref h2, .null, .int 0, .int 0, .int 0, .int 0, .long 0, .long 0, .int 0])), (h2, .inr (1, [.int 3, .null, .null, .null, .int 0, .int 0, .int 0, .int 0, .long 0, .long 0, .int 0]))] U.heap ∧ va_K (dC, dI) clP [] U ∧ va_D (fun _ => True) [(h0, .inr (3, [.ref p1, .ref p2, .ref p3, .ref p4, .ref p5, .int 0, .int 0])), (h1, .inr (1, [.int 2, .ref h2, .ref h2, .null, .int 0, .int 0, .int 0, .int 0, .long 0, .long 0, .int 0])), (h2, .inr (1, [.int 3, .null, .null, .null, .int 0, .int 0, .int 0, .int 0, .long 0, .long 0, .int 0]))])) (va_Qv (fun _ : Unit => True) (fun (_ : Unit) (t : State) => va_P (dC, dI) clP [(h0, .inr (3, [.ref p1, .ref p2, .ref p3, .ref p4, .ref p5, .int 0, .int 0])), (h1, .inr (1, [.int 2, .ref h2, .ref h2, .null, .int 0, .int 0, .int 0, .int 0, .long 0, .long 0, .int 0])), (h2, .inr (1, [.int 3, .null, .null, .null, .int 0, .int 0, .int 0, .int 0, .long 0, .long 0, .int 0]))] t.heap ∧ va_K (dC, dI) clP [] t ∧ va_D (va_A [(h0, .inr (3, [.ref p1, .ref p2, .ref p3, .ref p4, .ref p5, .int 0, .int 0])), (h1, .inr (1, [.int 2, .ref h2, .ref h2, .null, .int 0, .int 0, .int 0, .int 0, .long 0, .long 0, .int 0])), (h2, .inr (1, [.int 3, .null, .null, .null, .int 0, .int 0, .int 0, .int 0, .long 0, .long 0, .int 0]))] sz) [(h0, .inr (3, [.ref p1, .ref p2, .ref p3, .ref p4, .ref p5, .int 0, .int 0])), (h1, .inr (1, [.int 2, .ref h2, .ref h2, .null, .int 0, .int 0, .int 0, .int 0, .long 0, .long 0, .int 0])), (h2, .inr (1, [.int 3, .null, .null, .null, .int 0, .int 0, .int 0, .int 0, .long 0, .long 0, .int 0]))]) (va_A [(h0, .inr (3, [.ref p1, .ref p2, .ref p3, .ref p4, .ref p5, .int 0, .int 0])), (h1, .inr (1, [.int 2, .ref h2, .ref h2, .null, .int 0, .int 0, .int 0, .int 0, .long 0, .long 0, .int 0])), (h2, .inr (1, [.int 3, .null, .null, .null, .int 0, .int 0, .int 0, .int 0, .long 0, .long 0, .int 0]))] sz)) 0 0 (va_A [(h0, .inr (3, [.ref p1, .ref p2, .ref p3, .ref p4, .ref p5, .int 0, .int 0])), (h1, .inr (1, [.int 2, .ref h2, .ref h2, .null, .int 0, .int 0, .int 0, .int 0, .long 0, .long 0, .int 0])), (h2, .inr (1, [.int 3, .null, .null, .null, .int 0, .int 0, .int 0, .int 0, .long 0, .long 0, .int 0]))] sz) := by
  refine Met.ofW (cc := prog_4_method_4_code) (maxL := 4) (ret := none) (by decide) rfl ?_
  intro p e s m args below meth c s₁ B hml hv
  obtain ⟨rfl, hsz, hP, hK, hD0⟩ := hv
  have hx := B.exec
  have hb := B.bytes
  have hr := B.returns
  have htc := fun (w : Cond) (h : w ∈ wC) => atoms_spec (ws := (.code y_Program_writeNode prog_4_method_4_code 4 none :: wC)) B.pre w (List.mem_cons_of_mem _ h)
  have hown : s.vm.findClass "PatternMachine$Program" = some m.cls := findClass_of_methodNamed B.named
  have hlocks := B.notSynchronized
  subst hsz
  have hD := hD0.self (sz := s.heap.size)
  generalize hAe : va_A [(h0, .inr (3, [.ref p1, .ref p2, .ref p3, .ref p4, .ref p5, .int 0, .int 0])), (h1, .inr (1, [.int 2, .ref h2, .ref h2, .null, .int 0, .int 0, .int 0, .int 0, .long 0, .long 0, .int 0])), (h2, .inr (1, [.int 3, .null, .null, .null, .int 0, .int 0, .int 0, .int 0, .long 0, .long 0, .int 0]))] s.heap.size = A at hD ⊢
  have hA : ∀ q : Nat, s.heap.size ≤ q → A q := fun q h => by rw [← hAe]; exact Or.inr h
  have hS : va_S A s.heap s.heap [] := va_S.rf
  have hP : va_P (dC, dI) clP [(h0, .inr (3, [.ref p1, .ref p2, .ref p3, .ref p4, .ref p5, .int 0, .int 0])), (h1, .inr (1, [.int 2, .ref h2, .ref h2, .null, .int 0, .int 0, .int 0, .int 0, .long 0, .long 0, .int 0])), (h2, .inr (1, [.int 3, .null, .null, .null, .int 0, .int 0, .int 0, .int 0, .long 0, .long 0, .int 0]))] s.heap := hP
  have hl := lv_entry ([.ref h0, .ref h1, .int 0, .int 0]) (n := 4) (Nat.le_of_ble_eq_true rfl)
  rw [lg_entry_eq]
  generalize (lg_sl ([.ref h0, .ref h1, .int 0, .int 0]) ++ List.replicate (4 - (lg_sl ([.ref h0, .ref h1, .int 0, .int 0])).length) Slot.unset).toArray = ls at hl ⊢
  have hl : lv_has ls 4 [(0, .ref h0), (1, .ref h1), (2, .int 0), (3, .int 0)] := hl
  refine lv_aload_n hx hb d_Program_writeNode_0 rfl (lv_at hl 1 rfl) ?_
  refine lv_ifnull hx hb d_Program_writeNode_1 ?_
  refine lv_iload_n hx hb d_Program_writeNode_4 rfl (lv_at hl 3 rfl) ?_
  refine lv_bipush (v := 40) hx hb d_Program_writeNode_5 (by decide) ?_
  refine lv_icmp_le (tgt := 11) hx hb d_Program_writeNode_7 rfl (fun _ => ?_) (fun h9 => absurd (by decide) h9)
  refine lv_aload_n hx hb d_Program_writeNode_11 rfl (lv_at hl 1 rfl) ?_
  refine va_get (D := (dC, dI)) (ci := 1) (v := .int 2) (C := "PatternMachine$Node") (T := T_Node) (N := 11) hx hb htc in_Node hown hK hP 1 rfl rfl 0 (by decide) (htc _ mw_124) (fun _ h9 => h9) rfl d_Program_writeNode_12 ?_
  refine lv_tableIn (tgt := 74) hx hb d_Program_writeNode_15 (by decide) (by decide) rfl rfl ?_
  refine lv_aload_n hx hb d_Program_writeNode_74 rfl (lv_at hl 0 rfl) ?_
  refine lv_aload_n hx hb d_Program_writeNode_75 rfl (lv_at hl 1 rfl) ?_
  refine lv_iload_n hx hb d_Program_writeNode_76 rfl (lv_at hl 2 rfl) ?_
  refine lv_iload_n hx hb d_Program_writeNode_77 rfl (lv_at hl 3 rfl) ?_
  refine lv_iconst (v := 1) hx hb d_Program_writeNode_78 (by decide) ?_
  refine lv_iadd hx hb d_Program_writeNode_79 ?_
  refine lv_topi (fun z9 e9 => ?_)
  obtain rfl : z9 = 1 := e9.trans (by first | decide | rfl | simp [upd])
  have hPc := hP.sub (ws' := [(h0, .inr (3, [.ref p1, .ref p2, .ref p3, .ref p4, .ref p5, .int 0, .int 0])), (h1, .inr (1, [.int 2, .ref h2, .ref h2, .null, .int 0, .int 0, .int 0, .int 0, .long 0, .long 0, .int 0])), (h2, .inr (1, [.int 3, .null, .null, .null, .int 0, .int 0, .int 0, .int 0, .long 0, .long 0, .int 0]))]) [0, 1, 2] rfl
  have hDc := hD.sub (ws' := [(h0, .inr (3, [.ref p1, .ref p2, .ref p3, .ref p4, .ref p5, .int 0, .int 0])), (h1, .inr (1, [.int 2, .ref h2, .ref h2, .null, .int 0, .int 0, .int 0, .int 0, .long 0, .long 0, .int 0])), (h2, .inr (1, [.int 3, .null, .null, .null, .int 0, .int 0, .int 0, .int 0, .long 0, .long 0, .int 0]))]) [0, 1, 2] (by decide) rfl
  have hKc := hK.sub (tys' := []) [] rfl
  have hFc := va_free (wc := [(h0, .inr (3, [.ref p1, .ref p2, .ref p3, .ref p4, .ref p5, .int 0, .int 0])), (h1, .inr (1, [.int 2, .ref h2, .ref h2, .null, .int 0, .int 0, .int 0, .int 0, .long 0, .long 0, .int 0])), (h2, .inr (1, [.int 3, .null, .null, .null, .int 0, .int 0, .int 0, .int 0, .long 0, .long 0, .int 0]))]) hD hS hA [0, 1, 2] rfl
  refine va_callv (va_runV (As := [.ref h1, .int 0, .int 1]) (rest := []) ⟨hx, hb, hml, hown, htc⟩ (c_Program_writeChains l dC dI h0 h1 p1 p2 p3 p4 p5 h2 s.heap.size) (cwV 3 htc (gV mw_136 mw_137 mw_138 mw_60 mw_135) rfl rfl rfl (by decide +kernel) ⟨Nat.le_of_ble_eq_true rfl, Nat.le_of_ble_eq_true rfl⟩) ⟨fun a U g mk q => by obtain ⟨q0, q1, qP, qK, qD⟩ := q; exact ⟨q0, q1, qP, va_K.moved (u := U) (U := U.calling g mk a) (Vm.Alike.refl U.vm) qK, qD⟩, va_recv hK hP (ci := 3) rfl (q0 := 0) rfl, fun U hU hW => ⟨rfl, by rw [hU], by rw [hU]; exact hPc, va_K.moved hW.alike hKc, hDc.weaken (fun _ _ _ _ => trivial)⟩⟩ rfl rfl hl.1 rfl (lv_room (Nat.le_of_ble_eq_true rfl)) d_Program_writeNode_80 ⟨Nat.le_of_ble_eq_true rfl, Nat.le_of_ble_eq_true rfl⟩) hS (fun q _ h => hFc q h) hFc (fun u t H locs ht hvm hw hB hz1 hk1 hS => ?_)
  refine W.cs (cells' := 0) (slots' := 0) rfl rfl ?_
  obtain ⟨hP1, hK1, hD1⟩ := hB
  rw [ht] at hP1
  have hK1 := va_K.moved hvm.symm hK1
  obtain ⟨hP, hD⟩ := va_join (wr := []) (w1 := [(h0, .inr (3, [.ref p1, .ref p2, .ref p3, .ref p4, .ref p5, .int 0, .int 0])), (h1, .inr (1, [.int 2, .ref h2, .ref h2, .null, .int 0, .int 0, .int 0, .int 0, .long 0, .long 0, .int 0])), (h2, .inr (1, [.int 3, .null, .null, .null, .int 0, .int 0, .int 0, .int 0, .long 0, .long 0, .int 0]))]) hP hD [0, 1, 2] [] rfl rfl (by decide) (by decide) hk1 hFc hP1 hD1
  have hK := (hK.sub (tys' := []) [] rfl).app hK1
  have hP : va_P (dC, dI) clP [(h0, .inr (3, [.ref p1, .ref p2, .ref p3, .ref p4, .ref p5, .int 0, .int 0])), (h1, .inr (1, [.int 2, .ref h2, .ref h2, .null, .int 0, .int 0, .int 0, .int 0, .long 0, .long 0, .int 0])), (h2, .inr (1, [.int 3, .null, .null, .null, .int 0, .int 0, .int 0, .int 0, .long 0, .long 0, .int 0]))] H := hP
  have hD : va_D A [(h0, .inr (3, [.ref p1, .ref p2, .ref p3, .ref p4, .ref p5, .int 0, .int 0])), (h1, .inr (1, [.int 2, .ref h2, .ref h2, .null, .int 0, .int 0, .int 0, .int 0, .long 0, .long 0, .int 0])), (h2, .inr (1, [.int 3, .null, .null, .null, .int 0, .int 0, .int 0, .int 0, .long 0, .long 0, .int 0]))] := hD
  have hK : va_K (dC, dI) clP [] s := hK
  refine lv_goto (tgt := 148) hx hb d_Program_writeNode_83 rfl ?_
  refine W.widen (k := 0) (n := 0) (by decide) (by decide) ?_
  have hP9 := hP.sub (ws' := [(h0, .inr (3, [.ref p1, .ref p2, .ref p3, .ref p4, .ref p5, .int 0, .int 0])), (h1, .inr (1, [.int 2, .ref h2, .ref h2, .null, .int 0, .int 0, .int 0, .int 0, .long 0, .long 0, .int 0])), (h2, .inr (1, [.int 3, .null, .null, .null, .int 0, .int 0, .int 0, .int 0, .long 0, .long 0, .int 0]))]) [0, 1, 2] rfl
  have hD9 := hD.sub (ws' := [(h0, .inr (3, [.ref p1, .ref p2, .ref p3, .ref p4, .ref p5, .int 0, .int 0])), (h1, .inr (1, [.int 2, .ref h2, .ref h2, .null, .int 0, .int 0, .int 0, .int 0, .long 0, .long 0, .int 0])), (h2, .inr (1, [.int 3, .null, .null, .null, .int 0, .int 0, .int 0, .int 0, .long 0, .long 0, .int 0]))]) [0, 1, 2] (by decide) rfl
  have hK9 := hK.sub (tys' := []) [] rfl
  exact W.vret hx hb hr (fun t ht hW => ⟨⟨(), rfl, trivial, by rw [ht]; exact hP9, va_K.moved hW.alike hK9, hD9⟩, hS.F ht⟩) hS.2.2 d_Program_writeNode_148
set_option maxHeartbeats 4000000 in
set_option maxRecDepth 100000 in
theorem c_Program_write (l : Launch) (dC : Nat → ClassId) (dI : Nat → Nat → Nat) (h0 h1 p1 p2 p3 p4 p5 h2 : Nat) (j1 j2 j3 : ClassId) (sz : Nat) : Met l y_Program_write (.code y_Program_write prog_4_method_2_code 3 none :: wC) ({ frames := 4, cells := 0, slots := 0, locals := 95 }) (va_Pc [.ref h0, .ref h1, .int 0] (fun U => U.heap.size = sz ∧ va_P (dC, dI) clP [(h0, .inr (3, [.ref p1, .ref p2, .ref p3, .ref p4, .ref p5, .int 0, .int 0])), (h1, .inr (1, [.int 2, .ref h2, .ref h2, .null, .int 0, .int 0, .int 0, .int 0, .long 0, .long 0, .int 0])), (h2, .inr (1, [.int 3, .null, .null, .null, .int 0, .int 0, .int 0, .int 0, .long 0, .long 0, .int 0])), (p1, .inl (j1, 121, .inl (fun _ => 0))), (p2, .inl (j2, 121, .inl (fun _ => 0))), (p3, .inl (j3, 121, .inl (fun _ => 0)))] U.heap ∧ va_K (dC, dI) clP [(j1, .int), (j2, .int), (j3, .int)] U ∧ va_D (fun _ => True) [(h0, .inr (3, [.ref p1, .ref p2, .ref p3, .ref p4, .ref p5, .int 0, .int 0])), (h1, .inr (1, [.int 2, .ref h2, .ref h2, .null, .int 0, .int 0, .int 0, .int 0, .long 0, .long 0, .int 0])), (h2, .inr (1, [.int 3, .null, .null, .null, .int 0, .int 0, .int 0, .int 0, .long 0, .long 0, .int 0])), (p1, .inl (j1, 121, .inl (fun _ => 0))), (p2, .inl (j2, 121, .inl (fun _ => 0))), (p3, .inl (j3, 121, .inl (fun _ => 0)))])) (va_Qv (fun _ : Unit => True) (fun (_ : Unit) (t : State) => va_P (dC, dI) clP [(h0, .inr (3, [.ref p1, .ref p2, .ref p3, .ref p4, .ref p5, .int 1, .int 0])), (h1, .inr (1, [.int 2, .ref h2, .ref h2, .null, .int 0, .int 0, .int 0, .int 0, .long 0, .long 0, .int 0])), (h2, .inr (1, [.int 3, .null, .null, .null, .int 0, .int 0, .int 0, .int 0, .long 0, .long 0, .int 0]))] t.heap ∧ va_K (dC, dI) clP [] t ∧ va_D (va_A [(h0, .inr (3, [.ref p1, .ref p2, .ref p3, .ref p4, .ref p5, .int 0, .int 0])), (h1, .inr (1, [.int 2, .ref h2, .ref h2, .null, .int 0, .int 0, .int 0, .int 0, .long 0, .long 0, .int 0])), (h2, .inr (1, [.int 3, .null, .null, .null, .int 0, .int 0, .int 0, .int 0, .long 0, .long 0, .int 0])), (p1, .inl (j1, 121, .inl (fun _ => 0))), (p2, .inl (j2, 121, .inl (fun _ => 0))), (p3, .inl (j3, 121, .inl (fun _ => 0)))] sz) [(h0, .inr (3, [.ref p1, .ref p2, .ref p3, .ref p4, .ref p5, .int 1, .int 0])), (h1, .inr (1, [.int 2, .ref h2, .ref h2, .null, .int 0, .int 0, .int 0, .int 0, .long 0, .long 0, .int 0])), (h2, .inr (1, [.int 3, .null, .null, .null, .int 0, .int 0, .int 0, .int 0, .long 0, .long 0, .int 0]))]) (va_A [(h0, .inr (3, [.ref p1, .ref p2, .ref p3, .ref p4, .ref p5, .int 0, .int 0])), (h1, .inr (1, [.int 2, .ref h2, .ref h2, .null, .int 0, .int 0, .int 0, .int 0, .long 0, .long 0, .int 0])), (h2, .inr (1, [.int 3, .null, .null, .null, .int 0, .int 0, .int 0, .int 0, .long 0, .long 0, .int 0])), (p1, .inl (j1, 121, .inl (fun _ => 0))), (p2, .inl (j2, 121, .inl (fun _ => 0))), (p3, .inl (j3, 121, .inl (fun _ => 0)))] sz)) 0 0 (va_A [(h0, .inr (3, [.ref p1, .ref p2, .ref p3, .ref p4, .ref p5, .int 0, .int 0])), (h1, .inr (1, [.int 2, .ref h2, .ref h2, .null, .int 0, .int 0, .int 0, .int 0, .long 0, .long 0, .int 0])), (h2, .inr (1, [.int 3, .null, .null, .null, .int 0, .int 0, .int 0, .int 0, .long 0, .long 0, .int 0])), (p1, .inl (j1, 121, .inl (fun _ => 0))), (p2, .inl (j2, 121, .inl (fun _ => 0))), (p3, .inl (j3, 121, .inl (fun _ => 0)))] sz) := by
  refine Met.ofW (cc := prog_4_method_2_code) (maxL := 3) (ret := none) (by decide) rfl ?_
  intro p e s m args below meth c s₁ B hml hv
  obtain ⟨rfl, hsz, hP, hK, hD0⟩ := hv
  have hx := B.exec
  have hb := B.bytes
  have hr := B.returns
  have htc := fun (w : Cond) (h : w ∈ wC) => atoms_spec (ws := (.code y_Program_write prog_4_method_2_code 3 none :: wC)) B.pre w (List.mem_cons_of_mem _ h)
  have hown : s.vm.findClass "PatternMachine$Program" = some m.cls := findClass_of_methodNamed B.named
  have hlocks := B.notSynchronized
  subst hsz
  have hD := hD0.self (sz := s.heap.size)
  generalize hAe : va_A [(h0, .inr (3, [.ref p1, .ref p2, .ref p3, .ref p4, .ref p5, .int 0, .int 0])), (h1, .inr (1, [.int 2, .ref h2, .ref h2, .null, .int 0, .int 0, .int 0, .int 0, .long 0, .long 0, .int 0])), (h2, .inr (1, [.int 3, .null, .null, .null, .int 0, .int 0, .int 0, .int 0, .long 0, .long 0, .int 0])), (p1, .inl (j1, 121, .inl (fun _ => 0))), (p2, .inl (j2, 121, .inl (fun _ => 0))), (p3, .inl (j3, 121, .inl (fun _ => 0)))] s.heap.size = A at hD ⊢
  have hA : ∀ q : Nat, s.heap.size ≤ q → A q := fun q h => by rw [← hAe]; exact Or.inr h
  have hS : va_S A s.heap s.heap [] := va_S.rf
  have hP : va_P (dC, dI) clP [(h0, .inr (3, [.ref p1, .ref p2, .ref p3, .ref p4, .ref p5, .int 0, .int 0])), (h1, .inr (1, [.int 2, .ref h2, .ref h2, .null, .int 0, .int 0, .int 0, .int 0, .long 0, .long 0, .int 0])), (h2, .inr (1, [.int 3, .null, .null, .null, .int 0, .int 0, .int 0, .int 0, .long 0, .long 0, .int 0])), (p1, .inl (j1, 121, .inl (fun _ => 0))), (p2, .inl (j2, 121, .inl (fun _ => 0))), (p3, .inl (j3, 121, .inl (fun _ => 0)))] s.heap := hP
  have hl := lv_entry ([.ref h0, .ref h1, .int 0]) (n := 3) (Nat.le_of_ble_eq_true rfl)
  rw [lg_entry_eq]
  generalize (lg_sl ([.ref h0, .ref h1, .int 0]) ++ List.replicate (3 - (lg_sl ([.ref h0, .ref h1, .int 0])).length) Slot.unset).toArray = ls at hl ⊢
  have hl : lv_has ls 3 [(0, .ref h0), (1, .ref h1), (2, .int 0)] := hl
  refine lv_aload_n hx hb d_Program_write_0 rfl (lv_at hl 0 rfl) ?_
  refine lv_iconst (v := 0) hx hb d_Program_write_1 (by decide) ?_
  refine va_put (D := (dC, dI)) (ci := 3) (v := .int 0) (ty := .int) (C := "PatternMachine$Program") (T := T_Program) (N := 7) hx hb htc in_Program t_Program t_Program_ok n_Program hown hK hP hD hS 0 rfl rfl 5 (by decide) (htc _ mw_122) (fun _ h9 => h9) rfl (by decide +kernel) rfl rfl (Nat.le_of_ble_eq_true rfl) d_Program_write_2 (fun H locs hP hD hS => ?_)
  have hP : va_P (dC, dI) clP [(h0, .inr (3, [.ref p1, .ref p2, .ref p3, .ref p4, .ref p5, .int 0, .int 0])), (h1, .inr (1, [.int 2, .ref h2, .ref h2, .null, .int 0, .int 0, .int 0, .int 0, .long 0, .long 0, .int 0])), (h2, .inr (1, [.int 3, .null, .null, .null, .int 0, .int 0, .int 0, .int 0, .long 0, .long 0, .int 0])), (p1, .inl (j1, 121, .inl (fun _ => 0))), (p2, .inl (j2, 121, .inl (fun _ => 0))), (p3, .inl (j3, 121, .inl (fun _ => 0)))] H := hP
  have hD : va_D A [(h0, .inr (3, [.ref p1, .ref p2, .ref p3, .ref p4, .ref p5, .int 0, .int 0])), (h1, .inr (1, [.int 2, .ref h2, .ref h2, .null, .int 0, .int 0, .int 0, .int 0, .long 0, .long 0, .int 0])), (h2, .inr (1, [.int 3, .null, .null, .null, .int 0, .int 0, .int 0, .int 0, .long 0, .long 0, .int 0])), (p1, .inl (j1, 121, .inl (fun _ => 0))), (p2, .inl (j2, 121, .inl (fun _ => 0))), (p3, .inl (j3, 121, .inl (fun _ => 0)))] := hD
  refine lv_aload_n hx hb d_Program_write_5 rfl (lv_at hl 0 rfl) ?_
  refine lv_iload_n hx hb d_Program_write_6 rfl (lv_at hl 2 rfl) ?_
  refine va_put (D := (dC, dI)) (ci := 3) (v := .int 0) (ty := .int) (C := "PatternMachine$Program") (T := T_Program) (N := 7) hx hb htc in_Program t_Program t_Program_ok n_Program hown hK hP hD hS 0 rfl rfl 6 (by decide) (htc _ mw_139) (fun _ h9 => h9) rfl (by decide +kernel) rfl rfl (Nat.le_of_ble_eq_true rfl) d_Program_write_7 (fun H locs hP hD hS => ?_)
  have hP : va_P (dC, dI) clP [(h0, .inr (3, [.ref p1, .ref p2, .ref p3, .ref p4, .ref p5, .int 0, .int 0])), (h1, .inr (1, [.int 2, .ref h2, .ref h2, .null, .int 0, .int 0, .int 0, .int 0, .long 0, .long 0, .int 0])), (h2, .inr (1, [.int 3, .null, .null, .null, .int 0, .int 0, .int 0, .int 0, .long 0, .long 0, .int 0])), (p1, .inl (j1, 121, .inl (fun _ => 0))), (p2, .inl (j2, 121, .inl (fun _ => 0))), (p3, .inl (j3, 121, .inl (fun _ => 0)))] H := hP
  have hD : va_D A [(h0, .inr (3, [.ref p1, .ref p2, .ref p3, .ref p4, .ref p5, .int 0, .int 0])), (h1, .inr (1, [.int 2, .ref h2, .ref h2, .null, .int 0, .int 0, .int 0, .int 0, .long 0, .long 0, .int 0])), (h2, .inr (1, [.int 3, .null, .null, .null, .int 0, .int 0, .int 0, .int 0, .long 0, .long 0, .int 0])), (p1, .inl (j1, 121, .inl (fun _ => 0))), (p2, .inl (j2, 121, .inl (fun _ => 0))), (p3, .inl (j3, 121, .inl (fun _ => 0)))] := hD
  refine lv_aload_n hx hb d_Program_write_10 rfl (lv_at hl 0 rfl) ?_
  refine lv_aload_n hx hb d_Program_write_11 rfl (lv_at hl 1 rfl) ?_
  refine lv_iconst (v := 0) hx hb d_Program_write_12 (by decide) ?_
  refine lv_iconst (v := 0) hx hb d_Program_write_13 (by decide) ?_
  have hPc := hP.sub (ws' := [(h0, .inr (3, [.ref p1, .ref p2, .ref p3, .ref p4, .ref p5, .int 0, .int 0])), (h1, .inr (1, [.int 2, .ref h2, .ref h2, .null, .int 0, .int 0, .int 0, .int 0, .long 0, .long 0, .int 0])), (h2, .inr (1, [.int 3, .null, .null, .null, .int 0, .int 0, .int 0, .int 0, .long 0, .long 0, .int 0]))]) [0, 1, 2] rfl
  have hDc := hD.sub (ws' := [(h0, .inr (3, [.ref p1, .ref p2, .ref p3, .ref p4, .ref p5, .int 0, .int 0])), (h1, .inr (1, [.int 2, .ref h2, .ref h2, .null, .int 0, .int 0, .int 0, .int 0, .long 0, .long 0, .int 0])), (h2, .inr (1, [.int 3, .null, .null, .null, .int 0, .int 0, .int 0, .int 0, .long 0, .long 0, .int 0]))]) [0, 1, 2] (by decide) rfl
  have hKc := hK.sub (tys' := []) [] rfl
  have hFc := va_free (wc := [(h0, .inr (3, [.ref p1, .ref p2, .ref p3, .ref p4, .ref p5, .int 0, .int 0])), (h1, .inr (1, [.int 2, .ref h2, .ref h2, .null, .int 0, .int 0, .int 0, .int 0, .long 0, .long 0, .int 0])), (h2, .inr (1, [.int 3, .null, .null, .null, .int 0, .int 0, .int 0, .int 0, .long 0, .long 0, .int 0]))]) hD hS hA [0, 1, 2] rfl
  refine va_callv (va_runV (As := [.ref h1, .int 0, .int 0]) (rest := []) ⟨hx, hb, hml, hown, htc⟩ (c_Program_writeNode0 l dC dI h0 h1 p1 p2 p3 p4 p5 h2 H.size) (cwV 3 htc (gV mw_132 mw_133 mw_134 mw_60 mw_131) rfl rfl rfl (by decide +kernel) ⟨Nat.le_of_ble_eq_true rfl, Nat.le_of_ble_eq_true rfl⟩) ⟨fun a U g mk q => by obtain ⟨q0, q1, qP, qK, qD⟩ := q; exact ⟨q0, q1, qP, va_K.moved (u := U) (U := U.calling g mk a) (Vm.Alike.refl U.vm) qK, qD⟩, va_recv hK hP (ci := 3) rfl (q0 := 0) rfl, fun U hU hW => ⟨rfl, by rw [hU], by rw [hU]; exact hPc, va_K.moved hW.alike hKc, hDc.weaken (fun _ _ _ _ => trivial)⟩⟩ rfl rfl hl.1 rfl (lv_room (Nat.le_of_ble_eq_true rfl)) d_Program_write_14 ⟨Nat.le_of_ble_eq_true rfl, Nat.le_of_ble_eq_true rfl⟩) hS (fun q _ h => hFc q h) hFc (fun u t H locs ht hvm hw hB hz1 hk1 hS => ?_)
  refine W.cs (cells' := 0) (slots' := 0) rfl rfl ?_
  obtain ⟨hP1, hK1, hD1⟩ := hB
  rw [ht] at hP1
  have hK1 := va_K.moved hvm.symm hK1
  obtain ⟨hP, hD⟩ := va_join (wr := [(p1, .inl (j1, 121, .inl (fun _ => 0))), (p2, .inl (j2, 121, .inl (fun _ => 0))), (p3, .inl (j3, 121, .inl (fun _ => 0)))]) (w1 := [(h0, .inr (3, [.ref p1, .ref p2, .ref p3, .ref p4, .ref p5, .int 0, .int 0])), (h1, .inr (1, [.int 2, .ref h2, .ref h2, .null, .int 0, .int 0, .int 0, .int 0, .long 0, .long 0, .int 0])), (h2, .inr (1, [.int 3, .null, .null, .null, .int 0, .int 0, .int 0, .int 0, .long 0, .long 0, .int 0]))]) hP hD [0, 1, 2] [3, 4, 5] rfl rfl (by decide) (by decide) hk1 hFc hP1 hD1
  have hK := (hK.sub (tys' := [(j1, .int), (j2, .int), (j3, .int)]) [0, 1, 2] rfl).app hK1
  have hP : va_P (dC, dI) clP [(p1, .inl (j1, 121, .inl (fun _ => 0))), (p2, .inl (j2, 121, .inl (fun _ => 0))), (p3, .inl (j3, 121, .inl (fun _ => 0))), (h0, .inr (3, [.ref p1, .ref p2, .ref p3, .ref p4, .ref p5, .int 0, .int 0])), (h1, .inr (1, [.int 2, .ref h2, .ref h2, .null, .int 0, .int 0, .int 0, .int 0, .long 0, .long 0, .int 0])), (h2, .inr (1, [.int 3, .null, .null, .null, .int 0, .int 0, .int 0, .int 0, .long 0, .long 0, .int 0]))] H := hP
  have hD : va_D A [(p1, .inl (j1, 121, .inl (fun _ => 0))), (p2, .inl (j2, 121, .inl (fun _ => 0))), (p3, .inl (j3, 121, .inl (fun _ => 0))), (h0, .inr (3, [.ref p1, .ref p2, .ref p3, .ref p4, .ref p5, .int 0, .int 0])), (h1, .inr (1, [.int 2, .ref h2, .ref h2, .null, .int 0, .int 0, .int 0, .int 0, .long 0, .long 0, .int 0])), (h2, .inr (1, [.int 3, .null, .null, .null, .int 0, .int 0, .int 0, .int 0, .long 0, .long 0, .int 0]))] := hD
  have hK : va_K (dC, dI) clP [(j1, .int), (j2, .int), (j3, .int)] s := hK
  refine lv_aload_n hx hb d_Program_write_17 rfl (lv_at hl 0 rfl) ?_
  refine lv_bipush (v := 7) hx hb d_Program_write_18 (by decide) ?_
  refine lv_iconst (v := 0) hx hb d_Program_write_20 (by decide) ?_
  refine lv_iconst (v := 0) hx hb d_Program_write_21 (by decide) ?_
  have hPc := hP.sub (ws' := [(h0, .inr (3, [.ref p1, .ref p2, .ref p3, .ref p4, .ref p5, .int 0, .int 0])), (p1, .inl (j1, 121, .inl (fun _ => 0))), (p2, .inl (j2, 121, .inl (fun _ => 0))), (p3, .inl (j3, 121, .inl (fun _ => 0)))]) [3, 0, 1, 2] rfl
  have hDc := hD.sub (ws' := [(h0, .inr (3, [.ref p1, .ref p2, .ref p3, .ref p4, .ref p5, .int 0, .int 0])), (p1, .inl (j1, 121, .inl (fun _ => 0))), (p2, .inl (j2, 121, .inl (fun _ => 0))), (p3, .inl (j3, 121, .inl (fun _ => 0)))]) [3, 0, 1, 2] (by decide) rfl
  have hKc := hK.sub (tys' := [(j1, .int), (j2, .int), (j3, .int)]) [0, 1, 2] rfl
  have hFc := va_free (wc := [(h0, .inr (3, [.ref p1, .ref p2, .ref p3, .ref p4, .ref p5, .int 0, .int 0])), (p1, .inl (j1, 121, .inl (fun _ => 0))), (p2, .inl (j2, 121, .inl (fun _ => 0))), (p3, .inl (j3, 121, .inl (fun _ => 0)))]) hD hS hA [3, 0, 1, 2] rfl
  refine va_callv (va_runV (As := [.int 7, .int 0, .int 0]) (rest := []) ⟨hx, hb, hml, hown, htc⟩ (c_Program_put l dC dI h0 p1 p2 p3 p4 p5 j1 j2 j3 H.size) (cwV 3 htc (gV mw_141 mw_142 mw_143 mw_60 mw_140) rfl rfl rfl (by decide +kernel) ⟨Nat.le_of_ble_eq_true rfl, Nat.le_of_ble_eq_true rfl⟩) ⟨fun a U g mk q => by obtain ⟨q0, q1, qP, qK, qD⟩ := q; exact ⟨q0, q1, qP, va_K.moved (u := U) (U := U.calling g mk a) (Vm.Alike.refl U.vm) qK, qD⟩, va_recv hK hP (ci := 3) rfl (q0 := 3) rfl, fun U hU hW => ⟨rfl, by rw [hU], by rw [hU]; exact hPc, va_K.moved hW.alike hKc, hDc.weaken (fun _ _ _ _ => trivial)⟩⟩ rfl rfl hl.1 rfl (lv_room (Nat.le_of_ble_eq_true rfl)) d_Program_write_22 ⟨Nat.le_of_ble_eq_true rfl, Nat.le_of_ble_eq_true rfl⟩) hS (fun q _ h => hFc q h) hFc (fun u t H locs ht hvm hw hB hz1 hk1 hS => ?_)
  refine W.cs (cells' := 0) (slots' := 0) rfl rfl ?_
  obtain ⟨hP1, hK1, hD1⟩ := hB
  rw [ht] at hP1
  have hK1 := va_K.moved hvm.symm hK1
  obtain ⟨hP, hD⟩ := va_join (wr := [(h1, .inr (1, [.int 2, .ref h2, .ref h2, .null, .int 0, .int 0, .int 0, .int 0, .long 0, .long 0, .int 0])), (h2, .inr (1, [.int 3, .null, .null, .null, .int 0, .int 0, .int 0, .int 0, .long 0, .long 0, .int 0]))]) (w1 := [(h0, .inr (3, [.ref p1, .ref p2, .ref p3, .ref p4, .ref p5, .int 1, .int 0]))]) hP hD [3, 0, 1, 2] [4, 5] rfl rfl (by decide) (by decide) hk1 hFc hP1 hD1
  have hK := (hK.sub (tys' := []) [] rfl).app hK1
  have hP : va_P (dC, dI) clP [(h1, .inr (1, [.int 2, .ref h2, .ref h2, .null, .int 0, .int 0, .int 0, .int 0, .long 0, .long 0, .int 0])), (h2, .inr (1, [.int 3, .null, .null, .null, .int 0, .int 0, .int 0, .int 0, .long 0, .long 0, .int 0])), (h0, .inr (3, [.ref p1, .ref p2, .ref p3, .ref p4, .ref p5, .int 1, .int 0]))] H := hP
  have hD : va_D A [(h1, .inr (1, [.int 2, .ref h2, .ref h2, .null, .int 0, .int 0, .int 0, .int 0, .long 0, .long 0, .int 0])), (h2, .inr (1, [.int 3, .null, .null, .null, .int 0, .int 0, .int 0, .int 0, .long 0, .long 0, .int 0])), (h0, .inr (3, [.ref p1, .ref p2, .ref p3, .ref p4, .ref p5, .int 1, .int 0]))] := hD
  have hK : va_K (dC, dI) clP [] s := hK
  refine W.widen (k := 0) (n := 0) (by decide) (by decide) ?_
  have hP9 := hP.sub (ws' := [(h0, .inr (3, [.ref p1, .ref p2, .ref p3, .ref p4, .ref p5, .int 1, .int 0])), (h1, .inr (1, [.int 2, .ref h2, .ref h2, .null, .int 0, .int 0, .int 0, .int 0, .long 0, .long 0, .int 0])), (h2, .inr (1, [.int 3, .null, .null, .null, .int 0, .int 0, .int 0, .int 0, .long 0, .long 0, .int 0]))]) [2, 0, 1] rfl
  have hD9 := hD.sub (ws' := [(h0, .inr (3, [.ref p1, .ref p2, .ref p3, .ref p4, .ref p5, .int 1, .int 0])), (h1, .inr (1, [.int 2, .ref h2, .ref h2, .null, .int 0, .int 0, .int 0, .int 0, .long 0, .long 0, .int 0])), (h2, .inr (1, [.int 3, .null, .null, .null, .int 0, .int 0, .int 0, .int 0, .long 0, .long 0, .int 0]))]) [2, 0, 1] (by decide) rfl
  have hK9 := hK.sub (tys' := []) [] rfl
  exact W.vret hx hb hr (fun t ht hW => ⟨⟨(), rfl, trivial, by rw [ht]; exact hP9, va_K.moved hW.alike hK9, hD9⟩, hS.F ht⟩) hS.2.2 d_Program_write_25
