set_option maxHeartbeats 4000000 in
set_option maxRecDepth 100000 in
theorem c_Row_at (l : Launch) (dC : Nat → ClassId) (dI : Nat → Nat → Nat) (h0 h1 : Nat) (sz : Nat) (x1 : Int32) : Met l y_Row_at (.code y_Row_at prog_6_method_2_code 2 (some .int) :: wC) ({ frames := 0, cells := 0, slots := 0, locals := 0 }) (va_Pc [.ref h0, .int x1] (fun U => U.heap.size = sz ∧ va_P (dC, dI) clP [(h0, .inr (0, [.ref h1, .int 0]))] U.heap ∧ va_K (dC, dI) clP [] U ∧ va_D (fun _ => True) [(h0, .inr (0, [.ref h1, .int 0]))])) (va_Qi (fun (r : Int32) (_ : Unit) => r = (-1)) (fun (_ : Unit) (t : State) => va_P (dC, dI) clP [(h0, .inr (0, [.ref h1, .int 0]))] t.heap ∧ va_K (dC, dI) clP [] t ∧ va_D (va_A [(h0, .inr (0, [.ref h1, .int 0]))] sz) [(h0, .inr (0, [.ref h1, .int 0]))]) (va_A [(h0, .inr (0, [.ref h1, .int 0]))] sz)) 0 0 (va_A [(h0, .inr (0, [.ref h1, .int 0]))] sz) := by
  refine Met.ofW (cc := prog_6_method_2_code) (maxL := 2) (ret := (some .int)) (by decide) rfl ?_
  intro p e s m args below meth c s₁ B hml hv
  obtain ⟨rfl, hsz, hP, hK, hD0⟩ := hv
  have hx := B.exec
  have hb := B.bytes
  have hr := B.returns
  have htc := fun (w : Cond) (h : w ∈ wC) => atoms_spec (ws := (.code y_Row_at prog_6_method_2_code 2 (some .int) :: wC)) B.pre w (List.mem_cons_of_mem _ h)
  have hown : s.vm.findClass "PatternMachine$Row" = some m.cls := findClass_of_methodNamed B.named
  have hlocks := B.notSynchronized
  subst hsz
  have hD := hD0.self (sz := s.heap.size)
  generalize hAe : va_A [(h0, .inr (0, [.ref h1, .int 0]))] s.heap.size = A at hD ⊢
  have hA : ∀ q : Nat, s.heap.size ≤ q → A q := fun q h => by rw [← hAe]; exact Or.inr h
  have hS : va_S A s.heap s.heap [] := va_S.rf
  have hP : va_P (dC, dI) clP [(h0, .inr (0, [.ref h1, .int 0]))] s.heap := hP
  have hl := lv_entry ([.ref h0, .int x1]) (n := 2) (Nat.le_of_ble_eq_true rfl)
  rw [lg_entry_eq]
  generalize (lg_sl ([.ref h0, .int x1]) ++ List.replicate (2 - (lg_sl ([.ref h0, .int x1])).length) Slot.unset).toArray = ls at hl ⊢
  have hl : lv_has ls 2 [(0, .ref h0), (1, .int x1)] := hl
  refine lv_iload_n hx hb d_Row_at_0 rfl (lv_at hl 1 rfl) ?_
  refine lv_if_lt (tgt := 21) hx hb d_Row_at_1 rfl (fun c1 => ?_) (fun c1 => ?_)
  ·
    refine lv_iconst (v := (-1)) hx hb d_Row_at_21 (by decide) ?_
    refine W.widen (k := 0) (n := 0) (by decide) (by decide) ?_
    have hP9 := hP.sub (ws' := [(h0, .inr (0, [.ref h1, .int 0]))]) [0] rfl
    have hD9 := hD.sub (ws' := [(h0, .inr (0, [.ref h1, .int 0]))]) [0] (by decide) rfl
    have hK9 := hK.sub (tys' := []) [] rfl
    exact W.iret (v := (-1)) hx hb hr (fun t ht hW => ⟨⟨(-1), (), rfl, rfl, by rw [ht]; exact hP9, va_K.moved hW.alike hK9, hD9⟩, hS.F ht⟩) hS.2.2 d_Row_at_22
  ·
    refine lv_iload_n hx hb d_Row_at_4 rfl (lv_at hl 1 rfl) ?_
    refine lv_aload_n hx hb d_Row_at_5 rfl (lv_at hl 0 rfl) ?_
    refine va_get (D := (dC, dI)) (ci := 0) (v := .int 0) (C := "PatternMachine$Row") (T := T_Row) (N := 2) hx hb htc in_Row hown hK hP 0 rfl rfl 1 (by decide) (htc _ mw_72) (fun _ h9 => h9) rfl d_Row_at_6 ?_
    refine lv_icmp_ge (tgt := 21) hx hb d_Row_at_9 rfl (fun _ => ?_) (fun h9 => absurd (zz_nn c1) h9)
    refine lv_iconst (v := (-1)) hx hb d_Row_at_21 (by decide) ?_
    refine W.widen (k := 0) (n := 0) (by decide) (by decide) ?_
    have hP9 := hP.sub (ws' := [(h0, .inr (0, [.ref h1, .int 0]))]) [0] rfl
    have hD9 := hD.sub (ws' := [(h0, .inr (0, [.ref h1, .int 0]))]) [0] (by decide) rfl
    have hK9 := hK.sub (tys' := []) [] rfl
    exact W.iret (v := (-1)) hx hb hr (fun t ht hW => ⟨⟨(-1), (), rfl, rfl, by rw [ht]; exact hP9, va_K.moved hW.alike hK9, hD9⟩, hS.F ht⟩) hS.2.2 d_Row_at_22
set_option maxHeartbeats 4000000 in
set_option maxRecDepth 100000 in
theorem c_Row_put (l : Launch) (dC : Nat → ClassId) (dI : Nat → Nat → Nat) (h0 h1 : Nat) (k1 : ClassId) (sz : Nat) (x1 : Int32) : Met l y_Row_put (.code y_Row_put prog_6_method_3_code 2 (some .boolean) :: wC) ({ frames := 0, cells := 0, slots := 0, locals := 0 }) (va_Pc [.ref h0, .int x1] (fun U => U.heap.size = sz ∧ va_P (dC, dI) clP [(h0, .inr (0, [.ref h1, .int 0])), (h1, .inl (k1, 40, .inl (fun _ => 0)))] U.heap ∧ va_K (dC, dI) clP [(k1, .char)] U ∧ va_D (fun _ => True) [(h0, .inr (0, [.ref h1, .int 0])), (h1, .inl (k1, 40, .inl (fun _ => 0)))])) (va_Qi (fun (r : Int32) (_ : Unit) => r = 1) (fun (_ : Unit) (t : State) => True) (va_A [(h0, .inr (0, [.ref h1, .int 0])), (h1, .inl (k1, 40, .inl (fun _ => 0)))] sz)) 0 0 (va_A [(h0, .inr (0, [.ref h1, .int 0])), (h1, .inl (k1, 40, .inl (fun _ => 0)))] sz) := by
  refine Met.ofW (cc := prog_6_method_3_code) (maxL := 2) (ret := (some .boolean)) (by decide) rfl ?_
  intro p e s m args below meth c s₁ B hml hv
  obtain ⟨rfl, hsz, hP, hK, hD0⟩ := hv
  have hx := B.exec
  have hb := B.bytes
  have hr := B.returns
  have htc := fun (w : Cond) (h : w ∈ wC) => atoms_spec (ws := (.code y_Row_put prog_6_method_3_code 2 (some .boolean) :: wC)) B.pre w (List.mem_cons_of_mem _ h)
  have hown : s.vm.findClass "PatternMachine$Row" = some m.cls := findClass_of_methodNamed B.named
  have hlocks := B.notSynchronized
  subst hsz
  have hD := hD0.self (sz := s.heap.size)
  generalize hAe : va_A [(h0, .inr (0, [.ref h1, .int 0])), (h1, .inl (k1, 40, .inl (fun _ => 0)))] s.heap.size = A at hD ⊢
  have hA : ∀ q : Nat, s.heap.size ≤ q → A q := fun q h => by rw [← hAe]; exact Or.inr h
  have hS : va_S A s.heap s.heap [] := va_S.rf
  have hP : va_P (dC, dI) clP [(h0, .inr (0, [.ref h1, .int 0])), (h1, .inl (k1, 40, .inl (fun _ => 0)))] s.heap := hP
  have hl := lv_entry ([.ref h0, .int x1]) (n := 2) (Nat.le_of_ble_eq_true rfl)
  rw [lg_entry_eq]
  generalize (lg_sl ([.ref h0, .int x1]) ++ List.replicate (2 - (lg_sl ([.ref h0, .int x1])).length) Slot.unset).toArray = ls at hl ⊢
  have hl : lv_has ls 2 [(0, .ref h0), (1, .int x1)] := hl
  refine lv_aload_n hx hb d_Row_put_0 rfl (lv_at hl 0 rfl) ?_
  refine va_get (D := (dC, dI)) (ci := 0) (v := .int 0) (C := "PatternMachine$Row") (T := T_Row) (N := 2) hx hb htc in_Row hown hK hP 0 rfl rfl 1 (by decide) (htc _ mw_72) (fun _ h9 => h9) rfl d_Row_put_1 ?_
  refine lv_aload_n hx hb d_Row_put_4 rfl (lv_at hl 0 rfl) ?_
  refine va_get (D := (dC, dI)) (ci := 0) (v := .ref h1) (C := "PatternMachine$Row") (T := T_Row) (N := 2) hx hb htc in_Row hown hK hP 0 rfl rfl 0 (by decide) (htc _ mw_4) (fun _ h9 => h9) rfl d_Row_put_5 ?_
  refine va_alen (v := 40) hx hb hK hP 1 0 rfl rfl (by decide) d_Row_put_8 ?_
  refine lv_icmp_lt (tgt := 14) hx hb d_Row_put_9 rfl (fun _ => ?_) (fun h9 => absurd (by decide) h9)
  refine lv_aload_n hx hb d_Row_put_14 rfl (lv_at hl 0 rfl) ?_
  refine va_get (D := (dC, dI)) (ci := 0) (v := .ref h1) (C := "PatternMachine$Row") (T := T_Row) (N := 2) hx hb htc in_Row hown hK hP 0 rfl rfl 0 (by decide) (htc _ mw_4) (fun _ h9 => h9) rfl d_Row_put_15 ?_
  refine lv_aload_n hx hb d_Row_put_18 rfl (lv_at hl 0 rfl) ?_
  refine va_get (D := (dC, dI)) (ci := 0) (v := .int 0) (C := "PatternMachine$Row") (T := T_Row) (N := 2) hx hb htc in_Row hown hK hP 0 rfl rfl 1 (by decide) (htc _ mw_72) (fun _ h9 => h9) rfl d_Row_put_19 ?_
  refine lv_iload_n hx hb d_Row_put_22 rfl (lv_at hl 1 rfl) ?_
  refine va_cast hx hb hK hP hD hS 1 0 rfl rfl (by unfold vp_in; decide) d_Row_put_23 (fun H locs hP hD hS => ?_)
  have hP : va_P (dC, dI) clP [(h0, .inr (0, [.ref h1, .int 0])), (h1, .inl (k1, 40, .inl (upd (fun _ => 0) (0 : Int32).toNatClampNeg (vp_nar .char x1))))] H := hP
  have hD : va_D A [(h0, .inr (0, [.ref h1, .int 0])), (h1, .inl (k1, 40, .inl (upd (fun _ => 0) (0 : Int32).toNatClampNeg (vp_nar .char x1))))] := hD
  refine lv_aload_n hx hb d_Row_put_24 rfl (lv_at hl 0 rfl) ?_
  refine lv_dup hx hb d_Row_put_25 rfl ?_
  refine va_get (D := (dC, dI)) (ci := 0) (v := .int 0) (C := "PatternMachine$Row") (T := T_Row) (N := 2) hx hb htc in_Row hown hK hP 0 rfl rfl 1 (by decide) (htc _ mw_72) (fun _ h9 => h9) rfl d_Row_put_26 ?_
  refine lv_iconst (v := 1) hx hb d_Row_put_29 (by decide) ?_
  refine lv_iadd hx hb d_Row_put_30 ?_
  refine lv_topi (fun z9 e9 => ?_)
  obtain rfl : z9 = 1 := e9.trans (by first | decide | rfl | simp [upd])
  refine va_put (D := (dC, dI)) (ci := 0) (v := .int 1) (ty := .int) (C := "PatternMachine$Row") (T := T_Row) (N := 2) hx hb htc in_Row t_Row t_Row_ok n_Row hown hK hP hD hS 0 rfl rfl 1 (by decide) (htc _ mw_72) (fun _ h9 => h9) rfl (by decide +kernel) rfl rfl (Nat.le_of_ble_eq_true rfl) d_Row_put_31 (fun H locs hP hD hS => ?_)
  have hP : va_P (dC, dI) clP [(h0, .inr (0, [.ref h1, .int 1])), (h1, .inl (k1, 40, .inl (upd (fun _ => 0) (0 : Int32).toNatClampNeg (vp_nar .char x1))))] H := hP
  have hD : va_D A [(h0, .inr (0, [.ref h1, .int 1])), (h1, .inl (k1, 40, .inl (upd (fun _ => 0) (0 : Int32).toNatClampNeg (vp_nar .char x1))))] := hD
  refine lv_iconst (v := 1) hx hb d_Row_put_34 (by decide) ?_
  refine W.widen (k := 0) (n := 0) (by decide) (by decide) ?_
  exact W.zret (v := 1) hx hb hr rfl (fun t ht hW => ⟨⟨1, (), rfl, rfl, trivial⟩, hS.F ht⟩) hS.2.2 d_Row_put_35
set_option maxHeartbeats 4000000 in
set_option maxRecDepth 100000 in
theorem c_Row_putPart (l : Launch) (dC : Nat → ClassId) (dI : Nat → Nat → Nat) (h0 h1 h2 : Nat) (sz : Nat) : Met l y_Row_putPart (.code y_Row_putPart prog_6_method_4_code 6 none :: wC) ({ frames := 1, cells := 0, slots := 0, locals := 13 }) (va_Pc [.ref h0, .ref h1, .int 0, .int 0] (fun U => U.heap.size = sz ∧ va_P (dC, dI) clP [(h1, .inr (0, [.ref h2, .int 0]))] U.heap ∧ va_K (dC, dI) clP [] U ∧ va_D (fun _ => True) [(h1, .inr (0, [.ref h2, .int 0]))])) (va_Qv (fun _ : Unit => True) (fun (_ : Unit) (t : State) => va_P (dC, dI) clP [(h1, .inr (0, [.ref h2, .int 0]))] t.heap ∧ va_K (dC, dI) clP [] t ∧ va_D (va_A [(h1, .inr (0, [.ref h2, .int 0]))] sz) [(h1, .inr (0, [.ref h2, .int 0]))]) (va_A [(h1, .inr (0, [.ref h2, .int 0]))] sz)) 0 0 (va_A [(h1, .inr (0, [.ref h2, .int 0]))] sz) := by
  refine Met.ofW (cc := prog_6_method_4_code) (maxL := 6) (ret := none) (by decide) rfl ?_
  intro p e s m args below meth c s₁ B hml hv
  obtain ⟨rfl, hsz, hP, hK, hD0⟩ := hv
  have hx := B.exec
  have hb := B.bytes
  have hr := B.returns
  have htc := fun (w : Cond) (h : w ∈ wC) => atoms_spec (ws := (.code y_Row_putPart prog_6_method_4_code 6 none :: wC)) B.pre w (List.mem_cons_of_mem _ h)
  have hown : s.vm.findClass "PatternMachine$Row" = some m.cls := findClass_of_methodNamed B.named
  have hlocks := B.notSynchronized
  subst hsz
  have hD := hD0.self (sz := s.heap.size)
  generalize hAe : va_A [(h1, .inr (0, [.ref h2, .int 0]))] s.heap.size = A at hD ⊢
  have hA : ∀ q : Nat, s.heap.size ≤ q → A q := fun q h => by rw [← hAe]; exact Or.inr h
  have hS : va_S A s.heap s.heap [] := va_S.rf
  have hP : va_P (dC, dI) clP [(h1, .inr (0, [.ref h2, .int 0]))] s.heap := hP
  have hl := lv_entry ([.ref h0, .ref h1, .int 0, .int 0]) (n := 6) (Nat.le_of_ble_eq_true rfl)
  rw [lg_entry_eq]
  generalize (lg_sl ([.ref h0, .ref h1, .int 0, .int 0]) ++ List.replicate (6 - (lg_sl ([.ref h0, .ref h1, .int 0, .int 0])).length) Slot.unset).toArray = ls at hl ⊢
  have hl : lv_has ls 6 [(0, .ref h0), (1, .ref h1), (2, .int 0), (3, .int 0)] := hl
  refine lv_iload_n hx hb d_Row_putPart_0 rfl (lv_at hl 3 rfl) ?_
  refine lv_aload_n hx hb d_Row_putPart_1 rfl (lv_at hl 1 rfl) ?_
  refine va_get (D := (dC, dI)) (ci := 0) (v := .int 0) (C := "PatternMachine$Row") (T := T_Row) (N := 2) hx hb htc in_Row hown hK hP 0 rfl rfl 1 (by decide) (htc _ mw_72) (fun _ h9 => h9) rfl d_Row_putPart_2 ?_
  refine va_mmin hx hb (by rw [hml]; exact hl.1.symm) hown (htc _ mw_73) (htc _ mw_74) (htc _ mw_75) (htc _ mw_76) (Nat.le_of_ble_eq_true rfl) (Nat.le_of_ble_eq_true rfl) (Nat.le_of_ble_eq_true rfl) (Nat.le_of_ble_eq_true rfl) d_Row_putPart_5 ?_
  refine lv_topi (fun z9 e9 => ?_)
  obtain rfl : z9 = 0 := e9.trans (by first | decide | rfl | simp [upd])
  refine lv_istore (lv' := [(4, .int 0), (0, .ref h0), (1, .ref h1), (2, .int 0), (3, .int 0)]) hx hb d_Row_putPart_8 hl (by decide) rfl (fun ls hl => ?_)
  refine lv_iload_n hx hb d_Row_putPart_10 rfl (lv_at hl 3 rfl) ?_
  refine lv_iconst (v := 0) hx hb d_Row_putPart_11 (by decide) ?_
  refine va_mmax hx hb (by rw [hml]; exact hl.1.symm) hown (htc _ mw_77) (htc _ mw_78) (htc _ mw_75) (htc _ mw_79) (Nat.le_of_ble_eq_true rfl) (Nat.le_of_ble_eq_true rfl) (Nat.le_of_ble_eq_true rfl) (Nat.le_of_ble_eq_true rfl) d_Row_putPart_12 ?_
  refine lv_topi (fun z9 e9 => ?_)
  obtain rfl : z9 = 0 := e9.trans (by first | decide | rfl | simp [upd])
  refine lv_istore (lv' := [(5, .int 0), (4, .int 0), (0, .ref h0), (1, .ref h1), (2, .int 0), (3, .int 0)]) hx hb d_Row_putPart_15 hl (by decide) rfl (fun ls hl => ?_)
  refine lv_iload hx hb d_Row_putPart_17 (lv_at hl 0 rfl) ?_
  refine lv_iload hx hb d_Row_putPart_19 (lv_at hl 1 rfl) ?_
  refine lv_icmp_ge (tgt := 42) hx hb d_Row_putPart_21 rfl (fun _ => ?_) (fun h9 => absurd (by decide) h9)
  refine W.widen (k := 0) (n := 0) (by decide) (by decide) ?_
  have hP9 := hP.sub (ws' := [(h1, .inr (0, [.ref h2, .int 0]))]) [0] rfl
  have hD9 := hD.sub (ws' := [(h1, .inr (0, [.ref h2, .int 0]))]) [0] (by decide) rfl
  have hK9 := hK.sub (tys' := []) [] rfl
  exact W.vret hx hb hr (fun t ht hW => ⟨⟨(), rfl, trivial, by rw [ht]; exact hP9, va_K.moved hW.alike hK9, hD9⟩, hS.F ht⟩) hS.2.2 d_Row_putPart_42
set_option maxHeartbeats 4000000 in
set_option maxRecDepth 100000 in
theorem c_Node_begin (l : Launch) (dC : Nat → ClassId) (dI : Nat → Nat → Nat) (h0 : Nat) (sz : Nat) (x1 : Int32) : Met l y_Node_begin (.code y_Node_begin prog_3_method_2_code 2 none :: wC) ({ frames := 0, cells := 0, slots := 0, locals := 0 }) (va_Pc [.ref h0, .int x1] (fun U => U.heap.size = sz ∧ va_P (dC, dI) clP [(h0, .inr (1, [.int 0, .null, .null, .null, .int 0, .int 0, .int 0, .int 0, .long 0, .long 0, .int 0]))] U.heap ∧ va_K (dC, dI) clP [] U ∧ va_D (fun _ => True) [(h0, .inr (1, [.int 0, .null, .null, .null, .int 0, .int 0, .int 0, .int 0, .long 0, .long 0, .int 0]))])) (va_Qv (fun _ : Unit => True) (fun (_ : Unit) (t : State) => va_P (dC, dI) clP [(h0, .inr (1, [.int x1, .null, .null, .null, .int 0, .int 0, .int 0, .int 0, .long 0, .long 0, .int 0]))] t.heap ∧ va_K (dC, dI) clP [] t ∧ va_D (va_A [(h0, .inr (1, [.int 0, .null, .null, .null, .int 0, .int 0, .int 0, .int 0, .long 0, .long 0, .int 0]))] sz) [(h0, .inr (1, [.int x1, .null, .null, .null, .int 0, .int 0, .int 0, .int 0, .long 0, .long 0, .int 0]))]) (va_A [(h0, .inr (1, [.int 0, .null, .null, .null, .int 0, .int 0, .int 0, .int 0, .long 0, .long 0, .int 0]))] sz)) 0 0 (va_A [(h0, .inr (1, [.int 0, .null, .null, .null, .int 0, .int 0, .int 0, .int 0, .long 0, .long 0, .int 0]))] sz) := by
  refine Met.ofW (cc := prog_3_method_2_code) (maxL := 2) (ret := none) (by decide) rfl ?_
  intro p e s m args below meth c s₁ B hml hv
  obtain ⟨rfl, hsz, hP, hK, hD0⟩ := hv
  have hx := B.exec
  have hb := B.bytes
  have hr := B.returns
  have htc := fun (w : Cond) (h : w ∈ wC) => atoms_spec (ws := (.code y_Node_begin prog_3_method_2_code 2 none :: wC)) B.pre w (List.mem_cons_of_mem _ h)
  have hown : s.vm.findClass "PatternMachine$Node" = some m.cls := findClass_of_methodNamed B.named
  have hlocks := B.notSynchronized
  subst hsz
  have hD := hD0.self (sz := s.heap.size)
  generalize hAe : va_A [(h0, .inr (1, [.int 0, .null, .null, .null, .int 0, .int 0, .int 0, .int 0, .long 0, .long 0, .int 0]))] s.heap.size = A at hD ⊢
  have hA : ∀ q : Nat, s.heap.size ≤ q → A q := fun q h => by rw [← hAe]; exact Or.inr h
  have hS : va_S A s.heap s.heap [] := va_S.rf
  have hP : va_P (dC, dI) clP [(h0, .inr (1, [.int 0, .null, .null, .null, .int 0, .int 0, .int 0, .int 0, .long 0, .long 0, .int 0]))] s.heap := hP
  have hl := lv_entry ([.ref h0, .int x1]) (n := 2) (Nat.le_of_ble_eq_true rfl)
  rw [lg_entry_eq]
  generalize (lg_sl ([.ref h0, .int x1]) ++ List.replicate (2 - (lg_sl ([.ref h0, .int x1])).length) Slot.unset).toArray = ls at hl ⊢
  have hl : lv_has ls 2 [(0, .ref h0), (1, .int x1)] := hl
  refine lv_aload_n hx hb d_Node_begin_0 rfl (lv_at hl 0 rfl) ?_
  refine lv_iload_n hx hb d_Node_begin_1 rfl (lv_at hl 1 rfl) ?_
  refine va_put (D := (dC, dI)) (ci := 1) (v := .int x1) (ty := .int) (C := "PatternMachine$Node") (T := T_Node) (N := 11) hx hb htc in_Node t_Node t_Node_ok n_Node hown hK hP hD hS 0 rfl rfl 0 (by decide) (htc _ mw_80) (fun _ h9 => h9) rfl (by decide +kernel) rfl rfl (Nat.le_of_ble_eq_true rfl) d_Node_begin_2 (fun H locs hP hD hS => ?_)
  have hP : va_P (dC, dI) clP [(h0, .inr (1, [.int x1, .null, .null, .null, .int 0, .int 0, .int 0, .int 0, .long 0, .long 0, .int 0]))] H := hP
  have hD : va_D A [(h0, .inr (1, [.int x1, .null, .null, .null, .int 0, .int 0, .int 0, .int 0, .long 0, .long 0, .int 0]))] := hD
  refine lv_aload_n hx hb d_Node_begin_5 rfl (lv_at hl 0 rfl) ?_
  refine lv_null hx hb d_Node_begin_6 ?_
  refine va_put (D := (dC, dI)) (ci := 1) (v := .null) (ty := (.object "PatternMachine$Node")) (C := "PatternMachine$Node") (T := T_Node) (N := 11) hx hb htc in_Node t_Node t_Node_ok n_Node hown hK hP hD hS 0 rfl rfl 1 (by decide) (htc _ mw_81) (fun _ h9 => h9) rfl (by decide +kernel) rfl rfl (Nat.le_of_ble_eq_true rfl) d_Node_begin_7 (fun H locs hP hD hS => ?_)
  have hP : va_P (dC, dI) clP [(h0, .inr (1, [.int x1, .null, .null, .null, .int 0, .int 0, .int 0, .int 0, .long 0, .long 0, .int 0]))] H := hP
  have hD : va_D A [(h0, .inr (1, [.int x1, .null, .null, .null, .int 0, .int 0, .int 0, .int 0, .long 0, .long 0, .int 0]))] := hD
  refine lv_aload_n hx hb d_Node_begin_10 rfl (lv_at hl 0 rfl) ?_
  refine lv_null hx hb d_Node_begin_11 ?_
  refine va_put (D := (dC, dI)) (ci := 1) (v := .null) (ty := (.object "PatternMachine$Node")) (C := "PatternMachine$Node") (T := T_Node) (N := 11) hx hb htc in_Node t_Node t_Node_ok n_Node hown hK hP hD hS 0 rfl rfl 2 (by decide) (htc _ mw_82) (fun _ h9 => h9) rfl (by decide +kernel) rfl rfl (Nat.le_of_ble_eq_true rfl) d_Node_begin_12 (fun H locs hP hD hS => ?_)
  have hP : va_P (dC, dI) clP [(h0, .inr (1, [.int x1, .null, .null, .null, .int 0, .int 0, .int 0, .int 0, .long 0, .long 0, .int 0]))] H := hP
  have hD : va_D A [(h0, .inr (1, [.int x1, .null, .null, .null, .int 0, .int 0, .int 0, .int 0, .long 0, .long 0, .int 0]))] := hD
  refine lv_aload_n hx hb d_Node_begin_15 rfl (lv_at hl 0 rfl) ?_
  refine lv_null hx hb d_Node_begin_16 ?_
  refine va_put (D := (dC, dI)) (ci := 1) (v := .null) (ty := (.object "PatternMachine$Node")) (C := "PatternMachine$Node") (T := T_Node) (N := 11) hx hb htc in_Node t_Node t_Node_ok n_Node hown hK hP hD hS 0 rfl rfl 3 (by decide) (htc _ mw_83) (fun _ h9 => h9) rfl (by decide +kernel) rfl rfl (Nat.le_of_ble_eq_true rfl) d_Node_begin_17 (fun H locs hP hD hS => ?_)
  have hP : va_P (dC, dI) clP [(h0, .inr (1, [.int x1, .null, .null, .null, .int 0, .int 0, .int 0, .int 0, .long 0, .long 0, .int 0]))] H := hP
  have hD : va_D A [(h0, .inr (1, [.int x1, .null, .null, .null, .int 0, .int 0, .int 0, .int 0, .long 0, .long 0, .int 0]))] := hD
  refine lv_aload_n hx hb d_Node_begin_20 rfl (lv_at hl 0 rfl) ?_
  refine lv_iconst (v := 0) hx hb d_Node_begin_21 (by decide) ?_
  refine va_put (D := (dC, dI)) (ci := 1) (v := .int 0) (ty := .int) (C := "PatternMachine$Node") (T := T_Node) (N := 11) hx hb htc in_Node t_Node t_Node_ok n_Node hown hK hP hD hS 0 rfl rfl 10 (by decide) (htc _ mw_84) (fun _ h9 => h9) rfl (by decide +kernel) rfl rfl (Nat.le_of_ble_eq_true rfl) d_Node_begin_22 (fun H locs hP hD hS => ?_)
  have hP : va_P (dC, dI) clP [(h0, .inr (1, [.int x1, .null, .null, .null, .int 0, .int 0, .int 0, .int 0, .long 0, .long 0, .int 0]))] H := hP
  have hD : va_D A [(h0, .inr (1, [.int x1, .null, .null, .null, .int 0, .int 0, .int 0, .int 0, .long 0, .long 0, .int 0]))] := hD
  refine W.widen (k := 0) (n := 0) (by decide) (by decide) ?_
  have hP9 := hP.sub (ws' := [(h0, .inr (1, [.int x1, .null, .null, .null, .int 0, .int 0, .int 0, .int 0, .long 0, .long 0, .int 0]))]) [0] rfl
  have hD9 := hD.sub (ws' := [(h0, .inr (1, [.int x1, .null, .null, .null, .int 0, .int 0, .int 0, .int 0, .long 0, .long 0, .int 0]))]) [0] (by decide) rfl
  have hK9 := hK.sub (tys' := []) [] rfl
  exact W.vret hx hb hr (fun t ht hW => ⟨⟨(), rfl, trivial, by rw [ht]; exact hP9, va_K.moved hW.alike hK9, hD9⟩, hS.F ht⟩) hS.2.2 d_Node_begin_25
set_option maxHeartbeats 4000000 in
set_option maxRecDepth 100000 in
theorem c_Node_append (l : Launch) (dC : Nat → ClassId) (dI : Nat → Nat → Nat) (h0 h1 : Nat) (sz : Nat) : Met l y_Node_append (.code y_Node_append prog_3_method_3_code 2 none :: wC) ({ frames := 0, cells := 0, slots := 0, locals := 0 }) (va_Pc [.ref h0, .ref h1] (fun U => U.heap.size = sz ∧ va_P (dC, dI) clP [(h0, .inr (1, [.int 2, .null, .null, .null, .int 0, .int 0, .int 0, .int 0, .long 0, .long 0, .int 0])), (h1, .inr (1, [.int 3, .null, .null, .null, .int 0, .int 0, .int 0, .int 0, .long 0, .long 0, .int 0]))] U.heap ∧ va_K (dC, dI) clP [] U ∧ va_D (fun _ => True) [(h0, .inr (1, [.int 2, .null, .null, .null, .int 0, .int 0, .int 0, .int 0, .long 0, .long 0, .int 0])), (h1, .inr (1, [.int 3, .null, .null, .null, .int 0, .int 0, .int 0, .int 0, .long 0, .long 0, .int 0]))])) (va_Qv (fun _ : Unit => True) (fun (_ : Unit) (t : State) => va_P (dC, dI) clP [(h0, .inr (1, [.int 2, .ref h1, .ref h1, .null, .int 0, .int 0, .int 0, .int 0, .long 0, .long 0, .int 0])), (h1, .inr (1, [.int 3, .null, .null, .null, .int 0, .int 0, .int 0, .int 0, .long 0, .long 0, .int 0]))] t.heap ∧ va_K (dC, dI) clP [] t ∧ va_D (va_A [(h0, .inr (1, [.int 2, .null, .null, .null, .int 0, .int 0, .int 0, .int 0, .long 0, .long 0, .int 0])), (h1, .inr (1, [.int 3, .null, .null, .null, .int 0, .int 0, .int 0, .int 0, .long 0, .long 0, .int 0]))] sz) [(h0, .inr (1, [.int 2, .ref h1, .ref h1, .null, .int 0, .int 0, .int 0, .int 0, .long 0, .long 0, .int 0])), (h1, .inr (1, [.int 3, .null, .null, .null, .int 0, .int 0, .int 0, .int 0, .long 0, .long 0, .int 0]))]) (va_A [(h0, .inr (1, [.int 2, .null, .null, .null, .int 0, .int 0, .int 0, .int 0, .long 0, .long 0, .int 0])), (h1, .inr (1, [.int 3, .null, .null, .null, .int 0, .int 0, .int 0, .int 0, .long 0, .long 0, .int 0]))] sz)) 0 0 (va_A [(h0, .inr (1, [.int 2, .null, .null, .null, .int 0, .int 0, .int 0, .int 0, .long 0, .long 0, .int 0])), (h1, .inr (1, [.int 3, .null, .null, .null, .int 0, .int 0, .int 0, .int 0, .long 0, .long 0, .int 0]))] sz) := by
  refine Met.ofW (cc := prog_3_method_3_code) (maxL := 2) (ret := none) (by decide) rfl ?_
  intro p e s m args below meth c s₁ B hml hv
  obtain ⟨rfl, hsz, hP, hK, hD0⟩ := hv
  have hx := B.exec
  have hb := B.bytes
  have hr := B.returns
  have htc := fun (w : Cond) (h : w ∈ wC) => atoms_spec (ws := (.code y_Node_append prog_3_method_3_code 2 none :: wC)) B.pre w (List.mem_cons_of_mem _ h)
  have hown : s.vm.findClass "PatternMachine$Node" = some m.cls := findClass_of_methodNamed B.named
  have hlocks := B.notSynchronized
  subst hsz
  have hD := hD0.self (sz := s.heap.size)
  generalize hAe : va_A [(h0, .inr (1, [.int 2, .null, .null, .null, .int 0, .int 0, .int 0, .int 0, .long 0, .long 0, .int 0])), (h1, .inr (1, [.int 3, .null, .null, .null, .int 0, .int 0, .int 0, .int 0, .long 0, .long 0, .int 0]))] s.heap.size = A at hD ⊢
  have hA : ∀ q : Nat, s.heap.size ≤ q → A q := fun q h => by rw [← hAe]; exact Or.inr h
  have hS : va_S A s.heap s.heap [] := va_S.rf
  have hP : va_P (dC, dI) clP [(h0, .inr (1, [.int 2, .null, .null, .null, .int 0, .int 0, .int 0, .int 0, .long 0, .long 0, .int 0])), (h1, .inr (1, [.int 3, .null, .null, .null, .int 0, .int 0, .int 0, .int 0, .long 0, .long 0, .int 0]))] s.heap := hP
  have hl := lv_entry ([.ref h0, .ref h1]) (n := 2) (Nat.le_of_ble_eq_true rfl)
  rw [lg_entry_eq]
  generalize (lg_sl ([.ref h0, .ref h1]) ++ List.replicate (2 - (lg_sl ([.ref h0, .ref h1])).length) Slot.unset).toArray = ls at hl ⊢
  have hl : lv_has ls 2 [(0, .ref h0), (1, .ref h1)] := hl
  refine lv_aload_n hx hb d_Node_append_0 rfl (lv_at hl 0 rfl) ?_
  refine va_get (D := (dC, dI)) (ci := 1) (v := .null) (C := "PatternMachine$Node") (T := T_Node) (N := 11) hx hb htc in_Node hown hK hP 0 rfl rfl 2 (by decide) (htc _ mw_82) (fun _ h9 => h9) rfl d_Node_append_1 ?_
  refine lv_ifnonnullN hx hb d_Node_append_4 ?_
  refine lv_aload_n hx hb d_Node_append_7 rfl (lv_at hl 0 rfl) ?_
  refine lv_aload_n hx hb d_Node_append_8 rfl (lv_at hl 1 rfl) ?_
  refine va_put (D := (dC, dI)) (ci := 1) (v := .ref h1) (ty := (.object "PatternMachine$Node")) (C := "PatternMachine$Node") (T := T_Node) (N := 11) hx hb htc in_Node t_Node t_Node_ok n_Node hown hK hP hD hS 0 rfl rfl 1 (by decide) (htc _ mw_81) (fun _ h9 => h9) rfl (by decide +kernel) rfl rfl (Nat.le_of_ble_eq_true rfl) d_Node_append_9 (fun H locs hP hD hS => ?_)
  have hP : va_P (dC, dI) clP [(h0, .inr (1, [.int 2, .ref h1, .null, .null, .int 0, .int 0, .int 0, .int 0, .long 0, .long 0, .int 0])), (h1, .inr (1, [.int 3, .null, .null, .null, .int 0, .int 0, .int 0, .int 0, .long 0, .long 0, .int 0]))] H := hP
  have hD : va_D A [(h0, .inr (1, [.int 2, .ref h1, .null, .null, .int 0, .int 0, .int 0, .int 0, .long 0, .long 0, .int 0])), (h1, .inr (1, [.int 3, .null, .null, .null, .int 0, .int 0, .int 0, .int 0, .long 0, .long 0, .int 0]))] := hD
  refine lv_goto (tgt := 23) hx hb d_Node_append_12 rfl ?_
  refine lv_aload_n hx hb d_Node_append_23 rfl (lv_at hl 0 rfl) ?_
  refine lv_aload_n hx hb d_Node_append_24 rfl (lv_at hl 1 rfl) ?_
  refine va_put (D := (dC, dI)) (ci := 1) (v := .ref h1) (ty := (.object "PatternMachine$Node")) (C := "PatternMachine$Node") (T := T_Node) (N := 11) hx hb htc in_Node t_Node t_Node_ok n_Node hown hK hP hD hS 0 rfl rfl 2 (by decide) (htc _ mw_82) (fun _ h9 => h9) rfl (by decide +kernel) rfl rfl (Nat.le_of_ble_eq_true rfl) d_Node_append_25 (fun H locs hP hD hS => ?_)
  have hP : va_P (dC, dI) clP [(h0, .inr (1, [.int 2, .ref h1, .ref h1, .null, .int 0, .int 0, .int 0, .int 0, .long 0, .long 0, .int 0])), (h1, .inr (1, [.int 3, .null, .null, .null, .int 0, .int 0, .int 0, .int 0, .long 0, .long 0, .int 0]))] H := hP
  have hD : va_D A [(h0, .inr (1, [.int 2, .ref h1, .ref h1, .null, .int 0, .int 0, .int 0, .int 0, .long 0, .long 0, .int 0])), (h1, .inr (1, [.int 3, .null, .null, .null, .int 0, .int 0, .int 0, .int 0, .long 0, .long 0, .int 0]))] := hD
  refine lv_aload_n hx hb d_Node_append_28 rfl (lv_at hl 0 rfl) ?_
  refine lv_dup hx hb d_Node_append_29 rfl ?_
  refine va_get (D := (dC, dI)) (ci := 1) (v := .int 0) (C := "PatternMachine$Node") (T := T_Node) (N := 11) hx hb htc in_Node hown hK hP 0 rfl rfl 10 (by decide) (htc _ mw_84) (fun _ h9 => h9) rfl d_Node_append_30 ?_
  refine lv_aload_n hx hb d_Node_append_33 rfl (lv_at hl 1 rfl) ?_
  refine va_get (D := (dC, dI)) (ci := 1) (v := .int 0) (C := "PatternMachine$Node") (T := T_Node) (N := 11) hx hb htc in_Node hown hK hP 1 rfl rfl 10 (by decide) (htc _ mw_84) (fun _ h9 => h9) rfl d_Node_append_34 ?_
  refine lv_iadd hx hb d_Node_append_37 ?_
  refine lv_topi (fun z9 e9 => ?_)
  obtain rfl : z9 = 0 := e9.trans (by first | decide | rfl | simp [upd])
  refine va_put (D := (dC, dI)) (ci := 1) (v := .int 0) (ty := .int) (C := "PatternMachine$Node") (T := T_Node) (N := 11) hx hb htc in_Node t_Node t_Node_ok n_Node hown hK hP hD hS 0 rfl rfl 10 (by decide) (htc _ mw_84) (fun _ h9 => h9) rfl (by decide +kernel) rfl rfl (Nat.le_of_ble_eq_true rfl) d_Node_append_38 (fun H locs hP hD hS => ?_)
  have hP : va_P (dC, dI) clP [(h0, .inr (1, [.int 2, .ref h1, .ref h1, .null, .int 0, .int 0, .int 0, .int 0, .long 0, .long 0, .int 0])), (h1, .inr (1, [.int 3, .null, .null, .null, .int 0, .int 0, .int 0, .int 0, .long 0, .long 0, .int 0]))] H := hP
  have hD : va_D A [(h0, .inr (1, [.int 2, .ref h1, .ref h1, .null, .int 0, .int 0, .int 0, .int 0, .long 0, .long 0, .int 0])), (h1, .inr (1, [.int 3, .null, .null, .null, .int 0, .int 0, .int 0, .int 0, .long 0, .long 0, .int 0]))] := hD
  refine W.widen (k := 0) (n := 0) (by decide) (by decide) ?_
  have hP9 := hP.sub (ws' := [(h0, .inr (1, [.int 2, .ref h1, .ref h1, .null, .int 0, .int 0, .int 0, .int 0, .long 0, .long 0, .int 0])), (h1, .inr (1, [.int 3, .null, .null, .null, .int 0, .int 0, .int 0, .int 0, .long 0, .long 0, .int 0]))]) [0, 1] rfl
  have hD9 := hD.sub (ws' := [(h0, .inr (1, [.int 2, .ref h1, .ref h1, .null, .int 0, .int 0, .int 0, .int 0, .long 0, .long 0, .int 0])), (h1, .inr (1, [.int 3, .null, .null, .null, .int 0, .int 0, .int 0, .int 0, .long 0, .long 0, .int 0]))]) [0, 1] (by decide) rfl
  have hK9 := hK.sub (tys' := []) [] rfl
  exact W.vret hx hb hr (fun t ht hW => ⟨⟨(), rfl, trivial, by rw [ht]; exact hP9, va_K.moved hW.alike hK9, hD9⟩, hS.F ht⟩) hS.2.2 d_Node_append_41
set_option maxHeartbeats 4000000 in
set_option maxRecDepth 100000 in
theorem c_Reader_fresh0 (l : Launch) (dC : Nat → ClassId) (dI : Nat → Nat → Nat) (h0 h1 h2 h3 : Nat) (k1 : ClassId) (sz : Nat) (x1 x2 : Int32) (f9 : Nat → Option Nat) (hf0 : f9 0 = some h3) : Met l y_Reader_fresh (.code y_Reader_fresh prog_5_method_3_code 3 (some (.object "PatternMachine$Node")) :: wC) ({ frames := 1, cells := 0, slots := 0, locals := 21 }) (va_Pc [.ref h0, .int x1] (fun U => U.heap.size = sz ∧ va_P (dC, dI) clP [(h0, .inr (2, [.ref h1, .ref h2, .int 0, .int 0, .int x2, .int 0, .long 0, .long 0])), (h2, .inl (k1, 46, .inr (.inr (.inr (.inr f9))))), (h3, .inr (1, [.int 0, .null, .null, .null, .int 0, .int 0, .int 0, .int 0, .long 0, .long 0, .int 0]))] U.heap ∧ va_K (dC, dI) clP [(k1, (.object "PatternMachine$Node"))] U ∧ va_D (fun _ => True) [(h0, .inr (2, [.ref h1, .ref h2, .int 0, .int 0, .int x2, .int 0, .long 0, .long 0])), (h2, .inl (k1, 46, .inr (.inr (.inr (.inr f9))))), (h3, .inr (1, [.int 0, .null, .null, .null, .int 0, .int 0, .int 0, .int 0, .long 0, .long 0, .int 0]))])) (va_Qr (fun _ : Unit => True) (fun (_ : Unit) (r : Nat) (t : State) => h3 = r ∧ va_P (dC, dI) clP [(h0, .inr (2, [.ref h1, .ref h2, .int 1, .int 0, .int x2, .int 0, .long 0, .long 0])), (h2, .inl (k1, 46, .inr (.inr (.inr (.inr f9))))), (h3, .inr (1, [.int x1, .null, .null, .null, .int 0, .int 0, .int 0, .int 0, .long 0, .long 0, .int 0]))] t.heap ∧ va_K (dC, dI) clP [(k1, (.object "PatternMachine$Node"))] t ∧ va_D (va_A [(h0, .inr (2, [.ref h1, .ref h2, .int 0, .int 0, .int x2, .int 0, .long 0, .long 0])), (h2, .inl (k1, 46, .inr (.inr (.inr (.inr f9))))), (h3, .inr (1, [.int 0, .null, .null, .null, .int 0, .int 0, .int 0, .int 0, .long 0, .long 0, .int 0]))] sz) [(h0, .inr (2, [.ref h1, .ref h2, .int 1, .int 0, .int x2, .int 0, .long 0, .long 0])), (h2, .inl (k1, 46, .inr (.inr (.inr (.inr f9))))), (h3, .inr (1, [.int x1, .null, .null, .null, .int 0, .int 0, .int 0, .int 0, .long 0, .long 0, .int 0]))]) (va_A [(h0, .inr (2, [.ref h1, .ref h2, .int 0, .int 0, .int x2, .int 0, .long 0, .long 0])), (h2, .inl (k1, 46, .inr (.inr (.inr (.inr f9))))), (h3, .inr (1, [.int 0, .null, .null, .null, .int 0, .int 0, .int 0, .int 0, .long 0, .long 0, .int 0]))] sz)) 0 0 (va_A [(h0, .inr (2, [.ref h1, .ref h2, .int 0, .int 0, .int x2, .int 0, .long 0, .long 0])), (h2, .inl (k1, 46, .inr (.inr (.inr (.inr f9))))), (h3, .inr (1, [.int 0, .null, .null, .null, .int 0, .int 0, .int 0, .int 0, .long 0, .long 0, .int 0]))] sz) := by
  refine Met.ofW (cc := prog_5_method_3_code) (maxL := 3) (ret := (some (.object "PatternMachine$Node"))) (by decide) rfl ?_
  intro p e s m args below meth c s₁ B hml hv
  obtain ⟨rfl, hsz, hP, hK, hD0⟩ := hv
  have hx := B.exec
  have hb := B.bytes
  have hr := B.returns
  have htc := fun (w : Cond) (h : w ∈ wC) => atoms_spec (ws := (.code y_Reader_fresh prog_5_method_3_code 3 (some (.object "PatternMachine$Node")) :: wC)) B.pre w (List.mem_cons_of_mem _ h)
  have hown : s.vm.findClass "PatternMachine$Reader" = some m.cls := findClass_of_methodNamed B.named
  have hlocks := B.notSynchronized
  subst hsz
  have hD := hD0.self (sz := s.heap.size)
  generalize hAe : va_A [(h0, .inr (2, [.ref h1, .ref h2, .int 0, .int 0, .int x2, .int 0, .long 0, .long 0])), (h2, .inl (k1, 46, .inr (.inr (.inr (.inr f9))))), (h3, .inr (1, [.int 0, .null, .null, .null, .int 0, .int 0, .int 0, .int 0, .long 0, .long 0, .int 0]))] s.heap.size = A at hD ⊢
  have hA : ∀ q : Nat, s.heap.size ≤ q → A q := fun q h => by rw [← hAe]; exact Or.inr h
  have hS : va_S A s.heap s.heap [] := va_S.rf
  have hP : va_P (dC, dI) clP [(h0, .inr (2, [.ref h1, .ref h2, .int 0, .int 0, .int x2, .int 0, .long 0, .long 0])), (h2, .inl (k1, 46, .inr (.inr (.inr (.inr f9))))), (h3, .inr (1, [.int 0, .null, .null, .null, .int 0, .int 0, .int 0, .int 0, .long 0, .long 0, .int 0]))] s.heap := hP
  have hl := lv_entry ([.ref h0, .int x1]) (n := 3) (Nat.le_of_ble_eq_true rfl)
  rw [lg_entry_eq]
  generalize (lg_sl ([.ref h0, .int x1]) ++ List.replicate (3 - (lg_sl ([.ref h0, .int x1])).length) Slot.unset).toArray = ls at hl ⊢
  have hl : lv_has ls 3 [(0, .ref h0), (1, .int x1)] := hl
  refine lv_aload_n hx hb d_Reader_fresh_0 rfl (lv_at hl 0 rfl) ?_
  refine va_get (D := (dC, dI)) (ci := 2) (v := .int 0) (C := "PatternMachine$Reader") (T := T_Reader) (N := 8) hx hb htc in_Reader hown hK hP 0 rfl rfl 2 (by decide) (htc _ mw_85) (fun _ h9 => h9) rfl d_Reader_fresh_1 ?_
  refine lv_bipush (v := 46) hx hb d_Reader_fresh_4 (by decide) ?_
  refine lv_icmp_lt (tgt := 11) hx hb d_Reader_fresh_6 rfl (fun _ => ?_) (fun h9 => absurd (by decide) h9)
  refine lv_aload_n hx hb d_Reader_fresh_11 rfl (lv_at hl 0 rfl) ?_
  refine va_get (D := (dC, dI)) (ci := 2) (v := .ref h2) (C := "PatternMachine$Reader") (T := T_Reader) (N := 8) hx hb htc in_Reader hown hK hP 0 rfl rfl 1 (by decide) (htc _ mw_36) (fun _ h9 => h9) rfl d_Reader_fresh_12 ?_
  refine lv_aload_n hx hb d_Reader_fresh_15 rfl (lv_at hl 0 rfl) ?_
  refine va_get (D := (dC, dI)) (ci := 2) (v := .int 0) (C := "PatternMachine$Reader") (T := T_Reader) (N := 8) hx hb htc in_Reader hown hK hP 0 rfl rfl 2 (by decide) (htc _ mw_85) (fun _ h9 => h9) rfl d_Reader_fresh_16 ?_
  refine va_aldq hx hb hK hP 1 0 rfl rfl (by unfold vp_in; decide) d_Reader_fresh_19 ?_
  refine W.eq (g2 := F0 m 20 ls [.ref h3]) (by rw [show f9 (0 : Int32).toNatClampNeg = some h3 from hf0]; rfl) ?_
  refine lv_astore_n (lv' := [(2, .ref h3), (0, .ref h0), (1, .int x1)]) hx hb d_Reader_fresh_20 rfl hl (by decide) rfl (fun ls hl => ?_)
  refine lv_aload_n hx hb d_Reader_fresh_21 rfl (lv_at hl 1 rfl) ?_
  refine lv_dup hx hb d_Reader_fresh_22 rfl ?_
  refine va_get (D := (dC, dI)) (ci := 2) (v := .int 0) (C := "PatternMachine$Reader") (T := T_Reader) (N := 8) hx hb htc in_Reader hown hK hP 0 rfl rfl 2 (by decide) (htc _ mw_85) (fun _ h9 => h9) rfl d_Reader_fresh_23 ?_
  refine lv_iconst (v := 1) hx hb d_Reader_fresh_26 (by decide) ?_
  refine lv_iadd hx hb d_Reader_fresh_27 ?_
  refine lv_topi (fun z9 e9 => ?_)
  obtain rfl : z9 = 1 := e9.trans (by first | decide | rfl | simp [upd])
  refine va_put (D := (dC, dI)) (ci := 2) (v := .int 1) (ty := .int) (C := "PatternMachine$Reader") (T := T_Reader) (N := 8) hx hb htc in_Reader t_Reader t_Reader_ok n_Reader hown hK hP hD hS 0 rfl rfl 2 (by decide) (htc _ mw_85) (fun _ h9 => h9) rfl (by decide +kernel) rfl rfl (Nat.le_of_ble_eq_true rfl) d_Reader_fresh_28 (fun H locs hP hD hS => ?_)
  have hP : va_P (dC, dI) clP [(h0, .inr (2, [.ref h1, .ref h2, .int 1, .int 0, .int x2, .int 0, .long 0, .long 0])), (h2, .inl (k1, 46, .inr (.inr (.inr (.inr f9))))), (h3, .inr (1, [.int 0, .null, .null, .null, .int 0, .int 0, .int 0, .int 0, .long 0, .long 0, .int 0]))] H := hP
  have hD : va_D A [(h0, .inr (2, [.ref h1, .ref h2, .int 1, .int 0, .int x2, .int 0, .long 0, .long 0])), (h2, .inl (k1, 46, .inr (.inr (.inr (.inr f9))))), (h3, .inr (1, [.int 0, .null, .null, .null, .int 0, .int 0, .int 0, .int 0, .long 0, .long 0, .int 0]))] := hD
  refine lv_aload_n hx hb d_Reader_fresh_31 rfl (lv_at hl 0 rfl) ?_
  refine lv_iload_n hx hb d_Reader_fresh_32 rfl (lv_at hl 2 rfl) ?_
  have hPc := hP.sub (ws' := [(h3, .inr (1, [.int 0, .null, .null, .null, .int 0, .int 0, .int 0, .int 0, .long 0, .long 0, .int 0]))]) [2] rfl
  have hDc := hD.sub (ws' := [(h3, .inr (1, [.int 0, .null, .null, .null, .int 0, .int 0, .int 0, .int 0, .long 0, .long 0, .int 0]))]) [2] (by decide) rfl
  have hKc := hK.sub (tys' := []) [] rfl
  have hFc := va_free (wc := [(h3, .inr (1, [.int 0, .null, .null, .null, .int 0, .int 0, .int 0, .int 0, .long 0, .long 0, .int 0]))]) hD hS hA [2] rfl
  refine va_callv (va_runV (As := [.int x1]) (rest := []) ⟨hx, hb, hml, hown, htc⟩ (c_Node_begin l dC dI h3 H.size x1) (cwV 1 htc (gV mw_87 mw_88 mw_89 mw_38 mw_86) rfl rfl rfl (by decide +kernel) ⟨Nat.le_of_ble_eq_true rfl, Nat.le_of_ble_eq_true rfl⟩) ⟨fun a U g mk q => by obtain ⟨q0, q1, qP, qK, qD⟩ := q; exact ⟨q0, q1, qP, va_K.moved (u := U) (U := U.calling g mk a) (Vm.Alike.refl U.vm) qK, qD⟩, va_recv hK hP (ci := 1) rfl (q0 := 2) rfl, fun U hU hW => ⟨rfl, by rw [hU], by rw [hU]; exact hPc, va_K.moved hW.alike hKc, hDc.weaken (fun _ _ _ _ => trivial)⟩⟩ rfl rfl hl.1 rfl (lv_room (Nat.le_of_ble_eq_true rfl)) d_Reader_fresh_33 ⟨Nat.le_of_ble_eq_true rfl, Nat.le_of_ble_eq_true rfl⟩) hS (fun q _ h => hFc q h) hFc (fun u t H locs ht hvm hw hB hz1 hk1 hS => ?_)
  refine W.cs (cells' := 0) (slots' := 0) rfl rfl ?_
  obtain ⟨hP1, hK1, hD1⟩ := hB
  rw [ht] at hP1
  have hK1 := va_K.moved hvm.symm hK1
  obtain ⟨hP, hD⟩ := va_join (wr := [(h0, .inr (2, [.ref h1, .ref h2, .int 1, .int 0, .int x2, .int 0, .long 0, .long 0])), (h2, .inl (k1, 46, .inr (.inr (.inr (.inr f9)))))]) (w1 := [(h3, .inr (1, [.int x1, .null, .null, .null, .int 0, .int 0, .int 0, .int 0, .long 0, .long 0, .int 0]))]) hP hD [2] [0, 1] rfl rfl (by decide) (by decide) hk1 hFc hP1 hD1
  have hK := (hK.sub (tys' := [(k1, (.object "PatternMachine$Node"))]) [0] rfl).app hK1
  have hP : va_P (dC, dI) clP [(h0, .inr (2, [.ref h1, .ref h2, .int 1, .int 0, .int x2, .int 0, .long 0, .long 0])), (h2, .inl (k1, 46, .inr (.inr (.inr (.inr f9))))), (h3, .inr (1, [.int x1, .null, .null, .null, .int 0, .int 0, .int 0, .int 0, .long 0, .long 0, .int 0]))] H := hP
  have hD : va_D A [(h0, .inr (2, [.ref h1, .ref h2, .int 1, .int 0, .int x2, .int 0, .long 0, .long 0])), (h2, .inl (k1, 46, .inr (.inr (.inr (.inr f9))))), (h3, .inr (1, [.int x1, .null, .null, .null, .int 0, .int 0, .int 0, .int 0, .long 0, .long 0, .int 0]))] := hD
  have hK : va_K (dC, dI) clP [(k1, (.object "PatternMachine$Node"))] s := hK
  refine lv_aload_n hx hb d_Reader_fresh_36 rfl (lv_at hl 0 rfl) ?_
  refine W.widen (k := 0) (n := 0) (by decide) (by decide) ?_
  have hP9 := hP.sub (ws' := [(h0, .inr (2, [.ref h1, .ref h2, .int 1, .int 0, .int x2, .int 0, .long 0, .long 0])), (h2, .inl (k1, 46, .inr (.inr (.inr (.inr f9))))), (h3, .inr (1, [.int x1, .null, .null, .null, .int 0, .int 0, .int 0, .int 0, .long 0, .long 0, .int 0]))]) [0, 1, 2] rfl
  have hD9 := hD.sub (ws' := [(h0, .inr (2, [.ref h1, .ref h2, .int 1, .int 0, .int x2, .int 0, .long 0, .long 0])), (h2, .inl (k1, 46, .inr (.inr (.inr (.inr f9))))), (h3, .inr (1, [.int x1, .null, .null, .null, .int 0, .int 0, .int 0, .int 0, .long 0, .long 0, .int 0]))]) [0, 1, 2] (by decide) rfl
  have hK9 := hK.sub (tys' := [(k1, (.object "PatternMachine$Node"))]) [0] rfl
  exact W.aret (v := .ref h3) hx hb hr (Or.inl ⟨_, rfl⟩) (Or.inr ⟨_, rfl⟩) (fun t ht hW => ⟨⟨(), h3, rfl, trivial, rfl, by rw [ht]; exact hP9, va_K.moved hW.alike hK9, hD9⟩, hS.F ht⟩) hS.2.2 d_Reader_fresh_37
set_option maxHeartbeats 4000000 in
set_option maxRecDepth 100000 in
theorem c_Reader_fresh1 (l : Launch) (dC : Nat → ClassId) (dI : Nat → Nat → Nat) (h0 h1 h2 h3 : Nat) (k1 : ClassId) (sz : Nat) (x1 x2 : Int32) (f9 : Nat → Option Nat) (hf1 : f9 1 = some h3) : Met l y_Reader_fresh (.code y_Reader_fresh prog_5_method_3_code 3 (some (.object "PatternMachine$Node")) :: wC) ({ frames := 1, cells := 0, slots := 0, locals := 21 }) (va_Pc [.ref h0, .int x1] (fun U => U.heap.size = sz ∧ va_P (dC, dI) clP [(h0, .inr (2, [.ref h1, .ref h2, .int 1, .int 0, .int x2, .int 0, .long 0, .long 0])), (h2, .inl (k1, 46, .inr (.inr (.inr (.inr f9))))), (h3, .inr (1, [.int 0, .null, .null, .null, .int 0, .int 0, .int 0, .int 0, .long 0, .long 0, .int 0]))] U.heap ∧ va_K (dC, dI) clP [(k1, (.object "PatternMachine$Node"))] U ∧ va_D (fun _ => True) [(h0, .inr (2, [.ref h1, .ref h2, .int 1, .int 0, .int x2, .int 0, .long 0, .long 0])), (h2, .inl (k1, 46, .inr (.inr (.inr (.inr f9))))), (h3, .inr (1, [.int 0, .null, .null, .null, .int 0, .int 0, .int 0, .int 0, .long 0, .long 0, .int 0]))])) (va_Qr (fun _ : Unit => True) (fun (_ : Unit) (r : Nat) (t : State) => h3 = r ∧ va_P (dC, dI) clP [(h0, .inr (2, [.ref h1, .ref h2, .int 2, .int 0, .int x2, .int 0, .long 0, .long 0])), (h2, .inl (k1, 46, .inr (.inr (.inr (.inr f9))))), (h3, .inr (1, [.int x1, .null, .null, .null, .int 0, .int 0, .int 0, .int 0, .long 0, .long 0, .int 0]))] t.heap ∧ va_K (dC, dI) clP [(k1, (.object "PatternMachine$Node"))] t ∧ va_D (va_A [(h0, .inr (2, [.ref h1, .ref h2, .int 1, .int 0, .int x2, .int 0, .long 0, .long 0])), (h2, .inl (k1, 46, .inr (.inr (.inr (.inr f9))))), (h3, .inr (1, [.int 0, .null, .null, .null, .int 0, .int 0, .int 0, .int 0, .long 0, .long 0, .int 0]))] sz) [(h0, .inr (2, [.ref h1, .ref h2, .int 2, .int 0, .int x2, .int 0, .long 0, .long 0])), (h2, .inl (k1, 46, .inr (.inr (.inr (.inr f9))))), (h3, .inr (1, [.int x1, .null, .null, .null, .int 0, .int 0, .int 0, .int 0, .long 0, .long 0, .int 0]))]) (va_A [(h0, .inr (2, [.ref h1, .ref h2, .int 1, .int 0, .int x2, .int 0, .long 0, .long 0])), (h2, .inl (k1, 46, .inr (.inr (.inr (.inr f9))))), (h3, .inr (1, [.int 0, .null, .null, .null, .int 0, .int 0, .int 0, .int 0, .long 0, .long 0, .int 0]))] sz)) 0 0 (va_A [(h0, .inr (2, [.ref h1, .ref h2, .int 1, .int 0, .int x2, .int 0, .long 0, .long 0])), (h2, .inl (k1, 46, .inr (.inr (.inr (.inr f9))))), (h3, .inr (1, [.int 0, .null, .null, .null, .int 0, .int 0, .int 0, .int 0, .long 0, .long 0, .int 0]))] sz) := by
  refine Met.ofW (cc := prog_5_method_3_code) (maxL := 3) (ret := (some (.object "PatternMachine$Node"))) (by decide) rfl ?_
  intro p e s m args below meth c s₁ B hml hv
  obtain ⟨rfl, hsz, hP, hK, hD0⟩ := hv
  have hx := B.exec
  have hb := B.bytes
  have hr := B.returns
  have htc := fun (w : Cond) (h : w ∈ wC) => atoms_spec (ws := (.code y_Reader_fresh prog_5_method_3_code 3 (some (.object "PatternMachine$Node")) :: wC)) B.pre w (List.mem_cons_of_mem _ h)
  have hown : s.vm.findClass "PatternMachine$Reader" = some m.cls := findClass_of_methodNamed B.named
  have hlocks := B.notSynchronized
  subst hsz
  have hD := hD0.self (sz := s.heap.size)
  generalize hAe : va_A [(h0, .inr (2, [.ref h1, .ref h2, .int 1, .int 0, .int x2, .int 0, .long 0, .long 0])), (h2, .inl (k1, 46, .inr (.inr (.inr (.inr f9))))), (h3, .inr (1, [.int 0, .null, .null, .null, .int 0, .int 0, .int 0, .int 0, .long 0, .long 0, .int 0]))] s.heap.size = A at hD ⊢
  have hA : ∀ q : Nat, s.heap.size ≤ q → A q := fun q h => by rw [← hAe]; exact Or.inr h
  have hS : va_S A s.heap s.heap [] := va_S.rf
  have hP : va_P (dC, dI) clP [(h0, .inr (2, [.ref h1, .ref h2, .int 1, .int 0, .int x2, .int 0, .long 0, .long 0])), (h2, .inl (k1, 46, .inr (.inr (.inr (.inr f9))))), (h3, .inr (1, [.int 0, .null, .null, .null, .int 0, .int 0, .int 0, .int 0, .long 0, .long 0, .int 0]))] s.heap := hP
  have hl := lv_entry ([.ref h0, .int x1]) (n := 3) (Nat.le_of_ble_eq_true rfl)
  rw [lg_entry_eq]
  generalize (lg_sl ([.ref h0, .int x1]) ++ List.replicate (3 - (lg_sl ([.ref h0, .int x1])).length) Slot.unset).toArray = ls at hl ⊢
  have hl : lv_has ls 3 [(0, .ref h0), (1, .int x1)] := hl
  refine lv_aload_n hx hb d_Reader_fresh_0 rfl (lv_at hl 0 rfl) ?_
  refine va_get (D := (dC, dI)) (ci := 2) (v := .int 1) (C := "PatternMachine$Reader") (T := T_Reader) (N := 8) hx hb htc in_Reader hown hK hP 0 rfl rfl 2 (by decide) (htc _ mw_85) (fun _ h9 => h9) rfl d_Reader_fresh_1 ?_
  refine lv_bipush (v := 46) hx hb d_Reader_fresh_4 (by decide) ?_
  refine lv_icmp_lt (tgt := 11) hx hb d_Reader_fresh_6 rfl (fun _ => ?_) (fun h9 => absurd (by decide) h9)
  refine lv_aload_n hx hb d_Reader_fresh_11 rfl (lv_at hl 0 rfl) ?_
  refine va_get (D := (dC, dI)) (ci := 2) (v := .ref h2) (C := "PatternMachine$Reader") (T := T_Reader) (N := 8) hx hb htc in_Reader hown hK hP 0 rfl rfl 1 (by decide) (htc _ mw_36) (fun _ h9 => h9) rfl d_Reader_fresh_12 ?_
  refine lv_aload_n hx hb d_Reader_fresh_15 rfl (lv_at hl 0 rfl) ?_
  refine va_get (D := (dC, dI)) (ci := 2) (v := .int 1) (C := "PatternMachine$Reader") (T := T_Reader) (N := 8) hx hb htc in_Reader hown hK hP 0 rfl rfl 2 (by decide) (htc _ mw_85) (fun _ h9 => h9) rfl d_Reader_fresh_16 ?_
  refine va_aldq hx hb hK hP 1 0 rfl rfl (by unfold vp_in; decide) d_Reader_fresh_19 ?_
  refine W.eq (g2 := F0 m 20 ls [.ref h3]) (by rw [show f9 (1 : Int32).toNatClampNeg = some h3 from hf1]; rfl) ?_
  refine lv_astore_n (lv' := [(2, .ref h3), (0, .ref h0), (1, .int x1)]) hx hb d_Reader_fresh_20 rfl hl (by decide) rfl (fun ls hl => ?_)
  refine lv_aload_n hx hb d_Reader_fresh_21 rfl (lv_at hl 1 rfl) ?_
  refine lv_dup hx hb d_Reader_fresh_22 rfl ?_
  refine va_get (D := (dC, dI)) (ci := 2) (v := .int 1) (C := "PatternMachine$Reader") (T := T_Reader) (N := 8) hx hb htc in_Reader hown hK hP 0 rfl rfl 2 (by decide) (htc _ mw_85) (fun _ h9 => h9) rfl d_Reader_fresh_23 ?_
  refine lv_iconst (v := 1) hx hb d_Reader_fresh_26 (by decide) ?_
  refine lv_iadd hx hb d_Reader_fresh_27 ?_
  refine lv_topi (fun z9 e9 => ?_)
  obtain rfl : z9 = 2 := e9.trans (by first | decide | rfl | simp [upd])
  refine va_put (D := (dC, dI)) (ci := 2) (v := .int 2) (ty := .int) (C := "PatternMachine$Reader") (T := T_Reader) (N := 8) hx hb htc in_Reader t_Reader t_Reader_ok n_Reader hown hK hP hD hS 0 rfl rfl 2 (by decide) (htc _ mw_85) (fun _ h9 => h9) rfl (by decide +kernel) rfl rfl (Nat.le_of_ble_eq_true rfl) d_Reader_fresh_28 (fun H locs hP hD hS => ?_)
  have hP : va_P (dC, dI) clP [(h0, .inr (2, [.ref h1, .ref h2, .int 2, .int 0, .int x2, .int 0, .long 0, .long 0])), (h2, .inl (k1, 46, .inr (.inr (.inr (.inr f9))))), (h3, .inr (1, [.int 0, .null, .null, .null, .int 0, .int 0, .int 0, .int 0, .long 0, .long 0, .int 0]))] H := hP
  have hD : va_D A [(h0, .inr (2, [.ref h1, .ref h2, .int 2, .int 0, .int x2, .int 0, .long 0, .long 0])), (h2, .inl (k1, 46, .inr (.inr (.inr (.inr f9))))), (h3, .inr (1, [.int 0, .null, .null, .null, .int 0, .int 0, .int 0, .int 0, .long 0, .long 0, .int 0]))] := hD
  refine lv_aload_n hx hb d_Reader_fresh_31 rfl (lv_at hl 0 rfl) ?_
  refine lv_iload_n hx hb d_Reader_fresh_32 rfl (lv_at hl 2 rfl) ?_
  have hPc := hP.sub (ws' := [(h3, .inr (1, [.int 0, .null, .null, .null, .int 0, .int 0, .int 0, .int 0, .long 0, .long 0, .int 0]))]) [2] rfl
  have hDc := hD.sub (ws' := [(h3, .inr (1, [.int 0, .null, .null, .null, .int 0, .int 0, .int 0, .int 0, .long 0, .long 0, .int 0]))]) [2] (by decide) rfl
  have hKc := hK.sub (tys' := []) [] rfl
  have hFc := va_free (wc := [(h3, .inr (1, [.int 0, .null, .null, .null, .int 0, .int 0, .int 0, .int 0, .long 0, .long 0, .int 0]))]) hD hS hA [2] rfl
  refine va_callv (va_runV (As := [.int x1]) (rest := []) ⟨hx, hb, hml, hown, htc⟩ (c_Node_begin l dC dI h3 H.size x1) (cwV 1 htc (gV mw_87 mw_88 mw_89 mw_38 mw_86) rfl rfl rfl (by decide +kernel) ⟨Nat.le_of_ble_eq_true rfl, Nat.le_of_ble_eq_true rfl⟩) ⟨fun a U g mk q => by obtain ⟨q0, q1, qP, qK, qD⟩ := q; exact ⟨q0, q1, qP, va_K.moved (u := U) (U := U.calling g mk a) (Vm.Alike.refl U.vm) qK, qD⟩, va_recv hK hP (ci := 1) rfl (q0 := 2) rfl, fun U hU hW => ⟨rfl, by rw [hU], by rw [hU]; exact hPc, va_K.moved hW.alike hKc, hDc.weaken (fun _ _ _ _ => trivial)⟩⟩ rfl rfl hl.1 rfl (lv_room (Nat.le_of_ble_eq_true rfl)) d_Reader_fresh_33 ⟨Nat.le_of_ble_eq_true rfl, Nat.le_of_ble_eq_true rfl⟩) hS (fun q _ h => hFc q h) hFc (fun u t H locs ht hvm hw hB hz1 hk1 hS => ?_)
  refine W.cs (cells' := 0) (slots' := 0) rfl rfl ?_
  obtain ⟨hP1, hK1, hD1⟩ := hB
  rw [ht] at hP1
  have hK1 := va_K.moved hvm.symm hK1
  obtain ⟨hP, hD⟩ := va_join (wr := [(h0, .inr (2, [.ref h1, .ref h2, .int 2, .int 0, .int x2, .int 0, .long 0, .long 0])), (h2, .inl (k1, 46, .inr (.inr (.inr (.inr f9)))))]) (w1 := [(h3, .inr (1, [.int x1, .null, .null, .null, .int 0, .int 0, .int 0, .int 0, .long 0, .long 0, .int 0]))]) hP hD [2] [0, 1] rfl rfl (by decide) (by decide) hk1 hFc hP1 hD1
  have hK := (hK.sub (tys' := [(k1, (.object "PatternMachine$Node"))]) [0] rfl).app hK1
  have hP : va_P (dC, dI) clP [(h0, .inr (2, [.ref h1, .ref h2, .int 2, .int 0, .int x2, .int 0, .long 0, .long 0])), (h2, .inl (k1, 46, .inr (.inr (.inr (.inr f9))))), (h3, .inr (1, [.int x1, .null, .null, .null, .int 0, .int 0, .int 0, .int 0, .long 0, .long 0, .int 0]))] H := hP
  have hD : va_D A [(h0, .inr (2, [.ref h1, .ref h2, .int 2, .int 0, .int x2, .int 0, .long 0, .long 0])), (h2, .inl (k1, 46, .inr (.inr (.inr (.inr f9))))), (h3, .inr (1, [.int x1, .null, .null, .null, .int 0, .int 0, .int 0, .int 0, .long 0, .long 0, .int 0]))] := hD
  have hK : va_K (dC, dI) clP [(k1, (.object "PatternMachine$Node"))] s := hK
  refine lv_aload_n hx hb d_Reader_fresh_36 rfl (lv_at hl 0 rfl) ?_
  refine W.widen (k := 0) (n := 0) (by decide) (by decide) ?_
  have hP9 := hP.sub (ws' := [(h0, .inr (2, [.ref h1, .ref h2, .int 2, .int 0, .int x2, .int 0, .long 0, .long 0])), (h2, .inl (k1, 46, .inr (.inr (.inr (.inr f9))))), (h3, .inr (1, [.int x1, .null, .null, .null, .int 0, .int 0, .int 0, .int 0, .long 0, .long 0, .int 0]))]) [0, 1, 2] rfl
  have hD9 := hD.sub (ws' := [(h0, .inr (2, [.ref h1, .ref h2, .int 2, .int 0, .int x2, .int 0, .long 0, .long 0])), (h2, .inl (k1, 46, .inr (.inr (.inr (.inr f9))))), (h3, .inr (1, [.int x1, .null, .null, .null, .int 0, .int 0, .int 0, .int 0, .long 0, .long 0, .int 0]))]) [0, 1, 2] (by decide) rfl
  have hK9 := hK.sub (tys' := [(k1, (.object "PatternMachine$Node"))]) [0] rfl
  exact W.aret (v := .ref h3) hx hb hr (Or.inl ⟨_, rfl⟩) (Or.inr ⟨_, rfl⟩) (fun t ht hW => ⟨⟨(), h3, rfl, trivial, rfl, by rw [ht]; exact hP9, va_K.moved hW.alike hK9, hD9⟩, hS.F ht⟩) hS.2.2 d_Reader_fresh_37
set_option maxHeartbeats 4000000 in
set_option maxRecDepth 100000 in
theorem c_Reader_skip (l : Launch) (dC : Nat → ClassId) (dI : Nat → Nat → Nat) (h0 h1 h2 h3 : Nat) (sz : Nat) (x2 : Int32) : Met l y_Reader_skip (.code y_Reader_skip prog_5_method_4_code 2 (some .boolean) :: wC) ({ frames := 1, cells := 0, slots := 0, locals := 21 }) (va_Pc [.ref h0, .int 124] (fun U => U.heap.size = sz ∧ va_P (dC, dI) clP [(h0, .inr (2, [.ref h1, .ref h2, .int 2, .int 0, .int x2, .int 0, .long 0, .long 0])), (h1, .inr (0, [.ref h3, .int 0]))] U.heap ∧ va_K (dC, dI) clP [] U ∧ va_D (fun _ => True) [(h0, .inr (2, [.ref h1, .ref h2, .int 2, .int 0, .int x2, .int 0, .long 0, .long 0])), (h1, .inr (0, [.ref h3, .int 0]))])) (va_Qi (fun (r : Int32) (_ : Unit) => r = 0) (fun (_ : Unit) (t : State) => va_P (dC, dI) clP [(h0, .inr (2, [.ref h1, .ref h2, .int 2, .int 0, .int x2, .int 0, .long 0, .long 0])), (h1, .inr (0, [.ref h3, .int 0]))] t.heap ∧ va_K (dC, dI) clP [] t ∧ va_D (va_A [(h0, .inr (2, [.ref h1, .ref h2, .int 2, .int 0, .int x2, .int 0, .long 0, .long 0])), (h1, .inr (0, [.ref h3, .int 0]))] sz) [(h0, .inr (2, [.ref h1, .ref h2, .int 2, .int 0, .int x2, .int 0, .long 0, .long 0])), (h1, .inr (0, [.ref h3, .int 0]))]) (va_A [(h0, .inr (2, [.ref h1, .ref h2, .int 2, .int 0, .int x2, .int 0, .long 0, .long 0])), (h1, .inr (0, [.ref h3, .int 0]))] sz)) 0 0 (va_A [(h0, .inr (2, [.ref h1, .ref h2, .int 2, .int 0, .int x2, .int 0, .long 0, .long 0])), (h1, .inr (0, [.ref h3, .int 0]))] sz) := by
  refine Met.ofW (cc := prog_5_method_4_code) (maxL := 2) (ret := (some .boolean)) (by decide) rfl ?_
  intro p e s m args below meth c s₁ B hml hv
  obtain ⟨rfl, hsz, hP, hK, hD0⟩ := hv
  have hx := B.exec
  have hb := B.bytes
  have hr := B.returns
  have htc := fun (w : Cond) (h : w ∈ wC) => atoms_spec (ws := (.code y_Reader_skip prog_5_method_4_code 2 (some .boolean) :: wC)) B.pre w (List.mem_cons_of_mem _ h)
  have hown : s.vm.findClass "PatternMachine$Reader" = some m.cls := findClass_of_methodNamed B.named
  have hlocks := B.notSynchronized
  subst hsz
  have hD := hD0.self (sz := s.heap.size)
  generalize hAe : va_A [(h0, .inr (2, [.ref h1, .ref h2, .int 2, .int 0, .int x2, .int 0, .long 0, .long 0])), (h1, .inr (0, [.ref h3, .int 0]))] s.heap.size = A at hD ⊢
  have hA : ∀ q : Nat, s.heap.size ≤ q → A q := fun q h => by rw [← hAe]; exact Or.inr h
  have hS : va_S A s.heap s.heap [] := va_S.rf
  have hP : va_P (dC, dI) clP [(h0, .inr (2, [.ref h1, .ref h2, .int 2, .int 0, .int x2, .int 0, .long 0, .long 0])), (h1, .inr (0, [.ref h3, .int 0]))] s.heap := hP
  have hl := lv_entry ([.ref h0, .int 124]) (n := 2) (Nat.le_of_ble_eq_true rfl)
  rw [lg_entry_eq]
  generalize (lg_sl ([.ref h0, .int 124]) ++ List.replicate (2 - (lg_sl ([.ref h0, .int 124])).length) Slot.unset).toArray = ls at hl ⊢
  have hl : lv_has ls 2 [(0, .ref h0), (1, .int 124)] := hl
  refine lv_aload_n hx hb d_Reader_skip_0 rfl (lv_at hl 0 rfl) ?_
  refine va_get (D := (dC, dI)) (ci := 2) (v := .ref h1) (C := "PatternMachine$Reader") (T := T_Reader) (N := 8) hx hb htc in_Reader hown hK hP 0 rfl rfl 0 (by decide) (htc _ mw_34) (fun _ h9 => h9) rfl d_Reader_skip_1 ?_
  refine lv_aload_n hx hb d_Reader_skip_4 rfl (lv_at hl 0 rfl) ?_
  refine va_get (D := (dC, dI)) (ci := 2) (v := .int 0) (C := "PatternMachine$Reader") (T := T_Reader) (N := 8) hx hb htc in_Reader hown hK hP 0 rfl rfl 3 (by decide) (htc _ mw_90) (fun _ h9 => h9) rfl d_Reader_skip_5 ?_
  have hPc := hP.sub (ws' := [(h1, .inr (0, [.ref h3, .int 0]))]) [1] rfl
  have hDc := hD.sub (ws' := [(h1, .inr (0, [.ref h3, .int 0]))]) [1] (by decide) rfl
  have hKc := hK.sub (tys' := []) [] rfl
  have hFc := va_free (wc := [(h1, .inr (0, [.ref h3, .int 0]))]) hD hS hA [1] rfl
  refine va_calli (va_runV (As := [.int 0]) (rest := []) ⟨hx, hb, hml, hown, htc⟩ (c_Row_at l dC dI h1 h3 s.heap.size 0) (cwV 1 htc (gV mw_92 mw_93 mw_94 mw_44 mw_91) rfl rfl rfl (by decide +kernel) ⟨Nat.le_of_ble_eq_true rfl, Nat.le_of_ble_eq_true rfl⟩) ⟨fun a U g mk q => by obtain ⟨q0, q1, qP, qK, qD⟩ := q; exact ⟨q0, q1, qP, va_K.moved (u := U) (U := U.calling g mk a) (Vm.Alike.refl U.vm) qK, qD⟩, va_recv hK hP (ci := 0) rfl (q0 := 1) rfl, fun U hU hW => ⟨rfl, by rw [hU], by rw [hU]; exact hPc, va_K.moved hW.alike hKc, hDc.weaken (fun _ _ _ _ => trivial)⟩⟩ rfl rfl hl.1 rfl (lv_room (Nat.le_of_ble_eq_true rfl)) d_Reader_skip_8 ⟨Nat.le_of_ble_eq_true rfl, Nat.le_of_ble_eq_true rfl⟩) hS (fun q _ h => hFc q h) hFc (fun r9 u t H locs ht hvm hw hB hz1 hk1 hS => ?_)
  refine W.cs (cells' := 0) (slots' := 0) rfl rfl ?_
  obtain ⟨hP1, hK1, hD1⟩ := hB
  rw [ht] at hP1
  have hK1 := va_K.moved hvm.symm hK1
  obtain ⟨hP, hD⟩ := va_join (wr := [(h0, .inr (2, [.ref h1, .ref h2, .int 2, .int 0, .int x2, .int 0, .long 0, .long 0]))]) (w1 := [(h1, .inr (0, [.ref h3, .int 0]))]) hP hD [1] [0] rfl rfl (by decide) (by decide) hk1 hFc hP1 hD1
  have hK := (hK.sub (tys' := []) [] rfl).app hK1
  have hP : va_P (dC, dI) clP [(h0, .inr (2, [.ref h1, .ref h2, .int 2, .int 0, .int x2, .int 0, .long 0, .long 0])), (h1, .inr (0, [.ref h3, .int 0]))] H := hP
  have hD : va_D A [(h0, .inr (2, [.ref h1, .ref h2, .int 2, .int 0, .int x2, .int 0, .long 0, .long 0])), (h1, .inr (0, [.ref h3, .int 0]))] := hD
  have hK : va_K (dC, dI) clP [] s := hK
  obtain rfl : r9 = (-1) := hw
  refine lv_iload_n hx hb d_Reader_skip_11 rfl (lv_at hl 1 rfl) ?_
  refine lv_icmp_eq (tgt := 17) hx hb d_Reader_skip_12 rfl (fun h9 => absurd h9 (by decide)) (fun _ => ?_)
  refine lv_iconst (v := 0) hx hb d_Reader_skip_15 (by decide) ?_
  refine W.widen (k := 0) (n := 0) (by decide) (by decide) ?_
  have hP9 := hP.sub (ws' := [(h0, .inr (2, [.ref h1, .ref h2, .int 2, .int 0, .int x2, .int 0, .long 0, .long 0])), (h1, .inr (0, [.ref h3, .int 0]))]) [0, 1] rfl
  have hD9 := hD.sub (ws' := [(h0, .inr (2, [.ref h1, .ref h2, .int 2, .int 0, .int x2, .int 0, .long 0, .long 0])), (h1, .inr (0, [.ref h3, .int 0]))]) [0, 1] (by decide) rfl
  have hK9 := hK.sub (tys' := []) [] rfl
  exact W.zret (v := 0) hx hb hr rfl (fun t ht hW => ⟨⟨0, (), rfl, rfl, by rw [ht]; exact hP9, va_K.moved hW.alike hK9, hD9⟩, hS.F ht⟩) hS.2.2 d_Reader_skip_16
set_option maxHeartbeats 4000000 in
set_option maxRecDepth 100000 in
theorem c_Reader_chainEnds (l : Launch) (dC : Nat → ClassId) (dI : Nat → Nat → Nat) (h0 h1 h2 h3 : Nat) (sz : Nat) (x2 : Int32) : Met l y_Reader_chainEnds (.code y_Reader_chainEnds prog_5_method_7_code 2 (some .boolean) :: wC) ({ frames := 1, cells := 0, slots := 0, locals := 21 }) (va_Pc [.ref h0] (fun U => U.heap.size = sz ∧ va_P (dC, dI) clP [(h0, .inr (2, [.ref h1, .ref h2, .int 2, .int 0, .int x2, .int 0, .long 0, .long 0])), (h1, .inr (0, [.ref h3, .int 0]))] U.heap ∧ va_K (dC, dI) clP [] U ∧ va_D (fun _ => True) [(h0, .inr (2, [.ref h1, .ref h2, .int 2, .int 0, .int x2, .int 0, .long 0, .long 0])), (h1, .inr (0, [.ref h3, .int 0]))])) (va_Qi (fun (r : Int32) (_ : Unit) => r = 1) (fun (_ : Unit) (t : State) => va_P (dC, dI) clP [(h0, .inr (2, [.ref h1, .ref h2, .int 2, .int 0, .int x2, .int 0, .long 0, .long 0])), (h1, .inr (0, [.ref h3, .int 0]))] t.heap ∧ va_K (dC, dI) clP [] t ∧ va_D (va_A [(h0, .inr (2, [.ref h1, .ref h2, .int 2, .int 0, .int x2, .int 0, .long 0, .long 0])), (h1, .inr (0, [.ref h3, .int 0]))] sz) [(h0, .inr (2, [.ref h1, .ref h2, .int 2, .int 0, .int x2, .int 0, .long 0, .long 0])), (h1, .inr (0, [.ref h3, .int 0]))]) (va_A [(h0, .inr (2, [.ref h1, .ref h2, .int 2, .int 0, .int x2, .int 0, .long 0, .long 0])), (h1, .inr (0, [.ref h3, .int 0]))] sz)) 0 0 (va_A [(h0, .inr (2, [.ref h1, .ref h2, .int 2, .int 0, .int x2, .int 0, .long 0, .long 0])), (h1, .inr (0, [.ref h3, .int 0]))] sz) := by
  refine Met.ofW (cc := prog_5_method_7_code) (maxL := 2) (ret := (some .boolean)) (by decide) rfl ?_
  intro p e s m args below meth c s₁ B hml hv
  obtain ⟨rfl, hsz, hP, hK, hD0⟩ := hv
  have hx := B.exec
  have hb := B.bytes
  have hr := B.returns
  have htc := fun (w : Cond) (h : w ∈ wC) => atoms_spec (ws := (.code y_Reader_chainEnds prog_5_method_7_code 2 (some .boolean) :: wC)) B.pre w (List.mem_cons_of_mem _ h)
  have hown : s.vm.findClass "PatternMachine$Reader" = some m.cls := findClass_of_methodNamed B.named
  have hlocks := B.notSynchronized
  subst hsz
  have hD := hD0.self (sz := s.heap.size)
  generalize hAe : va_A [(h0, .inr (2, [.ref h1, .ref h2, .int 2, .int 0, .int x2, .int 0, .long 0, .long 0])), (h1, .inr (0, [.ref h3, .int 0]))] s.heap.size = A at hD ⊢
  have hA : ∀ q : Nat, s.heap.size ≤ q → A q := fun q h => by rw [← hAe]; exact Or.inr h
  have hS : va_S A s.heap s.heap [] := va_S.rf
  have hP : va_P (dC, dI) clP [(h0, .inr (2, [.ref h1, .ref h2, .int 2, .int 0, .int x2, .int 0, .long 0, .long 0])), (h1, .inr (0, [.ref h3, .int 0]))] s.heap := hP
  have hl := lv_entry ([.ref h0]) (n := 2) (Nat.le_of_ble_eq_true rfl)
  rw [lg_entry_eq]
  generalize (lg_sl ([.ref h0]) ++ List.replicate (2 - (lg_sl ([.ref h0])).length) Slot.unset).toArray = ls at hl ⊢
  have hl : lv_has ls 2 [(0, .ref h0)] := hl
  refine lv_aload_n hx hb d_Reader_chainEnds_0 rfl (lv_at hl 0 rfl) ?_
  refine va_get (D := (dC, dI)) (ci := 2) (v := .ref h1) (C := "PatternMachine$Reader") (T := T_Reader) (N := 8) hx hb htc in_Reader hown hK hP 0 rfl rfl 0 (by decide) (htc _ mw_34) (fun _ h9 => h9) rfl d_Reader_chainEnds_1 ?_
  refine lv_aload_n hx hb d_Reader_chainEnds_4 rfl (lv_at hl 0 rfl) ?_
  refine va_get (D := (dC, dI)) (ci := 2) (v := .int 0) (C := "PatternMachine$Reader") (T := T_Reader) (N := 8) hx hb htc in_Reader hown hK hP 0 rfl rfl 3 (by decide) (htc _ mw_90) (fun _ h9 => h9) rfl d_Reader_chainEnds_5 ?_
  have hPc := hP.sub (ws' := [(h1, .inr (0, [.ref h3, .int 0]))]) [1] rfl
  have hDc := hD.sub (ws' := [(h1, .inr (0, [.ref h3, .int 0]))]) [1] (by decide) rfl
  have hKc := hK.sub (tys' := []) [] rfl
  have hFc := va_free (wc := [(h1, .inr (0, [.ref h3, .int 0]))]) hD hS hA [1] rfl
  refine va_calli (va_runV (As := [.int 0]) (rest := []) ⟨hx, hb, hml, hown, htc⟩ (c_Row_at l dC dI h1 h3 s.heap.size 0) (cwV 1 htc (gV mw_92 mw_93 mw_94 mw_44 mw_91) rfl rfl rfl (by decide +kernel) ⟨Nat.le_of_ble_eq_true rfl, Nat.le_of_ble_eq_true rfl⟩) ⟨fun a U g mk q => by obtain ⟨q0, q1, qP, qK, qD⟩ := q; exact ⟨q0, q1, qP, va_K.moved (u := U) (U := U.calling g mk a) (Vm.Alike.refl U.vm) qK, qD⟩, va_recv hK hP (ci := 0) rfl (q0 := 1) rfl, fun U hU hW => ⟨rfl, by rw [hU], by rw [hU]; exact hPc, va_K.moved hW.alike hKc, hDc.weaken (fun _ _ _ _ => trivial)⟩⟩ rfl rfl hl.1 rfl (lv_room (Nat.le_of_ble_eq_true rfl)) d_Reader_chainEnds_8 ⟨Nat.le_of_ble_eq_true rfl, Nat.le_of_ble_eq_true rfl⟩) hS (fun q _ h => hFc q h) hFc (fun r9 u t H locs ht hvm hw hB hz1 hk1 hS => ?_)
  refine W.cs (cells' := 0) (slots' := 0) rfl rfl ?_
  obtain ⟨hP1, hK1, hD1⟩ := hB
  rw [ht] at hP1
  have hK1 := va_K.moved hvm.symm hK1
  obtain ⟨hP, hD⟩ := va_join (wr := [(h0, .inr (2, [.ref h1, .ref h2, .int 2, .int 0, .int x2, .int 0, .long 0, .long 0]))]) (w1 := [(h1, .inr (0, [.ref h3, .int 0]))]) hP hD [1] [0] rfl rfl (by decide) (by decide) hk1 hFc hP1 hD1
  have hK := (hK.sub (tys' := []) [] rfl).app hK1
  have hP : va_P (dC, dI) clP [(h0, .inr (2, [.ref h1, .ref h2, .int 2, .int 0, .int x2, .int 0, .long 0, .long 0])), (h1, .inr (0, [.ref h3, .int 0]))] H := hP
  have hD : va_D A [(h0, .inr (2, [.ref h1, .ref h2, .int 2, .int 0, .int x2, .int 0, .long 0, .long 0])), (h1, .inr (0, [.ref h3, .int 0]))] := hD
  have hK : va_K (dC, dI) clP [] s := hK
  obtain rfl : r9 = (-1) := hw
  refine lv_istore_n (lv' := [(1, .int (-1)), (0, .ref h0)]) hx hb d_Reader_chainEnds_11 rfl hl (by decide) rfl (fun ls hl => ?_)
  refine lv_iload_n hx hb d_Reader_chainEnds_12 rfl (lv_at hl 0 rfl) ?_
  refine lv_iconst (v := (-1)) hx hb d_Reader_chainEnds_13 (by decide) ?_
  refine lv_icmp_eq (tgt := 29) hx hb d_Reader_chainEnds_14 rfl (fun _ => ?_) (fun h9 => absurd (by decide) h9)
  refine lv_iconst (v := 1) hx hb d_Reader_chainEnds_29 (by decide) ?_
  refine lv_goto (tgt := 34) hx hb d_Reader_chainEnds_30 rfl ?_
  refine W.widen (k := 0) (n := 0) (by decide) (by decide) ?_
  have hP9 := hP.sub (ws' := [(h0, .inr (2, [.ref h1, .ref h2, .int 2, .int 0, .int x2, .int 0, .long 0, .long 0])), (h1, .inr (0, [.ref h3, .int 0]))]) [0, 1] rfl
  have hD9 := hD.sub (ws' := [(h0, .inr (2, [.ref h1, .ref h2, .int 2, .int 0, .int x2, .int 0, .long 0, .long 0])), (h1, .inr (0, [.ref h3, .int 0]))]) [0, 1] (by decide) rfl
  have hK9 := hK.sub (tys' := []) [] rfl
  exact W.zret (v := 1) hx hb hr rfl (fun t ht hW => ⟨⟨1, (), rfl, rfl, by rw [ht]; exact hP9, va_K.moved hW.alike hK9, hD9⟩, hS.F ht⟩) hS.2.2 d_Reader_chainEnds_34
set_option maxHeartbeats 4000000 in
set_option maxRecDepth 100000 in
theorem c_Reader_readChain (l : Launch) (dC : Nat → ClassId) (dI : Nat → Nat → Nat) (h0 h1 h2 h4 h3 : Nat) (k1 : ClassId) (sz : Nat) (x2 : Int32) (f9 : Nat → Option Nat) (hf1 : f9 1 = some h3) : Met l y_Reader_readChain (.code y_Reader_readChain prog_5_method_6_code 5 (some (.object "PatternMachine$Node")) :: wC) ({ frames := 2, cells := 0, slots := 0, locals := 43 }) (va_Pc [.ref h0, .int 0] (fun U => U.heap.size = sz ∧ va_P (dC, dI) clP [(h0, .inr (2, [.ref h1, .ref h2, .int 1, .int 0, .int x2, .int 0, .long 0, .long 0])), (h1, .inr (0, [.ref h4, .int 0])), (h2, .inl (k1, 46, .inr (.inr (.inr (.inr f9))))), (h3, .inr (1, [.int 0, .null, .null, .null, .int 0, .int 0, .int 0, .int 0, .long 0, .long 0, .int 0]))] U.heap ∧ va_K (dC, dI) clP [(k1, (.object "PatternMachine$Node"))] U ∧ va_D (fun _ => True) [(h0, .inr (2, [.ref h1, .ref h2, .int 1, .int 0, .int x2, .int 0, .long 0, .long 0])), (h1, .inr (0, [.ref h4, .int 0])), (h2, .inl (k1, 46, .inr (.inr (.inr (.inr f9))))), (h3, .inr (1, [.int 0, .null, .null, .null, .int 0, .int 0, .int 0, .int 0, .long 0, .long 0, .int 0]))])) (va_Qr (fun _ : Unit => True) (fun (_ : Unit) (r : Nat) (t : State) => h3 = r ∧ va_P (dC, dI) clP [(h0, .inr (2, [.ref h1, .ref h2, .int 2, .int 0, .int x2, .int 0, .long 0, .long 0])), (h1, .inr (0, [.ref h4, .int 0])), (h2, .inl (k1, 46, .inr (.inr (.inr (.inr f9))))), (h3, .inr (1, [.int 3, .null, .null, .null, .int 0, .int 0, .int 0, .int 0, .long 0, .long 0, .int 0]))] t.heap ∧ va_K (dC, dI) clP [(k1, (.object "PatternMachine$Node"))] t ∧ va_D (va_A [(h0, .inr (2, [.ref h1, .ref h2, .int 1, .int 0, .int x2, .int 0, .long 0, .long 0])), (h1, .inr (0, [.ref h4, .int 0])), (h2, .inl (k1, 46, .inr (.inr (.inr (.inr f9))))), (h3, .inr (1, [.int 0, .null, .null, .null, .int 0, .int 0, .int 0, .int 0, .long 0, .long 0, .int 0]))] sz) [(h0, .inr (2, [.ref h1, .ref h2, .int 2, .int 0, .int x2, .int 0, .long 0, .long 0])), (h1, .inr (0, [.ref h4, .int 0])), (h2, .inl (k1, 46, .inr (.inr (.inr (.inr f9))))), (h3, .inr (1, [.int 3, .null, .null, .null, .int 0, .int 0, .int 0, .int 0, .long 0, .long 0, .int 0]))]) (va_A [(h0, .inr (2, [.ref h1, .ref h2, .int 1, .int 0, .int x2, .int 0, .long 0, .long 0])), (h1, .inr (0, [.ref h4, .int 0])), (h2, .inl (k1, 46, .inr (.inr (.inr (.inr f9))))), (h3, .inr (1, [.int 0, .null, .null, .null, .int 0, .int 0, .int 0, .int 0, .long 0, .long 0, .int 0]))] sz)) 0 0 (va_A [(h0, .inr (2, [.ref h1, .ref h2, .int 1, .int 0, .int x2, .int 0, .long 0, .long 0])), (h1, .inr (0, [.ref h4, .int 0])), (h2, .inl (k1, 46, .inr (.inr (.inr (.inr f9))))), (h3, .inr (1, [.int 0, .null, .null, .null, .int 0, .int 0, .int 0, .int 0, .long 0, .long 0, .int 0]))] sz) := by
  refine Met.ofW (cc := prog_5_method_6_code) (maxL := 5) (ret := (some (.object "PatternMachine$Node"))) (by decide) rfl ?_
  intro p e s m args below meth c s₁ B hml hv
  obtain ⟨rfl, hsz, hP, hK, hD0⟩ := hv
  have hx := B.exec
  have hb := B.bytes
  have hr := B.returns
  have htc := fun (w : Cond) (h : w ∈ wC) => atoms_spec (ws := (.code y_Reader_readChain prog_5_method_6_code 5 (some (.object "PatternMachine$Node")) :: wC)) B.pre w (List.mem_cons_of_mem _ h)
  have hown : s.vm.findClass "PatternMachine$Reader" = some m.cls := findClass_of_methodNamed B.named
  have hlocks := B.notSynchronized
  subst hsz
  have hD := hD0.self (sz := s.heap.size)
  generalize hAe : va_A [(h0, .inr (2, [.ref h1, .ref h2, .int 1, .int 0, .int x2, .int 0, .long 0, .long 0])), (h1, .inr (0, [.ref h4, .int 0])), (h2, .inl (k1, 46, .inr (.inr (.inr (.inr f9))))), (h3, .inr (1, [.int 0, .null, .null, .null, .int 0, .int 0, .int 0, .int 0, .long 0, .long 0, .int 0]))] s.heap.size = A at hD ⊢
  have hA : ∀ q : Nat, s.heap.size ≤ q → A q := fun q h => by rw [← hAe]; exact Or.inr h
  have hS : va_S A s.heap s.heap [] := va_S.rf
  have hP : va_P (dC, dI) clP [(h0, .inr (2, [.ref h1, .ref h2, .int 1, .int 0, .int x2, .int 0, .long 0, .long 0])), (h1, .inr (0, [.ref h4, .int 0])), (h2, .inl (k1, 46, .inr (.inr (.inr (.inr f9))))), (h3, .inr (1, [.int 0, .null, .null, .null, .int 0, .int 0, .int 0, .int 0, .long 0, .long 0, .int 0]))] s.heap := hP
  have hl := lv_entry ([.ref h0, .int 0]) (n := 5) (Nat.le_of_ble_eq_true rfl)
  rw [lg_entry_eq]
  generalize (lg_sl ([.ref h0, .int 0]) ++ List.replicate (5 - (lg_sl ([.ref h0, .int 0])).length) Slot.unset).toArray = ls at hl ⊢
  have hl : lv_has ls 5 [(0, .ref h0), (1, .int 0)] := hl
  refine lv_aload_n hx hb d_Reader_readChain_0 rfl (lv_at hl 0 rfl) ?_
  refine lv_iconst (v := 3) hx hb d_Reader_readChain_1 (by decide) ?_
  have hPc := hP.sub (ws' := [(h0, .inr (2, [.ref h1, .ref h2, .int 1, .int 0, .int x2, .int 0, .long 0, .long 0])), (h2, .inl (k1, 46, .inr (.inr (.inr (.inr f9))))), (h3, .inr (1, [.int 0, .null, .null, .null, .int 0, .int 0, .int 0, .int 0, .long 0, .long 0, .int 0]))]) [0, 2, 3] rfl
  have hDc := hD.sub (ws' := [(h0, .inr (2, [.ref h1, .ref h2, .int 1, .int 0, .int x2, .int 0, .long 0, .long 0])), (h2, .inl (k1, 46, .inr (.inr (.inr (.inr f9))))), (h3, .inr (1, [.int 0, .null, .null, .null, .int 0, .int 0, .int 0, .int 0, .long 0, .long 0, .int 0]))]) [0, 2, 3] (by decide) rfl
  have hKc := hK.sub (tys' := [(k1, (.object "PatternMachine$Node"))]) [0] rfl
  have hFc := va_free (wc := [(h0, .inr (2, [.ref h1, .ref h2, .int 1, .int 0, .int x2, .int 0, .long 0, .long 0])), (h2, .inl (k1, 46, .inr (.inr (.inr (.inr f9))))), (h3, .inr (1, [.int 0, .null, .null, .null, .int 0, .int 0, .int 0, .int 0, .long 0, .long 0, .int 0]))]) hD hS hA [0, 2, 3] rfl
  refine va_callr (va_runV (As := [.int 3]) (rest := []) ⟨hx, hb, hml, hown, htc⟩ (c_Reader_fresh1 l dC dI h0 h1 h2 h3 k1 s.heap.size 3 x2 f9 hf1) (cwV 1 htc (gV mw_96 mw_97 mw_98 mw_53 mw_95) rfl rfl rfl (by decide +kernel) ⟨Nat.le_of_ble_eq_true rfl, Nat.le_of_ble_eq_true rfl⟩) ⟨fun a U g mk q => by obtain ⟨q0, q1, qP, qK, qD⟩ := q; exact ⟨q0, q1, qP, va_K.moved (u := U) (U := U.calling g mk a) (Vm.Alike.refl U.vm) qK, qD⟩, va_recv hK hP (ci := 2) rfl (q0 := 0) rfl, fun U hU hW => ⟨rfl, by rw [hU], by rw [hU]; exact hPc, va_K.moved hW.alike hKc, hDc.weaken (fun _ _ _ _ => trivial)⟩⟩ rfl rfl hl.1 rfl (lv_room (Nat.le_of_ble_eq_true rfl)) d_Reader_readChain_2 ⟨Nat.le_of_ble_eq_true rfl, Nat.le_of_ble_eq_true rfl⟩) hS (fun q _ h => hFc q h) hFc (fun u r9 t H locs ht hvm hw hB hz1 hk1 hS => ?_)
  refine W.cs (cells' := 0) (slots' := 0) rfl rfl ?_
  obtain ⟨rfl, hP1, hK1, hD1⟩ := hB
  rw [ht] at hP1
  have hK1 := va_K.moved hvm.symm hK1
  obtain ⟨hP, hD⟩ := va_join (wr := [(h1, .inr (0, [.ref h4, .int 0]))]) (w1 := [(h0, .inr (2, [.ref h1, .ref h2, .int 2, .int 0, .int x2, .int 0, .long 0, .long 0])), (h2, .inl (k1, 46, .inr (.inr (.inr (.inr f9))))), (h3, .inr (1, [.int 3, .null, .null, .null, .int 0, .int 0, .int 0, .int 0, .long 0, .long 0, .int 0]))]) hP hD [0, 2, 3] [1] rfl rfl (by decide) (by decide) hk1 hFc hP1 hD1
  have hK := (hK.sub (tys' := []) [] rfl).app hK1
  have hP : va_P (dC, dI) clP [(h1, .inr (0, [.ref h4, .int 0])), (h0, .inr (2, [.ref h1, .ref h2, .int 2, .int 0, .int x2, .int 0, .long 0, .long 0])), (h2, .inl (k1, 46, .inr (.inr (.inr (.inr f9))))), (h3, .inr (1, [.int 3, .null, .null, .null, .int 0, .int 0, .int 0, .int 0, .long 0, .long 0, .int 0]))] H := hP
  have hD : va_D A [(h1, .inr (0, [.ref h4, .int 0])), (h0, .inr (2, [.ref h1, .ref h2, .int 2, .int 0, .int x2, .int 0, .long 0, .long 0])), (h2, .inl (k1, 46, .inr (.inr (.inr (.inr f9))))), (h3, .inr (1, [.int 3, .null, .null, .null, .int 0, .int 0, .int 0, .int 0, .long 0, .long 0, .int 0]))] := hD
  have hK : va_K (dC, dI) clP [(k1, (.object "PatternMachine$Node"))] s := hK
  refine lv_astore_n (lv' := [(2, .ref h3), (0, .ref h0), (1, .int 0)]) hx hb d_Reader_readChain_5 rfl hl (by decide) rfl (fun ls hl => ?_)
  refine lv_aload_n hx hb d_Reader_readChain_6 rfl (lv_at hl 0 rfl) ?_
  refine lv_ifnonnull (tgt := 12) hx hb d_Reader_readChain_7 rfl ?_
  refine lv_iconst (v := 0) hx hb d_Reader_readChain_12 (by decide) ?_
  refine lv_istore_n (lv' := [(3, .int 0), (2, .ref h3), (0, .ref h0), (1, .int 0)]) hx hb d_Reader_readChain_13 rfl hl (by decide) rfl (fun ls hl => ?_)
  refine lv_iload_n hx hb d_Reader_readChain_14 rfl (lv_at hl 0 rfl) ?_
  refine lv_bipush (v := 40) hx hb d_Reader_readChain_15 (by decide) ?_
  refine lv_icmp_ge (tgt := 53) hx hb d_Reader_readChain_17 rfl (fun h9 => absurd h9 (by decide)) (fun _ => ?_)
  refine lv_aload_n hx hb d_Reader_readChain_20 rfl (lv_at hl 2 rfl) ?_
  have hPc := hP.sub (ws' := [(h0, .inr (2, [.ref h1, .ref h2, .int 2, .int 0, .int x2, .int 0, .long 0, .long 0])), (h1, .inr (0, [.ref h4, .int 0]))]) [1, 0] rfl
  have hDc := hD.sub (ws' := [(h0, .inr (2, [.ref h1, .ref h2, .int 2, .int 0, .int x2, .int 0, .long 0, .long 0])), (h1, .inr (0, [.ref h4, .int 0]))]) [1, 0] (by decide) rfl
  have hKc := hK.sub (tys' := []) [] rfl
  have hFc := va_free (wc := [(h0, .inr (2, [.ref h1, .ref h2, .int 2, .int 0, .int x2, .int 0, .long 0, .long 0])), (h1, .inr (0, [.ref h4, .int 0]))]) hD hS hA [1, 0] rfl
  refine va_calli (va_runV (As := []) (rest := []) ⟨hx, hb, hml, hown, htc⟩ (c_Reader_chainEnds l dC dI h0 h1 h2 h4 H.size x2) (cwV 0 htc (gV mw_100 mw_101 mw_102 mw_53 mw_99) rfl rfl rfl (by decide +kernel) ⟨Nat.le_of_ble_eq_true rfl, Nat.le_of_ble_eq_true rfl⟩) ⟨fun a U g mk q => by obtain ⟨q0, q1, qP, qK, qD⟩ := q; exact ⟨q0, q1, qP, va_K.moved (u := U) (U := U.calling g mk a) (Vm.Alike.refl U.vm) qK, qD⟩, va_recv hK hP (ci := 2) rfl (q0 := 1) rfl, fun U hU hW => ⟨rfl, by rw [hU], by rw [hU]; exact hPc, va_K.moved hW.alike hKc, hDc.weaken (fun _ _ _ _ => trivial)⟩⟩ rfl rfl hl.1 rfl (lv_room (Nat.le_of_ble_eq_true rfl)) d_Reader_readChain_21 ⟨Nat.le_of_ble_eq_true rfl, Nat.le_of_ble_eq_true rfl⟩) hS (fun q _ h => hFc q h) hFc (fun r9 u t H locs ht hvm hw hB hz1 hk1 hS => ?_)
  refine W.cs (cells' := 0) (slots' := 0) rfl rfl ?_
  obtain ⟨hP1, hK1, hD1⟩ := hB
  rw [ht] at hP1
  have hK1 := va_K.moved hvm.symm hK1
  obtain ⟨hP, hD⟩ := va_join (wr := [(h2, .inl (k1, 46, .inr (.inr (.inr (.inr f9))))), (h3, .inr (1, [.int 3, .null, .null, .null, .int 0, .int 0, .int 0, .int 0, .long 0, .long 0, .int 0]))]) (w1 := [(h0, .inr (2, [.ref h1, .ref h2, .int 2, .int 0, .int x2, .int 0, .long 0, .long 0])), (h1, .inr (0, [.ref h4, .int 0]))]) hP hD [1, 0] [2, 3] rfl rfl (by decide) (by decide) hk1 hFc hP1 hD1
  have hK := (hK.sub (tys' := [(k1, (.object "PatternMachine$Node"))]) [0] rfl).app hK1
  have hP : va_P (dC, dI) clP [(h2, .inl (k1, 46, .inr (.inr (.inr (.inr f9))))), (h3, .inr (1, [.int 3, .null, .null, .null, .int 0, .int 0, .int 0, .int 0, .long 0, .long 0, .int 0])), (h0, .inr (2, [.ref h1, .ref h2, .int 2, .int 0, .int x2, .int 0, .long 0, .long 0])), (h1, .inr (0, [.ref h4, .int 0]))] H := hP
  have hD : va_D A [(h2, .inl (k1, 46, .inr (.inr (.inr (.inr f9))))), (h3, .inr (1, [.int 3, .null, .null, .null, .int 0, .int 0, .int 0, .int 0, .long 0, .long 0, .int 0])), (h0, .inr (2, [.ref h1, .ref h2, .int 2, .int 0, .int x2, .int 0, .long 0, .long 0])), (h1, .inr (0, [.ref h4, .int 0]))] := hD
  have hK : va_K (dC, dI) clP [(k1, (.object "PatternMachine$Node"))] s := hK
  obtain rfl : r9 = 1 := hw
  refine lv_if_ne (tgt := 53) hx hb d_Reader_readChain_24 rfl (fun _ => ?_) (fun h9 => absurd h9 (by decide))
  refine lv_aload_n hx hb d_Reader_readChain_53 rfl (lv_at hl 1 rfl) ?_
  refine W.widen (k := 0) (n := 0) (by decide) (by decide) ?_
  have hP9 := hP.sub (ws' := [(h0, .inr (2, [.ref h1, .ref h2, .int 2, .int 0, .int x2, .int 0, .long 0, .long 0])), (h1, .inr (0, [.ref h4, .int 0])), (h2, .inl (k1, 46, .inr (.inr (.inr (.inr f9))))), (h3, .inr (1, [.int 3, .null, .null, .null, .int 0, .int 0, .int 0, .int 0, .long 0, .long 0, .int 0]))]) [2, 3, 0, 1] rfl
  have hD9 := hD.sub (ws' := [(h0, .inr (2, [.ref h1, .ref h2, .int 2, .int 0, .int x2, .int 0, .long 0, .long 0])), (h1, .inr (0, [.ref h4, .int 0])), (h2, .inl (k1, 46, .inr (.inr (.inr (.inr f9))))), (h3, .inr (1, [.int 3, .null, .null, .null, .int 0, .int 0, .int 0, .int 0, .long 0, .long 0, .int 0]))]) [2, 3, 0, 1] (by decide) rfl
  have hK9 := hK.sub (tys' := [(k1, (.object "PatternMachine$Node"))]) [0] rfl
  exact W.aret (v := .ref h3) hx hb hr (Or.inl ⟨_, rfl⟩) (Or.inr ⟨_, rfl⟩) (fun t ht hW => ⟨⟨(), h3, rfl, trivial, rfl, by rw [ht]; exact hP9, va_K.moved hW.alike hK9, hD9⟩, hS.F ht⟩) hS.2.2 d_Reader_readChain_54
set_option maxHeartbeats 4000000 in
set_option maxRecDepth 100000 in
theorem c_Reader_readPattern (l : Launch) (dC : Nat → ClassId) (dI : Nat → Nat → Nat) (h0 h1 h2 h4 h3 h5 : Nat) (k1 : ClassId) (sz : Nat) (x2 : Int32) (f9 : Nat → Option Nat) (hf0 : f9 0 = some h3) (hf1 : f9 1 = some h5) : Met l y_Reader_readPattern (.code y_Reader_readPattern prog_5_method_5_code 5 (some (.object "PatternMachine$Node")) :: wC) ({ frames := 3, cells := 0, slots := 0, locals := 67 }) (va_Pc [.ref h0, .int 0] (fun U => U.heap.size = sz ∧ va_P (dC, dI) clP [(h0, .inr (2, [.ref h1, .ref h2, .int 0, .int 0, .int x2, .int 0, .long 0, .long 0])), (h1, .inr (0, [.ref h4, .int 0])), (h2, .inl (k1, 46, .inr (.inr (.inr (.inr f9))))), (h3, .inr (1, [.int 0, .null, .null, .null, .int 0, .int 0, .int 0, .int 0, .long 0, .long 0, .int 0])), (h5, .inr (1, [.int 0, .null, .null, .null, .int 0, .int 0, .int 0, .int 0, .long 0, .long 0, .int 0]))] U.heap ∧ va_K (dC, dI) clP [(k1, (.object "PatternMachine$Node"))] U ∧ va_D (fun _ => True) [(h0, .inr (2, [.ref h1, .ref h2, .int 0, .int 0, .int x2, .int 0, .long 0, .long 0])), (h1, .inr (0, [.ref h4, .int 0])), (h2, .inl (k1, 46, .inr (.inr (.inr (.inr f9))))), (h3, .inr (1, [.int 0, .null, .null, .null, .int 0, .int 0, .int 0, .int 0, .long 0, .long 0, .int 0])), (h5, .inr (1, [.int 0, .null, .null, .null, .int 0, .int 0, .int 0, .int 0, .long 0, .long 0, .int 0]))])) (va_Qr (fun _ : Unit => True) (fun (_ : Unit) (r : Nat) (t : State) => h3 = r ∧ va_P (dC, dI) clP [(h0, .inr (2, [.ref h1, .ref h2, .int 2, .int 0, .int x2, .int 0, .long 0, .long 0])), (h1, .inr (0, [.ref h4, .int 0])), (h2, .inl (k1, 46, .inr (.inr (.inr (.inr f9))))), (h3, .inr (1, [.int 2, .ref h5, .ref h5, .null, .int 0, .int 0, .int 0, .int 0, .long 0, .long 0, .int 0])), (h5, .inr (1, [.int 3, .null, .null, .null, .int 0, .int 0, .int 0, .int 0, .long 0, .long 0, .int 0]))] t.heap ∧ va_K (dC, dI) clP [(k1, (.object "PatternMachine$Node"))] t ∧ va_D (va_A [(h0, .inr (2, [.ref h1, .ref h2, .int 0, .int 0, .int x2, .int 0, .long 0, .long 0])), (h1, .inr (0, [.ref h4, .int 0])), (h2, .inl (k1, 46, .inr (.inr (.inr (.inr f9))))), (h3, .inr (1, [.int 0, .null, .null, .null, .int 0, .int 0, .int 0, .int 0, .long 0, .long 0, .int 0])), (h5, .inr (1, [.int 0, .null, .null, .null, .int 0, .int 0, .int 0, .int 0, .long 0, .long 0, .int 0]))] sz) [(h0, .inr (2, [.ref h1, .ref h2, .int 2, .int 0, .int x2, .int 0, .long 0, .long 0])), (h1, .inr (0, [.ref h4, .int 0])), (h2, .inl (k1, 46, .inr (.inr (.inr (.inr f9))))), (h3, .inr (1, [.int 2, .ref h5, .ref h5, .null, .int 0, .int 0, .int 0, .int 0, .long 0, .long 0, .int 0])), (h5, .inr (1, [.int 3, .null, .null, .null, .int 0, .int 0, .int 0, .int 0, .long 0, .long 0, .int 0]))]) (va_A [(h0, .inr (2, [.ref h1, .ref h2, .int 0, .int 0, .int x2, .int 0, .long 0, .long 0])), (h1, .inr (0, [.ref h4, .int 0])), (h2, .inl (k1, 46, .inr (.inr (.inr (.inr f9))))), (h3, .inr (1, [.int 0, .null, .null, .null, .int 0, .int 0, .int 0, .int 0, .long 0, .long 0, .int 0])), (h5, .inr (1, [.int 0, .null, .null, .null, .int 0, .int 0, .int 0, .int 0, .long 0, .long 0, .int 0]))] sz)) 0 0 (va_A [(h0, .inr (2, [.ref h1, .ref h2, .int 0, .int 0, .int x2, .int 0, .long 0, .long 0])), (h1, .inr (0, [.ref h4, .int 0])), (h2, .inl (k1, 46, .inr (.inr (.inr (.inr f9))))), (h3, .inr (1, [.int 0, .null, .null, .null, .int 0, .int 0, .int 0, .int 0, .long 0, .long 0, .int 0])), (h5, .inr (1, [.int 0, .null, .null, .null, .int 0, .int 0, .int 0, .int 0, .long 0, .long 0, .int 0]))] sz) := by
  refine Met.ofW (cc := prog_5_method_5_code) (maxL := 5) (ret := (some (.object "PatternMachine$Node"))) (by decide) rfl ?_
  intro p e s m args below meth c s₁ B hml hv
  obtain ⟨rfl, hsz, hP, hK, hD0⟩ := hv
  have hx := B.exec
  have hb := B.bytes
  have hr := B.returns
  have htc := fun (w : Cond) (h : w ∈ wC) => atoms_spec (ws := (.code y_Reader_readPattern prog_5_method_5_code 5 (some (.object "PatternMachine$Node")) :: wC)) B.pre w (List.mem_cons_of_mem _ h)
  have hown : s.vm.findClass "PatternMachine$Reader" = some m.cls := findClass_of_methodNamed B.named
  have hlocks := B.notSynchronized
  subst hsz
  have hD := hD0.self (sz := s.heap.size)
  generalize hAe : va_A [(h0, .inr (2, [.ref h1, .ref h2, .int 0, .int 0, .int x2, .int 0, .long 0, .long 0])), (h1, .inr (0, [.ref h4, .int 0])), (h2, .inl (k1, 46, .inr (.inr (.inr (.inr f9))))), (h3, .inr (1, [.int 0, .null, .null, .null, .int 0, .int 0, .int 0, .int 0, .long 0, .long 0, .int 0])), (h5, .inr (1, [.int 0, .null, .null, .null, .int 0, .int 0, .int 0, .int 0, .long 0, .long 0, .int 0]))] s.heap.size = A at hD ⊢
  have hA : ∀ q : Nat, s.heap.size ≤ q → A q := fun q h => by rw [← hAe]; exact Or.inr h
  have hS : va_S A s.heap s.heap [] := va_S.rf
  have hP : va_P (dC, dI) clP [(h0, .inr (2, [.ref h1, .ref h2, .int 0, .int 0, .int x2, .int 0, .long 0, .long 0])), (h1, .inr (0, [.ref h4, .int 0])), (h2, .inl (k1, 46, .inr (.inr (.inr (.inr f9))))), (h3, .inr (1, [.int 0, .null, .null, .null, .int 0, .int 0, .int 0, .int 0, .long 0, .long 0, .int 0])), (h5, .inr (1, [.int 0, .null, .null, .null, .int 0, .int 0, .int 0, .int 0, .long 0, .long 0, .int 0]))] s.heap := hP
  have hl := lv_entry ([.ref h0, .int 0]) (n := 5) (Nat.le_of_ble_eq_true rfl)
  rw [lg_entry_eq]
  generalize (lg_sl ([.ref h0, .int 0]) ++ List.replicate (5 - (lg_sl ([.ref h0, .int 0])).length) Slot.unset).toArray = ls at hl ⊢
  have hl : lv_has ls 5 [(0, .ref h0), (1, .int 0)] := hl
  refine lv_aload_n hx hb d_Reader_readPattern_0 rfl (lv_at hl 0 rfl) ?_
  refine lv_iconst (v := 2) hx hb d_Reader_readPattern_1 (by decide) ?_
  have hPc := hP.sub (ws' := [(h0, .inr (2, [.ref h1, .ref h2, .int 0, .int 0, .int x2, .int 0, .long 0, .long 0])), (h2, .inl (k1, 46, .inr (.inr (.inr (.inr f9))))), (h3, .inr (1, [.int 0, .null, .null, .null, .int 0, .int 0, .int 0, .int 0, .long 0, .long 0, .int 0]))]) [0, 2, 3] rfl
  have hDc := hD.sub (ws' := [(h0, .inr (2, [.ref h1, .ref h2, .int 0, .int 0, .int x2, .int 0, .long 0, .long 0])), (h2, .inl (k1, 46, .inr (.inr (.inr (.inr f9))))), (h3, .inr (1, [.int 0, .null, .null, .null, .int 0, .int 0, .int 0, .int 0, .long 0, .long 0, .int 0]))]) [0, 2, 3] (by decide) rfl
  have hKc := hK.sub (tys' := [(k1, (.object "PatternMachine$Node"))]) [0] rfl
  have hFc := va_free (wc := [(h0, .inr (2, [.ref h1, .ref h2, .int 0, .int 0, .int x2, .int 0, .long 0, .long 0])), (h2, .inl (k1, 46, .inr (.inr (.inr (.inr f9))))), (h3, .inr (1, [.int 0, .null, .null, .null, .int 0, .int 0, .int 0, .int 0, .long 0, .long 0, .int 0]))]) hD hS hA [0, 2, 3] rfl
  refine va_callr (va_runV (As := [.int 2]) (rest := []) ⟨hx, hb, hml, hown, htc⟩ (c_Reader_fresh0 l dC dI h0 h1 h2 h3 k1 s.heap.size 2 x2 f9 hf0) (cwV 1 htc (gV mw_96 mw_97 mw_98 mw_53 mw_95) rfl rfl rfl (by decide +kernel) ⟨Nat.le_of_ble_eq_true rfl, Nat.le_of_ble_eq_true rfl⟩) ⟨fun a U g mk q => by obtain ⟨q0, q1, qP, qK, qD⟩ := q; exact ⟨q0, q1, qP, va_K.moved (u := U) (U := U.calling g mk a) (Vm.Alike.refl U.vm) qK, qD⟩, va_recv hK hP (ci := 2) rfl (q0 := 0) rfl, fun U hU hW => ⟨rfl, by rw [hU], by rw [hU]; exact hPc, va_K.moved hW.alike hKc, hDc.weaken (fun _ _ _ _ => trivial)⟩⟩ rfl rfl hl.1 rfl (lv_room (Nat.le_of_ble_eq_true rfl)) d_Reader_readPattern_2 ⟨Nat.le_of_ble_eq_true rfl, Nat.le_of_ble_eq_true rfl⟩) hS (fun q _ h => hFc q h) hFc (fun u r9 t H locs ht hvm hw hB hz1 hk1 hS => ?_)
  refine W.cs (cells' := 0) (slots' := 0) rfl rfl ?_
  obtain ⟨rfl, hP1, hK1, hD1⟩ := hB
  rw [ht] at hP1
  have hK1 := va_K.moved hvm.symm hK1
  obtain ⟨hP, hD⟩ := va_join (wr := [(h1, .inr (0, [.ref h4, .int 0])), (h5, .inr (1, [.int 0, .null, .null, .null, .int 0, .int 0, .int 0, .int 0, .long 0, .long 0, .int 0]))]) (w1 := [(h0, .inr (2, [.ref h1, .ref h2, .int 1, .int 0, .int x2, .int 0, .long 0, .long 0])), (h2, .inl (k1, 46, .inr (.inr (.inr (.inr f9))))), (h3, .inr (1, [.int 2, .null, .null, .null, .int 0, .int 0, .int 0, .int 0, .long 0, .long 0, .int 0]))]) hP hD [0, 2, 3] [1, 4] rfl rfl (by decide) (by decide) hk1 hFc hP1 hD1
  have hK := (hK.sub (tys' := []) [] rfl).app hK1
  have hP : va_P (dC, dI) clP [(h1, .inr (0, [.ref h4, .int 0])), (h5, .inr (1, [.int 0, .null, .null, .null, .int 0, .int 0, .int 0, .int 0, .long 0, .long 0, .int 0])), (h0, .inr (2, [.ref h1, .ref h2, .int 1, .int 0, .int x2, .int 0, .long 0, .long 0])), (h2, .inl (k1, 46, .inr (.inr (.inr (.inr f9))))), (h3, .inr (1, [.int 2, .null, .null, .null, .int 0, .int 0, .int 0, .int 0, .long 0, .long 0, .int 0]))] H := hP
  have hD : va_D A [(h1, .inr (0, [.ref h4, .int 0])), (h5, .inr (1, [.int 0, .null, .null, .null, .int 0, .int 0, .int 0, .int 0, .long 0, .long 0, .int 0])), (h0, .inr (2, [.ref h1, .ref h2, .int 1, .int 0, .int x2, .int 0, .long 0, .long 0])), (h2, .inl (k1, 46, .inr (.inr (.inr (.inr f9))))), (h3, .inr (1, [.int 2, .null, .null, .null, .int 0, .int 0, .int 0, .int 0, .long 0, .long 0, .int 0]))] := hD
  have hK : va_K (dC, dI) clP [(k1, (.object "PatternMachine$Node"))] s := hK
  refine lv_astore_n (lv' := [(2, .ref h3), (0, .ref h0), (1, .int 0)]) hx hb d_Reader_readPattern_5 rfl hl (by decide) rfl (fun ls hl => ?_)
  refine lv_aload_n hx hb d_Reader_readPattern_6 rfl (lv_at hl 0 rfl) ?_
  refine lv_ifnonnull (tgt := 12) hx hb d_Reader_readPattern_7 rfl ?_
  refine lv_iconst (v := 0) hx hb d_Reader_readPattern_12 (by decide) ?_
  refine lv_istore_n (lv' := [(3, .int 0), (2, .ref h3), (0, .ref h0), (1, .int 0)]) hx hb d_Reader_readPattern_13 rfl hl (by decide) rfl (fun ls hl => ?_)
  refine lv_iload_n hx hb d_Reader_readPattern_14 rfl (lv_at hl 0 rfl) ?_
  refine lv_bipush (v := 40) hx hb d_Reader_readPattern_15 (by decide) ?_
  refine lv_icmp_gt (tgt := 68) hx hb d_Reader_readPattern_17 rfl (fun h9 => absurd h9 (by decide)) (fun _ => ?_)
  refine lv_aload_n hx hb d_Reader_readPattern_20 rfl (lv_at hl 2 rfl) ?_
  refine lv_iload_n hx hb d_Reader_readPattern_21 rfl (lv_at hl 3 rfl) ?_
  have hPc := hP.sub (ws' := [(h0, .inr (2, [.ref h1, .ref h2, .int 1, .int 0, .int x2, .int 0, .long 0, .long 0])), (h1, .inr (0, [.ref h4, .int 0])), (h2, .inl (k1, 46, .inr (.inr (.inr (.inr f9))))), (h5, .inr (1, [.int 0, .null, .null, .null, .int 0, .int 0, .int 0, .int 0, .long 0, .long 0, .int 0]))]) [2, 0, 3, 1] rfl
  have hDc := hD.sub (ws' := [(h0, .inr (2, [.ref h1, .ref h2, .int 1, .int 0, .int x2, .int 0, .long 0, .long 0])), (h1, .inr (0, [.ref h4, .int 0])), (h2, .inl (k1, 46, .inr (.inr (.inr (.inr f9))))), (h5, .inr (1, [.int 0, .null, .null, .null, .int 0, .int 0, .int 0, .int 0, .long 0, .long 0, .int 0]))]) [2, 0, 3, 1] (by decide) rfl
  have hKc := hK.sub (tys' := [(k1, (.object "PatternMachine$Node"))]) [0] rfl
  have hFc := va_free (wc := [(h0, .inr (2, [.ref h1, .ref h2, .int 1, .int 0, .int x2, .int 0, .long 0, .long 0])), (h1, .inr (0, [.ref h4, .int 0])), (h2, .inl (k1, 46, .inr (.inr (.inr (.inr f9))))), (h5, .inr (1, [.int 0, .null, .null, .null, .int 0, .int 0, .int 0, .int 0, .long 0, .long 0, .int 0]))]) hD hS hA [2, 0, 3, 1] rfl
  refine va_callr (va_runV (As := [.int 0]) (rest := []) ⟨hx, hb, hml, hown, htc⟩ (c_Reader_readChain l dC dI h0 h1 h2 h4 h5 k1 H.size x2 f9 hf1) (cwV 1 htc (gV mw_104 mw_105 mw_106 mw_53 mw_103) rfl rfl rfl (by decide +kernel) ⟨Nat.le_of_ble_eq_true rfl, Nat.le_of_ble_eq_true rfl⟩) ⟨fun a U g mk q => by obtain ⟨q0, q1, qP, qK, qD⟩ := q; exact ⟨q0, q1, qP, va_K.moved (u := U) (U := U.calling g mk a) (Vm.Alike.refl U.vm) qK, qD⟩, va_recv hK hP (ci := 2) rfl (q0 := 2) rfl, fun U hU hW => ⟨rfl, by rw [hU], by rw [hU]; exact hPc, va_K.moved hW.alike hKc, hDc.weaken (fun _ _ _ _ => trivial)⟩⟩ rfl rfl hl.1 rfl (lv_room (Nat.le_of_ble_eq_true rfl)) d_Reader_readPattern_22 ⟨Nat.le_of_ble_eq_true rfl, Nat.le_of_ble_eq_true rfl⟩) hS (fun q _ h => hFc q h) hFc (fun u r9 t H locs ht hvm hw hB hz1 hk1 hS => ?_)
  refine W.cs (cells' := 0) (slots' := 0) rfl rfl ?_
  obtain ⟨rfl, hP1, hK1, hD1⟩ := hB
  rw [ht] at hP1
  have hK1 := va_K.moved hvm.symm hK1
  obtain ⟨hP, hD⟩ := va_join (wr := [(h3, .inr (1, [.int 2, .null, .null, .null, .int 0, .int 0, .int 0, .int 0, .long 0, .long 0, .int 0]))]) (w1 := [(h0, .inr (2, [.ref h1, .ref h2, .int 2, .int 0, .int x2, .int 0, .long 0, .long 0])), (h1, .inr (0, [.ref h4, .int 0])), (h2, .inl (k1, 46, .inr (.inr (.inr (.inr f9))))), (h5, .inr (1, [.int 3, .null, .null, .null, .int 0, .int 0, .int 0, .int 0, .long 0, .long 0, .int 0]))]) hP hD [2, 0, 3, 1] [4] rfl rfl (by decide) (by decide) hk1 hFc hP1 hD1
  have hK := (hK.sub (tys' := []) [] rfl).app hK1
  have hP : va_P (dC, dI) clP [(h3, .inr (1, [.int 2, .null, .null, .null, .int 0, .int 0, .int 0, .int 0, .long 0, .long 0, .int 0])), (h0, .inr (2, [.ref h1, .ref h2, .int 2, .int 0, .int x2, .int 0, .long 0, .long 0])), (h1, .inr (0, [.ref h4, .int 0])), (h2, .inl (k1, 46, .inr (.inr (.inr (.inr f9))))), (h5, .inr (1, [.int 3, .null, .null, .null, .int 0, .int 0, .int 0, .int 0, .long 0, .long 0, .int 0]))] H := hP
  have hD : va_D A [(h3, .inr (1, [.int 2, .null, .null, .null, .int 0, .int 0, .int 0, .int 0, .long 0, .long 0, .int 0])), (h0, .inr (2, [.ref h1, .ref h2, .int 2, .int 0, .int x2, .int 0, .long 0, .long 0])), (h1, .inr (0, [.ref h4, .int 0])), (h2, .inl (k1, 46, .inr (.inr (.inr (.inr f9))))), (h5, .inr (1, [.int 3, .null, .null, .null, .int 0, .int 0, .int 0, .int 0, .long 0, .long 0, .int 0]))] := hD
  have hK : va_K (dC, dI) clP [(k1, (.object "PatternMachine$Node"))] s := hK
  refine lv_astore (lv' := [(4, .ref h5), (3, .int 0), (2, .ref h3), (0, .ref h0), (1, .int 0)]) hx hb d_Reader_readPattern_25 hl (by decide) rfl (fun ls hl => ?_)
  refine lv_aload hx hb d_Reader_readPattern_27 (lv_at hl 0 rfl) ?_
  refine lv_ifnonnull (tgt := 34) hx hb d_Reader_readPattern_29 rfl ?_
  refine lv_aload_n hx hb d_Reader_readPattern_34 rfl (lv_at hl 2 rfl) ?_
  refine lv_aload hx hb d_Reader_readPattern_35 (lv_at hl 0 rfl) ?_
  have hPc := hP.sub (ws' := [(h3, .inr (1, [.int 2, .null, .null, .null, .int 0, .int 0, .int 0, .int 0, .long 0, .long 0, .int 0])), (h5, .inr (1, [.int 3, .null, .null, .null, .int 0, .int 0, .int 0, .int 0, .long 0, .long 0, .int 0]))]) [0, 4] rfl
  have hDc := hD.sub (ws' := [(h3, .inr (1, [.int 2, .null, .null, .null, .int 0, .int 0, .int 0, .int 0, .long 0, .long 0, .int 0])), (h5, .inr (1, [.int 3, .null, .null, .null, .int 0, .int 0, .int 0, .int 0, .long 0, .long 0, .int 0]))]) [0, 4] (by decide) rfl
  have hKc := hK.sub (tys' := []) [] rfl
  have hFc := va_free (wc := [(h3, .inr (1, [.int 2, .null, .null, .null, .int 0, .int 0, .int 0, .int 0, .long 0, .long 0, .int 0])), (h5, .inr (1, [.int 3, .null, .null, .null, .int 0, .int 0, .int 0, .int 0, .long 0, .long 0, .int 0]))]) hD hS hA [0, 4] rfl
  refine va_callv (va_runV (As := [.ref h5]) (rest := []) ⟨hx, hb, hml, hown, htc⟩ (c_Node_append l dC dI h3 h5 H.size) (cwV 1 htc (gV mw_108 mw_109 mw_110 mw_38 mw_107) rfl rfl rfl (by decide +kernel) ⟨Nat.le_of_ble_eq_true rfl, Nat.le_of_ble_eq_true rfl⟩) ⟨fun a U g mk q => by obtain ⟨q0, q1, qP, qK, qD⟩ := q; exact ⟨q0, q1, qP, va_K.moved (u := U) (U := U.calling g mk a) (Vm.Alike.refl U.vm) qK, qD⟩, va_recv hK hP (ci := 1) rfl (q0 := 0) rfl, fun U hU hW => ⟨rfl, by rw [hU], by rw [hU]; exact hPc, va_K.moved hW.alike hKc, hDc.weaken (fun _ _ _ _ => trivial)⟩⟩ rfl rfl hl.1 rfl (lv_room (Nat.le_of_ble_eq_true rfl)) d_Reader_readPattern_37 ⟨Nat.le_of_ble_eq_true rfl, Nat.le_of_ble_eq_true rfl⟩) hS (fun q _ h => hFc q h) hFc (fun u t H locs ht hvm hw hB hz1 hk1 hS => ?_)
  refine W.cs (cells' := 0) (slots' := 0) rfl rfl ?_
  obtain ⟨hP1, hK1, hD1⟩ := hB
  rw [ht] at hP1
  have hK1 := va_K.moved hvm.symm hK1
  obtain ⟨hP, hD⟩ := va_join (wr := [(h0, .inr (2, [.ref h1, .ref h2, .int 2, .int 0, .int x2, .int 0, .long 0, .long 0])), (h1, .inr (0, [.ref h4, .int 0])), (h2, .inl (k1, 46, .inr (.inr (.inr (.inr f9)))))]) (w1 := [(h3, .inr (1, [.int 2, .ref h5, .ref h5, .null, .int 0, .int 0, .int 0, .int 0, .long 0, .long 0, .int 0])), (h5, .inr (1, [.int 3, .null, .null, .null, .int 0, .int 0, .int 0, .int 0, .long 0, .long 0, .int 0]))]) hP hD [0, 4] [1, 2, 3] rfl rfl (by decide) (by decide) hk1 hFc hP1 hD1
  have hK := (hK.sub (tys' := [(k1, (.object "PatternMachine$Node"))]) [0] rfl).app hK1
  have hP : va_P (dC, dI) clP [(h0, .inr (2, [.ref h1, .ref h2, .int 2, .int 0, .int x2, .int 0, .long 0, .long 0])), (h1, .inr (0, [.ref h4, .int 0])), (h2, .inl (k1, 46, .inr (.inr (.inr (.inr f9))))), (h3, .inr (1, [.int 2, .ref h5, .ref h5, .null, .int 0, .int 0, .int 0, .int 0, .long 0, .long 0, .int 0])), (h5, .inr (1, [.int 3, .null, .null, .null, .int 0, .int 0, .int 0, .int 0, .long 0, .long 0, .int 0]))] H := hP
  have hD : va_D A [(h0, .inr (2, [.ref h1, .ref h2, .int 2, .int 0, .int x2, .int 0, .long 0, .long 0])), (h1, .inr (0, [.ref h4, .int 0])), (h2, .inl (k1, 46, .inr (.inr (.inr (.inr f9))))), (h3, .inr (1, [.int 2, .ref h5, .ref h5, .null, .int 0, .int 0, .int 0, .int 0, .long 0, .long 0, .int 0])), (h5, .inr (1, [.int 3, .null, .null, .null, .int 0, .int 0, .int 0, .int 0, .long 0, .long 0, .int 0]))] := hD
  have hK : va_K (dC, dI) clP [(k1, (.object "PatternMachine$Node"))] s := hK
  refine lv_aload_n hx hb d_Reader_readPattern_40 rfl (lv_at hl 3 rfl) ?_
  refine lv_bipush (v := 124) hx hb d_Reader_readPattern_41 (by decide) ?_
  have hPc := hP.sub (ws' := [(h0, .inr (2, [.ref h1, .ref h2, .int 2, .int 0, .int x2, .int 0, .long 0, .long 0])), (h1, .inr (0, [.ref h4, .int 0]))]) [0, 1] rfl
  have hDc := hD.sub (ws' := [(h0, .inr (2, [.ref h1, .ref h2, .int 2, .int 0, .int x2, .int 0, .long 0, .long 0])), (h1, .inr (0, [.ref h4, .int 0]))]) [0, 1] (by decide) rfl
  have hKc := hK.sub (tys' := []) [] rfl
  have hFc := va_free (wc := [(h0, .inr (2, [.ref h1, .ref h2, .int 2, .int 0, .int x2, .int 0, .long 0, .long 0])), (h1, .inr (0, [.ref h4, .int 0]))]) hD hS hA [0, 1] rfl
  refine va_calli (va_runV (As := [.int 124]) (rest := []) ⟨hx, hb, hml, hown, htc⟩ (c_Reader_skip l dC dI h0 h1 h2 h4 H.size x2) (cwV 1 htc (gV mw_112 mw_113 mw_114 mw_53 mw_111) rfl rfl rfl (by decide +kernel) ⟨Nat.le_of_ble_eq_true rfl, Nat.le_of_ble_eq_true rfl⟩) ⟨fun a U g mk q => by obtain ⟨q0, q1, qP, qK, qD⟩ := q; exact ⟨q0, q1, qP, va_K.moved (u := U) (U := U.calling g mk a) (Vm.Alike.refl U.vm) qK, qD⟩, va_recv hK hP (ci := 2) rfl (q0 := 0) rfl, fun U hU hW => ⟨rfl, by rw [hU], by rw [hU]; exact hPc, va_K.moved hW.alike hKc, hDc.weaken (fun _ _ _ _ => trivial)⟩⟩ rfl rfl hl.1 rfl (lv_room (Nat.le_of_ble_eq_true rfl)) d_Reader_readPattern_43 ⟨Nat.le_of_ble_eq_true rfl, Nat.le_of_ble_eq_true rfl⟩) hS (fun q _ h => hFc q h) hFc (fun r9 u t H locs ht hvm hw hB hz1 hk1 hS => ?_)
  refine W.cs (cells' := 0) (slots' := 0) rfl rfl ?_
  obtain ⟨hP1, hK1, hD1⟩ := hB
  rw [ht] at hP1
  have hK1 := va_K.moved hvm.symm hK1
  obtain ⟨hP, hD⟩ := va_join (wr := [(h2, .inl (k1, 46, .inr (.inr (.inr (.inr f9))))), (h3, .inr (1, [.int 2, .ref h5, .ref h5, .null, .int 0, .int 0, .int 0, .int 0, .long 0, .long 0, .int 0])), (h5, .inr (1, [.int 3, .null, .null, .null, .int 0, .int 0, .int 0, .int 0, .long 0, .long 0, .int 0]))]) (w1 := [(h0, .inr (2, [.ref h1, .ref h2, .int 2, .int 0, .int x2, .int 0, .long 0, .long 0])), (h1, .inr (0, [.ref h4, .int 0]))]) hP hD [0, 1] [2, 3, 4] rfl rfl (by decide) (by decide) hk1 hFc hP1 hD1
  have hK := (hK.sub (tys' := [(k1, (.object "PatternMachine$Node"))]) [0] rfl).app hK1
  have hP : va_P (dC, dI) clP [(h2, .inl (k1, 46, .inr (.inr (.inr (.inr f9))))), (h3, .inr (1, [.int 2, .ref h5, .ref h5, .null, .int 0, .int 0, .int 0, .int 0, .long 0, .long 0, .int 0])), (h5, .inr (1, [.int 3, .null, .null, .null, .int 0, .int 0, .int 0, .int 0, .long 0, .long 0, .int 0])), (h0, .inr (2, [.ref h1, .ref h2, .int 2, .int 0, .int x2, .int 0, .long 0, .long 0])), (h1, .inr (0, [.ref h4, .int 0]))] H := hP
  have hD : va_D A [(h2, .inl (k1, 46, .inr (.inr (.inr (.inr f9))))), (h3, .inr (1, [.int 2, .ref h5, .ref h5, .null, .int 0, .int 0, .int 0, .int 0, .long 0, .long 0, .int 0])), (h5, .inr (1, [.int 3, .null, .null, .null, .int 0, .int 0, .int 0, .int 0, .long 0, .long 0, .int 0])), (h0, .inr (2, [.ref h1, .ref h2, .int 2, .int 0, .int x2, .int 0, .long 0, .long 0])), (h1, .inr (0, [.ref h4, .int 0]))] := hD
  have hK : va_K (dC, dI) clP [(k1, (.object "PatternMachine$Node"))] s := hK
  obtain rfl : r9 = 0 := hw
  refine lv_if_ne (tgt := 52) hx hb d_Reader_readPattern_46 rfl (fun h9 => absurd (by decide) h9) (fun _ => ?_)
  refine lv_goto (tgt := 68) hx hb d_Reader_readPattern_49 rfl ?_
  refine lv_aload_n hx hb d_Reader_readPattern_68 rfl (lv_at hl 2 rfl) ?_
  refine W.widen (k := 0) (n := 0) (by decide) (by decide) ?_
  have hP9 := hP.sub (ws' := [(h0, .inr (2, [.ref h1, .ref h2, .int 2, .int 0, .int x2, .int 0, .long 0, .long 0])), (h1, .inr (0, [.ref h4, .int 0])), (h2, .inl (k1, 46, .inr (.inr (.inr (.inr f9))))), (h3, .inr (1, [.int 2, .ref h5, .ref h5, .null, .int 0, .int 0, .int 0, .int 0, .long 0, .long 0, .int 0])), (h5, .inr (1, [.int 3, .null, .null, .null, .int 0, .int 0, .int 0, .int 0, .long 0, .long 0, .int 0]))]) [3, 4, 0, 1, 2] rfl
  have hD9 := hD.sub (ws' := [(h0, .inr (2, [.ref h1, .ref h2, .int 2, .int 0, .int x2, .int 0, .long 0, .long 0])), (h1, .inr (0, [.ref h4, .int 0])), (h2, .inl (k1, 46, .inr (.inr (.inr (.inr f9))))), (h3, .inr (1, [.int 2, .ref h5, .ref h5, .null, .int 0, .int 0, .int 0, .int 0, .long 0, .long 0, .int 0])), (h5, .inr (1, [.int 3, .null, .null, .null, .int 0, .int 0, .int 0, .int 0, .long 0, .long 0, .int 0]))]) [3, 4, 0, 1, 2] (by decide) rfl
  have hK9 := hK.sub (tys' := [(k1, (.object "PatternMachine$Node"))]) [0] rfl
  exact W.aret (v := .ref h3) hx hb hr (Or.inl ⟨_, rfl⟩) (Or.inr ⟨_, rfl⟩) (fun t ht hW => ⟨⟨(), h3, rfl, trivial, rfl, by rw [ht]; exact hP9, va_K.moved hW.alike hK9, hD9⟩, hS.F ht⟩) hS.2.2 d_Reader_readPattern_69
set_option maxHeartbeats 4000000 in
set_option maxRecDepth 100000 in
theorem c_Reader_read (l : Launch) (dC : Nat → ClassId) (dI : Nat → Nat → Nat) (h0 h1 h2 h4 h3 h5 : Nat) (k1 : ClassId) (sz : Nat) (x2 : Int32) (f9 : Nat → Option Nat) (hf0 : f9 0 = some h3) (hf1 : f9 1 = some h5) : Met l y_Reader_read (.code y_Reader_read prog_5_method_2_code 3 (some (.object "PatternMachine$Node")) :: wC) ({ frames := 4, cells := 0, slots := 0, locals := 91 }) (va_Pc [.ref h0, .int x2] (fun U => U.heap.size = sz ∧ va_P (dC, dI) clP [(h0, .inr (2, [.ref h1, .ref h2, .int 0, .int 0, .int 0, .int 0, .long 0, .long 0])), (h1, .inr (0, [.ref h4, .int 0])), (h2, .inl (k1, 46, .inr (.inr (.inr (.inr f9))))), (h3, .inr (1, [.int 0, .null, .null, .null, .int 0, .int 0, .int 0, .int 0, .long 0, .long 0, .int 0])), (h5, .inr (1, [.int 0, .null, .null, .null, .int 0, .int 0, .int 0, .int 0, .long 0, .long 0, .int 0]))] U.heap ∧ va_K (dC, dI) clP [(k1, (.object "PatternMachine$Node"))] U ∧ va_D (fun _ => True) [(h0, .inr (2, [.ref h1, .ref h2, .int 0, .int 0, .int 0, .int 0, .long 0, .long 0])), (h1, .inr (0, [.ref h4, .int 0])), (h2, .inl (k1, 46, .inr (.inr (.inr (.inr f9))))), (h3, .inr (1, [.int 0, .null, .null, .null, .int 0, .int 0, .int 0, .int 0, .long 0, .long 0, .int 0])), (h5, .inr (1, [.int 0, .null, .null, .null, .int 0, .int 0, .int 0, .int 0, .long 0, .long 0, .int 0]))])) (va_Qr (fun _ : Unit => True) (fun (_ : Unit) (r : Nat) (t : State) => h3 = r ∧ va_P (dC, dI) clP [(h0, .inr (2, [.ref h1, .ref h2, .int 2, .int 0, .int x2, .int 0, .long 0, .long 0])), (h1, .inr (0, [.ref h4, .int 0])), (h2, .inl (k1, 46, .inr (.inr (.inr (.inr f9))))), (h3, .inr (1, [.int 2, .ref h5, .ref h5, .null, .int 0, .int 0, .int 0, .int 0, .long 0, .long 0, .int 0])), (h5, .inr (1, [.int 3, .null, .null, .null, .int 0, .int 0, .int 0, .int 0, .long 0, .long 0, .int 0]))] t.heap ∧ va_K (dC, dI) clP [(k1, (.object "PatternMachine$Node"))] t ∧ va_D (va_A [(h0, .inr (2, [.ref h1, .ref h2, .int 0, .int 0, .int 0, .int 0, .long 0, .long 0])), (h1, .inr (0, [.ref h4, .int 0])), (h2, .inl (k1, 46, .inr (.inr (.inr (.inr f9))))), (h3, .inr (1, [.int 0, .null, .null, .null, .int 0, .int 0, .int 0, .int 0, .long 0, .long 0, .int 0])), (h5, .inr (1, [.int 0, .null, .null, .null, .int 0, .int 0, .int 0, .int 0, .long 0, .long 0, .int 0]))] sz) [(h0, .inr (2, [.ref h1, .ref h2, .int 2, .int 0, .int x2, .int 0, .long 0, .long 0])), (h1, .inr (0, [.ref h4, .int 0])), (h2, .inl (k1, 46, .inr (.inr (.inr (.inr f9))))), (h3, .inr (1, [.int 2, .ref h5, .ref h5, .null, .int 0, .int 0, .int 0, .int 0, .long 0, .long 0, .int 0])), (h5, .inr (1, [.int 3, .null, .null, .null, .int 0, .int 0, .int 0, .int 0, .long 0, .long 0, .int 0]))]) (va_A [(h0, .inr (2, [.ref h1, .ref h2, .int 0, .int 0, .int 0, .int 0, .long 0, .long 0])), (h1, .inr (0, [.ref h4, .int 0])), (h2, .inl (k1, 46, .inr (.inr (.inr (.inr f9))))), (h3, .inr (1, [.int 0, .null, .null, .null, .int 0, .int 0, .int 0, .int 0, .long 0, .long 0, .int 0])), (h5, .inr (1, [.int 0, .null, .null, .null, .int 0, .int 0, .int 0, .int 0, .long 0, .long 0, .int 0]))] sz)) 0 0 (va_A [(h0, .inr (2, [.ref h1, .ref h2, .int 0, .int 0, .int 0, .int 0, .long 0, .long 0])), (h1, .inr (0, [.ref h4, .int 0])), (h2, .inl (k1, 46, .inr (.inr (.inr (.inr f9))))), (h3, .inr (1, [.int 0, .null, .null, .null, .int 0, .int 0, .int 0, .int 0, .long 0, .long 0, .int 0])), (h5, .inr (1, [.int 0, .null, .null, .null, .int 0, .int 0, .int 0, .int 0, .long 0, .long 0, .int 0]))] sz) := by
  refine Met.ofW (cc := prog_5_method_2_code) (maxL := 3) (ret := (some (.object "PatternMachine$Node"))) (by decide) rfl ?_
  intro p e s m args below meth c s₁ B hml hv
  obtain ⟨rfl, hsz, hP, hK, hD0⟩ := hv
  have hx := B.exec
  have hb := B.bytes
  have hr := B.returns
  have htc := fun (w : Cond) (h : w ∈ wC) => atoms_spec (ws := (.code y_Reader_read prog_5_method_2_code 3 (some (.object "PatternMachine$Node")) :: wC)) B.pre w (List.mem_cons_of_mem _ h)
  have hown : s.vm.findClass "PatternMachine$Reader" = some m.cls := findClass_of_methodNamed B.named
  have hlocks := B.notSynchronized
  subst hsz
  have hD := hD0.self (sz := s.heap.size)
  generalize hAe : va_A [(h0, .inr (2, [.ref h1, .ref h2, .int 0, .int 0, .int 0, .int 0, .long 0, .long 0])), (h1, .inr (0, [.ref h4, .int 0])), (h2, .inl (k1, 46, .inr (.inr (.inr (.inr f9))))), (h3, .inr (1, [.int 0, .null, .null, .null, .int 0, .int 0, .int 0, .int 0, .long 0, .long 0, .int 0])), (h5, .inr (1, [.int 0, .null, .null, .null, .int 0, .int 0, .int 0, .int 0, .long 0, .long 0, .int 0]))] s.heap.size = A at hD ⊢
  have hA : ∀ q : Nat, s.heap.size ≤ q → A q := fun q h => by rw [← hAe]; exact Or.inr h
  have hS : va_S A s.heap s.heap [] := va_S.rf
  have hP : va_P (dC, dI) clP [(h0, .inr (2, [.ref h1, .ref h2, .int 0, .int 0, .int 0, .int 0, .long 0, .long 0])), (h1, .inr (0, [.ref h4, .int 0])), (h2, .inl (k1, 46, .inr (.inr (.inr (.inr f9))))), (h3, .inr (1, [.int 0, .null, .null, .null, .int 0, .int 0, .int 0, .int 0, .long 0, .long 0, .int 0])), (h5, .inr (1, [.int 0, .null, .null, .null, .int 0, .int 0, .int 0, .int 0, .long 0, .long 0, .int 0]))] s.heap := hP
  have hl := lv_entry ([.ref h0, .int x2]) (n := 3) (Nat.le_of_ble_eq_true rfl)
  rw [lg_entry_eq]
  generalize (lg_sl ([.ref h0, .int x2]) ++ List.replicate (3 - (lg_sl ([.ref h0, .int x2])).length) Slot.unset).toArray = ls at hl ⊢
  have hl : lv_has ls 3 [(0, .ref h0), (1, .int x2)] := hl
  refine lv_aload_n hx hb d_Reader_read_0 rfl (lv_at hl 0 rfl) ?_
  refine lv_iconst (v := 0) hx hb d_Reader_read_1 (by decide) ?_
  refine va_put (D := (dC, dI)) (ci := 2) (v := .int 0) (ty := .int) (C := "PatternMachine$Reader") (T := T_Reader) (N := 8) hx hb htc in_Reader t_Reader t_Reader_ok n_Reader hown hK hP hD hS 0 rfl rfl 2 (by decide) (htc _ mw_85) (fun _ h9 => h9) rfl (by decide +kernel) rfl rfl (Nat.le_of_ble_eq_true rfl) d_Reader_read_2 (fun H locs hP hD hS => ?_)
  have hP : va_P (dC, dI) clP [(h0, .inr (2, [.ref h1, .ref h2, .int 0, .int 0, .int 0, .int 0, .long 0, .long 0])), (h1, .inr (0, [.ref h4, .int 0])), (h2, .inl (k1, 46, .inr (.inr (.inr (.inr f9))))), (h3, .inr (1, [.int 0, .null, .null, .null, .int 0, .int 0, .int 0, .int 0, .long 0, .long 0, .int 0])), (h5, .inr (1, [.int 0, .null, .null, .null, .int 0, .int 0, .int 0, .int 0, .long 0, .long 0, .int 0]))] H := hP
  have hD : va_D A [(h0, .inr (2, [.ref h1, .ref h2, .int 0, .int 0, .int 0, .int 0, .long 0, .long 0])), (h1, .inr (0, [.ref h4, .int 0])), (h2, .inl (k1, 46, .inr (.inr (.inr (.inr f9))))), (h3, .inr (1, [.int 0, .null, .null, .null, .int 0, .int 0, .int 0, .int 0, .long 0, .long 0, .int 0])), (h5, .inr (1, [.int 0, .null, .null, .null, .int 0, .int 0, .int 0, .int 0, .long 0, .long 0, .int 0]))] := hD
  refine lv_aload_n hx hb d_Reader_read_5 rfl (lv_at hl 0 rfl) ?_
  refine lv_iconst (v := 0) hx hb d_Reader_read_6 (by decide) ?_
  refine va_put (D := (dC, dI)) (ci := 2) (v := .int 0) (ty := .int) (C := "PatternMachine$Reader") (T := T_Reader) (N := 8) hx hb htc in_Reader t_Reader t_Reader_ok n_Reader hown hK hP hD hS 0 rfl rfl 3 (by decide) (htc _ mw_90) (fun _ h9 => h9) rfl (by decide +kernel) rfl rfl (Nat.le_of_ble_eq_true rfl) d_Reader_read_7 (fun H locs hP hD hS => ?_)
  have hP : va_P (dC, dI) clP [(h0, .inr (2, [.ref h1, .ref h2, .int 0, .int 0, .int 0, .int 0, .long 0, .long 0])), (h1, .inr (0, [.ref h4, .int 0])), (h2, .inl (k1, 46, .inr (.inr (.inr (.inr f9))))), (h3, .inr (1, [.int 0, .null, .null, .null, .int 0, .int 0, .int 0, .int 0, .long 0, .long 0, .int 0])), (h5, .inr (1, [.int 0, .null, .null, .null, .int 0, .int 0, .int 0, .int 0, .long 0, .long 0, .int 0]))] H := hP
  have hD : va_D A [(h0, .inr (2, [.ref h1, .ref h2, .int 0, .int 0, .int 0, .int 0, .long 0, .long 0])), (h1, .inr (0, [.ref h4, .int 0])), (h2, .inl (k1, 46, .inr (.inr (.inr (.inr f9))))), (h3, .inr (1, [.int 0, .null, .null, .null, .int 0, .int 0, .int 0, .int 0, .long 0, .long 0, .int 0])), (h5, .inr (1, [.int 0, .null, .null, .null, .int 0, .int 0, .int 0, .int 0, .long 0, .long 0, .int 0]))] := hD
  refine lv_aload_n hx hb d_Reader_read_10 rfl (lv_at hl 0 rfl) ?_
  refine lv_iconst (v := 0) hx hb d_Reader_read_11 (by decide) ?_
  refine va_put (D := (dC, dI)) (ci := 2) (v := .int 0) (ty := .int) (C := "PatternMachine$Reader") (T := T_Reader) (N := 8) hx hb htc in_Reader t_Reader t_Reader_ok n_Reader hown hK hP hD hS 0 rfl rfl 5 (by decide) (htc _ mw_115) (fun _ h9 => h9) rfl (by decide +kernel) rfl rfl (Nat.le_of_ble_eq_true rfl) d_Reader_read_12 (fun H locs hP hD hS => ?_)
  have hP : va_P (dC, dI) clP [(h0, .inr (2, [.ref h1, .ref h2, .int 0, .int 0, .int 0, .int 0, .long 0, .long 0])), (h1, .inr (0, [.ref h4, .int 0])), (h2, .inl (k1, 46, .inr (.inr (.inr (.inr f9))))), (h3, .inr (1, [.int 0, .null, .null, .null, .int 0, .int 0, .int 0, .int 0, .long 0, .long 0, .int 0])), (h5, .inr (1, [.int 0, .null, .null, .null, .int 0, .int 0, .int 0, .int 0, .long 0, .long 0, .int 0]))] H := hP
  have hD : va_D A [(h0, .inr (2, [.ref h1, .ref h2, .int 0, .int 0, .int 0, .int 0, .long 0, .long 0])), (h1, .inr (0, [.ref h4, .int 0])), (h2, .inl (k1, 46, .inr (.inr (.inr (.inr f9))))), (h3, .inr (1, [.int 0, .null, .null, .null, .int 0, .int 0, .int 0, .int 0, .long 0, .long 0, .int 0])), (h5, .inr (1, [.int 0, .null, .null, .null, .int 0, .int 0, .int 0, .int 0, .long 0, .long 0, .int 0]))] := hD
  refine lv_aload_n hx hb d_Reader_read_15 rfl (lv_at hl 0 rfl) ?_
  refine lv_iload_n hx hb d_Reader_read_16 rfl (lv_at hl 1 rfl) ?_
  refine va_put (D := (dC, dI)) (ci := 2) (v := .int x2) (ty := .int) (C := "PatternMachine$Reader") (T := T_Reader) (N := 8) hx hb htc in_Reader t_Reader t_Reader_ok n_Reader hown hK hP hD hS 0 rfl rfl 4 (by decide) (htc _ mw_116) (fun _ h9 => h9) rfl (by decide +kernel) rfl rfl (Nat.le_of_ble_eq_true rfl) d_Reader_read_17 (fun H locs hP hD hS => ?_)
  have hP : va_P (dC, dI) clP [(h0, .inr (2, [.ref h1, .ref h2, .int 0, .int 0, .int x2, .int 0, .long 0, .long 0])), (h1, .inr (0, [.ref h4, .int 0])), (h2, .inl (k1, 46, .inr (.inr (.inr (.inr f9))))), (h3, .inr (1, [.int 0, .null, .null, .null, .int 0, .int 0, .int 0, .int 0, .long 0, .long 0, .int 0])), (h5, .inr (1, [.int 0, .null, .null, .null, .int 0, .int 0, .int 0, .int 0, .long 0, .long 0, .int 0]))] H := hP
  have hD : va_D A [(h0, .inr (2, [.ref h1, .ref h2, .int 0, .int 0, .int x2, .int 0, .long 0, .long 0])), (h1, .inr (0, [.ref h4, .int 0])), (h2, .inl (k1, 46, .inr (.inr (.inr (.inr f9))))), (h3, .inr (1, [.int 0, .null, .null, .null, .int 0, .int 0, .int 0, .int 0, .long 0, .long 0, .int 0])), (h5, .inr (1, [.int 0, .null, .null, .null, .int 0, .int 0, .int 0, .int 0, .long 0, .long 0, .int 0]))] := hD
  refine lv_aload_n hx hb d_Reader_read_20 rfl (lv_at hl 0 rfl) ?_
  refine lv_iconst (v := 0) hx hb d_Reader_read_21 (by decide) ?_
  have hPc := hP.sub (ws' := [(h0, .inr (2, [.ref h1, .ref h2, .int 0, .int 0, .int x2, .int 0, .long 0, .long 0])), (h1, .inr (0, [.ref h4, .int 0])), (h2, .inl (k1, 46, .inr (.inr (.inr (.inr f9))))), (h3, .inr (1, [.int 0, .null, .null, .null, .int 0, .int 0, .int 0, .int 0, .long 0, .long 0, .int 0])), (h5, .inr (1, [.int 0, .null, .null, .null, .int 0, .int 0, .int 0, .int 0, .long 0, .long 0, .int 0]))]) [0, 1, 2, 3, 4] rfl
  have hDc := hD.sub (ws' := [(h0, .inr (2, [.ref h1, .ref h2, .int 0, .int 0, .int x2, .int 0, .long 0, .long 0])), (h1, .inr (0, [.ref h4, .int 0])), (h2, .inl (k1, 46, .inr (.inr (.inr (.inr f9))))), (h3, .inr (1, [.int 0, .null, .null, .null, .int 0, .int 0, .int 0, .int 0, .long 0, .long 0, .int 0])), (h5, .inr (1, [.int 0, .null, .null, .null, .int 0, .int 0, .int 0, .int 0, .long 0, .long 0, .int 0]))]) [0, 1, 2, 3, 4] (by decide) rfl
  have hKc := hK.sub (tys' := [(k1, (.object "PatternMachine$Node"))]) [0] rfl
  have hFc := va_free (wc := [(h0, .inr (2, [.ref h1, .ref h2, .int 0, .int 0, .int x2, .int 0, .long 0, .long 0])), (h1, .inr (0, [.ref h4, .int 0])), (h2, .inl (k1, 46, .inr (.inr (.inr (.inr f9))))), (h3, .inr (1, [.int 0, .null, .null, .null, .int 0, .int 0, .int 0, .int 0, .long 0, .long 0, .int 0])), (h5, .inr (1, [.int 0, .null, .null, .null, .int 0, .int 0, .int 0, .int 0, .long 0, .long 0, .int 0]))]) hD hS hA [0, 1, 2, 3, 4] rfl
  refine va_callr (va_runV (As := [.int 0]) (rest := []) ⟨hx, hb, hml, hown, htc⟩ (c_Reader_readPattern l dC dI h0 h1 h2 h4 h3 h5 k1 H.size x2 f9 hf0 hf1) (cwV 1 htc (gV mw_118 mw_119 mw_120 mw_53 mw_117) rfl rfl rfl (by decide +kernel) ⟨Nat.le_of_ble_eq_true rfl, Nat.le_of_ble_eq_true rfl⟩) ⟨fun a U g mk q => by obtain ⟨q0, q1, qP, qK, qD⟩ := q; exact ⟨q0, q1, qP, va_K.moved (u := U) (U := U.calling g mk a) (Vm.Alike.refl U.vm) qK, qD⟩, va_recv hK hP (ci := 2) rfl (q0 := 0) rfl, fun U hU hW => ⟨rfl, by rw [hU], by rw [hU]; exact hPc, va_K.moved hW.alike hKc, hDc.weaken (fun _ _ _ _ => trivial)⟩⟩ rfl rfl hl.1 rfl (lv_room (Nat.le_of_ble_eq_true rfl)) d_Reader_read_22 ⟨Nat.le_of_ble_eq_true rfl, Nat.le_of_ble_eq_true rfl⟩) hS (fun q _ h => hFc q h) hFc (fun u r9 t H locs ht hvm hw hB hz1 hk1 hS => ?_)
  refine W.cs (cells' := 0) (slots' := 0) rfl rfl ?_
  obtain ⟨rfl, hP1, hK1, hD1⟩ := hB
  rw [ht] at hP1
  have hK1 := va_K.moved hvm.symm hK1
  obtain ⟨hP, hD⟩ := va_join (wr := []) (w1 := [(h0, .inr (2, [.ref h1, .ref h2, .int 2, .int 0, .int x2, .int 0, .long 0, .long 0])), (h1, .inr (0, [.ref h4, .int 0])), (h2, .inl (k1, 46, .inr (.inr (.inr (.inr f9))))), (h3, .inr (1, [.int 2, .ref h5, .ref h5, .null, .int 0, .int 0, .int 0, .int 0, .long 0, .long 0, .int 0])), (h5, .inr (1, [.int 3, .null, .null, .null, .int 0, .int 0, .int 0, .int 0, .long 0, .long 0, .int 0]))]) hP hD [0, 1, 2, 3, 4] [] rfl rfl (by decide) (by decide) hk1 hFc hP1 hD1
  have hK := (hK.sub (tys' := []) [] rfl).app hK1
  have hP : va_P (dC, dI) clP [(h0, .inr (2, [.ref h1, .ref h2, .int 2, .int 0, .int x2, .int 0, .long 0, .long 0])), (h1, .inr (0, [.ref h4, .int 0])), (h2, .inl (k1, 46, .inr (.inr (.inr (.inr f9))))), (h3, .inr (1, [.int 2, .ref h5, .ref h5, .null, .int 0, .int 0, .int 0, .int 0, .long 0, .long 0, .int 0])), (h5, .inr (1, [.int 3, .null, .null, .null, .int 0, .int 0, .int 0, .int 0, .long 0, .long 0, .int 0]))] H := hP
  have hD : va_D A [(h0, .inr (2, [.ref h1, .ref h2, .int 2, .int 0, .int x2, .int 0, .long 0, .long 0])), (h1, .inr (0, [.ref h4, .int 0])), (h2, .inl (k1, 46, .inr (.inr (.inr (.inr f9))))), (h3, .inr (1, [.int 2, .ref h5, .ref h5, .null, .int 0, .int 0, .int 0, .int 0, .long 0, .long 0, .int 0])), (h5, .inr (1, [.int 3, .null, .null, .null, .int 0, .int 0, .int 0, .int 0, .long 0, .long 0, .int 0]))] := hD
  have hK : va_K (dC, dI) clP [(k1, (.object "PatternMachine$Node"))] s := hK
  refine lv_astore_n (lv' := [(2, .ref h3), (0, .ref h0), (1, .int x2)]) hx hb d_Reader_read_25 rfl hl (by decide) rfl (fun ls hl => ?_)
  refine lv_aload_n hx hb d_Reader_read_26 rfl (lv_at hl 1 rfl) ?_
  refine va_get (D := (dC, dI)) (ci := 2) (v := .int 0) (C := "PatternMachine$Reader") (T := T_Reader) (N := 8) hx hb htc in_Reader hown hK hP 0 rfl rfl 3 (by decide) (htc _ mw_90) (fun _ h9 => h9) rfl d_Reader_read_27 ?_
  refine lv_aload_n hx hb d_Reader_read_30 rfl (lv_at hl 1 rfl) ?_
  refine va_get (D := (dC, dI)) (ci := 2) (v := .ref h1) (C := "PatternMachine$Reader") (T := T_Reader) (N := 8) hx hb htc in_Reader hown hK hP 0 rfl rfl 0 (by decide) (htc _ mw_34) (fun _ h9 => h9) rfl d_Reader_read_31 ?_
  refine va_get (D := (dC, dI)) (ci := 0) (v := .int 0) (C := "PatternMachine$Row") (T := T_Row) (N := 2) hx hb htc in_Row hown hK hP 1 rfl rfl 1 (by decide) (htc _ mw_121) (fun _ h9 => h9) rfl d_Reader_read_34 ?_
  refine lv_icmp_ne (tgt := 44) hx hb d_Reader_read_37 rfl (fun h9 => absurd (by decide) h9) (fun _ => ?_)
  refine lv_aload_n hx hb d_Reader_read_40 rfl (lv_at hl 0 rfl) ?_
  refine lv_goto (tgt := 45) hx hb d_Reader_read_41 rfl ?_
  refine W.widen (k := 0) (n := 0) (by decide) (by decide) ?_
  have hP9 := hP.sub (ws' := [(h0, .inr (2, [.ref h1, .ref h2, .int 2, .int 0, .int x2, .int 0, .long 0, .long 0])), (h1, .inr (0, [.ref h4, .int 0])), (h2, .inl (k1, 46, .inr (.inr (.inr (.inr f9))))), (h3, .inr (1, [.int 2, .ref h5, .ref h5, .null, .int 0, .int 0, .int 0, .int 0, .long 0, .long 0, .int 0])), (h5, .inr (1, [.int 3, .null, .null, .null, .int 0, .int 0, .int 0, .int 0, .long 0, .long 0, .int 0]))]) [0, 1, 2, 3, 4] rfl
  have hD9 := hD.sub (ws' := [(h0, .inr (2, [.ref h1, .ref h2, .int 2, .int 0, .int x2, .int 0, .long 0, .long 0])), (h1, .inr (0, [.ref h4, .int 0])), (h2, .inl (k1, 46, .inr (.inr (.inr (.inr f9))))), (h3, .inr (1, [.int 2, .ref h5, .ref h5, .null, .int 0, .int 0, .int 0, .int 0, .long 0, .long 0, .int 0])), (h5, .inr (1, [.int 3, .null, .null, .null, .int 0, .int 0, .int 0, .int 0, .long 0, .long 0, .int 0]))]) [0, 1, 2, 3, 4] (by decide) rfl
  have hK9 := hK.sub (tys' := [(k1, (.object "PatternMachine$Node"))]) [0] rfl
  exact W.aret (v := .ref h3) hx hb hr (Or.inl ⟨_, rfl⟩) (Or.inr ⟨_, rfl⟩) (fun t ht hW => ⟨⟨(), h3, rfl, trivial, rfl, by rw [ht]; exact hP9, va_K.moved hW.alike hK9, hD9⟩, hS.F ht⟩) hS.2.2 d_Reader_read_45
