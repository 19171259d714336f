set_option maxHeartbeats 4000000 in
set_option maxRecDepth 100000 in
theorem c_PM_type (l : Launch) (dC : Nat → ClassId) (dI : Nat → Nat → Nat) (h0 o1 o2 o3 o4 o5 o6 o7 : Nat) (k1 : ClassId) (sz : Nat) (x1 : Int32) : Met l y_PM_type (.code y_PM_type prog_1_method_2_code 3 (some .boolean) :: wC) ({ frames := 1, cells := 0, slots := 0, locals := 21 }) (va_Pc [.ref h0, .int x1] (fun U => U.heap.size = sz ∧ va_P (dC, dI) clP [(h0, .inr (6, [.ref o1, .ref o2, .ref o3, .ref o4, .ref o5, .ref o6, .int 0, .int 0])), (o1, .inr (0, [.ref o7, .int 0])), (o7, .inl (k1, 40, .inl (fun _ => 0)))] U.heap ∧ va_K (dC, dI) clP [(k1, .char)] U ∧ va_D (fun _ => True) [(h0, .inr (6, [.ref o1, .ref o2, .ref o3, .ref o4, .ref o5, .ref o6, .int 0, .int 0])), (o1, .inr (0, [.ref o7, .int 0])), (o7, .inl (k1, 40, .inl (fun _ => 0)))])) (va_Qi (fun (r : Int32) (_ : Unit) => r = chOK x1) (fun (_ : Unit) (t : State) => True) (va_A [(h0, .inr (6, [.ref o1, .ref o2, .ref o3, .ref o4, .ref o5, .ref o6, .int 0, .int 0])), (o1, .inr (0, [.ref o7, .int 0])), (o7, .inl (k1, 40, .inl (fun _ => 0)))] sz)) 0 0 (va_A [(h0, .inr (6, [.ref o1, .ref o2, .ref o3, .ref o4, .ref o5, .ref o6, .int 0, .int 0])), (o1, .inr (0, [.ref o7, .int 0])), (o7, .inl (k1, 40, .inl (fun _ => 0)))] sz) := by
  refine Met.ofW (cc := prog_1_method_2_code) (maxL := 3) (ret := (some .boolean)) (by decide) rfl ?_
  intro p e s m args below meth c s₁ B hml hv
  obtain ⟨rfl, hsz, hP, hK, hD0⟩ := hv
  have hx := B.exec
  have hb := B.bytes
  have hr := B.returns
  have htc := fun (w : Cond) (h : w ∈ wC) => atoms_spec (ws := (.code y_PM_type prog_1_method_2_code 3 (some .boolean) :: wC)) B.pre w (List.mem_cons_of_mem _ h)
  have hown : s.vm.findClass "PatternMachine" = some m.cls := findClass_of_methodNamed B.named
  have hlocks := B.notSynchronized
  subst hsz
  have hD := hD0.self (sz := s.heap.size)
  generalize hAe : va_A [(h0, .inr (6, [.ref o1, .ref o2, .ref o3, .ref o4, .ref o5, .ref o6, .int 0, .int 0])), (o1, .inr (0, [.ref o7, .int 0])), (o7, .inl (k1, 40, .inl (fun _ => 0)))] s.heap.size = A at hD ⊢
  have hA : ∀ q : Nat, s.heap.size ≤ q → A q := fun q h => by rw [← hAe]; exact Or.inr h
  have hS : va_S A s.heap s.heap [] := va_S.rf
  have hP : va_P (dC, dI) clP [(h0, .inr (6, [.ref o1, .ref o2, .ref o3, .ref o4, .ref o5, .ref o6, .int 0, .int 0])), (o1, .inr (0, [.ref o7, .int 0])), (o7, .inl (k1, 40, .inl (fun _ => 0)))] s.heap := hP
  have hl := lv_entry ([.ref h0, .int x1]) (n := 3) (Nat.le_of_ble_eq_true rfl)
  rw [lg_entry_eq]
  generalize (lg_sl ([.ref h0, .int x1]) ++ List.replicate (3 - (lg_sl ([.ref h0, .int x1])).length) Slot.unset).toArray = ls at hl ⊢
  have hl : lv_has ls 3 [(0, .ref h0), (1, .int x1)] := hl
  refine lv_iload_n hx hb d_PM_type_0 rfl (lv_at hl 1 rfl) ?_
  refine lv_bipush (v := 10) hx hb d_PM_type_1 (by decide) ?_
  refine lv_icmp_eq (tgt := 18) hx hb d_PM_type_3 rfl (fun c3 => ?_) (fun c3 => ?_)
  ·
    refine lv_iconst (v := 1) hx hb d_PM_type_18 (by decide) ?_
    refine lv_goto (tgt := 23) hx hb d_PM_type_19 rfl ?_
    refine lv_istore_n (lv' := [(2, .int 1), (0, .ref h0), (1, .int x1)]) hx hb d_PM_type_23 rfl hl (by decide) rfl (fun ls hl => ?_)
    refine lv_iload_n hx hb d_PM_type_24 rfl (lv_at hl 0 rfl) ?_
    refine lv_if_eq (tgt := 43) hx hb d_PM_type_25 rfl (fun h9 => absurd h9 (by decide)) (fun _ => ?_)
    refine lv_aload_n hx hb d_PM_type_28 rfl (lv_at hl 1 rfl) ?_
    refine va_get (D := (dC, dI)) (ci := 6) (v := .ref o1) (C := "PatternMachine") (T := T_PM) (N := 8) hx hb htc in_PM hown hK hP 0 rfl rfl 0 (by decide) (htc _ mw_48) (fun _ h9 => h9) rfl d_PM_type_29 ?_
    refine lv_iload_n hx hb d_PM_type_32 rfl (lv_at hl 2 rfl) ?_
    have hPc := hP.sub (ws' := [(o1, .inr (0, [.ref o7, .int 0])), (o7, .inl (k1, 40, .inl (fun _ => 0)))]) [1, 2] rfl
    have hDc := hD.sub (ws' := [(o1, .inr (0, [.ref o7, .int 0])), (o7, .inl (k1, 40, .inl (fun _ => 0)))]) [1, 2] (by decide) rfl
    have hKc := hK.sub (tys' := [(k1, .char)]) [0] rfl
    have hFc := va_free (wc := [(o1, .inr (0, [.ref o7, .int 0])), (o7, .inl (k1, 40, .inl (fun _ => 0)))]) hD hS hA [1, 2] rfl
    refine va_calli (va_runV (As := [.int x1]) (rest := []) ⟨hx, hb, hml, hown, htc⟩ (c_Row_put l dC dI o1 o7 k1 s.heap.size x1) (cwV 1 htc (gV mw_145 mw_146 mw_147 mw_44 mw_144) rfl rfl rfl (by decide +kernel) ⟨Nat.le_of_ble_eq_true rfl, Nat.le_of_ble_eq_true rfl⟩) ⟨fun a U g mk q => by obtain ⟨q0, q1, qP, qK, qD⟩ := q; exact ⟨q0, q1, qP, va_K.moved (u := U) (U := U.calling g mk a) (Vm.Alike.refl U.vm) qK, qD⟩, va_recv hK hP (ci := 0) rfl (q0 := 1) rfl, fun U hU hW => ⟨rfl, by rw [hU], by rw [hU]; exact hPc, va_K.moved hW.alike hKc, hDc.weaken (fun _ _ _ _ => trivial)⟩⟩ rfl rfl hl.1 rfl (lv_room (Nat.le_of_ble_eq_true rfl)) d_PM_type_33 ⟨Nat.le_of_ble_eq_true rfl, Nat.le_of_ble_eq_true rfl⟩) hS (fun q _ h => hFc q h) hFc (fun r9 u t H locs ht hvm hw hB hz1 hk1 hS => ?_)
    refine W.cs (cells' := 0) (slots' := 0) rfl rfl ?_
    obtain ⟨hP, hD⟩ := va_join (wr := [(h0, .inr (6, [.ref o1, .ref o2, .ref o3, .ref o4, .ref o5, .ref o6, .int 0, .int 0]))]) (w1 := []) hP hD [1, 2] [0] rfl rfl (by decide) (by decide) hk1 hFc nilP nilD
    have hK := hK.sub (tys' := []) [] rfl
    have hP : va_P (dC, dI) clP [(h0, .inr (6, [.ref o1, .ref o2, .ref o3, .ref o4, .ref o5, .ref o6, .int 0, .int 0]))] H := hP
    have hD : va_D A [(h0, .inr (6, [.ref o1, .ref o2, .ref o3, .ref o4, .ref o5, .ref o6, .int 0, .int 0]))] := hD
    have hK : va_K (dC, dI) clP [] s := hK
    obtain rfl : r9 = 1 := hw
    refine lv_if_eq (tgt := 43) hx hb d_PM_type_36 rfl (fun h9 => absurd h9 (by decide)) (fun _ => ?_)
    refine lv_iconst (v := 1) hx hb d_PM_type_39 (by decide) ?_
    refine lv_goto (tgt := 44) hx hb d_PM_type_40 rfl ?_
    refine W.widen (k := 0) (n := 0) (by decide) (by decide) ?_
    exact W.zret (v := 1) hx hb hr rfl (fun t ht hW => ⟨⟨1, (), rfl, (by first | exact ch_10 c3 | exact ch_in c9 c15 | exact ch_lo c3 c9 | exact ch_hi c3 c15), trivial⟩, hS.F ht⟩) hS.2.2 d_PM_type_44
  ·
    refine lv_iload_n hx hb d_PM_type_6 rfl (lv_at hl 1 rfl) ?_
    refine lv_bipush (v := 32) hx hb d_PM_type_7 (by decide) ?_
    refine lv_icmp_lt (tgt := 22) hx hb d_PM_type_9 rfl (fun c9 => ?_) (fun c9 => ?_)
    ·
      refine lv_iconst (v := 0) hx hb d_PM_type_22 (by decide) ?_
      refine lv_istore_n (lv' := [(2, .int 0), (0, .ref h0), (1, .int x1)]) hx hb d_PM_type_23 rfl hl (by decide) rfl (fun ls hl => ?_)
      refine lv_iload_n hx hb d_PM_type_24 rfl (lv_at hl 0 rfl) ?_
      refine lv_if_eq (tgt := 43) hx hb d_PM_type_25 rfl (fun _ => ?_) (fun h9 => absurd (by decide) h9)
      refine lv_iconst (v := 0) hx hb d_PM_type_43 (by decide) ?_
      refine W.widen (k := 0) (n := 0) (by decide) (by decide) ?_
      exact W.zret (v := 0) hx hb hr rfl (fun t ht hW => ⟨⟨0, (), rfl, (by first | exact ch_10 c3 | exact ch_in c9 c15 | exact ch_lo c3 c9 | exact ch_hi c3 c15), trivial⟩, hS.F ht⟩) hS.2.2 d_PM_type_44
    ·
      refine lv_iload_n hx hb d_PM_type_12 rfl (lv_at hl 1 rfl) ?_
      refine lv_bipush (v := 126) hx hb d_PM_type_13 (by decide) ?_
      refine lv_icmp_gt (tgt := 22) hx hb d_PM_type_15 rfl (fun c15 => ?_) (fun c15 => ?_)
      ·
        refine lv_iconst (v := 0) hx hb d_PM_type_22 (by decide) ?_
        refine lv_istore_n (lv' := [(2, .int 0), (0, .ref h0), (1, .int x1)]) hx hb d_PM_type_23 rfl hl (by decide) rfl (fun ls hl => ?_)
        refine lv_iload_n hx hb d_PM_type_24 rfl (lv_at hl 0 rfl) ?_
        refine lv_if_eq (tgt := 43) hx hb d_PM_type_25 rfl (fun _ => ?_) (fun h9 => absurd (by decide) h9)
        refine lv_iconst (v := 0) hx hb d_PM_type_43 (by decide) ?_
        refine W.widen (k := 0) (n := 0) (by decide) (by decide) ?_
        exact W.zret (v := 0) hx hb hr rfl (fun t ht hW => ⟨⟨0, (), rfl, (by first | exact ch_10 c3 | exact ch_in c9 c15 | exact ch_lo c3 c9 | exact ch_hi c3 c15), trivial⟩, hS.F ht⟩) hS.2.2 d_PM_type_44
      ·
        refine lv_iconst (v := 1) hx hb d_PM_type_18 (by decide) ?_
        refine lv_goto (tgt := 23) hx hb d_PM_type_19 rfl ?_
        refine lv_istore_n (lv' := [(2, .int 1), (0, .ref h0), (1, .int x1)]) hx hb d_PM_type_23 rfl hl (by decide) rfl (fun ls hl => ?_)
        refine lv_iload_n hx hb d_PM_type_24 rfl (lv_at hl 0 rfl) ?_
        refine lv_if_eq (tgt := 43) hx hb d_PM_type_25 rfl (fun h9 => absurd h9 (by decide)) (fun _ => ?_)
        refine lv_aload_n hx hb d_PM_type_28 rfl (lv_at hl 1 rfl) ?_
        refine va_get (D := (dC, dI)) (ci := 6) (v := .ref o1) (C := "PatternMachine") (T := T_PM) (N := 8) hx hb htc in_PM hown hK hP 0 rfl rfl 0 (by decide) (htc _ mw_48) (fun _ h9 => h9) rfl d_PM_type_29 ?_
        refine lv_iload_n hx hb d_PM_type_32 rfl (lv_at hl 2 rfl) ?_
        have hPc := hP.sub (ws' := [(o1, .inr (0, [.ref o7, .int 0])), (o7, .inl (k1, 40, .inl (fun _ => 0)))]) [1, 2] rfl
        have hDc := hD.sub (ws' := [(o1, .inr (0, [.ref o7, .int 0])), (o7, .inl (k1, 40, .inl (fun _ => 0)))]) [1, 2] (by decide) rfl
        have hKc := hK.sub (tys' := [(k1, .char)]) [0] rfl
        have hFc := va_free (wc := [(o1, .inr (0, [.ref o7, .int 0])), (o7, .inl (k1, 40, .inl (fun _ => 0)))]) hD hS hA [1, 2] rfl
        refine va_calli (va_runV (As := [.int x1]) (rest := []) ⟨hx, hb, hml, hown, htc⟩ (c_Row_put l dC dI o1 o7 k1 s.heap.size x1) (cwV 1 htc (gV mw_145 mw_146 mw_147 mw_44 mw_144) rfl rfl rfl (by decide +kernel) ⟨Nat.le_of_ble_eq_true rfl, Nat.le_of_ble_eq_true rfl⟩) ⟨fun a U g mk q => by obtain ⟨q0, q1, qP, qK, qD⟩ := q; exact ⟨q0, q1, qP, va_K.moved (u := U) (U := U.calling g mk a) (Vm.Alike.refl U.vm) qK, qD⟩, va_recv hK hP (ci := 0) rfl (q0 := 1) rfl, fun U hU hW => ⟨rfl, by rw [hU], by rw [hU]; exact hPc, va_K.moved hW.alike hKc, hDc.weaken (fun _ _ _ _ => trivial)⟩⟩ rfl rfl hl.1 rfl (lv_room (Nat.le_of_ble_eq_true rfl)) d_PM_type_33 ⟨Nat.le_of_ble_eq_true rfl, Nat.le_of_ble_eq_true rfl⟩) hS (fun q _ h => hFc q h) hFc (fun r9 u t H locs ht hvm hw hB hz1 hk1 hS => ?_)
        refine W.cs (cells' := 0) (slots' := 0) rfl rfl ?_
        obtain ⟨hP, hD⟩ := va_join (wr := [(h0, .inr (6, [.ref o1, .ref o2, .ref o3, .ref o4, .ref o5, .ref o6, .int 0, .int 0]))]) (w1 := []) hP hD [1, 2] [0] rfl rfl (by decide) (by decide) hk1 hFc nilP nilD
        have hK := hK.sub (tys' := []) [] rfl
        have hP : va_P (dC, dI) clP [(h0, .inr (6, [.ref o1, .ref o2, .ref o3, .ref o4, .ref o5, .ref o6, .int 0, .int 0]))] H := hP
        have hD : va_D A [(h0, .inr (6, [.ref o1, .ref o2, .ref o3, .ref o4, .ref o5, .ref o6, .int 0, .int 0]))] := hD
        have hK : va_K (dC, dI) clP [] s := hK
        obtain rfl : r9 = 1 := hw
        refine lv_if_eq (tgt := 43) hx hb d_PM_type_36 rfl (fun h9 => absurd h9 (by decide)) (fun _ => ?_)
        refine lv_iconst (v := 1) hx hb d_PM_type_39 (by decide) ?_
        refine lv_goto (tgt := 44) hx hb d_PM_type_40 rfl ?_
        refine W.widen (k := 0) (n := 0) (by decide) (by decide) ?_
        exact W.zret (v := 1) hx hb hr rfl (fun t ht hW => ⟨⟨1, (), rfl, (by first | exact ch_10 c3 | exact ch_in c9 c15 | exact ch_lo c3 c9 | exact ch_hi c3 c15), trivial⟩, hS.F ht⟩) hS.2.2 d_PM_type_44
set_option maxHeartbeats 4000000 in
set_option maxRecDepth 100000 in
theorem c_PM_wipe (l : Launch) (dC : Nat → ClassId) (dI : Nat → Nat → Nat) (h0 o1 o2 o3 o4 o5 o6 o7 : Nat) (sz : Nat) : Met l y_PM_wipe (.code y_PM_wipe prog_1_method_3_code 1 none :: wC) ({ frames := 0, cells := 0, slots := 0, locals := 0 }) (va_Pc [.ref h0] (fun U => U.heap.size = sz ∧ va_P (dC, dI) clP [(h0, .inr (6, [.ref o1, .ref o2, .ref o3, .ref o4, .ref o5, .ref o6, .int 0, .int 0])), (o1, .inr (0, [.ref o7, .int 0]))] U.heap ∧ va_K (dC, dI) clP [] U ∧ va_D (fun _ => True) [(h0, .inr (6, [.ref o1, .ref o2, .ref o3, .ref o4, .ref o5, .ref o6, .int 0, .int 0])), (o1, .inr (0, [.ref o7, .int 0]))])) (va_Qv (fun _ : Unit => True) (fun (_ : Unit) (t : State) => True) (va_A [(h0, .inr (6, [.ref o1, .ref o2, .ref o3, .ref o4, .ref o5, .ref o6, .int 0, .int 0])), (o1, .inr (0, [.ref o7, .int 0]))] sz)) 0 0 (va_A [(h0, .inr (6, [.ref o1, .ref o2, .ref o3, .ref o4, .ref o5, .ref o6, .int 0, .int 0])), (o1, .inr (0, [.ref o7, .int 0]))] sz) := by
  refine Met.ofW (cc := prog_1_method_3_code) (maxL := 1) (ret := none) (by decide) rfl ?_
  intro p e s m args below meth c s₁ B hml hv
  obtain ⟨rfl, hsz, hP, hK, hD0⟩ := hv
  have hx := B.exec
  have hb := B.bytes
  have hr := B.returns
  have htc := fun (w : Cond) (h : w ∈ wC) => atoms_spec (ws := (.code y_PM_wipe prog_1_method_3_code 1 none :: wC)) B.pre w (List.mem_cons_of_mem _ h)
  have hown : s.vm.findClass "PatternMachine" = some m.cls := findClass_of_methodNamed B.named
  have hlocks := B.notSynchronized
  subst hsz
  have hD := hD0.self (sz := s.heap.size)
  generalize hAe : va_A [(h0, .inr (6, [.ref o1, .ref o2, .ref o3, .ref o4, .ref o5, .ref o6, .int 0, .int 0])), (o1, .inr (0, [.ref o7, .int 0]))] s.heap.size = A at hD ⊢
  have hA : ∀ q : Nat, s.heap.size ≤ q → A q := fun q h => by rw [← hAe]; exact Or.inr h
  have hS : va_S A s.heap s.heap [] := va_S.rf
  have hP : va_P (dC, dI) clP [(h0, .inr (6, [.ref o1, .ref o2, .ref o3, .ref o4, .ref o5, .ref o6, .int 0, .int 0])), (o1, .inr (0, [.ref o7, .int 0]))] s.heap := hP
  have hl := lv_entry ([.ref h0]) (n := 1) (Nat.le_of_ble_eq_true rfl)
  rw [lg_entry_eq]
  generalize (lg_sl ([.ref h0]) ++ List.replicate (1 - (lg_sl ([.ref h0])).length) Slot.unset).toArray = ls at hl ⊢
  have hl : lv_has ls 1 [(0, .ref h0)] := hl
  refine lv_aload_n hx hb d_PM_wipe_0 rfl (lv_at hl 0 rfl) ?_
  refine va_get (D := (dC, dI)) (ci := 6) (v := .ref o1) (C := "PatternMachine") (T := T_PM) (N := 8) hx hb htc in_PM hown hK hP 0 rfl rfl 0 (by decide) (htc _ mw_48) (fun _ h9 => h9) rfl d_PM_wipe_1 ?_
  refine lv_iconst (v := 0) hx hb d_PM_wipe_4 (by decide) ?_
  refine va_put (D := (dC, dI)) (ci := 0) (v := .int 0) (ty := .int) (C := "PatternMachine$Row") (T := T_Row) (N := 2) hx hb htc in_Row t_Row t_Row_ok n_Row hown hK hP hD hS 1 rfl rfl 1 (by decide) (htc _ mw_148) (fun _ h9 => h9) rfl (by decide +kernel) rfl rfl (Nat.le_of_ble_eq_true rfl) d_PM_wipe_5 (fun H locs hP hD hS => ?_)
  have hP : va_P (dC, dI) clP [(h0, .inr (6, [.ref o1, .ref o2, .ref o3, .ref o4, .ref o5, .ref o6, .int 0, .int 0])), (o1, .inr (0, [.ref o7, .int 0]))] H := hP
  have hD : va_D A [(h0, .inr (6, [.ref o1, .ref o2, .ref o3, .ref o4, .ref o5, .ref o6, .int 0, .int 0])), (o1, .inr (0, [.ref o7, .int 0]))] := hD
  refine W.widen (k := 0) (n := 0) (by decide) (by decide) ?_
  exact W.vret hx hb hr (fun t ht hW => ⟨⟨(), rfl, trivial, trivial⟩, hS.F ht⟩) hS.2.2 d_PM_wipe_8
set_option maxHeartbeats 4000000 in
set_option maxRecDepth 100000 in
theorem c_PM_compile (l : Launch) (dC : Nat → ClassId) (dI : Nat → Nat → Nat) (h0 o1 o2 o3 o4 o5 o6 o7 h2 h3 h5 p1 p2 p3 p4 p5 : Nat) (k1 j1 j2 j3 : ClassId) (sz : Nat) (x1 : Int32) (f9 : Nat → Option Nat) (hf0 : f9 0 = some h3) (hf1 : f9 1 = some h5) : Met l y_PM_compile (.code y_PM_compile prog_1_method_4_code 3 (some .int) :: wC) ({ frames := 5, cells := 0, slots := 0, locals := 117 }) (va_Pc [.ref h0, .int x1] (fun U => U.heap.size = sz ∧ va_P (dC, dI) clP [(h0, .inr (6, [.ref o1, .ref o2, .ref o3, .ref o4, .ref o5, .ref o6, .int 0, .int 0])), (o1, .inr (0, [.ref o7, .int 0])), (o4, .inr (2, [.ref o1, .ref h2, .int 0, .int 0, .int 0, .int 0, .long 0, .long 0])), (h2, .inl (k1, 46, .inr (.inr (.inr (.inr f9))))), (h3, .inr (1, [.int 0, .null, .null, .null, .int 0, .int 0, .int 0, .int 0, .long 0, .long 0, .int 0])), (h5, .inr (1, [.int 0, .null, .null, .null, .int 0, .int 0, .int 0, .int 0, .long 0, .long 0, .int 0])), (o5, .inr (3, [.ref p1, .ref p2, .ref p3, .ref p4, .ref p5, .int 0, .int 0])), (p1, .inl (j1, 121, .inl (fun _ => 0))), (p2, .inl (j2, 121, .inl (fun _ => 0))), (p3, .inl (j3, 121, .inl (fun _ => 0)))] U.heap ∧ va_K (dC, dI) clP [(k1, (.object "PatternMachine$Node")), (j1, .int), (j2, .int), (j3, .int)] U ∧ va_D (fun _ => True) [(h0, .inr (6, [.ref o1, .ref o2, .ref o3, .ref o4, .ref o5, .ref o6, .int 0, .int 0])), (o1, .inr (0, [.ref o7, .int 0])), (o4, .inr (2, [.ref o1, .ref h2, .int 0, .int 0, .int 0, .int 0, .long 0, .long 0])), (h2, .inl (k1, 46, .inr (.inr (.inr (.inr f9))))), (h3, .inr (1, [.int 0, .null, .null, .null, .int 0, .int 0, .int 0, .int 0, .long 0, .long 0, .int 0])), (h5, .inr (1, [.int 0, .null, .null, .null, .int 0, .int 0, .int 0, .int 0, .long 0, .long 0, .int 0])), (o5, .inr (3, [.ref p1, .ref p2, .ref p3, .ref p4, .ref p5, .int 0, .int 0])), (p1, .inl (j1, 121, .inl (fun _ => 0))), (p2, .inl (j2, 121, .inl (fun _ => 0))), (p3, .inl (j3, 121, .inl (fun _ => 0)))])) (va_Qi (fun (r : Int32) (_ : Unit) => r = 0) (fun (_ : Unit) (t : State) => True) (va_A [(h0, .inr (6, [.ref o1, .ref o2, .ref o3, .ref o4, .ref o5, .ref o6, .int 0, .int 0])), (o1, .inr (0, [.ref o7, .int 0])), (o4, .inr (2, [.ref o1, .ref h2, .int 0, .int 0, .int 0, .int 0, .long 0, .long 0])), (h2, .inl (k1, 46, .inr (.inr (.inr (.inr f9))))), (h3, .inr (1, [.int 0, .null, .null, .null, .int 0, .int 0, .int 0, .int 0, .long 0, .long 0, .int 0])), (h5, .inr (1, [.int 0, .null, .null, .null, .int 0, .int 0, .int 0, .int 0, .long 0, .long 0, .int 0])), (o5, .inr (3, [.ref p1, .ref p2, .ref p3, .ref p4, .ref p5, .int 0, .int 0])), (p1, .inl (j1, 121, .inl (fun _ => 0))), (p2, .inl (j2, 121, .inl (fun _ => 0))), (p3, .inl (j3, 121, .inl (fun _ => 0)))] sz)) 0 0 (va_A [(h0, .inr (6, [.ref o1, .ref o2, .ref o3, .ref o4, .ref o5, .ref o6, .int 0, .int 0])), (o1, .inr (0, [.ref o7, .int 0])), (o4, .inr (2, [.ref o1, .ref h2, .int 0, .int 0, .int 0, .int 0, .long 0, .long 0])), (h2, .inl (k1, 46, .inr (.inr (.inr (.inr f9))))), (h3, .inr (1, [.int 0, .null, .null, .null, .int 0, .int 0, .int 0, .int 0, .long 0, .long 0, .int 0])), (h5, .inr (1, [.int 0, .null, .null, .null, .int 0, .int 0, .int 0, .int 0, .long 0, .long 0, .int 0])), (o5, .inr (3, [.ref p1, .ref p2, .ref p3, .ref p4, .ref p5, .int 0, .int 0])), (p1, .inl (j1, 121, .inl (fun _ => 0))), (p2, .inl (j2, 121, .inl (fun _ => 0))), (p3, .inl (j3, 121, .inl (fun _ => 0)))] sz) := by
  refine Met.ofW (cc := prog_1_method_4_code) (maxL := 3) (ret := (some .int)) (by decide) rfl ?_
  intro p e s m args below meth c s₁ B hml hv
  obtain ⟨rfl, hsz, hP, hK, hD0⟩ := hv
  have hx := B.exec
  have hb := B.bytes
  have hr := B.returns
  have htc := fun (w : Cond) (h : w ∈ wC) => atoms_spec (ws := (.code y_PM_compile prog_1_method_4_code 3 (some .int) :: wC)) B.pre w (List.mem_cons_of_mem _ h)
  have hown : s.vm.findClass "PatternMachine" = some m.cls := findClass_of_methodNamed B.named
  have hlocks := B.notSynchronized
  subst hsz
  have hD := hD0.self (sz := s.heap.size)
  generalize hAe : va_A [(h0, .inr (6, [.ref o1, .ref o2, .ref o3, .ref o4, .ref o5, .ref o6, .int 0, .int 0])), (o1, .inr (0, [.ref o7, .int 0])), (o4, .inr (2, [.ref o1, .ref h2, .int 0, .int 0, .int 0, .int 0, .long 0, .long 0])), (h2, .inl (k1, 46, .inr (.inr (.inr (.inr f9))))), (h3, .inr (1, [.int 0, .null, .null, .null, .int 0, .int 0, .int 0, .int 0, .long 0, .long 0, .int 0])), (h5, .inr (1, [.int 0, .null, .null, .null, .int 0, .int 0, .int 0, .int 0, .long 0, .long 0, .int 0])), (o5, .inr (3, [.ref p1, .ref p2, .ref p3, .ref p4, .ref p5, .int 0, .int 0])), (p1, .inl (j1, 121, .inl (fun _ => 0))), (p2, .inl (j2, 121, .inl (fun _ => 0))), (p3, .inl (j3, 121, .inl (fun _ => 0)))] s.heap.size = A at hD ⊢
  have hA : ∀ q : Nat, s.heap.size ≤ q → A q := fun q h => by rw [← hAe]; exact Or.inr h
  have hS : va_S A s.heap s.heap [] := va_S.rf
  have hP : va_P (dC, dI) clP [(h0, .inr (6, [.ref o1, .ref o2, .ref o3, .ref o4, .ref o5, .ref o6, .int 0, .int 0])), (o1, .inr (0, [.ref o7, .int 0])), (o4, .inr (2, [.ref o1, .ref h2, .int 0, .int 0, .int 0, .int 0, .long 0, .long 0])), (h2, .inl (k1, 46, .inr (.inr (.inr (.inr f9))))), (h3, .inr (1, [.int 0, .null, .null, .null, .int 0, .int 0, .int 0, .int 0, .long 0, .long 0, .int 0])), (h5, .inr (1, [.int 0, .null, .null, .null, .int 0, .int 0, .int 0, .int 0, .long 0, .long 0, .int 0])), (o5, .inr (3, [.ref p1, .ref p2, .ref p3, .ref p4, .ref p5, .int 0, .int 0])), (p1, .inl (j1, 121, .inl (fun _ => 0))), (p2, .inl (j2, 121, .inl (fun _ => 0))), (p3, .inl (j3, 121, .inl (fun _ => 0)))] s.heap := hP
  have hl := lv_entry ([.ref h0, .int x1]) (n := 3) (Nat.le_of_ble_eq_true rfl)
  rw [lg_entry_eq]
  generalize (lg_sl ([.ref h0, .int x1]) ++ List.replicate (3 - (lg_sl ([.ref h0, .int x1])).length) Slot.unset).toArray = ls at hl ⊢
  have hl : lv_has ls 3 [(0, .ref h0), (1, .int x1)] := hl
  refine lv_aload_n hx hb d_PM_compile_0 rfl (lv_at hl 0 rfl) ?_
  refine va_get (D := (dC, dI)) (ci := 6) (v := .ref o4) (C := "PatternMachine") (T := T_PM) (N := 8) hx hb htc in_PM hown hK hP 0 rfl rfl 3 (by decide) (htc _ mw_57) (fun _ h9 => h9) rfl d_PM_compile_1 ?_
  refine lv_iload_n hx hb d_PM_compile_4 rfl (lv_at hl 1 rfl) ?_
  refine lv_bipush (v := 7) hx hb d_PM_compile_5 (by decide) ?_
  refine lv_iand hx hb d_PM_compile_7 ?_
  refine lv_topi (fun z1 ez1 => ?_)
  have hPc := hP.sub (ws' := [(o4, .inr (2, [.ref o1, .ref h2, .int 0, .int 0, .int 0, .int 0, .long 0, .long 0])), (o1, .inr (0, [.ref o7, .int 0])), (h2, .inl (k1, 46, .inr (.inr (.inr (.inr f9))))), (h3, .inr (1, [.int 0, .null, .null, .null, .int 0, .int 0, .int 0, .int 0, .long 0, .long 0, .int 0])), (h5, .inr (1, [.int 0, .null, .null, .null, .int 0, .int 0, .int 0, .int 0, .long 0, .long 0, .int 0]))]) [2, 1, 3, 4, 5] rfl
  have hDc := hD.sub (ws' := [(o4, .inr (2, [.ref o1, .ref h2, .int 0, .int 0, .int 0, .int 0, .long 0, .long 0])), (o1, .inr (0, [.ref o7, .int 0])), (h2, .inl (k1, 46, .inr (.inr (.inr (.inr f9))))), (h3, .inr (1, [.int 0, .null, .null, .null, .int 0, .int 0, .int 0, .int 0, .long 0, .long 0, .int 0])), (h5, .inr (1, [.int 0, .null, .null, .null, .int 0, .int 0, .int 0, .int 0, .long 0, .long 0, .int 0]))]) [2, 1, 3, 4, 5] (by decide) rfl
  have hKc := hK.sub (tys' := [(k1, (.object "PatternMachine$Node"))]) [0] rfl
  have hFc := va_free (wc := [(o4, .inr (2, [.ref o1, .ref h2, .int 0, .int 0, .int 0, .int 0, .long 0, .long 0])), (o1, .inr (0, [.ref o7, .int 0])), (h2, .inl (k1, 46, .inr (.inr (.inr (.inr f9))))), (h3, .inr (1, [.int 0, .null, .null, .null, .int 0, .int 0, .int 0, .int 0, .long 0, .long 0, .int 0])), (h5, .inr (1, [.int 0, .null, .null, .null, .int 0, .int 0, .int 0, .int 0, .long 0, .long 0, .int 0]))]) hD hS hA [2, 1, 3, 4, 5] rfl
  refine va_callr (va_runV (As := [.int z1]) (rest := []) ⟨hx, hb, hml, hown, htc⟩ (c_Reader_read l dC dI o4 o1 h2 o7 h3 h5 k1 s.heap.size z1 f9 hf0 hf1) (cwV 1 htc (gV mw_150 mw_151 mw_152 mw_53 mw_149) rfl rfl rfl (by decide +kernel) ⟨Nat.le_of_ble_eq_true rfl, Nat.le_of_ble_eq_true rfl⟩) ⟨fun a U g mk q => by obtain ⟨q0, q1, qP, qK, qD⟩ := q; exact ⟨q0, q1, qP, va_K.moved (u := U) (U := U.calling g mk a) (Vm.Alike.refl U.vm) qK, qD⟩, va_recv hK hP (ci := 2) rfl (q0 := 2) rfl, fun U hU hW => ⟨rfl, by rw [hU], by rw [hU]; exact hPc, va_K.moved hW.alike hKc, hDc.weaken (fun _ _ _ _ => trivial)⟩⟩ rfl rfl hl.1 rfl (lv_room (Nat.le_of_ble_eq_true rfl)) d_PM_compile_8 ⟨Nat.le_of_ble_eq_true rfl, Nat.le_of_ble_eq_true rfl⟩) hS (fun q _ h => hFc q h) hFc (fun u r9 t H locs ht hvm hw hB hz1 hk1 hS => ?_)
  refine W.cs (cells' := 0) (slots' := 0) rfl rfl ?_
  obtain ⟨rfl, hP1, hK1, hD1⟩ := hB
  rw [ht] at hP1
  have hK1 := va_K.moved hvm.symm hK1
  obtain ⟨hP, hD⟩ := va_join (wr := [(h0, .inr (6, [.ref o1, .ref o2, .ref o3, .ref o4, .ref o5, .ref o6, .int 0, .int 0])), (o5, .inr (3, [.ref p1, .ref p2, .ref p3, .ref p4, .ref p5, .int 0, .int 0])), (p1, .inl (j1, 121, .inl (fun _ => 0))), (p2, .inl (j2, 121, .inl (fun _ => 0))), (p3, .inl (j3, 121, .inl (fun _ => 0)))]) (w1 := [(o4, .inr (2, [.ref o1, .ref h2, .int 2, .int 0, .int z1, .int 0, .long 0, .long 0])), (o1, .inr (0, [.ref o7, .int 0])), (h2, .inl (k1, 46, .inr (.inr (.inr (.inr f9))))), (h3, .inr (1, [.int 2, .ref h5, .ref h5, .null, .int 0, .int 0, .int 0, .int 0, .long 0, .long 0, .int 0])), (h5, .inr (1, [.int 3, .null, .null, .null, .int 0, .int 0, .int 0, .int 0, .long 0, .long 0, .int 0]))]) hP hD [2, 1, 3, 4, 5] [0, 6, 7, 8, 9] rfl rfl (by decide) (by decide) hk1 hFc hP1 hD1
  have hK := (hK.sub (tys' := [(j1, .int), (j2, .int), (j3, .int)]) [1, 2, 3] rfl).app hK1
  have hP : va_P (dC, dI) clP [(h0, .inr (6, [.ref o1, .ref o2, .ref o3, .ref o4, .ref o5, .ref o6, .int 0, .int 0])), (o5, .inr (3, [.ref p1, .ref p2, .ref p3, .ref p4, .ref p5, .int 0, .int 0])), (p1, .inl (j1, 121, .inl (fun _ => 0))), (p2, .inl (j2, 121, .inl (fun _ => 0))), (p3, .inl (j3, 121, .inl (fun _ => 0))), (o4, .inr (2, [.ref o1, .ref h2, .int 2, .int 0, .int z1, .int 0, .long 0, .long 0])), (o1, .inr (0, [.ref o7, .int 0])), (h2, .inl (k1, 46, .inr (.inr (.inr (.inr f9))))), (h3, .inr (1, [.int 2, .ref h5, .ref h5, .null, .int 0, .int 0, .int 0, .int 0, .long 0, .long 0, .int 0])), (h5, .inr (1, [.int 3, .null, .null, .null, .int 0, .int 0, .int 0, .int 0, .long 0, .long 0, .int 0]))] H := hP
  have hD : va_D A [(h0, .inr (6, [.ref o1, .ref o2, .ref o3, .ref o4, .ref o5, .ref o6, .int 0, .int 0])), (o5, .inr (3, [.ref p1, .ref p2, .ref p3, .ref p4, .ref p5, .int 0, .int 0])), (p1, .inl (j1, 121, .inl (fun _ => 0))), (p2, .inl (j2, 121, .inl (fun _ => 0))), (p3, .inl (j3, 121, .inl (fun _ => 0))), (o4, .inr (2, [.ref o1, .ref h2, .int 2, .int 0, .int z1, .int 0, .long 0, .long 0])), (o1, .inr (0, [.ref o7, .int 0])), (h2, .inl (k1, 46, .inr (.inr (.inr (.inr f9))))), (h3, .inr (1, [.int 2, .ref h5, .ref h5, .null, .int 0, .int 0, .int 0, .int 0, .long 0, .long 0, .int 0])), (h5, .inr (1, [.int 3, .null, .null, .null, .int 0, .int 0, .int 0, .int 0, .long 0, .long 0, .int 0]))] := hD
  have hK : va_K (dC, dI) clP [(j1, .int), (j2, .int), (j3, .int), (k1, (.object "PatternMachine$Node"))] s := hK
  refine lv_astore_n (lv' := [(2, .ref h3), (0, .ref h0), (1, .int x1)]) hx hb d_PM_compile_11 rfl hl (by decide) rfl (fun ls hl => ?_)
  refine lv_aload_n hx hb d_PM_compile_12 rfl (lv_at hl 0 rfl) ?_
  refine lv_ifnonnull (tgt := 26) hx hb d_PM_compile_13 rfl ?_
  refine lv_aload_n hx hb d_PM_compile_26 rfl (lv_at hl 0 rfl) ?_
  refine va_get (D := (dC, dI)) (ci := 1) (v := .int 0) (C := "PatternMachine$Node") (T := T_Node) (N := 11) hx hb htc in_Node hown hK hP 8 rfl rfl 10 (by decide) (htc _ mw_153) (fun _ h9 => h9) rfl d_PM_compile_27 ?_
  refine lv_bipush (v := 120) hx hb d_PM_compile_30 (by decide) ?_
  refine lv_icmp_le (tgt := 45) hx hb d_PM_compile_32 rfl (fun _ => ?_) (fun h9 => absurd (by decide) h9)
  refine lv_aload_n hx hb d_PM_compile_45 rfl (lv_at hl 1 rfl) ?_
  refine va_get (D := (dC, dI)) (ci := 6) (v := .ref o5) (C := "PatternMachine") (T := T_PM) (N := 8) hx hb htc in_PM hown hK hP 0 rfl rfl 4 (by decide) (htc _ mw_64) (fun _ h9 => h9) rfl d_PM_compile_46 ?_
  refine lv_aload_n hx hb d_PM_compile_49 rfl (lv_at hl 0 rfl) ?_
  refine lv_aload_n hx hb d_PM_compile_50 rfl (lv_at hl 1 rfl) ?_
  refine va_get (D := (dC, dI)) (ci := 6) (v := .ref o4) (C := "PatternMachine") (T := T_PM) (N := 8) hx hb htc in_PM hown hK hP 0 rfl rfl 3 (by decide) (htc _ mw_57) (fun _ h9 => h9) rfl d_PM_compile_51 ?_
  refine va_get (D := (dC, dI)) (ci := 2) (v := .int 0) (C := "PatternMachine$Reader") (T := T_Reader) (N := 8) hx hb htc in_Reader hown hK hP 5 rfl rfl 5 (by decide) (htc _ mw_154) (fun _ h9 => h9) rfl d_PM_compile_54 ?_
  have hPc := hP.sub (ws' := [(o5, .inr (3, [.ref p1, .ref p2, .ref p3, .ref p4, .ref p5, .int 0, .int 0])), (h3, .inr (1, [.int 2, .ref h5, .ref h5, .null, .int 0, .int 0, .int 0, .int 0, .long 0, .long 0, .int 0])), (h5, .inr (1, [.int 3, .null, .null, .null, .int 0, .int 0, .int 0, .int 0, .long 0, .long 0, .int 0])), (p1, .inl (j1, 121, .inl (fun _ => 0))), (p2, .inl (j2, 121, .inl (fun _ => 0))), (p3, .inl (j3, 121, .inl (fun _ => 0)))]) [1, 8, 9, 2, 3, 4] rfl
  have hDc := hD.sub (ws' := [(o5, .inr (3, [.ref p1, .ref p2, .ref p3, .ref p4, .ref p5, .int 0, .int 0])), (h3, .inr (1, [.int 2, .ref h5, .ref h5, .null, .int 0, .int 0, .int 0, .int 0, .long 0, .long 0, .int 0])), (h5, .inr (1, [.int 3, .null, .null, .null, .int 0, .int 0, .int 0, .int 0, .long 0, .long 0, .int 0])), (p1, .inl (j1, 121, .inl (fun _ => 0))), (p2, .inl (j2, 121, .inl (fun _ => 0))), (p3, .inl (j3, 121, .inl (fun _ => 0)))]) [1, 8, 9, 2, 3, 4] (by decide) rfl
  have hKc := hK.sub (tys' := [(j1, .int), (j2, .int), (j3, .int)]) [0, 1, 2] rfl
  have hFc := va_free (wc := [(o5, .inr (3, [.ref p1, .ref p2, .ref p3, .ref p4, .ref p5, .int 0, .int 0])), (h3, .inr (1, [.int 2, .ref h5, .ref h5, .null, .int 0, .int 0, .int 0, .int 0, .long 0, .long 0, .int 0])), (h5, .inr (1, [.int 3, .null, .null, .null, .int 0, .int 0, .int 0, .int 0, .long 0, .long 0, .int 0])), (p1, .inl (j1, 121, .inl (fun _ => 0))), (p2, .inl (j2, 121, .inl (fun _ => 0))), (p3, .inl (j3, 121, .inl (fun _ => 0)))]) hD hS hA [1, 8, 9, 2, 3, 4] rfl
  refine va_callv (va_runV (As := [.ref h3, .int 0]) (rest := []) ⟨hx, hb, hml, hown, htc⟩ (c_Program_write l dC dI o5 h3 p1 p2 p3 p4 p5 h5 j1 j2 j3 H.size) (cwV 2 htc (gV mw_156 mw_157 mw_158 mw_60 mw_155) rfl rfl rfl (by decide +kernel) ⟨Nat.le_of_ble_eq_true rfl, Nat.le_of_ble_eq_true rfl⟩) ⟨fun a U g mk q => by obtain ⟨q0, q1, qP, qK, qD⟩ := q; exact ⟨q0, q1, qP, va_K.moved (u := U) (U := U.calling g mk a) (Vm.Alike.refl U.vm) qK, qD⟩, va_recv hK hP (ci := 3) rfl (q0 := 1) rfl, fun U hU hW => ⟨rfl, by rw [hU], by rw [hU]; exact hPc, va_K.moved hW.alike hKc, hDc.weaken (fun _ _ _ _ => trivial)⟩⟩ rfl rfl hl.1 rfl (lv_room (Nat.le_of_ble_eq_true rfl)) d_PM_compile_57 ⟨Nat.le_of_ble_eq_true rfl, Nat.le_of_ble_eq_true rfl⟩) hS (fun q _ h => hFc q h) hFc (fun u t H locs ht hvm hw hB hz1 hk1 hS => ?_)
  refine W.cs (cells' := 0) (slots' := 0) rfl rfl ?_
  obtain ⟨hP1, hK1, hD1⟩ := hB
  rw [ht] at hP1
  have hK1 := va_K.moved hvm.symm hK1
  obtain ⟨hP, hD⟩ := va_join (wr := [(h0, .inr (6, [.ref o1, .ref o2, .ref o3, .ref o4, .ref o5, .ref o6, .int 0, .int 0])), (o4, .inr (2, [.ref o1, .ref h2, .int 2, .int 0, .int z1, .int 0, .long 0, .long 0])), (o1, .inr (0, [.ref o7, .int 0])), (h2, .inl (k1, 46, .inr (.inr (.inr (.inr f9)))))]) (w1 := [(o5, .inr (3, [.ref p1, .ref p2, .ref p3, .ref p4, .ref p5, .int 1, .int 0])), (h3, .inr (1, [.int 2, .ref h5, .ref h5, .null, .int 0, .int 0, .int 0, .int 0, .long 0, .long 0, .int 0])), (h5, .inr (1, [.int 3, .null, .null, .null, .int 0, .int 0, .int 0, .int 0, .long 0, .long 0, .int 0]))]) hP hD [1, 8, 9, 2, 3, 4] [0, 5, 6, 7] rfl rfl (by decide) (by decide) hk1 hFc hP1 hD1
  have hK := (hK.sub (tys' := [(k1, (.object "PatternMachine$Node"))]) [3] rfl).app hK1
  have hP : va_P (dC, dI) clP [(h0, .inr (6, [.ref o1, .ref o2, .ref o3, .ref o4, .ref o5, .ref o6, .int 0, .int 0])), (o4, .inr (2, [.ref o1, .ref h2, .int 2, .int 0, .int z1, .int 0, .long 0, .long 0])), (o1, .inr (0, [.ref o7, .int 0])), (h2, .inl (k1, 46, .inr (.inr (.inr (.inr f9))))), (o5, .inr (3, [.ref p1, .ref p2, .ref p3, .ref p4, .ref p5, .int 1, .int 0])), (h3, .inr (1, [.int 2, .ref h5, .ref h5, .null, .int 0, .int 0, .int 0, .int 0, .long 0, .long 0, .int 0])), (h5, .inr (1, [.int 3, .null, .null, .null, .int 0, .int 0, .int 0, .int 0, .long 0, .long 0, .int 0]))] H := hP
  have hD : va_D A [(h0, .inr (6, [.ref o1, .ref o2, .ref o3, .ref o4, .ref o5, .ref o6, .int 0, .int 0])), (o4, .inr (2, [.ref o1, .ref h2, .int 2, .int 0, .int z1, .int 0, .long 0, .long 0])), (o1, .inr (0, [.ref o7, .int 0])), (h2, .inl (k1, 46, .inr (.inr (.inr (.inr f9))))), (o5, .inr (3, [.ref p1, .ref p2, .ref p3, .ref p4, .ref p5, .int 1, .int 0])), (h3, .inr (1, [.int 2, .ref h5, .ref h5, .null, .int 0, .int 0, .int 0, .int 0, .long 0, .long 0, .int 0])), (h5, .inr (1, [.int 3, .null, .null, .null, .int 0, .int 0, .int 0, .int 0, .long 0, .long 0, .int 0]))] := hD
  have hK : va_K (dC, dI) clP [(k1, (.object "PatternMachine$Node"))] s := hK
  refine lv_aload_n hx hb d_PM_compile_60 rfl (lv_at hl 1 rfl) ?_
  refine va_get (D := (dC, dI)) (ci := 6) (v := .ref o1) (C := "PatternMachine") (T := T_PM) (N := 8) hx hb htc in_PM hown hK hP 0 rfl rfl 0 (by decide) (htc _ mw_48) (fun _ h9 => h9) rfl d_PM_compile_61 ?_
  refine lv_iconst (v := 0) hx hb d_PM_compile_64 (by decide) ?_
  refine va_put (D := (dC, dI)) (ci := 0) (v := .int 0) (ty := .int) (C := "PatternMachine$Row") (T := T_Row) (N := 2) hx hb htc in_Row t_Row t_Row_ok n_Row hown hK hP hD hS 2 rfl rfl 1 (by decide) (htc _ mw_148) (fun _ h9 => h9) rfl (by decide +kernel) rfl rfl (Nat.le_of_ble_eq_true rfl) d_PM_compile_65 (fun H locs hP hD hS => ?_)
  have hP : va_P (dC, dI) clP [(h0, .inr (6, [.ref o1, .ref o2, .ref o3, .ref o4, .ref o5, .ref o6, .int 0, .int 0])), (o4, .inr (2, [.ref o1, .ref h2, .int 2, .int 0, .int z1, .int 0, .long 0, .long 0])), (o1, .inr (0, [.ref o7, .int 0])), (h2, .inl (k1, 46, .inr (.inr (.inr (.inr f9))))), (o5, .inr (3, [.ref p1, .ref p2, .ref p3, .ref p4, .ref p5, .int 1, .int 0])), (h3, .inr (1, [.int 2, .ref h5, .ref h5, .null, .int 0, .int 0, .int 0, .int 0, .long 0, .long 0, .int 0])), (h5, .inr (1, [.int 3, .null, .null, .null, .int 0, .int 0, .int 0, .int 0, .long 0, .long 0, .int 0]))] H := hP
  have hD : va_D A [(h0, .inr (6, [.ref o1, .ref o2, .ref o3, .ref o4, .ref o5, .ref o6, .int 0, .int 0])), (o4, .inr (2, [.ref o1, .ref h2, .int 2, .int 0, .int z1, .int 0, .long 0, .long 0])), (o1, .inr (0, [.ref o7, .int 0])), (h2, .inl (k1, 46, .inr (.inr (.inr (.inr f9))))), (o5, .inr (3, [.ref p1, .ref p2, .ref p3, .ref p4, .ref p5, .int 1, .int 0])), (h3, .inr (1, [.int 2, .ref h5, .ref h5, .null, .int 0, .int 0, .int 0, .int 0, .long 0, .long 0, .int 0])), (h5, .inr (1, [.int 3, .null, .null, .null, .int 0, .int 0, .int 0, .int 0, .long 0, .long 0, .int 0]))] := hD
  refine lv_aload_n hx hb d_PM_compile_68 rfl (lv_at hl 1 rfl) ?_
  refine lv_iconst (v := 1) hx hb d_PM_compile_69 (by decide) ?_
  refine va_put (D := (dC, dI)) (ci := 6) (v := .int 1) (ty := .boolean) (C := "PatternMachine") (T := T_PM) (N := 8) hx hb htc in_PM t_PM t_PM_ok n_PM hown hK hP hD hS 0 rfl rfl 6 (by decide) (htc _ mw_159) (fun _ h9 => h9) rfl (by decide +kernel) rfl rfl (Nat.le_of_ble_eq_true rfl) d_PM_compile_70 (fun H locs hP hD hS => ?_)
  have hP : va_P (dC, dI) clP [(h0, .inr (6, [.ref o1, .ref o2, .ref o3, .ref o4, .ref o5, .ref o6, .int 1, .int 0])), (o4, .inr (2, [.ref o1, .ref h2, .int 2, .int 0, .int z1, .int 0, .long 0, .long 0])), (o1, .inr (0, [.ref o7, .int 0])), (h2, .inl (k1, 46, .inr (.inr (.inr (.inr f9))))), (o5, .inr (3, [.ref p1, .ref p2, .ref p3, .ref p4, .ref p5, .int 1, .int 0])), (h3, .inr (1, [.int 2, .ref h5, .ref h5, .null, .int 0, .int 0, .int 0, .int 0, .long 0, .long 0, .int 0])), (h5, .inr (1, [.int 3, .null, .null, .null, .int 0, .int 0, .int 0, .int 0, .long 0, .long 0, .int 0]))] H := hP
  have hD : va_D A [(h0, .inr (6, [.ref o1, .ref o2, .ref o3, .ref o4, .ref o5, .ref o6, .int 1, .int 0])), (o4, .inr (2, [.ref o1, .ref h2, .int 2, .int 0, .int z1, .int 0, .long 0, .long 0])), (o1, .inr (0, [.ref o7, .int 0])), (h2, .inl (k1, 46, .inr (.inr (.inr (.inr f9))))), (o5, .inr (3, [.ref p1, .ref p2, .ref p3, .ref p4, .ref p5, .int 1, .int 0])), (h3, .inr (1, [.int 2, .ref h5, .ref h5, .null, .int 0, .int 0, .int 0, .int 0, .long 0, .long 0, .int 0])), (h5, .inr (1, [.int 3, .null, .null, .null, .int 0, .int 0, .int 0, .int 0, .long 0, .long 0, .int 0]))] := hD
  refine lv_aload_n hx hb d_PM_compile_73 rfl (lv_at hl 1 rfl) ?_
  refine lv_iconst (v := 0) hx hb d_PM_compile_74 (by decide) ?_
  refine va_put (D := (dC, dI)) (ci := 6) (v := .int 0) (ty := .boolean) (C := "PatternMachine") (T := T_PM) (N := 8) hx hb htc in_PM t_PM t_PM_ok n_PM hown hK hP hD hS 0 rfl rfl 7 (by decide) (htc _ mw_160) (fun _ h9 => h9) rfl (by decide +kernel) rfl rfl (Nat.le_of_ble_eq_true rfl) d_PM_compile_75 (fun H locs hP hD hS => ?_)
  have hP : va_P (dC, dI) clP [(h0, .inr (6, [.ref o1, .ref o2, .ref o3, .ref o4, .ref o5, .ref o6, .int 1, .int 0])), (o4, .inr (2, [.ref o1, .ref h2, .int 2, .int 0, .int z1, .int 0, .long 0, .long 0])), (o1, .inr (0, [.ref o7, .int 0])), (h2, .inl (k1, 46, .inr (.inr (.inr (.inr f9))))), (o5, .inr (3, [.ref p1, .ref p2, .ref p3, .ref p4, .ref p5, .int 1, .int 0])), (h3, .inr (1, [.int 2, .ref h5, .ref h5, .null, .int 0, .int 0, .int 0, .int 0, .long 0, .long 0, .int 0])), (h5, .inr (1, [.int 3, .null, .null, .null, .int 0, .int 0, .int 0, .int 0, .long 0, .long 0, .int 0]))] H := hP
  have hD : va_D A [(h0, .inr (6, [.ref o1, .ref o2, .ref o3, .ref o4, .ref o5, .ref o6, .int 1, .int 0])), (o4, .inr (2, [.ref o1, .ref h2, .int 2, .int 0, .int z1, .int 0, .long 0, .long 0])), (o1, .inr (0, [.ref o7, .int 0])), (h2, .inl (k1, 46, .inr (.inr (.inr (.inr f9))))), (o5, .inr (3, [.ref p1, .ref p2, .ref p3, .ref p4, .ref p5, .int 1, .int 0])), (h3, .inr (1, [.int 2, .ref h5, .ref h5, .null, .int 0, .int 0, .int 0, .int 0, .long 0, .long 0, .int 0])), (h5, .inr (1, [.int 3, .null, .null, .null, .int 0, .int 0, .int 0, .int 0, .long 0, .long 0, .int 0]))] := hD
  refine lv_aload_n hx hb d_PM_compile_78 rfl (lv_at hl 0 rfl) ?_
  refine va_get (D := (dC, dI)) (ci := 1) (v := .int 0) (C := "PatternMachine$Node") (T := T_Node) (N := 11) hx hb htc in_Node hown hK hP 5 rfl rfl 10 (by decide) (htc _ mw_153) (fun _ h9 => h9) rfl d_PM_compile_79 ?_
  refine W.widen (k := 0) (n := 0) (by decide) (by decide) ?_
  exact W.iret (v := 0) hx hb hr (fun t ht hW => ⟨⟨0, (), rfl, rfl, trivial⟩, hS.F ht⟩) hS.2.2 d_PM_compile_82
set_option maxHeartbeats 4000000 in
set_option maxRecDepth 100000 in
theorem c_PM_text (l : Launch) (dC : Nat → ClassId) (dI : Nat → Nat → Nat) (h0 o1 o2 o3 o4 o5 o6 o7 o8 : Nat) (sz : Nat) : Met l y_PM_text (.code y_PM_text prog_1_method_5_code 1 (some .int) :: wC) ({ frames := 2, cells := 0, slots := 0, locals := 38 }) (va_Pc [.ref h0] (fun U => U.heap.size = sz ∧ va_P (dC, dI) clP [(h0, .inr (6, [.ref o1, .ref o2, .ref o3, .ref o4, .ref o5, .ref o6, .int 0, .int 0])), (o1, .inr (0, [.ref o7, .int 0])), (o2, .inr (0, [.ref o8, .int 0]))] U.heap ∧ va_K (dC, dI) clP [] U ∧ va_D (fun _ => True) [(h0, .inr (6, [.ref o1, .ref o2, .ref o3, .ref o4, .ref o5, .ref o6, .int 0, .int 0])), (o1, .inr (0, [.ref o7, .int 0])), (o2, .inr (0, [.ref o8, .int 0]))])) (va_Qi (fun (r : Int32) (_ : Unit) => r = 0) (fun (_ : Unit) (t : State) => True) (va_A [(h0, .inr (6, [.ref o1, .ref o2, .ref o3, .ref o4, .ref o5, .ref o6, .int 0, .int 0])), (o1, .inr (0, [.ref o7, .int 0])), (o2, .inr (0, [.ref o8, .int 0]))] sz)) 0 0 (va_A [(h0, .inr (6, [.ref o1, .ref o2, .ref o3, .ref o4, .ref o5, .ref o6, .int 0, .int 0])), (o1, .inr (0, [.ref o7, .int 0])), (o2, .inr (0, [.ref o8, .int 0]))] sz) := by
  refine Met.ofW (cc := prog_1_method_5_code) (maxL := 1) (ret := (some .int)) (by decide) rfl ?_
  intro p e s m args below meth c s₁ B hml hv
  obtain ⟨rfl, hsz, hP, hK, hD0⟩ := hv
  have hx := B.exec
  have hb := B.bytes
  have hr := B.returns
  have htc := fun (w : Cond) (h : w ∈ wC) => atoms_spec (ws := (.code y_PM_text prog_1_method_5_code 1 (some .int) :: wC)) B.pre w (List.mem_cons_of_mem _ h)
  have hown : s.vm.findClass "PatternMachine" = some m.cls := findClass_of_methodNamed B.named
  have hlocks := B.notSynchronized
  subst hsz
  have hD := hD0.self (sz := s.heap.size)
  generalize hAe : va_A [(h0, .inr (6, [.ref o1, .ref o2, .ref o3, .ref o4, .ref o5, .ref o6, .int 0, .int 0])), (o1, .inr (0, [.ref o7, .int 0])), (o2, .inr (0, [.ref o8, .int 0]))] s.heap.size = A at hD ⊢
  have hA : ∀ q : Nat, s.heap.size ≤ q → A q := fun q h => by rw [← hAe]; exact Or.inr h
  have hS : va_S A s.heap s.heap [] := va_S.rf
  have hP : va_P (dC, dI) clP [(h0, .inr (6, [.ref o1, .ref o2, .ref o3, .ref o4, .ref o5, .ref o6, .int 0, .int 0])), (o1, .inr (0, [.ref o7, .int 0])), (o2, .inr (0, [.ref o8, .int 0]))] s.heap := hP
  have hl := lv_entry ([.ref h0]) (n := 1) (Nat.le_of_ble_eq_true rfl)
  rw [lg_entry_eq]
  generalize (lg_sl ([.ref h0]) ++ List.replicate (1 - (lg_sl ([.ref h0])).length) Slot.unset).toArray = ls at hl ⊢
  have hl : lv_has ls 1 [(0, .ref h0)] := hl
  refine lv_aload_n hx hb d_PM_text_0 rfl (lv_at hl 0 rfl) ?_
  refine va_get (D := (dC, dI)) (ci := 6) (v := .ref o2) (C := "PatternMachine") (T := T_PM) (N := 8) hx hb htc in_PM hown hK hP 0 rfl rfl 1 (by decide) (htc _ mw_49) (fun _ h9 => h9) rfl d_PM_text_1 ?_
  refine lv_aload_n hx hb d_PM_text_4 rfl (lv_at hl 0 rfl) ?_
  refine va_get (D := (dC, dI)) (ci := 6) (v := .ref o1) (C := "PatternMachine") (T := T_PM) (N := 8) hx hb htc in_PM hown hK hP 0 rfl rfl 0 (by decide) (htc _ mw_48) (fun _ h9 => h9) rfl d_PM_text_5 ?_
  refine lv_iconst (v := 0) hx hb d_PM_text_8 (by decide) ?_
  refine lv_aload_n hx hb d_PM_text_9 rfl (lv_at hl 0 rfl) ?_
  refine va_get (D := (dC, dI)) (ci := 6) (v := .ref o1) (C := "PatternMachine") (T := T_PM) (N := 8) hx hb htc in_PM hown hK hP 0 rfl rfl 0 (by decide) (htc _ mw_48) (fun _ h9 => h9) rfl d_PM_text_10 ?_
  refine va_get (D := (dC, dI)) (ci := 0) (v := .int 0) (C := "PatternMachine$Row") (T := T_Row) (N := 2) hx hb htc in_Row hown hK hP 1 rfl rfl 1 (by decide) (htc _ mw_148) (fun _ h9 => h9) rfl d_PM_text_13 ?_
  have hPc := hP.sub (ws' := [(o1, .inr (0, [.ref o7, .int 0]))]) [1] rfl
  have hDc := hD.sub (ws' := [(o1, .inr (0, [.ref o7, .int 0]))]) [1] (by decide) rfl
  have hKc := hK.sub (tys' := []) [] rfl
  have hFc := va_free (wc := [(o1, .inr (0, [.ref o7, .int 0]))]) hD hS hA [1] rfl
  refine va_callv (va_runV (As := [.ref o1, .int 0, .int 0]) (rest := []) ⟨hx, hb, hml, hown, htc⟩ (c_Row_putPart l dC dI o2 o1 o7 s.heap.size) (cwV 3 htc (gV mw_162 mw_163 mw_164 mw_44 mw_161) rfl rfl rfl (by decide +kernel) ⟨Nat.le_of_ble_eq_true rfl, Nat.le_of_ble_eq_true rfl⟩) ⟨fun a U g mk q => by obtain ⟨q0, q1, qP, qK, qD⟩ := q; exact ⟨q0, q1, qP, va_K.moved (u := U) (U := U.calling g mk a) (Vm.Alike.refl U.vm) qK, qD⟩, va_recv hK hP (ci := 0) rfl (q0 := 2) rfl, fun U hU hW => ⟨rfl, by rw [hU], by rw [hU]; exact hPc, va_K.moved hW.alike hKc, hDc.weaken (fun _ _ _ _ => trivial)⟩⟩ rfl rfl hl.1 rfl (lv_room (Nat.le_of_ble_eq_true rfl)) d_PM_text_16 ⟨Nat.le_of_ble_eq_true rfl, Nat.le_of_ble_eq_true rfl⟩) hS (fun q _ h => hFc q h) hFc (fun u t H locs ht hvm hw hB hz1 hk1 hS => ?_)
  refine W.cs (cells' := 0) (slots' := 0) rfl rfl ?_
  obtain ⟨hP1, hK1, hD1⟩ := hB
  rw [ht] at hP1
  have hK1 := va_K.moved hvm.symm hK1
  obtain ⟨hP, hD⟩ := va_join (wr := [(h0, .inr (6, [.ref o1, .ref o2, .ref o3, .ref o4, .ref o5, .ref o6, .int 0, .int 0])), (o2, .inr (0, [.ref o8, .int 0]))]) (w1 := [(o1, .inr (0, [.ref o7, .int 0]))]) hP hD [1] [0, 2] rfl rfl (by decide) (by decide) hk1 hFc hP1 hD1
  have hK := (hK.sub (tys' := []) [] rfl).app hK1
  have hP : va_P (dC, dI) clP [(h0, .inr (6, [.ref o1, .ref o2, .ref o3, .ref o4, .ref o5, .ref o6, .int 0, .int 0])), (o2, .inr (0, [.ref o8, .int 0])), (o1, .inr (0, [.ref o7, .int 0]))] H := hP
  have hD : va_D A [(h0, .inr (6, [.ref o1, .ref o2, .ref o3, .ref o4, .ref o5, .ref o6, .int 0, .int 0])), (o2, .inr (0, [.ref o8, .int 0])), (o1, .inr (0, [.ref o7, .int 0]))] := hD
  have hK : va_K (dC, dI) clP [] s := hK
  refine lv_aload_n hx hb d_PM_text_19 rfl (lv_at hl 0 rfl) ?_
  refine va_get (D := (dC, dI)) (ci := 6) (v := .ref o1) (C := "PatternMachine") (T := T_PM) (N := 8) hx hb htc in_PM hown hK hP 0 rfl rfl 0 (by decide) (htc _ mw_48) (fun _ h9 => h9) rfl d_PM_text_20 ?_
  refine lv_iconst (v := 0) hx hb d_PM_text_23 (by decide) ?_
  refine va_put (D := (dC, dI)) (ci := 0) (v := .int 0) (ty := .int) (C := "PatternMachine$Row") (T := T_Row) (N := 2) hx hb htc in_Row t_Row t_Row_ok n_Row hown hK hP hD hS 2 rfl rfl 1 (by decide) (htc _ mw_148) (fun _ h9 => h9) rfl (by decide +kernel) rfl rfl (Nat.le_of_ble_eq_true rfl) d_PM_text_24 (fun H locs hP hD hS => ?_)
  have hP : va_P (dC, dI) clP [(h0, .inr (6, [.ref o1, .ref o2, .ref o3, .ref o4, .ref o5, .ref o6, .int 0, .int 0])), (o2, .inr (0, [.ref o8, .int 0])), (o1, .inr (0, [.ref o7, .int 0]))] H := hP
  have hD : va_D A [(h0, .inr (6, [.ref o1, .ref o2, .ref o3, .ref o4, .ref o5, .ref o6, .int 0, .int 0])), (o2, .inr (0, [.ref o8, .int 0])), (o1, .inr (0, [.ref o7, .int 0]))] := hD
  refine lv_aload_n hx hb d_PM_text_27 rfl (lv_at hl 0 rfl) ?_
  refine lv_iconst (v := 0) hx hb d_PM_text_28 (by decide) ?_
  refine va_put (D := (dC, dI)) (ci := 6) (v := .int 0) (ty := .boolean) (C := "PatternMachine") (T := T_PM) (N := 8) hx hb htc in_PM t_PM t_PM_ok n_PM hown hK hP hD hS 0 rfl rfl 7 (by decide) (htc _ mw_160) (fun _ h9 => h9) rfl (by decide +kernel) rfl rfl (Nat.le_of_ble_eq_true rfl) d_PM_text_29 (fun H locs hP hD hS => ?_)
  have hP : va_P (dC, dI) clP [(h0, .inr (6, [.ref o1, .ref o2, .ref o3, .ref o4, .ref o5, .ref o6, .int 0, .int 0])), (o2, .inr (0, [.ref o8, .int 0])), (o1, .inr (0, [.ref o7, .int 0]))] H := hP
  have hD : va_D A [(h0, .inr (6, [.ref o1, .ref o2, .ref o3, .ref o4, .ref o5, .ref o6, .int 0, .int 0])), (o2, .inr (0, [.ref o8, .int 0])), (o1, .inr (0, [.ref o7, .int 0]))] := hD
  refine lv_aload_n hx hb d_PM_text_32 rfl (lv_at hl 0 rfl) ?_
  refine va_get (D := (dC, dI)) (ci := 6) (v := .ref o2) (C := "PatternMachine") (T := T_PM) (N := 8) hx hb htc in_PM hown hK hP 0 rfl rfl 1 (by decide) (htc _ mw_49) (fun _ h9 => h9) rfl d_PM_text_33 ?_
  refine va_get (D := (dC, dI)) (ci := 0) (v := .int 0) (C := "PatternMachine$Row") (T := T_Row) (N := 2) hx hb htc in_Row hown hK hP 1 rfl rfl 1 (by decide) (htc _ mw_148) (fun _ h9 => h9) rfl d_PM_text_36 ?_
  refine W.widen (k := 0) (n := 0) (by decide) (by decide) ?_
  exact W.iret (v := 0) hx hb hr (fun t ht hW => ⟨⟨0, (), rfl, rfl, trivial⟩, hS.F ht⟩) hS.2.2 d_PM_text_39
set_option maxHeartbeats 4000000 in
set_option maxRecDepth 100000 in
theorem c_PM_clear (l : Launch) (dC : Nat → ClassId) (dI : Nat → Nat → Nat) (h0 o1 o2 o3 o4 o5 o6 o8 : Nat) (sz : Nat) : Met l y_PM_clear (.code y_PM_clear prog_1_method_6_code 1 none :: wC) ({ frames := 0, cells := 0, slots := 0, locals := 0 }) (va_Pc [.ref h0] (fun U => U.heap.size = sz ∧ va_P (dC, dI) clP [(h0, .inr (6, [.ref o1, .ref o2, .ref o3, .ref o4, .ref o5, .ref o6, .int 0, .int 0])), (o2, .inr (0, [.ref o8, .int 0]))] U.heap ∧ va_K (dC, dI) clP [] U ∧ va_D (fun _ => True) [(h0, .inr (6, [.ref o1, .ref o2, .ref o3, .ref o4, .ref o5, .ref o6, .int 0, .int 0])), (o2, .inr (0, [.ref o8, .int 0]))])) (va_Qv (fun _ : Unit => True) (fun (_ : Unit) (t : State) => True) (va_A [(h0, .inr (6, [.ref o1, .ref o2, .ref o3, .ref o4, .ref o5, .ref o6, .int 0, .int 0])), (o2, .inr (0, [.ref o8, .int 0]))] sz)) 0 0 (va_A [(h0, .inr (6, [.ref o1, .ref o2, .ref o3, .ref o4, .ref o5, .ref o6, .int 0, .int 0])), (o2, .inr (0, [.ref o8, .int 0]))] sz) := by
  refine Met.ofW (cc := prog_1_method_6_code) (maxL := 1) (ret := none) (by decide) rfl ?_
  intro p e s m args below meth c s₁ B hml hv
  obtain ⟨rfl, hsz, hP, hK, hD0⟩ := hv
  have hx := B.exec
  have hb := B.bytes
  have hr := B.returns
  have htc := fun (w : Cond) (h : w ∈ wC) => atoms_spec (ws := (.code y_PM_clear prog_1_method_6_code 1 none :: wC)) B.pre w (List.mem_cons_of_mem _ h)
  have hown : s.vm.findClass "PatternMachine" = some m.cls := findClass_of_methodNamed B.named
  have hlocks := B.notSynchronized
  subst hsz
  have hD := hD0.self (sz := s.heap.size)
  generalize hAe : va_A [(h0, .inr (6, [.ref o1, .ref o2, .ref o3, .ref o4, .ref o5, .ref o6, .int 0, .int 0])), (o2, .inr (0, [.ref o8, .int 0]))] s.heap.size = A at hD ⊢
  have hA : ∀ q : Nat, s.heap.size ≤ q → A q := fun q h => by rw [← hAe]; exact Or.inr h
  have hS : va_S A s.heap s.heap [] := va_S.rf
  have hP : va_P (dC, dI) clP [(h0, .inr (6, [.ref o1, .ref o2, .ref o3, .ref o4, .ref o5, .ref o6, .int 0, .int 0])), (o2, .inr (0, [.ref o8, .int 0]))] s.heap := hP
  have hl := lv_entry ([.ref h0]) (n := 1) (Nat.le_of_ble_eq_true rfl)
  rw [lg_entry_eq]
  generalize (lg_sl ([.ref h0]) ++ List.replicate (1 - (lg_sl ([.ref h0])).length) Slot.unset).toArray = ls at hl ⊢
  have hl : lv_has ls 1 [(0, .ref h0)] := hl
  refine lv_aload_n hx hb d_PM_clear_0 rfl (lv_at hl 0 rfl) ?_
  refine va_get (D := (dC, dI)) (ci := 6) (v := .ref o2) (C := "PatternMachine") (T := T_PM) (N := 8) hx hb htc in_PM hown hK hP 0 rfl rfl 1 (by decide) (htc _ mw_49) (fun _ h9 => h9) rfl d_PM_clear_1 ?_
  refine lv_iconst (v := 0) hx hb d_PM_clear_4 (by decide) ?_
  refine va_put (D := (dC, dI)) (ci := 0) (v := .int 0) (ty := .int) (C := "PatternMachine$Row") (T := T_Row) (N := 2) hx hb htc in_Row t_Row t_Row_ok n_Row hown hK hP hD hS 1 rfl rfl 1 (by decide) (htc _ mw_148) (fun _ h9 => h9) rfl (by decide +kernel) rfl rfl (Nat.le_of_ble_eq_true rfl) d_PM_clear_5 (fun H locs hP hD hS => ?_)
  have hP : va_P (dC, dI) clP [(h0, .inr (6, [.ref o1, .ref o2, .ref o3, .ref o4, .ref o5, .ref o6, .int 0, .int 0])), (o2, .inr (0, [.ref o8, .int 0]))] H := hP
  have hD : va_D A [(h0, .inr (6, [.ref o1, .ref o2, .ref o3, .ref o4, .ref o5, .ref o6, .int 0, .int 0])), (o2, .inr (0, [.ref o8, .int 0]))] := hD
  refine lv_aload_n hx hb d_PM_clear_8 rfl (lv_at hl 0 rfl) ?_
  refine lv_iconst (v := 0) hx hb d_PM_clear_9 (by decide) ?_
  refine va_put (D := (dC, dI)) (ci := 6) (v := .int 0) (ty := .boolean) (C := "PatternMachine") (T := T_PM) (N := 8) hx hb htc in_PM t_PM t_PM_ok n_PM hown hK hP hD hS 0 rfl rfl 7 (by decide) (htc _ mw_160) (fun _ h9 => h9) rfl (by decide +kernel) rfl rfl (Nat.le_of_ble_eq_true rfl) d_PM_clear_10 (fun H locs hP hD hS => ?_)
  have hP : va_P (dC, dI) clP [(h0, .inr (6, [.ref o1, .ref o2, .ref o3, .ref o4, .ref o5, .ref o6, .int 0, .int 0])), (o2, .inr (0, [.ref o8, .int 0]))] H := hP
  have hD : va_D A [(h0, .inr (6, [.ref o1, .ref o2, .ref o3, .ref o4, .ref o5, .ref o6, .int 0, .int 0])), (o2, .inr (0, [.ref o8, .int 0]))] := hD
  refine W.widen (k := 0) (n := 0) (by decide) (by decide) ?_
  exact W.vret hx hb hr (fun t ht hW => ⟨⟨(), rfl, trivial, trivial⟩, hS.F ht⟩) hS.2.2 d_PM_clear_13
set_option maxHeartbeats 4000000 in
set_option maxRecDepth 100000 in
theorem c_PM_character (l : Launch) (dC : Nat → ClassId) (dI : Nat → Nat → Nat) (h0 o1 o2 o3 o4 o5 o6 o8 : Nat) (sz : Nat) (x1 : Int32) : Met l y_PM_character (.code y_PM_character prog_1_method_13_code 2 (some .int) :: wC) ({ frames := 1, cells := 0, slots := 0, locals := 21 }) (va_Pc [.ref h0, .int x1] (fun U => U.heap.size = sz ∧ va_P (dC, dI) clP [(h0, .inr (6, [.ref o1, .ref o2, .ref o3, .ref o4, .ref o5, .ref o6, .int 0, .int 0])), (o2, .inr (0, [.ref o8, .int 0]))] U.heap ∧ va_K (dC, dI) clP [] U ∧ va_D (fun _ => True) [(h0, .inr (6, [.ref o1, .ref o2, .ref o3, .ref o4, .ref o5, .ref o6, .int 0, .int 0])), (o2, .inr (0, [.ref o8, .int 0]))])) (va_Qi (fun (r : Int32) (_ : Unit) => r = (-1)) (fun (_ : Unit) (t : State) => True) (va_A [(h0, .inr (6, [.ref o1, .ref o2, .ref o3, .ref o4, .ref o5, .ref o6, .int 0, .int 0])), (o2, .inr (0, [.ref o8, .int 0]))] sz)) 0 0 (va_A [(h0, .inr (6, [.ref o1, .ref o2, .ref o3, .ref o4, .ref o5, .ref o6, .int 0, .int 0])), (o2, .inr (0, [.ref o8, .int 0]))] sz) := by
  refine Met.ofW (cc := prog_1_method_13_code) (maxL := 2) (ret := (some .int)) (by decide) rfl ?_
  intro p e s m args below meth c s₁ B hml hv
  obtain ⟨rfl, hsz, hP, hK, hD0⟩ := hv
  have hx := B.exec
  have hb := B.bytes
  have hr := B.returns
  have htc := fun (w : Cond) (h : w ∈ wC) => atoms_spec (ws := (.code y_PM_character prog_1_method_13_code 2 (some .int) :: wC)) B.pre w (List.mem_cons_of_mem _ h)
  have hown : s.vm.findClass "PatternMachine" = some m.cls := findClass_of_methodNamed B.named
  have hlocks := B.notSynchronized
  subst hsz
  have hD := hD0.self (sz := s.heap.size)
  generalize hAe : va_A [(h0, .inr (6, [.ref o1, .ref o2, .ref o3, .ref o4, .ref o5, .ref o6, .int 0, .int 0])), (o2, .inr (0, [.ref o8, .int 0]))] s.heap.size = A at hD ⊢
  have hA : ∀ q : Nat, s.heap.size ≤ q → A q := fun q h => by rw [← hAe]; exact Or.inr h
  have hS : va_S A s.heap s.heap [] := va_S.rf
  have hP : va_P (dC, dI) clP [(h0, .inr (6, [.ref o1, .ref o2, .ref o3, .ref o4, .ref o5, .ref o6, .int 0, .int 0])), (o2, .inr (0, [.ref o8, .int 0]))] s.heap := hP
  have hl := lv_entry ([.ref h0, .int x1]) (n := 2) (Nat.le_of_ble_eq_true rfl)
  rw [lg_entry_eq]
  generalize (lg_sl ([.ref h0, .int x1]) ++ List.replicate (2 - (lg_sl ([.ref h0, .int x1])).length) Slot.unset).toArray = ls at hl ⊢
  have hl : lv_has ls 2 [(0, .ref h0), (1, .int x1)] := hl
  refine lv_aload_n hx hb d_PM_character_0 rfl (lv_at hl 0 rfl) ?_
  refine va_get (D := (dC, dI)) (ci := 6) (v := .ref o2) (C := "PatternMachine") (T := T_PM) (N := 8) hx hb htc in_PM hown hK hP 0 rfl rfl 1 (by decide) (htc _ mw_49) (fun _ h9 => h9) rfl d_PM_character_1 ?_
  refine lv_iload_n hx hb d_PM_character_4 rfl (lv_at hl 1 rfl) ?_
  have hPc := hP.sub (ws' := [(o2, .inr (0, [.ref o8, .int 0]))]) [1] rfl
  have hDc := hD.sub (ws' := [(o2, .inr (0, [.ref o8, .int 0]))]) [1] (by decide) rfl
  have hKc := hK.sub (tys' := []) [] rfl
  have hFc := va_free (wc := [(o2, .inr (0, [.ref o8, .int 0]))]) hD hS hA [1] rfl
  refine va_calli (va_runV (As := [.int x1]) (rest := []) ⟨hx, hb, hml, hown, htc⟩ (c_Row_at l dC dI o2 o8 s.heap.size x1) (cwV 1 htc (gV mw_165 mw_93 mw_94 mw_44 mw_91) rfl rfl rfl (by decide +kernel) ⟨Nat.le_of_ble_eq_true rfl, Nat.le_of_ble_eq_true rfl⟩) ⟨fun a U g mk q => by obtain ⟨q0, q1, qP, qK, qD⟩ := q; exact ⟨q0, q1, qP, va_K.moved (u := U) (U := U.calling g mk a) (Vm.Alike.refl U.vm) qK, qD⟩, va_recv hK hP (ci := 0) rfl (q0 := 1) rfl, fun U hU hW => ⟨rfl, by rw [hU], by rw [hU]; exact hPc, va_K.moved hW.alike hKc, hDc.weaken (fun _ _ _ _ => trivial)⟩⟩ rfl rfl hl.1 rfl (lv_room (Nat.le_of_ble_eq_true rfl)) d_PM_character_5 ⟨Nat.le_of_ble_eq_true rfl, Nat.le_of_ble_eq_true rfl⟩) hS (fun q _ h => hFc q h) hFc (fun r9 u t H locs ht hvm hw hB hz1 hk1 hS => ?_)
  refine W.cs (cells' := 0) (slots' := 0) rfl rfl ?_
  obtain ⟨hP1, hK1, hD1⟩ := hB
  rw [ht] at hP1
  have hK1 := va_K.moved hvm.symm hK1
  obtain ⟨hP, hD⟩ := va_join (wr := [(h0, .inr (6, [.ref o1, .ref o2, .ref o3, .ref o4, .ref o5, .ref o6, .int 0, .int 0]))]) (w1 := [(o2, .inr (0, [.ref o8, .int 0]))]) hP hD [1] [0] rfl rfl (by decide) (by decide) hk1 hFc hP1 hD1
  have hK := (hK.sub (tys' := []) [] rfl).app hK1
  have hP : va_P (dC, dI) clP [(h0, .inr (6, [.ref o1, .ref o2, .ref o3, .ref o4, .ref o5, .ref o6, .int 0, .int 0])), (o2, .inr (0, [.ref o8, .int 0]))] H := hP
  have hD : va_D A [(h0, .inr (6, [.ref o1, .ref o2, .ref o3, .ref o4, .ref o5, .ref o6, .int 0, .int 0])), (o2, .inr (0, [.ref o8, .int 0]))] := hD
  have hK : va_K (dC, dI) clP [] s := hK
  obtain rfl : r9 = (-1) := hw
  refine W.widen (k := 0) (n := 0) (by decide) (by decide) ?_
  exact W.iret (v := (-1)) hx hb hr (fun t ht hW => ⟨⟨(-1), (), rfl, rfl, trivial⟩, hS.F ht⟩) hS.2.2 d_PM_character_8
set_option maxHeartbeats 4000000 in
set_option maxRecDepth 100000 in
theorem c_PM_look (l : Launch) (dC : Nat → ClassId) (dI : Nat → Nat → Nat) (h0 o1 o2 o3 o4 o5 o6 o7 o8 p1 p2 p3 p4 p5 : Nat) (sz : Nat) (x1 : Int32) : Met l y_PM_look (.code y_PM_look prog_1_method_14_code 2 (some .int) :: wC) ({ frames := 0, cells := 0, slots := 0, locals := 0 }) (va_Pc [.ref h0, .int x1] (fun U => U.heap.size = sz ∧ va_P (dC, dI) clP [(h0, .inr (6, [.ref o1, .ref o2, .ref o3, .ref o4, .ref o5, .ref o6, .int 0, .int 0])), (o1, .inr (0, [.ref o7, .int 0])), (o2, .inr (0, [.ref o8, .int 0])), (o5, .inr (3, [.ref p1, .ref p2, .ref p3, .ref p4, .ref p5, .int 0, .int 0]))] U.heap ∧ va_K (dC, dI) clP [] U ∧ va_D (fun _ => True) [(h0, .inr (6, [.ref o1, .ref o2, .ref o3, .ref o4, .ref o5, .ref o6, .int 0, .int 0])), (o1, .inr (0, [.ref o7, .int 0])), (o2, .inr (0, [.ref o8, .int 0])), (o5, .inr (3, [.ref p1, .ref p2, .ref p3, .ref p4, .ref p5, .int 0, .int 0]))])) (va_Qi (fun (r : Int32) (_ : Unit) => r = lkV x1) (fun (_ : Unit) (t : State) => True) (va_A [(h0, .inr (6, [.ref o1, .ref o2, .ref o3, .ref o4, .ref o5, .ref o6, .int 0, .int 0])), (o1, .inr (0, [.ref o7, .int 0])), (o2, .inr (0, [.ref o8, .int 0])), (o5, .inr (3, [.ref p1, .ref p2, .ref p3, .ref p4, .ref p5, .int 0, .int 0]))] sz)) 0 0 (va_A [(h0, .inr (6, [.ref o1, .ref o2, .ref o3, .ref o4, .ref o5, .ref o6, .int 0, .int 0])), (o1, .inr (0, [.ref o7, .int 0])), (o2, .inr (0, [.ref o8, .int 0])), (o5, .inr (3, [.ref p1, .ref p2, .ref p3, .ref p4, .ref p5, .int 0, .int 0]))] sz) := by
  refine Met.ofW (cc := prog_1_method_14_code) (maxL := 2) (ret := (some .int)) (by decide) rfl ?_
  intro p e s m args below meth c s₁ B hml hv
  obtain ⟨rfl, hsz, hP, hK, hD0⟩ := hv
  have hx := B.exec
  have hb := B.bytes
  have hr := B.returns
  have htc := fun (w : Cond) (h : w ∈ wC) => atoms_spec (ws := (.code y_PM_look prog_1_method_14_code 2 (some .int) :: wC)) B.pre w (List.mem_cons_of_mem _ h)
  have hown : s.vm.findClass "PatternMachine" = some m.cls := findClass_of_methodNamed B.named
  have hlocks := B.notSynchronized
  subst hsz
  have hD := hD0.self (sz := s.heap.size)
  generalize hAe : va_A [(h0, .inr (6, [.ref o1, .ref o2, .ref o3, .ref o4, .ref o5, .ref o6, .int 0, .int 0])), (o1, .inr (0, [.ref o7, .int 0])), (o2, .inr (0, [.ref o8, .int 0])), (o5, .inr (3, [.ref p1, .ref p2, .ref p3, .ref p4, .ref p5, .int 0, .int 0]))] s.heap.size = A at hD ⊢
  have hA : ∀ q : Nat, s.heap.size ≤ q → A q := fun q h => by rw [← hAe]; exact Or.inr h
  have hS : va_S A s.heap s.heap [] := va_S.rf
  have hP : va_P (dC, dI) clP [(h0, .inr (6, [.ref o1, .ref o2, .ref o3, .ref o4, .ref o5, .ref o6, .int 0, .int 0])), (o1, .inr (0, [.ref o7, .int 0])), (o2, .inr (0, [.ref o8, .int 0])), (o5, .inr (3, [.ref p1, .ref p2, .ref p3, .ref p4, .ref p5, .int 0, .int 0]))] s.heap := hP
  have hl := lv_entry ([.ref h0, .int x1]) (n := 2) (Nat.le_of_ble_eq_true rfl)
  rw [lg_entry_eq]
  generalize (lg_sl ([.ref h0, .int x1]) ++ List.replicate (2 - (lg_sl ([.ref h0, .int x1])).length) Slot.unset).toArray = ls at hl ⊢
  have hl : lv_has ls 2 [(0, .ref h0), (1, .int x1)] := hl
  refine lv_iload_n hx hb d_PM_look_0 rfl (lv_at hl 1 rfl) ?_
  by_cases cs0 : x1 = 0
  ·
    subst cs0
    refine lv_tableIn (tgt := 32) hx hb d_PM_look_1 (by decide) (by decide) rfl rfl ?_
    refine lv_aload_n hx hb d_PM_look_32 rfl (lv_at hl 0 rfl) ?_
    refine va_get (D := (dC, dI)) (ci := 6) (v := .ref o5) (C := "PatternMachine") (T := T_PM) (N := 8) hx hb htc in_PM hown hK hP 0 rfl rfl 4 (by decide) (htc _ mw_64) (fun _ h9 => h9) rfl d_PM_look_33 ?_
    refine va_get (D := (dC, dI)) (ci := 3) (v := .int 0) (C := "PatternMachine$Program") (T := T_Program) (N := 7) hx hb htc in_Program hown hK hP 3 rfl rfl 6 (by decide) (htc _ mw_166) (fun _ h9 => h9) rfl d_PM_look_36 ?_
    refine W.widen (k := 0) (n := 0) (by decide) (by decide) ?_
    exact W.iret (v := 0) hx hb hr (fun t ht hW => ⟨⟨0, (), rfl, (by first | rfl | simp [lkV, *]), trivial⟩, hS.F ht⟩) hS.2.2 d_PM_look_39
  by_cases cs1 : x1 = 1
  ·
    subst cs1
    refine lv_tableIn (tgt := 40) hx hb d_PM_look_1 (by decide) (by decide) rfl rfl ?_
    refine lv_aload_n hx hb d_PM_look_40 rfl (lv_at hl 0 rfl) ?_
    refine va_get (D := (dC, dI)) (ci := 6) (v := .ref o1) (C := "PatternMachine") (T := T_PM) (N := 8) hx hb htc in_PM hown hK hP 0 rfl rfl 0 (by decide) (htc _ mw_48) (fun _ h9 => h9) rfl d_PM_look_41 ?_
    refine va_get (D := (dC, dI)) (ci := 0) (v := .int 0) (C := "PatternMachine$Row") (T := T_Row) (N := 2) hx hb htc in_Row hown hK hP 1 rfl rfl 1 (by decide) (htc _ mw_148) (fun _ h9 => h9) rfl d_PM_look_44 ?_
    refine W.widen (k := 0) (n := 0) (by decide) (by decide) ?_
    exact W.iret (v := 0) hx hb hr (fun t ht hW => ⟨⟨0, (), rfl, (by first | rfl | simp [lkV, *]), trivial⟩, hS.F ht⟩) hS.2.2 d_PM_look_47
  by_cases cs2 : x1 = 2
  ·
    subst cs2
    refine lv_tableIn (tgt := 48) hx hb d_PM_look_1 (by decide) (by decide) rfl rfl ?_
    refine lv_aload_n hx hb d_PM_look_48 rfl (lv_at hl 0 rfl) ?_
    refine va_get (D := (dC, dI)) (ci := 6) (v := .ref o2) (C := "PatternMachine") (T := T_PM) (N := 8) hx hb htc in_PM hown hK hP 0 rfl rfl 1 (by decide) (htc _ mw_49) (fun _ h9 => h9) rfl d_PM_look_49 ?_
    refine va_get (D := (dC, dI)) (ci := 0) (v := .int 0) (C := "PatternMachine$Row") (T := T_Row) (N := 2) hx hb htc in_Row hown hK hP 2 rfl rfl 1 (by decide) (htc _ mw_148) (fun _ h9 => h9) rfl d_PM_look_52 ?_
    refine W.widen (k := 0) (n := 0) (by decide) (by decide) ?_
    exact W.iret (v := 0) hx hb hr (fun t ht hW => ⟨⟨0, (), rfl, (by first | rfl | simp [lkV, *]), trivial⟩, hS.F ht⟩) hS.2.2 d_PM_look_55
  by_cases cs3 : x1 = 3
  ·
    subst cs3
    refine lv_tableIn (tgt := 56) hx hb d_PM_look_1 (by decide) (by decide) rfl rfl ?_
    refine lv_aload_n hx hb d_PM_look_56 rfl (lv_at hl 0 rfl) ?_
    refine va_get (D := (dC, dI)) (ci := 6) (v := .int 0) (C := "PatternMachine") (T := T_PM) (N := 8) hx hb htc in_PM hown hK hP 0 rfl rfl 7 (by decide) (htc _ mw_160) (fun _ h9 => h9) rfl d_PM_look_57 ?_
    refine lv_if_eq (tgt := 67) hx hb d_PM_look_60 rfl (fun _ => ?_) (fun h9 => absurd (by decide) h9)
    refine lv_iconst (v := 0) hx hb d_PM_look_67 (by decide) ?_
    refine W.widen (k := 0) (n := 0) (by decide) (by decide) ?_
    exact W.iret (v := 0) hx hb hr (fun t ht hW => ⟨⟨0, (), rfl, (by first | rfl | simp [lkV, *]), trivial⟩, hS.F ht⟩) hS.2.2 d_PM_look_68
  have n0 := lv_neT (a := 0) cs0 (by decide)
  have n1 := lv_neT (a := 1) cs1 (by decide)
  have n2 := lv_neT (a := 2) cs2 (by decide)
  have n3 := lv_neT (a := 3) cs3 (by decide)
  refine lv_tableOut (tgt := 69) hx hb d_PM_look_1 (by omega) rfl ?_
  refine lv_iconst (v := (-1)) hx hb d_PM_look_69 (by decide) ?_
  refine W.widen (k := 0) (n := 0) (by decide) (by decide) ?_
  exact W.iret (v := (-1)) hx hb hr (fun t ht hW => ⟨⟨(-1), (), rfl, (by first | rfl | simp [lkV, *]), trivial⟩, hS.F ht⟩) hS.2.2 d_PM_look_70
