set_option maxHeartbeats 4000000 in
set_option maxRecDepth 100000 in
theorem x_PM_needPattern (l : Launch) (hfl : l.flags = flags0) (dC : Nat → ClassId) (dI : Nat → Nat → Nat) (h0 o1 o2 o3 o4 o5 o6 : Nat) (sz : Nat) (a1 a2 : Nat) : tx_Met l y_PM_needPattern (.code y_PM_needPattern prog_1_method_15_code 1 none :: wC) ({ frames := 6, cells := 1, slots := 6, locals := 82 }) (va_Pc [.ref h0] (fun U => U.heap.size = sz ∧ va_P (dC, dI) clP [(h0, .inr (6, [.ref o1, .ref o2, .ref o3, .ref o4, .ref o5, .ref o6, .int 0, .int 0]))] U.heap ∧ va_K (dC, dI) clP [] U ∧ va_D (fun _ => True) [(h0, .inr (6, [.ref o1, .ref o2, .ref o3, .ref o4, .ref o5, .ref o6, .int 0, .int 0]))] ∧ tx_E a1 a2 U)) "java/lang/IllegalStateException" 1 6 := by
  refine tx_ofW (cc := prog_1_method_15_code) (maxL := 1) (ret := none) (by decide) rfl ?_
  intro p e s m args below meth c s₁ hadm hno B hml hv
  obtain ⟨rfl, hsz, hP, hK, hD0, hE⟩ := hv
  have hx := B.exec
  have hb := B.bytes
  have hr := B.returns
  have htc := fun (w : Cond) (h : w ∈ wC) => atoms_spec (ws := (.code y_PM_needPattern prog_1_method_15_code 1 none :: wC)) B.pre w (List.mem_cons_of_mem _ h)
  have hown : s.vm.findClass "PatternMachine" = some m.cls := findClass_of_methodNamed B.named
  have hlocks := B.notSynchronized
  subst hsz
  have hP : va_P (dC, dI) clP [(h0, .inr (6, [.ref o1, .ref o2, .ref o3, .ref o4, .ref o5, .ref o6, .int 0, .int 0]))] s.heap := hP
  have hl := lv_entry ([.ref h0]) (n := 1) (Nat.le_of_ble_eq_true rfl)
  rw [lg_entry_eq]
  generalize (lg_sl ([.ref h0]) ++ List.replicate (1 - (lg_sl ([.ref h0])).length) Slot.unset).toArray = ls at hl ⊢
  have hl : lv_has ls 1 [(0, .ref h0)] := hl
  refine lv_aload_n hx hb d_PM_needPattern_0 rfl (lv_at hl 0 rfl) ?_
  refine va_get (D := (dC, dI)) (ci := 6) (v := .int 0) (C := "PatternMachine") (T := T_PM) (N := 8) hx hb htc in_PM hown hK hP 0 rfl rfl 6 (by decide) (htc _ mw_159) (fun _ h9 => h9) rfl d_PM_needPattern_1 ?_
  refine lv_if_ne (tgt := 17) hx hb d_PM_needPattern_4 rfl (fun h9 => absurd (by decide) h9) (fun _ => ?_)
  refine W.newc (own := "PatternMachine") (C := "java/lang/IllegalStateException") (index := 108) (n := 6) hx hb hown (htc _ mw_235) (htc _ mw_236) (htc _ mw_237) rfl d_PM_needPattern_7 (Nat.le_of_ble_eq_true rfl) (Nat.le_of_ble_eq_true rfl) (fun cX kX h1 h2 h3 h4 => ?_)
  refine W.cs (cells' := 1) (slots' := 6) rfl rfl ?_
  refine W.eq (g2 := F0 m 10 ls [.ref s.heap.size]) rfl ?_
  refine lv_dup hx hb d_PM_needPattern_10 rfl ?_
  refine va_ldcS hx hb hown hE.2.2.2.2.2.2.2.2.1 d_PM_needPattern_11 ?_
  exact tx_throw hx hb (by rw [hml]; exact hl.1.symm) (Launch.traces_off hfl hadm) hlocks hno hown (by decide) (by decide) (tx_own htc hE) h1 h2 (by simp) (Nat.le_refl _) d_PM_needPattern_13 d_PM_needPattern_16 (Nat.le_of_ble_eq_true rfl) (Nat.le_of_ble_eq_true rfl)
set_option maxHeartbeats 4000000 in
set_option maxRecDepth 100000 in
theorem x_PM_group (l : Launch) (hfl : l.flags = flags0) (dC : Nat → ClassId) (dI : Nat → Nat → Nat) (h0 o1 o2 o3 o4 o5 o6 : Nat) (sz : Nat) (x1 x2 : Int32) (a1 a2 : Nat) : tx_Met l y_PM_group (.code y_PM_group prog_1_method_9_code 3 (some .int) :: wC) ({ frames := 6, cells := 1, slots := 6, locals := 82 }) (va_Pc [.ref h0, .int x1, .int x2] (fun U => U.heap.size = sz ∧ va_P (dC, dI) clP [(h0, .inr (6, [.ref o1, .ref o2, .ref o3, .ref o4, .ref o5, .ref o6, .int 0, .int 0]))] U.heap ∧ va_K (dC, dI) clP [] U ∧ va_D (fun _ => True) [(h0, .inr (6, [.ref o1, .ref o2, .ref o3, .ref o4, .ref o5, .ref o6, .int 0, .int 0]))] ∧ tx_E a1 a2 U)) "java/lang/IllegalStateException" 1 6 := by
  refine tx_ofW (cc := prog_1_method_9_code) (maxL := 3) (ret := (some .int)) (by decide) rfl ?_
  intro p e s m args below meth c s₁ hadm hno B hml hv
  obtain ⟨rfl, hsz, hP, hK, hD0, hE⟩ := hv
  have hx := B.exec
  have hb := B.bytes
  have hr := B.returns
  have htc := fun (w : Cond) (h : w ∈ wC) => atoms_spec (ws := (.code y_PM_group prog_1_method_9_code 3 (some .int) :: wC)) B.pre w (List.mem_cons_of_mem _ h)
  have hown : s.vm.findClass "PatternMachine" = some m.cls := findClass_of_methodNamed B.named
  have hlocks := B.notSynchronized
  subst hsz
  have hP : va_P (dC, dI) clP [(h0, .inr (6, [.ref o1, .ref o2, .ref o3, .ref o4, .ref o5, .ref o6, .int 0, .int 0]))] s.heap := hP
  have hl := lv_entry ([.ref h0, .int x1, .int x2]) (n := 3) (Nat.le_of_ble_eq_true rfl)
  rw [lg_entry_eq]
  generalize (lg_sl ([.ref h0, .int x1, .int x2]) ++ List.replicate (3 - (lg_sl ([.ref h0, .int x1, .int x2])).length) Slot.unset).toArray = ls at hl ⊢
  have hl : lv_has ls 3 [(0, .ref h0), (1, .int x1), (2, .int x2)] := hl
  refine lv_aload_n hx hb d_PM_group_0 rfl (lv_at hl 0 rfl) ?_
  refine va_get (D := (dC, dI)) (ci := 6) (v := .int 0) (C := "PatternMachine") (T := T_PM) (N := 8) hx hb htc in_PM hown hK hP 0 rfl rfl 7 (by decide) (htc _ mw_160) (fun _ h9 => h9) rfl d_PM_group_1 ?_
  refine lv_if_ne (tgt := 17) hx hb d_PM_group_4 rfl (fun h9 => absurd (by decide) h9) (fun _ => ?_)
  refine W.newc (own := "PatternMachine") (C := "java/lang/IllegalStateException") (index := 108) (n := 6) hx hb hown (htc _ mw_235) (htc _ mw_236) (htc _ mw_237) rfl d_PM_group_7 (Nat.le_of_ble_eq_true rfl) (Nat.le_of_ble_eq_true rfl) (fun cX kX h1 h2 h3 h4 => ?_)
  refine W.cs (cells' := 1) (slots' := 6) rfl rfl ?_
  refine W.eq (g2 := F0 m 10 ls [.ref s.heap.size]) rfl ?_
  refine lv_dup hx hb d_PM_group_10 rfl ?_
  refine va_ldcS hx hb hown hE.2.2.2.2.2.2.2.2.2 d_PM_group_11 ?_
  exact tx_throw hx hb (by rw [hml]; exact hl.1.symm) (Launch.traces_off hfl hadm) hlocks hno hown (by decide) (by decide) (tx_own htc hE) h1 h2 (by simp) (Nat.le_refl _) d_PM_group_13 d_PM_group_16 (Nat.le_of_ble_eq_true rfl) (Nat.le_of_ble_eq_true rfl)
set_option maxHeartbeats 4000000 in
set_option maxRecDepth 100000 in
theorem x_PM_find (l : Launch) (hfl : l.flags = flags0) (dC : Nat → ClassId) (dI : Nat → Nat → Nat) (h0 o1 o2 o3 o4 o5 o6 : Nat) (sz : Nat) (x1 : Int32) (a1 a2 : Nat) : tx_Met l y_PM_find (.code y_PM_find prog_1_method_7_code 2 (some .boolean) :: wC) ({ frames := 7, cells := 1, slots := 6, locals := 102 }) (va_Pc [.ref h0, .int x1] (fun U => U.heap.size = sz ∧ va_P (dC, dI) clP [(h0, .inr (6, [.ref o1, .ref o2, .ref o3, .ref o4, .ref o5, .ref o6, .int 0, .int 0]))] U.heap ∧ va_K (dC, dI) clP [] U ∧ va_D (fun _ => True) [(h0, .inr (6, [.ref o1, .ref o2, .ref o3, .ref o4, .ref o5, .ref o6, .int 0, .int 0]))] ∧ tx_E a1 a2 U)) "java/lang/IllegalStateException" 1 6 := by
  refine tx_ofW (cc := prog_1_method_7_code) (maxL := 2) (ret := (some .boolean)) (by decide) rfl ?_
  intro p e s m args below meth c s₁ hadm hno B hml hv
  obtain ⟨rfl, hsz, hP, hK, hD0, hE⟩ := hv
  have hx := B.exec
  have hb := B.bytes
  have hr := B.returns
  have htc := fun (w : Cond) (h : w ∈ wC) => atoms_spec (ws := (.code y_PM_find prog_1_method_7_code 2 (some .boolean) :: wC)) B.pre w (List.mem_cons_of_mem _ h)
  have hown : s.vm.findClass "PatternMachine" = some m.cls := findClass_of_methodNamed B.named
  have hlocks := B.notSynchronized
  subst hsz
  have hP : va_P (dC, dI) clP [(h0, .inr (6, [.ref o1, .ref o2, .ref o3, .ref o4, .ref o5, .ref o6, .int 0, .int 0]))] s.heap := hP
  have hl := lv_entry ([.ref h0, .int x1]) (n := 2) (Nat.le_of_ble_eq_true rfl)
  rw [lg_entry_eq]
  generalize (lg_sl ([.ref h0, .int x1]) ++ List.replicate (2 - (lg_sl ([.ref h0, .int x1])).length) Slot.unset).toArray = ls at hl ⊢
  have hl : lv_has ls 2 [(0, .ref h0), (1, .int x1)] := hl
  refine lv_aload_n hx hb d_PM_find_0 rfl (lv_at hl 0 rfl) ?_
  refine tx_run (As := []) (rest := []) ⟨hx, hb, hml, hown, htc⟩ (x_PM_needPattern l hfl dC dI h0 o1 o2 o3 o4 o5 o6 s.heap.size a1 a2) (cwV 0 htc (gV mw_238 mw_239 mw_240 mw_241 mw_242) rfl rfl rfl (by decide +kernel) ⟨Nat.le_of_ble_eq_true rfl, Nat.le_of_ble_eq_true rfl⟩) ⟨fun a U g mk q => by obtain ⟨q0, q1, qP, qK, qD, qE⟩ := q; exact ⟨q0, q1, qP, va_K.moved (u := U) (U := U.calling g mk a) (Vm.Alike.refl U.vm) qK, qD, qE.same rfl rfl⟩, va_recv hK hP (ci := 6) rfl (q0 := 0) rfl, fun U hU hW => ⟨rfl, by rw [hU], by rw [hU]; exact hP, va_K.moved hW.alike hK, hD0, hE.go hW (fun q _ => by rw [hU])⟩⟩ rfl hl.1 rfl (Nat.le_of_ble_eq_true rfl) d_PM_find_1 ⟨Nat.le_of_ble_eq_true rfl, Nat.le_of_ble_eq_true rfl⟩ (fun x T1 X hce hz hk => ?_)
  exact tx_leave X hlocks hno hce
set_option maxHeartbeats 4000000 in
set_option maxRecDepth 100000 in
theorem x_PM_matches (l : Launch) (hfl : l.flags = flags0) (dC : Nat → ClassId) (dI : Nat → Nat → Nat) (h0 o1 o2 o3 o4 o5 o6 : Nat) (sz : Nat) (a1 a2 : Nat) : tx_Met l y_PM_matches (.code y_PM_matches prog_1_method_8_code 1 (some .boolean) :: wC) ({ frames := 7, cells := 1, slots := 6, locals := 102 }) (va_Pc [.ref h0] (fun U => U.heap.size = sz ∧ va_P (dC, dI) clP [(h0, .inr (6, [.ref o1, .ref o2, .ref o3, .ref o4, .ref o5, .ref o6, .int 0, .int 0]))] U.heap ∧ va_K (dC, dI) clP [] U ∧ va_D (fun _ => True) [(h0, .inr (6, [.ref o1, .ref o2, .ref o3, .ref o4, .ref o5, .ref o6, .int 0, .int 0]))] ∧ tx_E a1 a2 U)) "java/lang/IllegalStateException" 1 6 := by
  refine tx_ofW (cc := prog_1_method_8_code) (maxL := 1) (ret := (some .boolean)) (by decide) rfl ?_
  intro p e s m args below meth c s₁ hadm hno B hml hv
  obtain ⟨rfl, hsz, hP, hK, hD0, hE⟩ := hv
  have hx := B.exec
  have hb := B.bytes
  have hr := B.returns
  have htc := fun (w : Cond) (h : w ∈ wC) => atoms_spec (ws := (.code y_PM_matches prog_1_method_8_code 1 (some .boolean) :: wC)) B.pre w (List.mem_cons_of_mem _ h)
  have hown : s.vm.findClass "PatternMachine" = some m.cls := findClass_of_methodNamed B.named
  have hlocks := B.notSynchronized
  subst hsz
  have hP : va_P (dC, dI) clP [(h0, .inr (6, [.ref o1, .ref o2, .ref o3, .ref o4, .ref o5, .ref o6, .int 0, .int 0]))] s.heap := hP
  have hl := lv_entry ([.ref h0]) (n := 1) (Nat.le_of_ble_eq_true rfl)
  rw [lg_entry_eq]
  generalize (lg_sl ([.ref h0]) ++ List.replicate (1 - (lg_sl ([.ref h0])).length) Slot.unset).toArray = ls at hl ⊢
  have hl : lv_has ls 1 [(0, .ref h0)] := hl
  refine lv_aload_n hx hb d_PM_matches_0 rfl (lv_at hl 0 rfl) ?_
  refine tx_run (As := []) (rest := []) ⟨hx, hb, hml, hown, htc⟩ (x_PM_needPattern l hfl dC dI h0 o1 o2 o3 o4 o5 o6 s.heap.size a1 a2) (cwV 0 htc (gV mw_238 mw_239 mw_240 mw_241 mw_242) rfl rfl rfl (by decide +kernel) ⟨Nat.le_of_ble_eq_true rfl, Nat.le_of_ble_eq_true rfl⟩) ⟨fun a U g mk q => by obtain ⟨q0, q1, qP, qK, qD, qE⟩ := q; exact ⟨q0, q1, qP, va_K.moved (u := U) (U := U.calling g mk a) (Vm.Alike.refl U.vm) qK, qD, qE.same rfl rfl⟩, va_recv hK hP (ci := 6) rfl (q0 := 0) rfl, fun U hU hW => ⟨rfl, by rw [hU], by rw [hU]; exact hP, va_K.moved hW.alike hK, hD0, hE.go hW (fun q _ => by rw [hU])⟩⟩ rfl hl.1 rfl (Nat.le_of_ble_eq_true rfl) d_PM_matches_1 ⟨Nat.le_of_ble_eq_true rfl, Nat.le_of_ble_eq_true rfl⟩ (fun x T1 X hce hz hk => ?_)
  exact tx_leave X hlocks hno hce
set_option maxHeartbeats 4000000 in
set_option maxRecDepth 100000 in
theorem x_PM_count (l : Launch) (hfl : l.flags = flags0) (dC : Nat → ClassId) (dI : Nat → Nat → Nat) (h0 o1 o2 o3 o4 o5 o6 : Nat) (sz : Nat) (a1 a2 : Nat) : tx_Met l y_PM_count (.code y_PM_count prog_1_method_10_code 4 (some .int) :: wC) ({ frames := 7, cells := 1, slots := 6, locals := 102 }) (va_Pc [.ref h0] (fun U => U.heap.size = sz ∧ va_P (dC, dI) clP [(h0, .inr (6, [.ref o1, .ref o2, .ref o3, .ref o4, .ref o5, .ref o6, .int 0, .int 0]))] U.heap ∧ va_K (dC, dI) clP [] U ∧ va_D (fun _ => True) [(h0, .inr (6, [.ref o1, .ref o2, .ref o3, .ref o4, .ref o5, .ref o6, .int 0, .int 0]))] ∧ tx_E a1 a2 U)) "java/lang/IllegalStateException" 1 6 := by
  refine tx_ofW (cc := prog_1_method_10_code) (maxL := 4) (ret := (some .int)) (by decide) rfl ?_
  intro p e s m args below meth c s₁ hadm hno B hml hv
  obtain ⟨rfl, hsz, hP, hK, hD0, hE⟩ := hv
  have hx := B.exec
  have hb := B.bytes
  have hr := B.returns
  have htc := fun (w : Cond) (h : w ∈ wC) => atoms_spec (ws := (.code y_PM_count prog_1_method_10_code 4 (some .int) :: wC)) B.pre w (List.mem_cons_of_mem _ h)
  have hown : s.vm.findClass "PatternMachine" = some m.cls := findClass_of_methodNamed B.named
  have hlocks := B.notSynchronized
  subst hsz
  have hP : va_P (dC, dI) clP [(h0, .inr (6, [.ref o1, .ref o2, .ref o3, .ref o4, .ref o5, .ref o6, .int 0, .int 0]))] s.heap := hP
  have hl := lv_entry ([.ref h0]) (n := 4) (Nat.le_of_ble_eq_true rfl)
  rw [lg_entry_eq]
  generalize (lg_sl ([.ref h0]) ++ List.replicate (4 - (lg_sl ([.ref h0])).length) Slot.unset).toArray = ls at hl ⊢
  have hl : lv_has ls 4 [(0, .ref h0)] := hl
  refine lv_aload_n hx hb d_PM_count_0 rfl (lv_at hl 0 rfl) ?_
  refine tx_run (As := []) (rest := []) ⟨hx, hb, hml, hown, htc⟩ (x_PM_needPattern l hfl dC dI h0 o1 o2 o3 o4 o5 o6 s.heap.size a1 a2) (cwV 0 htc (gV mw_238 mw_239 mw_240 mw_241 mw_242) rfl rfl rfl (by decide +kernel) ⟨Nat.le_of_ble_eq_true rfl, Nat.le_of_ble_eq_true rfl⟩) ⟨fun a U g mk q => by obtain ⟨q0, q1, qP, qK, qD, qE⟩ := q; exact ⟨q0, q1, qP, va_K.moved (u := U) (U := U.calling g mk a) (Vm.Alike.refl U.vm) qK, qD, qE.same rfl rfl⟩, va_recv hK hP (ci := 6) rfl (q0 := 0) rfl, fun U hU hW => ⟨rfl, by rw [hU], by rw [hU]; exact hP, va_K.moved hW.alike hK, hD0, hE.go hW (fun q _ => by rw [hU])⟩⟩ rfl hl.1 rfl (Nat.le_of_ble_eq_true rfl) d_PM_count_1 ⟨Nat.le_of_ble_eq_true rfl, Nat.le_of_ble_eq_true rfl⟩ (fun x T1 X hce hz hk => ?_)
  exact tx_leave X hlocks hno hce
set_option maxHeartbeats 4000000 in
set_option maxRecDepth 100000 in
theorem x_PM_replace (l : Launch) (hfl : l.flags = flags0) (dC : Nat → ClassId) (dI : Nat → Nat → Nat) (h0 o1 o2 o3 o4 o5 o6 : Nat) (sz : Nat) (a1 a2 : Nat) : tx_Met l y_PM_replace (.code y_PM_replace prog_1_method_11_code 5 (some .int) :: wC) ({ frames := 7, cells := 1, slots := 6, locals := 102 }) (va_Pc [.ref h0] (fun U => U.heap.size = sz ∧ va_P (dC, dI) clP [(h0, .inr (6, [.ref o1, .ref o2, .ref o3, .ref o4, .ref o5, .ref o6, .int 0, .int 0]))] U.heap ∧ va_K (dC, dI) clP [] U ∧ va_D (fun _ => True) [(h0, .inr (6, [.ref o1, .ref o2, .ref o3, .ref o4, .ref o5, .ref o6, .int 0, .int 0]))] ∧ tx_E a1 a2 U)) "java/lang/IllegalStateException" 1 6 := by
  refine tx_ofW (cc := prog_1_method_11_code) (maxL := 5) (ret := (some .int)) (by decide) rfl ?_
  intro p e s m args below meth c s₁ hadm hno B hml hv
  obtain ⟨rfl, hsz, hP, hK, hD0, hE⟩ := hv
  have hx := B.exec
  have hb := B.bytes
  have hr := B.returns
  have htc := fun (w : Cond) (h : w ∈ wC) => atoms_spec (ws := (.code y_PM_replace prog_1_method_11_code 5 (some .int) :: wC)) B.pre w (List.mem_cons_of_mem _ h)
  have hown : s.vm.findClass "PatternMachine" = some m.cls := findClass_of_methodNamed B.named
  have hlocks := B.notSynchronized
  subst hsz
  have hP : va_P (dC, dI) clP [(h0, .inr (6, [.ref o1, .ref o2, .ref o3, .ref o4, .ref o5, .ref o6, .int 0, .int 0]))] s.heap := hP
  have hl := lv_entry ([.ref h0]) (n := 5) (Nat.le_of_ble_eq_true rfl)
  rw [lg_entry_eq]
  generalize (lg_sl ([.ref h0]) ++ List.replicate (5 - (lg_sl ([.ref h0])).length) Slot.unset).toArray = ls at hl ⊢
  have hl : lv_has ls 5 [(0, .ref h0)] := hl
  refine lv_aload_n hx hb d_PM_replace_0 rfl (lv_at hl 0 rfl) ?_
  refine tx_run (As := []) (rest := []) ⟨hx, hb, hml, hown, htc⟩ (x_PM_needPattern l hfl dC dI h0 o1 o2 o3 o4 o5 o6 s.heap.size a1 a2) (cwV 0 htc (gV mw_238 mw_239 mw_240 mw_241 mw_242) rfl rfl rfl (by decide +kernel) ⟨Nat.le_of_ble_eq_true rfl, Nat.le_of_ble_eq_true rfl⟩) ⟨fun a U g mk q => by obtain ⟨q0, q1, qP, qK, qD, qE⟩ := q; exact ⟨q0, q1, qP, va_K.moved (u := U) (U := U.calling g mk a) (Vm.Alike.refl U.vm) qK, qD, qE.same rfl rfl⟩, va_recv hK hP (ci := 6) rfl (q0 := 0) rfl, fun U hU hW => ⟨rfl, by rw [hU], by rw [hU]; exact hP, va_K.moved hW.alike hK, hD0, hE.go hW (fun q _ => by rw [hU])⟩⟩ rfl hl.1 rfl (Nat.le_of_ble_eq_true rfl) d_PM_replace_1 ⟨Nat.le_of_ble_eq_true rfl, Nat.le_of_ble_eq_true rfl⟩ (fun x T1 X hce hz hk => ?_)
  exact tx_leave X hlocks hno hce
set_option maxHeartbeats 4000000 in
set_option maxRecDepth 100000 in
theorem x_PM_piece (l : Launch) (hfl : l.flags = flags0) (dC : Nat → ClassId) (dI : Nat → Nat → Nat) (h0 o1 o2 o3 o4 o5 o6 : Nat) (sz : Nat) (x1 x2 : Int32) (a1 a2 : Nat) : tx_Met l y_PM_piece (.code y_PM_piece prog_1_method_12_code 7 (some .int) :: wC) ({ frames := 7, cells := 1, slots := 6, locals := 102 }) (va_Pc [.ref h0, .int x1, .int x2] (fun U => U.heap.size = sz ∧ va_P (dC, dI) clP [(h0, .inr (6, [.ref o1, .ref o2, .ref o3, .ref o4, .ref o5, .ref o6, .int 0, .int 0]))] U.heap ∧ va_K (dC, dI) clP [] U ∧ va_D (fun _ => True) [(h0, .inr (6, [.ref o1, .ref o2, .ref o3, .ref o4, .ref o5, .ref o6, .int 0, .int 0]))] ∧ tx_E a1 a2 U)) "java/lang/IllegalStateException" 1 6 := by
  refine tx_ofW (cc := prog_1_method_12_code) (maxL := 7) (ret := (some .int)) (by decide) rfl ?_
  intro p e s m args below meth c s₁ hadm hno B hml hv
  obtain ⟨rfl, hsz, hP, hK, hD0, hE⟩ := hv
  have hx := B.exec
  have hb := B.bytes
  have hr := B.returns
  have htc := fun (w : Cond) (h : w ∈ wC) => atoms_spec (ws := (.code y_PM_piece prog_1_method_12_code 7 (some .int) :: wC)) B.pre w (List.mem_cons_of_mem _ h)
  have hown : s.vm.findClass "PatternMachine" = some m.cls := findClass_of_methodNamed B.named
  have hlocks := B.notSynchronized
  subst hsz
  have hP : va_P (dC, dI) clP [(h0, .inr (6, [.ref o1, .ref o2, .ref o3, .ref o4, .ref o5, .ref o6, .int 0, .int 0]))] s.heap := hP
  have hl := lv_entry ([.ref h0, .int x1, .int x2]) (n := 7) (Nat.le_of_ble_eq_true rfl)
  rw [lg_entry_eq]
  generalize (lg_sl ([.ref h0, .int x1, .int x2]) ++ List.replicate (7 - (lg_sl ([.ref h0, .int x1, .int x2])).length) Slot.unset).toArray = ls at hl ⊢
  have hl : lv_has ls 7 [(0, .ref h0), (1, .int x1), (2, .int x2)] := hl
  refine lv_aload_n hx hb d_PM_piece_0 rfl (lv_at hl 0 rfl) ?_
  refine tx_run (As := []) (rest := []) ⟨hx, hb, hml, hown, htc⟩ (x_PM_needPattern l hfl dC dI h0 o1 o2 o3 o4 o5 o6 s.heap.size a1 a2) (cwV 0 htc (gV mw_238 mw_239 mw_240 mw_241 mw_242) rfl rfl rfl (by decide +kernel) ⟨Nat.le_of_ble_eq_true rfl, Nat.le_of_ble_eq_true rfl⟩) ⟨fun a U g mk q => by obtain ⟨q0, q1, qP, qK, qD, qE⟩ := q; exact ⟨q0, q1, qP, va_K.moved (u := U) (U := U.calling g mk a) (Vm.Alike.refl U.vm) qK, qD, qE.same rfl rfl⟩, va_recv hK hP (ci := 6) rfl (q0 := 0) rfl, fun U hU hW => ⟨rfl, by rw [hU], by rw [hU]; exact hP, va_K.moved hW.alike hK, hD0, hE.go hW (fun q _ => by rw [hU])⟩⟩ rfl hl.1 rfl (Nat.le_of_ble_eq_true rfl) d_PM_piece_1 ⟨Nat.le_of_ble_eq_true rfl, Nat.le_of_ble_eq_true rfl⟩ (fun x T1 X hce hz hk => ?_)
  exact tx_leave X hlocks hno hce
set_option maxHeartbeats 4000000 in
set_option maxRecDepth 100000 in
theorem c_Law_find (l : Launch) (hfl : l.flags = flags0) (dC : Nat → ClassId) (dI : Nat → Nat → Nat) (h0 o1 o2 o3 o4 o5 o6 h9 : Nat) (sz : Nat) (x1 : Int32) (a1 a2 : Nat) : Met l y_Law_find (.codeWith y_Law_find method_4_code 4 (some .int) [(0, 16, 19, 21), (0, 16, 22, 23)] :: wC) ({ frames := 8, cells := 1, slots := 6, locals := 123 }) (va_Pc [.ref h0, .int x1, .ref h9] (fun U => U.heap.size = sz ∧ va_P (dC, dI) clP [(h0, .inr (6, [.ref o1, .ref o2, .ref o3, .ref o4, .ref o5, .ref o6, .int 0, .int 0]))] U.heap ∧ va_K (dC, dI) clP [] U ∧ va_D (fun _ => True) [(h0, .inr (6, [.ref o1, .ref o2, .ref o3, .ref o4, .ref o5, .ref o6, .int 0, .int 0]))] ∧ tx_E a1 a2 U)) (va_Qi (fun (r : Int32) (_ : Unit) => r = 1) (fun (_ : Unit) (t : State) => True) (va_A [(h0, .inr (6, [.ref o1, .ref o2, .ref o3, .ref o4, .ref o5, .ref o6, .int 0, .int 0]))] sz)) 1 6 (va_A [(h0, .inr (6, [.ref o1, .ref o2, .ref o3, .ref o4, .ref o5, .ref o6, .int 0, .int 0]))] sz) := by
  refine va_MetW (cc := method_4_code) (maxL := 4) (ret := (some .int)) (by decide) rfl ?_
  intro p e s m args below meth c s₁ B hml hv
  obtain ⟨rfl, hsz, hP, hK, hD0, hE⟩ := hv
  have hx := B.exec
  have hb := B.bytes
  have hr := B.returns
  have htc := fun (w : Cond) (h : w ∈ wC) => atoms_spec (ws := (.codeWith y_Law_find method_4_code 4 (some .int) [(0, 16, 19, 21), (0, 16, 22, 23)] :: wC)) B.pre w (List.mem_cons_of_mem _ h)
  have hown : s.vm.findClass "PatternMachineLaw" = some m.cls := findClass_of_methodNamed B.named
  have hlocks := B.notSynchronized
  subst hsz
  have hP : va_P (dC, dI) clP [(h0, .inr (6, [.ref o1, .ref o2, .ref o3, .ref o4, .ref o5, .ref o6, .int 0, .int 0]))] s.heap := hP
  have hl := lv_entry ([.ref h0, .int x1, .ref h9]) (n := 4) (Nat.le_of_ble_eq_true rfl)
  rw [lg_entry_eq]
  generalize (lg_sl ([.ref h0, .int x1, .ref h9]) ++ List.replicate (4 - (lg_sl ([.ref h0, .int x1, .ref h9])).length) Slot.unset).toArray = ls at hl ⊢
  have hl : lv_has ls 4 [(0, .ref h0), (1, .int x1), (2, .ref h9)] := hl
  have htab : c.exceptionTable.toList.map (fun h => (h.startPc, h.endPc, h.handlerPc, h.catchType)) = [(0, 16, 19, 21), (0, 16, 22, 23)] := by
    obtain ⟨m9, meth9, c9, hn9, k1, k2, k3, k4, k5, -⟩ := Cond.codeWith_spec (atoms_spec (ws := (.codeWith y_Law_find method_4_code 4 (some .int) [(0, 16, 19, 21), (0, 16, 22, 23)] :: wC)) B.pre _ List.mem_cons_self)
    cases B.named.symm.trans hn9
    cases B.method.symm.trans k1
    cases (Stand.of_body B).code.symm.trans k2
    exact k5
  refine lv_aload_n hx hb d_Law_find_0 rfl (lv_at hl 2 rfl) ?_
  refine lv_iconst (v := 0) hx hb d_Law_find_1 (by decide) ?_
  refine lv_aload_n hx hb d_Law_find_2 rfl (lv_at hl 0 rfl) ?_
  refine lv_iload_n hx hb d_Law_find_3 rfl (lv_at hl 1 rfl) ?_
  refine tx_run (As := [.int x1]) (rest := [.int 0, .ref h9]) ⟨hx, hb, hml, hown, htc⟩ (x_PM_find l hfl dC dI h0 o1 o2 o3 o4 o5 o6 s.heap.size x1 a1 a2) (cwV 1 htc (gV mw_243 mw_244 mw_245 mw_241 mw_246) rfl rfl rfl (by decide +kernel) ⟨Nat.le_of_ble_eq_true rfl, Nat.le_of_ble_eq_true rfl⟩) ⟨fun a U g mk q => by obtain ⟨q0, q1, qP, qK, qD, qE⟩ := q; exact ⟨q0, q1, qP, va_K.moved (u := U) (U := U.calling g mk a) (Vm.Alike.refl U.vm) qK, qD, qE.same rfl rfl⟩, va_recv hK hP (ci := 6) rfl (q0 := 0) rfl, fun U hU hW => ⟨rfl, by rw [hU], by rw [hU]; exact hP, va_K.moved hW.alike hK, hD0, hE.go hW (fun q _ => by rw [hU])⟩⟩ rfl hl.1 rfl (Nat.le_of_ble_eq_true rfl) d_Law_find_4 ⟨Nat.le_of_ble_eq_true rfl, Nat.le_of_ble_eq_true rfl⟩ (fun x T1 X hce hz hk => ?_)
  refine tx_catch (own := "PatternMachineLaw") (cls := "java/lang/IllegalStateException") (n := 6) X hown htab (by decide) (by decide) (htc _ mw_247) (htc _ mw_236) hce ?_
  refine lv_astore_n (lv' := [(3, .ref x), (0, .ref h0), (1, .int x1), (2, .ref h9)]) hx hb d_Law_find_19 rfl hl (by decide) rfl (fun ls hl => ?_)
  refine lv_iconst (v := 1) hx hb d_Law_find_20 (by decide) ?_
  exact W.iret (v := 1) hx hb hr (fun t ht hW => ⟨⟨1, (), rfl, rfl, trivial⟩, by rw [ht]; exact hz, fun q h1 _ => by rw [ht]; exact hk q h1⟩) (fun q h => by cases h) d_Law_find_21
set_option maxHeartbeats 4000000 in
set_option maxRecDepth 100000 in
theorem c_Law_matches (l : Launch) (hfl : l.flags = flags0) (dC : Nat → ClassId) (dI : Nat → Nat → Nat) (h0 o1 o2 o3 o4 o5 o6 h9 : Nat) (sz : Nat) (a1 a2 : Nat) : Met l y_Law_matches (.codeWith y_Law_matches method_5_code 3 (some .int) [(0, 15, 18, 21)] :: wC) ({ frames := 8, cells := 1, slots := 6, locals := 122 }) (va_Pc [.ref h0, .ref h9] (fun U => U.heap.size = sz ∧ va_P (dC, dI) clP [(h0, .inr (6, [.ref o1, .ref o2, .ref o3, .ref o4, .ref o5, .ref o6, .int 0, .int 0]))] U.heap ∧ va_K (dC, dI) clP [] U ∧ va_D (fun _ => True) [(h0, .inr (6, [.ref o1, .ref o2, .ref o3, .ref o4, .ref o5, .ref o6, .int 0, .int 0]))] ∧ tx_E a1 a2 U)) (va_Qi (fun (r : Int32) (_ : Unit) => r = 1) (fun (_ : Unit) (t : State) => True) (va_A [(h0, .inr (6, [.ref o1, .ref o2, .ref o3, .ref o4, .ref o5, .ref o6, .int 0, .int 0]))] sz)) 1 6 (va_A [(h0, .inr (6, [.ref o1, .ref o2, .ref o3, .ref o4, .ref o5, .ref o6, .int 0, .int 0]))] sz) := by
  refine va_MetW (cc := method_5_code) (maxL := 3) (ret := (some .int)) (by decide) rfl ?_
  intro p e s m args below meth c s₁ B hml hv
  obtain ⟨rfl, hsz, hP, hK, hD0, hE⟩ := hv
  have hx := B.exec
  have hb := B.bytes
  have hr := B.returns
  have htc := fun (w : Cond) (h : w ∈ wC) => atoms_spec (ws := (.codeWith y_Law_matches method_5_code 3 (some .int) [(0, 15, 18, 21)] :: wC)) B.pre w (List.mem_cons_of_mem _ h)
  have hown : s.vm.findClass "PatternMachineLaw" = some m.cls := findClass_of_methodNamed B.named
  have hlocks := B.notSynchronized
  subst hsz
  have hP : va_P (dC, dI) clP [(h0, .inr (6, [.ref o1, .ref o2, .ref o3, .ref o4, .ref o5, .ref o6, .int 0, .int 0]))] s.heap := hP
  have hl := lv_entry ([.ref h0, .ref h9]) (n := 3) (Nat.le_of_ble_eq_true rfl)
  rw [lg_entry_eq]
  generalize (lg_sl ([.ref h0, .ref h9]) ++ List.replicate (3 - (lg_sl ([.ref h0, .ref h9])).length) Slot.unset).toArray = ls at hl ⊢
  have hl : lv_has ls 3 [(0, .ref h0), (1, .ref h9)] := hl
  have htab : c.exceptionTable.toList.map (fun h => (h.startPc, h.endPc, h.handlerPc, h.catchType)) = [(0, 15, 18, 21)] := by
    obtain ⟨m9, meth9, c9, hn9, k1, k2, k3, k4, k5, -⟩ := Cond.codeWith_spec (atoms_spec (ws := (.codeWith y_Law_matches method_5_code 3 (some .int) [(0, 15, 18, 21)] :: wC)) B.pre _ List.mem_cons_self)
    cases B.named.symm.trans hn9
    cases B.method.symm.trans k1
    cases (Stand.of_body B).code.symm.trans k2
    exact k5
  refine lv_aload_n hx hb d_Law_matches_0 rfl (lv_at hl 1 rfl) ?_
  refine lv_iconst (v := 0) hx hb d_Law_matches_1 (by decide) ?_
  refine lv_aload_n hx hb d_Law_matches_2 rfl (lv_at hl 0 rfl) ?_
  refine tx_run (As := []) (rest := [.int 0, .ref h9]) ⟨hx, hb, hml, hown, htc⟩ (x_PM_matches l hfl dC dI h0 o1 o2 o3 o4 o5 o6 s.heap.size a1 a2) (cwV 0 htc (gV mw_248 mw_249 mw_250 mw_241 mw_251) rfl rfl rfl (by decide +kernel) ⟨Nat.le_of_ble_eq_true rfl, Nat.le_of_ble_eq_true rfl⟩) ⟨fun a U g mk q => by obtain ⟨q0, q1, qP, qK, qD, qE⟩ := q; exact ⟨q0, q1, qP, va_K.moved (u := U) (U := U.calling g mk a) (Vm.Alike.refl U.vm) qK, qD, qE.same rfl rfl⟩, va_recv hK hP (ci := 6) rfl (q0 := 0) rfl, fun U hU hW => ⟨rfl, by rw [hU], by rw [hU]; exact hP, va_K.moved hW.alike hK, hD0, hE.go hW (fun q _ => by rw [hU])⟩⟩ rfl hl.1 rfl (Nat.le_of_ble_eq_true rfl) d_Law_matches_3 ⟨Nat.le_of_ble_eq_true rfl, Nat.le_of_ble_eq_true rfl⟩ (fun x T1 X hce hz hk => ?_)
  refine tx_catch (own := "PatternMachineLaw") (cls := "java/lang/IllegalStateException") (n := 6) X hown htab (by decide) (by decide) (htc _ mw_247) (htc _ mw_236) hce ?_
  refine lv_astore_n (lv' := [(2, .ref x), (0, .ref h0), (1, .ref h9)]) hx hb d_Law_matches_18 rfl hl (by decide) rfl (fun ls hl => ?_)
  refine lv_iconst (v := 1) hx hb d_Law_matches_19 (by decide) ?_
  exact W.iret (v := 1) hx hb hr (fun t ht hW => ⟨⟨1, (), rfl, rfl, trivial⟩, by rw [ht]; exact hz, fun q h1 _ => by rw [ht]; exact hk q h1⟩) (fun q h => by cases h) d_Law_matches_20
set_option maxHeartbeats 4000000 in
set_option maxRecDepth 100000 in
theorem c_Law_group (l : Launch) (hfl : l.flags = flags0) (dC : Nat → ClassId) (dI : Nat → Nat → Nat) (h0 o1 o2 o3 o4 o5 o6 h9 : Nat) (sz : Nat) (x1 x2 : Int32) (a1 a2 : Nat) : Met l y_Law_group (.codeWith y_Law_group method_6_code 5 (some .int) [(0, 10, 13, 21), (0, 10, 17, 23)] :: wC) ({ frames := 7, cells := 1, slots := 6, locals := 104 }) (va_Pc [.ref h0, .int x1, .int x2, .ref h9] (fun U => U.heap.size = sz ∧ va_P (dC, dI) clP [(h0, .inr (6, [.ref o1, .ref o2, .ref o3, .ref o4, .ref o5, .ref o6, .int 0, .int 0]))] U.heap ∧ va_K (dC, dI) clP [] U ∧ va_D (fun _ => True) [(h0, .inr (6, [.ref o1, .ref o2, .ref o3, .ref o4, .ref o5, .ref o6, .int 0, .int 0]))] ∧ tx_E a1 a2 U)) (va_Qi (fun (r : Int32) (_ : Unit) => r = 1) (fun (_ : Unit) (t : State) => True) (va_A [(h0, .inr (6, [.ref o1, .ref o2, .ref o3, .ref o4, .ref o5, .ref o6, .int 0, .int 0]))] sz)) 1 6 (va_A [(h0, .inr (6, [.ref o1, .ref o2, .ref o3, .ref o4, .ref o5, .ref o6, .int 0, .int 0]))] sz) := by
  refine va_MetW (cc := method_6_code) (maxL := 5) (ret := (some .int)) (by decide) rfl ?_
  intro p e s m args below meth c s₁ B hml hv
  obtain ⟨rfl, hsz, hP, hK, hD0, hE⟩ := hv
  have hx := B.exec
  have hb := B.bytes
  have hr := B.returns
  have htc := fun (w : Cond) (h : w ∈ wC) => atoms_spec (ws := (.codeWith y_Law_group method_6_code 5 (some .int) [(0, 10, 13, 21), (0, 10, 17, 23)] :: wC)) B.pre w (List.mem_cons_of_mem _ h)
  have hown : s.vm.findClass "PatternMachineLaw" = some m.cls := findClass_of_methodNamed B.named
  have hlocks := B.notSynchronized
  subst hsz
  have hP : va_P (dC, dI) clP [(h0, .inr (6, [.ref o1, .ref o2, .ref o3, .ref o4, .ref o5, .ref o6, .int 0, .int 0]))] s.heap := hP
  have hl := lv_entry ([.ref h0, .int x1, .int x2, .ref h9]) (n := 5) (Nat.le_of_ble_eq_true rfl)
  rw [lg_entry_eq]
  generalize (lg_sl ([.ref h0, .int x1, .int x2, .ref h9]) ++ List.replicate (5 - (lg_sl ([.ref h0, .int x1, .int x2, .ref h9])).length) Slot.unset).toArray = ls at hl ⊢
  have hl : lv_has ls 5 [(0, .ref h0), (1, .int x1), (2, .int x2), (3, .ref h9)] := hl
  have htab : c.exceptionTable.toList.map (fun h => (h.startPc, h.endPc, h.handlerPc, h.catchType)) = [(0, 10, 13, 21), (0, 10, 17, 23)] := by
    obtain ⟨m9, meth9, c9, hn9, k1, k2, k3, k4, k5, -⟩ := Cond.codeWith_spec (atoms_spec (ws := (.codeWith y_Law_group method_6_code 5 (some .int) [(0, 10, 13, 21), (0, 10, 17, 23)] :: wC)) B.pre _ List.mem_cons_self)
    cases B.named.symm.trans hn9
    cases B.method.symm.trans k1
    cases (Stand.of_body B).code.symm.trans k2
    exact k5
  refine lv_aload_n hx hb d_Law_group_0 rfl (lv_at hl 3 rfl) ?_
  refine lv_iconst (v := 0) hx hb d_Law_group_1 (by decide) ?_
  refine lv_aload_n hx hb d_Law_group_2 rfl (lv_at hl 0 rfl) ?_
  refine lv_iload_n hx hb d_Law_group_3 rfl (lv_at hl 1 rfl) ?_
  refine lv_iload_n hx hb d_Law_group_4 rfl (lv_at hl 2 rfl) ?_
  refine tx_run (As := [.int x1, .int x2]) (rest := [.int 0, .ref h9]) ⟨hx, hb, hml, hown, htc⟩ (x_PM_group l hfl dC dI h0 o1 o2 o3 o4 o5 o6 s.heap.size x1 x2 a1 a2) (cwV 2 htc (gV mw_252 mw_253 mw_254 mw_241 mw_255) rfl rfl rfl (by decide +kernel) ⟨Nat.le_of_ble_eq_true rfl, Nat.le_of_ble_eq_true rfl⟩) ⟨fun a U g mk q => by obtain ⟨q0, q1, qP, qK, qD, qE⟩ := q; exact ⟨q0, q1, qP, va_K.moved (u := U) (U := U.calling g mk a) (Vm.Alike.refl U.vm) qK, qD, qE.same rfl rfl⟩, va_recv hK hP (ci := 6) rfl (q0 := 0) rfl, fun U hU hW => ⟨rfl, by rw [hU], by rw [hU]; exact hP, va_K.moved hW.alike hK, hD0, hE.go hW (fun q _ => by rw [hU])⟩⟩ rfl hl.1 rfl (Nat.le_of_ble_eq_true rfl) d_Law_group_5 ⟨Nat.le_of_ble_eq_true rfl, Nat.le_of_ble_eq_true rfl⟩ (fun x T1 X hce hz hk => ?_)
  refine tx_catch (own := "PatternMachineLaw") (cls := "java/lang/IllegalStateException") (n := 6) X hown htab (by decide) (by decide) (htc _ mw_247) (htc _ mw_236) hce ?_
  refine lv_astore (lv' := [(4, .ref x), (0, .ref h0), (1, .int x1), (2, .int x2), (3, .ref h9)]) hx hb d_Law_group_13 hl (by decide) rfl (fun ls hl => ?_)
  refine lv_iconst (v := 1) hx hb d_Law_group_15 (by decide) ?_
  exact W.iret (v := 1) hx hb hr (fun t ht hW => ⟨⟨1, (), rfl, rfl, trivial⟩, by rw [ht]; exact hz, fun q h1 _ => by rw [ht]; exact hk q h1⟩) (fun q h => by cases h) d_Law_group_16
set_option maxHeartbeats 4000000 in
set_option maxRecDepth 100000 in
theorem c_Law_count (l : Launch) (hfl : l.flags = flags0) (dC : Nat → ClassId) (dI : Nat → Nat → Nat) (h0 o1 o2 o3 o4 o5 o6 h9 : Nat) (sz : Nat) (a1 a2 : Nat) : Met l y_Law_count (.codeWith y_Law_count method_7_code 3 (some .int) [(0, 8, 11, 21)] :: wC) ({ frames := 8, cells := 1, slots := 6, locals := 125 }) (va_Pc [.ref h0, .ref h9] (fun U => U.heap.size = sz ∧ va_P (dC, dI) clP [(h0, .inr (6, [.ref o1, .ref o2, .ref o3, .ref o4, .ref o5, .ref o6, .int 0, .int 0]))] U.heap ∧ va_K (dC, dI) clP [] U ∧ va_D (fun _ => True) [(h0, .inr (6, [.ref o1, .ref o2, .ref o3, .ref o4, .ref o5, .ref o6, .int 0, .int 0]))] ∧ tx_E a1 a2 U)) (va_Qi (fun (r : Int32) (_ : Unit) => r = 1) (fun (_ : Unit) (t : State) => True) (va_A [(h0, .inr (6, [.ref o1, .ref o2, .ref o3, .ref o4, .ref o5, .ref o6, .int 0, .int 0]))] sz)) 1 6 (va_A [(h0, .inr (6, [.ref o1, .ref o2, .ref o3, .ref o4, .ref o5, .ref o6, .int 0, .int 0]))] sz) := by
  refine va_MetW (cc := method_7_code) (maxL := 3) (ret := (some .int)) (by decide) rfl ?_
  intro p e s m args below meth c s₁ B hml hv
  obtain ⟨rfl, hsz, hP, hK, hD0, hE⟩ := hv
  have hx := B.exec
  have hb := B.bytes
  have hr := B.returns
  have htc := fun (w : Cond) (h : w ∈ wC) => atoms_spec (ws := (.codeWith y_Law_count method_7_code 3 (some .int) [(0, 8, 11, 21)] :: wC)) B.pre w (List.mem_cons_of_mem _ h)
  have hown : s.vm.findClass "PatternMachineLaw" = some m.cls := findClass_of_methodNamed B.named
  have hlocks := B.notSynchronized
  subst hsz
  have hP : va_P (dC, dI) clP [(h0, .inr (6, [.ref o1, .ref o2, .ref o3, .ref o4, .ref o5, .ref o6, .int 0, .int 0]))] s.heap := hP
  have hl := lv_entry ([.ref h0, .ref h9]) (n := 3) (Nat.le_of_ble_eq_true rfl)
  rw [lg_entry_eq]
  generalize (lg_sl ([.ref h0, .ref h9]) ++ List.replicate (3 - (lg_sl ([.ref h0, .ref h9])).length) Slot.unset).toArray = ls at hl ⊢
  have hl : lv_has ls 3 [(0, .ref h0), (1, .ref h9)] := hl
  have htab : c.exceptionTable.toList.map (fun h => (h.startPc, h.endPc, h.handlerPc, h.catchType)) = [(0, 8, 11, 21)] := by
    obtain ⟨m9, meth9, c9, hn9, k1, k2, k3, k4, k5, -⟩ := Cond.codeWith_spec (atoms_spec (ws := (.codeWith y_Law_count method_7_code 3 (some .int) [(0, 8, 11, 21)] :: wC)) B.pre _ List.mem_cons_self)
    cases B.named.symm.trans hn9
    cases B.method.symm.trans k1
    cases (Stand.of_body B).code.symm.trans k2
    exact k5
  refine lv_aload_n hx hb d_Law_count_0 rfl (lv_at hl 1 rfl) ?_
  refine lv_iconst (v := 0) hx hb d_Law_count_1 (by decide) ?_
  refine lv_aload_n hx hb d_Law_count_2 rfl (lv_at hl 0 rfl) ?_
  refine tx_run (As := []) (rest := [.int 0, .ref h9]) ⟨hx, hb, hml, hown, htc⟩ (x_PM_count l hfl dC dI h0 o1 o2 o3 o4 o5 o6 s.heap.size a1 a2) (cwV 0 htc (gV mw_256 mw_257 mw_258 mw_241 mw_259) rfl rfl rfl (by decide +kernel) ⟨Nat.le_of_ble_eq_true rfl, Nat.le_of_ble_eq_true rfl⟩) ⟨fun a U g mk q => by obtain ⟨q0, q1, qP, qK, qD, qE⟩ := q; exact ⟨q0, q1, qP, va_K.moved (u := U) (U := U.calling g mk a) (Vm.Alike.refl U.vm) qK, qD, qE.same rfl rfl⟩, va_recv hK hP (ci := 6) rfl (q0 := 0) rfl, fun U hU hW => ⟨rfl, by rw [hU], by rw [hU]; exact hP, va_K.moved hW.alike hK, hD0, hE.go hW (fun q _ => by rw [hU])⟩⟩ rfl hl.1 rfl (Nat.le_of_ble_eq_true rfl) d_Law_count_3 ⟨Nat.le_of_ble_eq_true rfl, Nat.le_of_ble_eq_true rfl⟩ (fun x T1 X hce hz hk => ?_)
  refine tx_catch (own := "PatternMachineLaw") (cls := "java/lang/IllegalStateException") (n := 6) X hown htab (by decide) (by decide) (htc _ mw_247) (htc _ mw_236) hce ?_
  refine lv_astore_n (lv' := [(2, .ref x), (0, .ref h0), (1, .ref h9)]) hx hb d_Law_count_11 rfl hl (by decide) rfl (fun ls hl => ?_)
  refine lv_iconst (v := 1) hx hb d_Law_count_12 (by decide) ?_
  exact W.iret (v := 1) hx hb hr (fun t ht hW => ⟨⟨1, (), rfl, rfl, trivial⟩, by rw [ht]; exact hz, fun q h1 _ => by rw [ht]; exact hk q h1⟩) (fun q h => by cases h) d_Law_count_13
set_option maxHeartbeats 4000000 in
set_option maxRecDepth 100000 in
theorem c_Law_replace (l : Launch) (hfl : l.flags = flags0) (dC : Nat → ClassId) (dI : Nat → Nat → Nat) (h0 o1 o2 o3 o4 o5 o6 h9 : Nat) (sz : Nat) (a1 a2 : Nat) : Met l y_Law_replace (.codeWith y_Law_replace method_8_code 3 (some .int) [(0, 8, 11, 21), (0, 8, 14, 13)] :: wC) ({ frames := 8, cells := 1, slots := 6, locals := 126 }) (va_Pc [.ref h0, .ref h9] (fun U => U.heap.size = sz ∧ va_P (dC, dI) clP [(h0, .inr (6, [.ref o1, .ref o2, .ref o3, .ref o4, .ref o5, .ref o6, .int 0, .int 0]))] U.heap ∧ va_K (dC, dI) clP [] U ∧ va_D (fun _ => True) [(h0, .inr (6, [.ref o1, .ref o2, .ref o3, .ref o4, .ref o5, .ref o6, .int 0, .int 0]))] ∧ tx_E a1 a2 U)) (va_Qi (fun (r : Int32) (_ : Unit) => r = 1) (fun (_ : Unit) (t : State) => True) (va_A [(h0, .inr (6, [.ref o1, .ref o2, .ref o3, .ref o4, .ref o5, .ref o6, .int 0, .int 0]))] sz)) 1 6 (va_A [(h0, .inr (6, [.ref o1, .ref o2, .ref o3, .ref o4, .ref o5, .ref o6, .int 0, .int 0]))] sz) := by
  refine va_MetW (cc := method_8_code) (maxL := 3) (ret := (some .int)) (by decide) rfl ?_
  intro p e s m args below meth c s₁ B hml hv
  obtain ⟨rfl, hsz, hP, hK, hD0, hE⟩ := hv
  have hx := B.exec
  have hb := B.bytes
  have hr := B.returns
  have htc := fun (w : Cond) (h : w ∈ wC) => atoms_spec (ws := (.codeWith y_Law_replace method_8_code 3 (some .int) [(0, 8, 11, 21), (0, 8, 14, 13)] :: wC)) B.pre w (List.mem_cons_of_mem _ h)
  have hown : s.vm.findClass "PatternMachineLaw" = some m.cls := findClass_of_methodNamed B.named
  have hlocks := B.notSynchronized
  subst hsz
  have hP : va_P (dC, dI) clP [(h0, .inr (6, [.ref o1, .ref o2, .ref o3, .ref o4, .ref o5, .ref o6, .int 0, .int 0]))] s.heap := hP
  have hl := lv_entry ([.ref h0, .ref h9]) (n := 3) (Nat.le_of_ble_eq_true rfl)
  rw [lg_entry_eq]
  generalize (lg_sl ([.ref h0, .ref h9]) ++ List.replicate (3 - (lg_sl ([.ref h0, .ref h9])).length) Slot.unset).toArray = ls at hl ⊢
  have hl : lv_has ls 3 [(0, .ref h0), (1, .ref h9)] := hl
  have htab : c.exceptionTable.toList.map (fun h => (h.startPc, h.endPc, h.handlerPc, h.catchType)) = [(0, 8, 11, 21), (0, 8, 14, 13)] := by
    obtain ⟨m9, meth9, c9, hn9, k1, k2, k3, k4, k5, -⟩ := Cond.codeWith_spec (atoms_spec (ws := (.codeWith y_Law_replace method_8_code 3 (some .int) [(0, 8, 11, 21), (0, 8, 14, 13)] :: wC)) B.pre _ List.mem_cons_self)
    cases B.named.symm.trans hn9
    cases B.method.symm.trans k1
    cases (Stand.of_body B).code.symm.trans k2
    exact k5
  refine lv_aload_n hx hb d_Law_replace_0 rfl (lv_at hl 1 rfl) ?_
  refine lv_iconst (v := 0) hx hb d_Law_replace_1 (by decide) ?_
  refine lv_aload_n hx hb d_Law_replace_2 rfl (lv_at hl 0 rfl) ?_
  refine tx_run (As := []) (rest := [.int 0, .ref h9]) ⟨hx, hb, hml, hown, htc⟩ (x_PM_replace l hfl dC dI h0 o1 o2 o3 o4 o5 o6 s.heap.size a1 a2) (cwV 0 htc (gV mw_260 mw_261 mw_262 mw_241 mw_263) rfl rfl rfl (by decide +kernel) ⟨Nat.le_of_ble_eq_true rfl, Nat.le_of_ble_eq_true rfl⟩) ⟨fun a U g mk q => by obtain ⟨q0, q1, qP, qK, qD, qE⟩ := q; exact ⟨q0, q1, qP, va_K.moved (u := U) (U := U.calling g mk a) (Vm.Alike.refl U.vm) qK, qD, qE.same rfl rfl⟩, va_recv hK hP (ci := 6) rfl (q0 := 0) rfl, fun U hU hW => ⟨rfl, by rw [hU], by rw [hU]; exact hP, va_K.moved hW.alike hK, hD0, hE.go hW (fun q _ => by rw [hU])⟩⟩ rfl hl.1 rfl (Nat.le_of_ble_eq_true rfl) d_Law_replace_3 ⟨Nat.le_of_ble_eq_true rfl, Nat.le_of_ble_eq_true rfl⟩ (fun x T1 X hce hz hk => ?_)
  refine tx_catch (own := "PatternMachineLaw") (cls := "java/lang/IllegalStateException") (n := 6) X hown htab (by decide) (by decide) (htc _ mw_247) (htc _ mw_236) hce ?_
  refine lv_astore_n (lv' := [(2, .ref x), (0, .ref h0), (1, .ref h9)]) hx hb d_Law_replace_11 rfl hl (by decide) rfl (fun ls hl => ?_)
  refine lv_iconst (v := 1) hx hb d_Law_replace_12 (by decide) ?_
  exact W.iret (v := 1) hx hb hr (fun t ht hW => ⟨⟨1, (), rfl, rfl, trivial⟩, by rw [ht]; exact hz, fun q h1 _ => by rw [ht]; exact hk q h1⟩) (fun q h => by cases h) d_Law_replace_13
set_option maxHeartbeats 4000000 in
set_option maxRecDepth 100000 in
theorem c_Law_piece (l : Launch) (hfl : l.flags = flags0) (dC : Nat → ClassId) (dI : Nat → Nat → Nat) (h0 o1 o2 o3 o4 o5 o6 h9 : Nat) (sz : Nat) (x1 x2 : Int32) (a1 a2 : Nat) : Met l y_Law_piece (.codeWith y_Law_piece method_9_code 5 (some .int) [(0, 10, 13, 21), (0, 10, 17, 44), (0, 10, 21, 23)] :: wC) ({ frames := 8, cells := 1, slots := 6, locals := 128 }) (va_Pc [.ref h0, .int x1, .int x2, .ref h9] (fun U => U.heap.size = sz ∧ va_P (dC, dI) clP [(h0, .inr (6, [.ref o1, .ref o2, .ref o3, .ref o4, .ref o5, .ref o6, .int 0, .int 0]))] U.heap ∧ va_K (dC, dI) clP [] U ∧ va_D (fun _ => True) [(h0, .inr (6, [.ref o1, .ref o2, .ref o3, .ref o4, .ref o5, .ref o6, .int 0, .int 0]))] ∧ tx_E a1 a2 U)) (va_Qi (fun (r : Int32) (_ : Unit) => r = 1) (fun (_ : Unit) (t : State) => True) (va_A [(h0, .inr (6, [.ref o1, .ref o2, .ref o3, .ref o4, .ref o5, .ref o6, .int 0, .int 0]))] sz)) 1 6 (va_A [(h0, .inr (6, [.ref o1, .ref o2, .ref o3, .ref o4, .ref o5, .ref o6, .int 0, .int 0]))] sz) := by
  refine va_MetW (cc := method_9_code) (maxL := 5) (ret := (some .int)) (by decide) rfl ?_
  intro p e s m args below meth c s₁ B hml hv
  obtain ⟨rfl, hsz, hP, hK, hD0, hE⟩ := hv
  have hx := B.exec
  have hb := B.bytes
  have hr := B.returns
  have htc := fun (w : Cond) (h : w ∈ wC) => atoms_spec (ws := (.codeWith y_Law_piece method_9_code 5 (some .int) [(0, 10, 13, 21), (0, 10, 17, 44), (0, 10, 21, 23)] :: wC)) B.pre w (List.mem_cons_of_mem _ h)
  have hown : s.vm.findClass "PatternMachineLaw" = some m.cls := findClass_of_methodNamed B.named
  have hlocks := B.notSynchronized
  subst hsz
  have hP : va_P (dC, dI) clP [(h0, .inr (6, [.ref o1, .ref o2, .ref o3, .ref o4, .ref o5, .ref o6, .int 0, .int 0]))] s.heap := hP
  have hl := lv_entry ([.ref h0, .int x1, .int x2, .ref h9]) (n := 5) (Nat.le_of_ble_eq_true rfl)
  rw [lg_entry_eq]
  generalize (lg_sl ([.ref h0, .int x1, .int x2, .ref h9]) ++ List.replicate (5 - (lg_sl ([.ref h0, .int x1, .int x2, .ref h9])).length) Slot.unset).toArray = ls at hl ⊢
  have hl : lv_has ls 5 [(0, .ref h0), (1, .int x1), (2, .int x2), (3, .ref h9)] := hl
  have htab : c.exceptionTable.toList.map (fun h => (h.startPc, h.endPc, h.handlerPc, h.catchType)) = [(0, 10, 13, 21), (0, 10, 17, 44), (0, 10, 21, 23)] := by
    obtain ⟨m9, meth9, c9, hn9, k1, k2, k3, k4, k5, -⟩ := Cond.codeWith_spec (atoms_spec (ws := (.codeWith y_Law_piece method_9_code 5 (some .int) [(0, 10, 13, 21), (0, 10, 17, 44), (0, 10, 21, 23)] :: wC)) B.pre _ List.mem_cons_self)
    cases B.named.symm.trans hn9
    cases B.method.symm.trans k1
    cases (Stand.of_body B).code.symm.trans k2
    exact k5
  refine lv_aload_n hx hb d_Law_piece_0 rfl (lv_at hl 3 rfl) ?_
  refine lv_iconst (v := 0) hx hb d_Law_piece_1 (by decide) ?_
  refine lv_aload_n hx hb d_Law_piece_2 rfl (lv_at hl 0 rfl) ?_
  refine lv_iload_n hx hb d_Law_piece_3 rfl (lv_at hl 1 rfl) ?_
  refine lv_iload_n hx hb d_Law_piece_4 rfl (lv_at hl 2 rfl) ?_
  refine tx_run (As := [.int x1, .int x2]) (rest := [.int 0, .ref h9]) ⟨hx, hb, hml, hown, htc⟩ (x_PM_piece l hfl dC dI h0 o1 o2 o3 o4 o5 o6 s.heap.size x1 x2 a1 a2) (cwV 2 htc (gV mw_264 mw_265 mw_266 mw_241 mw_267) rfl rfl rfl (by decide +kernel) ⟨Nat.le_of_ble_eq_true rfl, Nat.le_of_ble_eq_true rfl⟩) ⟨fun a U g mk q => by obtain ⟨q0, q1, qP, qK, qD, qE⟩ := q; exact ⟨q0, q1, qP, va_K.moved (u := U) (U := U.calling g mk a) (Vm.Alike.refl U.vm) qK, qD, qE.same rfl rfl⟩, va_recv hK hP (ci := 6) rfl (q0 := 0) rfl, fun U hU hW => ⟨rfl, by rw [hU], by rw [hU]; exact hP, va_K.moved hW.alike hK, hD0, hE.go hW (fun q _ => by rw [hU])⟩⟩ rfl hl.1 rfl (Nat.le_of_ble_eq_true rfl) d_Law_piece_5 ⟨Nat.le_of_ble_eq_true rfl, Nat.le_of_ble_eq_true rfl⟩ (fun x T1 X hce hz hk => ?_)
  refine tx_catch (own := "PatternMachineLaw") (cls := "java/lang/IllegalStateException") (n := 6) X hown htab (by decide) (by decide) (htc _ mw_247) (htc _ mw_236) hce ?_
  refine lv_astore (lv' := [(4, .ref x), (0, .ref h0), (1, .int x1), (2, .int x2), (3, .ref h9)]) hx hb d_Law_piece_13 hl (by decide) rfl (fun ls hl => ?_)
  refine lv_iconst (v := 1) hx hb d_Law_piece_15 (by decide) ?_
  exact W.iret (v := 1) hx hb hr (fun t ht hW => ⟨⟨1, (), rfl, rfl, trivial⟩, by rw [ht]; exact hz, fun q h1 _ => by rw [ht]; exact hk q h1⟩) (fun q h => by cases h) d_Law_piece_16
