set_option maxHeartbeats 4000000 in
set_option maxRecDepth 100000 in
theorem whole_start {p : Program} {e : Env} {s : State} {m : MethodId} {below : List Frame} {meth : Method} {c : Code} (l : Launch) (hfl : l.flags = flags0) {b L : Nat} {xs : Nat → Int32} (hL : L ≤ 3) (C0 : lw_At p s m meth c b L xs) : W p l e room_1 s m #[Value.ref b] below meth c s.heap [] 0 0 (lw_Z below #[Value.ref b] s) (entryFrame m ([Value.ref b] : List Value).toArray 7) := by
  obtain ⟨hx, hb, hr, hml, hown, hts, hX, hbl, hlocks, hgv⟩ := C0
  have hown : s.vm.findClass "PatternMachineLaw" = some m.cls := hown
  have htc : ∀ w ∈ wC, w.before #[Value.ref b] s = true := fun w h => hts w (wC_in w h)
  have hflat := flat_of_before _ hgv
  have hE0 : va_Nw (.methodLinkNest "PatternMachine$Reader" 21 y_Node_init "PatternMachine") s := va_Nw.of rfl (hts _ lm_nest)
  have hE1 : va_AO "PatternMachine$Node" s := va_AO.of (hts _ lm_ao)
  obtain ⟨a1, a2, hEt⟩ : ∃ a1 a2, tx_E a1 a2 s := tx_start hts hflat
  obtain ⟨d_K0, i_K0, k_K0⟩ := u_known (C := "PatternMachine$Row") (T := T_Row) (N := 2) (n := 2) htc in_Row (htc _ mw_43)
  obtain ⟨d_K1, i_K1, k_K1⟩ := u_known (C := "PatternMachine$Node") (T := T_Node) (N := 11) (n := 11) htc in_Node (htc _ mw_37)
  obtain ⟨d_K2, i_K2, k_K2⟩ := u_known (C := "PatternMachine$Reader") (T := T_Reader) (N := 8) (n := 8) htc in_Reader (htc _ mw_52)
  obtain ⟨d_K3, i_K3, k_K3⟩ := u_known (C := "PatternMachine$Program") (T := T_Program) (N := 7) (n := 7) htc in_Program (htc _ mw_59)
  obtain ⟨d_K4, i_K4, k_K4⟩ := u_known (C := "PatternMachine$Threads") (T := T_Threads) (N := 4) (n := 4) htc in_Threads (htc _ mw_26)
  obtain ⟨d_K5, i_K5, k_K5⟩ := u_known (C := "PatternMachine$Machine") (T := T_Machine) (N := 9) (n := 9) htc in_Machine (htc _ mw_66)
  obtain ⟨d_K6, i_K6, k_K6⟩ := u_known (C := "PatternMachine") (T := T_PM) (N := 8) (n := 8) htc in_PM (htc _ mw_273)
  obtain ⟨d_K7, i_K7, k_K7⟩ := u_known (C := "PatternMachineModel") (T := T_Model) (N := 45) (n := 45) htc in_Model (htc _ mw_278)
  have hK : ∃ (dC : Nat → ClassId) (dI : Nat → Nat → Nat), va_K (dC, dI) clP [] s := by
    refine ⟨fun k => match k with | 0 => d_K0 | 1 => d_K1 | 2 => d_K2 | 3 => d_K3 | 4 => d_K4 | 5 => d_K5 | 6 => d_K6 | _ => d_K7, fun k => match k with | 0 => i_K0 | 1 => i_K1 | 2 => i_K2 | 3 => i_K3 | 4 => i_K4 | 5 => i_K5 | 6 => i_K6 | _ => i_K7, ?_, fun k q h => by simp at h⟩
    intro k q hq
    match k, hq with
    | 0, hq => exact (Option.some.inj hq) ▸ k_K0
    | 1, hq => exact (Option.some.inj hq) ▸ k_K1
    | 2, hq => exact (Option.some.inj hq) ▸ k_K2
    | 3, hq => exact (Option.some.inj hq) ▸ k_K3
    | 4, hq => exact (Option.some.inj hq) ▸ k_K4
    | 5, hq => exact (Option.some.inj hq) ▸ k_K5
    | 6, hq => exact (Option.some.inj hq) ▸ k_K6
    | 7, hq => exact (Option.some.inj hq) ▸ k_K7
    | k + 8, hq => simp at hq
  obtain ⟨dC, dI, hK⟩ := hK
  have hA : ∀ q : Nat, s.heap.size ≤ q → lwA s q := fun q h => h
  have hbA : ¬ lwA s b := Nat.not_le.mpr hbl
  have hS : va_S (lwA s) s.heap s.heap [] := va_S.rf
  have hP : va_P (dC, dI) clP [] s.heap := nilP
  have hD : va_D (lwA s) [] := nilD
  have hl := lv_entry ([.ref b]) (n := 7) (Nat.le_of_ble_eq_true rfl)
  rw [lg_entry_eq]
  generalize (lg_sl ([.ref b]) ++ List.replicate (7 - (lg_sl ([.ref b])).length) Slot.unset).toArray = ls at hl ⊢
  have hl : lv_has ls 7 [(0, .ref b)] := hl
  refine va_new (ci := 6) (fs := [.null, .null, .null, .null, .null, .null, .int 0, .int 0]) (C := "PatternMachine") (T := T_PM) (N := 8) hx hb htc in_PM t_PM t_PM_ok hown (htc _ mw_272) (htc _ mw_273) (htc _ mw_241) hK hP hD hS hA rfl (by decide) (Nat.le_of_ble_eq_true rfl) (Nat.le_of_ble_eq_true rfl) d_Law_law_0 (fun q1 H hP hD hS => ?_)
  refine W.cs (cells' := 1) (slots' := 8) rfl rfl ?_
  have hP : va_P (dC, dI) clP [(q1, .inr (6, [.null, .null, .null, .null, .null, .null, .int 0, .int 0]))] H := hP
  have hD : va_D (lwA s) [(q1, .inr (6, [.null, .null, .null, .null, .null, .null, .int 0, .int 0]))] := hD
  refine lv_dup hx hb d_Law_law_3 rfl ?_
  have hPc := hP.sub (ws' := [(q1, .inr (6, [.null, .null, .null, .null, .null, .null, .int 0, .int 0]))]) [0] rfl
  have hDc := hD.sub (ws' := [(q1, .inr (6, [.null, .null, .null, .null, .null, .null, .int 0, .int 0]))]) [0] (by decide) rfl
  have hKc := hK.sub (tys' := []) [] rfl
  have hFc := va_free (wc := [(q1, .inr (6, [.null, .null, .null, .null, .null, .null, .int 0, .int 0]))]) hD hS hA [0] rfl
  refine va_callv (va_runI (As := []) (rest := [.ref q1]) ⟨hx, hb, hml, hown, htc⟩ (c_PM_init l dC dI q1 H.size) (cwI 0 htc (gC mw_274) rfl rfl rfl (htc _ mw_241) (htc _ mw_275) (htc _ mw_276) rfl (by decide +kernel) ⟨Nat.le_of_ble_eq_true rfl, Nat.le_of_ble_eq_true rfl⟩) ⟨fun a U g mk q => by obtain ⟨q0, q1, qP, qK, qD, qE0, qE1⟩ := q; exact ⟨q0, q1, qP, va_K.moved (u := U) (U := U.calling g mk a) (Vm.Alike.refl U.vm) qK, qD, va_Nw.same rfl rfl qE0, va_AO.moved (u := U) (U := U.calling g mk a) (Vm.Alike.refl U.vm) qE1⟩, fun U hU hW => ⟨rfl, by rw [hU], by rw [hU]; exact hPc, va_K.moved hW.alike hKc, hDc.weaken (fun _ _ _ _ => trivial), va_Nw.warmM hW hE0, va_AO.moved hW.alike hE1⟩⟩ rfl rfl hl.1 rfl (lv_room (Nat.le_of_ble_eq_true rfl)) d_Law_law_4 ⟨Nat.le_of_ble_eq_true rfl, Nat.le_of_ble_eq_true rfl⟩) hS (fun q _ h => hFc q h) hFc (fun u t H locs ht hvm hw hB hz1 hk1 hS => ?_)
  refine W.cs (cells' := 74) (slots' := 6751) rfl rfl ?_
  obtain ⟨q2, q3, q4, q5, q6, q7, q8, q9, q10, q11, q12, q13, q14, q15, q16, q17, q18, k19, k20, k21, k22, k23, k24, k25, k26, k27, f9, hf0, hf1, hP1, hK1, hD1⟩ := hB
  rw [ht] at hP1
  have hK1 := va_K.moved hvm.symm hK1
  obtain ⟨hP, hD⟩ := va_join (wr := []) (w1 := [(q1, .inr (6, [.ref q2, .ref q3, .ref q4, .ref q5, .ref q6, .ref q7, .int 0, .int 0])), (q2, .inr (0, [.ref q8, .int 0])), (q3, .inr (0, [.ref q9, .int 0])), (q4, .inr (0, [.ref q10, .int 0])), (q5, .inr (2, [.ref q2, .ref q11, .int 0, .int 0, .int 0, .int 0, .long 0, .long 0])), (q6, .inr (3, [.ref q12, .ref q13, .ref q14, .ref q15, .ref q16, .int 0, .int 0])), (q8, .inl (k19, 40, .inl (fun _ => 0))), (q9, .inl (k20, 80, .inl (fun _ => 0))), (q10, .inl (k21, 80, .inl (fun _ => 0))), (q11, .inl (k22, 46, .inr (.inr (.inr (.inr f9))))), (q12, .inl (k23, 121, .inl (fun _ => 0))), (q13, .inl (k24, 121, .inl (fun _ => 0))), (q14, .inl (k25, 121, .inl (fun _ => 0))), (q15, .inl (k26, 121, .inr (.inl (fun _ => 0)))), (q16, .inl (k27, 121, .inr (.inl (fun _ => 0)))), (q17, .inr (1, [.int 0, .null, .null, .null, .int 0, .int 0, .int 0, .int 0, .long 0, .long 0, .int 0])), (q18, .inr (1, [.int 0, .null, .null, .null, .int 0, .int 0, .int 0, .int 0, .long 0, .long 0, .int 0]))]) hP hD [0] [] rfl rfl (by decide) (by decide) hk1 hFc hP1 hD1
  have hK := (hK.sub (tys' := []) [] rfl).app hK1
  have hP : va_P (dC, dI) clP [(q1, .inr (6, [.ref q2, .ref q3, .ref q4, .ref q5, .ref q6, .ref q7, .int 0, .int 0])), (q2, .inr (0, [.ref q8, .int 0])), (q3, .inr (0, [.ref q9, .int 0])), (q4, .inr (0, [.ref q10, .int 0])), (q5, .inr (2, [.ref q2, .ref q11, .int 0, .int 0, .int 0, .int 0, .long 0, .long 0])), (q6, .inr (3, [.ref q12, .ref q13, .ref q14, .ref q15, .ref q16, .int 0, .int 0])), (q8, .inl (k19, 40, .inl (fun _ => 0))), (q9, .inl (k20, 80, .inl (fun _ => 0))), (q10, .inl (k21, 80, .inl (fun _ => 0))), (q11, .inl (k22, 46, .inr (.inr (.inr (.inr f9))))), (q12, .inl (k23, 121, .inl (fun _ => 0))), (q13, .inl (k24, 121, .inl (fun _ => 0))), (q14, .inl (k25, 121, .inl (fun _ => 0))), (q15, .inl (k26, 121, .inr (.inl (fun _ => 0)))), (q16, .inl (k27, 121, .inr (.inl (fun _ => 0)))), (q17, .inr (1, [.int 0, .null, .null, .null, .int 0, .int 0, .int 0, .int 0, .long 0, .long 0, .int 0])), (q18, .inr (1, [.int 0, .null, .null, .null, .int 0, .int 0, .int 0, .int 0, .long 0, .long 0, .int 0]))] H := hP
  have hD : va_D (lwA s) [(q1, .inr (6, [.ref q2, .ref q3, .ref q4, .ref q5, .ref q6, .ref q7, .int 0, .int 0])), (q2, .inr (0, [.ref q8, .int 0])), (q3, .inr (0, [.ref q9, .int 0])), (q4, .inr (0, [.ref q10, .int 0])), (q5, .inr (2, [.ref q2, .ref q11, .int 0, .int 0, .int 0, .int 0, .long 0, .long 0])), (q6, .inr (3, [.ref q12, .ref q13, .ref q14, .ref q15, .ref q16, .int 0, .int 0])), (q8, .inl (k19, 40, .inl (fun _ => 0))), (q9, .inl (k20, 80, .inl (fun _ => 0))), (q10, .inl (k21, 80, .inl (fun _ => 0))), (q11, .inl (k22, 46, .inr (.inr (.inr (.inr f9))))), (q12, .inl (k23, 121, .inl (fun _ => 0))), (q13, .inl (k24, 121, .inl (fun _ => 0))), (q14, .inl (k25, 121, .inl (fun _ => 0))), (q15, .inl (k26, 121, .inr (.inl (fun _ => 0)))), (q16, .inl (k27, 121, .inr (.inl (fun _ => 0)))), (q17, .inr (1, [.int 0, .null, .null, .null, .int 0, .int 0, .int 0, .int 0, .long 0, .long 0, .int 0])), (q18, .inr (1, [.int 0, .null, .null, .null, .int 0, .int 0, .int 0, .int 0, .long 0, .long 0, .int 0]))] := hD
  have hK : va_K (dC, dI) clP [(k19, .char), (k20, .char), (k21, .char), (k22, (.object "PatternMachine$Node")), (k23, .int), (k24, .int), (k25, .int), (k26, .long), (k27, .long)] s := hK
  refine lv_astore_n (lv' := [(1, .ref q1), (0, .ref b)]) hx hb d_Law_law_7 rfl hl (by decide) rfl (fun ls hl => ?_)
  refine va_new (ci := 7) (fs := [.int 0, .null, .int 0, .int 0, .null, .int 0, .null, .null, .null, .null, .null, .int 0, .int 0, .int 0, .int 0, .int 0, .int 0, .int 0, .int 0, .null, .null, .null, .null, .null, .int 0, .int 0, .long 0, .long 0, .null, .null, .null, .null, .null, .null, .int 0, .int 0, .null, .null, .null, .int 0, .null, .null, .int 0, .null, .int 0]) (C := "PatternMachineModel") (T := T_Model) (N := 45) hx hb htc in_Model t_Model t_Model_ok hown (htc _ mw_277) (htc _ mw_278) (htc _ mw_201) hK hP hD hS hA rfl (by decide) (Nat.le_of_ble_eq_true rfl) (Nat.le_of_ble_eq_true rfl) d_Law_law_8 (fun q28 H hP hD hS => ?_)
  refine W.cs (cells' := 75) (slots' := 6796) rfl rfl ?_
  have hP : va_P (dC, dI) clP [(q1, .inr (6, [.ref q2, .ref q3, .ref q4, .ref q5, .ref q6, .ref q7, .int 0, .int 0])), (q2, .inr (0, [.ref q8, .int 0])), (q3, .inr (0, [.ref q9, .int 0])), (q4, .inr (0, [.ref q10, .int 0])), (q5, .inr (2, [.ref q2, .ref q11, .int 0, .int 0, .int 0, .int 0, .long 0, .long 0])), (q6, .inr (3, [.ref q12, .ref q13, .ref q14, .ref q15, .ref q16, .int 0, .int 0])), (q8, .inl (k19, 40, .inl (fun _ => 0))), (q9, .inl (k20, 80, .inl (fun _ => 0))), (q10, .inl (k21, 80, .inl (fun _ => 0))), (q11, .inl (k22, 46, .inr (.inr (.inr (.inr f9))))), (q12, .inl (k23, 121, .inl (fun _ => 0))), (q13, .inl (k24, 121, .inl (fun _ => 0))), (q14, .inl (k25, 121, .inl (fun _ => 0))), (q15, .inl (k26, 121, .inr (.inl (fun _ => 0)))), (q16, .inl (k27, 121, .inr (.inl (fun _ => 0)))), (q17, .inr (1, [.int 0, .null, .null, .null, .int 0, .int 0, .int 0, .int 0, .long 0, .long 0, .int 0])), (q18, .inr (1, [.int 0, .null, .null, .null, .int 0, .int 0, .int 0, .int 0, .long 0, .long 0, .int 0])), (q28, .inr (7, [.int 0, .null, .int 0, .int 0, .null, .int 0, .null, .null, .null, .null, .null, .int 0, .int 0, .int 0, .int 0, .int 0, .int 0, .int 0, .int 0, .null, .null, .null, .null, .null, .int 0, .int 0, .long 0, .long 0, .null, .null, .null, .null, .null, .null, .int 0, .int 0, .null, .null, .null, .int 0, .null, .null, .int 0, .null, .int 0]))] H := hP
  have hD : va_D (lwA s) [(q1, .inr (6, [.ref q2, .ref q3, .ref q4, .ref q5, .ref q6, .ref q7, .int 0, .int 0])), (q2, .inr (0, [.ref q8, .int 0])), (q3, .inr (0, [.ref q9, .int 0])), (q4, .inr (0, [.ref q10, .int 0])), (q5, .inr (2, [.ref q2, .ref q11, .int 0, .int 0, .int 0, .int 0, .long 0, .long 0])), (q6, .inr (3, [.ref q12, .ref q13, .ref q14, .ref q15, .ref q16, .int 0, .int 0])), (q8, .inl (k19, 40, .inl (fun _ => 0))), (q9, .inl (k20, 80, .inl (fun _ => 0))), (q10, .inl (k21, 80, .inl (fun _ => 0))), (q11, .inl (k22, 46, .inr (.inr (.inr (.inr f9))))), (q12, .inl (k23, 121, .inl (fun _ => 0))), (q13, .inl (k24, 121, .inl (fun _ => 0))), (q14, .inl (k25, 121, .inl (fun _ => 0))), (q15, .inl (k26, 121, .inr (.inl (fun _ => 0)))), (q16, .inl (k27, 121, .inr (.inl (fun _ => 0)))), (q17, .inr (1, [.int 0, .null, .null, .null, .int 0, .int 0, .int 0, .int 0, .long 0, .long 0, .int 0])), (q18, .inr (1, [.int 0, .null, .null, .null, .int 0, .int 0, .int 0, .int 0, .long 0, .long 0, .int 0])), (q28, .inr (7, [.int 0, .null, .int 0, .int 0, .null, .int 0, .null, .null, .null, .null, .null, .int 0, .int 0, .int 0, .int 0, .int 0, .int 0, .int 0, .int 0, .null, .null, .null, .null, .null, .int 0, .int 0, .long 0, .long 0, .null, .null, .null, .null, .null, .null, .int 0, .int 0, .null, .null, .null, .int 0, .null, .null, .int 0, .null, .int 0]))] := hD
  refine lv_dup hx hb d_Law_law_11 rfl ?_
  have hPc := hP.sub (ws' := [(q28, .inr (7, [.int 0, .null, .int 0, .int 0, .null, .int 0, .null, .null, .null, .null, .null, .int 0, .int 0, .int 0, .int 0, .int 0, .int 0, .int 0, .int 0, .null, .null, .null, .null, .null, .int 0, .int 0, .long 0, .long 0, .null, .null, .null, .null, .null, .null, .int 0, .int 0, .null, .null, .null, .int 0, .null, .null, .int 0, .null, .int 0]))]) [17] rfl
  have hDc := hD.sub (ws' := [(q28, .inr (7, [.int 0, .null, .int 0, .int 0, .null, .int 0, .null, .null, .null, .null, .null, .int 0, .int 0, .int 0, .int 0, .int 0, .int 0, .int 0, .int 0, .null, .null, .null, .null, .null, .int 0, .int 0, .long 0, .long 0, .null, .null, .null, .null, .null, .null, .int 0, .int 0, .null, .null, .null, .int 0, .null, .null, .int 0, .null, .int 0]))]) [17] (by decide) rfl
  have hKc := hK.sub (tys' := []) [] rfl
  have hFc := va_free (wc := [(q28, .inr (7, [.int 0, .null, .int 0, .int 0, .null, .int 0, .null, .null, .null, .null, .null, .int 0, .int 0, .int 0, .int 0, .int 0, .int 0, .int 0, .int 0, .null, .null, .null, .null, .null, .int 0, .int 0, .long 0, .long 0, .null, .null, .null, .null, .null, .null, .int 0, .int 0, .null, .null, .null, .int 0, .null, .null, .int 0, .null, .int 0]))]) hD hS hA [17] rfl
  refine va_callv (va_runI (As := []) (rest := [.ref q28]) ⟨hx, hb, hml, hown, htc⟩ (c_Model_init l dC dI q28 H.size) (cwI 0 htc (gC mw_279) rfl rfl rfl (htc _ mw_201) (htc _ mw_280) (htc _ mw_281) rfl (by decide +kernel) ⟨Nat.le_of_ble_eq_true rfl, Nat.le_of_ble_eq_true rfl⟩) ⟨fun a U g mk q => by obtain ⟨q0, q1, qP, qK, qD⟩ := q; exact ⟨q0, q1, qP, va_K.moved (u := U) (U := U.calling g mk a) (Vm.Alike.refl U.vm) qK, qD⟩, fun U hU hW => ⟨rfl, by rw [hU], by rw [hU]; exact hPc, va_K.moved hW.alike hKc, hDc.weaken (fun _ _ _ _ => trivial)⟩⟩ rfl rfl hl.1 rfl (lv_room (Nat.le_of_ble_eq_true rfl)) d_Law_law_12 ⟨Nat.le_of_ble_eq_true rfl, Nat.le_of_ble_eq_true rfl⟩) hS (fun q _ h => hFc q h) hFc (fun u t H locs ht hvm hw hB hz1 hk1 hS => ?_)
  refine W.cs (cells' := 99) (slots' := 16746) rfl rfl ?_
  obtain ⟨q29, q30, q31, q32, q33, q34, q35, q36, q37, q38, q39, q40, q41, q42, q43, q44, q45, q46, q47, q48, q49, q50, q51, q52, k53, k54, k55, k56, k57, k58, k59, k60, k61, k62, k63, hP1, hK1, hD1⟩ := hB
  rw [ht] at hP1
  have hK1 := va_K.moved hvm.symm hK1
  obtain ⟨hP, hD⟩ := va_join (wr := [(q1, .inr (6, [.ref q2, .ref q3, .ref q4, .ref q5, .ref q6, .ref q7, .int 0, .int 0])), (q2, .inr (0, [.ref q8, .int 0])), (q3, .inr (0, [.ref q9, .int 0])), (q4, .inr (0, [.ref q10, .int 0])), (q5, .inr (2, [.ref q2, .ref q11, .int 0, .int 0, .int 0, .int 0, .long 0, .long 0])), (q6, .inr (3, [.ref q12, .ref q13, .ref q14, .ref q15, .ref q16, .int 0, .int 0])), (q8, .inl (k19, 40, .inl (fun _ => 0))), (q9, .inl (k20, 80, .inl (fun _ => 0))), (q10, .inl (k21, 80, .inl (fun _ => 0))), (q11, .inl (k22, 46, .inr (.inr (.inr (.inr f9))))), (q12, .inl (k23, 121, .inl (fun _ => 0))), (q13, .inl (k24, 121, .inl (fun _ => 0))), (q14, .inl (k25, 121, .inl (fun _ => 0))), (q15, .inl (k26, 121, .inr (.inl (fun _ => 0)))), (q16, .inl (k27, 121, .inr (.inl (fun _ => 0)))), (q17, .inr (1, [.int 0, .null, .null, .null, .int 0, .int 0, .int 0, .int 0, .long 0, .long 0, .int 0])), (q18, .inr (1, [.int 0, .null, .null, .null, .int 0, .int 0, .int 0, .int 0, .long 0, .long 0, .int 0]))]) (w1 := [(q28, .inr (7, [.int 0, .ref q29, .int 0, .int 0, .ref q30, .int 0, .ref q31, .ref q32, .ref q33, .ref q34, .ref q35, .int 0, .int 0, .int 0, .int 0, .int 0, .int 0, .int 0, .int 0, .ref q36, .ref q37, .ref q38, .ref q39, .ref q40, .int 0, .int 0, .long 0, .long 0, .ref q41, .ref q42, .ref q43, .ref q44, .ref q45, .ref q46, .int 0, .int 0, .ref q47, .ref q48, .ref q49, .int 0, .ref q50, .ref q51, .int 0, .ref q52, .int 0])), (q29, .inl (k53, 40, .inl (fun _ => 0))), (q31, .inl (k54, 260, .inl (fun _ => 0))), (q32, .inl (k55, 260, .inl (fun _ => 0))), (q33, .inl (k56, 260, .inl (fun _ => 0))), (q34, .inl (k57, 260, .inr (.inl (fun _ => 0)))), (q35, .inl (k58, 260, .inr (.inl (fun _ => 0)))), (q36, .inl (k59, 10, .inl (fun _ => 0))), (q37, .inl (k60, 10, .inl (fun _ => 0))), (q38, .inl (k61, 10, .inl (fun _ => 0))), (q39, .inl (k62, 10, .inl (fun _ => 0))), (q40, .inl (k63, 10, .inl (fun _ => 0)))]) hP hD [17] [0, 1, 2, 3, 4, 5, 6, 7, 8, 9, 10, 11, 12, 13, 14, 15, 16] rfl rfl (by decide) (by decide) hk1 hFc hP1 hD1
  have hK := (hK.sub (tys' := [(k19, .char), (k20, .char), (k21, .char), (k22, (.object "PatternMachine$Node")), (k23, .int), (k24, .int), (k25, .int), (k26, .long), (k27, .long)]) [0, 1, 2, 3, 4, 5, 6, 7, 8] rfl).app hK1
  have hP : va_P (dC, dI) clP [(q1, .inr (6, [.ref q2, .ref q3, .ref q4, .ref q5, .ref q6, .ref q7, .int 0, .int 0])), (q2, .inr (0, [.ref q8, .int 0])), (q3, .inr (0, [.ref q9, .int 0])), (q4, .inr (0, [.ref q10, .int 0])), (q5, .inr (2, [.ref q2, .ref q11, .int 0, .int 0, .int 0, .int 0, .long 0, .long 0])), (q6, .inr (3, [.ref q12, .ref q13, .ref q14, .ref q15, .ref q16, .int 0, .int 0])), (q8, .inl (k19, 40, .inl (fun _ => 0))), (q9, .inl (k20, 80, .inl (fun _ => 0))), (q10, .inl (k21, 80, .inl (fun _ => 0))), (q11, .inl (k22, 46, .inr (.inr (.inr (.inr f9))))), (q12, .inl (k23, 121, .inl (fun _ => 0))), (q13, .inl (k24, 121, .inl (fun _ => 0))), (q14, .inl (k25, 121, .inl (fun _ => 0))), (q15, .inl (k26, 121, .inr (.inl (fun _ => 0)))), (q16, .inl (k27, 121, .inr (.inl (fun _ => 0)))), (q17, .inr (1, [.int 0, .null, .null, .null, .int 0, .int 0, .int 0, .int 0, .long 0, .long 0, .int 0])), (q18, .inr (1, [.int 0, .null, .null, .null, .int 0, .int 0, .int 0, .int 0, .long 0, .long 0, .int 0])), (q28, .inr (7, [.int 0, .ref q29, .int 0, .int 0, .ref q30, .int 0, .ref q31, .ref q32, .ref q33, .ref q34, .ref q35, .int 0, .int 0, .int 0, .int 0, .int 0, .int 0, .int 0, .int 0, .ref q36, .ref q37, .ref q38, .ref q39, .ref q40, .int 0, .int 0, .long 0, .long 0, .ref q41, .ref q42, .ref q43, .ref q44, .ref q45, .ref q46, .int 0, .int 0, .ref q47, .ref q48, .ref q49, .int 0, .ref q50, .ref q51, .int 0, .ref q52, .int 0])), (q29, .inl (k53, 40, .inl (fun _ => 0))), (q31, .inl (k54, 260, .inl (fun _ => 0))), (q32, .inl (k55, 260, .inl (fun _ => 0))), (q33, .inl (k56, 260, .inl (fun _ => 0))), (q34, .inl (k57, 260, .inr (.inl (fun _ => 0)))), (q35, .inl (k58, 260, .inr (.inl (fun _ => 0)))), (q36, .inl (k59, 10, .inl (fun _ => 0))), (q37, .inl (k60, 10, .inl (fun _ => 0))), (q38, .inl (k61, 10, .inl (fun _ => 0))), (q39, .inl (k62, 10, .inl (fun _ => 0))), (q40, .inl (k63, 10, .inl (fun _ => 0)))] H := hP
  have hD : va_D (lwA s) [(q1, .inr (6, [.ref q2, .ref q3, .ref q4, .ref q5, .ref q6, .ref q7, .int 0, .int 0])), (q2, .inr (0, [.ref q8, .int 0])), (q3, .inr (0, [.ref q9, .int 0])), (q4, .inr (0, [.ref q10, .int 0])), (q5, .inr (2, [.ref q2, .ref q11, .int 0, .int 0, .int 0, .int 0, .long 0, .long 0])), (q6, .inr (3, [.ref q12, .ref q13, .ref q14, .ref q15, .ref q16, .int 0, .int 0])), (q8, .inl (k19, 40, .inl (fun _ => 0))), (q9, .inl (k20, 80, .inl (fun _ => 0))), (q10, .inl (k21, 80, .inl (fun _ => 0))), (q11, .inl (k22, 46, .inr (.inr (.inr (.inr f9))))), (q12, .inl (k23, 121, .inl (fun _ => 0))), (q13, .inl (k24, 121, .inl (fun _ => 0))), (q14, .inl (k25, 121, .inl (fun _ => 0))), (q15, .inl (k26, 121, .inr (.inl (fun _ => 0)))), (q16, .inl (k27, 121, .inr (.inl (fun _ => 0)))), (q17, .inr (1, [.int 0, .null, .null, .null, .int 0, .int 0, .int 0, .int 0, .long 0, .long 0, .int 0])), (q18, .inr (1, [.int 0, .null, .null, .null, .int 0, .int 0, .int 0, .int 0, .long 0, .long 0, .int 0])), (q28, .inr (7, [.int 0, .ref q29, .int 0, .int 0, .ref q30, .int 0, .ref q31, .ref q32, .ref q33, .ref q34, .ref q35, .int 0, .int 0, .int 0, .int 0, .int 0, .int 0, .int 0, .int 0, .ref q36, .ref q37, .ref q38, .ref q39, .ref q40, .int 0, .int 0, .long 0, .long 0, .ref q41, .ref q42, .ref q43, .ref q44, .ref q45, .ref q46, .int 0, .int 0, .ref q47, .ref q48, .ref q49, .int 0, .ref q50, .ref q51, .int 0, .ref q52, .int 0])), (q29, .inl (k53, 40, .inl (fun _ => 0))), (q31, .inl (k54, 260, .inl (fun _ => 0))), (q32, .inl (k55, 260, .inl (fun _ => 0))), (q33, .inl (k56, 260, .inl (fun _ => 0))), (q34, .inl (k57, 260, .inr (.inl (fun _ => 0)))), (q35, .inl (k58, 260, .inr (.inl (fun _ => 0)))), (q36, .inl (k59, 10, .inl (fun _ => 0))), (q37, .inl (k60, 10, .inl (fun _ => 0))), (q38, .inl (k61, 10, .inl (fun _ => 0))), (q39, .inl (k62, 10, .inl (fun _ => 0))), (q40, .inl (k63, 10, .inl (fun _ => 0)))] := hD
  have hK : va_K (dC, dI) clP [(k19, .char), (k20, .char), (k21, .char), (k22, (.object "PatternMachine$Node")), (k23, .int), (k24, .int), (k25, .int), (k26, .long), (k27, .long), (k53, .char), (k54, .int), (k55, .int), (k56, .int), (k57, .long), (k58, .long), (k59, .int), (k60, .int), (k61, .int), (k62, .int), (k63, .int)] s := hK
  refine lv_astore_n (lv' := [(2, .ref q28), (1, .ref q1), (0, .ref b)]) hx hb d_Law_law_15 rfl hl (by decide) rfl (fun ls hl => ?_)
  refine lv_iconst (v := 1) hx hb d_Law_law_16 (by decide) ?_
  refine va_newa (atype := .long) (ty := .long) (a0 := (1, .inr (.inl (fun _ => 0)))) (N' := 1) hx hb (htc _ mw_11) rfl hK hP hD hS hA (fun _ => rfl) (by decide) (by decide) (by decide) (Nat.le_of_ble_eq_true rfl) (Nat.le_of_ble_eq_true rfl) d_Law_law_17 (fun q64 k65 H hK hP hD hS => ?_)
  refine W.cs (cells' := 100) (slots' := 16747) rfl rfl ?_
  have hP : va_P (dC, dI) clP [(q1, .inr (6, [.ref q2, .ref q3, .ref q4, .ref q5, .ref q6, .ref q7, .int 0, .int 0])), (q2, .inr (0, [.ref q8, .int 0])), (q3, .inr (0, [.ref q9, .int 0])), (q4, .inr (0, [.ref q10, .int 0])), (q5, .inr (2, [.ref q2, .ref q11, .int 0, .int 0, .int 0, .int 0, .long 0, .long 0])), (q6, .inr (3, [.ref q12, .ref q13, .ref q14, .ref q15, .ref q16, .int 0, .int 0])), (q8, .inl (k19, 40, .inl (fun _ => 0))), (q9, .inl (k20, 80, .inl (fun _ => 0))), (q10, .inl (k21, 80, .inl (fun _ => 0))), (q11, .inl (k22, 46, .inr (.inr (.inr (.inr f9))))), (q12, .inl (k23, 121, .inl (fun _ => 0))), (q13, .inl (k24, 121, .inl (fun _ => 0))), (q14, .inl (k25, 121, .inl (fun _ => 0))), (q15, .inl (k26, 121, .inr (.inl (fun _ => 0)))), (q16, .inl (k27, 121, .inr (.inl (fun _ => 0)))), (q17, .inr (1, [.int 0, .null, .null, .null, .int 0, .int 0, .int 0, .int 0, .long 0, .long 0, .int 0])), (q18, .inr (1, [.int 0, .null, .null, .null, .int 0, .int 0, .int 0, .int 0, .long 0, .long 0, .int 0])), (q28, .inr (7, [.int 0, .ref q29, .int 0, .int 0, .ref q30, .int 0, .ref q31, .ref q32, .ref q33, .ref q34, .ref q35, .int 0, .int 0, .int 0, .int 0, .int 0, .int 0, .int 0, .int 0, .ref q36, .ref q37, .ref q38, .ref q39, .ref q40, .int 0, .int 0, .long 0, .long 0, .ref q41, .ref q42, .ref q43, .ref q44, .ref q45, .ref q46, .int 0, .int 0, .ref q47, .ref q48, .ref q49, .int 0, .ref q50, .ref q51, .int 0, .ref q52, .int 0])), (q29, .inl (k53, 40, .inl (fun _ => 0))), (q31, .inl (k54, 260, .inl (fun _ => 0))), (q32, .inl (k55, 260, .inl (fun _ => 0))), (q33, .inl (k56, 260, .inl (fun _ => 0))), (q34, .inl (k57, 260, .inr (.inl (fun _ => 0)))), (q35, .inl (k58, 260, .inr (.inl (fun _ => 0)))), (q36, .inl (k59, 10, .inl (fun _ => 0))), (q37, .inl (k60, 10, .inl (fun _ => 0))), (q38, .inl (k61, 10, .inl (fun _ => 0))), (q39, .inl (k62, 10, .inl (fun _ => 0))), (q40, .inl (k63, 10, .inl (fun _ => 0))), (q64, .inl (k65, 1, .inr (.inl (fun _ => 0))))] H := hP
  have hD : va_D (lwA s) [(q1, .inr (6, [.ref q2, .ref q3, .ref q4, .ref q5, .ref q6, .ref q7, .int 0, .int 0])), (q2, .inr (0, [.ref q8, .int 0])), (q3, .inr (0, [.ref q9, .int 0])), (q4, .inr (0, [.ref q10, .int 0])), (q5, .inr (2, [.ref q2, .ref q11, .int 0, .int 0, .int 0, .int 0, .long 0, .long 0])), (q6, .inr (3, [.ref q12, .ref q13, .ref q14, .ref q15, .ref q16, .int 0, .int 0])), (q8, .inl (k19, 40, .inl (fun _ => 0))), (q9, .inl (k20, 80, .inl (fun _ => 0))), (q10, .inl (k21, 80, .inl (fun _ => 0))), (q11, .inl (k22, 46, .inr (.inr (.inr (.inr f9))))), (q12, .inl (k23, 121, .inl (fun _ => 0))), (q13, .inl (k24, 121, .inl (fun _ => 0))), (q14, .inl (k25, 121, .inl (fun _ => 0))), (q15, .inl (k26, 121, .inr (.inl (fun _ => 0)))), (q16, .inl (k27, 121, .inr (.inl (fun _ => 0)))), (q17, .inr (1, [.int 0, .null, .null, .null, .int 0, .int 0, .int 0, .int 0, .long 0, .long 0, .int 0])), (q18, .inr (1, [.int 0, .null, .null, .null, .int 0, .int 0, .int 0, .int 0, .long 0, .long 0, .int 0])), (q28, .inr (7, [.int 0, .ref q29, .int 0, .int 0, .ref q30, .int 0, .ref q31, .ref q32, .ref q33, .ref q34, .ref q35, .int 0, .int 0, .int 0, .int 0, .int 0, .int 0, .int 0, .int 0, .ref q36, .ref q37, .ref q38, .ref q39, .ref q40, .int 0, .int 0, .long 0, .long 0, .ref q41, .ref q42, .ref q43, .ref q44, .ref q45, .ref q46, .int 0, .int 0, .ref q47, .ref q48, .ref q49, .int 0, .ref q50, .ref q51, .int 0, .ref q52, .int 0])), (q29, .inl (k53, 40, .inl (fun _ => 0))), (q31, .inl (k54, 260, .inl (fun _ => 0))), (q32, .inl (k55, 260, .inl (fun _ => 0))), (q33, .inl (k56, 260, .inl (fun _ => 0))), (q34, .inl (k57, 260, .inr (.inl (fun _ => 0)))), (q35, .inl (k58, 260, .inr (.inl (fun _ => 0)))), (q36, .inl (k59, 10, .inl (fun _ => 0))), (q37, .inl (k60, 10, .inl (fun _ => 0))), (q38, .inl (k61, 10, .inl (fun _ => 0))), (q39, .inl (k62, 10, .inl (fun _ => 0))), (q40, .inl (k63, 10, .inl (fun _ => 0))), (q64, .inl (k65, 1, .inr (.inl (fun _ => 0))))] := hD
  have hK : va_K (dC, dI) clP [(k19, .char), (k20, .char), (k21, .char), (k22, (.object "PatternMachine$Node")), (k23, .int), (k24, .int), (k25, .int), (k26, .long), (k27, .long), (k53, .char), (k54, .int), (k55, .int), (k56, .int), (k57, .long), (k58, .long), (k59, .int), (k60, .int), (k61, .int), (k62, .int), (k63, .int), (k65, .long)] s := hK
  refine lv_astore_n (lv' := [(3, .ref q64), (2, .ref q28), (1, .ref q1), (0, .ref b)]) hx hb d_Law_law_19 rfl hl (by decide) rfl (fun ls hl => ?_)
  refine lv_iconst (v := 0) hx hb d_Law_law_20 (by decide) ?_
  refine lv_istore (lv' := [(4, .int 0), (3, .ref q64), (2, .ref q28), (1, .ref q1), (0, .ref b)]) hx hb d_Law_law_21 hl (by decide) rfl (fun ls hl => ?_)
  rcases (show L = 0 ∨ L = 1 ∨ L = 2 ∨ L = 3 by omega) with rfl | rfl | rfl | rfl
  ·
    refine lv_iload hx hb d_Law_law_23 (lv_at hl 0 rfl) ?_
    refine lv_aload_n hx hb d_Law_law_25 rfl (lv_at hl 4 rfl) ?_
    refine va_slen hx hb hX hbl hbA hS d_Law_law_26 ?_
    refine lv_topi (fun z9 e9 => ?_)
    obtain rfl : z9 = 0 := e9.trans (by first | decide | rfl | simp [upd])
    refine lv_iconst (v := 3) hx hb d_Law_law_27 (by decide) ?_
    refine lv_isub hx hb d_Law_law_28 ?_
    refine lv_topi (fun z9 e9 => ?_)
    obtain rfl : z9 = (-3) := e9.trans (by first | decide | rfl | simp [upd])
    refine lv_icmp_gt (tgt := 632) hx hb d_Law_law_29 rfl (fun _ => ?_) (fun h9 => absurd (by decide) h9)
    exact lw_end hx hb hr hlocks hS (by decide) (by decide)
  ·
    refine lv_iload hx hb d_Law_law_23 (lv_at hl 0 rfl) ?_
    refine lv_aload_n hx hb d_Law_law_25 rfl (lv_at hl 4 rfl) ?_
    refine va_slen hx hb hX hbl hbA hS d_Law_law_26 ?_
    refine lv_topi (fun z9 e9 => ?_)
    obtain rfl : z9 = 1 := e9.trans (by first | decide | rfl | simp [upd])
    refine lv_iconst (v := 3) hx hb d_Law_law_27 (by decide) ?_
    refine lv_isub hx hb d_Law_law_28 ?_
    refine lv_topi (fun z9 e9 => ?_)
    obtain rfl : z9 = (-2) := e9.trans (by first | decide | rfl | simp [upd])
    refine lv_icmp_gt (tgt := 632) hx hb d_Law_law_29 rfl (fun _ => ?_) (fun h9 => absurd (by decide) h9)
    exact lw_end hx hb hr hlocks hS (by decide) (by decide)
  ·
    refine lv_iload hx hb d_Law_law_23 (lv_at hl 0 rfl) ?_
    refine lv_aload_n hx hb d_Law_law_25 rfl (lv_at hl 4 rfl) ?_
    refine va_slen hx hb hX hbl hbA hS d_Law_law_26 ?_
    refine lv_topi (fun z9 e9 => ?_)
    obtain rfl : z9 = 2 := e9.trans (by first | decide | rfl | simp [upd])
    refine lv_iconst (v := 3) hx hb d_Law_law_27 (by decide) ?_
    refine lv_isub hx hb d_Law_law_28 ?_
    refine lv_topi (fun z9 e9 => ?_)
    obtain rfl : z9 = (-1) := e9.trans (by first | decide | rfl | simp [upd])
    refine lv_icmp_gt (tgt := 632) hx hb d_Law_law_29 rfl (fun _ => ?_) (fun h9 => absurd (by decide) h9)
    exact lw_end hx hb hr hlocks hS (by decide) (by decide)
  ·
    refine lv_iload hx hb d_Law_law_23 (lv_at hl 0 rfl) ?_
    refine lv_aload_n hx hb d_Law_law_25 rfl (lv_at hl 4 rfl) ?_
    refine va_slen hx hb hX hbl hbA hS d_Law_law_26 ?_
    refine lv_topi (fun z9 e9 => ?_)
    obtain rfl : z9 = 3 := e9.trans (by first | decide | rfl | simp [upd])
    refine lv_iconst (v := 3) hx hb d_Law_law_27 (by decide) ?_
    refine lv_isub hx hb d_Law_law_28 ?_
    refine lv_topi (fun z9 e9 => ?_)
    obtain rfl : z9 = 0 := e9.trans (by first | decide | rfl | simp [upd])
    refine lv_icmp_gt (tgt := 632) hx hb d_Law_law_29 rfl (fun h9 => absurd h9 (by decide)) (fun _ => ?_)
    refine lv_aload_n hx hb d_Law_law_32 rfl (lv_at hl 4 rfl) ?_
    refine lv_iload hx hb d_Law_law_33 (lv_at hl 0 rfl) ?_
    refine va_sld hx hb hX hbl hbA hS (by unfold vp_in; decide) d_Law_law_35 ?_
    refine lv_topi (fun z9 e9 => ?_)
    obtain rfl : z9 = (xs 0) := e9
    refine lv_bipush (v := 15) hx hb d_Law_law_36 (by decide) ?_
    refine lv_iand hx hb d_Law_law_38 ?_
    refine lv_topi (fun z9 e9 => ?_)
    obtain ⟨j, hj, ej⟩ := pk_andE (xs 0) (m := 15) 4 (by decide)
    have e9 := e9.trans ej
    rcases (show j = 0 ∨ j = 1 ∨ j = 2 ∨ j = 3 ∨ j = 4 ∨ j = 5 ∨ j = 6 ∨ j = 7 ∨ j = 8 ∨ j = 9 ∨ j = 10 ∨ j = 11 ∨ j = 12 ∨ j = 13 ∨ j = 14 ∨ j = 15 by omega) with rfl | rfl | rfl | rfl | rfl | rfl | rfl | rfl | rfl | rfl | rfl | rfl | rfl | rfl | rfl | rfl
    ·
      obtain rfl : z9 = 0 := e9
      refine lv_tableIn (tgt := 104) hx hb d_Law_law_39 (by decide) (by decide) rfl rfl ?_
      exact lc_0 hx hb hr hX hbl hlocks hfl hml hown htc hEt hf0 hf1 hl hP hD hK hS
    ·
      obtain rfl : z9 = 1 := e9
      refine lv_tableIn (tgt := 131) hx hb d_Law_law_39 (by decide) (by decide) rfl rfl ?_
      exact lc_1 hx hb hr hX hbl hlocks hfl hml hown htc hEt hf0 hf1 hl hP hD hK hS
    ·
      obtain rfl : z9 = 2 := e9
      refine lv_tableIn (tgt := 142) hx hb d_Law_law_39 (by decide) (by decide) rfl rfl ?_
      exact lc_2 hx hb hr hX hbl hlocks hfl hml hown htc hEt hf0 hf1 hl hP hD hK hS
    ·
      obtain rfl : z9 = 3 := e9
      refine lv_tableIn (tgt := 198) hx hb d_Law_law_39 (by decide) (by decide) rfl rfl ?_
      exact lc_3 hx hb hr hX hbl hlocks hfl hml hown htc hEt hf0 hf1 hl hP hD hK hS
    ·
      obtain rfl : z9 = 4 := e9
      refine lv_tableIn (tgt := 211) hx hb d_Law_law_39 (by decide) (by decide) rfl rfl ?_
      exact lc_4 hx hb hr hX hbl hlocks hfl hml hown htc hEt hf0 hf1 hl hP hD hK hS
    ·
      obtain rfl : z9 = 5 := e9
      refine lv_tableIn (tgt := 222) hx hb d_Law_law_39 (by decide) (by decide) rfl rfl ?_
      exact lc_5 hx hb hr hX hbl hlocks hfl hml hown htc hEt hf0 hf1 hl hP hD hK hS
    ·
      obtain rfl : z9 = 6 := e9
      refine lv_tableIn (tgt := 285) hx hb d_Law_law_39 (by decide) (by decide) rfl rfl ?_
      exact lc_6 hx hb hr hX hbl hlocks hfl hml hown htc hEt hf0 hf1 hl hP hD hK hS
    ·
      obtain rfl : z9 = 7 := e9
      refine lv_tableIn (tgt := 336) hx hb d_Law_law_39 (by decide) (by decide) rfl rfl ?_
      exact lc_7 hx hb hr hX hbl hlocks hfl hml hown htc hEt hf0 hf1 hl hP hD hK hS
    ·
      obtain rfl : z9 = 8 := e9
      refine lv_tableIn (tgt := 420) hx hb d_Law_law_39 (by decide) (by decide) rfl rfl ?_
      exact lc_8 hx hb hr hX hbl hlocks hfl hml hown htc hEt hf0 hf1 hl hP hD hK hS
    ·
      obtain rfl : z9 = 9 := e9
      refine lv_tableIn (tgt := 464) hx hb d_Law_law_39 (by decide) (by decide) rfl rfl ?_
      exact lc_9 hx hb hr hX hbl hlocks hfl hml hown htc hEt hf0 hf1 hl hP hD hK hS
    ·
      obtain rfl : z9 = 10 := e9
      refine lv_tableIn (tgt := 508) hx hb d_Law_law_39 (by decide) (by decide) rfl rfl ?_
      exact lc_10 hx hb hr hX hbl hlocks hfl hml hown htc hEt hf0 hf1 hl hP hD hK hS
    ·
      obtain rfl : z9 = 11 := e9
      refine lv_tableIn (tgt := 576) hx hb d_Law_law_39 (by decide) (by decide) rfl rfl ?_
      exact lc_11 hx hb hr hX hbl hlocks hfl hml hown htc hEt hf0 hf1 hl hP hD hK hS
    ·
      obtain rfl : z9 = 12 := e9
      refine lv_tableIn (tgt := 601) hx hb d_Law_law_39 (by decide) (by decide) rfl rfl ?_
      exact lc_12 hx hb hr hX hbl hlocks hfl hml hown htc hEt hf0 hf1 hl hP hD hK hS
    ·
      obtain rfl : z9 = 13 := e9
      refine lv_tableOut (tgt := 626) hx hb d_Law_law_39 (by decide) rfl ?_
      exact lw_tail hx hb hr hX hbl hlocks (lv_sub hl [0, 4] rfl) hS (by decide) (by decide)
    ·
      obtain rfl : z9 = 14 := e9
      refine lv_tableOut (tgt := 626) hx hb d_Law_law_39 (by decide) rfl ?_
      exact lw_tail hx hb hr hX hbl hlocks (lv_sub hl [0, 4] rfl) hS (by decide) (by decide)
    ·
      obtain rfl : z9 = 15 := e9
      refine lv_tableOut (tgt := 626) hx hb d_Law_law_39 (by decide) rfl ?_
      exact lw_tail hx hb hr hX hbl hlocks (lv_sub hl [0, 4] rfl) hS (by decide) (by decide)
