/-! what the Statement gives of the start -/
set_option maxRecDepth 100000 in
theorem lm_nest : (Cond.methodLinkNest "PatternMachine$Reader" 21 y_Node_init "PatternMachine") ∈ lw_tbl := by decide +kernel
set_option maxRecDepth 100000 in
theorem lm_ao : (Cond.arrayOver (.object "PatternMachine$Node")) ∈ lw_tbl := by decide +kernel
set_option maxRecDepth 100000 in
theorem lm_l1 : (Cond.laysStatic Bundle.tN "UNASSIGNED_STACK" Bundle.steD) ∈ lw_tbl := by decide +kernel
set_option maxRecDepth 100000 in
theorem lm_l2 : (Cond.laysStatic Bundle.tN "SUPPRESSED_SENTINEL" Bundle.listD) ∈ lw_tbl := by decide +kernel
set_option maxRecDepth 100000 in
theorem lm_i : (Cond.initialized Bundle.tN) ∈ lw_tbl := by decide +kernel
set_option maxRecDepth 100000 in
theorem lm_d1 : (Cond.declares (Bundle.initS "java/lang/RuntimeException")) ∈ lw_tbl := by decide +kernel
set_option maxRecDepth 100000 in
theorem lm_d2 : (Cond.declares (Bundle.initS "java/lang/Exception")) ∈ lw_tbl := by decide +kernel
set_option maxRecDepth 100000 in
theorem lm_d3 : (Cond.declares (Bundle.initS Bundle.tN)) ∈ lw_tbl := by decide +kernel
set_option maxRecDepth 100000 in
theorem lm_c : (Cond.castable "java/lang/IllegalStateException" "java/lang/IllegalStateException") ∈ lw_tbl := by decide +kernel
set_option maxRecDepth 100000 in
theorem lm_s1 : (Cond.stringRef "PatternMachine" 146 "there is no pattern") ∈ lw_tbl := by decide +kernel
set_option maxRecDepth 100000 in
theorem lm_s2 : (Cond.stringRef "PatternMachine" 110 "nothing was found") ∈ lw_tbl := by decide +kernel
set_option maxHeartbeats 4000000 in
set_option maxRecDepth 100000 in
theorem tx_start {s : State} {b : Nat} (hts : ∀ w ∈ lw_tbl, w.before #[Value.ref b] s = true) (hflat : ∀ w ∈ flatC (Jvm.Cond.and given_1 narrow_1), w.before #[Value.ref b] s = true) : ∃ a1 a2, tx_E a1 a2 s := by
  have f1 : (Cond.isRef (.static Bundle.tN "UNASSIGNED_STACK" Bundle.steD)).before #[Value.ref b] s = true := hflat _ (by decide +kernel)
  have f2 : (Cond.isRef (.static Bundle.tN "SUPPRESSED_SENTINEL" Bundle.listD)).before #[Value.ref b] s = true := hflat _ (by decide +kernel)
  have g1 : (Cond.exactly (.string "PatternMachine" 146) "java/lang/String").before #[Value.ref b] s = true := hflat _ (by decide +kernel)
  have g2 : (Cond.exactly (.string "PatternMachine" 110) "java/lang/String").before #[Value.ref b] s = true := hflat _ (by decide +kernel)
  obtain ⟨a1, c1, cA1, kA1, q1, -⟩ := Cond.exactly_spec (args := #[Value.ref b]) (first := s) (o := none) (s := s) (idx := []) (t := .string "PatternMachine" 146) (cls := "java/lang/String") g1
  obtain ⟨a2, c2, cA2, kA2, q2, -⟩ := Cond.exactly_spec (args := #[Value.ref b]) (first := s) (o := none) (s := s) (idx := []) (t := .string "PatternMachine" 110) (cls := "java/lang/String") g2
  have hal := Vm.Alike.refl s.vm
  exact ⟨a1, a2, va_Zqof (hts _ lm_l1) (hts _ lm_i) f1 (fun _ _ h => h), va_Zqof (hts _ lm_l2) (hts _ lm_i) f2 (fun _ _ h => h), tx_lays hal (fun _ _ => rfl) (hts _ lm_l1), tx_lays hal (fun _ _ => rfl) (hts _ lm_l2),
    va_Nw.of rfl (hts _ lm_d1), va_Nw.of rfl (hts _ lm_d2), va_Nw.of rfl (hts _ lm_d3), va_Nw.of rfl (hts _ lm_c), vk_R.of (hts _ lm_s1) q1, vk_R.of (hts _ lm_s2) q2⟩
