set_option maxHeartbeats 4000000 in
set_option maxRecDepth 100000 in
/-- Reader(): the loop that makes the nodes, from the third one on; only the first two stay in the world -/
theorem rl_loop {p : Program} {l : Launch} {e : Env} {R : Room} {s : State} {m : MethodId} {args : Array Value} {below : List Frame} {meth : Method} {c : Code} {Q : State → Prop} {dC : Nat → ClassId} {dI : Nat → Nat → Nat} {A : Nat → Prop} {h0 h1 qn n0 n1 : Nat} {kn : ClassId}
    (hx : p.tables.exec = Jvm.exec) (hb : c.code = prog_5_method_1_code) (hml : c.maxLocals = 3) (hown : s.vm.findClass "PatternMachine$Reader" = some m.cls) (htc : ∀ w ∈ wC, w.before args s = true)
    (hE0 : va_Nw (.methodLinkNest "PatternMachine$Reader" 21 y_Node_init "PatternMachine") s) (hA : ∀ q : Nat, s.heap.size ≤ q → A q) (hK : va_K (dC, dI) clP [(kn, (.object "PatternMachine$Node"))] s)
    (hR : 47 ≤ R.cells ∧ 552 ≤ R.slots ∧ 2 ≤ R.frames ∧ 32 ≤ R.locals)
    (after : ∀ (f : Nat → Option Nat) (ls : Array Slot) (H : Heap) (locs : List Loc), f 0 = some n0 → f 1 = some n1 → va_P (dC, dI) clP [(h0, .inr (2, [.ref h1, .ref qn, .int 0, .int 0, .int 0, .int 0, .long 0, .long 0])), (qn, .inl (kn, 46, .inr (.inr (.inr (.inr f))))), (n0, .inr (1, [.int 0, .null, .null, .null, .int 0, .int 0, .int 0, .int 0, .long 0, .long 0, .int 0])), (n1, .inr (1, [.int 0, .null, .null, .null, .int 0, .int 0, .int 0, .int 0, .long 0, .long 0, .int 0]))] H → va_D A [(h0, .inr (2, [.ref h1, .ref qn, .int 0, .int 0, .int 0, .int 0, .long 0, .long 0])), (qn, .inl (kn, 46, .inr (.inr (.inr (.inr f))))), (n0, .inr (1, [.int 0, .null, .null, .null, .int 0, .int 0, .int 0, .int 0, .long 0, .long 0, .int 0])), (n1, .inr (1, [.int 0, .null, .null, .null, .int 0, .int 0, .int 0, .int 0, .long 0, .long 0, .int 0]))] → va_S A s.heap H locs → W p l e R s m args below meth c H locs 47 552 Q (F0 m 45 ls [])) :
    ∀ (n i : Nat), i + n = 46 → 2 ≤ i → ∀ (f : Nat → Option Nat) (ls : Array Slot) (H : Heap) (locs : List Loc), f 0 = some n0 → f 1 = some n1 → lv_has ls 3 [(2, .int (nI i)), (0, .ref h0), (1, .ref h1)] → va_P (dC, dI) clP [(h0, .inr (2, [.ref h1, .ref qn, .int 0, .int 0, .int 0, .int 0, .long 0, .long 0])), (qn, .inl (kn, 46, .inr (.inr (.inr (.inr f))))), (n0, .inr (1, [.int 0, .null, .null, .null, .int 0, .int 0, .int 0, .int 0, .long 0, .long 0, .int 0])), (n1, .inr (1, [.int 0, .null, .null, .null, .int 0, .int 0, .int 0, .int 0, .long 0, .long 0, .int 0]))] H → va_D A [(h0, .inr (2, [.ref h1, .ref qn, .int 0, .int 0, .int 0, .int 0, .long 0, .long 0])), (qn, .inl (kn, 46, .inr (.inr (.inr (.inr f))))), (n0, .inr (1, [.int 0, .null, .null, .null, .int 0, .int 0, .int 0, .int 0, .long 0, .long 0, .int 0])), (n1, .inr (1, [.int 0, .null, .null, .null, .int 0, .int 0, .int 0, .int 0, .long 0, .long 0, .int 0]))] → va_S A s.heap H locs → W p l e R s m args below meth c H locs (1 + i) (46 + 11 * i) Q (F0 m 20 ls []) := by
  intro n
  induction n with
  | zero =>
    intro i hi h2 f ls H locs hf0 hf1 hl hP hD hS
    obtain rfl : i = 46 := by omega
    refine lv_iload_n hx hb d_Reader_init_20 rfl (lv_at hl 0 rfl) ?_
    refine lv_bipush (v := 46) hx hb d_Reader_init_21 (by decide) ?_
    exact lv_icmp_ge (tgt := 45) hx hb d_Reader_init_23 rfl (fun _ => after f ls H locs hf0 hf1 hP hD hS) (fun h9 => absurd (by decide) h9)
  | succ n ih =>
    intro i hi h2 f ls H locs hf0 hf1 hl hP hD hS
    obtain ⟨r1, r2, r3, r4⟩ := hR
    refine lv_iload_n hx hb d_Reader_init_20 rfl (lv_at hl 0 rfl) ?_
    refine lv_bipush (v := 46) hx hb d_Reader_init_21 (by decide) ?_
    refine lv_icmp_ge (tgt := 45) hx hb d_Reader_init_23 rfl (fun h9 => absurd h9 (show ¬ nI 46 ≤ nI i from nI_ge (by omega) (by decide))) (fun _ => ?_)
    refine lv_aload_n hx hb d_Reader_init_26 rfl (lv_at hl 1 rfl) ?_
    refine va_get (D := (dC, dI)) (ci := 2) (v := .ref qn) (C := "PatternMachine$Reader") (T := T_Reader) (N := 8) hx hb htc in_Reader hown hK hP 0 rfl rfl 1 (by decide) (htc _ mw_36) (fun _ h9 => h9) rfl d_Reader_init_27 ?_
    refine lv_iload_n hx hb d_Reader_init_30 rfl (lv_at hl 0 rfl) ?_
    refine va_new (ci := 1) (fs := [.int 0, .null, .null, .null, .int 0, .int 0, .int 0, .int 0, .long 0, .long 0, .int 0]) (C := "PatternMachine$Node") (T := T_Node) (N := 11) hx hb htc in_Node t_Node t_Node_ok hown (htc _ mw_35) (htc _ mw_37) (htc _ mw_38) hK hP hD hS hA rfl (by decide) (by omega) (by omega) d_Reader_init_31 (fun q H hP hD hS => ?_)
    have hP : va_P (dC, dI) clP [(h0, .inr (2, [.ref h1, .ref qn, .int 0, .int 0, .int 0, .int 0, .long 0, .long 0])), (qn, .inl (kn, 46, .inr (.inr (.inr (.inr f))))), (n0, .inr (1, [.int 0, .null, .null, .null, .int 0, .int 0, .int 0, .int 0, .long 0, .long 0, .int 0])), (n1, .inr (1, [.int 0, .null, .null, .null, .int 0, .int 0, .int 0, .int 0, .long 0, .long 0, .int 0])), (q, .inr (1, [.int 0, .null, .null, .null, .int 0, .int 0, .int 0, .int 0, .long 0, .long 0, .int 0]))] H := hP
    have hD : va_D A [(h0, .inr (2, [.ref h1, .ref qn, .int 0, .int 0, .int 0, .int 0, .long 0, .long 0])), (qn, .inl (kn, 46, .inr (.inr (.inr (.inr f))))), (n0, .inr (1, [.int 0, .null, .null, .null, .int 0, .int 0, .int 0, .int 0, .long 0, .long 0, .int 0])), (n1, .inr (1, [.int 0, .null, .null, .null, .int 0, .int 0, .int 0, .int 0, .long 0, .long 0, .int 0])), (q, .inr (1, [.int 0, .null, .null, .null, .int 0, .int 0, .int 0, .int 0, .long 0, .long 0, .int 0]))] := hD
    refine lv_dup hx hb d_Reader_init_34 rfl ?_
    have hPc := hP.sub (ws' := [(q, .inr (1, [.int 0, .null, .null, .null, .int 0, .int 0, .int 0, .int 0, .long 0, .long 0, .int 0]))]) [4] rfl
    have hDc := hD.sub (ws' := [(q, .inr (1, [.int 0, .null, .null, .null, .int 0, .int 0, .int 0, .int 0, .long 0, .long 0, .int 0]))]) [4] (by decide) rfl
    have hKc := hK.sub (tys' := []) [] rfl
    have hFc := va_free (wc := [(q, .inr (1, [.int 0, .null, .null, .null, .int 0, .int 0, .int 0, .int 0, .long 0, .long 0, .int 0]))]) hD hS hA [4] rfl
    refine va_callv (va_runIN (As := []) (rest := [.ref q, .int (nI i), .ref qn]) ⟨hx, hb, hml, hown, htc⟩ (c_Node_init l dC dI q H.size) ⟨va_cnB 0 htc (gC mw_39) rfl rfl rfl hE0 (htc _ mw_38) (by decide +kernel) ⟨r3, r4⟩, rfl, htc _ mw_40⟩ ⟨fun a U g mk q => by obtain ⟨q0, q1, qP, qK, qD⟩ := q; exact ⟨q0, q1, qP, va_K.moved (u := U) (U := U.calling g mk a) (Vm.Alike.refl U.vm) qK, qD⟩, fun U hU hW => ⟨rfl, by rw [hU], by rw [hU]; exact hPc, va_K.moved hW.alike hKc, hDc.weaken (fun _ _ _ _ => trivial)⟩⟩ rfl rfl hl.1 rfl (lv_room (Nat.le_of_ble_eq_true rfl)) d_Reader_init_35 ⟨by omega, by omega⟩) hS (fun q _ h => hFc q h) hFc (fun u t H locs ht hvm hw hB hz1 hk1 hS => ?_)
    obtain ⟨hP1, hK1, hD1⟩ := hB
    rw [ht] at hP1
    obtain ⟨hP, hD⟩ := va_join (wr := [(h0, .inr (2, [.ref h1, .ref qn, .int 0, .int 0, .int 0, .int 0, .long 0, .long 0])), (qn, .inl (kn, 46, .inr (.inr (.inr (.inr f))))), (n0, .inr (1, [.int 0, .null, .null, .null, .int 0, .int 0, .int 0, .int 0, .long 0, .long 0, .int 0])), (n1, .inr (1, [.int 0, .null, .null, .null, .int 0, .int 0, .int 0, .int 0, .long 0, .long 0, .int 0]))]) (w1 := [(q, .inr (1, [.int 0, .null, .null, .null, .int 0, .int 0, .int 0, .int 0, .long 0, .long 0, .int 0]))]) hP hD [4] [0, 1, 2, 3] rfl rfl (by decide) (by decide) hk1 hFc hP1 hD1
    have hcl : (nI i).toNatClampNeg = i := nI_clamp (by omega)
    refine va_astq hx hb hK hP hD hS 1 0 4 1 rfl rfl rfl rfl (vp_in_nI (by omega) (by decide)) d_Reader_init_38 (fun H locs hP hD hS => ?_)
    refine lv_iinc (k := 0) (v := nI (i + 1)) (lv' := [(2, .int (nI (i + 1))), (0, .ref h0), (1, .ref h1)]) hx hb d_Reader_init_39 hl rfl (by rw [nI_succ]; rfl) (by decide) rfl (fun ls hl => ?_)
    refine lv_goto (tgt := 20) hx hb d_Reader_init_42 rfl ?_
    refine W.cs (cells' := 1 + (i + 1)) (slots' := 46 + 11 * (i + 1)) (by omega) (by omega) ?_
    have hP9 := hP.sub (ws' := [(h0, .inr (2, [.ref h1, .ref qn, .int 0, .int 0, .int 0, .int 0, .long 0, .long 0])), (qn, .inl (kn, 46, .inr (.inr (.inr (.inr (va_up f (nI i).toNatClampNeg (some q))))))), (n0, .inr (1, [.int 0, .null, .null, .null, .int 0, .int 0, .int 0, .int 0, .long 0, .long 0, .int 0])), (n1, .inr (1, [.int 0, .null, .null, .null, .int 0, .int 0, .int 0, .int 0, .long 0, .long 0, .int 0]))]) [0, 1, 2, 3] rfl
    have hD9 := hD.sub (ws' := [(h0, .inr (2, [.ref h1, .ref qn, .int 0, .int 0, .int 0, .int 0, .long 0, .long 0])), (qn, .inl (kn, 46, .inr (.inr (.inr (.inr (va_up f (nI i).toNatClampNeg (some q))))))), (n0, .inr (1, [.int 0, .null, .null, .null, .int 0, .int 0, .int 0, .int 0, .long 0, .long 0, .int 0])), (n1, .inr (1, [.int 0, .null, .null, .null, .int 0, .int 0, .int 0, .int 0, .long 0, .long 0, .int 0]))]) [0, 1, 2, 3] (by decide) rfl
    exact ih (i + 1) (by omega) (by omega) _ ls H locs (by rw [hcl]; simp only [va_up]; rw [if_neg (by omega)]; exact hf0) (by rw [hcl]; simp only [va_up]; rw [if_neg (by omega)]; exact hf1) hl hP9 hD9 hS
