/-! the first entry of the method's own table takes it; its class's pool entry may be cold -/
theorem tx_find {e : Env} {S : State} {g : JFrame} {x : Addr} {mt : Method} {cd : Code} {y0 : ExceptionTableEntry} {ys : List ExceptionTableEntry} {cT : ClassId} {ce : Cell} (hm : S.vm.method? g.method = some mt) (hc : mt.code = some cd) (htab : cd.exceptionTable.toList = y0 :: ys)
    (hcov : covers y0 g.pc = true) (h0 : y0.catchType ≠ 0) (hl : S.vm.ClassLinks e.platform g.method.cls y0.catchType cT) (hcell : S.heap[x]? = some ce) (hcv : ce.vm = .none) (hk : ∃ k, S.vm.classes[ce.cls]? = some k) (hk2 : ∃ k, S.vm.classes[cT]? = some k) (hfit : S.vm.assignable ce.cls cT = true)
    (Qh : Handler → Pre) (E : CtlPost) (d : Bool) (acts : List Action) : wp (findHandler g x) Qh E e d acts S ↔ Qh (.found y0.handlerPc) d acts (S.setVm (S.vm.noted g.method.cls y0.catchType (.cls cT))) := by
  rw [Jvm.W.findHandler_eq hm hc, htab]
  simp only [covers] at hcov
  obtain ⟨ha, ht⟩ := (resolveClass_links e.toSetting hl).op (op := VmOp.resolveClass g.method.cls y0.catchType) rfl
  have hal : S.vm.Alike (S.vm.noted g.method.cls y0.catchType (.cls cT)) := (Vm.Alike.refl S.vm).noted _ _ _
  obtain ⟨k1, hk1⟩ := hk
  obtain ⟨k2, hk2⟩ := hk2
  obtain ⟨k1', hk1', -⟩ := hal.2.2 _ _ hk1
  obtain ⟨k2', hk2', -⟩ := hal.2.2 _ _ hk2
  have hfit' : (S.vm.noted g.method.cls y0.catchType (.cls cT)).assignable ce.cls cT = true := by rw [hal.assignable]; exact hfit
  simp [findHandler.go, hcov, h0, ha, ht, hcell, hcv, hk1', hk2', hfit', VmOp.dirties, VmOp.acts]
section TXC
variable {p : Program} {l : Launch} {e : Env} {R : Room} {s : State} {m : MethodId} {args : Array Value} {below : List Frame} {meth : Method} {c : Code} {H : Heap} {locs : List Loc} {cells slots : Nat} {Q : State → Prop}
theorem tx_catch {own cls : String} {x : Addr} {T' : State} {pc sp ep hp ct : Nat} {tl : List (Nat × Nat × Nat × Nat)} {ls : Array Slot} {rest : List Value} {n : Nat} (X : Stand p l e R s m args below meth c T' locs cells slots) (hown : s.vm.findClass own = some m.cls)
    (htab : c.exceptionTable.toList.map (fun h => (h.startPc, h.endPc, h.handlerPc, h.catchType)) = (sp, ep, hp, ct) :: tl) (hcov : (decide (sp ≤ pc) && decide (pc < ep)) = true) (hct : ct ≠ 0) (hlink : (Cond.classLink own ct cls).before args s = true) (hins : (Cond.instantiable cls n).before args s = true)
    (hce : ∃ ce : Cell, T'.heap[x]? = some ce ∧ ce.vm = .none ∧ s.vm.findClass cls = some ce.cls) (k : W p l e R s m args below meth c T'.heap locs cells slots Q (F0 m hp ls [.ref x])) :
    ∃ t, Steps p.tables e below ((T'.setTop (F0 m pc ls rest)).pushFrame (.throwing x)) t ∧ Q t := by
  obtain ⟨ce, hcell, hcv, hfc⟩ := hce
  have hpl : e.platform.magicAccessors = ({} : Platform).magicAccessors := by rw [X.admits.platform]
  obtain ⟨cT, hcT, hcl⟩ := Cond.classLink_spec hown hlink e.platform hpl
  obtain rfl : ce.cls = cT := Option.some.inj (hfc.symm.trans hcT)
  obtain ⟨cC, kC, hfc2, hk2, hkind, -⟩ := Cond.instantiable_spec hins
  obtain rfl : ce.cls = cC := Option.some.inj (hfc.symm.trans hfc2)
  have hself : s.vm.assignable ce.cls ce.cls = true := va_assign (s := s) (C := cls) ⟨hfc2, kC, hk2, hkind⟩
  obtain ⟨y0, ys, hys, h1, h2, h3, h4⟩ : ∃ y0 ys, c.exceptionTable.toList = y0 :: ys ∧ y0.startPc = sp ∧ y0.endPc = ep ∧ y0.handlerPc = hp ∧ y0.catchType = ct := by
    cases hq : c.exceptionTable.toList with
    | nil => rw [hq] at htab; simp at htab
    | cons y0 ys =>
      rw [hq] at htab
      simp only [List.map_cons, List.cons.injEq, Prod.mk.injEq] at htab
      exact ⟨y0, ys, rfl, htab.1.1, htab.1.2.1, htab.1.2.2.1, htab.1.2.2.2⟩
  subst h1 h2 h3 h4
  obtain ⟨dk, _, _, kt, hd, _, _, _, _, hkt, _, hopen⟩ := hcl.here
  have hcl₀ := X.warmed.classLinks hcl
  have hW' : s.WarmedH (T'.vm.noted m.cls y0.catchType (.cls ce.cls)) := X.warmed.noted hd hopen (State.rightAt_cls hcl)
  have X2 := X.noted hW'
  have hal := X.warmed.alike
  obtain ⟨kk, hkk, -⟩ := hal.2.2 _ _ hk2
  obtain ⟨t, a1, b1⟩ := k (T'.setVm (T'.vm.noted m.cls y0.catchType (.cls ce.cls))) rfl X2
  refine ⟨t, ?_, b1⟩
  have hAt : At T' (F0 m pc ls rest).method c below := X.here
  obtain ⟨hgo, hw⟩ := hAt.throwing x
  have hfind := tx_find (e := e) (S := (T'.setTop (F0 m pc ls rest)).pushFrame (.throwing x)) (g := F0 m pc ls rest) (x := x) (mt := meth) (cd := c) (y0 := y0) (ys := ys) (cT := ce.cls) (ce := ce) (by rw [Stand.throwing_vm]; exact X.method') X.code hys hcov hct (by rw [Stand.throwing_vm]; exact hcl₀) (by rw [Stand.throwing_heap]; exact hcell) hcv ⟨kk, by rw [Stand.throwing_vm]; exact hkk⟩ ⟨kk, by rw [Stand.throwing_vm]; exact hkk⟩ (by rw [Stand.throwing_vm, hal.assignable]; exact hself)
  refine Steps.head hgo hw ?_
  have hstep : (stepThrowing e ((T'.setTop (F0 m pc ls rest)).pushFrame (.throwing x)) x (.java (F0 m pc ls rest) :: T'.frames.tail)).1 = (((T'.setTop (F0 m pc ls rest)).pushFrame (.throwing x)).setVm (((T'.setTop (F0 m pc ls rest)).pushFrame (.throwing x)).vm.noted m.cls y0.catchType (.cls ce.cls))).setFrames (.java (F0 m y0.handlerPc ls [.ref x]) :: T'.frames.tail) := by
    simp only [stepThrowing, searchFrame, vmDo]
    generalize hr : Sem.go _ e false [] _ = res
    obtain ⟨as, rfl, ha⟩ := Sem.eq_ok_of hr (a := Handler.found y0.handlerPc) (s' := ((T'.setTop (F0 m pc ls rest)).pushFrame (.throwing x)).setVm (((T'.setTop (F0 m pc ls rest)).pushFrame (.throwing x)).vm.noted m.cls y0.catchType (.cls ce.cls))) (acts' := []) (by simp [hfind _ _ _ _])
    rfl
  rw [stepThread_throwing (frames_entered X.here.top _), hstep, Stand.throwing_vm]
  obtain ⟨g₀, hfr⟩ := X.frames_eq
  have hfr' : (T'.setVm (T'.vm.noted m.cls y0.catchType (.cls ce.cls))).frames = .java g₀ :: below := hfr
  rw [State.setTop_of_frames _ hfr'] at a1
  rw [X.tail, State.pushFrame, State.setTop_of_frames _ hfr]
  have e1 : ∀ (u : State) (v : Vm) (F G : List Frame), ((u.setFrames F).setVm v).setFrames G = (u.setVm v).setFrames G := fun u v F G => by
    show ((u.setVm v).setFrames F).setFrames G = _
    rw [State.setFrames_setFrames]
  rw [State.setFrames_setFrames, e1]
  exact a1
/-- a static call of a method that has a table -/
theorem tx_runS {y : MethodName} {bytes cc : ByteArray} {maxL nL mc ms n index : Nat} {ret : Option FieldType} {hh : List (Nat × Nat × Nat × Nat)} {ws ws' : List Cond} {rm : Room} {Pc : Array Value → State → Prop} {Qc : Array Value → State → Outcome → State → Prop} {free : Addr → Prop} {Ts : List Cond} {own : String} {As rest : List Value} {g : JFrame}
    (S : CallFix p m c cc nL s args Ts own) (hM : Met l y ws rm Pc Qc mc ms free) (hw : ws = Cond.codeWith y bytes maxL ret hh :: ws') (hG : GoodIn Ts ws) (hst : (Cond.static y).before args s = true) (hini : (Cond.initialized y.cls).before args s = true) (hl : (Cond.methodLink own index y).before args s = true)
    (hrc : rm.cells = mc) (hrs : rm.slots = ms) (hR : rm.frames + 1 ≤ R.frames ∧ 8 + (maxL + 11) + rm.locals ≤ R.locals) (hd : y.cls ≠ "java/lang/invoke/MethodHandle" ∧ y.cls ≠ "java/lang/invoke/VarHandle" ∧ (parseMethodDescriptor y.desc).map (fun d => d.parameters.length) = some n) (hp : PreS s H Pc As)
    (hg : g.method = m) (hn : As.length = n) (hsize : g.locals.size = nL) (hstack : g.stack = As.reverse ++ rest) (hW : 2 * g.monitorRoom + (rest.map fun v => v.category).sum ≤ 8) (hdg : decode cc g.pc = .ok (.invokestatic index, 3)) (hf : cells + mc ≤ R.cells ∧ slots + ms ≤ R.slots) :
    va_Run p l e R s m args below meth c H locs cells slots mc ms g rest (Qc As.toArray) free := by
  obtain ⟨hx, hb, hml, ho, hts⟩ := S
  have hcw : Cond.codeWith y bytes maxL ret hh ∈ ws := by rw [hw]; exact List.mem_cons_self
  have hK : Back l R p e below s args y 3 8 (PreOf R mc ms Pc) (PostOf Qc mc ms free) :=
    va_backW (bytes := bytes) (maxL := maxL) (ret := ret) (hh := hh) hM hp.1 hrc hrs hR.1 hR.2 (pay_in hts hG) hcw (fun a' U hW => word_at hW (Or.inl (by first | rfl | simp [Cond.onTables, Cond.keeps, Cond.steady])) hini)
  intro T hT X
  obtain ⟨mk, methM, cM, hnamed, hmethM, -, -, -, -, -, -, hsigM⟩ := Cond.codeWith_spec (hts _ (hG _ hcw).1)
  have hstatic : methM.isStatic = true := Cond.static_spec hnamed hmethM hst
  obtain ⟨kP, hkP, -⟩ := className_of_methodNamed hnamed
  have hinitP : kP.init = .initialized := Cond.initialized_spec (findClass_of_methodNamed hnamed) hkP hini
  have hlen : As.length = methM.sig.parameters.length := by
    have h2 := hd.2.2
    rw [hsigM] at h2
    exact hn.trans (Option.some.inj h2).symm
  obtain ⟨vm₁, X₁, hstep₁⟩ := X.invokestatic hx ho hl hnamed hmethM hstatic hkP hinitP ⟨hd.1, hd.2.1⟩ (g := g) hg (argsL := As) (rest := rest) hlen hstack (by rw [hb]; exact hdg)
  obtain ⟨v, ⟨U', l2, c2, s2⟩, X', ⟨g', mk', t, L, e1, e2, hq, h1, hL, h2, h3⟩, hsteps⟩ := hK m meth c ⟨T.setVm vm₁, locs, cells, slots⟩ { g with stack := rest } (.invokestatic index) mk As.toArray X₁ hg (hsize.trans hml.symm) (by rw [hb]; exact hdg) hW (X₁.named hnamed) ⟨hf.1, hf.2, hp.2 (T.setVm vm₁) hT X₁.warmed⟩
  dsimp only [Pt.U, Pt.locs, Pt.cells, Pt.slots] at X' e1 e2 h1 h2 h3 hsteps
  subst h1; subst h2; subst h3
  exact ⟨v, (T.setVm vm₁).calling g' mk' As.toArray, t, U', L, hT, X', hL, e1, e2, hq, fun target h => hstep₁ _ fun acts => by rw [doInvoke_state]; exact hsteps.trans h⟩
end TXC
