/-! contracts of methods that end in an exception, and what their callers do with it -/
/-- it threw x: an object of the class cls; every cell that was there is there as it was -/
def tx_Q (cls : String) (_ : Array Value) (st : State) (x : Addr) (t : State) : Prop :=
  (∃ ce : Cell, t.heap[x]? = some ce ∧ ce.vm = .none ∧ st.vm.findClass cls = some ce.cls) ∧ st.heap.size ≤ t.heap.size ∧ ∀ q : Nat, q < st.heap.size → t.heap[q]? = st.heap[q]?
def tx_Met (l : Launch) (y : MethodName) (ws : List Cond) (rm : Room) (Pc : Array Value → State → Prop) (cls : String) (mc ms : Nat) : Prop :=
  MetFree l y (headSpec ws rm) Pc (fun _ _ _ _ _ => True) (fun a st o t => ∃ x, o = .threw x ∧ tx_Q cls a st x t ∧ st.WarmedH t.vm ∧ st.sameButNew ({ t with vm := st.vm } : State) [] mc ms)
def tx_MQ (below : List Frame) (cls : String) (a : Array Value) (s : State) (mc ms : Nat) : State → Prop := fun t =>
  ∃ x, t.status = .running ∧ Ended t below (.threw x) ∧ tx_Q cls a s x t ∧ s.WarmedH t.vm ∧ s.sameButNew ({ t with vm := s.vm } : State) [] mc ms
theorem tx_kept {s s' : State} {k n : Nat} (h : s.sameButNew s' [] k n) : s.heap.size ≤ s'.heap.size ∧ ∀ q : Nat, q < s.heap.size → s'.heap[q]? = s.heap[q]? :=
  ⟨h.2.1, fun q hq => by
    obtain ⟨ce, hce⟩ : ∃ ce, s.heap[q]? = some ce := ⟨s.heap[q], Array.getElem?_eq_getElem hq⟩
    rw [hce]
    exact h.old_cell hce⟩
theorem tx_ofW {l : Launch} {y : MethodName} {ws ws' : List Cond} {rm : Room} {Pc : Array Value → State → Prop} {cls : String} {mc ms : Nat} {cc : ByteArray} {maxL : Nat} {ret : Option FieldType}
    (hy : plainName y.cls = true) (hw : ws = Cond.code y cc maxL ret :: ws')
    (body : ∀ p e s m args below meth c s₁, l.admits e → (∀ x ∈ c.exceptionTable.toList, ∀ pc, covers x pc = false) → BodyLoose p l y (headSpec ws rm) cc maxL ret e s m args below meth c s₁ → c.maxLocals = maxL → Pc args s →
      W p l e (headSpec ws rm).room s m args below meth c s.heap [] 0 0 (tx_MQ below cls args s mc ms) (entryFrame m args maxL)) : tx_Met l y ws rm Pc cls mc ms := by
  refine MetFree.of_bodyS (code := cc) (maxLocals := maxL) (ret := ret) hy ?_ ?_
  · intro args s m h hn
    obtain ⟨meth, c, h1, h2, h3, h4, h5, h6, -, -⟩ := Cond.code_spec hn (atoms_spec (ws := ws) h _ (by rw [hw]; exact List.mem_cons_self))
    exact ⟨meth, c, h1, h2, h3, h4, h5, h6⟩
  · intro p e s m args below meth c s₁ B hml hP _
    have hh0 : s₁.heap = s.heap := by rw [B.state]; rfl
    have X := Stand.of_body B
    have hno := B.noHandlers (atoms_spec (ws := ws) B.pre _ (by rw [hw]; exact List.mem_cons_self))
    have h0 : c.exceptionTable.toList = [] := by
      have h1 : c.exceptionTable.size = 0 := by simpa [Array.isEmpty] using hno
      exact List.eq_nil_of_length_eq_zero (by simpa using h1)
    obtain ⟨t, a1, x, b1, b2, b3⟩ := body p e s m args below meth c s₁ X.admits (fun x hx => by rw [h0] at hx; cases hx) B hml hP s₁ hh0 X
    exact ⟨t, .threw x, a1, b1, b2, x, rfl, b3⟩
section TXB
variable {p : Program} {l : Launch} {e : Env} {R : Room} {s : State} {m : MethodId} {args : Array Value} {below : List Frame} {meth : Method} {c : Code} {H : Heap} {locs : List Loc} {cells slots : Nat} {Q : State → Prop}
theorem tx_back {y : MethodName} {ws : List Cond} {rm : Room} {Pc : Array Value → State → Prop} {cls : String} {mc ms maxL : Nat} {bytes : ByteArray} {ret : Option FieldType} {mk : MethodId} {a : Array Value} {ig : Instr} {T : State} {g : JFrame}
    (hM : tx_Met l y ws rm Pc cls mc ms) (hbl : FrameBlind Pc) (hrc : rm.cells = mc) (hrs : rm.slots = ms) (hfr : rm.frames + 1 ≤ R.frames) (hlo : 8 + (maxL + 11) + rm.locals ≤ R.locals)
    (hws : ∀ w ∈ ws, ∀ (a' : Array Value) (U : State), s.WarmedH U.vm → w.before a' U = true) (hcw : Cond.code y bytes maxL ret ∈ ws) (hini : ∀ (a' : Array Value) (U : State), s.WarmedH U.vm → (Cond.initialized y.cls).before a' U = true)
    (X : Stand p l e R s m args below meth c T locs cells slots) (hg : g.method = m) (hsize : g.locals.size = c.maxLocals) (hdg : decode c.code g.pc = .ok (ig, 3)) (hW : 2 * g.monitorRoom + (g.stack.map fun v => v.category).sum ≤ 8)
    (hn : T.methodNamed? y = some mk) (hc : cells + mc ≤ R.cells) (hs : slots + ms ≤ R.slots) (hP : Pc a T) :
    ∃ (x : Addr) (t T' : State), Stand p l e R s m args below meth c T' locs (cells + mc) (slots + ms) ∧ T'.heap = t.heap ∧ tx_Q cls a (T.calling g mk a) x t ∧
      Steps p.tables e below (doInvoke e (T.setTop g) [] mk a).1 ((T'.setTop g).pushFrame (.throwing x)) := by
  have h2 := hws _ hcw a T X.warmed
  obtain ⟨methY, cY, hmY, hcY, -, hlY, -, -, -, -⟩ := Cond.code_spec hn h2
  obtain ⟨kY, hkY, -⟩ := className_of_methodNamed hn
  have hinitY : kY.init = .initialized := Cond.initialized_spec (findClass_of_methodNamed hn) hkY (hini a T X.warmed)
  have h : At T g.method c below := by rw [hg]; exact X.here
  have happ : (headSpec ws rm).appliesLoose y e.platform (T.calling g mk a) = true :=
    Spec.appliesLoose_calling (g := g) h hdg hn hkY hinitY
      (X.room_calling (g := g) (R' := rm) hsize hmY hcY hfr (by rw [hlY]; omega) (by rw [hrc]; exact hc) (by rw [hrs]; exact hs)) (atoms_intro fun w hw => hws w hw _ _ X.warmed)
  obtain ⟨mid, hmid⟩ := h.above
  have hfr2 : (T.setTop g).frames = (.java g :: mid) ++ below := by rw [State.frames_setTop' g h.top, hmid]; rfl
  obtain ⟨o, s₂, hsteps, -, hend, x, rfl, hQ, hW₂, hsame⟩ := Steps.callFree hM p X.admits X.cas X.clock (acts := []) hfr2 happ (hbl _ _ g mk hP) trivial
  rw [State.frames_setTop' g h.top, X.tail] at hend
  obtain ⟨T', X', hWT, hsT, ht⟩ := X.outOfThrown hg hend hW₂ hsame
  rw [List.append_nil] at X'
  exact ⟨x, s₂, T', X', by rw [ht, Stand.throwing_heap], hQ, by rw [← ht]; exact hsteps⟩
/-- invokevirtual of a method that throws: what the caller stands at -/
theorem tx_run {y : MethodName} {ws : List Cond} {rm : Room} {Pc : Array Value → State → Prop} {cls own C : String} {mc ms n maxL nL index : Nat} {bytes cc : ByteArray} {ret : Option FieldType} {Ts : List Cond} {b : Addr} {As rest st0 : List Value} {pc : Nat} {ls : Array Slot}
    (S : CallFix p m c cc nL s args Ts own) (hM : tx_Met l y ws rm Pc cls mc ms) (cw : CallW R s args own C index y bytes maxL ret ws rm mc ms n) (hp : PreV s H C b Pc As)
    (hn : As.length = n) (hsize : ls.size = nL) (hstack : st0 = As.reverse ++ .ref b :: rest) (hW : (rest.map fun v => v.category).sum ≤ 8) (hdg : decode cc pc = .ok (.invokevirtual index, 3)) (hf : cells + mc ≤ R.cells ∧ slots + ms ≤ R.slots)
    (kk : ∀ (x : Addr) (T' : State), Stand p l e R s m args below meth c T' locs (cells + mc) (slots + ms) → (∃ ce : Cell, T'.heap[x]? = some ce ∧ ce.vm = .none ∧ s.vm.findClass cls = some ce.cls) → H.size ≤ T'.heap.size → (∀ q : Nat, q < H.size → T'.heap[q]? = H[q]?) →
      ∃ t, Steps p.tables e below ((T'.setTop (F0 m pc ls rest)).pushFrame (.throwing x)) t ∧ Q t) : W p l e R s m args below meth c H locs cells slots Q (F0 m pc ls st0) := by
  obtain ⟨⟨hrc, hrs, hfr, hlo, hws, hcw, hcode, hini, hy, hlen, hl⟩, hin, hse⟩ := cw
  obtain ⟨hx, hb, hml, ho, -⟩ := S
  obtain ⟨hbl, ⟨cellB, hcB, hoB, hclB⟩, hPc⟩ := hp
  intro T hT X
  obtain ⟨mk, methM, hnamed, hmethM, hstM, habM⟩ := Cond.instanceMethod_spec hin
  obtain ⟨methM', cM, hmethM', -, -, -, -, -, -, hsigM⟩ := Cond.code_spec hnamed hcode
  cases hmethM.symm.trans hmethM'
  obtain ⟨c2, r2, m2, q1, q2, q3, q4, kP, hkP, hkPi⟩ := Cond.selects_spec hse
  cases hclB.symm.trans q1
  cases (State.methodFound?_of_named hnamed hy).symm.trans q2
  cases hnamed.symm.trans q3
  have hselP : selectMethod e.platform s.vm cellB.cls mk = .method mk := by rw [Launch.admits_selectMethod X.admits]; exact q4
  obtain ⟨vm₁, X₁, hstep₁⟩ := X.invokevirtual hx ho hl hnamed hmethM hstM hkP hkPi hy (a := b) (cell := cellB) (by rw [hT]; exact hcB)
    (fun z h => by rw [h] at hoB; cases hoB) hselP hmethM habM hkP hkPi (g := F0 m pc ls st0) rfl (argsL := As) (rest := rest) (hn.trans (hlen _ hsigM)) hstack (by rw [hb]; exact hdg)
  obtain ⟨x, t, T', X', e1, ⟨⟨ce, hce, hcv, hcc⟩, hz, hk⟩, hst⟩ := tx_back (g := F0 m pc ls rest) (ig := .invokevirtual index) (a := (Value.ref b :: As).toArray) hM hbl hrc hrs hfr hlo hws hcw
    (fun a' U hW => word_at hW (Or.inl (by first | rfl | simp [Cond.onTables, Cond.keeps, Cond.steady])) hini) X₁ rfl (hsize.trans hml.symm) (by rw [hb]; exact hdg) (by show 2 * 0 + (rest.map fun v => v.category).sum ≤ 8; omega) (X₁.named hnamed) hf.1 hf.2 (hPc (T.setVm vm₁) hT X₁.warmed)
  have hz' : H.size ≤ T'.heap.size := by rw [e1, ← hT]; exact hz
  obtain ⟨t2, a1, b1⟩ := kk x T' X' ⟨ce, by rw [e1]; exact hce, hcv, by rw [← X₁.warmed.alike.findClass]; exact hcc⟩ hz' (fun q hq => by rw [e1, ← hT]; exact hk q (by show q < T.heap.size; rw [hT]; exact hq))
  exact ⟨t2, hstep₁ _ fun acts => by rw [doInvoke_state]; exact hst.trans a1, b1⟩
/-- ... and it goes on to the caller's caller -/
theorem tx_leave {cls : String} {mc ms : Nat} {x : Addr} {T' : State} {pc : Nat} {ls : Array Slot} {rest : List Value} (X : Stand p l e R s m args below meth c T' [] mc ms) (hlocks : meth.locks = false) (hno : ∀ x ∈ c.exceptionTable.toList, ∀ pc, covers x pc = false)
    (hce : ∃ ce : Cell, T'.heap[x]? = some ce ∧ ce.vm = .none ∧ s.vm.findClass cls = some ce.cls) :
    ∃ t, Steps p.tables e below ((T'.setTop (F0 m pc ls rest)).pushFrame (.throwing x)) t ∧ tx_MQ below cls args s mc ms t := by
  obtain ⟨h1, h2, h3, h4, h5⟩ := X.leaveThrown x (g := F0 m pc ls rest) rfl rfl rfl (fun y hy => hno y hy _) hlocks
  exact ⟨_, h1, x, h2, h3, ⟨hce, by have h9 := tx_kept h5; exact h9⟩, h4, h5⟩
/-- from <init>(String) of a new exception, with athrow behind it, out of the method -/
theorem tx_throw {own cls : String} {names : List String} {ic : Nat} {cc : ByteArray} {a : Addr} {cX : ClassId} {kX : Class} {q : Addr} {pc : Nat} {ls : Array Slot} {rest : List Value} (hexec : p.tables.exec = Jvm.exec) (hb : c.code = cc) (hml : c.maxLocals = ls.size) (htr : e.platform.stackTraces = false) (hlocks : meth.locks = false)
    (hno : ∀ x ∈ c.exceptionTable.toList, ∀ pc, covers x pc = false) (hown : s.vm.findClass own = some m.cls) (hcls : Bundle.fit cls = true) (hnames : ∀ n ∈ names, Bundle.fit n = true) (h : ∀ a ∈ Bundle.ownAtoms own ic cls names, a.before args s = true)
    (hfoundX : s.vm.findClass cls = some cX) (hkX : s.vm.classes[cX]? = some kX) (hcell : H[a]? = some (freshCell cX kX)) (hnew : s.heap.size ≤ a)
    (hd6 : decode cc pc = .ok (.invokespecial ic, 3)) (hd9 : decode cc (pc + 3) = .ok (.athrow, 1)) (hRf : names.length + 3 < R.frames) (hRl : ((Value.ref a :: rest).map fun v => v.category).sum + (13 * (names.length + 1) + 42) ≤ R.locals) :
    W p l e R s m args below meth c H [] cells slots (tx_MQ below cls args s cells slots) (F0 m pc ls (.ref q :: .ref a :: .ref a :: rest)) := by
  intro T hT X
  obtain ⟨U, hst, hrun, hend, hW, hsame, ce, hce, hO⟩ := X.ctorThrowS hexec htr (own := own) (cls := cls) (names := names) (ic := ic) hown hcls hnames h (fun x hx => by cases hx) hfoundX hkX (by rw [hT]; exact hcell) hnew (msg := .ref q) rfl
    (g := F0 m pc ls (.ref q :: .ref a :: .ref a :: rest)) rfl hml.symm rfl rfl rfl (by rw [hb]; exact hd6) (by rw [hb]; exact hd9) (fun y hy => hno y hy _) hRf (by show 2 * 0 + ((Value.ref a :: rest).map fun v => v.category).sum + (13 * (names.length + 1) + 42) ≤ R.locals; omega) hlocks
  exact ⟨U, hst, a, hrun, hend, ⟨⟨ce, hce, hO.vm, hO.cls⟩, by have h9 := tx_kept hsame; exact h9⟩, hW, hsame⟩
end TXB
