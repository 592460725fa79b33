/-! a call, with both ends: an answer or an exception -/
def xz_fr (s t : State) (mc ms : Nat) (free : Addr → Prop) : Prop := ∃ L : List Loc, (s.WarmedH t.vm ∧ s.sameButNew ({ t with vm := s.vm } : State) L mc ms) ∧ ∀ q ∈ L, free q.base
def xz_MQ (below : List Frame) (Qc : Array Value → State → Outcome → State → Prop) (a : Array Value) (s : State) (mc ms : Nat) (free : Addr → Prop) : State → Prop := fun t => ∃ o, t.status = .running ∧ Ended t below o ∧ Qc a s o t ∧ xz_fr s t mc ms free
def xz_Met (l : Launch) (y : MethodName) (tb : List Cond) (rm : Room) (Pc : Array Value → State → Prop) (Qc : Array Value → State → Outcome → State → Prop) (mc ms : Nat) (free : Addr → Prop) : Prop :=
  MetFree l y (headSpec tb rm) Pc (fun _ _ _ _ _ => True) (fun a st o t => Qc a st o t ∧ xz_fr st t mc ms free)
theorem xz_MQ_of {below : List Frame} {Qc : Array Value → State → Outcome → State → Prop} {a : Array Value} {s : State} {mc ms : Nat} {free : Addr → Prop} (t : State) (h : MQ below Qc a s mc ms free t) : xz_MQ below Qc a s mc ms free t := by
  obtain ⟨o, h1, h2, h3, L, ⟨-, h4, h5⟩, h6⟩ := h
  exact ⟨o, h1, h2, h3, L, ⟨h4, h5⟩, h6⟩
def xz_hs (hs : List (Nat × Nat × Nat × Nat)) (c : Code) : Prop := c.exceptionTable.toList.map (fun h => (h.startPc, h.endPc, h.handlerPc, h.catchType)) = hs
def xz_cw (tb : List Cond) (y : MethodName) (bytes : ByteArray) (maxL : Nat) (ret : Option FieldType) (hs : List (Nat × Nat × Nat × Nat)) : Prop := (hs = [] ∧ Cond.code y bytes maxL ret ∈ tb) ∨ Cond.codeWith y bytes maxL ret hs ∈ tb
theorem xz_cw_spec {tb : List Cond} {y : MethodName} {bytes : ByteArray} {maxL : Nat} {ret : Option FieldType} {hs : List (Nat × Nat × Nat × Nat)} {args : Array Value} {s : State} {m : MethodId} (h : xz_cw tb y bytes maxL ret hs) (hts : ∀ w ∈ tb, w.before args s = true) (hn : s.methodNamed? y = some m) :
    ∃ meth c, s.vm.method? m = some meth ∧ meth.code = some c ∧ c.code = bytes ∧ c.maxLocals = maxL ∧ meth.sig.returnType = ret ∧ meth.locks = false ∧ xz_hs hs c ∧ parseMethodDescriptor y.desc = some meth.sig := by
  rcases h with ⟨rfl, h⟩ | h
  · obtain ⟨meth, c, h1, h2, h3, h4, h5, h6, h7, h8⟩ := Cond.code_spec hn (hts _ h)
    refine ⟨meth, c, h1, h2, h3, h4, h5, h6, ?_, h8⟩
    unfold xz_hs
    have h7 := Array.isEmpty_iff.mp h7
    rw [h7]
    rfl
  · obtain ⟨m', meth, c, h0, h1, h2, h3, h4, h7, h5, h6, h8⟩ := Cond.codeWith_spec (hts _ h)
    cases hn.symm.trans h0
    exact ⟨meth, c, h1, h2, h3, h4, h5, h6, h7, h8⟩
section XC
variable {p : Program} {l : Launch} {e : Env} {R : Room} {s : State} {m : MethodId} {args : Array Value} {below : List Frame} {meth : Method} {c : Code} {locs : List Loc} {cells slots : Nat} {tb : List Cond} {y : MethodName} {bytes : ByteArray} {maxL : Nat} {ret : Option FieldType} {hs : List (Nat × Nat × Nat × Nat)} {rm : Room} {Pc : Array Value → State → Prop} {Qc : Array Value → State → Outcome → State → Prop} {mc ms : Nat} {free : Addr → Prop}
theorem xz_mono {H : Heap} {Q Q' : State → Prop} {g : JFrame} (h : ∀ t, Q t → Q' t) (k : W p l e R s m args below meth c H locs cells slots Q g) : W p l e R s m args below meth c H locs cells slots Q' g := fun T hT X => by
  obtain ⟨t, a, b⟩ := k T hT X
  exact ⟨t, a, h t b⟩
theorem xz_Met_ofW (hy : plainFor y = true) (hcw : xz_cw tb y bytes maxL ret hs)
    (body : ∀ p e s m args below meth c s₁, BodyLoose p l y (headSpec tb rm) bytes maxL ret e s m args below meth c s₁ → c.maxLocals = maxL → xz_hs hs c → Pc args s →
      W p l e rm s m args below meth c s.heap [] 0 0 (xz_MQ below Qc args s mc ms free) (entryFrame m args maxL)) : xz_Met l y tb rm Pc Qc mc ms free := by
  refine MetFree.of_bodySF (code := bytes) (maxLocals := maxL) (ret := ret) hy ?_ ?_
  · intro args s m h hn
    obtain ⟨meth, c, h1, h2, h3, h4, h5, h6, -, -⟩ := xz_cw_spec hcw (atoms_spec (ws := tb) h) hn
    exact ⟨meth, c, h1, h2, h3, h4, h5, h6⟩
  · intro p e s m args below meth c s₁ B hml hP _
    have hh0 : s₁.heap = s.heap := by rw [B.state]; rfl
    have X : Stand p l e rm s m args below meth c s₁ [] 0 0 := Stand.of_body B
    obtain ⟨meth', c', h1, h2, -, -, -, -, h7, -⟩ := xz_cw_spec hcw (atoms_spec (ws := tb) B.pre) B.named
    cases h1.symm.trans X.method
    cases h2.symm.trans X.code
    obtain ⟨t, a1, o, b1, b2, b3, b4⟩ := body p e s m args below meth c s₁ B hml h7 hP s₁ hh0 X
    exact ⟨t, o, a1, b1, b2, b3, b4⟩
theorem xz_invoke {T : State} (X : Stand p l e R s m args below meth c T locs cells slots) (hM : xz_Met l y tb rm Pc Qc mc ms free) (hcw : xz_cw tb y bytes maxL ret hs)
    {g : JFrame} (hg : g.method = m) (hsize : g.locals.size = c.maxLocals) {ig : Instr} {len : Nat} (hdg : decode c.code g.pc = .ok (ig, len)) (hW : 2 * g.monitorRoom + (g.stack.map fun v => v.category).sum ≤ 8)
    {mk : MethodId} {a : Array Value} (hn : T.methodNamed? y = some mk) (hts : ∀ w ∈ tb, w.before a T = true) (hini : (Cond.initialized y.cls).before a T = true)
    (hfr : rm.frames + 1 ≤ R.frames) (hlo : 8 + (maxL + 11) + rm.locals ≤ R.locals) (hc : cells + rm.cells ≤ R.cells) (hsl : slots + rm.slots ≤ R.slots) (hP : Pc a (T.calling g mk a)) :
    ∃ (o : Outcome) (t T' : State) (L : List Loc), Qc a (T.calling g mk a) o t ∧ Stand p l e R s m args below meth c T' (locs ++ L) (cells + mc) (slots + ms) ∧ (∀ q ∈ L, free q.base) ∧ T'.heap = t.heap ∧ T'.vm = t.vm ∧ Steps p.tables e below (doInvoke e (T.setTop g) [] mk a).1 t ∧
      ((∃ v, o = .returned v ∧ t = T'.setTop { g with pc := g.pc + len, stack := v.toList ++ g.stack }) ∨ ∃ x, o = .threw x ∧ t = (T'.setTop g).pushFrame (.throwing x)) := by
  obtain ⟨methY, cY, hmY, hcY, -, hlY, -, -, -, -⟩ := xz_cw_spec hcw hts hn
  obtain ⟨kY, hkY, -⟩ := className_of_methodNamed hn
  have hinitY : kY.init = .initialized := Cond.initialized_spec (findClass_of_methodNamed hn) hkY hini
  have h : At T g.method c below := by rw [hg]; exact X.here
  have hpre : (headSpec tb rm).pre.before a T = true := atoms_intro hts
  have happ : (headSpec tb rm).appliesLoose y e.platform (T.calling g mk a) = true :=
    Spec.appliesLoose_calling (g := g) h hdg hn hkY hinitY
      (X.room_calling (g := g) (R' := rm) hsize hmY hcY hfr (by rw [hlY]; omega) hc hsl) hpre
  obtain ⟨mid, hmid⟩ := h.above
  have hfrm : (T.setTop g).frames = (.java g :: mid) ++ below := by rw [State.frames_setTop' g h.top, hmid]; rfl
  obtain ⟨o, t, hsteps, -, hend, hq, L, ⟨hWt, hsame⟩, hL⟩ := Steps.callFree hM p X.admits X.cas X.clock (acts := []) hfrm happ hP trivial
  rw [State.frames_setTop' g h.top, X.tail] at hend
  cases o with
  | returned v =>
    obtain ⟨T', X', -, -, ht⟩ := X.outOf hg hdg hend hWt hsame
    exact ⟨_, t, T', L, hq, X', hL, by rw [ht]; rfl, by rw [ht]; rfl, hsteps, Or.inl ⟨v, rfl, ht⟩⟩
  | threw x =>
    obtain ⟨T', X', -, -, ht⟩ := X.outOfThrown hg hend hWt hsame
    exact ⟨_, t, T', L, hq, X', hL, by rw [ht]; rfl, by rw [ht]; rfl, hsteps, Or.inr ⟨x, rfl, ht⟩⟩
/-- the method's own end by an exception that it doesn't catch -/
theorem xz_leave {H : Heap} {Qc : Array Value → State → Outcome → State → Prop} {free : Addr → Prop} {T : State} {x : Addr} (hT : T.heap = H) (X : Stand p l e R s m args below meth c T locs cells slots) (hlocks : meth.locks = false)
    (hq : ∀ t : State, t.heap = H → s.WarmedH t.vm → Qc args s (.threw x) t) (hf : ∀ q ∈ locs, free q.base) {pc : Nat} {ls : Array Slot} {st : List Value} (hout : ∀ h ∈ c.exceptionTable.toList, covers h pc = false) :
    ∃ t, Steps p.tables e below ((T.setTop (F0 m pc ls st)).pushFrame (.throwing x)) t ∧ xz_MQ below Qc args s cells slots free t := by
  obtain ⟨h1, h2, h3, h4, h5⟩ := X.leaveThrown x (g := F0 m pc ls st) rfl rfl rfl hout hlocks
  exact ⟨_, h1, _, h2, h3, hq _ hT h4, locs, ⟨h4, h5⟩, hf⟩
theorem xz_athrow {H : Heap} {cc : ByteArray} {Qc : Array Value → State → Outcome → State → Prop} {free : Addr → Prop} {x : Addr} (hexec : p.tables.exec = Jvm.exec) (hb : c.code = cc) (hlocks : meth.locks = false)
    (hq : ∀ t : State, t.heap = H → s.WarmedH t.vm → Qc args s (.threw x) t) (hf : ∀ q ∈ locs, free q.base) {pc : Nat} {ls : Array Slot} {st : List Value} (hout : ∀ h ∈ c.exceptionTable.toList, covers h pc = false) (hdg : decode cc pc = .ok (.athrow, 1)) :
    W p l e R s m args below meth c H locs cells slots (xz_MQ below Qc args s cells slots free) (F0 m pc ls (.ref x :: st)) := by
  intro T hT X
  obtain ⟨h1, h2, h3, h4, h5⟩ := X.athrowLeaves hexec (g := F0 m pc ls (.ref x :: st)) rfl rfl rfl hout (a := x) (rest := st) rfl (by rw [hb]; exact hdg) hlocks
  exact ⟨_, h1, _, h2, h3, hq _ hT h4, locs, ⟨h4, h5⟩, hf⟩
end XC
