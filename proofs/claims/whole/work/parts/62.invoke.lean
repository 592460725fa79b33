/-! how each kind of invocation comes to its method -/
def xz_IS (p : Program) (l : Launch) (e : Env) (R : Room) (s : State) (m : MethodId) (args : Array Value) (below : List Frame) (meth : Method) (c : Code) (T : State) (locs : List Loc) (cells slots : Nat) (g : JFrame) (rest : List Value) (y : MethodName) (a : Array Value) : Prop :=
  ∃ (vm₁ : Vm) (mk : MethodId), Stand p l e R s m args below meth c (T.setVm vm₁) locs cells slots ∧ (T.setVm vm₁).methodNamed? y = some mk ∧ ∀ target, Steps p.tables e below (doInvoke e ((T.setVm vm₁).setTop { g with stack := rest }) [] mk a).1 target → Steps p.tables e below (T.setTop g) target
def xz_nm (n : String) : Prop := n ≠ "java/lang/invoke/MethodHandle" ∧ n ≠ "java/lang/invoke/VarHandle"
section XI
variable {p : Program} {l : Launch} {e : Env} {R : Room} {s : State} {m : MethodId} {args : Array Value} {below : List Frame} {meth : Method} {c : Code} {T : State} {locs : List Loc} {cells slots : Nat} {tb : List Cond} {y : MethodName} {bytes : ByteArray} {maxL : Nat} {ret : Option FieldType} {hs : List (Nat × Nat × Nat × Nat)} {own : String} {index n : Nat} {g : JFrame} {As rest : List Value}
theorem xz_len {sig : MethodDescriptor} (hd : (parseMethodDescriptor y.desc).map (fun d => d.parameters.length) = some n) (h : parseMethodDescriptor y.desc = some sig) (hn : As.length = n) : As.length = sig.parameters.length := by
  rw [h] at hd
  exact hn.trans (Option.some.inj hd).symm
theorem xz_named (hcw : xz_cw tb y bytes maxL ret hs) (hts : ∀ w ∈ tb, w.before args s = true) : ∃ mk, s.methodNamed? y = some mk := by
  rcases hcw with ⟨-, h⟩ | h
  · exact Cond.code_named (hts _ h)
  · obtain ⟨mk, _, _, h0, -⟩ := Cond.codeWith_spec (hts _ h)
    exact ⟨mk, h0⟩
theorem xz_callS (X : Stand p l e R s m args below meth c T locs cells slots) (hexec : p.tables.exec = Jvm.exec) (hown : s.vm.findClass own = some m.cls) (hts : ∀ w ∈ tb, w.before args s = true) (hcw : xz_cw tb y bytes maxL ret hs)
    (hlink : Cond.methodLink own index y ∈ tb ∨ ∃ host, Cond.methodLinkNest own index y host ∈ tb) (hstat : Cond.static y ∈ tb) (hini : Cond.initialized y.cls ∈ tb) (hy : xz_nm y.cls) (hd : (parseMethodDescriptor y.desc).map (fun d => d.parameters.length) = some n) (hn : As.length = n)
    (hg : g.method = m) (hstack : g.stack = As.reverse ++ rest) (hdg : decode c.code g.pc = .ok (.invokestatic index, 3)) : xz_IS p l e R s m args below meth c T locs cells slots g rest y As.toArray := by
  obtain ⟨mk, hnamed⟩ := xz_named hcw hts
  obtain ⟨methM, cM, hmethM, -, -, -, -, -, -, hsig⟩ := xz_cw_spec hcw hts hnamed
  have hstatic : methM.isStatic = true := Cond.static_spec hnamed hmethM (hts _ hstat)
  obtain ⟨kP, hkP, -⟩ := className_of_methodNamed hnamed
  have hinitP : kP.init = .initialized := Cond.initialized_spec (findClass_of_methodNamed hnamed) hkP (hts _ hini)
  rcases hlink with hl | ⟨host, hl⟩
  · obtain ⟨vm₁, X₁, st⟩ := X.invokestatic hexec hown (hts _ hl) hnamed hmethM hstatic hkP hinitP hy (g := g) hg (argsL := As) (rest := rest) (xz_len hd hsig hn) hstack hdg
    exact ⟨vm₁, mk, X₁, X₁.named hnamed, fun target h => st _ fun acts => by rw [doInvoke_state]; exact h⟩
  · obtain ⟨vm₁, X₁, st⟩ := X.invokestaticNest hexec hown (hts _ hl) hnamed hmethM hstatic hkP hinitP hy (g := g) hg (argsL := As) (rest := rest) (xz_len hd hsig hn) hstack hdg
    exact ⟨vm₁, mk, X₁, X₁.named hnamed, fun target h => st _ fun acts => by rw [doInvoke_state]; exact h⟩
/-- a virtual call whose method is known: by what the tables select for the receiver's class, or because it is private -/
theorem xz_callV (X : Stand p l e R s m args below meth c T locs cells slots) (hexec : p.tables.exec = Jvm.exec) (hown : s.vm.findClass own = some m.cls) (hts : ∀ w ∈ tb, w.before args s = true) (hcw : xz_cw tb y bytes maxL ret hs)
    (hlink : Cond.methodLink own index y ∈ tb) (hinst : Cond.instanceMethod y ∈ tb) {C : String} (hsel : Cond.selects C y y ∈ tb ∨ (Cond.privateMethod y ∈ tb ∧ Cond.sameMethod y.cls y.cls y.name y.desc ∈ tb)) (hy : xz_nm y.cls) (hd : (parseMethodDescriptor y.desc).map (fun d => d.parameters.length) = some n) (hn : As.length = n)
    {b : Addr} {cellB : Cell} (hcell : T.heap[b]? = some cellB) (hobj : cellB.vm.isStatics = false) (hcls : s.vm.findClass C = some cellB.cls)
    (hg : g.method = m) (hstack : g.stack = As.reverse ++ .ref b :: rest) (hdg : decode c.code g.pc = .ok (.invokevirtual index, 3)) : xz_IS p l e R s m args below meth c T locs cells slots g rest y (Value.ref b :: As).toArray := by
  obtain ⟨mk, methM, hnamed, hmethM, hstM, habM⟩ := Cond.instanceMethod_spec (hts _ hinst)
  obtain ⟨methM', cM, hmethM', -, -, -, -, -, -, hsig⟩ := xz_cw_spec hcw hts hnamed
  cases hmethM.symm.trans hmethM'
  have key : selectMethod e.platform s.vm cellB.cls mk = .method mk ∧ ∃ kP, s.vm.classes[mk.cls]? = some kP ∧ kP.isInterface = false := by
    rcases hsel with hsel | ⟨hpr, hsm⟩
    · obtain ⟨c2, r2, m2, q1, q2, q3, q4, kP, hkP, hkPi⟩ := Cond.selects_spec (hts _ hsel)
      cases hcls.symm.trans q1
      cases (State.methodFound?_of_named hnamed hy).symm.trans q2
      cases hnamed.symm.trans q3
      exact ⟨by rw [Launch.admits_selectMethod X.admits]; exact q4, kP, hkP, hkPi⟩
    · obtain ⟨cn, ck, r1, hcn, hck, hni, hf, hn1⟩ := Cond.sameMethod_found (hts _ hsm)
      have e1 : cn = mk.cls := Option.some.inj (hcn.symm.trans (findClass_of_methodNamed hnamed))
      subst e1
      exact ⟨selectMethod_private hmethM (Cond.privateMethod_at (hts _ hpr) mk methM hnamed hmethM), ck, hck, hni⟩
  obtain ⟨hselP, kP, hkP, hkPi⟩ := key
  obtain ⟨vm₁, X₁, st⟩ := X.invokevirtual hexec hown (hts _ hlink) hnamed hmethM hstM hkP hkPi hy (a := b) (cell := cellB) hcell
    (fun z h => by rw [h] at hobj; cases hobj) hselP hmethM habM hkP hkPi (g := g) hg (argsL := As) (rest := rest) (xz_len hd hsig hn) hstack hdg
  exact ⟨vm₁, mk, X₁, X₁.named hnamed, fun target h => st _ fun acts => by rw [doInvoke_state]; exact h⟩
/-- a virtual call by a name that another class's method overrides or that is inherited -/
theorem xz_callU (X : Stand p l e R s m args below meth c T locs cells slots) (hexec : p.tables.exec = Jvm.exec) (hown : s.vm.findClass own = some m.cls) (hts : ∀ w ∈ tb, w.before args s = true)
    {x : MethodName} {owner C : String} {b0 : ByteArray} {m0 : Nat} {r0' : Option FieldType} (hlink : Cond.methodLink own index x ∈ tb) (hsame : Cond.sameMethod x.cls owner x.name x.desc ∈ tb) (hi0 : Cond.instanceMethod ⟨owner, x.name, x.desc⟩ ∈ tb) (hc0 : Cond.code ⟨owner, x.name, x.desc⟩ b0 m0 r0' ∈ tb) (howner : xz_nm owner)
    (hsel : Cond.selects C x y ∈ tb) (hinst : Cond.instanceMethod y ∈ tb) (hd : (parseMethodDescriptor x.desc).map (fun d => d.parameters.length) = some n) (hn : As.length = n)
    {b : Addr} {cellB : Cell} (hcell : T.heap[b]? = some cellB) (hobj : cellB.vm.isStatics = false) (hcls : s.vm.findClass C = some cellB.cls)
    (hg : g.method = m) (hstack : g.stack = As.reverse ++ .ref b :: rest) (hdg : decode c.code g.pc = .ok (.invokevirtual index, 3)) : xz_IS p l e R s m args below meth c T locs cells slots g rest y (Value.ref b :: As).toArray := by
  obtain ⟨r0, r, hn0, hrm, hstR, hsigR⟩ := va_Decl.of (hts _ hi0) (hts _ hc0)
  obtain ⟨cn, ck, r1, hcn, hck, hni, hf, hn1⟩ := Cond.sameMethod_found (hts _ hsame)
  cases hn0.symm.trans hn1
  obtain ⟨mk, methM, hnamed, hmethM, -, habM⟩ := Cond.instanceMethod_spec (hts _ hinst)
  obtain ⟨c2, r2, m2, q1, q2, q3, q4, kP, hkP, hkPi⟩ := Cond.selects_spec (hts _ hsel)
  cases hcls.symm.trans q1
  cases hf.symm.trans q2
  cases hnamed.symm.trans q3
  have hselP : selectMethod e.platform s.vm cellB.cls r0 = .method mk := by rw [Launch.admits_selectMethod X.admits]; exact q4
  have hlen : As.length = r.sig.parameters.length := by
    have hsigR : parseMethodDescriptor x.desc = some r.sig := hsigR
    rw [hsigR] at hd
    exact hn.trans (Option.some.inj hd).symm
  obtain ⟨vm₁, X₁, st⟩ := X.invokevirtualUp hexec hown (hts _ hlink) (hts _ hsame) howner hn0 hrm hstR (a := b) (cell := cellB) hcell
    (fun z h => by rw [h] at hobj; cases hobj) hselP hmethM habM hkP hkPi (g := g) hg (argsL := As) (rest := rest) hlen hstack hdg
  exact ⟨vm₁, mk, X₁, X₁.named hnamed, fun target h => st _ fun acts => by rw [doInvoke_state]; exact h⟩
theorem xz_callI (X : Stand p l e R s m args below meth c T locs cells slots) (hexec : p.tables.exec = Jvm.exec) (hown : s.vm.findClass own = some m.cls) (hts : ∀ w ∈ tb, w.before args s = true) (hy1 : y.name = "<init>") (hcode : Cond.code y bytes maxL none ∈ tb)
    (hlink : Cond.methodLink own index y ∈ tb ∨ ∃ host, Cond.methodLinkNest own index y host ∈ tb) (hinst : Cond.instanceMethod y ∈ tb) (hy : xz_nm y.cls) (hd : (parseMethodDescriptor y.desc).map (fun d => d.parameters.length) = some n) (hn : As.length = n)
    {b : Addr} (hg : g.method = m) (hstack : g.stack = As.reverse ++ .ref b :: rest) (hdg : decode c.code g.pc = .ok (.invokespecial index, 3)) : xz_IS p l e R s m args below meth c T locs cells slots g rest y (Value.ref b :: As).toArray := by
  subst hg
  have hpl : e.platform.magicAccessors = ({} : Platform).magicAccessors := by rw [X.admits.platform]
  have hlen : ∀ sig, parseMethodDescriptor y.desc = some sig → As.length = sig.parameters.length := fun sig h => xz_len hd h hn
  rcases hlink with hl | ⟨host, hl⟩
  · obtain ⟨mk, methM, cM, kP, vm₁, hnamed, hmethM, hcodeM, -, hlocalsM, -, hkP, -, hW₁, st⟩ := Steps.initColdArgs (e := e) X.here hexec X.warmed hpl hown hy1 hy (hts _ hl) (hts _ hinst) (hts _ hcode) (f := g) rfl hlen hstack hdg
    have X₁ := X.noted hW₁
    exact ⟨vm₁, mk, X₁, X₁.named hnamed, fun target h => st _ fun acts => by rw [doInvoke_state]; exact h⟩
  · obtain ⟨mk, methM, cM, kP, vm₁, hnamed, hmethM, hcodeM, -, hlocalsM, -, hkP, -, hW₁, st⟩ := Steps.initColdArgsNest (e := e) X.here hexec X.warmed hpl hown hy1 hy (hts _ hl) (hts _ hinst) (hts _ hcode) (f := g) rfl hlen hstack hdg
    have X₁ := X.noted hW₁
    exact ⟨vm₁, mk, X₁, X₁.named hnamed, fun target h => st _ fun acts => by rw [doInvoke_state]; exact h⟩
/-- super.y(..) -/
theorem xz_callSU (X : Stand p l e R s m args below meth c T locs cells slots) (hexec : p.tables.exec = Jvm.exec) (hown : s.vm.findClass own = some m.cls) (hts : ∀ w ∈ tb, w.before args s = true) (hcw : xz_cw tb y bytes maxL ret hs)
    (hlink : Cond.methodLink own index y ∈ tb) (hsame : Cond.sameMethod y.cls y.cls y.name y.desc ∈ tb) (hsup : Cond.superclass own y.cls ∈ tb) (hinst : Cond.instanceMethod y ∈ tb) (hno : y.name ≠ "<init>") (hd : (parseMethodDescriptor y.desc).map (fun d => d.parameters.length) = some n) (hn : As.length = n)
    {b : Addr} {cellB : Cell} {C : String} (hcell : T.heap[b]? = some cellB) (hobj : cellB.vm.isStatics = false) (hcls : s.vm.findClass C = some cellB.cls)
    (hg : g.method = m) (hstack : g.stack = As.reverse ++ .ref b :: rest) (hdg : decode c.code g.pc = .ok (.invokespecial index, 3)) : xz_IS p l e R s m args below meth c T locs cells slots g rest y (Value.ref b :: As).toArray := by
  obtain ⟨mk, methM, hnamed, hmethM, hstM, habM⟩ := Cond.instanceMethod_spec (hts _ hinst)
  obtain ⟨methM', cM, hmethM', -, -, -, -, -, -, hsig⟩ := xz_cw_spec hcw hts hnamed
  cases hmethM.symm.trans hmethM'
  obtain ⟨ps, dk, kp, hps, hdk, hkp, hsuper, -, -, hnid⟩ := Cond.superclass_spec hown (hts _ hsup)
  have hpm : ps = mk.cls := Option.some.inj (hps.symm.trans (findClass_of_methodNamed hnamed))
  have hsub : s.vm.isSubclass ps mk.cls = true := by rw [hpm]; simp [Vm.isSubclass, Vm.isSubclassAux]
  obtain ⟨kB, hkB⟩ := Vm.classAt_of_findClass hcls
  obtain ⟨vm₁, X₁, st⟩ := X.invokespecialUp hexec hown (hts _ hlink) (hts _ hsame) hnamed hmethM hstM habM hno hdk hnid hps hsuper hsub (a := b) (cell := cellB) hcell
    (fun z h => by rw [h] at hobj; cases hobj) hkB (g := g) hg (argsL := As) (rest := rest) (xz_len hd hsig hn) hstack hdg
  exact ⟨vm₁, mk, X₁, X₁.named hnamed, fun target h => st _ h⟩
end XI
