/-! an exception that the walked method catches; the class of its only handler may not have been resolved yet -/
theorem xz_seek {e : Env} {s : State} {f : JFrame} {a : Addr} {meth : Method} {code : Code} {hd : ExceptionTableEntry} {ci : ClassId} {cell : Cell} (hm : s.vm.method? f.method = some meth) (hc : meth.code = some code) (htab : code.exceptionTable.toList = [hd]) (hcov : covers hd f.pc = true) (h0 : hd.catchType ≠ 0)
    (hl : s.vm.ClassLinks e.platform f.method.cls hd.catchType ci) (hcell : s.heap[a]? = some cell) (hobj : ∀ k, cell.vm ≠ .statics k) {k1 k2 : Class} (hk1 : s.vm.classes[cell.cls]? = some k1) (hk2 : s.vm.classes[ci]? = some k2) (hfit : s.vm.assignable cell.cls ci = true)
    (Q : Handler → Pre) (E : CtlPost) (d : Bool) (acts : List Action) : wp (findHandler f a) Q E e d acts s ↔ Q (.found hd.handlerPc) d acts (s.setVm (s.vm.noted f.method.cls hd.catchType (.cls ci))) := by
  rw [Jvm.W.findHandler_eq hm hc, htab]
  have hin : (decide (hd.startPc ≤ f.pc) && decide (f.pc < hd.endPc)) = true := hcov
  have ho := (resolveClass_links e.toSetting hl).op (op := VmOp.resolveClass f.method.cls hd.catchType) rfl
  have al := (Vm.Alike.refl s.vm).noted f.method.cls hd.catchType (.cls ci)
  obtain ⟨j1, hj1, -⟩ := al.2.2 _ _ hk1
  obtain ⟨j2, hj2, -⟩ := al.2.2 _ _ hk2
  have hf : (s.vm.noted f.method.cls hd.catchType (.cls ci)).assignable cell.cls ci = true := (al.assignable _ _).trans hfit
  simp [findHandler.go, hin, h0, ho.1, ho.2, hcell, hobj, hj1, hj2, hf, VmOp.dirties, VmOp.acts]
section XK
variable {p : Program} {l : Launch} {e : Env} {R : Room} {s : State} {m : MethodId} {args : Array Value} {below : List Frame} {meth : Method} {c : Code} {locs : List Loc} {cells slots : Nat}
theorem xz_caught {T : State} (X : Stand p l e R s m args below meth c T locs cells slots) {own name : String} {hd : ExceptionTableEntry} (hown : s.vm.findClass own = some m.cls) (hlink : (Cond.classLink own hd.catchType name).before args s = true) (h0 : hd.catchType ≠ 0) (htab : c.exceptionTable.toList = [hd])
    {x : Addr} {cell : Cell} {cT : ClassId} (hcell : T.heap[x]? = some cell) (hobj : cell.vm.isStatics = false) (hcT : s.vm.findClass name = some cT) (hasg : s.vm.assignable cell.cls cT = true) {g : JFrame} (hg : g.method = m) (hcov : covers hd g.pc = true) :
    ∃ vm', Stand p l e R s m args below meth c (T.setVm vm') locs cells slots ∧ ∀ target, Steps p.tables e below ((T.setVm vm').setTop { g with pc := hd.handlerPc, stack := [.ref x] }) target → Steps p.tables e below ((T.setTop g).pushFrame (.throwing x)) target := by
  have hpl : e.platform.magicAccessors = ({} : Platform).magicAccessors := by rw [X.admits.platform]
  obtain ⟨c', hc', hcl⟩ := Cond.classLink_spec hown hlink e.platform hpl
  cases hcT.symm.trans hc'
  obtain ⟨dk, _, _, kt, hdk, _, _, _, _, hkt, _, hopen⟩ := hcl.here
  obtain ⟨ks, hks⟩ := Vm.classAt_of_assignable hasg ⟨kt, hkt⟩
  have hcl₀ := X.warmed.classLinks hcl
  have hW' : s.WarmedH (T.vm.noted m.cls hd.catchType (.cls cT)) := X.warmed.noted hdk hopen (State.rightAt_cls hcl)
  obtain ⟨ks', hks', -⟩ := X.warmed.alike.2.2 _ _ hks
  obtain ⟨kt', hkt', -⟩ := X.warmed.alike.2.2 _ _ hkt
  refine ⟨_, X.noted hW', fun target hrest => ?_⟩
  subst hg
  have h : At T g.method c below := X.here
  obtain ⟨hgo, hw⟩ := h.throwing x
  refine Steps.head hgo hw ?_
  rw [stepThread_throwing (frames_entered h.top _)]
  have ev := throwing_vm T g x
  have eh := throwing_heap T g x
  generalize hS : (T.setTop g).pushFrame (.throwing x) = S at ev eh
  have hfind := @xz_seek e S g x meth c hd cT cell (by rw [ev]; exact X.method') X.code htab hcov h0 (by rw [ev]; exact hcl₀) (by rw [eh]; exact hcell) (VmData.noStatics_of hobj) ks' kt' (by rw [ev]; exact hks') (by rw [ev]; exact hkt') (by rw [ev, X.warmed.alike.assignable]; exact hasg)
  obtain ⟨g₀, hg0⟩ := Option.isSome_iff_exists.mp h.top
  obtain ⟨r, hr⟩ := State.topJava?_eq_some.mp hg0
  have hstep : (stepThrowing e S x (.java g :: r)).Is ((S.setVm (S.vm.noted g.method.cls hd.catchType (.cls cT))).setFrames (.java { g with pc := hd.handlerPc, stack := [.ref x] } :: r)) [] := by
    simp only [stepThrowing, searchFrame, vmDo]
    generalize hgo' : Sem.go _ e false [] S = res
    obtain ⟨as, rfl, ha⟩ := Sem.eq_ok_of hgo' (a := Handler.found hd.handlerPc) (s' := S.setVm (S.vm.noted g.method.cls hd.catchType (.cls cT))) (acts' := []) (by simp [hfind])
    exact ⟨rfl, ha⟩
  have htl : T.frames.tail = r := by rw [hr]; rfl
  rw [htl, hstep.1, ev, ← hS]
  have hr' : (T.setVm (T.vm.noted g.method.cls hd.catchType (.cls cT))).frames = .java g₀ :: r := hr
  rw [State.setTop_of_frames _ hr'] at hrest
  have e5 : ∀ (A : State) (fs : List Frame) (v : Vm), (A.setFrames fs).setVm v = (A.setVm v).setFrames fs := fun _ _ _ => rfl
  rw [State.pushFrame, State.setTop_of_frames _ hr, e5, State.setFrames_setFrames, e5, State.setFrames_setFrames]
  exact hrest
end XK
