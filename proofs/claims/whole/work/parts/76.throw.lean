/-! the one kind of exception that is made: its constructor, in a launch without traces -/
section XT
variable {p : Program} {l : Launch} {e : Env} {R : Room} {s : State} {m : MethodId} {args : Array Value} {below : List Frame} {meth : Method} {c : Code} {W : State} {locs : List Loc} {cells slots : Nat}
set_option maxHeartbeats 4000000 in
theorem xz_ctor (X : Stand p l e R s m args below meth c W locs cells slots) (hexec : p.tables.exec = Jvm.exec) (htr : e.platform.stackTraces = false) {own cls : String} {names : List String} {ic : Nat} (hown : s.vm.findClass own = some m.cls) (hcls : Bundle.fit cls = true) (hnames : ∀ n ∈ names, Bundle.fit n = true)
    (h : ∀ v ∈ Bundle.ownAtoms own ic cls names, v.before args s = true) (hkeep : ∀ (q : Nat) (cell : Cell), s.heap[q]? = some cell → cell.vm.isStatics = true → W.heap[q]? = some cell)
    {a : Addr} {cX : ClassId} {kX : Class} (hfX : s.vm.findClass cls = some cX) (hkX : s.vm.classes[cX]? = some kX) (hcell : W.heap[a]? = some (freshCell cX kX)) {msg : Value} (hmsg : msg.isRef = true)
    {g : JFrame} (hg : g.method = m) (hsize : g.locals.size = c.maxLocals) {rest : List Value} (hstack : g.stack = msg :: .ref a :: rest) (hd : decode c.code g.pc = .ok (.invokespecial ic, 3))
    (hRf : names.length + 3 < R.frames) (hRl : 2 * g.monitorRoom + (rest.map fun v => v.category).sum + (13 * (names.length + 1) + 42) ≤ R.locals) :
    ∃ (vm' : Vm) (cell' : Cell) (L5 : List Loc), Stand p l e R s m args below meth c ((W.setVm vm').setCell a cell') (locs ++ L5) cells slots ∧ (∀ q ∈ L5, q.base = a) ∧ cell'.cls = cX ∧ cell'.vm = .none ∧
      ∀ target, Steps p.tables e below (((W.setVm vm').setCell a cell').setTop { g with pc := g.pc + 3, stack := rest }) target → Steps p.tables e below (W.setTop g) target := by
  have pf := X.admits.platform
  have hpl : e.platform.magicAccessors = ({} : Platform).magicAccessors := by rw [pf]
  have hq : ∀ v, v ∈ Bundle.ownAtoms own ic cls names → v.holds args s none s [] = true := fun v hv => h v hv
  obtain ⟨T, Z0, L, -, Y⟩ := ThrowableC.of_atoms (args := args) (s := s) (pl := e.platform) (by rw [pf]) (by rw [pf]) hpl (fun v hv => h v (by simp [Bundle.ownAtoms, hv]))
  obtain ⟨Z, M, LZ, LM, hnZ⟩ := Init0T.ofS_atoms (args := args) hpl L Y (fun v hv => h v (by simp [Bundle.ownAtoms, hv]))
  obtain ⟨P1, Ps, hlen, L1, hLs, hP1, hlink1, hlink⟩ := Bundle.chainS (args := args) hpl hnZ names cls hcls hnames (fun v hv => h v (by simp [Bundle.ownAtoms, hv]))
  have hf1 : s.vm.findClass cls = some P1.m.cls := findClass_of_methodNamed hP1
  cases hfX.symm.trans hf1
  obtain ⟨c1, k1, hc1, hk1, hord, -, -, -⟩ := Cond.instantiable_spec (hq (.instantiable cls 6) (by simp [Bundle.ownAtoms]))
  cases hc1.symm.trans hf1
  cases hkX.symm.trans hk1
  have sel : ∀ {y : MethodName} {mk : MethodId}, Cond.selects cls y y ∈ Bundle.ownAtoms own ic cls names → s.methodNamed? y = some mk → xz_nm y.cls → selectMethod e.platform s.vm P1.m.cls mk = .method mk := by
    intro y mk hm hn hy
    obtain ⟨c2, r2, m2, q1, q2, q3, q4, -⟩ := Cond.selects_spec (hq _ hm)
    cases q1.symm.trans hf1
    cases q2.symm.trans (State.methodFound?_of_named hn hy)
    cases q3.symm.trans hn
    rw [Launch.admits_selectMethod X.admits]
    exact q4
  have hsel0 := sel (y := Bundle.tFill0) (by simp [Bundle.ownAtoms]) Y.fill0 ⟨by decide, by decide⟩
  have hselF := sel (y := Bundle.tFill) (by simp [Bundle.ownAtoms]) Y.fill ⟨by decide, by decide⟩
  obtain ⟨cellS, hcS, hiS⟩ := Y.statics
  have hcW := hkeep _ _ hcS hiS
  obtain ⟨u0, hu0⟩ := Cond.staticRefV Y.unassigned L.unassignedStatic L.statics hcS hiS (hq (.isRef (.static Bundle.tN "UNASSIGNED_STACK" Bundle.steD)) (by simp [Bundle.ownAtoms]))
  obtain ⟨sen, hsen⟩ := Cond.staticRefV Y.sentinel L.sentinelStatic L.statics hcS hiS (hq (.isRef (.static Bundle.tN "SUPPRESSED_SENTINEL" Bundle.listD)) (by simp [Bundle.ownAtoms]))
  have hne : T.aS ≠ a := fun q => by
    rw [q, hcell] at hcW
    cases hcW
    cases hiS
  have hunk : cellS.vm ≠ .unknown := fun q => by rw [q] at hiS; cases hiS
  obtain ⟨cB, iB, fB, b1, b2, b3, b4, -, b5, b6, b7⟩ := Cond.ownField (t := .object "java/lang/Object") Y.found L.cls (by decide +kernel) (hq (.fieldLink Bundle.tN 198 Bundle.tN "backtrace" "Ljava/lang/Object;") (by simp [Bundle.ownAtoms])) (hq (.lays Bundle.tN Bundle.tN "backtrace" "Ljava/lang/Object;") (by simp [Bundle.ownAtoms])) e.platform hpl
  obtain ⟨iM, hM⟩ := Y.msg
  obtain ⟨tC, dC, eC, nC⟩ := Cond.laysAt hf1 hk1 Y.cause (hq (.lays cls Bundle.tN "cause" "Ljava/lang/Throwable;") (by simp [Bundle.ownAtoms]))
  obtain ⟨tS, dS, eS, nS⟩ := Cond.laysAt hf1 hk1 Y.stack (hq (.lays cls Bundle.tN "stackTrace" Bundle.steD) (by simp [Bundle.ownAtoms]))
  obtain ⟨tP, dP, eP, nP⟩ := Cond.laysAt hf1 hk1 Y.supp (hq (.lays cls Bundle.tN "suppressedExceptions" Bundle.listD) (by simp [Bundle.ownAtoms]))
  obtain ⟨tM, dM, eM, nM⟩ := Cond.laysAt hf1 hk1 hM (hq (.lays cls Bundle.tN "detailMessage" "Ljava/lang/String;") (by simp [Bundle.ownAtoms]))
  obtain ⟨tB, dB, eB, nB⟩ := Cond.laysAt hf1 hk1 b7 (hq (.lays cls Bundle.tN "backtrace" "Ljava/lang/Object;") (by simp [Bundle.ownAtoms]))
  have a1 := Cond.laysApart eB eC nB nC (by rw [b5, Y.causeName]; decide)
  have a2 := Cond.laysApart eB eS nB nS (by rw [b5, Y.stackName]; decide)
  have a3 := Cond.laysApart eB eP nB nP (by rw [b5, Y.suppName]; decide)
  have hskip : SkipFacts T e.platform s (fun u => u) u0 ((preparedCellV T.toThrowableT (freshCell P1.m.cls kX) a u0 sen).withEntry W.cur) := by
    refine ⟨{ ci198 := cB, i198 := iB, fBack := fB }, ⟨b1, b2, b3, b4⟩, ?_, fun _ _ => rfl⟩
    have hdef := fresh_default (c := P1.m.cls) tB
    rw [b6] at hdef
    simpa [preparedCellV, Cell.setSlot, Cell.withEntry, Array.getElem?_setIfInBounds, a1, a2, a3, a1.symm, a2.symm, a3.symm, defaultValue] using hdef
  obtain ⟨tm, methC, cdC, kC, vm₁, hnC, -, -, -, -, -, -, -, hW₁, st1⟩ := Steps.initColdS (tb := p.tables) (e := e) (below := below) (s := s) (U := W) X.here hexec X.warmed hpl hown (t := Bundle.initS cls) rfl rfl (Bundle.fit_spec hcls).2
    (hq (.methodLink own ic (Bundle.initS cls)) (by simp [Bundle.ownAtoms])) (h (.instanceMethod (Bundle.initS cls)) (by cases names <;> simp [Bundle.ownAtoms, Bundle.chainSAtoms, Bundle.passSAtoms])) (bytes := Bundle.six) (maxL := 2) (h (.code (Bundle.initS cls) Bundle.six 2 none) (by cases names <;> simp [Bundle.ownAtoms, Bundle.chainSAtoms, Bundle.passSAtoms]))
    (f := g) hg (a := a) (msg := msg) (rest := rest) hstack hd
  cases hnC.symm.trans hP1
  have X₁ := X.noted hW₁
  obtain ⟨vm₂, X₂, st2⟩ := X₁.ctorMessageOffV hexec (g := { g with stack := rest }) hg hsize T L Z LZ M LM (P1 :: Ps)
    (fun P hP => (List.mem_cons.mp hP).elim (fun q => q ▸ L1) (hLs P)) ⟨hlink1, hlink⟩ (u0 := u0) (sen := sen) (self := a) hmsg (cell := freshCell P1.m.cls kX) (cellS := cellS)
    hcell (fun _ => by simp) (by simp) rfl rfl hsel0 hselF hcW hne hunk hu0 hsen
    (Takes.of_laid hk1 hord tC (by rw [Y.causeType]; rfl)) (Takes.of_laid hk1 hord tS (by rw [Y.stackType]; exact fits_refV_array _ u0)) (Takes.of_laid hk1 hord tP (by rw [Y.suppType]; exact fits_refV_object _ sen))
    (Takes.of_laid hk1 hord tM (by rw [Y.msgType]; exact fits_refV_object _ ⟨msg, hmsg⟩)) Y.objLocals hskip htr [] hd
    (by simp only [List.length_cons, hlen]; omega) (by simp only [List.length_cons, hlen]; exact hRl)
  refine ⟨vm₂, _, _, X₂, fun q hq' => ?_, rfl, rfl, fun target ht => st1 _ (fun acts => ?_)⟩
  · simp only [List.mem_cons, List.not_mem_nil, or_false] at hq'
    rcases hq' with rfl | rfl | rfl | rfl | rfl <;> rfl
  · rw [doInvoke_state]
    exact st2 _ ht
end XT
theorem xz_isRef {args : Array Value} {s : State} {C n d : String} {A : Nat → Prop} (h : va_Zq C n d A s s.heap) : (Cond.isRef (.static C n d)).before args s = true := by
  have key : ∀ v : Value, va_Z C n d v A s s.heap → (Term.static C n d).eval args s none [] s = some v := by
    rintro v ⟨cf, kf, fi, f, a, cell, h1, h2, h3, h4, h5, h6, h7, -⟩
    simp [Term.eval, State.fieldNamed?, h1, h2, h4, h5, h6, h7]
  rcases h with h | ⟨t, h⟩
  · simp [Cond.before, Cond.holds, Cond.value, key _ h]
  · simp [Cond.before, Cond.holds, Cond.value, key _ h]
/-- what the tables say of the exceptions that are made -/
def xz_okX (P : xm_P) (tb : List Cond) : Prop := ∀ (own : String) (idx cx ic ns : Nat), xm_ex P own idx = some (cx, ic, ns) → ∃ (Cx : String) (T : u_T) (names : List String), (xm_cl (xm_X P))[cx]? = some (Cx, T, 0) ∧ Cond.classLink own idx Cx ∈ tb ∧ Cond.instantiable Cx ns ∈ tb ∧ Cond.initialized Cx ∈ tb ∧ Bundle.fit Cx = true ∧ (∀ n ∈ names, Bundle.fit n = true) ∧ names.length ≤ 2 ∧
  ∀ v ∈ Bundle.ownAtoms own ic Cx names, v ∈ tb ∨ v = Cond.isRef (.static "java/lang/Throwable" "UNASSIGNED_STACK" "[Ljava/lang/StackTraceElement;") ∨ v = Cond.isRef (.static "java/lang/Throwable" "SUPPRESSED_SENTINEL" "Ljava/util/List;") ∨ v = Cond.laysStatic "java/lang/Throwable" "UNASSIGNED_STACK" "[Ljava/lang/StackTraceElement;" ∨ v = Cond.laysStatic "java/lang/Throwable" "SUPPRESSED_SENTINEL" "Ljava/util/List;"
set_option maxHeartbeats 4000000 in
theorem xz_okT_of {P : xm_P} {tb : List Cond} (okM : xz_okM P tb) (okX : xz_okX P tb) : xz_okT P tb := by
  intro l hfl p e R s m args below meth c D dA lo n0 ao ho y Y ins ln pc L S M r hY hthr hi C hlocks hhs hns hR1 hR2 hR3 hR4 H locs ls hW hS hl
  obtain ⟨⟨hx, hb, hml, hown, hts, hin⟩, -, ⟨kK, kA, kO, kS, kG, kI, klo, kz1, kz2, kl1, kl2⟩⟩ := C
  have hdec := (okM y Y hY).2.2.2
  unfold xm_thr at hthr
  split at hthr
  · rename_i idx
    split at hthr
    · rename_i cx ic ns k hex hk4
      split at hthr
      · rename_i i0 hcon
        split at hthr
        · rename_i hc
          obtain ⟨rfl, hnil, h3, h7, h10⟩ := hc
          cases hthr
          obtain ⟨Cx, Tx, names, hcl, w1, w2, w3, hfit, hnames, hlen, hat⟩ := okX _ _ _ _ _ hex
          have hKn := kK.1 cx _ hcl
          obtain ⟨hd0, hl0⟩ := hdec _ _ _ hi
          obtain ⟨hd3, -⟩ := hdec _ _ _ h3
          obtain ⟨hd4, -⟩ := hdec _ _ _ hk4
          obtain ⟨hd7, -⟩ := hdec _ _ _ h7
          obtain ⟨hd10, -⟩ := hdec _ _ _ h10
          obtain rfl : ln = 3 := by simpa [xm_lk] using hl0
          have hwin : ∀ v ∈ Bundle.ownAtoms Y.1.cls ic Cx names, v.before args s = true := by
            intro v hv
            rcases hat v hv with h | rfl | rfl | rfl | rfl
            · exact hts v h
            · exact xz_isRef kz1
            · exact xz_isRef kz2
            · exact kl1
            · exact kl2
          have hout : ∀ h ∈ c.exceptionTable.toList, covers h (pc + 10) = false := by
            unfold xz_hs at hhs
            rw [hnil] at hhs
            intro h hh
            cases hq : c.exceptionTable.toList with
            | nil => rw [hq] at hh; cases hh
            | cons a as => rw [hq] at hhs; cases hhs
          show W p l e R s m args below meth c H locs M.2.2.1 M.2.2.2 _ (F0 m pc ls [])
          refine W.newcK (n := ns) hx hb hown (hts _ w1) (hts _ w2) (hts _ w3) rfl hd0 hR1 hR2 hKn.2.1 rfl fun H1 kC hkC e1 z1 o1 => ?_
          refine lv_dup hx hb hd3 rfl ?_
          intro T hT X
          subst hT
          have htr : e.platform.stackTraces = false := Launch.traces_off hfl X.admits
          rcases kG _ _ _ hcon with ⟨x, h, -⟩ | ⟨x, h, -⟩ | ⟨i, tx, h, hi0, hvk⟩
          · cases h
          · cases h
          · have hkeep : ∀ (q : Nat) (cell : Cell), s.heap[q]? = some cell → cell.vm.isStatics = true → T.heap[q]? = some cell := by
              intro q cell hq hst
              have hlt : q < s.heap.size := (Array.getElem?_eq_some_iff.mp hq).1
              have hnl : ¬ lo ≤ q := fun hle => by rw [hns q cell hle hq] at hst; cases hst
              rw [o1 q (Nat.lt_of_lt_of_le hlt hS.1), hS.2.1 q hlt hnl]
              exact hq
            obtain ⟨vm', cell', L5, X', hL5, hc1, hc2, st⟩ := xz_ctor X hx htr hown hfit hnames hwin hkeep (a := H.size) hKn.2.1 hkC e1 (msg := .ref (ao i)) rfl
              (g := F0 m (pc + 3 + 1 + 3) ls [.ref (ao i), .ref H.size, .ref H.size]) rfl (hl.1.trans hml.symm) (rest := [.ref H.size]) rfl (by rw [hb]; exact hd7) (by omega) (by show _ ≤ R.locals; simp [JFrame.monitorRoom, F0, Value.category]; omega)
            have hz2 : ((T.setVm vm').setCell H.size cell').heap.size = H.size + 1 := by
              show (T.heap.setIfInBounds H.size cell').size = _
              rw [Array.size_setIfInBounds, z1]
            have ho2 : ∀ q : Nat, q < H.size → ((T.setVm vm').setCell H.size cell').heap[q]? = H[q]? := by
              intro q hq
              show (T.heap.setIfInBounds H.size cell')[q]? = _
              rw [Array.getElem?_setIfInBounds, if_neg (by omega), o1 q hq]
            have hc0 : ((T.setVm vm').setCell H.size cell').heap[H.size]? = some cell' := by
              show (T.heap.setIfInBounds H.size cell')[H.size]? = _
              rw [Array.getElem?_setIfInBounds, if_pos rfl, if_pos (by rw [z1]; omega)]
            have hW2 : xz_W (xm_X P) D dA lo n0 ao ho (va_up M.1 M.2.1 (.inr (cx, [])), M.2.1 + 1, M.2.2.1 + 1, M.2.2.2 + ns) ((T.setVm vm').setCell H.size cell').heap :=
              xz_W_push (e := .inr (cx, [])) hW (fun _ _ _ _ h => by cases h) hz2 ho2 ⟨_, hcl, cell', hc0, hc1, hc2, fun k hk => absurd hk (Nat.not_lt_zero k)⟩ _ _
            have hlo : lo ≤ H.size := by rw [hW.2.1]; omega
            have hS2 : va_S (fun q => lo ≤ q) s.heap ((T.setVm vm').setCell H.size cell').heap (locs ++ L5) := by
              refine ⟨by rw [hz2]; exact Nat.le_succ_of_le hS.1, fun q h1 h2 => (ho2 q (Nat.lt_of_lt_of_le h1 hS.1)).trans (hS.2.1 q h1 h2), fun q hq => ?_⟩
              rcases List.mem_append.mp hq with h1 | h1
              · exact hS.2.2 q h1
              · show lo ≤ q.base
                rw [hL5 q h1]
                exact hlo
            obtain ⟨t, a1, b1⟩ := xz_athrow (l := l) (R := R) (H := ((T.setVm vm').setCell H.size cell').heap) (Qc := xz_Qc (xm_X P) D dA lo n0 ao ho (.inr M.2.1) (va_up M.1 M.2.1 (.inr (cx, [])), M.2.1 + 1, M.2.2.1 + 1, M.2.2.2 + ns)) (x := H.size) hx hb hlocks
              (fun t ht _ => ⟨by show _ = Outcome.threw (xz_ad n0 lo ao M.2.1); rw [xz_own hW.1, ← hW.2.1], by rw [ht]; exact hW2, hS2.F ht⟩) hS2.2.2 (pc := pc + 10) (ls := ls) (st := []) hout hd10 _ rfl X'
            refine ⟨t, ?_, b1⟩
            refine X.ldcStringW hx hown (text := tx) (a := ao i) hvk.1 hvk.2 (g := F0 m (pc + 3 + 1) ls [.ref H.size, .ref H.size]) rfl (by rw [hb]; exact hd4) t ?_
            exact st t a1
        · cases hthr
      · cases hthr
    · cases hthr
  · cases hthr
