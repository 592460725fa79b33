/-! the claim out of the pure run of the law -/
def R_law : String := "TabKernelLaw"
def lw_P (b : Addr) (xs : List Int32) (args : Array Value) (s : State) : Prop := args = #[.ref b] ∧ s.IntsAt b xs ∧ xs.length ≤ 2049 ∧ (Jvm.Cond.and given_1 narrow_1).before args s = true
def lw_Q (_ : Array Value) (s : State) (o : Outcome) (t : State) : Prop := o = .returned (some (.int 1)) ∧ Framed s o t [] 601024 7293000
def lw_Z (below : List Frame) (a : Array Value) (s : State) : State → Prop := fun t => ∃ o, t.status = .running ∧ Ended t below o ∧ lw_Q a s o t
/-- what is left: for every script the pure machine runs the law to true, within the room -/
def xs_pure : Prop := ∀ (fm : Value) (L : Nat) (xs : Nat → Int32), (fm = .null ∨ ∃ i : Nat, fm = .ref i) → L ≤ 2049 → ∃ (k : Nat) (m' : xm_M), xm_run (xt_P fm) 44 k 16 348 (0, [(0, .ref 0)], [], (xs_ho L xs, 44, 0, 0)) = some (.inl (some (.int 1)), m') ∧ m'.2.2.1 ≤ 601024 ∧ m'.2.2.2 ≤ 7293000
theorem xs_drop {s t : State} {L : List Loc} {c n c' n' : Nat} (h : s.sameButNew t L c n) (hL : ∀ q ∈ L, s.heap.size ≤ q.base) (hc : c ≤ c') (hn : n ≤ n') : s.sameButNew t [] c' n' := by
  obtain ⟨h1, h2, h3, h4, h5, h6⟩ := h
  refine ⟨h1, h2, Nat.le_trans h3 (Nat.add_le_add_left hc _), h4, Nat.le_trans h5 hn, fun a c ha => ?_⟩
  obtain ⟨c', g1, g2, g3, g4⟩ := h6 a c ha
  refine ⟨c', g1, g2, g3, fun i _ => g4 i (fun hm => ?_)⟩
  exact absurd (Array.getElem?_eq_some_iff.mp ha).1 (Nat.not_lt.mpr (hL _ hm))
def xs_At (p : Program) (s : State) (m : MethodId) (meth : Method) (c : Code) (b L : Nat) (xs : Nat → Int32) : Prop :=
  p.tables.exec = Jvm.exec ∧ c.code = code ∧ meth.sig.returnType = ret ∧ c.maxLocals = 7 ∧ s.vm.findClass R_law = some m.cls ∧ (∀ v ∈ xt_al, v.before #[Value.ref b] s = true) ∧ va_X b L xs s s.heap ∧ meth.locks = false ∧ (Jvm.Cond.and given_1 narrow_1).before #[Value.ref b] s = true ∧ xz_hs [] c
theorem whole_start (hP : xs_pure) {p : Program} {e : Env} {s : State} {m : MethodId} {below : List Frame} {meth : Method} {c : Code} (l : Launch) (hfl : l.flags = flags0) {b L : Nat} {xs : Nat → Int32} (hL : L ≤ 2049) (C0 : xs_At p s m meth c b L xs) : W p l e room_1 s m #[Value.ref b] below meth c s.heap [] 0 0 (lw_Z below #[Value.ref b] s) (entryFrame m ([Value.ref b] : List Value).toArray 7) := by
  obtain ⟨hx, hb, hr, hml, hown, hts, hX, hlocks, hgv, hhs⟩ := C0
  obtain ⟨fm, D, dA, ao, hfm, ha0, hK⟩ := xs_start (args := #[Value.ref b]) hts (flat_of_before _ hgv) hX
  obtain ⟨k, m', hrun, hc1, hc2⟩ := hP fm L xs hfm hL
  subst ha0
  have C : xz_C (xm_X (xt_P fm)) xt_tb (xt_y xt_m348).1.cls (xt_y xt_m348).2.1 (xt_y xt_m348).2.2.1 (decide ((xt_y xt_m348).1.name = "<init>")) p s m #[Value.ref (ao 0)] meth c D dA s.heap.size 44 ao (xs_ho L xs) :=
    ⟨⟨hx, hb, hml, hown, fun v hv => hts v (List.mem_filter.mp hv).1, fun h => absurd h (by decide)⟩, xt_TB fm, hK⟩
  have hW : xz_W (xm_X (xt_P fm)) D dA s.heap.size 44 ao (xs_ho L xs) (xs_ho L xs, 44, 0, 0) s.heap :=
    ⟨Nat.le_refl _, by simp, fun i _ => rfl, xs_fit fm L xs, fun k q h => by simp [xz_l] at h⟩
  have g := xz_run_ok (xt_ok fm) hfl k 16 348 _ _ hrun (xt_y xt_m348) rfl p e room_1 s m #[Value.ref (ao 0)] below meth c C hr hlocks hhs (fun q cell h1 h2 => absurd (Array.getElem?_eq_some_iff.mp h2).1 (Nat.not_lt.mpr h1)) hc1 hc2 (by decide) (by decide)
  have hl := lv_entry ([Value.ref 0].map (xz_v (xz_ad 44 s.heap.size ao))) (n := 7) (by rw [xz_slots]; decide)
  rw [xz_args] at hl
  have g := g s.heap [] _ hW va_S.rf hl
  show W p l e room_1 s m #[Value.ref (ao 0)] below meth c s.heap [] 0 0 (lw_Z below #[Value.ref (ao 0)] s) (entryFrame m ([Value.ref 0].map (xz_v (xz_ad 44 s.heap.size ao))).toArray 7)
  rw [lg_entry_eq]
  refine xz_mono (fun t ht => ?_) g
  obtain ⟨o, h1, h2, ⟨ho, -, -⟩, Lx, ⟨hWt, hsame⟩, hLx⟩ := ht
  exact ⟨o, h1, h2, ho, ⟨_, ho⟩, hWt, xs_drop hsame hLx hc1 hc2⟩
set_option maxHeartbeats 4000000 in
theorem lw_walk (hP : xs_pure) (l : Launch) (hfl : l.flags = flags0) (b : Addr) (xs : List Int32) : MetFree l x (headSpec (Jvm.Cond.code x code maxLocals ret :: tables_1) room_1) (lw_P b xs) (fun _ _ _ _ _ => True) lw_Q := by
  refine MetFree.of_bodyS (code := code) (maxLocals := maxLocals) (ret := ret) (by decide) ?_ ?_
  · intro args s m h hn
    obtain ⟨meth, c, h1, h2, h3, h4, h5, h6, -, -⟩ := Cond.code_spec hn (atoms_spec (ws := Jvm.Cond.code x code maxLocals ret :: tables_1) h _ List.mem_cons_self)
    exact ⟨meth, c, h1, h2, h3, h4, h5, h6⟩
  · intro p e s m args below meth c s₁ B hml0 hP _
    obtain ⟨rfl, hx, hbd, hgv⟩ := hP
    obtain ⟨scr, harrAt, hlist, hof, hsmall⟩ := hx
    obtain ⟨hcb, hkn, -, -⟩ := State.arrayAt?_spec harrAt
    have hown : s.vm.findClass R_law = some m.cls := findClass_of_methodNamed B.named
    have hts0 : ∀ c ∈ (Jvm.Cond.code x code maxLocals ret :: tables_1), c.before #[Value.ref b] s = true := atoms_spec (ws := Jvm.Cond.code x code maxLocals ret :: tables_1) B.pre
    have hts : ∀ w ∈ lw_tbl, w.before #[Value.ref b] s = true := k2_hts_sels lw_privs (fun w hw => hts0 w (List.mem_cons_of_mem _ hw)) lw_privs_ok
    have hcw : xz_cw (Jvm.Cond.code x code maxLocals ret :: tables_1) x code maxLocals ret [] := Or.inl ⟨rfl, List.mem_cons_self⟩
    have hml : c.maxLocals = 7 := B.maxLocals_eq (hts0 _ List.mem_cons_self)
    have X₀ : Stand p l e room_1 s m #[Value.ref b] below meth c s₁ [] 0 0 := Stand.of_body B
    have hh0 : s₁.heap = s.heap := by rw [B.state]; rfl
    have hsz : scr.slots.size = xs.length := by rw [← Array.length_toList, hlist, List.length_map]
    have hval : ∀ j : Nat, j < xs.length → scr.slots[j]? = some (.int (xs.getD j 0)) := fun j hj => by
      rw [← Array.getElem?_toList, hlist]
      simp [hj]
    have hbl : b < s.heap.size := (Array.getElem?_eq_some_iff.mp hcb).1
    have hX : va_X b xs.length (fun j => xs.getD j 0) s s.heap := ⟨scr, hcb, hof, hkn, hsz, hval⟩
    obtain ⟨meth', c', w1, w2, -, -, -, -, w7, -⟩ := xz_cw_spec hcw hts0 B.named
    cases w1.symm.trans X₀.method
    cases w2.symm.trans X₀.code
    have K : W p l e room_1 s m #[Value.ref b] below meth c s₁.heap [] 0 0 (lw_Z below #[Value.ref b] s) (entryFrame m ([Value.ref b] : List Value).toArray 7) := by
      rw [hh0]
      exact whole_start hP l hfl hbd ⟨B.exec, B.bytes, B.returns, hml, hown, List.forall_mem_cons.mpr ⟨hts0 _ List.mem_cons_self, hts⟩, hX, B.notSynchronized, hgv, w7⟩
    obtain ⟨t, a1, o, b1, b2, b3⟩ := K s₁ rfl X₀
    exact ⟨t, o, a1, b1, b2, b3⟩
theorem lw_pre_spec {args : Array Value} {s : State} (h : (Jvm.Cond.and given_1 narrow_1).before args s = true) (hr : rest_1_c.before args s = true) : ∃ (b : Addr) (xs : List Int32), lw_P b xs args s := by
  have hs := flat_of_before _ h
  have hq := flat_of_before _ hr
  have hc : (Cond.count 1).before args s = true := hs _ (by decide +kernel)
  have harr : (Cond.arrayOf (.arg 0) .int).before args s = true := hs _ (by decide +kernel)
  have hle : (Cond.le (.length (.arg 0)) (.int 2049)).before args s = true := hs _ (by decide +kernel)
  have hlen : (Cond.isInt (.length (.arg 0))).before args s = true := hq _ (by decide +kernel)
  have hall : (Cond.all (.arg 0) (.isInt (.elem (.arg 0) (.index 0)))).before args s = true := hq _ (by decide +kernel)
  obtain ⟨b, xs, hb, hx⟩ := State.ints_of_pre rfl harr hlen hall
  have hsm : xs.length < 2 ^ 31 := hx.choose_spec.2.2.2
  have hev : (Term.length (.arg 0)).eval args s none [] s = some (.int xs.length.toInt32) := hx.length_eval hb
  have hv := Cond.le_ints hev (show (Term.int 2049).eval args s none [] s = some (.int 2049) from rfl)
  have hd : xs.length.toInt32 ≤ 2049 := by
    simpa [Cond.before, Cond.holds, hv] using hle
  have hN : xs.length ≤ 2049 := (Int32.ofNat_le_ofNat hsm (by decide)).mp (show Int32.ofNat xs.length ≤ Int32.ofNat 2049 from hd)
  exact ⟨b, xs, Cond.one_arg hc (show args[0]? = some (.ref b) from hb), hx, hN, h⟩
theorem lw_comes (hPu : xs_pure) (l : Launch) (hfl : l.flags = flags0) : Comes l x (Jvm.Cond.code x code maxLocals ret :: tables_1) room_1 (fun tb e args s => Calls_1 tb e args s ∧ rest_1 tb e args s ∧ Pre_1 tb e args s)
    (fun _ _ args s o t => lw_Q args s o t) := by
  intro p e ha hc hk s m args below hf hfit hheap happ hpre
  obtain ⟨b, xs, hP⟩ := lw_pre_spec hpre.2.2 hpre.2.1
  obtain ⟨k, o, h1, h2, h3, hQ⟩ := lw_walk hPu l hfl b xs p e ha hc hk s m args below hf ((Spec.applies_iff_loose hf).mp happ).1 hP trivial
  exact ⟨k, o, h1, h2, h3, hQ⟩
theorem lw_frame {s t : State} {o : Outcome} {args : Array Value} (h : Framed s o t [] 601024 7293000) :
    Framed s o t (fieldLocs frame_1_writes args s ++ arrayLocs frame_1_arrays args s ++ staticLocs frame_1_statics s) 601024 7293000 := h
theorem lw_limb (hP : xs_pure) (L : Cond) (hL : ∀ (args : Array Value) (s t : State), L.after args s (.returned (some (.int 1))) t = true) :
    ArmFor flags0 classFile x code maxLocals ret World_1 tables_1 room_1 Calls_1 rest_1 Pre_1
      (fun tb e a s o t => postC L tb e a s o t ∧ Framed s o t (fieldLocs frame_1_writes a s ++ arrayLocs frame_1_arrays a s ++ staticLocs frame_1_statics s) 601024 7293000) := by
  intro l hfl _ _ p e ha hc hk s m args below hf hfit hheap happ hpre
  obtain ⟨k, o, h1, h2, h3, rfl, hF⟩ := lw_comes hP l hfl p e ha hc hk s m args below hf hfit hheap happ hpre
  exact ⟨k, _, h1, h2, h3, hL args s _, lw_frame hF⟩
theorem xs_all (hP : xs_pure) : Claimed_1_1 ∧ Claimed_1_2 := ⟨lw_limb hP limb_1_1 (fun args s t => by simp [limb_1_1, Cond.after, Cond.holds, Cond.value]), lw_limb hP limb_1_2 (fun args s t => Cond.after_iff.mpr (by
  first | (rw [show limb_1_2 = Cond.eq .result (.int 1) from rfl, Cond.eq_ints (x := 1) (y := 1) rfl rfl]; simp; done) | (simp [limb_1_2, Cond.value, Term.eval]; done)))⟩
