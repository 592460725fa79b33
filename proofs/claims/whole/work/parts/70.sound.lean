/-! what the pure machine runs, the machine runs -/
def xz_port (w : Cond) : Prop := ∀ (s U : State) (a a' : Array Value), s.WarmedH U.vm → w.before a s = true → w.before a' U = true
def xz_kind (tb : List Cond) (own : String) (idx k : Nat) (Y : xm_Y) (n : Nat) (C : String) : Prop := xz_nm Y.1.cls ∧ match k with
  | 0 => (Cond.methodLink own idx Y.1 ∈ tb ∨ ∃ host, Cond.methodLinkNest own idx Y.1 host ∈ tb) ∧ Cond.static Y.1 ∈ tb ∧ (parseMethodDescriptor Y.1.desc).map (fun d => d.parameters.length) = some n
  | 1 => Cond.methodLink own idx Y.1 ∈ tb ∧ Cond.instanceMethod Y.1 ∈ tb ∧ (Cond.selects C Y.1 Y.1 ∈ tb ∨ (Cond.privateMethod Y.1 ∈ tb ∧ Cond.sameMethod Y.1.cls Y.1.cls Y.1.name Y.1.desc ∈ tb)) ∧ (parseMethodDescriptor Y.1.desc).map (fun d => d.parameters.length) = some n
  | 2 => ∃ (x : MethodName) (owner : String) (b0 : ByteArray) (m0 : Nat) (r0 : Option FieldType), Cond.methodLink own idx x ∈ tb ∧ Cond.sameMethod x.cls owner x.name x.desc ∈ tb ∧ Cond.instanceMethod ⟨owner, x.name, x.desc⟩ ∈ tb ∧ Cond.code ⟨owner, x.name, x.desc⟩ b0 m0 r0 ∈ tb ∧ xz_nm owner ∧ Cond.selects C x Y.1 ∈ tb ∧ Cond.instanceMethod Y.1 ∈ tb ∧ (parseMethodDescriptor x.desc).map (fun d => d.parameters.length) = some n
  | 3 => Y.1.name = "<init>" ∧ Cond.code Y.1 Y.2.1 Y.2.2.1 none ∈ tb ∧ (Cond.methodLink own idx Y.1 ∈ tb ∨ ∃ host, Cond.methodLinkNest own idx Y.1 host ∈ tb) ∧ Cond.instanceMethod Y.1 ∈ tb ∧ (parseMethodDescriptor Y.1.desc).map (fun d => d.parameters.length) = some n
  | 4 => Cond.methodLink own idx Y.1 ∈ tb ∧ Cond.sameMethod Y.1.cls Y.1.cls Y.1.name Y.1.desc ∈ tb ∧ Cond.superclass own Y.1.cls ∈ tb ∧ Cond.instanceMethod Y.1 ∈ tb ∧ Y.1.name ≠ "<init>" ∧ (parseMethodDescriptor Y.1.desc).map (fun d => d.parameters.length) = some n
  | _ => False
def xz_okM (P : xm_P) (tb : List Cond) : Prop := ∀ (y : Nat) (Y : xm_Y), xm_mt P y = some Y → plainFor Y.1 = true ∧ xz_cw tb Y.1 Y.2.1 Y.2.2.1 Y.2.2.2.1 Y.2.2.2.2.1 ∧ Cond.initialized Y.1.cls ∈ tb ∧ ∀ (pc : Nat) (ins : Instr) (ln : Nat), Y.2.2.2.2.2 pc = some (ins, ln) → decode Y.2.1 pc = .ok (ins, ln) ∧ xm_lk ins ln = true
def xz_okK (P : xm_P) (tb : List Cond) : Prop := ∀ (own : String) (idx k y n : Nat) (C : String) (Y : xm_Y), xm_ci P own idx = some (k, y, n, C) → xm_mt P y = some Y → xz_kind tb own idx k Y n C
def xz_okC (P : xm_P) (tb : List Cond) : Prop := ∀ (own : String) (ct ci : Nat), xm_ct P own ct = some ci → ∃ (C : String) (T : u_T) (N : Nat), (xm_cl (xm_X P))[ci]? = some (C, T, N) ∧ Cond.classLink own ct C ∈ tb
theorem xz_O_warm {X : xm_T} {lo n0 : Nat} {ao : Nat → Nat} {s U : State} {a : Nat} {e : va_E} (hvm : s.vm.Alike U.vm) (hq : ∀ b : Nat, b < s.heap.size → ¬ lo ≤ b → U.heap[b]? = s.heap[b]?) (h : xz_O X lo n0 ao s s.heap a e) : xz_O X lo n0 ao U U.heap a e := by
  rcases e with ⟨t, k, f | f⟩ | ⟨ci, fs⟩
  · obtain ⟨ty, h1, h2⟩ := h
    exact ⟨ty, h1, (h2.moved hvm).kept hq⟩
  · exact h
  · obtain ⟨C, T, N, h1, h2, h3⟩ := h
    exact ⟨C, T, N, h1, (h2.moved hvm).kept hq, fun k v hk hv => ((h3 k v hk hv).moved hvm).kept hq⟩
theorem xz_LS_warm {s U : State} {lo : Nat} {C n d : String} (hvm : s.vm.Alike U.vm) (hq : ∀ b : Nat, b < s.heap.size → ¬ lo ≤ b → U.heap[b]? = s.heap[b]?) (hz : va_Zq C n d (fun q => lo ≤ q) s s.heap) (h : (Cond.laysStatic C n d).before #[] s = true) : (Cond.laysStatic C n d).before #[] U = true := by
  have h1 := Cond.laysStatic_setVm hvm h
  have key : ∀ v : Value, va_Z C n d v (fun q => lo ≤ q) s s.heap → (Cond.laysStatic C n d).before #[] U = true := by
    intro v hv
    obtain ⟨cf, kf, fi, f, a, cell, q1, q2, q3, q4, q5, q6, q7, q8⟩ := va_Z.moved (U := s.setVm U.vm) hvm hv
    have e1 : U.fieldFound? C n d = some (cf, kf, fi, f) := q1
    have e2 : U.heap[a]? = some cell := (hq a (Array.getElem?_eq_some_iff.mp q5).1 q8).trans q5
    have e3 : (s.setVm U.vm).heap[a]? = some cell := q5
    simp only [Cond.before, Cond.holds, Cond.value, q1, State.vm_setVm] at h1
    simp only [Cond.before, Cond.holds, Cond.value, e1]
    cases hf : U.vm.findClass C with
    | none => rw [hf] at h1; simp at h1
    | some c =>
      rw [hf] at h1
      simp only [q4, e3, Option.bind_some, Option.map_some] at h1
      simp only [q4, e2, Option.bind_some, Option.map_some]
      exact h1
  rcases hz with hz | ⟨t, hz⟩
  · exact key _ hz
  · exact key _ hz
theorem xz_K_warm {X : xm_T} {tb : List Cond} {D : va_G} {dA : Nat → ClassId} {lo n0 : Nat} {ao : Nat → Nat} {ho : Nat → va_E} {s U : State} (hW : s.WarmedH U.vm) (hz : s.heap.size ≤ U.heap.size) (hq : ∀ b : Nat, b < s.heap.size → ¬ lo ≤ b → U.heap[b]? = s.heap[b]?) (h : xz_K X tb D dA lo n0 ao ho s) : xz_K X tb D dA lo n0 ao ho U := by
  obtain ⟨k1, k2, k3, k4, k5, k6, k7⟩ := h
  have hvm := hW.alike
  refine ⟨k1.moved hvm, fun t ty ht => ⟨arrOfT_moved hvm (k2 t ty ht).1, (k2 t ty ht).2.moved hvm⟩, fun i hi => ⟨(k3 i hi).1, xz_O_warm hvm hq (k3 i hi).2⟩, fun own idx v hv => ?_, fun own idx v hv => ?_, k6, Nat.le_trans k7.1 hz, (k7.2.1.moved hvm).kept hq, (k7.2.2.1.moved hvm).kept hq, xz_LS_warm hvm hq k7.2.1 k7.2.2.2.1, xz_LS_warm hvm hq k7.2.2.1 k7.2.2.2.2⟩
  · obtain ⟨C, n, d, ref, hZ, h1, h2⟩ := k4 own idx v hv
    exact ⟨C, n, d, ref, (hZ.moved hvm).kept hq, h1, h2⟩
  · rcases k5 own idx v hv with h | h | ⟨i, tx, h1, h2, h3⟩
    · exact Or.inl h
    · exact Or.inr (Or.inl h)
    · exact Or.inr (Or.inr ⟨i, tx, h1, h2, h3.warm hW⟩)
theorem xz_W_nost {X : xm_T} {D : va_G} {dA : Nat → ClassId} {lo n0 : Nat} {ao : Nat → Nat} {ho : Nat → va_E} {m : xm_M} {H : Heap} (h : xz_W X D dA lo n0 ao ho m H) {q : Nat} {cell : Cell} (hq : lo ≤ q) (hc : H[q]? = some cell) : cell.vm = .none := by
  have hlt : q < H.size := (Array.getElem?_eq_some_iff.mp hc).1
  rw [h.2.1] at hlt
  have h1 := h.1
  have hat := xz_W_at h (i := n0 + (q - lo)) (Nat.le_add_right _ _) (by omega)
  rw [show lo + (n0 + (q - lo) - n0) = q by omega] at hat
  generalize m.1 (n0 + (q - lo)) = e at hat
  rcases e with ⟨t, k, f⟩ | ⟨ci, fs⟩
  · have hat : H[q]? = some (vp_cell (dA t) (k, xz_a (xz_ad n0 lo ao) f)) := hat
    cases hc.symm.trans hat
    rcases f with f | f | f | f | f <;> rfl
  · obtain ⟨r, -, cell', q1, -, q3, -⟩ := hat
    cases hc.symm.trans q1
    exact q3
def xz_Qc (X : xm_T) (D : va_G) (dA : Nat → ClassId) (lo n0 : Nat) (ao : Nat → Nat) (ho : Nat → va_E) (r : Option Value ⊕ Nat) (M : xm_M) : Array Value → State → Outcome → State → Prop := fun _ st o t =>
  o = (match r with | .inl v => .returned (v.map (xz_v (xz_ad n0 lo ao))) | .inr x => .threw (xz_ad n0 lo ao x)) ∧ xz_W X D dA lo n0 ao ho M t.heap ∧ va_F (fun q => lo ≤ q) st t
def xz_Pc (X : xm_T) (tb : List Cond) (D : va_G) (dA : Nat → ClassId) (lo n0 : Nat) (ao : Nat → Nat) (ho : Nat → va_E) (As : List Value) (M : xm_M) : Array Value → State → Prop := fun v U =>
  v = (As.map (xz_v (xz_ad n0 lo ao))).toArray ∧ xz_K X tb D dA lo n0 ao ho U ∧ xz_W X D dA lo n0 ao ho M U.heap
def xz_rm (d : Nat) (M : xm_M) : Room := { frames := d + 7, cells := M.2.2.1, slots := M.2.2.2, locals := 60 * d + 120 }
theorem xz_args {ad : Nat → Nat} : ∀ (As : List Value) (i : Nat), lv_args i (As.map (xz_v ad)) = (lv_args i As).map (fun q => (q.1, xz_v ad q.2))
  | [], _ => rfl
  | v :: vs, i => by
    show (i, xz_v ad v) :: lv_args (if (xz_v ad v).category = 2 then i + 2 else i + 1) (vs.map (xz_v ad)) = _
    rw [xz_cat, xz_args vs]
    rfl
theorem xz_slots {ad : Nat → Nat} : ∀ (As : List Value), (lg_sl (As.map (xz_v ad))).length = (lg_sl As).length
  | [] => rfl
  | v :: vs => by
    have ih := xz_slots (ad := ad) vs
    simp only [lg_sl, List.map_cons, List.flatMap_cons, List.length_append, xz_cat] at ih ⊢
    rw [ih]
    split <;> rfl
section XR
variable {p : Program} {l : Launch} {e : Env} {R : Room} {s : State} {m : MethodId} {args : Array Value} {below : List Frame} {meth : Method} {c : Code} {X : xm_T} {tb : List Cond} {D : va_G} {dA : Nat → ClassId} {lo n0 : Nat} {ao : Nat → Nat} {ho : Nat → va_E}
theorem xz_end_ok {Y : xm_Y} {ins : Instr} {ln pc : Nat} {S : List Value} {v : Option Value} {M : xm_M} {H : Heap} {locs : List Loc} {ls : Array Slot} (h : xm_end Y ins S = some v) (hd : decode Y.2.1 pc = .ok (ins, ln)) (hlk : xm_lk ins ln = true) (hx : p.tables.exec = Jvm.exec) (hb : c.code = Y.2.1) (hr : meth.sig.returnType = Y.2.2.2.1) (hlocks : meth.locks = false)
    (hW : xz_W X D dA lo n0 ao ho M H) (hS : va_S (fun q => lo ≤ q) s.heap H locs) :
    W p l e R s m args below meth c H locs M.2.2.1 M.2.2.2 (xz_MQ below (xz_Qc X D dA lo n0 ao ho (.inl v) M) args s M.2.2.1 M.2.2.2 (fun q => lo ≤ q)) (F0 m pc ls (S.map (xz_v (xz_ad n0 lo ao)))) := by
  refine xz_mono (fun t => xz_MQ_of t) ?_
  have hq : ∀ t : State, t.heap = H → s.WarmedH t.vm → xz_Qc X D dA lo n0 ao ho (.inl v) M args s (.returned (v.map (xz_v (xz_ad n0 lo ao)))) t := fun t ht _ => ⟨rfl, by rw [ht]; exact hW, hS.F ht⟩
  unfold xm_end at h
  split at h
  · split at h
    · rename_i hc
      obtain ⟨hn, rfl⟩ := hc
      cases h
      obtain rfl : ln = 1 := by simpa [xm_lk] using hlk
      exact W.vret hx hb (hr.trans hn) hq hS.2.2 hd hlocks
    · cases h
  · split at h
    · split at h
      · rename_i ty hty
        split at h
        · rename_i hn
          cases h
          obtain rfl : ln = 1 := by simpa [xm_lk] using hlk
          exact W.zret hx hb (hr.trans hty) hn hq hS.2.2 hd hlocks
        · cases h
      · cases h
    · cases h
  · split at h
    · split at h
      · rename_i hn
        cases h
        obtain rfl : ln = 1 := by simpa [xm_lk] using hlk
        exact W.lret hx hb (hr.trans hn) hq hS.2.2 hd hlocks
      · cases h
    · cases h
  · split at h
    · rename_i w
      have href : ∀ {z : Value}, xm_isA z = true → xz_v (xz_ad n0 lo ao) z = .null ∨ ∃ a, xz_v (xz_ad n0 lo ao) z = .ref a := by
        intro z hz
        cases z with
        | ref a => exact Or.inr ⟨_, rfl⟩
        | null => exact Or.inl rfl
        | _ => exact absurd hz (by simp [xm_isA])
      split at h
      · rename_i hty
        split at h
        · rename_i hA
          cases h
          obtain rfl : ln = 1 := by simpa [xm_lk] using hlk
          exact W.aret hx hb (hr.trans hty) (Or.inl ⟨_, rfl⟩) (href hA) hq hS.2.2 hd hlocks
        · cases h
      · rename_i hty
        split at h
        · rename_i hA
          cases h
          obtain rfl : ln = 1 := by simpa [xm_lk] using hlk
          exact W.aret hx hb (hr.trans hty) (Or.inr ⟨_, rfl⟩) (href hA) hq hS.2.2 hd hlocks
        · cases h
      · cases h
    · cases h
  · cases h
theorem xz_rcv_ok {own : String} {cc : ByteArray} {nL : Nat} {ini : Bool} (C : xz_C X tb own cc nL ini p s m args meth c D dA lo n0 ao ho) {M : xm_M} {H : Heap} {locs : List Loc} (hW : xz_W X D dA lo n0 ao ho M H) (hS : va_S (fun q => lo ≤ q) s.heap H locs) {Cn : String} {b : Value} (h : xm_rcv X Cn M b = true) :
    ∃ b' : Nat, b = .ref b' ∧ ∃ cell : Cell, H[xz_ad n0 lo ao b']? = some cell ∧ cell.vm.isStatics = false ∧ s.vm.findClass Cn = some cell.cls := by
  unfold xm_rcv at h
  split at h
  · rename_i b'
    split at h
    · rename_i ci fs he
      split at h
      · rename_i q hq
        obtain ⟨h1, h2⟩ := of_decide_eq_true h
        subst h2
        exact ⟨b', rfl, xz_recv C hW hS h1 he hq⟩
      · cases h
    · cases h
  · cases h
/-- the invocation of a call site of the table -/
theorem xz_site {P : xm_P} {Y Y' : xm_Y} {ins : Instr} {ln pc y' : Nat} {S As r : List Value} {M : xm_M} {T : State} {locs : List Loc} {cells slots : Nat} {ls : Array Slot} (okK : xz_okK P tb) (okM : xz_okM P tb)
    (C : xz_C (xm_X P) tb Y.1.cls Y.2.1 Y.2.2.1 (decide (Y.1.name = "<init>")) p s m args meth c D dA lo n0 ao ho) (h : xm_call P Y.1.cls ins S M = some (y', As, r)) (hY' : xm_mt P y' = some Y') (hd : decode Y.2.1 pc = .ok (ins, ln)) (hlk : xm_lk ins ln = true)
    (hW : xz_W (xm_X P) D dA lo n0 ao ho M T.heap) (hS : va_S (fun q => lo ≤ q) s.heap T.heap locs) (X : Stand p l e R s m args below meth c T locs cells slots) :
    ln = 3 ∧ xz_IS p l e R s m args below meth c T locs cells slots (F0 m pc ls (S.map (xz_v (xz_ad n0 lo ao)))) (r.map (xz_v (xz_ad n0 lo ao))) Y'.1 (As.map (xz_v (xz_ad n0 lo ao))).toArray := by
  have C0 := C
  obtain ⟨⟨hx, hb, hml, hown, hts, hin⟩, -, -⟩ := C
  obtain ⟨-, hcw, -, -⟩ := okM y' Y' hY'
  have sp : ∀ n, S.map (xz_v (xz_ad n0 lo ao)) = ((S.take n).reverse.map (xz_v (xz_ad n0 lo ao))).reverse ++ (S.drop n).map (xz_v (xz_ad n0 lo ao)) := fun n => by
    rw [List.map_reverse, List.reverse_reverse, ← List.map_append, List.take_append_drop]
  unfold xm_call at h
  split at h
  · rename_i idx
    split at h
    · rename_i k y n Cn hk
      split at h
      · rename_i hc
        obtain ⟨rfl, hn⟩ := hc
        cases h
        obtain rfl : ln = 3 := by simpa [xm_lk] using hlk
        obtain ⟨hy, k1, k2, k3⟩ := okK _ _ _ _ _ _ Y' hk hY'
        obtain ⟨-, -, hini, -⟩ := okM y' Y' hY'
        refine ⟨rfl, xz_callS X hx hown hts hcw k1 k2 hini hy k3 (by simp; omega) rfl (sp n) (by rw [hb]; exact hd)⟩
      · cases h
    · cases h
  · rename_i idx
    split at h
    · rename_i k y n Cn hk
      split at h
      · rename_i b r' hdr
        split at h
        · rename_i hc
          obtain ⟨hk12, hrc⟩ := hc
          cases h
          obtain rfl : ln = 3 := by simpa [xm_lk] using hlk
          obtain ⟨b', rfl, cell, g1, g2, g3⟩ := xz_rcv_ok C0 hW hS hrc
          have hlen : ((S.take n).reverse.map (xz_v (xz_ad n0 lo ao))).length = n := by
            have : (S.drop n).length = S.length - n := List.length_drop
            rw [hdr] at this
            simp at this ⊢
            omega
          have hst : S.map (xz_v (xz_ad n0 lo ao)) = ((S.take n).reverse.map (xz_v (xz_ad n0 lo ao))).reverse ++ .ref (xz_ad n0 lo ao b') :: r.map (xz_v (xz_ad n0 lo ao)) := by rw [sp n, hdr]; rfl
          have K := okK _ _ _ _ _ _ Y' hk hY'
          rcases hk12 with rfl | rfl
          · obtain ⟨hy, k1, k2, k3, k4⟩ := K
            exact ⟨rfl, xz_callV X hx hown hts hcw k1 k2 k3 hy k4 hlen g1 g2 g3 rfl hst (by rw [hb]; exact hd)⟩
          · obtain ⟨hy, x, owner, b0, m0, r0, k1, k2, k3, k4, k5, k6, k7, k8⟩ := K
            exact ⟨rfl, xz_callU X hx hown hts k1 k2 k3 k4 k5 k6 k7 k8 hlen g1 g2 g3 rfl hst (by rw [hb]; exact hd)⟩
        · cases h
      · cases h
    · cases h
  · rename_i idx
    split at h
    · rename_i k y n Cn hk
      split at h
      · rename_i b r' hdr
        split at h
        · rename_i hc
          cases h
          obtain rfl : ln = 3 := by simpa [xm_lk] using hlk
          have hlen : ((S.take n).reverse.map (xz_v (xz_ad n0 lo ao))).length = n := by
            have : (S.drop n).length = S.length - n := List.length_drop
            rw [hdr] at this
            simp at this ⊢
            omega
          have K := okK _ _ _ _ _ _ Y' hk hY'
          rcases hc with ⟨rfl, hA, hnn⟩ | ⟨rfl, hrc⟩
          · obtain ⟨b', rfl⟩ : ∃ b', b = .ref b' := by
              cases b with
              | ref b' => exact ⟨b', rfl⟩
              | null => exact absurd rfl hnn
              | _ => exact absurd hA (by simp [xm_isA])
            have hst : S.map (xz_v (xz_ad n0 lo ao)) = ((S.take n).reverse.map (xz_v (xz_ad n0 lo ao))).reverse ++ .ref (xz_ad n0 lo ao b') :: r.map (xz_v (xz_ad n0 lo ao)) := by rw [sp n, hdr]; rfl
            obtain ⟨hy, k1, k2, k3, k4, k5⟩ := K
            exact ⟨rfl, xz_callI X hx hown hts k1 k2 k3 k4 hy k5 hlen rfl hst (by rw [hb]; exact hd)⟩
          · obtain ⟨b', rfl, cell, g1, g2, g3⟩ := xz_rcv_ok C0 hW hS hrc
            have hst : S.map (xz_v (xz_ad n0 lo ao)) = ((S.take n).reverse.map (xz_v (xz_ad n0 lo ao))).reverse ++ .ref (xz_ad n0 lo ao b') :: r.map (xz_v (xz_ad n0 lo ao)) := by rw [sp n, hdr]; rfl
            obtain ⟨hy, k1, k2, k3, k4, k5, k6⟩ := K
            exact ⟨rfl, xz_callSU X hx hown hts hcw k1 k2 k3 k4 k5 k6 hlen g1 g2 g3 rfl hst (by rw [hb]; exact hd)⟩
        · cases h
      · cases h
    · cases h
  · cases h
end XR
