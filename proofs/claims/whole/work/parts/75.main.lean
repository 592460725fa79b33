/-! the soundness of the pure machine's runs -/
/-- what is wanted of the one kind of exception that is made -/
def xz_okT (P : xm_P) (tb : List Cond) : Prop := ∀ (l : Launch), l.flags = flags0 → ∀ (p : Program) (e : Env) (R : Room) (s : State) (m : MethodId) (args : Array Value) (below : List Frame) (meth : Method) (c : Code) (D : va_G) (dA : Nat → ClassId) (lo n0 : Nat) (ao : Nat → Nat) (ho : Nat → va_E) (y : Nat) (Y : xm_Y) (ins : Instr) (ln pc : Nat) (L : xm_L) (S : List Value) (M : xm_M) (r : xm_R),
  xm_mt P y = some Y → xm_thr P Y ins pc S M = some r → Y.2.2.2.2.2 pc = some (ins, ln) →
  xz_C (xm_X P) tb Y.1.cls Y.2.1 Y.2.2.1 (decide (Y.1.name = "<init>")) p s m args meth c D dA lo n0 ao ho → meth.locks = false → xz_hs Y.2.2.2.2.1 c → (∀ (q : Nat) (cell : Cell), lo ≤ q → s.heap[q]? = some cell → cell.vm = .none) → r.2.2.2.1 ≤ R.cells → r.2.2.2.2 ≤ R.slots → 7 ≤ R.frames → 120 ≤ R.locals →
  xz_G p l e R s m args below meth c (xm_X P) Y.2.2.1 D dA lo n0 ao ho (xz_MQ below (xz_Qc (xm_X P) D dA lo n0 ao ho r.1 r.2) args s r.2.2.2.1 r.2.2.2.2 (fun q => lo ≤ q)) (pc, L, S, M)
def xz_ok (P : xm_P) (tb : List Cond) : Prop := xz_TB (xm_X P) tb ∧ (∀ w ∈ tb, xz_port w) ∧ xz_okM P tb ∧ xz_okK P tb ∧ xz_okC P tb ∧ xz_okT P tb
theorem xz_run_ok {P : xm_P} {tb : List Cond} (ok : xz_ok P tb) {l : Launch} (hfl : l.flags = flags0) {D : va_G} {dA : Nat → ClassId} {lo n0 : Nat} {ao : Nat → Nat} {ho : Nat → va_E} : ∀ (k d y : Nat) (f : xm_F) (r : xm_R), xm_run P n0 k d y f = some r → ∀ (Y : xm_Y), xm_mt P y = some Y →
    ∀ (p : Program) (e : Env) (R : Room) (s : State) (m : MethodId) (args : Array Value) (below : List Frame) (meth : Method) (c : Code),
    xz_C (xm_X P) tb Y.1.cls Y.2.1 Y.2.2.1 (decide (Y.1.name = "<init>")) p s m args meth c D dA lo n0 ao ho → meth.sig.returnType = Y.2.2.2.1 → meth.locks = false → xz_hs Y.2.2.2.2.1 c → (∀ (q : Nat) (cell : Cell), lo ≤ q → s.heap[q]? = some cell → cell.vm = .none) → r.2.2.2.1 ≤ R.cells → r.2.2.2.2 ≤ R.slots → d + 7 ≤ R.frames → 60 * d + 120 ≤ R.locals →
    xz_G p l e R s m args below meth c (xm_X P) Y.2.2.1 D dA lo n0 ao ho (xz_MQ below (xz_Qc (xm_X P) D dA lo n0 ao ho r.1 r.2) args s r.2.2.2.1 r.2.2.2.2 (fun q => lo ≤ q)) f := by
  obtain ⟨okB, okP, okM, okK, okC, okT⟩ := ok
  intro k
  induction k with
  | zero => intro d y f r h; cases h
  | succ k ih =>
    intro d y f r h Y hY p e R s m args below meth c C hr hlocks hhs hns hR1 hR2 hR3 hR4
    obtain ⟨pc, L, S, M⟩ := f
    unfold xm_run at h
    rw [hY] at h
    dsimp only at h
    split at h
    · cases h
    · rename_i ins ln hi
      obtain ⟨hdec, hlk⟩ := (okM y Y hY).2.2.2 pc ins ln hi
      split at h
      · rename_i v hv
        cases h
        intro H locs ls hW hS hl
        exact xz_end_ok hv hdec hlk C.1.1 C.1.2.1 hr hlocks hW hS
      · split at h
        · rename_i r' hr'
          cases h
          exact okT l hfl p e R s m args below meth c D dA lo n0 ao ho y Y ins ln pc L S M r hY hr' hi C hlocks hhs hns hR1 hR2 (by omega) (by omega)
        · split at h
          · rename_i y' As r0 hca
            split at h
            · rename_i d' Y' hY'
              split at h
              · rename_i hc
                obtain ⟨hsl, hml', h8⟩ := hc
                obtain ⟨hpl', hcw', hini', -⟩ := okM y' Y' hY'
                -- the callee's contract
                have hMet : ∀ (r1 : Option Value ⊕ Nat) (m' : xm_M), xm_run P n0 k d' y' (0, lv_args 0 As, [], (M.1, M.2.1, 0, 0)) = some (r1, m') →
                    xz_Met l Y'.1 tb (xz_rm d' m') (xz_Pc (xm_X P) tb D dA lo n0 ao ho As (M.1, M.2.1, 0, 0)) (xz_Qc (xm_X P) D dA lo n0 ao ho r1 m') m'.2.2.1 m'.2.2.2 (fun q => lo ≤ q) := by
                  intro r1 m' hrun
                  refine xz_Met_ofW hpl' hcw' ?_
                  intro p' e' s' mm' args' below' meth' c' s₁ B hmx hh' hPc
                  obtain ⟨hargs, hK', hW'⟩ := hPc
                  have hts' := atoms_spec (ws := tb) B.pre
                  have C' : xz_C (xm_X P) tb Y'.1.cls Y'.2.1 Y'.2.2.1 (decide (Y'.1.name = "<init>")) p' s' mm' args' meth' c' D dA lo n0 ao ho :=
                    ⟨⟨B.exec, B.bytes, hmx, findClass_of_methodNamed B.named, hts', fun hh => ((name_of_methodNamed B.named B.method).1).trans (of_decide_eq_true hh)⟩, okB, hK'⟩
                  have g := ih d' y' _ _ hrun Y' hY' p' e' (xz_rm d' m') s' mm' args' below' meth' c' C' B.returns B.notSynchronized hh' (fun q cell h1 h2 => xz_W_nost hW' h1 h2) (Nat.le_refl _) (Nat.le_refl _) (Nat.le_refl _) (Nat.le_refl _)
                  have hl' := lv_entry (As.map (xz_v (xz_ad n0 lo ao))) (n := Y'.2.2.1) (by rw [xz_slots]; exact hsl)
                  rw [xz_args] at hl'
                  rw [hargs, lg_entry_eq]
                  rw [hargs] at g
                  exact g s'.heap [] _ hW' va_S.rf hl'
                -- the call
                have hcall : ∀ (r1 : Option Value ⊕ Nat) (m' : xm_M), xm_run P n0 k d' y' (0, lv_args 0 As, [], (M.1, M.2.1, 0, 0)) = some (r1, m') → M.2.2.1 + m'.2.2.1 ≤ R.cells → M.2.2.2 + m'.2.2.2 ≤ R.slots →
                    ∀ (H : Heap) (locs : List Loc) (ls : Array Slot), xz_W (xm_X P) D dA lo n0 ao ho M H → va_S (fun q => lo ≤ q) s.heap H locs → ls.size = Y.2.2.1 → ∀ T : State, T.heap = H → Stand p l e R s m args below meth c T locs M.2.2.1 M.2.2.2 →
                    ∃ (t T' : State) (L' : List Loc), Stand p l e R s m args below meth c T' L' (xm_add M m').2.2.1 (xm_add M m').2.2.2 ∧ xz_W (xm_X P) D dA lo n0 ao ho (xm_add M m') T'.heap ∧ va_S (fun q => lo ≤ q) s.heap T'.heap L' ∧ (∀ target, Steps p.tables e below t target → Steps p.tables e below (T.setTop (F0 m pc ls (S.map (xz_v (xz_ad n0 lo ao))))) target) ∧
                      (match r1 with | .inl v => t = T'.setTop (F0 m (pc + 3) ls ((v.toList ++ r0).map (xz_v (xz_ad n0 lo ao)))) | .inr x => t = (T'.setTop (F0 m pc ls (r0.map (xz_v (xz_ad n0 lo ao))))).pushFrame (.throwing (xz_ad n0 lo ao x))) := by
                  intro r1 m' hrun hc1 hc2 H locs ls hW hS hsz T hT X
                  subst hT
                  obtain ⟨rfl, vm₁, mk, X₁, hn, st⟩ := xz_site (ls := ls) okK okM C hca hY' hdec hlk hW hS X
                  have hWm : s.WarmedH (T.setVm vm₁).vm := X₁.warmed
                  obtain ⟨o, t, T', L', ⟨ho1, ho2, ho3⟩, X', hL, e1, e2, hsteps, hcase⟩ := xz_invoke X₁ (hMet r1 m' hrun) hcw' (g := F0 m pc ls (r0.map (xz_v (xz_ad n0 lo ao)))) rfl (hsz.trans C.1.2.2.1.symm) (by rw [C.1.2.1]; exact hdec) (lv_room (by rw [xz_cats]; exact h8)) (a := (As.map (xz_v (xz_ad n0 lo ao))).toArray) hn
                    (fun w hw => okP w hw s (T.setVm vm₁) args _ hWm (C.1.2.2.2.2.1 w hw)) (okP _ hini' s (T.setVm vm₁) args _ hWm (C.1.2.2.2.2.1 _ hini'))
                    (by show d' + 7 + 1 ≤ R.frames; omega) (by show 8 + (Y'.2.2.1 + 11) + (60 * d' + 120) ≤ R.locals; omega) hc1 hc2
                    ⟨rfl, xz_K_warm (U := (T.setVm vm₁).calling (F0 m pc ls (r0.map (xz_v (xz_ad n0 lo ao)))) mk (As.map (xz_v (xz_ad n0 lo ao))).toArray) hWm hS.1 hS.2.1 C.2.2, hW⟩
                  have hz : T.heap.size ≤ t.heap.size := ho3.1
                  have hk : ∀ q : Nat, q < T.heap.size → ¬ lo ≤ q → t.heap[q]? = T.heap[q]? := ho3.2
                  have hS' : va_S (fun q => lo ≤ q) s.heap T'.heap (locs ++ L') := by
                    rw [e1]
                    refine ⟨Nat.le_trans hS.1 hz, fun q h1 h2 => (hk q (Nat.lt_of_lt_of_le h1 hS.1) h2).trans (hS.2.1 q h1 h2), fun q hq => ?_⟩
                    rcases List.mem_append.mp hq with h1 | h1
                    · exact hS.2.2 q h1
                    · exact hL q h1
                  refine ⟨t, T', locs ++ L', X', by rw [e1]; exact ho2, hS', fun target ht => st _ (hsteps.trans ht), ?_⟩
                  cases r1 with
                  | inl v =>
                    rcases hcase with ⟨v', hv', ht⟩ | ⟨x, hx, -⟩
                    · cases ho1.symm.trans hv'
                      show t = T'.setTop (F0 m (pc + 3) ls ((v.toList ++ r0).map (xz_v (xz_ad n0 lo ao))))
                      rw [ht, List.map_append]
                      cases v <;> rfl
                    · cases ho1.symm.trans hx
                  | inr x =>
                    rcases hcase with ⟨v', hv', -⟩ | ⟨x', hx, ht⟩
                    · cases ho1.symm.trans hv'
                    · cases ho1.symm.trans hx
                      exact ht
                split at h
                · rename_i v m' hrun
                  obtain ⟨u1, u2⟩ := xm_run_up _ _ _ _ _ h
                  have g := ih (d' + 1) y _ _ h Y hY p e R s m args below meth c C hr hlocks hhs hns hR1 hR2 hR3 hR4
                  intro H locs ls hW hS hl T hT X
                  obtain ⟨t, T', L', X', hW', hS', st, ht⟩ := hcall (.inl v) m' hrun (Nat.le_trans u1 hR1) (Nat.le_trans u2 hR2) H locs ls hW hS hl.1 T hT X
                  obtain ⟨t2, a1, b1⟩ := g T'.heap L' ls hW' hS' hl T' rfl X'
                  have ht : t = T'.setTop (F0 m (pc + 3) ls ((v.toList ++ r0).map (xz_v (xz_ad n0 lo ao)))) := ht
                  subst ht
                  exact ⟨t2, st t2 a1, b1⟩
                · rename_i x m' hrun
                  split at h
                  · rename_i h0 hh
                    obtain ⟨u1, u2⟩ := xm_run_up _ _ _ _ _ h
                    have g := ih (d' + 1) y _ _ h Y hY p e R s m args below meth c C hr hlocks hhs hns hR1 hR2 hR3 hR4
                    intro H locs ls hW hS hl T hT X
                    obtain ⟨t, T', L', X', hW', hS', st, ht⟩ := hcall (.inr x) m' hrun (Nat.le_trans u1 hR1) (Nat.le_trans u2 hR2) H locs ls hW hS hl.1 T hT X
                    have ht : t = (T'.setTop (F0 m pc ls (r0.map (xz_v (xz_ad n0 lo ao))))).pushFrame (.throwing (xz_ad n0 lo ao x)) := ht
                    subst ht
                    unfold xm_hnd at hh
                    split at hh
                    · cases hh
                    · rename_i a b hp ct hhl
                      split at hh
                      · rename_i hab
                        split at hh
                        · rename_i ci cj fs hct hex
                          split at hh
                          · rename_i hcc
                            obtain ⟨rfl, hxn, hct0⟩ := hcc
                            cases hh
                            obtain ⟨Cn, Tn, N, hcl, hlk'⟩ := okC _ _ _ hct
                            obtain ⟨cell, g1, g2, g3⟩ := xz_recv C hW' hS' hxn hex hcl
                            rw [hhl] at hhs
                            unfold xz_hs at hhs
                            obtain ⟨hd0, htab⟩ : ∃ hd0, c.exceptionTable.toList = [hd0] := by
                              cases hq : c.exceptionTable.toList with
                              | nil => rw [hq] at hhs; cases hhs
                              | cons a1 as =>
                                cases as with
                                | nil => exact ⟨a1, rfl⟩
                                | cons a2 as => rw [hq] at hhs; cases hhs
                            rw [htab] at hhs
                            simp only [List.map_cons, List.map_nil, List.cons.injEq, Prod.mk.injEq, and_true] at hhs
                            obtain ⟨q1, q2, q3, q4⟩ := hhs
                            obtain ⟨vm', X'', st2⟩ := xz_caught X' (hd := hd0) C.1.2.2.2.1 (by rw [q4]; exact C.1.2.2.2.2.1 _ hlk') (by rw [q4]; exact hct0) htab g1 g2 g3 (va_asg _ _) (g := F0 m pc ls (r0.map (xz_v (xz_ad n0 lo ao)))) rfl
                              (by show (decide (hd0.startPc ≤ pc) && decide (pc < hd0.endPc)) = true; rw [q1, q2]; simp [hab])
                            obtain ⟨t2, a1, b1⟩ := g T'.heap L' ls hW' hS' hl (T'.setVm vm') rfl X''
                            rw [q3] at st2
                            exact ⟨t2, st t2 (st2 t2 a1), b1⟩
                          · cases hh
                        · cases hh
                      · cases hh
                    · cases hh
                  · rename_i hh
                    cases h
                    intro H locs ls hW hS hl T hT X
                    obtain ⟨t, T', L', X', hW', hS', st, ht⟩ := hcall (.inr x) m' hrun hR1 hR2 H locs ls hW hS hl.1 T hT X
                    have ht : t = (T'.setTop (F0 m pc ls (r0.map (xz_v (xz_ad n0 lo ao))))).pushFrame (.throwing (xz_ad n0 lo ao x)) := ht
                    subst ht
                    have hout : ∀ h ∈ c.exceptionTable.toList, covers h pc = false := by
                      unfold xm_hnd at hh
                      split at hh
                      · rename_i hhl
                        rw [hhl] at hhs
                        intro h hm
                        have : h ∈ ([] : List ExceptionTableEntry) := by
                          rw [← List.map_eq_nil_iff.mp hhs]
                          exact hm
                        cases this
                      · rename_i a b hp ct hhl
                        split at hh
                        · split at hh
                          · split at hh <;> cases hh
                          · cases hh
                        · rename_i hab
                          rw [hhl] at hhs
                          intro h hm
                          have hq : (h.startPc, h.endPc, h.handlerPc, h.catchType) ∈ c.exceptionTable.toList.map (fun h => (h.startPc, h.endPc, h.handlerPc, h.catchType)) := List.mem_map.mpr ⟨h, hm, rfl⟩
                          rw [show c.exceptionTable.toList.map (fun h => (h.startPc, h.endPc, h.handlerPc, h.catchType)) = _ from hhs] at hq
                          simp only [List.mem_singleton, Prod.mk.injEq] at hq
                          obtain ⟨q1, q2, -, -⟩ := hq
                          show (decide (h.startPc ≤ pc) && decide (pc < h.endPc)) = false
                          rw [q1, q2]
                          by_cases g1 : a ≤ pc
                          · have g2 : ¬ pc < b := fun g2 => hab ⟨g1, g2⟩
                            simp [g2]
                          · simp [g1]
                      · cases hh
                    obtain ⟨t2, a1, b1⟩ := xz_leave (H := T'.heap) (Qc := xz_Qc (xm_X P) D dA lo n0 ao ho (.inr x) (xm_add M m')) (free := fun q => lo ≤ q) rfl X' hlocks (fun t ht _ => ⟨rfl, by rw [ht]; exact hW', hS'.F ht⟩) hS'.2.2 hout (x := xz_ad n0 lo ao x) (ls := ls) (st := r0.map (xz_v (xz_ad n0 lo ao)))
                    exact ⟨t2, st t2 a1, b1⟩
                  · cases h
                · cases h
              · cases h
            · cases h
          · split at h
            · rename_i f' hf
              obtain ⟨u1, u2⟩ := xm_run_up _ _ _ _ _ h
              exact xz_all C hlk pc L S M f' hdec hf (Nat.le_trans u1 hR1) (Nat.le_trans u2 hR2) (by omega) (by omega) (ih d y f' r h Y hY p e R s m args below meth c C hr hlocks hhs hns hR1 hR2 hR3 hR4)
            · cases h
