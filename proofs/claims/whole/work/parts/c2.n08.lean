/-! the class's state doesn't look at the reference's cells; cells made -/
def kg (w : kW) (h h' : xm_H) : Prop := ∀ a, gd w a → h' a = h a
section XC2
variable {fm : Value} {w : kW} {s : Nat → Int} {p : Nat → Nat} {ar : Nat → Nat → Option Nat} {v : Nat → Int} {h h' : xm_H} {n r k x y R : Nat} {l D : List Int} {A : pa_A} {q : mq_T} {c : ck_T} {t : Nat → List Int} {kc : Nat → Nat} {u : mu_T} {dp : Nat → Nat} {fx : Nat → Option Nat} {m : ms_T} {F d : Nat} {X : mf_T}
theorem sS_kg (H : sS (gd w) h n r l) (Z : kg w h h') : sS (gd w) h' n r l := by
  obtain ⟨b, x, y, h1, ⟨f, h2, h6, h7⟩, h3, h4, h5⟩ := H
  exact ⟨b, x, y, (Z _ h3).trans h1, ⟨f, (Z _ h4).trans h2, h6, h7⟩, h3, h4, h5⟩
theorem aO_kg (H : aO w h n x A) (Z : kg w h h') : aO w h' n x A := by
  obtain ⟨ho, pa, qu, te, a1, a2, a3, a4, a5, a6, a7, a8, a9⟩ := H
  exact ⟨ho, pa, qu, te, (Z _ a2).trans a1, a2, a3, a4, sS_kg a5 Z, sS_kg a6 Z, sS_kg a7 Z, sS_kg a8 Z, a9⟩
theorem adO_kg {o : Option Nat} {Q : Option pa_A} (H : adO w h n o Q) (Z : kg w h h') : adO w h' n o Q := by
  cases Q with
  | none => exact H
  | some a =>
    obtain ⟨y, e1, H⟩ := H
    exact ⟨y, e1, aO_kg H Z⟩
theorem kb_kg {j : Nat} (H : kb w h j l k) (Z : h' (w.1 j) = h (w.1 j)) : kb w h' j l k := by
  obtain ⟨⟨f, h2, h3⟩, H⟩ := H
  exact ⟨⟨f, Z.trans h2, h3⟩, H⟩
theorem cst_kg (W : kw w n) (H : cst w h n) (Z : kg w h h') : cst w h' n := by
  refine ⟨fun q hq => sS_kg (H.1 q hq) Z, ?_⟩
  obtain ⟨W0, ⟨a1, a2, a3, a4⟩, ⟨b1, b2, b3, b4⟩, ⟨c1, c2, c3, c4⟩, W4⟩ := W
  have g : ∀ a, a < 44 → gd w a := fun a ha => ⟨Or.inl ha, by omega, by omega, by omega, by omega⟩
  obtain ⟨⟨f1, d1, d2⟩, f2, d3, d4⟩ := H.2
  exact ⟨⟨f1, (Z _ (g 41 (by omega))).trans d1, d2⟩, f2, (Z _ (g 42 (by omega))).trans d3, d4⟩
theorem mO_kg (H : mO w h n x m) (Z : kg w h h') : mO w h' n x m := by
  obtain ⟨te, a1, a2, a3, a4, a5⟩ := H
  exact ⟨te, (Z _ a2).trans a1, a2, a3, a4, sS_kg a5 Z⟩
theorem sfO_kg (H : sfO w h n x D) (Z : kg w h h') : sfO w h' n x D := by
  obtain ⟨te, a1, a2, a3, a4, a5⟩ := H
  exact ⟨te, (Z _ a2).trans a1, a2, a3, a4, sS_kg a5 Z⟩
theorem ckO_kg (H : ckO w h n x c) (Z : kg w h h') : ckO w h' n x c := by
  obtain ⟨na, va, dn, pa, a1, a2, a3, a4, s1, s2, s3, s4, b⟩ := H
  exact ⟨na, va, dn, pa, (Z _ a2).trans a1, a2, a3, a4, sS_kg s1 Z, sS_kg s2 Z, sS_kg s3 Z, sS_kg s4 Z, b⟩
theorem frO_kg (H : frO w h n fx F X d r) (Z : kg w h h') : frO w h' n fx F X d r := by
  obtain ⟨ad, a1, a2, a3, a4, a5⟩ := H
  exact ⟨ad, (Z _ a2).trans a1, a2, a3, a4, adO_kg a5 Z⟩
theorem lvO_kg {la lw : Bool} {lf : Option Nat} {o : Option (Option (pa_A × Bool))} (H : lvO w h n la lf lw o) (Z : kg w h h') : lvO w h' n la lf lw o := by
  match o with
  | none => exact H
  | some none => exact H
  | some (some y) =>
    obtain ⟨a1, a2, k, a3, a4⟩ := H
    exact ⟨a1, a2, k, a3, aO_kg a4 Z⟩
theorem akO_kg {ak : Option Nat} {o : Option (Int × Bool × pa_A)} (H : akO w h n ak o) (Z : kg w h h') : akO w h' n ak o := fun z g => ⟨(H z g).1, by obtain ⟨k, b1, b2⟩ := (H z g).2; exact ⟨k, b1, aO_kg b2 Z⟩⟩
theorem rqO_kg (H : rqO w h n fx R q y) (Z : kg w h h') : rqO w h' n fx R q y := by
  obtain ⟨fo, ad, ak, lf, la, lw, a1, a2, a3, a4, a5, a6, a7, a8, a9⟩ := H
  exact ⟨fo, ad, ak, lf, la, lw, (Z _ a2).trans a1, a2, a3, a4, a5, aO_kg a6 Z, akO_kg a7 Z, lvO_kg a8 Z, a9⟩
theorem cB_kg (W : kw w n) (H : cB w s p ar v h n u dp R) (Z : kg w h h') : cB w s p ar v h' n u dp R := by
  obtain ⟨a1, a2, a3, a4, a5, a6, a7, a8, a9, a10, a11, a12, a13⟩ := H
  refine ⟨cst_kg W a1 Z, sS_kg a2 Z, ⟨a3.1, a3.2.1, fun i hi => ?_⟩, a4, ⟨a5.1, a5.2.1, fun i hi => ?_⟩, a6, a7, ⟨a8.1, a8.2.1, fun i hi => ?_⟩, a9, fun f hf => ⟨(a10 f hf).1, fun x e => ?_⟩, fun r hr hR => ⟨(a11 r hr hR).1, fun q e => ?_⟩, ⟨a12.1, a12.2.1, fun i hi => ?_⟩, a13⟩
  · obtain ⟨x, b1, b2⟩ := a3.2.2 i hi
    exact ⟨x, b1, mO_kg b2 Z⟩
  · obtain ⟨x, b1, b2⟩ := a5.2.2 i hi
    exact ⟨x, b1, sfO_kg b2 Z⟩
  · obtain ⟨x, b1, b2⟩ := a8.2.2 i hi
    exact ⟨x, b1, ckO_kg b2 Z⟩
  · obtain ⟨r, b1, b2⟩ := (a10 f hf).2 x e
    exact ⟨r, b1, frO_kg b2 Z⟩
  · obtain ⟨y, b1, b2⟩ := (a11 r hr hR).2 q e
    exact ⟨y, b1, rqO_kg b2 Z⟩
  · obtain ⟨x, b1, b2⟩ := a12.2.2 i hi
    exact ⟨x, b1, aO_kg b2 Z⟩
/-- cells 64 to 107 change: the class holds what it held -/
theorem cS_kg (S : cS w s p ar v h n t kc u dp) (e : ∀ a, dy a → a < 64 ∨ 108 ≤ a → h' a = h a) : cS w s p ar v h' n t kc u dp := by
  obtain ⟨⟨W, K0, K1, K2⟩, B, S1⟩ := S
  have Z : kg w h h' := fun a g => e a g.1 g.2.2.2.2
  exact ⟨⟨W, kb_kg K0 (e _ W.2.1.1 W.2.1.2.2.2), kb_kg K1 (e _ W.2.2.1.1 W.2.2.1.2.2.2), kb_kg K2 (e _ W.2.2.2.1.1 W.2.2.2.1.2.2.2)⟩, cB_kg W B Z, S1⟩
end XC2
/-! as many cells as there are new numbers -/
set_option maxHeartbeats 4000000 in
theorem xm_st_cn {X : xm_T} {own : String} {ini : Bool} {nL n0 pc : Nat} {ins : Instr} {L : xm_L} {S : List Value} {m : xm_M} {f : xm_F} (h : xm_st X own ini nL n0 ins pc L S m = some f) : f.2.2.2.2.1 + m.2.2.1 = m.2.1 + f.2.2.2.2.2.1 := by
  unfold xm_st at h
  split at h <;> (try simp only [xm_ld, xm_sto, xm_stl, xm_inc, xm_ii, xm_id, xm_c1, xm_il, xm_li, xm_ll, xm_ldv, xm_lsh, xm_lc, xm_sk, xm_b1, xm_b2, xm_ba, xm_bn, xm_br, xm_lsw, xm_tsw, xm_gf, xm_pf, xm_pus, xm_al, xm_aq, xm_lal, xm_las, xm_ins, xm_cas, xm_csa, xm_cln, xm_as, xm_asq, xm_alen, xm_new, xm_nwa, xm_nwq, xm_acp] at h) <;> (repeat' (split at h)) <;>
    first
    | (cases h; done)
    | (cases h; exact rfl)
    | (cases h; exact Nat.succ_add _ _)
theorem xm_run_cn {P : xm_P} {n0 : Nat} : ∀ (k d y : Nat) (f : xm_F) (r : xm_R), xm_run P n0 k d y f = some r → r.2.2.1 + f.2.2.2.2.2.1 = f.2.2.2.2.1 + r.2.2.2.1 := by
  intro k
  induction k with
  | zero => intro d y f r h; cases h
  | succ k ih =>
    intro d y f r h
    unfold xm_run at h
    split at h
    · cases h
    · rename_i Y hY
      split at h
      · cases h
      · rename_i ins ln hi
        split at h
        · cases h
          exact rfl
        · split at h
          · rename_i r' hr
            cases h
            unfold xm_thr at hr
            split at hr
            · split at hr
              · split at hr
                · split at hr
                  · cases hr
                    exact Nat.succ_add _ _
                  · cases hr
                · cases hr
              · cases hr
            · cases hr
          · split at h
            · split at h
              · split at h
                · split at h
                  · rename_i hrun
                    have h0 := ih _ _ _ _ hrun
                    have h1 := ih _ _ _ _ h
                    unfold xm_add at h1
                    dsimp only at h0 h1
                    omega
                  · rename_i hrun
                    have h0 := ih _ _ _ _ hrun
                    dsimp only at h0
                    split at h
                    · have h1 := ih _ _ _ _ h
                      unfold xm_add at h1
                      dsimp only at h1
                      omega
                    · cases h
                      unfold xm_add
                      dsimp only
                      omega
                    · cases h
                  · cases h
                · cases h
              · cases h
            · split at h
              · rename_i f' hf
                have h1 := ih _ _ _ _ h
                have h3 := xm_st_cn hf
                omega
              · cases h
theorem xe_cn {fm : Value} {y pc n c u : Nat} {L : xm_L} {S : List Value} {h : xm_H} {Q : xe_Q} (H : xe fm y (pc, L, S, (h, n, c, u)) Q) : xe fm y (pc, L, S, (h, n, c, u)) (fun r m => Q r m ∧ m.2.1 + c = n + m.2.2.1) := by
  obtain ⟨k, r, m, h1, h2⟩ := H
  exact ⟨k, r, m, h1, h2, xm_run_cn _ _ _ _ _ h1⟩
