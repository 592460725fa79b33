/-! who may go where; what is asked of frames and requests; storage -/
theorem tp_cm {u : mu_T} {F : Nat} {A : pa_A} {X : mf_T} (e : mu_fr u F = some X) (i : Int) : mu_tp (mu_sfr u (cm_fr (mu_fr u) F A)) i = mu_tp u i := by
  unfold mu_tp
  refine xd_first_c 16 0 (fun j h0 h1 => ?_)
  show mf_tp i (cm_fr (mu_fr u) F A j.toNat) = mf_tp i (mu_fr u j.toNat)
  unfold cm_fr
  by_cases g : j.toNat = ((F : Int)).toNat
  · rw [g, mu_upS, Int.toNat_natCast, e]
    rfl
  · rw [mu_upN g]
/-- the top of a tab -/
theorem tp_is {u : mu_T} {dp : Nat → Nat} (I : mI u dp) {i : Nat} (hi : i < 4) (ht : mu_tb u i = true) : ∃ x, 0 ≤ mu_tp u i ∧ mu_tp u i < 16 ∧ mu_fr u (mu_tp u i).toNat = some x ∧ x.1 = (i : Int) ∧ x.2.1 < 0 := by
  obtain ⟨f, x, hf, e, e1, e2⟩ := I.2.2.2.2.1 i hi ht
  have r := xd_first_r (p := fun f => mf_tp i (mu_fr u f.toNat)) 16 0
  have r2 : xd_first (fun f => mf_tp i (mu_fr u f.toNat)) 16 0 = mu_tp u i := rfl
  rw [r2] at r
  rcases r with r | ⟨r3, r4, r5⟩
  · exfalso
    have no : ∀ (N : Nat) (k : Int), xd_first (fun f => mf_tp i (mu_fr u f.toNat)) N k = -1 → 0 ≤ k → ∀ j : Int, k ≤ j → j < k + N → mf_tp i (mu_fr u j.toNat) = false := by
      intro N
      induction N with
      | zero => intro k _ _ j h1 h2; omega
      | succ N ih =>
        intro k hk h0 j h1 h2
        unfold xd_first at hk
        split at hk
        · omega
        · rename_i g
          by_cases e : j = k
          · rw [e]; simpa using g
          · exact ih (k + 1) hk (by omega) j (by omega) (by omega)
    have := no 16 0 (r2.trans r) (by omega) f (by omega) (by omega)
    rw [Int.toNat_natCast, e] at this
    have t : mf_tp i (some x) = true := decide_eq_true ⟨e1, e2⟩
    rw [t] at this
    cases this
  · cases e5 : mu_fr u (mu_tp u i).toNat with
    | none => rw [e5] at r5; cases r5
    | some y =>
      rw [e5] at r5
      have := of_decide_eq_true r5
      exact ⟨y, r3, by omega, rfl, this.1, this.2⟩
theorem an_pj {fr : Nat → Option mf_T} {hd : List Int} {m : Nat} {P : Int} {x : mf_T} (h0 : 0 ≤ P) (e : fr P.toNat = some x) : mu_an fr hd (m + 1) P = (ad_is x.2.2 hd || mu_an fr hd m x.2.1) := by
  rw [mu_an, if_neg (by omega), e]
section XBO
variable {fm : Value} {w w' w1 w2 : kW} {s s' s1 s2 : Nat → Int} {p p' p1 p2 : Nat → Nat} {ar ar' : Nat → Nat → Option Nat} {v : Nat → Int} {h h' h1 h2 : xm_H} {n n' n1 n2 r k k' u' u1 u2 x y a b R : Nat} {l D : List Int} {L : List (List Int)} {A B : pa_A} {q : mq_T} {c : ck_T} {C : List ck_T} {t t' t1 t2 : Nat → List Int} {kc kc' kc1 kc2 : Nat → Nat} {u : mu_T} {dp : Nat → Nat} {fx : Nat → Option Nat} {m : ms_T} {M : List ms_T} {O : List pa_A} {fr : Nat → Option mf_T} {rq : Nat → Option mq_T} {F fo G go d : Nat} {X Y : mf_T}
theorem frO_ad (H : frO w h n fx F X d r) : ∃ ad, h r = .inr (9, [xi (F : Int), xi X.1, va_rf (if X.2.1 < 0 then none else fx X.2.1.toNat), xi (d : Int), va_rf ad]) ∧ gd w r ∧ 108 ≤ r ∧ r < n ∧ adO w h n ad X.2.2 := H
theorem k177_l (HF : frL w ar (ar 3) h n (mu_fr u) dp) (T : mi_tr (mu_fr u) dp) (HA : aO w h n a A) {fa : Nat} {g0 g1 g2 g3 : Value} (hfa : h fa = .inr (9, [g0, g1, g2, g3, .ref a])) (dfa : dy fa) (nfa : fa < n) : ∀ (m : Nat) (P : Int), (P < 0 ∨ (0 ≤ P ∧ P < 16 ∧ ∃ y, mu_fr u P.toNat = some y ∧ dp P.toNat ≤ m)) → xe fm 177 (30, [(3, va_rf (if P < 0 then none else ar 3 P.toNat)), (0, .ref 44), (1, .ref fa)], [], (ko w s p ar v h, n, 0, 0)) (fun q M => q = .inl (some (xi (xb (mu_an (mu_fr u) (pa_hd A) m P)))) ∧ M = (ko w s p ar v h, n, 0, 0)) := by
  have X0 := (ko_d (w := w) (s := s) (p := p) (ar := ar) (v := v) dfa).trans hfa
  obtain ⟨ho, pp, qu, te, d1, d2, d3, d4, d5, d6, d7, d8, d9⟩ := id HA
  have XA := (ko_d (w := w) (s := s) (p := p) (ar := ar) (v := v) d2.1).trans d1
  intro m
  induction m with
  | zero =>
    intro P hP
    have h0 : P < 0 := by
      rcases hP with g | ⟨g1, g2, y, g3, g4⟩
      · exact g
      · have := (T P.toNat (by omega) y g3).1
        omega
    rw [if_pos h0]
    refine xe_s (f := (31, _, _, _)) xt_g177 rfl rfl rfl rfl rfl ?_
    refine xe_s (f := (58, _, _, _)) xt_g177 rfl rfl rfl rfl rfl ?_
    refine xe_s (f := (59, _, xi 0 :: _, _)) xt_g177 rfl rfl rfl rfl rfl ?_
    refine xe_iret xt_g177 rfl rfl (xi_bool (by first | omega | exact xb_or _)).1 ?_
    exact ⟨rfl, rfl⟩
  | succ m ih =>
    intro P hP
    by_cases h0 : P < 0
    · rw [if_pos h0]
      have e0 : mu_an (mu_fr u) (pa_hd A) (m + 1) P = false := by rw [mu_an, if_pos h0]
      rw [e0]
      refine xe_s (f := (31, _, _, _)) xt_g177 rfl rfl rfl rfl rfl ?_
      refine xe_s (f := (58, _, _, _)) xt_g177 rfl rfl rfl rfl rfl ?_
      refine xe_s (f := (59, _, xi 0 :: _, _)) xt_g177 rfl rfl rfl rfl rfl ?_
      refine xe_iret xt_g177 rfl rfl (xi_bool (by first | omega | exact xb_or _)).1 ?_
      exact ⟨rfl, rfl⟩
    · obtain ⟨g1', g2', y, g3', g4'⟩ : 0 ≤ P ∧ P < 16 ∧ ∃ y, mu_fr u P.toNat = some y ∧ dp P.toNat ≤ m + 1 := by
        rcases hP with g | g
        · exact absurd g h0
        · exact g
      obtain ⟨rp, e3, HP⟩ := (HF P.toNat (by omega)).2 y g3'
      obtain ⟨ad, b1, b2, b3, b4, b5⟩ := HP
      have X1 := (ko_d (w := w) (s := s) (p := p) (ar := ar) (v := v) b2.1).trans b1
      obtain ⟨t1, t2, t3, t4⟩ := T P.toNat (by omega) y g3'
      have ihs := ih y.2.1 (by
        by_cases q : y.2.1 < 0
        · exact Or.inl q
        · obtain ⟨c1, c2, y', c3, _⟩ := t4 (by omega)
          exact Or.inr ⟨by omega, c1, y', c3, by omega⟩)
      rw [if_neg h0, e3, an_pj g1' g3']
      cases e : y.2.2 with
      | none =>
        rw [e] at b5
        have b5 : ad = none := b5
        subst b5
        rw [show ad_is none (pa_hd A) = false from rfl, Bool.false_or]
        refine xe_s (f := (31, _, _, _)) xt_g177 rfl rfl rfl rfl rfl ?_
        refine xe_s (f := (34, _, _, _)) xt_g177 rfl rfl rfl rfl rfl ?_
        refine xe_s (f := (35, _, _, _)) xt_g177 rfl rfl rfl rfl rfl ?_
        refine xe_gf xt_g177 rfl (q := 38) rfl (xf_0_166 fm) (X0) (by omega) rfl rfl ?_
        refine xe_s (f := (39, _, _, _)) xt_g177 rfl rfl rfl rfl rfl ?_
        refine xe_gf xt_g177 rfl (q := 42) rfl (xf_0_166 fm) (X1) (by omega) rfl xm_kn_va ?_
        refine xe_cR xt_g177 rfl rfl rfl (q := 45) rfl (kc_V xk_0_184 rfl (XA) (by omega) rfl rfl) xt_g178 (by decide) ⟨Nat.le_of_ble_eq_true rfl, Nat.le_of_ble_eq_true rfl, Nat.le_of_ble_eq_true rfl⟩ (k178n) ?_
        refine xe_if_eq xt_g177 rfl (t := 50) rfl (q := 48) rfl (by first | omega | exact xb_r _) (fun b45 => ?_) (fun b45 => ?_)
        · try simp only [xb_0, xb_1, ne_eq, Decidable.not_not, Bool.not_eq_false, Bool.not_eq_true, decide_eq_true_eq, decide_eq_false_iff_not] at b45
          refine xe_s (f := (51, _, _, _)) xt_g177 rfl rfl rfl rfl rfl ?_
          refine xe_gf xt_g177 rfl (q := 54) rfl (xf_0_344 fm) (X1) (by omega) rfl xm_kn_va ?_
          generalize ho : (if y.2.1 < 0 then none else ar 3 y.2.1.toNat) = o at ihs ⊢
          cases o with
          | none =>
            refine xe_s (f := (55, [(3, _), (0, _), (1, _)], _, _)) xt_g177 rfl rfl rfl rfl rfl ?_
            refine xe_s (f := (30, _, _, _)) xt_g177 rfl rfl rfl rfl rfl ?_
            exact xe_loc (by intro q hq; simp only [List.mem_cons, List.not_mem_nil, or_false] at hq; rcases hq with rfl | rfl | rfl <;> rfl) (ihs)
          | some j =>
            refine xe_s (f := (55, [(3, _), (0, _), (1, _)], _, _)) xt_g177 rfl rfl rfl rfl rfl ?_
            refine xe_s (f := (30, _, _, _)) xt_g177 rfl rfl rfl rfl rfl ?_
            exact xe_loc (by intro q hq; simp only [List.mem_cons, List.not_mem_nil, or_false] at hq; rcases hq with rfl | rfl | rfl <;> rfl) (ihs)
        · exact absurd b45 (by omega)
      | some B =>
        rw [e] at b5
        obtain ⟨xb', eb, HB⟩ := b5
        subst eb
        rw [show ad_is (some B) (pa_hd A) = decide (pa_hd B = pa_hd A) from rfl]
        refine xe_s (f := (31, _, _, _)) xt_g177 rfl rfl rfl rfl rfl ?_
        refine xe_s (f := (34, _, _, _)) xt_g177 rfl rfl rfl rfl rfl ?_
        refine xe_s (f := (35, _, _, _)) xt_g177 rfl rfl rfl rfl rfl ?_
        refine xe_gf xt_g177 rfl (q := 38) rfl (xf_0_166 fm) (X0) (by omega) rfl rfl ?_
        refine xe_s (f := (39, _, _, _)) xt_g177 rfl rfl rfl rfl rfl ?_
        refine xe_gf xt_g177 rfl (q := 42) rfl (xf_0_166 fm) (X1) (by omega) rfl xm_kn_va ?_
        refine xe_cR xt_g177 rfl rfl rfl (q := 45) rfl (kc_V xk_0_184 rfl (XA) (by omega) rfl rfl) xt_g178 (by decide) ⟨Nat.le_of_ble_eq_true rfl, Nat.le_of_ble_eq_true rfl, Nat.le_of_ble_eq_true rfl⟩ (k178 HA HB) ?_
        refine xe_if_eq xt_g177 rfl (t := 50) rfl (q := 48) rfl (by first | omega | exact xb_r _) (fun b45 => ?_) (fun b45 => ?_)
        · try simp only [xb_0, xb_1, ne_eq, Decidable.not_not, Bool.not_eq_false, Bool.not_eq_true, decide_eq_true_eq, decide_eq_false_iff_not] at b45
          rw [decide_eq_false (fun g => b45 g.symm), Bool.false_or]
          refine xe_s (f := (51, _, _, _)) xt_g177 rfl rfl rfl rfl rfl ?_
          refine xe_gf xt_g177 rfl (q := 54) rfl (xf_0_344 fm) (X1) (by omega) rfl xm_kn_va ?_
          generalize ho : (if y.2.1 < 0 then none else ar 3 y.2.1.toNat) = o at ihs ⊢
          cases o with
          | none =>
            refine xe_s (f := (55, [(3, _), (0, _), (1, _)], _, _)) xt_g177 rfl rfl rfl rfl rfl ?_
            refine xe_s (f := (30, _, _, _)) xt_g177 rfl rfl rfl rfl rfl ?_
            exact xe_loc (by intro q hq; simp only [List.mem_cons, List.not_mem_nil, or_false] at hq; rcases hq with rfl | rfl | rfl <;> rfl) (ihs)
          | some j =>
            refine xe_s (f := (55, [(3, _), (0, _), (1, _)], _, _)) xt_g177 rfl rfl rfl rfl rfl ?_
            refine xe_s (f := (30, _, _, _)) xt_g177 rfl rfl rfl rfl rfl ?_
            exact xe_loc (by intro q hq; simp only [List.mem_cons, List.not_mem_nil, or_false] at hq; rcases hq with rfl | rfl | rfl <;> rfl) (ihs)
        · try simp only [xb_0, xb_1, ne_eq, Decidable.not_not, Bool.not_eq_false, Bool.not_eq_true, decide_eq_true_eq, decide_eq_false_iff_not] at b45
          rw [decide_eq_true b45.symm, Bool.true_or]
          refine xe_s (f := (49, _, xi 1 :: _, _)) xt_g177 rfl rfl rfl rfl rfl ?_
          refine xe_iret xt_g177 rfl rfl (xi_bool (by first | omega | exact xb_or _)).1 ?_
          exact ⟨rfl, rfl⟩
/-- mayNavigate -/
theorem k177 (hn : 64 ≤ n) (H : cB w s p ar v h n u dp R) (I : mI u dp) (hF : F < 16) (hG : G < 16) (eF : mu_fr u F = some X) (eG : mu_fr u G = some Y) (hfo : ar 3 F = some fo) (hgo : ar 3 G = some go) (HO : frO w h n (ar 3) F X (dp F) fo) (HG : frO w h n (ar 3) G Y (dp G) go) : xR fm 177 (ko w s p ar v h) n [.ref 44, .ref fo, .ref go] (some (xi (xb (mu_may u F G)))) := by
  obtain ⟨a1, a2, a3, a4, a5, a6, a7, a8, a9, a10, a11, a12, a13⟩ := H
  have HO' := HO
  have HG' := HG
  obtain ⟨ad, b1, b2, b3, b4, b5⟩ := HO
  have X1 := (ko_d (w := w) (s := s) (p := p) (ar := ar) (v := v) b2.1).trans b1
  have eaF : mu_ad u F = X.2.2 := by unfold mu_ad; rw [Int.toNat_natCast, eF]
  unfold xR mu_may
  rw [eaF]
  cases e : X.2.2 with
  | none =>
    rw [e] at b5
    have b5 : ad = none := b5
    subst b5
    refine xe_s (f := (1, _, _, _)) xt_g177 rfl rfl rfl rfl rfl ?_
    refine xe_gf xt_g177 rfl (q := 4) rfl (xf_0_166 fm) (X1) (by omega) rfl xm_kn_va ?_
    refine xe_s (f := (7, _, _, _)) xt_g177 rfl rfl rfl rfl rfl ?_
    refine xe_s (f := (8, _, xi 0 :: _, _)) xt_g177 rfl rfl rfl rfl rfl ?_
    refine xe_iret xt_g177 rfl rfl (xi_bool (by first | omega | exact xb_or _)).1 ?_
    exact ⟨rfl, rfl⟩
  | some A =>
    rw [e] at b5
    obtain ⟨xa, ea, HA⟩ := b5
    subst ea
    dsimp only
    have ptG : mf_pt (mu_fr u ((G : Int)).toNat) = (Y.1, Y.2.1) := by rw [Int.toNat_natCast, eG]; rfl
    have ptF : mf_pt (mu_fr u ((F : Int)).toNat) = (X.1, X.2.1) := by rw [Int.toNat_natCast, eF]; rfl
    rw [ptG, ptF]
    dsimp only
    obtain ⟨i1, i2, i3, i4⟩ := I.2.2.2.1 F hF X eF
    obtain ⟨Z, z1, z2, z3, z4, z5⟩ := tp_is I (i := X.1.toNat) (by omega) i4
    have etop : ar 2 X.1.toNat = ar 3 (mu_tp u ((X.1.toNat : Nat) : Int)).toNat := by rw [a9 X.1.toNat (by omega), if_pos i4]
    obtain ⟨rt, ert, HT⟩ := (a10 (mu_tp u ((X.1.toNat : Nat) : Int)).toNat (by omega)).2 Z z3
    have T2 := (I.1 G hG Y eG).2.1
    have lp := k177_l (fm := fm) (s := s) (p := p) (v := v) a10 I.1 HA b1 b2.1 b4 6 (G : Int) (Or.inr ⟨by omega, by omega, Y, by rw [Int.toNat_natCast]; exact eG, by rw [Int.toNat_natCast]; omega⟩)
    rw [if_neg (show ¬ (G : Int) < 0 by omega), Int.toNat_natCast, hgo] at lp
    refine xe_s (f := (1, _, _, _)) xt_g177 rfl rfl rfl rfl rfl ?_
    refine xe_gf xt_g177 rfl (q := 4) rfl (xf_0_166 fm) (X1) (by omega) rfl xm_kn_va ?_
    refine xe_s (f := (9, _, _, _)) xt_g177 rfl rfl rfl rfl rfl ?_
    refine xe_s (f := (10, _, _, _)) xt_g177 rfl rfl rfl rfl rfl ?_
    refine xe_s (f := (11, _, _, _)) xt_g177 rfl rfl rfl rfl rfl ?_
    refine xe_ac_eq xt_g177 rfl (t := 26) rfl (q := 14) rfl rfl rfl (fun b11 => ?_) (fun b11 => ?_)
    · try simp only [xb_0, xb_1, ne_eq, Decidable.not_not, Bool.not_eq_false, Bool.not_eq_true, decide_eq_true_eq, decide_eq_false_iff_not] at b11
      have eq : F = G := by
        injection b11 with b11
        subst b11
        exact fr_inj hF hG HO' HG'
      rw [decide_eq_true (show (F : Int) = (G : Int) by rw [eq]), Bool.true_or, Bool.true_or]
      refine xe_s (f := (27, _, xi 1 :: _, _)) xt_g177 rfl rfl rfl rfl rfl ?_
      refine xe_iret xt_g177 rfl rfl (xi_bool (by first | omega | exact xb_or _)).1 ?_
      exact ⟨rfl, rfl⟩
    · try simp only [xb_0, xb_1, ne_eq, Decidable.not_not, Bool.not_eq_false, Bool.not_eq_true, decide_eq_true_eq, decide_eq_false_iff_not] at b11
      have ne : ¬ (F : Int) = (G : Int) := by
        intro g
        have g : F = G := by omega
        subst g
        rw [hfo] at hgo
        exact b11 hgo.symm
      rw [decide_eq_false ne, Bool.false_or]
      refine xe_s (f := (15, _, _, _)) xt_g177 rfl rfl rfl rfl rfl ?_
      refine xe_s (f := (16, _, _, _)) xt_g177 rfl rfl rfl rfl rfl ?_
      refine xe_s (f := (17, _, _, _)) xt_g177 rfl rfl rfl rfl rfl ?_
      refine xe_gf xt_g177 rfl (q := 20) rfl (xf_0_177 fm) (X1) (by omega) rfl rfl ?_
      refine xe_cR xt_g177 rfl rfl rfl (q := 23) rfl (kc_V xk_0_160 rfl (ko_44) (by omega) rfl rfl) xt_g146 (by decide) ⟨Nat.le_of_ble_eq_true rfl, Nat.le_of_ble_eq_true rfl, Nat.le_of_ble_eq_true rfl⟩ (k146 hn (by omega)) ?_
      rw [if_pos ⟨i1, i2⟩, etop, ert, va_some]
      refine xe_ac_ne xt_g177 rfl (t := 28) rfl (q := 26) rfl rfl rfl (fun b23 => ?_) (fun b23 => ?_)
      · try simp only [xb_0, xb_1, ne_eq, Decidable.not_not, Bool.not_eq_false, Bool.not_eq_true, decide_eq_true_eq, decide_eq_false_iff_not] at b23
        have ne2 : ¬ (Y.2.1 < 0 ∧ Y.1 = X.1) := by
          rintro ⟨g1, g2⟩
          have e9 := I.2.2.2.2.2.1 (mu_tp u ((X.1.toNat : Nat) : Int)).toNat G Z Y (by omega) hG z3 eG z5 g1 (by omega)
          rw [e9, hgo] at ert
          exact b23 ert
        rw [decide_eq_false ne2, Bool.false_or]
        refine xe_s (f := (29, _, _, _)) xt_g177 rfl rfl rfl rfl rfl ?_
        refine xe_s (f := (30, [(3, _), (0, _), (1, _), (2, _)], _, _)) xt_g177 rfl rfl rfl rfl rfl ?_
        exact xe_loc (by intro q hq; simp only [List.mem_cons, List.not_mem_nil, or_false] at hq; rcases hq with rfl | rfl | rfl <;> rfl) (lp)
      · try simp only [xb_0, xb_1, ne_eq, Decidable.not_not, Bool.not_eq_false, Bool.not_eq_true, decide_eq_true_eq, decide_eq_false_iff_not] at b23
        have eq : (mu_tp u ((X.1.toNat : Nat) : Int)).toNat = G := by
          injection b23 with b23
          subst b23
          exact fr_inj (by omega) hG HT HG'
        have eZ : Z = Y := by rw [eq, eG] at z3; injection z3 with z3; exact z3.symm
        subst eZ
        rw [decide_eq_true ⟨z5, by omega⟩, Bool.true_or]
        refine xe_s (f := (27, _, xi 1 :: _, _)) xt_g177 rfl rfl rfl rfl rfl ?_
        refine xe_iret xt_g177 rfl rfl (xi_bool (by first | omega | exact xb_or _)).1 ?_
        exact ⟨rfl, rfl⟩
/-- isMeant -/
theorem k242 (hfm : fm = .null ∨ ∃ j, fm = .ref j) (K : KW w h n t kc) (C : cst w h n) (H : sS (gd w) h n r l) (HA : aO w h n a A) (HB : aO w h n b B) (hl : l.length ≤ 200) (ht : (t 2).length < 8000) : xI fm 242 (ko w s p ar v h) n [.ref 44, .ref r, .ref a, .ref b] (fun z h' n' u' => z = xb (if l = [42] then true else if l = [47] then decide (pa_hd A = pa_hd B) else match pa_res (lt l) l.length none with | none => false | some c => decide (pa_hd c = pa_hd B)) ∧ ∃ w' s' p' h1 t' kc', h' = ko w' s' p' ar v h1 ∧ RR [8, 9, 10] [4, 5, 6, 7] 4600 840 w s p h n t kc w' s' p' h1 n' t' kc' u' ∧ (t' 2).length < 8000) := by
  have W0 := K.1.1
  obtain ⟨fs, F1, q1, ha, l1⟩ := sS_at H
  obtain ⟨ho, pp, qu, te, d1, d2, d3, d4, d5, d6, d7, d8, d9⟩ := id HB
  have XB := (ko_d (w := w) (s := s) (p := p) (ar := ar) (v := v) d2.1).trans d1
  have same : ∃ w' s' p' h1 t' kc', ko w s p ar v h = ko w' s' p' ar v h1 ∧ RR [8, 9, 10] [4, 5, 6, 7] 4600 840 w s p h n t kc w' s' p' h1 n t' kc' 0 ∧ (t' 2).length < 8000 := ⟨w, s, p, h, t, kc, rfl, RR_ke K ke_refl (fun _ _ => rfl) (fun _ _ => rfl) (by omega) (by omega), ht⟩
  unfold xI
  refine xe_s (f := (1, _, _, _)) xt_g242 rfl rfl rfl rfl rfl ?_
  refine xe_s (f := (3, _, .ref 39 :: _, _)) xt_g242 rfl rfl rfl rfl rfl ?_
  refine xe_cR xt_g242 rfl rfl rfl (q := 6) rfl (kc_V xk_0_234 rfl (F1 _ _ _ _ _) (by omega) rfl rfl) xt_g92 (by decide) ⟨Nat.le_of_ble_eq_true rfl, Nat.le_of_ble_eq_true rfl, Nat.le_of_ble_eq_true rfl⟩ (s92 (sS_ko H) (sS_ko (C.1 (39, [42]) (by decide)))) ?_
  refine xe_if_eq xt_g242 rfl (t := 11) rfl (q := 9) rfl (by first | omega | exact xb_r _) (fun b6 => ?_) (fun b6 => ?_)
  · try simp only [xb_0, xb_1, ne_eq, Decidable.not_not, Bool.not_eq_false, Bool.not_eq_true, decide_eq_true_eq, decide_eq_false_iff_not] at b6
    rw [if_neg b6]
    refine xe_s (f := (12, _, _, _)) xt_g242 rfl rfl rfl rfl rfl ?_
    refine xe_s (f := (15, _, .ref 11 :: _, _)) xt_g242 rfl rfl rfl rfl rfl ?_
    refine xe_cR xt_g242 rfl rfl rfl (q := 18) rfl (kc_V xk_0_234 rfl (F1 _ _ _ _ _) (by omega) rfl rfl) xt_g92 (by decide) ⟨Nat.le_of_ble_eq_true rfl, Nat.le_of_ble_eq_true rfl, Nat.le_of_ble_eq_true rfl⟩ (s92 (sS_ko H) (sS_ko (C.1 (11, [47]) (by decide)))) ?_
    refine xe_if_eq xt_g242 rfl (t := 25) rfl (q := 21) rfl (by first | omega | exact xb_r _) (fun b18 => ?_) (fun b18 => ?_)
    · try simp only [xb_0, xb_1, ne_eq, Decidable.not_not, Bool.not_eq_false, Bool.not_eq_true, decide_eq_true_eq, decide_eq_false_iff_not] at b18
      rw [if_neg b18]
      refine xe_s (f := (26, _, _, _)) xt_g242 rfl rfl rfl rfl rfl ?_
      refine xe_gf xt_g242 rfl (q := 29) rfl (xf_0_22 fm) (ko_44) (by omega) rfl rfl ?_
      refine xe_s (f := (30, _, _, _)) xt_g242 rfl rfl rfl rfl rfl ?_
      refine xe_s (f := (31, _, _, _)) xt_g242 rfl rfl rfl rfl rfl ?_
      refine xe_cO xt_g242 rfl rfl rfl (q := 34) rfl (kc_V xk_0_128 rfl (ko_49) (by omega) rfl rfl) xt_g100 (by decide) ⟨Nat.le_of_ble_eq_true rfl, Nat.le_of_ble_eq_true rfl, Nat.le_of_ble_eq_true rfl⟩ (k100 (ob := none) (B := none) hfm K C H rfl hl ht) (fun o1 h1' n1 c1 u1 hp => ?_)
      obtain ⟨w1, s1, p1, h2, t1, kc1, rfl, R1, t1l, HO⟩ := hp
      have N1 := R1.2.1.1
      have HB1 := aO_kp HB R1.2.1
      obtain ⟨ho', pp', qu', te', e1, e2, e3, e4, _⟩ := id HB1
      have XB1 := (ko_d (w := w1) (s := s1) (p := p1) (ar := ar) (v := v) e2.1).trans e1
      cases er : pa_res (lt l) l.length none with
      | none =>
        rw [er] at HO
        have HO : o1 = none := HO
        subst HO
        refine xe_s (f := (36, [(4, _), (0, _), (1, _), (2, _), (3, _)], _, _)) xt_g242 rfl rfl rfl rfl rfl ?_
        refine xe_s (f := (37, _, _, _)) xt_g242 rfl rfl rfl rfl rfl ?_
        refine xe_s (f := (39, _, _, _)) xt_g242 rfl rfl rfl rfl rfl ?_
        refine xe_cR xt_g242 rfl rfl rfl (q := 42) rfl (kc_V xk_0_184 rfl (XB1) (by omega) rfl rfl) xt_g178 (by decide) ⟨Nat.le_of_ble_eq_true rfl, Nat.le_of_ble_eq_true rfl, Nat.le_of_ble_eq_true rfl⟩ (k178n) ?_
        refine xe_iret xt_g242 rfl rfl (xi_bool (by first | omega | exact xb_or _)).1 ?_
        try dsimp only
        exact ⟨0, rfl, rfl, w1, s1, p1, h2, t1, kc1, rfl, RR_mono R1 rfl rfl (by omega) (by omega) (by omega), t1l⟩
      | some D =>
        rw [er] at HO
        obtain ⟨xd', ed, HD⟩ := HO
        subst ed
        refine xe_s (f := (36, [(4, _), (0, _), (1, _), (2, _), (3, _)], _, _)) xt_g242 rfl rfl rfl rfl rfl ?_
        refine xe_s (f := (37, _, _, _)) xt_g242 rfl rfl rfl rfl rfl ?_
        refine xe_s (f := (39, _, _, _)) xt_g242 rfl rfl rfl rfl rfl ?_
        refine xe_cR xt_g242 rfl rfl rfl (q := 42) rfl (kc_V xk_0_184 rfl (XB1) (by omega) rfl rfl) xt_g178 (by decide) ⟨Nat.le_of_ble_eq_true rfl, Nat.le_of_ble_eq_true rfl, Nat.le_of_ble_eq_true rfl⟩ (k178 HB1 HD) ?_
        refine xe_iret xt_g242 rfl rfl (xi_bool (by first | omega | exact xb_or _)).1 ?_
        try dsimp only
        refine ⟨_, rfl, ?_, w1, s1, p1, h2, t1, kc1, rfl, RR_mono R1 rfl rfl (by omega) (by omega) (by omega), t1l⟩
        rw [decide_eq_decide.mpr (show pa_hd B = pa_hd D ↔ pa_hd D = pa_hd B from ⟨Eq.symm, Eq.symm⟩)]
    · try simp only [xb_0, xb_1, ne_eq, Decidable.not_not, Bool.not_eq_false, Bool.not_eq_true, decide_eq_true_eq, decide_eq_false_iff_not] at b18
      rw [if_pos b18]
      refine xe_s (f := (22, _, _, _)) xt_g242 rfl rfl rfl rfl rfl ?_
      refine xe_s (f := (34, _, _, _)) xt_g242 rfl rfl rfl rfl rfl ?_
      refine xe_s (f := (36, [(4, _), (0, _), (1, _), (2, _), (3, _)], _, _)) xt_g242 rfl rfl rfl rfl rfl ?_
      refine xe_s (f := (37, _, _, _)) xt_g242 rfl rfl rfl rfl rfl ?_
      refine xe_s (f := (39, _, _, _)) xt_g242 rfl rfl rfl rfl rfl ?_
      refine xe_cR xt_g242 rfl rfl rfl (q := 42) rfl (kc_V xk_0_184 rfl (XB) (by omega) rfl rfl) xt_g178 (by decide) ⟨Nat.le_of_ble_eq_true rfl, Nat.le_of_ble_eq_true rfl, Nat.le_of_ble_eq_true rfl⟩ (k178 HB HA) ?_
      refine xe_iret xt_g242 rfl rfl (xi_bool (by first | omega | exact xb_or _)).1 ?_
      try dsimp only
      refine ⟨_, rfl, ?_, same⟩
      rw [decide_eq_decide.mpr (show pa_hd B = pa_hd A ↔ pa_hd A = pa_hd B from ⟨Eq.symm, Eq.symm⟩)]
  · try simp only [xb_0, xb_1, ne_eq, Decidable.not_not, Bool.not_eq_false, Bool.not_eq_true, decide_eq_true_eq, decide_eq_false_iff_not] at b6
    rw [if_pos b6]
    refine xe_s (f := (10, _, xi 1 :: _, _)) xt_g242 rfl rfl rfl rfl rfl ?_
    refine xe_iret xt_g242 rfl rfl (xi_bool (by first | omega | exact xb_or _)).1 ?_
    try dsimp only
    exact ⟨1, rfl, rfl, same⟩
/-- rowOf -/
theorem k235_l (hn : 64 ≤ n) (HO : orL w s ar h n O) (HA : aO w h n a A) : ∀ (m i : Nat), i + m = O.length → xe fm 235 (2, [(2, xi (i : Int)), (0, .ref 52), (1, .ref a)], [], (ko w s p ar v h, n, 0, 0)) (fun q M => q = .inl (some (xi (if 0 ≤ so_fi (pa_hd A) (O.drop i) i then so_fi (pa_hd A) (O.drop i) i else O.length))) ∧ M = (ko w s p ar v h, n, 0, 0)) := by
  have h8 := HO.2.1
  intro m
  induction m with
  | zero =>
    intro i hi
    have e0 : so_fi (pa_hd A) (O.drop i) i = -1 := by rw [List.drop_eq_nil_of_le (by omega)]; rfl
    rw [e0, if_neg (by omega)]
    refine xe_s (f := (3, _, _, _)) xt_g235 rfl rfl rfl rfl rfl ?_
    refine xe_s (f := (4, _, _, _)) xt_g235 rfl rfl rfl rfl rfl ?_
    refine xe_gf xt_g235 rfl (q := 7) rfl (xf_9_29 fm) (ko_52) (by omega) rfl rfl ?_
    rw [HO.1]
    refine xe_ic_ge xt_g235 rfl (t := 31) rfl (q := 10) rfl (by first | omega | exact xb_r _) (by first | omega | exact xb_r _) (fun b7 => ?_) (fun b7 => ?_)
    · try simp only [xb_0, xb_1, ne_eq, Decidable.not_not, Bool.not_eq_false, Bool.not_eq_true, decide_eq_true_eq, decide_eq_false_iff_not] at b7
      refine xe_s (f := (32, _, _, _)) xt_g235 rfl rfl rfl rfl rfl ?_
      refine xe_gf xt_g235 rfl (q := 35) rfl (xf_9_29 fm) (ko_52) (by omega) rfl rfl ?_
      rw [HO.1]
      refine xe_iret xt_g235 rfl rfl xi_int.1 ?_
      exact ⟨rfl, rfl⟩
    · exact absurd b7 (by omega)
  | succ m ih =>
    intro i hi
    obtain ⟨x, e5, HX⟩ := HO.2.2 i (by omega)
    have ed : O.drop i = O.getD i pa_0 :: O.drop (i + 1) := drop_gd (by omega)
    have HX' := HX
    obtain ⟨ho, pp, qu, te, d1, d2, d3, d4, _⟩ := HX
    have X1 := (ko_d (w := w) (s := s) (p := p) (ar := ar) (v := v) d2.1).trans d1
    rw [ed]
    unfold so_fi
    refine xe_s (f := (3, _, _, _)) xt_g235 rfl rfl rfl rfl rfl ?_
    refine xe_s (f := (4, _, _, _)) xt_g235 rfl rfl rfl rfl rfl ?_
    refine xe_gf xt_g235 rfl (q := 7) rfl (xf_9_29 fm) (ko_52) (by omega) rfl rfl ?_
    rw [HO.1]
    refine xe_ic_ge xt_g235 rfl (t := 31) rfl (q := 10) rfl (by first | omega | exact xb_r _) (by first | omega | exact xb_r _) (fun b7 => ?_) (fun b7 => ?_)
    · exact absurd b7 (by omega)
    · try simp only [xb_0, xb_1, ne_eq, Decidable.not_not, Bool.not_eq_false, Bool.not_eq_true, decide_eq_true_eq, decide_eq_false_iff_not] at b7
      refine xe_s (f := (11, _, _, _)) xt_g235 rfl rfl rfl rfl rfl ?_
      refine xe_gf xt_g235 rfl (q := 14) rfl (xf_9_11 fm) (ko_52) (by omega) rfl rfl ?_
      refine xe_s (f := (15, _, _, _)) xt_g235 rfl rfl rfl rfl rfl ?_
      refine xe_ka_53 xt_g235 rfl (q := 16) rfl (by omega) (by omega) (by omega) ?_
      rw [Int.toNat_natCast, e5, va_some]
      refine xe_s (f := (17, _, _, _)) xt_g235 rfl rfl rfl rfl rfl ?_
      refine xe_cR xt_g235 rfl rfl rfl (q := 20) rfl (kc_V xk_9_33 rfl (X1) (by omega) rfl rfl) xt_g178 (by decide) ⟨Nat.le_of_ble_eq_true rfl, Nat.le_of_ble_eq_true rfl, Nat.le_of_ble_eq_true rfl⟩ (k178 HX' HA) ?_
      refine xe_if_eq xt_g235 rfl (t := 25) rfl (q := 23) rfl (by first | omega | exact xb_r _) (fun b20 => ?_) (fun b20 => ?_)
      · try simp only [xb_0, xb_1, ne_eq, Decidable.not_not, Bool.not_eq_false, Bool.not_eq_true, decide_eq_true_eq, decide_eq_false_iff_not] at b20
        rw [if_neg b20]
        refine xe_iinc xt_g235 rfl (q := 28) rfl rfl (by decide) (L1 := [(2, _), (0, _), (1, _)]) rfl ?_
        refine xe_s (f := (2, _, _, _)) xt_g235 rfl rfl rfl rfl rfl ?_
        have g := ih (i + 1) (by omega)
        rw [show ((i + 1 : Nat) : Int) = (i : Int) + 1 by omega] at g
        exact xe_loc (by intro q hq; simp only [List.mem_cons, List.not_mem_nil, or_false] at hq; rcases hq with rfl | rfl | rfl <;> rfl) (g)
      · try simp only [xb_0, xb_1, ne_eq, Decidable.not_not, Bool.not_eq_false, Bool.not_eq_true, decide_eq_true_eq, decide_eq_false_iff_not] at b20
        rw [if_pos b20, if_pos (by omega)]
        refine xe_s (f := (24, _, _, _)) xt_g235 rfl rfl rfl rfl rfl ?_
        refine xe_iret xt_g235 rfl rfl xi_int.1 ?_
        exact ⟨rfl, rfl⟩
theorem k235 (hn : 64 ≤ n) (HO : orL w s ar h n O) (HA : aO w h n a A) : xR fm 235 (ko w s p ar v h) n [.ref 52, .ref a] (some (xi (if 0 ≤ so_fi (pa_hd A) O 0 then so_fi (pa_hd A) O 0 else O.length))) := by
  unfold xR
  refine xe_s (f := (1, _, xi 0 :: _, _)) xt_g235 rfl rfl rfl rfl rfl ?_
  refine xe_s (f := (2, [(2, _), (0, _), (1, _)], _, _)) xt_g235 rfl rfl rfl rfl rfl ?_
  exact xe_loc (by intro q hq; simp only [List.mem_cons, List.not_mem_nil, or_false] at hq; rcases hq with rfl | rfl | rfl <;> rfl) ((k235_l hn HO HA O.length 0 (by omega)))
theorem k236 {z : Int} (hz : xr z) : xR fm 236 h n [xi z] (some (xi (xb (decide (0 ≤ z ∧ z < 8))))) := by
  unfold xR
  refine xe_s (f := (1, _, _, _)) xt_g236 rfl rfl rfl rfl rfl ?_
  refine xe_if_lt xt_g236 rfl (t := 14) rfl (q := 4) rfl (by first | omega | exact xb_r _) (fun b1 => ?_) (fun b1 => ?_)
  · try simp only [xb_0, xb_1, ne_eq, Decidable.not_not, Bool.not_eq_false, Bool.not_eq_true, decide_eq_true_eq, decide_eq_false_iff_not] at b1
    rw [decide_eq_false (fun g => by omega)]
    refine xe_s (f := (15, _, xi 0 :: _, _)) xt_g236 rfl rfl rfl rfl rfl ?_
    refine xe_iret xt_g236 rfl rfl (xi_bool (by first | omega | exact xb_or _)).1 ?_
    exact ⟨rfl, rfl⟩
  · try simp only [xb_0, xb_1, ne_eq, Decidable.not_not, Bool.not_eq_false, Bool.not_eq_true, decide_eq_true_eq, decide_eq_false_iff_not] at b1
    refine xe_s (f := (5, _, _, _)) xt_g236 rfl rfl rfl rfl rfl ?_
    refine xe_bipush xt_g236 rfl (q := 7) rfl (by decide) (by decide) ?_
    refine xe_ic_ge xt_g236 rfl (t := 14) rfl (q := 10) rfl (by first | omega | exact xb_r _) (by first | omega | exact xb_r _) (fun b7 => ?_) (fun b7 => ?_)
    · try simp only [xb_0, xb_1, ne_eq, Decidable.not_not, Bool.not_eq_false, Bool.not_eq_true, decide_eq_true_eq, decide_eq_false_iff_not] at b7
      rw [decide_eq_false (fun g => by omega)]
      refine xe_s (f := (15, _, xi 0 :: _, _)) xt_g236 rfl rfl rfl rfl rfl ?_
      refine xe_iret xt_g236 rfl rfl (xi_bool (by first | omega | exact xb_or _)).1 ?_
      exact ⟨rfl, rfl⟩
    · try simp only [xb_0, xb_1, ne_eq, Decidable.not_not, Bool.not_eq_false, Bool.not_eq_true, decide_eq_true_eq, decide_eq_false_iff_not] at b7
      rw [decide_eq_true ⟨by omega, by omega⟩]
      refine xe_s (f := (11, _, xi 1 :: _, _)) xt_g236 rfl rfl rfl rfl rfl ?_
      refine xe_s (f := (15, _, _, _)) xt_g236 rfl rfl rfl rfl rfl ?_
      refine xe_iret xt_g236 rfl rfl (xi_bool (by first | omega | exact xb_or _)).1 ?_
      exact ⟨rfl, rfl⟩
/-- Storage.get -/
theorem k239 (hn : 64 ≤ n) (HO : orL w s ar h n O) (HA : aO w h n a A) {z : Int} (hz : xr z) : xR fm 239 (ko w s p ar v h) n [.ref 52, .ref a, xi z] (some (xi (if z < 0 ∨ 7 < z ∨ so_fi (pa_hd A) O 0 < 0 then 0 else v (8 * so_fi (pa_hd A) O 0 + z).toNat))) := by
  have h8 := HO.2.1
  have fr := so_fi_r (hd := pa_hd A) O 0
  have k235' := k235 (fm := fm) (s := s) (p := p) (v := v) hn HO HA
  unfold xR
  by_cases g : so_fi (pa_hd A) O 0 < 0
  · rw [if_neg (by omega)] at k235'
    rw [if_pos (Or.inr (Or.inr g))]
    refine xe_s (f := (1, _, _, _)) xt_g239 rfl rfl rfl rfl rfl ?_
    refine xe_s (f := (2, _, _, _)) xt_g239 rfl rfl rfl rfl rfl ?_
    refine xe_cR xt_g239 rfl rfl rfl (q := 5) rfl (kc_V xk_9_21 rfl (ko_52) (by omega) rfl rfl) xt_g235 (by decide) ⟨Nat.le_of_ble_eq_true rfl, Nat.le_of_ble_eq_true rfl, Nat.le_of_ble_eq_true rfl⟩ (k235') ?_
    refine xe_s (f := (6, [(3, _), (0, _), (1, _), (2, _)], _, _)) xt_g239 rfl rfl rfl rfl rfl ?_
    refine xe_s (f := (7, _, _, _)) xt_g239 rfl rfl rfl rfl rfl ?_
    refine xe_cR xt_g239 rfl rfl rfl (q := 10) rfl (kc_S xk_9_25 (Nat.le_of_ble_eq_true rfl)) xt_g236 (by decide) ⟨Nat.le_of_ble_eq_true rfl, Nat.le_of_ble_eq_true rfl, Nat.le_of_ble_eq_true rfl⟩ (k236 hz) ?_
    refine xe_if_eq xt_g239 rfl (t := 21) rfl (q := 13) rfl (by first | omega | exact xb_r _) (fun b10 => ?_) (fun b10 => ?_)
    · try simp only [xb_0, xb_1, ne_eq, Decidable.not_not, Bool.not_eq_false, Bool.not_eq_true, decide_eq_true_eq, decide_eq_false_iff_not] at b10
      refine xe_s (f := (22, _, xi 0 :: _, _)) xt_g239 rfl rfl rfl rfl rfl ?_
      refine xe_s (f := (36, _, _, _)) xt_g239 rfl rfl rfl rfl rfl ?_
      refine xe_iret xt_g239 rfl rfl xi_int.1 ?_
      exact ⟨rfl, rfl⟩
    · try simp only [xb_0, xb_1, ne_eq, Decidable.not_not, Bool.not_eq_false, Bool.not_eq_true, decide_eq_true_eq, decide_eq_false_iff_not] at b10
      refine xe_s (f := (14, _, _, _)) xt_g239 rfl rfl rfl rfl rfl ?_
      refine xe_s (f := (15, _, _, _)) xt_g239 rfl rfl rfl rfl rfl ?_
      refine xe_gf xt_g239 rfl (q := 18) rfl (xf_9_29 fm) (ko_52) (by omega) rfl rfl ?_
      rw [HO.1]
      refine xe_ic_lt xt_g239 rfl (t := 25) rfl (q := 21) rfl (by first | omega | exact xb_r _) (by first | omega | exact xb_r _) (fun b18 => ?_) (fun b18 => ?_)
      · exact absurd b18 (by omega)
      · try simp only [xb_0, xb_1, ne_eq, Decidable.not_not, Bool.not_eq_false, Bool.not_eq_true, decide_eq_true_eq, decide_eq_false_iff_not] at b18
        refine xe_s (f := (22, _, xi 0 :: _, _)) xt_g239 rfl rfl rfl rfl rfl ?_
        refine xe_s (f := (36, _, _, _)) xt_g239 rfl rfl rfl rfl rfl ?_
        refine xe_iret xt_g239 rfl rfl xi_int.1 ?_
        exact ⟨rfl, rfl⟩
  · rw [if_pos (by omega)] at k235'
    refine xe_s (f := (1, _, _, _)) xt_g239 rfl rfl rfl rfl rfl ?_
    refine xe_s (f := (2, _, _, _)) xt_g239 rfl rfl rfl rfl rfl ?_
    refine xe_cR xt_g239 rfl rfl rfl (q := 5) rfl (kc_V xk_9_21 rfl (ko_52) (by omega) rfl rfl) xt_g235 (by decide) ⟨Nat.le_of_ble_eq_true rfl, Nat.le_of_ble_eq_true rfl, Nat.le_of_ble_eq_true rfl⟩ (k235') ?_
    refine xe_s (f := (6, [(3, _), (0, _), (1, _), (2, _)], _, _)) xt_g239 rfl rfl rfl rfl rfl ?_
    refine xe_s (f := (7, _, _, _)) xt_g239 rfl rfl rfl rfl rfl ?_
    refine xe_cR xt_g239 rfl rfl rfl (q := 10) rfl (kc_S xk_9_25 (Nat.le_of_ble_eq_true rfl)) xt_g236 (by decide) ⟨Nat.le_of_ble_eq_true rfl, Nat.le_of_ble_eq_true rfl, Nat.le_of_ble_eq_true rfl⟩ (k236 hz) ?_
    refine xe_if_eq xt_g239 rfl (t := 21) rfl (q := 13) rfl (by first | omega | exact xb_r _) (fun b10 => ?_) (fun b10 => ?_)
    · try simp only [xb_0, xb_1, ne_eq, Decidable.not_not, Bool.not_eq_false, Bool.not_eq_true, decide_eq_true_eq, decide_eq_false_iff_not] at b10
      rw [if_pos (by omega)]
      refine xe_s (f := (22, _, xi 0 :: _, _)) xt_g239 rfl rfl rfl rfl rfl ?_
      refine xe_s (f := (36, _, _, _)) xt_g239 rfl rfl rfl rfl rfl ?_
      refine xe_iret xt_g239 rfl rfl xi_int.1 ?_
      exact ⟨rfl, rfl⟩
    · try simp only [xb_0, xb_1, ne_eq, Decidable.not_not, Bool.not_eq_false, Bool.not_eq_true, decide_eq_true_eq, decide_eq_false_iff_not] at b10
      rw [if_neg (by omega), show 8 * so_fi (pa_hd A) O 0 + z = so_fi (pa_hd A) O 0 * 8 + z by omega]
      refine xe_s (f := (14, _, _, _)) xt_g239 rfl rfl rfl rfl rfl ?_
      refine xe_s (f := (15, _, _, _)) xt_g239 rfl rfl rfl rfl rfl ?_
      refine xe_gf xt_g239 rfl (q := 18) rfl (xf_9_29 fm) (ko_52) (by omega) rfl rfl ?_
      rw [HO.1]
      refine xe_ic_lt xt_g239 rfl (t := 25) rfl (q := 21) rfl (by first | omega | exact xb_r _) (by first | omega | exact xb_r _) (fun b18 => ?_) (fun b18 => ?_)
      · try simp only [xb_0, xb_1, ne_eq, Decidable.not_not, Bool.not_eq_false, Bool.not_eq_true, decide_eq_true_eq, decide_eq_false_iff_not] at b18
        refine xe_s (f := (26, _, _, _)) xt_g239 rfl rfl rfl rfl rfl ?_
        refine xe_gf xt_g239 rfl (q := 29) rfl (xf_9_17 fm) (ko_52) (by omega) rfl rfl ?_
        refine xe_s (f := (30, _, _, _)) xt_g239 rfl rfl rfl rfl rfl ?_
        refine xe_bipush xt_g239 rfl (q := 32) rfl (by decide) (by decide) ?_
        refine xe_imul xt_g239 rfl (q := 33) rfl ?_
        refine xe_s (f := (34, _, _, _)) xt_g239 rfl rfl rfl rfl rfl ?_
        refine xe_iadd xt_g239 rfl (q := 35) rfl ?_
        refine xe_kl_54 xt_g239 rfl (q := 36) rfl (by omega) (by omega) (by omega) ?_
        refine xe_iret xt_g239 rfl rfl xi_int.1 ?_
        exact ⟨rfl, rfl⟩
      · exact absurd b18 (by omega)
/-- Storage.put -/
theorem k234 (hn : 64 ≤ n) (HO : orL w s ar h n O) (HA : aO w h n a A) {z y : Int} (hz : xr z) (hy : xr y) : xI fm 234 (ko w s p ar v h) n [.ref 52, .ref a, xi z, xi y] (fun q h' n' u' => n' = n ∧ u' = 0 ∧ ∃ s' ar' v', h' = ko w s' p ar' v' h ∧ (∀ k, k ≠ 11 → s' k = s k) ∧ (∀ k, k ≠ 0 → ar' k = ar k) ∧ ((z < 0 ∨ 7 < z ∨ (so_fi (pa_hd A) O 0 < 0 ∧ O.length = 8)) → q = 0 ∧ s' = s ∧ ar' = ar ∧ v' = v) ∧ (¬ (z < 0 ∨ 7 < z ∨ (so_fi (pa_hd A) O 0 < 0 ∧ O.length = 8)) → q = 1 ∧ orL w s' ar' h n (if so_fi (pa_hd A) O 0 < 0 then O ++ [A] else O) ∧ v' = vu v (8 * (if so_fi (pa_hd A) O 0 < 0 then (O.length : Int) else so_fi (pa_hd A) O 0) + z).toNat y)) := by
  have h8 := HO.2.1
  have h11 := HO.1
  have fr := so_fi_r (hd := pa_hd A) O 0
  obtain ⟨ho, pp, qu, te, d1, d2, d3, d4, _⟩ := id HA
  have X1 := (ko_d (w := w) (s := s) (p := p) (ar := ar) (v := v) d2.1).trans d1
  unfold xI
  by_cases g : so_fi (pa_hd A) O 0 < 0
  · have k235' := k235 (fm := fm) (s := s) (p := p) (v := v) hn HO HA
    rw [if_neg (by omega)] at k235'
    rw [if_pos g, if_pos g]
    refine xe_s (f := (1, _, _, _)) xt_g234 rfl rfl rfl rfl rfl ?_
    refine xe_s (f := (2, _, _, _)) xt_g234 rfl rfl rfl rfl rfl ?_
    refine xe_cR xt_g234 rfl rfl rfl (q := 5) rfl (kc_V xk_9_21 rfl (ko_52) (by omega) rfl rfl) xt_g235 (by decide) ⟨Nat.le_of_ble_eq_true rfl, Nat.le_of_ble_eq_true rfl, Nat.le_of_ble_eq_true rfl⟩ (k235') ?_
    refine xe_s (f := (7, [(4, _), (0, _), (1, _), (2, _), (3, _)], _, _)) xt_g234 rfl rfl rfl rfl rfl ?_
    refine xe_s (f := (8, _, _, _)) xt_g234 rfl rfl rfl rfl rfl ?_
    refine xe_cR xt_g234 rfl rfl rfl (q := 11) rfl (kc_S xk_9_25 (Nat.le_of_ble_eq_true rfl)) xt_g236 (by decide) ⟨Nat.le_of_ble_eq_true rfl, Nat.le_of_ble_eq_true rfl, Nat.le_of_ble_eq_true rfl⟩ (k236 hz) ?_
    refine xe_if_eq xt_g234 rfl (t := 21) rfl (q := 14) rfl (by first | omega | exact xb_r _) (fun b11 => ?_) (fun b11 => ?_)
    · try simp only [xb_0, xb_1, ne_eq, Decidable.not_not, Bool.not_eq_false, Bool.not_eq_true, decide_eq_true_eq, decide_eq_false_iff_not] at b11
      refine xe_s (f := (22, _, xi 0 :: _, _)) xt_g234 rfl rfl rfl rfl rfl ?_
      refine xe_iret xt_g234 rfl rfl (xi_bool (by first | omega | exact xb_or _)).1 ?_
      try dsimp only
      exact ⟨0, rfl, rfl, rfl, s, ar, v, rfl, fun _ _ => rfl, fun _ _ => rfl, fun _ => ⟨rfl, rfl, rfl, rfl⟩, fun q => absurd q (by omega)⟩
    · try simp only [xb_0, xb_1, ne_eq, Decidable.not_not, Bool.not_eq_false, Bool.not_eq_true, decide_eq_true_eq, decide_eq_false_iff_not] at b11
      refine xe_s (f := (16, _, _, _)) xt_g234 rfl rfl rfl rfl rfl ?_
      refine xe_bipush xt_g234 rfl (q := 18) rfl (by decide) (by decide) ?_
      refine xe_ic_lt xt_g234 rfl (t := 23) rfl (q := 21) rfl (by first | omega | exact xb_r _) (by first | omega | exact xb_r _) (fun b18 => ?_) (fun b18 => ?_)
      · try simp only [xb_0, xb_1, ne_eq, Decidable.not_not, Bool.not_eq_false, Bool.not_eq_true, decide_eq_true_eq, decide_eq_false_iff_not] at b18
        refine xe_s (f := (25, _, _, _)) xt_g234 rfl rfl rfl rfl rfl ?_
        refine xe_s (f := (26, _, _, _)) xt_g234 rfl rfl rfl rfl rfl ?_
        refine xe_gf xt_g234 rfl (q := 29) rfl (xf_9_29 fm) (ko_52) (by omega) rfl rfl ?_
        rw [HO.1]
        refine xe_ic_ne xt_g234 rfl (t := 50) rfl (q := 32) rfl (by first | omega | exact xb_r _) (by first | omega | exact xb_r _) (fun b29 => ?_) (fun b29 => ?_)
        · exact absurd b29 (by omega)
        · try simp only [xb_0, xb_1, ne_eq, Decidable.not_not, Bool.not_eq_false, Bool.not_eq_true, decide_eq_true_eq, decide_eq_false_iff_not] at b29
          refine xe_s (f := (33, _, _, _)) xt_g234 rfl rfl rfl rfl rfl ?_
          refine xe_gf xt_g234 rfl (q := 36) rfl (xf_9_11 fm) (ko_52) (by omega) rfl rfl ?_
          refine xe_s (f := (38, _, _, _)) xt_g234 rfl rfl rfl rfl rfl ?_
          refine xe_s (f := (39, _, _, _)) xt_g234 rfl rfl rfl rfl rfl ?_
          refine xe_ks_53 xt_g234 rfl (q := 40) rfl (by omega) (by omega) (by omega) (X1) (by omega) (by omega) ?_
          refine xe_s (f := (41, _, _, _)) xt_g234 rfl rfl rfl rfl rfl ?_
          refine xe_s (f := (42, _, _, _)) xt_g234 rfl rfl rfl rfl rfl ?_
          refine xe_gf xt_g234 rfl (q := 45) rfl (xf_9_29 fm) (ko_52) (by omega) rfl rfl ?_
          rw [HO.1]
          refine xe_s (f := (46, _, xi 1 :: _, _)) xt_g234 rfl rfl rfl rfl rfl ?_
          refine xe_iadd xt_g234 rfl (q := 47) rfl ?_
          refine xe_kp_3_2 xt_g234 rfl (q := 50) rfl (xf_9_29 fm) (by omega) ?_
          refine xe_s (f := (51, _, _, _)) xt_g234 rfl rfl rfl rfl rfl ?_
          refine xe_gf xt_g234 rfl (q := 54) rfl (xf_9_17 fm) (ko_52) (by omega) rfl rfl ?_
          try simp only [xo_u, pu, Nat.reduceEqDiff, reduceIte]
          refine xe_s (f := (56, _, _, _)) xt_g234 rfl rfl rfl rfl rfl ?_
          refine xe_bipush xt_g234 rfl (q := 58) rfl (by decide) (by decide) ?_
          refine xe_imul xt_g234 rfl (q := 59) rfl ?_
          refine xe_s (f := (60, _, _, _)) xt_g234 rfl rfl rfl rfl rfl ?_
          refine xe_iadd xt_g234 rfl (q := 61) rfl ?_
          refine xe_s (f := (62, _, _, _)) xt_g234 rfl rfl rfl rfl rfl ?_
          refine xe_kw_54 xt_g234 rfl (q := 63) rfl (by omega) (by omega) (by omega) ?_
          refine xe_s (f := (64, _, xi 1 :: _, _)) xt_g234 rfl rfl rfl rfl rfl ?_
          refine xe_iret xt_g234 rfl rfl (xi_bool (by first | omega | exact xb_or _)).1 ?_
          try dsimp only
          refine ⟨1, rfl, rfl, rfl, _, _, _, rfl, fun k hk => xo_uN hk, fun k hk => aw_n hk, fun q => absurd q (by omega), fun _ => ⟨rfl, ⟨?_, ?_, fun i hi => ?_⟩, ?_⟩⟩
          · rw [xo_uS, List.length_append, List.length_singleton]; omega
          · rw [List.length_append, List.length_singleton]; omega
          · rw [List.length_append, List.length_singleton] at hi
            rw [aw_s, Int.toNat_natCast]
            by_cases e : i = O.length
            · rw [e, va_up_s, gd_app]; exact ⟨a, rfl, HA⟩
            · rw [va_up_n e, gd_lt (by omega)]; exact HO.2.2 i (by omega)
          · rw [show 8 * (O.length : Int) + z = (O.length : Int) * 8 + z by omega]
      · try simp only [xb_0, xb_1, ne_eq, Decidable.not_not, Bool.not_eq_false, Bool.not_eq_true, decide_eq_true_eq, decide_eq_false_iff_not] at b18
        refine xe_s (f := (22, _, xi 0 :: _, _)) xt_g234 rfl rfl rfl rfl rfl ?_
        refine xe_iret xt_g234 rfl rfl (xi_bool (by first | omega | exact xb_or _)).1 ?_
        try dsimp only
        exact ⟨0, rfl, rfl, rfl, s, ar, v, rfl, fun _ _ => rfl, fun _ _ => rfl, fun _ => ⟨rfl, rfl, rfl, rfl⟩, fun q => absurd q (by omega)⟩
  · have k235' := k235 (fm := fm) (s := s) (p := p) (v := v) hn HO HA
    rw [if_pos (by omega)] at k235'
    rw [if_neg g, if_neg g]
    refine xe_s (f := (1, _, _, _)) xt_g234 rfl rfl rfl rfl rfl ?_
    refine xe_s (f := (2, _, _, _)) xt_g234 rfl rfl rfl rfl rfl ?_
    refine xe_cR xt_g234 rfl rfl rfl (q := 5) rfl (kc_V xk_9_21 rfl (ko_52) (by omega) rfl rfl) xt_g235 (by decide) ⟨Nat.le_of_ble_eq_true rfl, Nat.le_of_ble_eq_true rfl, Nat.le_of_ble_eq_true rfl⟩ (k235') ?_
    refine xe_s (f := (7, [(4, _), (0, _), (1, _), (2, _), (3, _)], _, _)) xt_g234 rfl rfl rfl rfl rfl ?_
    refine xe_s (f := (8, _, _, _)) xt_g234 rfl rfl rfl rfl rfl ?_
    refine xe_cR xt_g234 rfl rfl rfl (q := 11) rfl (kc_S xk_9_25 (Nat.le_of_ble_eq_true rfl)) xt_g236 (by decide) ⟨Nat.le_of_ble_eq_true rfl, Nat.le_of_ble_eq_true rfl, Nat.le_of_ble_eq_true rfl⟩ (k236 hz) ?_
    refine xe_if_eq xt_g234 rfl (t := 21) rfl (q := 14) rfl (by first | omega | exact xb_r _) (fun b11 => ?_) (fun b11 => ?_)
    · try simp only [xb_0, xb_1, ne_eq, Decidable.not_not, Bool.not_eq_false, Bool.not_eq_true, decide_eq_true_eq, decide_eq_false_iff_not] at b11
      refine xe_s (f := (22, _, xi 0 :: _, _)) xt_g234 rfl rfl rfl rfl rfl ?_
      refine xe_iret xt_g234 rfl rfl (xi_bool (by first | omega | exact xb_or _)).1 ?_
      try dsimp only
      exact ⟨0, rfl, rfl, rfl, s, ar, v, rfl, fun _ _ => rfl, fun _ _ => rfl, fun _ => ⟨rfl, rfl, rfl, rfl⟩, fun q => absurd q (by omega)⟩
    · try simp only [xb_0, xb_1, ne_eq, Decidable.not_not, Bool.not_eq_false, Bool.not_eq_true, decide_eq_true_eq, decide_eq_false_iff_not] at b11
      refine xe_s (f := (16, _, _, _)) xt_g234 rfl rfl rfl rfl rfl ?_
      refine xe_bipush xt_g234 rfl (q := 18) rfl (by decide) (by decide) ?_
      refine xe_ic_lt xt_g234 rfl (t := 23) rfl (q := 21) rfl (by first | omega | exact xb_r _) (by first | omega | exact xb_r _) (fun b18 => ?_) (fun b18 => ?_)
      · try simp only [xb_0, xb_1, ne_eq, Decidable.not_not, Bool.not_eq_false, Bool.not_eq_true, decide_eq_true_eq, decide_eq_false_iff_not] at b18
        refine xe_s (f := (25, _, _, _)) xt_g234 rfl rfl rfl rfl rfl ?_
        refine xe_s (f := (26, _, _, _)) xt_g234 rfl rfl rfl rfl rfl ?_
        refine xe_gf xt_g234 rfl (q := 29) rfl (xf_9_29 fm) (ko_52) (by omega) rfl rfl ?_
        rw [HO.1]
        refine xe_ic_ne xt_g234 rfl (t := 50) rfl (q := 32) rfl (by first | omega | exact xb_r _) (by first | omega | exact xb_r _) (fun b29 => ?_) (fun b29 => ?_)
        · try simp only [xb_0, xb_1, ne_eq, Decidable.not_not, Bool.not_eq_false, Bool.not_eq_true, decide_eq_true_eq, decide_eq_false_iff_not] at b29
          refine xe_s (f := (51, _, _, _)) xt_g234 rfl rfl rfl rfl rfl ?_
          refine xe_gf xt_g234 rfl (q := 54) rfl (xf_9_17 fm) (ko_52) (by omega) rfl rfl ?_
          refine xe_s (f := (56, _, _, _)) xt_g234 rfl rfl rfl rfl rfl ?_
          refine xe_bipush xt_g234 rfl (q := 58) rfl (by decide) (by decide) ?_
          refine xe_imul xt_g234 rfl (q := 59) rfl ?_
          refine xe_s (f := (60, _, _, _)) xt_g234 rfl rfl rfl rfl rfl ?_
          refine xe_iadd xt_g234 rfl (q := 61) rfl ?_
          refine xe_s (f := (62, _, _, _)) xt_g234 rfl rfl rfl rfl rfl ?_
          refine xe_kw_54 xt_g234 rfl (q := 63) rfl (by omega) (by omega) (by omega) ?_
          refine xe_s (f := (64, _, xi 1 :: _, _)) xt_g234 rfl rfl rfl rfl rfl ?_
          refine xe_iret xt_g234 rfl rfl (xi_bool (by first | omega | exact xb_or _)).1 ?_
          try dsimp only
          refine ⟨1, rfl, rfl, rfl, s, ar, _, rfl, fun _ _ => rfl, fun _ _ => rfl, fun q => absurd q (by omega), fun _ => ⟨rfl, HO, ?_⟩⟩
          rw [show 8 * so_fi (pa_hd A) O 0 + z = so_fi (pa_hd A) O 0 * 8 + z by omega]
        · exact absurd b29 (by omega)
      · exact absurd b18 (by omega)
end XBO
