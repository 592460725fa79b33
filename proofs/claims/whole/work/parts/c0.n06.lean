/-! calls: answer -/
section XC0
variable {fm : Value} {w w' w1 w2 : kW} {s s' s1 s2 : Nat → Int} {p p' p1 p2 : Nat → Nat} {ar ar' : Nat → Nat → Option Nat} {v : Nat → Int} {h h' h1 h2 : xm_H} {n n' n1 n2 r k k' u' u1 u2 x y a b R : Nat} {l D : List Int} {L : List (List Int)} {A B : pa_A} {q : mq_T} {t t' t1 t2 : Nat → List Int} {kc kc' kc1 kc2 : Nat → Nat} {u : mu_T} {dp : Nat → Nat} {F fo G go d : Nat} {X Y : mf_T}
theorem cB_rqc {Z : Nat → Option mq_T} (H : cB w s p ar v h n u dp 24) (e : ∀ r, r < 24 → Z r = mu_rq u r) : cB w s p ar v h n (mu_srq u Z) dp 24 := by
  obtain ⟨a1, a2, a3, a4, a5, a6, a7, a8, a9, a10, a11, a12, a13⟩ := H
  refine ⟨a1, a2, a3, a4, a5, a6, a7, a8, a9, a10, fun r hr hr' => ?_, a12, a13⟩
  show (Z r = none → _) ∧ ∀ q, Z r = some q → _
  rw [e r hr]
  exact a11 r hr hr'
/-- a frame gets an address -/
theorem cB_fad (H : cB w s p ar v h n u dp 24) (hF : F < 16) (eX : mu_fr u F = some X) (e3 : ar 3 F = some fo) (HA : aO w h n a A) {e9 : va_E} (he : e9 = .inr (9, [xi (F : Int), xi X.1, va_rf (if X.2.1 < 0 then none else ar 3 X.2.1.toNat), xi (dp F : Int), .ref a])) : cB w s p ar v (va_up h fo e9) n (mu_sfr u (cm_fr (mu_fr u) F A)) dp 24 ∧ kz h (va_up h fo e9) := by
  subst he
  obtain ⟨a1, a2, a3, a4, a5, a6, a7, a8, a9, a10, a11, a12, a13⟩ := H
  obtain ⟨fo', e3', HO⟩ := (a10 F hF).2 X eX
  rw [e3] at e3'
  cases e3'
  have HO' := HO
  obtain ⟨ad, b1, b2, b3, b4, b5⟩ := HO
  have Z := kz_up (e := (.inr (9, [xi (F : Int), xi X.1, va_rf (if X.2.1 < 0 then none else ar 3 X.2.1.toNat), xi (dp F : Int), .ref a]) : va_E)) b1 (Or.inl rfl)
  refine ⟨⟨cst_kz a1 Z, sS_kz a2 Z, ⟨a3.1, a3.2.1, fun i hi => ?_⟩, a4, ⟨a5.1, a5.2.1, fun i hi => ?_⟩, a6, a7, ⟨a8.1, a8.2.1, fun i hi => ?_⟩, fun i hi => ?_, fun f hf => ?_, fun r hr hR => ⟨(a11 r hr hR).1, fun q e => ?_⟩, ⟨a12.1, a12.2.1, fun i hi => ?_⟩, a13⟩, Z⟩
  · obtain ⟨x, c1, c2⟩ := a3.2.2 i hi
    exact ⟨x, c1, mO_kz c2 Z⟩
  · obtain ⟨x, c1, c2⟩ := a5.2.2 i hi
    exact ⟨x, c1, sfO_kz c2 Z⟩
  · obtain ⟨x, c1, c2⟩ := a8.2.2 i hi
    exact ⟨x, c1, ckO_kz c2 Z⟩
  · rw [tp_cm eX]
    exact a9 i hi
  · show (cm_fr (mu_fr u) F A f = none → _) ∧ ∀ x, cm_fr (mu_fr u) F A f = some x → _
    have ec : cm_fr (mu_fr u) F A = mu_up (mu_fr u) F (some (X.1, X.2.1, some A)) := by
      unfold cm_fr
      rw [Int.toNat_natCast, eX]
      rfl
    rw [ec]
    by_cases g : f = F
    · subst g
      rw [mu_upS]
      refine ⟨fun q => (by cases q), fun x ex => ?_⟩
      cases ex
      exact ⟨fo, e3, some a, va_up_s, b2, b3, b4, a, rfl, aO_kz HA Z⟩
    · rw [mu_upN g]
      refine ⟨(a10 f hf).1, fun x ex => ?_⟩
      obtain ⟨r, c1, c2⟩ := (a10 f hf).2 x ex
      refine ⟨r, c1, frO_kz c2 Z (va_up_n ?_)⟩
      intro q
      subst q
      exact g (fr_inj hf hF c2 HO')
  · obtain ⟨y, c1, c2⟩ := (a11 r hr hR).2 q e
    refine ⟨y, c1, rqO_kz c2 Z (va_up_n ?_)⟩
    intro q
    subst q
    obtain ⟨_, _, _, _, _, _, c3, _⟩ := c2
    rw [b1] at c3
    cases c3
  · obtain ⟨x, c1, c2⟩ := a12.2.2 i hi
    exact ⟨x, c1, aO_kz c2 Z⟩
/-- commit -/
theorem k184 (S : cS w s p ar v h n t kc u dp) (I : mI u dp) {f : Int} (f0 : 0 ≤ f ∧ f < 16) (eX : mu_fr u f.toNat = some X) (HR : rqO w h n (ar 3) R q y) (e1 : q.1 = f) (HT : sS (gd w) h n r l) : xN fm 184 (ko w s p ar v h) n [.ref 44, .ref y, .ref r] (fun h' n' u' => ∃ s' ar' h1, h' = ko w s' p ar' v h1 ∧ RU 8 2 h n kc h1 n' kc u' ∧ cS w s' p ar' v h1 n' t kc (mu_note (mu_note (mu_drop (mu_srq (mu_sfr u (cm_fr (mu_fr u) f q.2.2.2.1)) (fun r => mq_no f (mu_rq u r))) (dm_cl (cm_fr (mu_fr u) f q.2.2.2.1) (cm_g (cm_fr (mu_fr u) f q.2.2.2.1) f))) 2 f X.1 (pa_text q.2.2.2.1)) 3 f R l) dp) := by
  have S' := S
  obtain ⟨K, H, S1, S2, S3⟩ := S
  have W0 := K.1.1
  subst e1
  generalize hF : q.1.toNat = F at eX
  have eF : q.1 = (F : Int) := by omega
  rw [eF]
  have hF16 : F < 16 := by omega
  have H' := H
  obtain ⟨a1, a2, a3, a4, a5, a6, a7, a8, a9, a10, a11, a12, a13⟩ := H
  obtain ⟨fo, e3, HO⟩ := (a10 F hF16).2 X eX
  have HR' := HR
  obtain ⟨fo', ad, ak, lf, la, lw, b1, b2, b3, b4, b5, b6, b7⟩ := HR
  rw [hF, e3] at b5
  cases b5
  have X1 := (ko_d (w := w) (s := s) (p := p) (ar := ar) (v := v) b2.1).trans b1
  have HO' := HO
  obtain ⟨fad, d1, d2, d3, d4, d5⟩ := HO
  have X2 := (ko_d (w := w) (s := s) (p := p) (ar := ar) (v := v) d2.1).trans d1
  obtain ⟨B1, Z⟩ := cB_fad (e9 := .inr (9, [xi (F : Int), xi X.1, va_rf (if X.2.1 < 0 then none else ar 3 X.2.1.toNat), xi (dp F : Int), .ref ad])) H' hF16 eX e3 b6 rfl
  have J := mI_cmf (A := q.2.2.2.1) I hF16 eX
  have B1' := B1
  obtain ⟨c1', c2', c3', c4', c5', c6', c7', c8', c9', c10', c11', c12', c13'⟩ := B1
  have HI : rqI (mu_fr (mu_sfr u (cm_fr (mu_fr u) F q.2.2.2.1))) (mu_rq u) := J.2.1
  obtain ⟨X', eX'⟩ : ∃ X', cm_fr (mu_fr u) F q.2.2.2.1 F = some X' ∧ X'.1 = X.1 := by
    unfold cm_fr
    rw [Int.toNat_natCast, eX, mu_upS]
    exact ⟨_, rfl, rfl⟩
  obtain ⟨eX', eX1⟩ := eX'
  obtain ⟨fo2, e32, HO2⟩ := (c10' F hF16).2 X' eX'
  rw [e3] at e32
  cases e32
  have HIn : rqI (mu_fr (mu_sfr u (cm_fr (mu_fr u) F q.2.2.2.1))) (fun r => mq_no F (mu_rq u r)) := by
    intro r hr q' hq'
    refine HI r hr q' ?_
    have hq' : mq_no F (mu_rq u r) = some q' := hq'
    unfold mq_no at hq'
    cases g : mu_rq u r with
    | none => rw [g] at hq'; cases hq'
    | some q9 =>
      rw [g] at hq'
      dsimp only at hq'
      split at hq'
      · cases hq'
      · exact hq'
  have J2 : mI (mu_srq (mu_sfr u (cm_fr (mu_fr u) F q.2.2.2.1)) (fun r => mq_no F (mu_rq u r))) dp := by
    refine mI_rq J (fun r hr q' e => ?_)
    have e : mq_no F (mu_rq u r) = some q' := e
    show mu_rq u r = some q'
    unfold mq_no at e
    cases g : mu_rq u r with
    | none => rw [g] at e; cases e
    | some q9 =>
      rw [g] at e
      dsimp only at e
      split at e
      · cases e
      · exact e
  have cl : ∀ k, k < 16 → dm_cl (cm_fr (mu_fr u) F q.2.2.2.1) (cm_g (cm_fr (mu_fr u) F q.2.2.2.1) F) k = dc (cm_fr (mu_fr u) F q.2.2.2.1) F 16 k := by
    intro k hk
    rw [dm_commit (fr := cm_fr (mu_fr u) F q.2.2.2.1) J.1 hk (fun _ => hF16)]
    unfold dc
    rw [decide_eq_true hk, Bool.true_and]
  have cBd : ∀ (ar2 ar3 : Nat → Nat → Option Nat), (∀ j, j ≠ 4 → ar2 j = ar j) → rqL w ar2 (ar 3) (va_up h fo (.inr (9, [xi (F : Int), xi X.1, va_rf (if X.2.1 < 0 then none else ar 3 X.2.1.toNat), xi (dp F : Int), .ref ad]))) n (fun r => mq_no F (mu_rq u r)) 24 → (∀ j, j ≠ 3 → j ≠ 4 → ar3 j = ar2 j) → (∀ f, f < 16 → ar3 3 f = if dc (cm_fr (mu_fr u) F q.2.2.2.1) F 16 f = true then none else ar 3 f) → rqL w ar3 (ar 3) (va_up h fo (.inr (9, [xi (F : Int), xi X.1, va_rf (if X.2.1 < 0 then none else ar 3 X.2.1.toNat), xi (dp F : Int), .ref ad]))) n (fun r => mq_fl (dc (cm_fr (mu_fr u) F q.2.2.2.1) F 16) (mq_no F (mu_rq u r))) 24 → cB w s p ar3 v (va_up h fo (.inr (9, [xi (F : Int), xi X.1, va_rf (if X.2.1 < 0 then none else ar 3 X.2.1.toNat), xi (dp F : Int), .ref ad]))) n (mu_drop (mu_srq (mu_sfr u (cm_fr (mu_fr u) F q.2.2.2.1)) (fun r => mq_no F (mu_rq u r))) (dm_cl (cm_fr (mu_fr u) F q.2.2.2.1) (cm_g (cm_fr (mu_fr u) F q.2.2.2.1) F))) dp 24 := by
    intro ar2 ar3 f2 HQ2 f3 f4 HQ3
    have e33 : ar2 3 = ar 3 := f2 3 (by decide)
    have B2 : cB w s p ar2 v (va_up h fo (.inr (9, [xi (F : Int), xi X.1, va_rf (if X.2.1 < 0 then none else ar 3 X.2.1.toNat), xi (dp F : Int), .ref ad]))) n (mu_srq (mu_sfr u (cm_fr (mu_fr u) F q.2.2.2.1)) (fun r => mq_no F (mu_rq u r))) dp 24 := by
      refine ⟨c1', c2', msL_kp c3' kp_refl rfl (f2 1 (by decide)), c4', sfL_kp c5' kp_refl rfl (f2 5 (by decide)), c6', c7', ckL_kp c8' kp_refl rfl (f2 6 (by decide)), fun i hi => ?_, ?_, ?_, orL_kp c12' kp_refl rfl (f2 0 (by decide)), c13'⟩
      · rw [f2 2 (by decide), e33]; exact c9' i hi
      · rw [e33]; exact frL_kp c10' kp_refl e33
      · rw [e33]; exact HQ2
    have g := cB_dr (ar' := ar3) (s' := s) (c := dm_cl (cm_fr (mu_fr u) F q.2.2.2.1) (cm_g (cm_fr (mu_fr u) F q.2.2.2.1) F)) (tb := mu_tb u) (f7 := mu_fo u) B2 J2 (fun f hf => by rw [cl f hf, e33]; exact f4 f hf) (fun r hr hr' => by
      have g := HQ3 r hr hr'
      dsimp only at g
      show (mq_fl _ (mq_no F (mu_rq u r)) = none → _) ∧ ∀ q', mq_fl _ (mq_no F (mu_rq u r)) = some q' → _
      rw [mq_fl_c (c' := dc (cm_fr (mu_fr u) F q.2.2.2.1) F 16) (fun q' hq' => cl _ (by have := HIn r hr q' hq'; omega)), e33]
      exact g) (fun k h2 h3 h4 => f3 k h3 h4) (fun f hf x ex h0 h => by
      have ex : cm_fr (mu_fr u) F q.2.2.2.1 f = some x := ex
      have := ((J.1 f hf x ex).2.2.2 h0).1
      rw [cl _ (by omega)] at h
      rw [cl f hf]
      unfold dc at h ⊢
      rw [Bool.and_eq_true] at h
      rw [decide_eq_true hf, Bool.true_and]
      refine ia_par J.1 hf ex h0 (Or.inr ?_)
      have := h.2
      rw [show ((x.2.1.toNat : Nat) : Int) = x.2.1 by omega] at this
      exact this) (fun _ _ => rfl) c4' (fun i hi => by
      show ar3 2 i = if mu_tb u i = true then ar3 3 (xd_first (fun f => mf_tp i (mf_fl (dm_cl (cm_fr (mu_fr u) F q.2.2.2.1) (cm_g (cm_fr (mu_fr u) F q.2.2.2.1) F)) f.toNat (cm_fr (mu_fr u) F q.2.2.2.1 f.toNat))) 16 0).toNat else none
      have c9i := c9' i hi
      rw [f3 2 (by decide) (by decide), f2 2 (by decide), c9i]
      show (if mu_tb u i = true then _ else none) = _
      have notop : ∀ k, k < 16 → ∀ xx, cm_fr (mu_fr u) F q.2.2.2.1 k = some xx → xx.2.1 < 0 → dc (cm_fr (mu_fr u) F q.2.2.2.1) F 16 k = false := by
        intro k hk xx ek q2
        unfold dc
        rw [ia, Int.toNat_natCast, ek]
        dsimp only
        rw [if_pos q2, Bool.and_false]
      by_cases gt : mu_tb u i = true
      · rw [if_pos gt, if_pos gt]
        have ef : xd_first (fun f => mf_tp i (mf_fl (dm_cl (cm_fr (mu_fr u) F q.2.2.2.1) (cm_g (cm_fr (mu_fr u) F q.2.2.2.1) F)) f.toNat (cm_fr (mu_fr u) F q.2.2.2.1 f.toNat))) 16 0 = mu_tp (mu_sfr u (cm_fr (mu_fr u) F q.2.2.2.1)) i := by
          refine xd_first_c 16 0 (fun j j0 j1 => ?_)
          show mf_tp i (mf_fl _ j.toNat (cm_fr (mu_fr u) F q.2.2.2.1 j.toNat)) = mf_tp i (cm_fr (mu_fr u) F q.2.2.2.1 j.toNat)
          unfold mf_fl
          split
          · rename_i g9
            rw [cl _ (by omega)] at g9
            cases ej : cm_fr (mu_fr u) F q.2.2.2.1 j.toNat with
            | none => rfl
            | some xx =>
              show false = decide (xx.1 = (i : Int) ∧ xx.2.1 < 0)
              rw [decide_eq_false]
              rintro ⟨q1, q2⟩
              rw [notop j.toNat (by omega) xx ej q2] at g9
              cases g9
          · rfl
        rw [ef]
        obtain ⟨X8, q1, q2, q3, q4, q5⟩ := tp_is J hi gt
        rw [f4 _ (by omega), notop _ (by omega) X8 q3 q5, if_neg (by decide)]
      · rw [if_neg gt, if_neg gt])
    exact g
  unfold xN
  refine xe_s (f := (1, _, _, _)) xt_g184 rfl rfl rfl rfl rfl ?_
  refine xe_gf xt_g184 rfl (q := 4) rfl (xf_0_212 fm) (X1) (by omega) rfl rfl ?_
  refine xe_s (f := (5, [(3, _), (0, _), (1, _), (2, _)], _, _)) xt_g184 rfl rfl rfl rfl rfl ?_
  refine xe_s (f := (6, _, _, _)) xt_g184 rfl rfl rfl rfl rfl ?_
  refine xe_s (f := (7, _, _, _)) xt_g184 rfl rfl rfl rfl rfl ?_
  refine xe_gf xt_g184 rfl (q := 10) rfl (xf_0_227 fm) (X1) (by omega) rfl rfl ?_
  refine xe_pf xt_g184 rfl (q := 13) rfl (xf_0_166 fm) (X2) (by omega) (by omega) rfl (Nat.le_of_ble_eq_true rfl) (Nat.le_of_ble_eq_true rfl) ⟨rfl, rfl⟩ (Or.inl rfl) ?_
  rw [ko_new (by omega)]
  show xe fm 184 (13, _, _, (ko w s p ar v (va_up h fo (.inr (9, [xi (F : Int), xi X.1, va_rf (if X.2.1 < 0 then none else ar 3 X.2.1.toNat), xi (dp F : Int), .ref ad]))), n, 0, 0)) _
  have X3 := fun ar0 s0 h0 (g : h0 fo = .inr (9, [xi (F : Int), xi X.1, va_rf (if X.2.1 < 0 then none else ar 3 X.2.1.toNat), xi (dp F : Int), .ref ad])) => (ko_d (w := w) (s := s0) (p := p) (ar := ar0) (v := v) (h0 := h0) d2.1).trans g
  refine xe_s (f := (14, _, _, _)) xt_g184 rfl rfl rfl rfl rfl ?_
  refine xe_s (f := (15, _, _, _)) xt_g184 rfl rfl rfl rfl rfl ?_
  refine xe_cN xt_g184 rfl rfl rfl (q := 18) rfl (kc_V xk_0_329 rfl (ko_44) (by omega) rfl rfl) xt_g168 (by decide) ⟨Nat.le_of_ble_eq_true rfl, Nat.le_of_ble_eq_true rfl, Nat.le_of_ble_eq_true rfl⟩ (k168 (fx := ar 3) (rq := mu_rq u) (by omega) c10' HI c11' hF16 e3 HO2) (fun h2' n2 c2 u2 hp => ?_)
  obtain ⟨e5, e6, ar2, rfl, f2, HQ2⟩ := hp
  rw [e5, e6]
  refine xe_s (f := (19, _, _, _)) xt_g184 rfl rfl rfl rfl rfl ?_
  refine xe_s (f := (20, _, _, _)) xt_g184 rfl rfl rfl rfl rfl ?_
  refine xe_cN xt_g184 rfl rfl rfl (q := 23) rfl (kc_V xk_0_153 rfl (ko_44) (by omega) rfl rfl) xt_g165 (by decide) ⟨Nat.le_of_ble_eq_true rfl, Nat.le_of_ble_eq_true rfl, Nat.le_of_ble_eq_true rfl⟩ (k165 (fx := ar 3) (rq := fun r => mq_no F (mu_rq u r)) (by omega) c10' J.1 HIn HQ2 hF16 e3 HO2 (fun f _ => by rw [f2 3 (by decide)])) (fun h3' n3 c3 u3 hq => ?_)
  obtain ⟨e7, e8, ar3, rfl, f3, f4, HQ3⟩ := hq
  rw [e7, e8]
  have B3 := cBd ar2 ar3 f2 HQ2 f3 f4 HQ3
  obtain ⟨ho, pp, qu, te, m1, m2, m3, m4, m5, m6, m7, m8, m9⟩ := aO_kz b6 Z
  have X4 := (ko_d (w := w) (s := s) (p := p) (ar := ar3) (v := v) m2.1).trans m1
  refine xe_s (f := (24, _, _, _)) xt_g184 rfl rfl rfl rfl rfl ?_
  refine xe_s (f := (25, _, xi 2 :: _, _)) xt_g184 rfl rfl rfl rfl rfl ?_
  refine xe_s (f := (26, _, _, _)) xt_g184 rfl rfl rfl rfl rfl ?_
  refine xe_gf xt_g184 rfl (q := 29) rfl (xf_0_216 fm) (X3 _ _ _ va_up_s) (by omega) rfl rfl ?_
  refine xe_s (f := (30, _, _, _)) xt_g184 rfl rfl rfl rfl rfl ?_
  refine xe_gf xt_g184 rfl (q := 33) rfl (xf_0_177 fm) (X3 _ _ _ va_up_s) (by omega) rfl rfl ?_
  refine xe_s (f := (34, _, _, _)) xt_g184 rfl rfl rfl rfl rfl ?_
  refine xe_gf xt_g184 rfl (q := 37) rfl (xf_0_166 fm) (X3 _ _ _ va_up_s) (by omega) rfl rfl ?_
  refine xe_gf xt_g184 rfl (q := 40) rfl (xf_0_274 fm) (X4) (by omega) rfl rfl ?_
  refine xe_cN xt_g184 rfl rfl rfl (q := 43) rfl (kc_V xk_0_219 rfl (ko_44) (by omega) rfl rfl) xt_g143 (by decide) ⟨Nat.le_of_ble_eq_true rfl, Nat.le_of_ble_eq_true rfl, Nat.le_of_ble_eq_true rfl⟩ (k143 (KW_kz K Z) B3 m8) (fun h4' n4 c4 u4 hr => ?_)
  obtain ⟨s5, ar5, h5, rfl, ke5, n5', u5', g5, g6, B5⟩ := hr
  have N5 := ke5.1
  have K5 := KW_ke (KW_kz K Z) ke5
  have X6 : ko w s5 p ar5 v h5 y = _ := (ko_d b2.1).trans ((ke5.2 y b4 b2.1).trans ((va_up_n (fun g => by rw [g, d1] at b1; cases b1)).trans b1))
  refine xe_s (f := (44, _, _, _)) xt_g184 rfl rfl rfl rfl rfl ?_
  refine xe_s (f := (45, _, xi 3 :: _, _)) xt_g184 rfl rfl rfl rfl rfl ?_
  refine xe_s (f := (46, _, _, _)) xt_g184 rfl rfl rfl rfl rfl ?_
  refine xe_gf xt_g184 rfl (q := 49) rfl (xf_0_216 fm) (X3 _ _ _ ((ke5.2 fo d4 d2.1).trans va_up_s)) (by omega) rfl rfl ?_
  refine xe_s (f := (50, _, _, _)) xt_g184 rfl rfl rfl rfl rfl ?_
  refine xe_gf xt_g184 rfl (q := 53) rfl (xf_0_340 fm) (X6) (by omega) rfl rfl ?_
  refine xe_s (f := (54, _, _, _)) xt_g184 rfl rfl rfl rfl rfl ?_
  refine xe_cN xt_g184 rfl rfl rfl (q := 57) rfl (kc_V xk_0_219 rfl (ko_44) (by omega) rfl rfl) xt_g143 (by decide) ⟨Nat.le_of_ble_eq_true rfl, Nat.le_of_ble_eq_true rfl, Nat.le_of_ble_eq_true rfl⟩ (k143 K5 B5 (sS_ke (sS_kz HT Z) ke5)) (fun h7' n7 c7 u7 hs => ?_)
  refine xe_ret xt_g184 rfl rfl ?_
  try dsimp only
  obtain ⟨s8, ar8, h8, j1, ke8, n8', u8', g8, g9, B8⟩ := hs
  have N8 := ke8.1
  refine ⟨rfl, s8, ar8, h8, j1, ⟨by omega, Nat.le_refl _, by omega, by omega, fun i q0 q1 q2 => (ke8.2 i (by omega) (by unfold dy; omega)).trans ((ke5.2 i q0 (by unfold dy; omega)).trans (va_up_n (by have := d2.2.2.2.2; omega)))⟩, KW_ke K5 ke8, B8, ?_, S2, S3⟩
  rw [note_ln, note_ln]
  exact S1
end XC0
