/-! calls: child, answer -/
section XBZ
variable {fm : Value} {w w' w1 w2 : kW} {s s' s1 s2 : Nat → Int} {p p' p1 p2 : Nat → Nat} {ar ar' : Nat → Nat → Option Nat} {v : Nat → Int} {h h' h1 h2 : xm_H} {n n' n1 n2 r k k' u' u1 u2 x y a b R : Nat} {l D : List Int} {L : List (List Int)} {A B : pa_A} {q : mq_T} {t t' t1 t2 : Nat → List Int} {kc kc' kc1 kc2 : Nat → Nat} {u : mu_T} {dp : Nat → Nat} {F fo G go d : Nat} {X Y : mf_T}
/-- child -/
theorem c172 (hfm : fm = .null ∨ ∃ j, fm = .ref j) (S : cS w s p ar v h n t kc u dp) (I : mI u dp) (G : mG u) {f : Int} (e : mu_if u f = true) : xI fm 172 (ko w s p ar v h) n [.ref 44, xi f] (fun z h' n' u' => z = (mu_child u f).1 ∧ cR 5100 860 h n kc h' n' u' (mu_child u f).2 (if (mu_child u f).1 < 0 then dp else mu_up dp (mu_ff u).toNat (dp f.toNat + 1))) := by
  have W0 := S.1.1.1
  have l160 := G.1
  have I0 : mI (mu_sln u []) dp := mI_eq I rfl rfl rfl rfl
  have f1' := xd_first_r (p := fun f => (mu_fr u f.toNat).isNone) 16 0
  have f2' : xd_first (fun f => (mu_fr u f.toNat).isNone) 16 0 = mu_ff u := rfl
  rw [f2'] at f1'
  have q1' := xd_first_r (p := fun r => (mu_rq u r.toNat).isNone) 24 0
  have q2' : xd_first (fun r => (mu_rq u r.toNat).isNone) 24 0 = mu_fq u := rfl
  rw [q2'] at q1'
  unfold xI
  refine xe_s (f := (1, _, _, _)) xt_g172 rfl rfl rfl rfl rfl ?_
  refine xe_cA xt_g172 rfl rfl rfl (q := 4) rfl (kc_V xk_0_93 rfl (ko_44) (by omega) rfl rfl) xt_g71 (by decide) ⟨Nat.le_of_ble_eq_true rfl, Nat.le_of_ble_eq_true rfl, Nat.le_of_ble_eq_true rfl⟩ (c71 S G) (fun x1 h1' n1 c1 u1 hp => ?_)
  obtain ⟨w1, h2, kc1, rfl, R1, H1, S1⟩ := hp
  have N1 := R1.2.1.1
  obtain ⟨X, fo, f0, f1, eX, e3, HO⟩ := at_fr S1.2.1 (f := f) e
  have eX : mu_fr u f.toNat = some X := eX
  have HO' := HO
  obtain ⟨ad, b1, b2, b3, b4, b5⟩ := HO
  have X1 := (ko_d (w := w1) (s := s) (p := p) (ar := ar) (v := v) b2.1).trans b1
  have ea : mu_ad u f = X.2.2 := by unfold mu_ad; rw [eX]
  have dd := I.1 f.toNat (by omega) X eX
  have dle : dp f.toNat ≤ 5 := dd.2.1
  have dge : 1 ≤ dp f.toNat := dd.1
  clear dd
  have edp : mu_dep (mu_fr u) 6 f = dp f.toNat := by
    have g := mu_dep_eq I.1 6 f.toNat X (by omega) eX (by omega)
    rw [show ((f.toNat : Nat) : Int) = f by omega] at g
    exact g
  have refu : ∀ (w5 : kW) (s5 : Nat → Int) (p5 : Nat → Nat) (ar5 : Nat → Nat → Option Nat) (h5 : xm_H) (n5 : Nat) (t5 : Nat → List Int) (kc5 : Nat → Nat) (u5 : Nat) (z : Int), RT 5050 850 w h n kc w5 h5 n5 t5 kc5 u5 → cS w5 s5 p5 ar5 v h5 n5 t5 kc5 (mu_sln u []) dp → frO w5 h5 n5 (ar5 3) f.toNat X (dp f.toNat) fo → xI fm 174 (ko w5 s5 p5 ar5 v h5) n5 [.ref 44, .ref fo, xi z] (fun q h' n' u' => q = -1 ∧ cR 5100 860 h n kc h' n' (u5 + u') (mu_refuse u f z) dp) := by
    intro w5 s5 p5 ar5 h5 n5 t5 kc5 u5 z R5 S5 HO5
    refine xe_mono (c174 S5 HO5) (fun q M hM => ?_)
    obtain ⟨y, q1, q2, s6, ar6, h6, q3, q4, q5⟩ := hM
    rw [show ((f.toNat : Nat) : Int) = f by omega, note_sln] at q5
    exact ⟨y, q1, q2, w5, s6, p5, ar6, v, h6, t5, kc5, q3, RU_m (RU_RT (RT_trans R5 q4)) (by omega) (by omega), q5⟩
  refine xe_s (f := (5, [(2, _), (0, _), (1, _)], _, _)) xt_g172 rfl rfl rfl rfl rfl ?_
  refine xe_s (f := (6, _, _, _)) xt_g172 rfl rfl rfl rfl rfl ?_
  refine xe_s (f := (7, _, _, _)) xt_g172 rfl rfl rfl rfl rfl ?_
  refine xe_cR xt_g172 rfl rfl rfl (q := 10) rfl (kc_V xk_0_163 rfl (ko_44) (by omega) rfl rfl) xt_g173 (by decide) ⟨Nat.le_of_ble_eq_true rfl, Nat.le_of_ble_eq_true rfl, Nat.le_of_ble_eq_true rfl⟩ (k173 (by omega) S1.2.1 ⟨f0, f1⟩ e3) ?_
  refine xe_s (f := (11, [(3, _), (2, _), (0, _), (1, _)], _, _)) xt_g172 rfl rfl rfl rfl rfl ?_
  cases ec : X.2.2 with
  | none =>
    have eo : mu_child u f = (-1, mu_refuse u f 2) := by unfold mu_child; rw [if_pos e, if_pos (Or.inl (by rw [ea, ec]))]
    rw [eo]
    rw [ec] at b5
    have b5 : ad = none := b5
    subst b5
    refine xe_s (f := (12, _, _, _)) xt_g172 rfl rfl rfl rfl rfl ?_
    refine xe_gf xt_g172 rfl (q := 15) rfl (xf_0_166 fm) (X1) (by omega) rfl rfl ?_
    refine xe_s (f := (26, _, _, _)) xt_g172 rfl rfl rfl rfl rfl ?_
    refine xe_s (f := (27, _, _, _)) xt_g172 rfl rfl rfl rfl rfl ?_
    refine xe_s (f := (28, _, _, _)) xt_g172 rfl rfl rfl rfl rfl ?_
    refine xe_s (f := (29, _, xi 2 :: _, _)) xt_g172 rfl rfl rfl rfl rfl ?_
    refine xe_cI xt_g172 rfl rfl rfl (q := 32) rfl (kc_V xk_0_173 rfl (ko_44) (by omega) rfl rfl) xt_g174 (by decide) ⟨Nat.le_of_ble_eq_true rfl, Nat.le_of_ble_eq_true rfl, Nat.le_of_ble_eq_true rfl⟩ (refu w1 s p ar h2 n1 _ kc1 u1 2 (RT_mono R1 (by omega) (by omega) (Nat.le_refl _)) S1 HO') (fun z3 h3' n3 c3 u3 hq => ?_)
    refine xe_iret xt_g172 rfl rfl xi_int.1 ?_
    try dsimp only
    obtain ⟨q1, q2⟩ := hq
    rw [show 0 + u1 + u3 = u1 + u3 by omega]
    exact ⟨z3, rfl, q1, q2⟩
  | some A =>
    rw [ec] at b5
    obtain ⟨xa, eqa, HA⟩ := b5
    subst eqa
    have em2 : mu_res u (some A) = pa_res (lt (mu_ln u)) (mu_ln u).length (some A) := rfl
    refine xe_s (f := (12, _, _, _)) xt_g172 rfl rfl rfl rfl rfl ?_
    refine xe_gf xt_g172 rfl (q := 15) rfl (xf_0_166 fm) (X1) (by omega) rfl rfl ?_
    refine xe_s (f := (18, _, _, _)) xt_g172 rfl rfl rfl rfl rfl ?_
    refine xe_s (f := (19, _, _, _)) xt_g172 rfl rfl rfl rfl rfl ?_
    refine xe_gf xt_g172 rfl (q := 22) rfl (xf_0_170 fm) (X1) (by omega) rfl rfl ?_
    refine xe_s (f := (23, _, xi 5 :: _, _)) xt_g172 rfl rfl rfl rfl rfl ?_
    refine xe_ic_lt xt_g172 rfl (t := 33) rfl (q := 26) rfl (by first | omega | exact xb_r _) (by first | omega | exact xb_r _) (fun b23 => ?_) (fun b23 => ?_)
    · try simp only [xb_0, xb_1, ne_eq, Decidable.not_not, Bool.not_eq_false, Bool.not_eq_true, decide_eq_true_eq, decide_eq_false_iff_not] at b23
      have nc : ¬ (mu_ad u f = none ∨ mu_dep (mu_fr u) 6 f = 5) := by
        rintro (g | g)
        · rw [ea, ec] at g; cases g
        · rw [edp] at g; omega
      refine xe_s (f := (34, _, _, _)) xt_g172 rfl rfl rfl rfl rfl ?_
      refine xe_gf xt_g172 rfl (q := 37) rfl (xf_0_22 fm) (ko_44) (by omega) rfl rfl ?_
      refine xe_s (f := (38, _, _, _)) xt_g172 rfl rfl rfl rfl rfl ?_
      refine xe_s (f := (39, _, _, _)) xt_g172 rfl rfl rfl rfl rfl ?_
      refine xe_gf xt_g172 rfl (q := 42) rfl (xf_0_166 fm) (X1) (by omega) rfl rfl ?_
      refine xe_cO xt_g172 rfl rfl rfl (q := 45) rfl (kc_V xk_0_128 rfl (ko_49) (by omega) rfl rfl) xt_g100 (by decide) ⟨Nat.le_of_ble_eq_true rfl, Nat.le_of_ble_eq_true rfl, Nat.le_of_ble_eq_true rfl⟩ (c100 (ob := some xa) (Bo := some A) hfm S1 H1 l160 ⟨xa, rfl, HA⟩) (fun o5 h5' n5 c5 u5 hr => ?_)
      obtain ⟨w5, s5, p5, h6, t5, kc5, rfl, R5, S5, HO5⟩ := hr
      have N5 := R5.2.1.1
      have RA := RT_trans R1 R5
      have HF5 := frO_kp HO' R5.2.1
      cases o5 with
      | none =>
        have eo : mu_child u f = (-1, mu_refuse u f 1) := by unfold mu_child; rw [if_pos e, if_neg nc, ea, ec, em2, adO_none HO5]
        rw [eo]
        refine xe_s (f := (47, [(4, _), (3, _), (2, _), (0, _), (1, _)], _, _)) xt_g172 rfl rfl rfl rfl rfl ?_
        refine xe_s (f := (49, _, _, _)) xt_g172 rfl rfl rfl rfl rfl ?_
        refine xe_s (f := (52, _, _, _)) xt_g172 rfl rfl rfl rfl rfl ?_
        refine xe_s (f := (53, _, _, _)) xt_g172 rfl rfl rfl rfl rfl ?_
        refine xe_s (f := (54, _, _, _)) xt_g172 rfl rfl rfl rfl rfl ?_
        refine xe_s (f := (55, _, xi 1 :: _, _)) xt_g172 rfl rfl rfl rfl rfl ?_
        refine xe_cI xt_g172 rfl rfl rfl (q := 58) rfl (kc_V xk_0_173 rfl (ko_44) (by omega) rfl rfl) xt_g174 (by decide) ⟨Nat.le_of_ble_eq_true rfl, Nat.le_of_ble_eq_true rfl, Nat.le_of_ble_eq_true rfl⟩ (refu w5 s5 p5 ar h6 n5 t5 kc5 (u1 + u5) 1 (RT_mono RA (by omega) (by omega) (Nat.le_refl _)) S5 HF5) (fun z3 h3' n3 c3 u3 hq => ?_)
        refine xe_iret xt_g172 rfl rfl xi_int.1 ?_
        try dsimp only
        obtain ⟨q1, q2⟩ := hq
        rw [show 0 + u1 + u5 + u3 = u1 + u5 + u3 by omega]
        exact ⟨z3, rfl, q1, q2⟩
      | some j =>
        obtain ⟨A9, er, HA9⟩ := adO_some HO5
        have eo : mu_child u f = if mu_ff u < 0 ∨ mu_fq u < 0 then (-1, mu_refuse u f 3) else (mu_ff u, (mu_go (mu_sfr (mu_sln u []) (mu_up (mu_fr u) (mu_ff u).toNat (some (X.1, f, none)))) (mu_ff u) A9).2) := by
          unfold mu_child
          rw [if_pos e, if_neg nc, ea, ec, em2, er, show mf_pt (mu_fr u f.toNat) = (X.1, X.2.1) by rw [eX]; rfl]
        rw [eo]
        have HF5' := HF5
        obtain ⟨ad5, d1, d2, d3, d4, d5⟩ := HF5
        have X5 := fun s0 ar0 h0 (g : h0 fo = h6 fo) => ((ko_d (w := w5) (s := s0) (p := p5) (ar := ar0) (v := v) (h0 := h0) d2.1).trans g).trans d1
        have ffe : xd_first (fun j => (ar 3 j.toNat).isNone) 16 0 = mu_ff u := ff_eq S5.2.1
        have fqe : xd_first (fun j => (ar 4 j.toNat).isNone) 24 0 = mu_fq u := fq_eq S5.2.1
        have ffr : -1 ≤ mu_ff u ∧ mu_ff u < 16 := by omega
        have fqr : -1 ≤ mu_fq u ∧ mu_fq u < 24 := by omega
        refine xe_s (f := (47, [(4, _), (3, _), (2, _), (0, _), (1, _)], _, _)) xt_g172 rfl rfl rfl rfl rfl ?_
        refine xe_s (f := (49, _, _, _)) xt_g172 rfl rfl rfl rfl rfl ?_
        refine xe_s (f := (59, _, _, _)) xt_g172 rfl rfl rfl rfl rfl ?_
        refine xe_s (f := (60, _, _, _)) xt_g172 rfl rfl rfl rfl rfl ?_
        refine xe_cR xt_g172 rfl rfl rfl (q := 63) rfl (kc_V xk_0_135 rfl (ko_44) (by omega) rfl rfl) xt_g127 (by decide) ⟨Nat.le_of_ble_eq_true rfl, Nat.le_of_ble_eq_true rfl, Nat.le_of_ble_eq_true rfl⟩ (k127 (by omega)) ?_
        rw [ffe]
        refine xe_s (f := (65, [(5, _), (4, _), (3, _), (2, _), (0, _), (1, _)], _, _)) xt_g172 rfl rfl rfl rfl rfl ?_
        refine xe_s (f := (67, _, _, _)) xt_g172 rfl rfl rfl rfl rfl ?_
        refine xe_s (f := (68, _, xi (-1) :: _, _)) xt_g172 rfl rfl rfl rfl rfl ?_
        refine xe_ic_eq xt_g172 rfl (t := 79) rfl (q := 71) rfl (by first | omega | exact xb_r _) (by first | omega | exact xb_r _) (fun b68 => ?_) (fun b68 => ?_)
        · try simp only [xb_0, xb_1, ne_eq, Decidable.not_not, Bool.not_eq_false, Bool.not_eq_true, decide_eq_true_eq, decide_eq_false_iff_not] at b68
          refine xe_s (f := (80, _, _, _)) xt_g172 rfl rfl rfl rfl rfl ?_
          refine xe_s (f := (81, _, _, _)) xt_g172 rfl rfl rfl rfl rfl ?_
          refine xe_s (f := (82, _, xi 3 :: _, _)) xt_g172 rfl rfl rfl rfl rfl ?_
          refine xe_cI xt_g172 rfl rfl rfl (q := 85) rfl (kc_V xk_0_173 rfl (ko_44) (by omega) rfl rfl) xt_g174 (by decide) ⟨Nat.le_of_ble_eq_true rfl, Nat.le_of_ble_eq_true rfl, Nat.le_of_ble_eq_true rfl⟩ (refu w5 s5 p5 ar h6 n5 t5 kc5 (u1 + u5) 3 (RT_mono RA (by omega) (by omega) (Nat.le_refl _)) S5 HF5') (fun z3 h3' n3 c3 u3 hq => ?_)
          refine xe_iret xt_g172 rfl rfl xi_int.1 ?_
          try dsimp only
          obtain ⟨q1, q2⟩ := hq
          rw [if_pos (show mu_ff u < 0 ∨ mu_fq u < 0 by omega), show 0 + u1 + u5 + u3 = u1 + u5 + u3 by omega]
          exact ⟨z3, rfl, q1, q2⟩
        · try simp only [xb_0, xb_1, ne_eq, Decidable.not_not, Bool.not_eq_false, Bool.not_eq_true, decide_eq_true_eq, decide_eq_false_iff_not] at b68
          refine xe_s (f := (72, _, _, _)) xt_g172 rfl rfl rfl rfl rfl ?_
          refine xe_cR xt_g172 rfl rfl rfl (q := 75) rfl (kc_V xk_0_138 rfl (ko_44) (by omega) rfl rfl) xt_g128 (by decide) ⟨Nat.le_of_ble_eq_true rfl, Nat.le_of_ble_eq_true rfl, Nat.le_of_ble_eq_true rfl⟩ (k128 (by omega)) ?_
          rw [fqe]
          refine xe_s (f := (76, _, xi (-1) :: _, _)) xt_g172 rfl rfl rfl rfl rfl ?_
          refine xe_ic_ne xt_g172 rfl (t := 86) rfl (q := 79) rfl (by first | omega | exact xb_r _) (by first | omega | exact xb_r _) (fun b76 => ?_) (fun b76 => ?_)
          · try simp only [xb_0, xb_1, ne_eq, Decidable.not_not, Bool.not_eq_false, Bool.not_eq_true, decide_eq_true_eq, decide_eq_false_iff_not] at b76
            rw [if_neg (show ¬ (mu_ff u < 0 ∨ mu_fq u < 0) by omega)]
            dsimp only
            rw [if_neg (show ¬ mu_ff u < 0 by omega)]
            have fr0 : mu_fr u (mu_ff u).toNat = none := by
              rcases f1' with g | ⟨_, _, g⟩
              · omega
              · exact Option.isNone_iff_eq_none.mp g
            refine xe_s (f := (87, _, _, _)) xt_g172 rfl rfl rfl rfl rfl ?_
            refine xe_s (f := (88, _, _, _)) xt_g172 rfl rfl rfl rfl rfl ?_
            refine xe_s (f := (90, _, _, _)) xt_g172 rfl rfl rfl rfl rfl ?_
            refine xe_s (f := (91, _, _, _)) xt_g172 rfl rfl rfl rfl rfl ?_
            refine xe_gf xt_g172 rfl (q := 94) rfl (xf_0_177 fm) (X5 _ _ _ rfl) (by omega) rfl rfl ?_
            refine xe_s (f := (95, _, _, _)) xt_g172 rfl rfl rfl rfl rfl ?_
            refine xe_cA xt_g172 rfl rfl rfl (q := 98) rfl (kc_V xk_0_141 rfl (ko_44) (by omega) rfl rfl) xt_g129 (by decide) ⟨Nat.le_of_ble_eq_true rfl, Nat.le_of_ble_eq_true rfl, Nat.le_of_ble_eq_true rfl⟩ (k129 (d := (dp f.toNat : Int)) (pa := some fo) (by omega) (by omega) (fun q g => by cases g; exact ⟨d4, by omega, _, _, _, _, d1⟩)) (fun x6 h7' n7 c7 u7 hs => ?_)
            obtain ⟨i1, i2, i3, i4⟩ := hs
            subst i2
            rw [i1, i3, i4]
            rw [show (if (some fo).isNone = true then (1 : Int) else (dp f.toNat : Int) + 1) = (dp f.toNat : Int) + 1 from rfl]
            have kE : ke h6 n5 (va_up h6 n5 (.inr (9, [xi (mu_ff u), xi X.1, va_rf (some fo), xi ((dp f.toNat : Int) + 1), .null]))) (n5 + 1) := ke_up (Nat.le_refl _) (by omega)
            have J : mI (mu_sfr (mu_sln u []) (mu_up (mu_fr u) (mu_ff u).toNat (some (X.1, f, none)))) (mu_up dp (mu_ff u).toNat (dp f.toNat + 1)) := mI_child I0 (F := (mu_ff u).toNat) (by omega) fr0 ⟨f0, f1⟩ eX (by omega)
            have B := cB_new (X := (X.1, f, none)) (d := dp f.toNat + 1) S5.1.1 S5.2.1 I0 (F := (mu_ff u).toNat) (by omega) fr0 rfl (Or.inr ⟨f0, f1, X, eX⟩) (e9 := .inr (9, [xi (mu_ff u), xi X.1, va_rf (some fo), xi ((dp f.toNat : Int) + 1), .null])) (by rw [show (((mu_ff u).toNat : Nat) : Int) = mu_ff u by omega]; dsimp only; rw [if_neg (by omega), e3]; rfl)
            have kP := ke_kp (w := w5) kE
            obtain ⟨a1, a2, a3, a4, a5, a6, a7, a8, a9, a10, a11, a12, a13⟩ := S5.2.1
            have S7 : cS w5 s5 p5 (aw ar 3 (mu_ff u).toNat (some n5)) v (va_up h6 n5 (.inr (9, [xi (mu_ff u), xi X.1, va_rf (some fo), xi ((dp f.toNat : Int) + 1), .null]))) (n5 + 1) t5 kc5 (mu_sfr (mu_sln u []) (mu_up (mu_fr u) (mu_ff u).toNat (some (X.1, f, none)))) (mu_up dp (mu_ff u).toNat (dp f.toNat + 1)) := by
              refine ⟨KW_ke S5.1 kE, ⟨cst_kp a1 S5.1.1 kP, sS_kp a2 kP, msL_kp a3 kP rfl (aw_n (by decide)), a4, sfL_kp a5 kP rfl (aw_n (by decide)), a6, a7, ckL_kp a8 kP rfl (aw_n (by decide)), fun i hi => ?_, B.1, B.2, orL_kp a12 kP rfl (aw_n (by decide)), a13⟩, S5.2.2.1, S5.2.2.2.1, S5.2.2.2.2⟩
              have ef : mu_tp (mu_sfr (mu_sln u []) (mu_up (mu_fr u) (mu_ff u).toNat (some (X.1, f, none)))) i = mu_tp (mu_sln u []) i := by
                refine xd_first_c 16 0 (fun j j0 j1 => ?_)
                show mf_tp i (mu_up (mu_fr u) (mu_ff u).toNat (some (X.1, f, none)) j.toNat) = mf_tp i (mu_fr u j.toNat)
                by_cases gj : j.toNat = (mu_ff u).toNat
                · rw [gj, mu_upS, fr0]
                  show decide (X.1 = (i : Int) ∧ f < 0) = false
                  exact decide_eq_false (fun q => by omega)
                · rw [mu_upN gj]
              rw [ef, aw_n (show (2 : Nat) ≠ 3 by decide), a9 i hi]
              show (if mu_tb u i = true then _ else none) = if mu_tb u i = true then _ else none
              by_cases gt : mu_tb u i = true
              · rw [if_pos gt, if_pos gt, aw_s, va_up_n]
                intro q
                obtain ⟨X9, w1', w2', w3', w4', w5'⟩ := tp_is I0 (i := i) hi gt
                have w3' : mu_fr u (mu_tp (mu_sln u []) i).toNat = some X9 := w3'
                rw [q, fr0] at w3'
                cases w3'
              · rw [if_neg gt, if_neg gt]
            obtain ⟨X9, fo9, g0', g1', eX9, e39, HO9⟩ := at_fr S7.2.1 (f := mu_ff u) (by unfold mu_if; rw [decide_eq_true (show 0 ≤ mu_ff u ∧ mu_ff u < 16 by omega)]; show (mu_up (mu_fr u) (mu_ff u).toNat (some (X.1, f, none)) (mu_ff u).toNat).isSome = true; rw [mu_upS]; rfl)
            have ef9 : fo9 = n5 := by
              rw [aw_s, va_up_s] at e39
              cases e39
              rfl
            subst ef9
            refine xe_s (f := (100, _, _, _)) xt_g172 rfl rfl rfl rfl rfl ?_
            refine xe_cI xt_g172 rfl rfl rfl (q := 103) rfl (kc_V xk_0_145 rfl (ko_44) (by omega) rfl rfl) xt_g131 (by decide) ⟨Nat.le_of_ble_eq_true rfl, Nat.le_of_ble_eq_true rfl, Nat.le_of_ble_eq_true rfl⟩ (c131 hfm S7 J G.2.1 G.2.2.2.1 ⟨g0', g1'⟩ e39 HO9 (aO_kp HA9 kP)) (fun z8 h8' n8 c8 u8 ht => ?_)
            refine xe_s (f := (104, _, _, _)) xt_g172 rfl rfl rfl rfl rfl ?_
            refine xe_s (f := (106, _, _, _)) xt_g172 rfl rfl rfl rfl rfl ?_
            refine xe_iret xt_g172 rfl rfl xi_int.1 ?_
            try dsimp only
            obtain ⟨_, w9, s9, ar9, h9, t9, kc9, j2, j3, j4, _⟩ := ht
            exact ⟨mu_ff u, rfl, rfl, w9, s9, p5, ar9, v, h9, t9, kc9, j2, RU_m (RU_RT (RT_mono (RT_trans (RT_trans RA (RT_ke (B := 5) (C := 1) (u' := 5) S5.1 kE (Nat.le_refl _) (Nat.le_refl _))) j3) (Nat.le_refl _) (Nat.le_refl _) (by omega))) (by omega) (by omega), j4⟩
          · try simp only [xb_0, xb_1, ne_eq, Decidable.not_not, Bool.not_eq_false, Bool.not_eq_true, decide_eq_true_eq, decide_eq_false_iff_not] at b76
            refine xe_s (f := (80, _, _, _)) xt_g172 rfl rfl rfl rfl rfl ?_
            refine xe_s (f := (81, _, _, _)) xt_g172 rfl rfl rfl rfl rfl ?_
            refine xe_s (f := (82, _, xi 3 :: _, _)) xt_g172 rfl rfl rfl rfl rfl ?_
            refine xe_cI xt_g172 rfl rfl rfl (q := 85) rfl (kc_V xk_0_173 rfl (ko_44) (by omega) rfl rfl) xt_g174 (by decide) ⟨Nat.le_of_ble_eq_true rfl, Nat.le_of_ble_eq_true rfl, Nat.le_of_ble_eq_true rfl⟩ (refu w5 s5 p5 ar h6 n5 t5 kc5 (u1 + u5) 3 (RT_mono RA (by omega) (by omega) (Nat.le_refl _)) S5 HF5') (fun z3 h3' n3 c3 u3 hq => ?_)
            refine xe_iret xt_g172 rfl rfl xi_int.1 ?_
            try dsimp only
            obtain ⟨q1, q2⟩ := hq
            rw [if_pos (show mu_ff u < 0 ∨ mu_fq u < 0 by omega), show 0 + u1 + u5 + u3 = u1 + u5 + u3 by omega]
            exact ⟨z3, rfl, q1, q2⟩
    · try simp only [xb_0, xb_1, ne_eq, Decidable.not_not, Bool.not_eq_false, Bool.not_eq_true, decide_eq_true_eq, decide_eq_false_iff_not] at b23
      refine xe_s (f := (27, _, _, _)) xt_g172 rfl rfl rfl rfl rfl ?_
      refine xe_s (f := (28, _, _, _)) xt_g172 rfl rfl rfl rfl rfl ?_
      refine xe_s (f := (29, _, xi 2 :: _, _)) xt_g172 rfl rfl rfl rfl rfl ?_
      refine xe_cI xt_g172 rfl rfl rfl (q := 32) rfl (kc_V xk_0_173 rfl (ko_44) (by omega) rfl rfl) xt_g174 (by decide) ⟨Nat.le_of_ble_eq_true rfl, Nat.le_of_ble_eq_true rfl, Nat.le_of_ble_eq_true rfl⟩ (refu w1 s p ar h2 n1 _ kc1 u1 2 (RT_mono R1 (by omega) (by omega) (Nat.le_refl _)) S1 HO') (fun z3 h3' n3 c3 u3 hq => ?_)
      refine xe_iret xt_g172 rfl rfl xi_int.1 ?_
      try dsimp only
      have eo : mu_child u f = (-1, mu_refuse u f 2) := by unfold mu_child; rw [if_pos e, if_pos (Or.inr (by rw [edp]; omega))]
      rw [eo]
      obtain ⟨q1, q2⟩ := hq
      rw [show 0 + u1 + u3 = u1 + u3 by omega]
      exact ⟨z3, rfl, q1, q2⟩
end XBZ
