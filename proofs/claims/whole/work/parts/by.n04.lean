/-! calls: open, child -/
section XBY
variable {fm : Value} {w w' w1 w2 : kW} {s s' s1 s2 : Nat → Int} {p p' p1 p2 : Nat → Nat} {ar ar' : Nat → Nat → Option Nat} {v : Nat → Int} {h h' h1 h2 : xm_H} {n n' n1 n2 r k k' u' u1 u2 x y a b R : Nat} {l D : List Int} {L : List (List Int)} {A B : pa_A} {q : mq_T} {t t' t1 t2 : Nat → List Int} {kc kc' kc1 kc2 : Nat → Nat} {u : mu_T} {dp : Nat → Nat} {F fo G go d : Nat} {X Y : mf_T}
theorem ft_eq (H : cB w s p ar v h n u dp R) (I : mI u dp) : xd_first (fun j => (ar 2 j.toNat).isNone) 4 0 = mu_ft u := by
  obtain ⟨a1, a2, a3, a4, a5, a6, a7, a8, a9, a10, a11, a12, a13⟩ := H
  refine xd_first_c 4 0 (fun j h0 h1 => ?_)
  have e := a9 j.toNat (by omega)
  show (ar 2 j.toNat).isNone = !mu_tb u j.toNat
  cases g : mu_tb u j.toNat with
  | false =>
    rw [e, if_neg (by rw [g]; decide)]
    rfl
  | true =>
    obtain ⟨X, q1, q2, q3, q4, q5⟩ := tp_is I (i := j.toNat) (by omega) g
    obtain ⟨fo, q6, _⟩ := (a10 (mu_tp u ((j.toNat : Nat) : Int)).toNat (by omega)).2 X q3
    rw [e, if_pos g, q6]
    rfl
/-- a frame comes -/
theorem cB_new (K : kw w n) (H : cB w s p ar v h n u dp 24) (I : mI u dp) (hF : F < 16) (eF : mu_fr u F = none) (x0 : X.2.2 = none) (hp : X.2.1 < 0 ∨ (0 ≤ X.2.1 ∧ X.2.1 < 16 ∧ ∃ y, mu_fr u X.2.1.toNat = some y)) {e9 : va_E} (he : e9 = .inr (9, [xi (F : Int), xi X.1, va_rf (if X.2.1 < 0 then none else ar 3 X.2.1.toNat), xi (d : Int), .null])) : frL w (aw ar 3 F (some n)) (aw ar 3 F (some n) 3) (va_up h n e9) (n + 1) (mu_up (mu_fr u) F (some X)) (mu_up dp F d) ∧ rqL w (aw ar 3 F (some n)) (aw ar 3 F (some n) 3) (va_up h n e9) (n + 1) (mu_rq u) 24 := by
  subst he
  obtain ⟨a1, a2, a3, a4, a5, a6, a7, a8, a9, a10, a11, a12, a13⟩ := H
  have W0 := K.1
  have kE : ke h n (va_up h n (.inr (9, [xi (F : Int), xi X.1, va_rf (if X.2.1 < 0 then none else ar 3 X.2.1.toNat), xi (d : Int), .null]))) (n + 1) := ke_up (Nat.le_refl _) (by omega)
  have kP := ke_kp (w := w) kE
  have lv : ∀ f, (∃ y, mu_fr u f = some y) → aw ar 3 F (some n) 3 f = ar 3 f := by
    rintro f ⟨y, ey⟩
    rw [aw_s, va_up_n]
    intro g
    rw [g, eF] at ey
    cases ey
  have e3n : ∀ f, f ≠ F → aw ar 3 F (some n) 3 f = ar 3 f := fun f g => by rw [aw_s, va_up_n g]
  constructor
  · intro f hf
    by_cases g : f = F
    · subst g
      rw [mu_upS, mu_upS, aw_s, va_up_s]
      refine ⟨fun q => (by cases q), fun x ex => ?_⟩
      cases ex
      refine ⟨n, rfl, none, ?_, gd_n K (Nat.le_refl _), by omega, by omega, by rw [x0]; exact rfl⟩
      rw [va_up_s]
      rcases hp with q | ⟨q1, q2, q3⟩
      · rw [if_pos q, if_pos q]
        rfl
      · rw [if_neg (by omega), if_neg (by omega), lv _ q3]
        rfl
    · rw [mu_upN g, mu_upN g, e3n f g]
      refine ⟨(a10 f hf).1, fun x ex => ?_⟩
      obtain ⟨r, b1, b2⟩ := (a10 f hf).2 x ex
      obtain ⟨ad, c1, c2, c3, c4, c5⟩ := frO_kp b2 kP
      refine ⟨r, b1, ad, ?_, c2, c3, c4, c5⟩
      rw [c1]
      by_cases q : x.2.1 < 0
      · rw [if_pos q, if_pos q]
      · obtain ⟨_, _, y, ey, _⟩ := (I.1 f hf x ex).2.2.2 (by omega)
        rw [if_neg q, if_neg q, lv _ ⟨y, ey⟩]
  · intro r hr hr'
    rw [aw_n (show (4 : Nat) ≠ 3 by decide)]
    refine ⟨(a11 r hr hr').1, fun q eq => ?_⟩
    obtain ⟨y, b1, b2⟩ := (a11 r hr hr').2 q eq
    obtain ⟨fo, ad, ak, lf, la, lw, c1, c2, c3, c4, c5, c6⟩ := rqO_kp b2 kP
    refine ⟨y, b1, fo, ad, ak, lf, la, lw, c1, c2, c3, c4, ?_, c6⟩
    rw [lv _ (Option.isSome_iff_exists.mp (I.2.1 r hr q eq).2.2)]
    exact c5
/-- open -/
theorem c99 (hfm : fm = .null ∨ ∃ j, fm = .ref j) (S : cS w s p ar v h n t kc u dp) (I : mI u dp) (G : mG u) : xI fm 99 (ko w s p ar v h) n [.ref 44] (fun z h' n' u' => z = (mu_open u).1 ∧ cR 5100 860 h n kc h' n' u' (mu_open u).2 (if (mu_open u).1 < 0 then dp else mu_up dp (mu_ff u).toNat 1)) := by
  have W0 := S.1.1.1
  have l160 := G.1
  have I0 : mI (mu_sln u []) dp := mI_eq I rfl rfl rfl rfl
  have em2 : mu_res u none = pa_res (lt (mu_ln u)) (mu_ln u).length none := rfl
  have t1 := xd_first_r (p := fun t => !mu_tb u t.toNat) 4 0
  have t2 : xd_first (fun t => !mu_tb u t.toNat) 4 0 = mu_ft u := rfl
  rw [t2] at t1
  have f1 := xd_first_r (p := fun f => (mu_fr u f.toNat).isNone) 16 0
  have f2 : xd_first (fun f => (mu_fr u f.toNat).isNone) 16 0 = mu_ff u := rfl
  rw [f2] at f1
  have q1 := xd_first_r (p := fun r => (mu_rq u r.toNat).isNone) 24 0
  have q2 : xd_first (fun r => (mu_rq u r.toNat).isNone) 24 0 = mu_fq u := rfl
  rw [q2] at q1
  unfold xI
  refine xe_s (f := (1, _, _, _)) xt_g99 rfl rfl rfl rfl rfl ?_
  refine xe_gf xt_g99 rfl (q := 4) rfl (xf_0_22 fm) (ko_44) (by omega) rfl rfl ?_
  refine xe_s (f := (5, _, _, _)) xt_g99 rfl rfl rfl rfl rfl ?_
  refine xe_cA xt_g99 rfl rfl rfl (q := 8) rfl (kc_V xk_0_93 rfl (ko_44) (by omega) rfl rfl) xt_g71 (by decide) ⟨Nat.le_of_ble_eq_true rfl, Nat.le_of_ble_eq_true rfl, Nat.le_of_ble_eq_true rfl⟩ (c71 S G) (fun x1 h1' n1 c1 u1 hp => ?_)
  obtain ⟨w1, h2, kc1, rfl, R1, H1, S1⟩ := hp
  have N1 := R1.2.1.1
  refine xe_s (f := (9, _, _, _)) xt_g99 rfl rfl rfl rfl rfl ?_
  refine xe_cO xt_g99 rfl rfl rfl (q := 12) rfl (kc_V xk_0_128 rfl (ko_49) (by omega) rfl rfl) xt_g100 (by decide) ⟨Nat.le_of_ble_eq_true rfl, Nat.le_of_ble_eq_true rfl, Nat.le_of_ble_eq_true rfl⟩ (c100 (ob := none) (Bo := none) hfm S1 H1 l160 rfl) (fun o5 h5' n5 c5 u5 hr => ?_)
  obtain ⟨w5, s5, p5, h6, t5, kc5, rfl, R5, S5, HO5⟩ := hr
  have N5 := R5.2.1.1
  have RA := RT_trans R1 R5
  have fte : xd_first (fun j => (ar 2 j.toNat).isNone) 4 0 = mu_ft u := ft_eq S5.2.1 I0
  have ffe : xd_first (fun j => (ar 3 j.toNat).isNone) 16 0 = mu_ff u := ff_eq S5.2.1
  have fqe : xd_first (fun j => (ar 4 j.toNat).isNone) 24 0 = mu_fq u := fq_eq S5.2.1
  cases o5 with
  | none =>
    have eo : mu_open u = (-1, mu_sln u []) := by unfold mu_open; rw [em2, adO_none HO5]
    rw [eo]
    refine xe_s (f := (13, [(1, _), (0, _)], _, _)) xt_g99 rfl rfl rfl rfl rfl ?_
    refine xe_s (f := (14, _, _, _)) xt_g99 rfl rfl rfl rfl rfl ?_
    refine xe_cR xt_g99 rfl rfl rfl (q := 17) rfl (kc_V xk_0_132 rfl (ko_44) (by omega) rfl rfl) xt_g126 (by decide) ⟨Nat.le_of_ble_eq_true rfl, Nat.le_of_ble_eq_true rfl, Nat.le_of_ble_eq_true rfl⟩ (k126 (by omega)) ?_
    refine xe_s (f := (18, [(2, _), (1, _), (0, _)], _, _)) xt_g99 rfl rfl rfl rfl rfl ?_
    refine xe_s (f := (19, _, _, _)) xt_g99 rfl rfl rfl rfl rfl ?_
    refine xe_cR xt_g99 rfl rfl rfl (q := 22) rfl (kc_V xk_0_135 rfl (ko_44) (by omega) rfl rfl) xt_g127 (by decide) ⟨Nat.le_of_ble_eq_true rfl, Nat.le_of_ble_eq_true rfl, Nat.le_of_ble_eq_true rfl⟩ (k127 (by omega)) ?_
    refine xe_s (f := (23, [(3, _), (2, _), (1, _), (0, _)], _, _)) xt_g99 rfl rfl rfl rfl rfl ?_
    refine xe_s (f := (24, _, _, _)) xt_g99 rfl rfl rfl rfl rfl ?_
    refine xe_s (f := (45, _, _, _)) xt_g99 rfl rfl rfl rfl rfl ?_
    refine xe_s (f := (46, _, xi (-1) :: _, _)) xt_g99 rfl rfl rfl rfl rfl ?_
    refine xe_iret xt_g99 rfl rfl xi_int.1 ?_
    try dsimp only
    exact ⟨-1, rfl, rfl, w5, s5, p5, ar, v, h6, t5, kc5, rfl, RU_m (RU_RT (RT_mono RA (Nat.le_refl _) (Nat.le_refl _) (by omega))) (by omega) (by omega), S5⟩
  | some j =>
    obtain ⟨A9, er, HA⟩ := adO_some HO5
    have eo : mu_open u = if mu_ft u < 0 ∨ mu_ff u < 0 ∨ mu_fq u < 0 then (-1, mu_sln u []) else (mu_ft u, mu_open2 (mu_sln u []) (mu_ft u) (mu_ff u) A9) := by unfold mu_open; rw [em2, er]
    rw [eo]
    have no : decide (mu_ft u < 0 ∨ mu_ff u < 0 ∨ mu_fq u < 0) = true → ∃ z : Int, (.inl (some (xi (-1))) : Option Value ⊕ Nat) = .inl (some (xi z)) ∧ z = (if mu_ft u < 0 ∨ mu_ff u < 0 ∨ mu_fq u < 0 then (-1, mu_sln u []) else (mu_ft u, mu_open2 (mu_sln u []) (mu_ft u) (mu_ff u) A9)).1 ∧ cR 5100 860 h n kc (ko w5 s5 p5 ar v h6) n5 (0 + u1 + u5) (if mu_ft u < 0 ∨ mu_ff u < 0 ∨ mu_fq u < 0 then (-1, mu_sln u []) else (mu_ft u, mu_open2 (mu_sln u []) (mu_ft u) (mu_ff u) A9)).2 (if (if mu_ft u < 0 ∨ mu_ff u < 0 ∨ mu_fq u < 0 then (-1, mu_sln u []) else (mu_ft u, mu_open2 (mu_sln u []) (mu_ft u) (mu_ff u) A9)).1 < 0 then dp else mu_up dp (mu_ff u).toNat 1) := by
      intro c
      rw [if_pos (of_decide_eq_true c)]
      exact ⟨-1, rfl, rfl, w5, s5, p5, ar, v, h6, t5, kc5, rfl, RU_m (RU_RT (RT_mono RA (Nat.le_refl _) (Nat.le_refl _) (by omega))) (by omega) (by omega), S5⟩
    refine xe_s (f := (13, [(1, _), (0, _)], _, _)) xt_g99 rfl rfl rfl rfl rfl ?_
    refine xe_s (f := (14, _, _, _)) xt_g99 rfl rfl rfl rfl rfl ?_
    refine xe_cR xt_g99 rfl rfl rfl (q := 17) rfl (kc_V xk_0_132 rfl (ko_44) (by omega) rfl rfl) xt_g126 (by decide) ⟨Nat.le_of_ble_eq_true rfl, Nat.le_of_ble_eq_true rfl, Nat.le_of_ble_eq_true rfl⟩ (k126 (by omega)) ?_
    rw [fte]
    refine xe_s (f := (18, [(2, _), (1, _), (0, _)], _, _)) xt_g99 rfl rfl rfl rfl rfl ?_
    refine xe_s (f := (19, _, _, _)) xt_g99 rfl rfl rfl rfl rfl ?_
    refine xe_cR xt_g99 rfl rfl rfl (q := 22) rfl (kc_V xk_0_135 rfl (ko_44) (by omega) rfl rfl) xt_g127 (by decide) ⟨Nat.le_of_ble_eq_true rfl, Nat.le_of_ble_eq_true rfl, Nat.le_of_ble_eq_true rfl⟩ (k127 (by omega)) ?_
    rw [ffe]
    refine xe_s (f := (23, [(3, _), (2, _), (1, _), (0, _)], _, _)) xt_g99 rfl rfl rfl rfl rfl ?_
    refine xe_s (f := (24, _, _, _)) xt_g99 rfl rfl rfl rfl rfl ?_
    refine xe_s (f := (27, _, _, _)) xt_g99 rfl rfl rfl rfl rfl ?_
    refine xe_s (f := (28, _, _, _)) xt_g99 rfl rfl rfl rfl rfl ?_
    refine xe_s (f := (29, _, xi (-1) :: _, _)) xt_g99 rfl rfl rfl rfl rfl ?_
    refine xe_ic_eq xt_g99 rfl (t := 45) rfl (q := 32) rfl (by first | omega | exact xb_r _) (by first | omega | exact xb_r _) (fun b29 => ?_) (fun b29 => ?_)
    · try simp only [xb_0, xb_1, ne_eq, Decidable.not_not, Bool.not_eq_false, Bool.not_eq_true, decide_eq_true_eq, decide_eq_false_iff_not] at b29
      refine xe_s (f := (46, _, xi (-1) :: _, _)) xt_g99 rfl rfl rfl rfl rfl ?_
      refine xe_iret xt_g99 rfl rfl xi_int.1 ?_
      try dsimp only
      exact no (decide_eq_true (by omega))
    · try simp only [xb_0, xb_1, ne_eq, Decidable.not_not, Bool.not_eq_false, Bool.not_eq_true, decide_eq_true_eq, decide_eq_false_iff_not] at b29
      refine xe_s (f := (33, _, _, _)) xt_g99 rfl rfl rfl rfl rfl ?_
      refine xe_s (f := (34, _, xi (-1) :: _, _)) xt_g99 rfl rfl rfl rfl rfl ?_
      refine xe_ic_eq xt_g99 rfl (t := 45) rfl (q := 37) rfl (by first | omega | exact xb_r _) (by first | omega | exact xb_r _) (fun b34 => ?_) (fun b34 => ?_)
      · try simp only [xb_0, xb_1, ne_eq, Decidable.not_not, Bool.not_eq_false, Bool.not_eq_true, decide_eq_true_eq, decide_eq_false_iff_not] at b34
        refine xe_s (f := (46, _, xi (-1) :: _, _)) xt_g99 rfl rfl rfl rfl rfl ?_
        refine xe_iret xt_g99 rfl rfl xi_int.1 ?_
        try dsimp only
        exact no (decide_eq_true (by omega))
      · try simp only [xb_0, xb_1, ne_eq, Decidable.not_not, Bool.not_eq_false, Bool.not_eq_true, decide_eq_true_eq, decide_eq_false_iff_not] at b34
        refine xe_s (f := (38, _, _, _)) xt_g99 rfl rfl rfl rfl rfl ?_
        refine xe_cR xt_g99 rfl rfl rfl (q := 41) rfl (kc_V xk_0_138 rfl (ko_44) (by omega) rfl rfl) xt_g128 (by decide) ⟨Nat.le_of_ble_eq_true rfl, Nat.le_of_ble_eq_true rfl, Nat.le_of_ble_eq_true rfl⟩ (k128 (by omega)) ?_
        rw [fqe]
        refine xe_s (f := (42, _, xi (-1) :: _, _)) xt_g99 rfl rfl rfl rfl rfl ?_
        refine xe_ic_ne xt_g99 rfl (t := 47) rfl (q := 45) rfl (by first | omega | exact xb_r _) (by first | omega | exact xb_r _) (fun b42 => ?_) (fun b42 => ?_)
        · try simp only [xb_0, xb_1, ne_eq, Decidable.not_not, Bool.not_eq_false, Bool.not_eq_true, decide_eq_true_eq, decide_eq_false_iff_not] at b42
          have c : ¬ (mu_ft u < 0 ∨ mu_ff u < 0 ∨ mu_fq u < 0) := by omega
          rw [if_neg c]
          dsimp only
          rw [if_neg (show ¬ mu_ft u < 0 by omega)]
          have tb0 : mu_tb u (mu_ft u).toNat = false := by
            rcases t1 with g | ⟨_, _, g⟩
            · omega
            · simpa using g
          have fr0 : mu_fr u (mu_ff u).toNat = none := by
            rcases f1 with g | ⟨_, _, g⟩
            · omega
            · exact Option.isNone_iff_eq_none.mp g
          refine xe_s (f := (48, _, _, _)) xt_g99 rfl rfl rfl rfl rfl ?_
          refine xe_s (f := (49, _, _, _)) xt_g99 rfl rfl rfl rfl rfl ?_
          refine xe_s (f := (50, _, _, _)) xt_g99 rfl rfl rfl rfl rfl ?_
          refine xe_s (f := (51, _, _, _)) xt_g99 rfl rfl rfl rfl rfl ?_
          refine xe_cA xt_g99 rfl rfl rfl (q := 54) rfl (kc_V xk_0_141 rfl (ko_44) (by omega) rfl rfl) xt_g129 (by decide) ⟨Nat.le_of_ble_eq_true rfl, Nat.le_of_ble_eq_true rfl, Nat.le_of_ble_eq_true rfl⟩ (k129 (d := 0) (pa := none) (by omega) (by omega) (fun q g => by cases g)) (fun x6 h7' n7 c7 u7 hs => ?_)
          obtain ⟨i1, i2, i3, i4⟩ := hs
          subst i2
          rw [i1, i3, i4]
          have kE : ke h6 n5 (va_up h6 n5 (.inr (9, [xi (mu_ff u), xi (mu_ft u), va_rf none, xi 1, .null]))) (n5 + 1) := ke_up (Nat.le_refl _) (by omega)
          refine xe_s (f := (56, [(4, _), (3, _), (2, _), (1, _), (0, _)], _, _)) xt_g99 rfl rfl rfl rfl rfl ?_
          refine xe_s (f := (57, _, _, _)) xt_g99 rfl rfl rfl rfl rfl ?_
          refine xe_gf xt_g99 rfl (q := 60) rfl (xf_0_41 fm) (ko_44) (by omega) rfl rfl ?_
          refine xe_s (f := (61, _, _, _)) xt_g99 rfl rfl rfl rfl rfl ?_
          refine xe_s (f := (63, _, _, _)) xt_g99 rfl rfl rfl rfl rfl ?_
          refine xe_ks_56 xt_g99 rfl (q := 64) rfl (by omega) (by omega) (by omega) ((ko_d (Or.inr (Or.inr (Or.inr (Or.inr (by omega)))))).trans va_up_s) (by omega) (by omega) ?_
          refine xe_s (f := (65, _, _, _)) xt_g99 rfl rfl rfl rfl rfl ?_
          refine xe_s (f := (66, _, _, _)) xt_g99 rfl rfl rfl rfl rfl ?_
          refine xe_kp_0_10 xt_g99 rfl (q := 69) rfl (xf_0_54 fm) (by omega) ?_
          have J : mI (mu_sfr (mu_sfo (mu_stb (mu_sln u []) (mu_up (mu_tb u) (mu_ft u).toNat true)) (mu_ft u)) (mu_up (mu_fr u) (mu_ff u).toNat (some (mu_ft u, -1, none)))) (mu_up dp (mu_ff u).toNat 1) := by
            have g := mI_open I0 (F := (mu_ff u).toNat) (T := (mu_ft u).toNat) (by omega) fr0 (by omega) tb0
            rw [show (((mu_ft u).toNat : Nat) : Int) = mu_ft u by omega] at g
            exact g
          have B := cB_new (X := (mu_ft u, -1, none)) (d := 1) S5.1.1 S5.2.1 I0 (F := (mu_ff u).toNat) (by omega) fr0 rfl (Or.inl (by dsimp only; omega)) (e9 := .inr (9, [xi (mu_ff u), xi (mu_ft u), va_rf none, xi 1, .null])) (by rw [show (((mu_ff u).toNat : Nat) : Int) = mu_ff u by omega]; rfl)
          have kP := ke_kp (w := w5) kE
          obtain ⟨a1, a2, a3, a4, a5, a6, a7, a8, a9, a10, a11, a12, a13⟩ := S5.2.1
          have S7 : cS w5 (xo_u s5 7 (mu_ft u)) p5 (aw (aw ar 3 (mu_ff u).toNat (some n5)) 2 (mu_ft u).toNat (some n5)) v (va_up h6 n5 (.inr (9, [xi (mu_ff u), xi (mu_ft u), va_rf none, xi 1, .null]))) (n5 + 1) t5 kc5 (mu_sfr (mu_sfo (mu_stb (mu_sln u []) (mu_up (mu_tb u) (mu_ft u).toNat true)) (mu_ft u)) (mu_up (mu_fr u) (mu_ff u).toNat (some (mu_ft u, -1, none)))) (mu_up dp (mu_ff u).toNat 1) := by
            have e33 : aw (aw ar 3 (mu_ff u).toNat (some n5)) 2 (mu_ft u).toNat (some n5) 3 = aw ar 3 (mu_ff u).toNat (some n5) 3 := aw_n (by decide)
            have oth : ∀ k, k ≠ 2 → k ≠ 3 → aw (aw ar 3 (mu_ff u).toNat (some n5)) 2 (mu_ft u).toNat (some n5) k = ar k := fun k g2 g3 => (aw_n g2).trans (aw_n g3)
            refine ⟨KW_ke S5.1 kE, ⟨cst_kp a1 S5.1.1 kP, sS_kp a2 kP, msL_kp a3 kP (xo_uN (by decide)) (oth 1 (by decide) (by decide)), xo_uS, sfL_kp a5 kP (xo_uN (by decide)) (oth 5 (by decide) (by decide)), (xo_uN (by decide)).trans a6, (xo_uN (by decide)).trans a7, ckL_kp a8 kP (xo_uN (by decide)) (oth 6 (by decide) (by decide)), fun i hi => ?_, ?_, ?_, orL_kp a12 kP (xo_uN (by decide)) (oth 0 (by decide) (by decide)), a13⟩, S5.2.2.1, S5.2.2.2.1, S5.2.2.2.2⟩
            · show aw (aw ar 3 (mu_ff u).toNat (some n5)) 2 (mu_ft u).toNat (some n5) 2 i = if mu_up (mu_tb u) (mu_ft u).toNat true i = true then _ else none
              rw [e33, aw_s]
              by_cases g : i = (mu_ft u).toNat
              · obtain ⟨X9, w1', w2', w3', w4', w5'⟩ := tp_is J (i := i) hi (by show mu_up (mu_tb u) (mu_ft u).toNat true i = true; rw [g, mu_upS])
                have e9 := J.2.2.2.2.2.1 _ (mu_ff u).toNat X9 (mu_ft u, -1, none) (by omega) (by omega) w3' mu_upS w5' (by dsimp only; omega) (by rw [w4', g]; dsimp only; omega)
                rw [e9, g, va_up_s, mu_upS, if_pos rfl, aw_s, va_up_s]
              · rw [va_up_n g, mu_upN g, aw_n (show (2 : Nat) ≠ 3 by decide), a9 i hi]
                by_cases gt : mu_tb u i = true
                · have gt' : mu_tb (mu_sln u []) i = true := gt
                  rw [if_pos gt, if_pos gt']
                  have ef : mu_tp (mu_sfr (mu_sfo (mu_stb (mu_sln u []) (mu_up (mu_tb u) (mu_ft u).toNat true)) (mu_ft u)) (mu_up (mu_fr u) (mu_ff u).toNat (some (mu_ft u, -1, none)))) i = mu_tp (mu_sln u []) i := by
                    refine xd_first_c 16 0 (fun j j0 j1 => ?_)
                    show mf_tp i (mu_up (mu_fr u) (mu_ff u).toNat (some (mu_ft u, -1, none)) j.toNat) = mf_tp i (mu_fr u j.toNat)
                    by_cases gj : j.toNat = (mu_ff u).toNat
                    · rw [gj, mu_upS, fr0]
                      show decide (mu_ft u = (i : Int) ∧ (-1 : Int) < 0) = false
                      exact decide_eq_false (fun q => by omega)
                    · rw [mu_upN gj]
                  rw [ef]
                  obtain ⟨X9, w1', w2', w3', w4', w5'⟩ := tp_is I0 (i := i) hi gt
                  rw [aw_s, va_up_n]
                  intro q
                  have w3' : mu_fr u (mu_tp (mu_sln u []) i).toNat = some X9 := w3'
                  rw [q, fr0] at w3'
                  cases w3'
                · have gt' : ¬ mu_tb (mu_sln u []) i = true := gt
                  rw [if_neg gt, if_neg gt']
            · rw [e33]
              exact frL_kp B.1 kp_refl e33
            · rw [e33]
              exact rqL_kp B.2 kp_refl (aw_n (by decide))
          obtain ⟨X9, fo9, g0', g1', eX9, e39, HO9⟩ := at_fr S7.2.1 (f := mu_ff u) (by unfold mu_if; rw [decide_eq_true (show 0 ≤ mu_ff u ∧ mu_ff u < 16 by omega)]; show (mu_up (mu_fr u) (mu_ff u).toNat (some (mu_ft u, -1, none)) (mu_ff u).toNat).isSome = true; rw [mu_upS]; rfl)
          have ef9 : fo9 = n5 := by
            rw [aw_n (show (3 : Nat) ≠ 2 by decide), aw_s, va_up_s] at e39
            cases e39
            rfl
          subst ef9
          refine xe_s (f := (70, _, _, _)) xt_g99 rfl rfl rfl rfl rfl ?_
          refine xe_s (f := (72, _, _, _)) xt_g99 rfl rfl rfl rfl rfl ?_
          refine xe_s (f := (73, _, _, _)) xt_g99 rfl rfl rfl rfl rfl ?_
          refine xe_cI xt_g99 rfl rfl rfl (q := 76) rfl (kc_V xk_0_145 rfl (ko_44) (by omega) rfl rfl) xt_g131 (by decide) ⟨Nat.le_of_ble_eq_true rfl, Nat.le_of_ble_eq_true rfl, Nat.le_of_ble_eq_true rfl⟩ (c131 hfm S7 J G.2.1 G.2.2.2.1 ⟨g0', g1'⟩ e39 HO9 (aO_kp HA kP)) (fun z8 h8' n8 c8 u8 ht => ?_)
          refine xe_s (f := (77, _, _, _)) xt_g99 rfl rfl rfl rfl rfl ?_
          refine xe_s (f := (78, _, _, _)) xt_g99 rfl rfl rfl rfl rfl ?_
          refine xe_iret xt_g99 rfl rfl xi_int.1 ?_
          try dsimp only
          obtain ⟨_, w9, s9, ar9, h9, t9, kc9, j2, j3, j4, _⟩ := ht
          exact ⟨mu_ft u, rfl, rfl, w9, s9, p5, ar9, v, h9, t9, kc9, j2, RU_m (RU_RT (RT_mono (RT_trans (RT_trans RA (RT_ke (B := 5) (C := 1) (u' := 5) S5.1 kE (Nat.le_refl _) (Nat.le_refl _))) j3) (Nat.le_refl _) (Nat.le_refl _) (by omega))) (by omega) (by omega), j4⟩
        · try simp only [xb_0, xb_1, ne_eq, Decidable.not_not, Bool.not_eq_false, Bool.not_eq_true, decide_eq_true_eq, decide_eq_false_iff_not] at b42
          refine xe_s (f := (46, _, xi (-1) :: _, _)) xt_g99 rfl rfl rfl rfl rfl ?_
          refine xe_iret xt_g99 rfl rfl xi_int.1 ?_
          try dsimp only
          exact no (decide_eq_true (by omega))
end XBY
