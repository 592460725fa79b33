/-! the text of a cookie: attributes -/
section XBF
variable {fm : Value} {w w' w1 w2 : kW} {s s' s1 s2 : Nat → Int} {p p' p1 p2 : Nat → Nat} {ar ar' : Nat → Nat → Option Nat} {v : Nat → Int} {h h' h1 h2 : xm_H} {n n' n1 n2 r k k' u' u1 u2 x y b : Nat} {l D W P N V : List Int} {L : List (List Int)} {A : pa_A} {q : at_T} {F : Nat → Prop} {t t' t1 t2 : Nat → List Int} {kc kc' kc1 kc2 : Nat → Nat}
/-- readAttribute -/
theorem k196 {a b : Int} (hfm : fm = .null ∨ ∃ j, fm = .ref j) (K : KW w h n t kc) (C : cst w h n) (HT : ctO w h n x N V q) (H : sS (gd w) h n r l) (h0 : 0 ≤ a) (hab : a ≤ b) (hb : b ≤ l.length) : xN fm 196 (ko w s p ar v h) n [.ref x, .ref r, xi a, xi b] (fun h' n' u' => ∃ h1, h' = ko w s p ar v h1 ∧ kx x h n h1 n' ∧ ctO w h1 n' x N V (at_one ((tr_m (lt l) a (pa_fd (lt l) 61 (b - a).toNat a)).map xd_sml) (tr_m (lt l) (if pa_fd (lt l) 61 (b - a).toNat a < b then pa_fd (lt l) 61 (b - a).toNat a + 1 else b) b) q) ∧ n' ≤ n + 4 * (b - a + 1).toNat ∧ u' ≤ 20 * (b - a + 1).toNat) := by
  have W0 := K.1.1
  obtain ⟨fs, F1, q1, ha, hl⟩ := sS_at H
  have ir := pa_fd_r (t := lt l) (c := 61) (b - a).toNat a
  generalize hI : pa_fd (lt l) 61 (b - a).toNat a = I at ir ⊢
  have kl := tr_m_len (t := lt l) (b := a) (e := I) (by omega)
  generalize hKK : (tr_m (lt l) a I).map xd_sml = KK
  have kkl : KK.length ≤ (I - a).toNat := by rw [← hKK, List.length_map]; exact kl
  have fin : ∀ (VV : List Int) (rk rv n1 u1 c1 : Nat) (h1 : xm_H), tr_m (lt l) (if I < b then I + 1 else b) b = VV → ke h n h1 n1 → sS (gd w) h1 n1 rk KK → sS (gd w) h1 n1 rv VV → n1 ≤ n + 3 + 4 * min 1 (b - a).toNat → u1 ≤ 12 + 4 * (b - a).toNat → VV.length ≤ (b - a).toNat → xe fm 196 (44, [(6, .ref rv), (5, .ref rk), (0, .ref x)], [], (ko w s p ar v h1, n1, c1, u1)) (fun q' M => q' = .inl none ∧ ∃ h1, M.1 = ko w s p ar v h1 ∧ kx x h n h1 M.2.1 ∧ ctO w h1 M.2.1 x N V (at_one KK VV q) ∧ M.2.1 ≤ n + 4 * (b - a + 1).toNat ∧ M.2.2.2 ≤ 20 * (b - a + 1).toNat) := by
    intro VV rk rv n1 u1 c1 h1 eV ke1 SK SV hn1 hu1 lV
    have N1 := ke1.1
    have K1 := KW_ke K ke1
    have C1 := cst_kp C K.1 (ke_kp ke1)
    have HT1 := ctO_ke HT ke1
    have HT1' := HT1
    obtain ⟨na, va, dn, pa, a1, a2, a3, a4, s1, s2, s3, s4, b1, b2, b3⟩ := HT1
    have X1 := (ko_d (w := w) (s := s) (p := p) (ar := ar) (v := v) a2.1).trans a1
    obtain ⟨fs, F2, q2, _, _⟩ := sS_at SK
    refine xe_s (f := (46, _, _, _)) xt_g196 rfl rfl rfl rfl rfl ?_
    refine xe_s (f := (48, _, .ref 27 :: _, _)) xt_g196 rfl rfl rfl rfl rfl ?_
    refine xe_cR xt_g196 rfl rfl rfl (q := 51) rfl (kc_V xk_4_64 rfl (F2 _ _ _ _ _) (by omega) rfl rfl) xt_g92 (by decide) ⟨Nat.le_of_ble_eq_true rfl, Nat.le_of_ble_eq_true rfl, Nat.le_of_ble_eq_true rfl⟩ (s92 (sS_ko SK) (sS_ko (C1.1 (27, [100, 111, 109, 97, 105, 110]) (by decide)))) ?_
    refine xe_if_eq xt_g196 rfl (t := 63) rfl (q := 54) rfl (by first | omega | exact xb_r _) (fun b51 => ?_) (fun b51 => ?_)
    · try simp only [xb_0, xb_1, ne_eq, Decidable.not_not, Bool.not_eq_false, Bool.not_eq_true, decide_eq_true_eq, decide_eq_false_iff_not] at b51
      refine xe_s (f := (65, _, _, _)) xt_g196 rfl rfl rfl rfl rfl ?_
      refine xe_s (f := (67, _, .ref 29 :: _, _)) xt_g196 rfl rfl rfl rfl rfl ?_
      refine xe_cR xt_g196 rfl rfl rfl (q := 70) rfl (kc_V xk_4_64 rfl (F2 _ _ _ _ _) (by omega) rfl rfl) xt_g92 (by decide) ⟨Nat.le_of_ble_eq_true rfl, Nat.le_of_ble_eq_true rfl, Nat.le_of_ble_eq_true rfl⟩ (s92 (sS_ko SK) (sS_ko (C1.1 (29, [112, 97, 116, 104]) (by decide)))) ?_
      refine xe_if_eq xt_g196 rfl (t := 98) rfl (q := 73) rfl (by first | omega | exact xb_r _) (fun b70 => ?_) (fun b70 => ?_)
      · try simp only [xb_0, xb_1, ne_eq, Decidable.not_not, Bool.not_eq_false, Bool.not_eq_true, decide_eq_true_eq, decide_eq_false_iff_not] at b70
        refine xe_s (f := (100, _, _, _)) xt_g196 rfl rfl rfl rfl rfl ?_
        refine xe_s (f := (102, _, .ref 31 :: _, _)) xt_g196 rfl rfl rfl rfl rfl ?_
        refine xe_cR xt_g196 rfl rfl rfl (q := 105) rfl (kc_V xk_4_64 rfl (F2 _ _ _ _ _) (by omega) rfl rfl) xt_g92 (by decide) ⟨Nat.le_of_ble_eq_true rfl, Nat.le_of_ble_eq_true rfl, Nat.le_of_ble_eq_true rfl⟩ (s92 (sS_ko SK) (sS_ko (C1.1 (31, [109, 97, 120, 45, 97, 103, 101]) (by decide)))) ?_
        refine xe_if_eq xt_g196 rfl (t := 117) rfl (q := 108) rfl (by first | omega | exact xb_r _) (fun b105 => ?_) (fun b105 => ?_)
        · try simp only [xb_0, xb_1, ne_eq, Decidable.not_not, Bool.not_eq_false, Bool.not_eq_true, decide_eq_true_eq, decide_eq_false_iff_not] at b105
          refine xe_s (f := (119, _, _, _)) xt_g196 rfl rfl rfl rfl rfl ?_
          refine xe_s (f := (121, _, .ref 35 :: _, _)) xt_g196 rfl rfl rfl rfl rfl ?_
          refine xe_cR xt_g196 rfl rfl rfl (q := 124) rfl (kc_V xk_4_64 rfl (F2 _ _ _ _ _) (by omega) rfl rfl) xt_g92 (by decide) ⟨Nat.le_of_ble_eq_true rfl, Nat.le_of_ble_eq_true rfl, Nat.le_of_ble_eq_true rfl⟩ (s92 (sS_ko SK) (sS_ko (C1.1 (35, [115, 101, 99, 117, 114, 101]) (by decide)))) ?_
          refine xe_if_eq xt_g196 rfl (t := 135) rfl (q := 127) rfl (by first | omega | exact xb_r _) (fun b124 => ?_) (fun b124 => ?_)
          · try simp only [xb_0, xb_1, ne_eq, Decidable.not_not, Bool.not_eq_false, Bool.not_eq_true, decide_eq_true_eq, decide_eq_false_iff_not] at b124
            refine xe_s (f := (137, _, _, _)) xt_g196 rfl rfl rfl rfl rfl ?_
            refine xe_s (f := (139, _, .ref 37 :: _, _)) xt_g196 rfl rfl rfl rfl rfl ?_
            refine xe_cR xt_g196 rfl rfl rfl (q := 142) rfl (kc_V xk_4_64 rfl (F2 _ _ _ _ _) (by omega) rfl rfl) xt_g92 (by decide) ⟨Nat.le_of_ble_eq_true rfl, Nat.le_of_ble_eq_true rfl, Nat.le_of_ble_eq_true rfl⟩ (s92 (sS_ko SK) (sS_ko (C1.1 (37, [104, 116, 116, 112, 111, 110, 108, 121]) (by decide)))) ?_
            refine xe_if_eq xt_g196 rfl (t := 150) rfl (q := 145) rfl (by first | omega | exact xb_r _) (fun b142 => ?_) (fun b142 => ?_)
            · try simp only [xb_0, xb_1, ne_eq, Decidable.not_not, Bool.not_eq_false, Bool.not_eq_true, decide_eq_true_eq, decide_eq_false_iff_not] at b142
              refine xe_ret xt_g196 rfl rfl ?_
              try dsimp only
              refine ⟨rfl, h1, rfl, kx_ke ke1, ?_, by omega, by omega⟩
              rw [at_one_N b51 b70 b105 b124 b142]
              exact HT1'
            · try simp only [xb_0, xb_1, ne_eq, Decidable.not_not, Bool.not_eq_false, Bool.not_eq_true, decide_eq_true_eq, decide_eq_false_iff_not] at b142
              refine xe_s (f := (146, _, _, _)) xt_g196 rfl rfl rfl rfl rfl ?_
              refine xe_s (f := (147, _, xi 1 :: _, _)) xt_g196 rfl rfl rfl rfl rfl ?_
              refine xe_pf xt_g196 rfl (q := 150) rfl (xf_4_91 fm) (X1) (by omega) (by omega) rfl (Nat.le_of_ble_eq_true rfl) (Nat.le_of_ble_eq_true rfl) (xi_bool (by first | omega | exact xb_or _)) (Or.inl rfl) ?_
              refine xe_ret xt_g196 rfl rfl ?_
              try dsimp only
              rw [ko_new (by omega)]
              refine ⟨rfl, _, rfl, kx_trans (kx_ke ke1) kx_up, ?_, by omega, by omega⟩
              have e3 : at_2 at_wH q = (q.1, q.2.1, q.2.2.1, q.2.2.2.1, true) := if_pos rfl
              rw [show KK = at_wH from b142, at_one_H, e3]
              exact ⟨na, va, dn, pa, va_up_s, a2, a3, a4, sS_up s1 a1 (by decide), sS_up s2 a1 (by decide), sS_up s3 a1 (by decide), sS_up s4 a1 (by decide), b1, b2, b3⟩
          · try simp only [xb_0, xb_1, ne_eq, Decidable.not_not, Bool.not_eq_false, Bool.not_eq_true, decide_eq_true_eq, decide_eq_false_iff_not] at b124
            refine xe_s (f := (128, _, _, _)) xt_g196 rfl rfl rfl rfl rfl ?_
            refine xe_s (f := (129, _, xi 1 :: _, _)) xt_g196 rfl rfl rfl rfl rfl ?_
            refine xe_pf xt_g196 rfl (q := 132) rfl (xf_4_86 fm) (X1) (by omega) (by omega) rfl (Nat.le_of_ble_eq_true rfl) (Nat.le_of_ble_eq_true rfl) (xi_bool (by first | omega | exact xb_or _)) (Or.inl rfl) ?_
            refine xe_s (f := (150, _, _, _)) xt_g196 rfl rfl rfl rfl rfl ?_
            refine xe_ret xt_g196 rfl rfl ?_
            try dsimp only
            rw [ko_new (by omega)]
            refine ⟨rfl, _, rfl, kx_trans (kx_ke ke1) kx_up, ?_, by omega, by omega⟩
            have e3 : at_1 at_wS q = (q.1, q.2.1, q.2.2.1, true, q.2.2.2.2) := if_pos rfl
            rw [show KK = at_wS from b124, at_one_S, e3]
            exact ⟨na, va, dn, pa, va_up_s, a2, a3, a4, sS_up s1 a1 (by decide), sS_up s2 a1 (by decide), sS_up s3 a1 (by decide), sS_up s4 a1 (by decide), b1, b2, b3⟩
        · try simp only [xb_0, xb_1, ne_eq, Decidable.not_not, Bool.not_eq_false, Bool.not_eq_true, decide_eq_true_eq, decide_eq_false_iff_not] at b105
          refine xe_s (f := (109, _, _, _)) xt_g196 rfl rfl rfl rfl rfl ?_
          refine xe_s (f := (111, _, _, _)) xt_g196 rfl rfl rfl rfl rfl ?_
          refine xe_cN xt_g196 rfl rfl rfl (q := 114) rfl (kc_V xk_4_81 rfl (X1) (by omega) rfl rfl) xt_g199 (by decide) ⟨Nat.le_of_ble_eq_true rfl, Nat.le_of_ble_eq_true rfl, Nat.le_of_ble_eq_true rfl⟩ (k199 hfm C1 HT1' SV) (fun h2' n2 c2 u2 hp => ?_)
          refine xe_s (f := (150, _, _, _)) xt_g196 rfl rfl rfl rfl rfl ?_
          refine xe_ret xt_g196 rfl rfl ?_
          try dsimp only
          obtain ⟨e1, e2, h2, e3, e4, e5⟩ := hp
          rw [e3]
          refine ⟨rfl, h2, rfl, by rw [e1]; exact kx_trans (kx_ke ke1) e4, ?_, by omega, by omega⟩
          rw [show KK = at_wA from b105, at_one_A, e1]
          exact e5
      · try simp only [xb_0, xb_1, ne_eq, Decidable.not_not, Bool.not_eq_false, Bool.not_eq_true, decide_eq_true_eq, decide_eq_false_iff_not] at b70
        refine xe_s (f := (74, _, _, _)) xt_g196 rfl rfl rfl rfl rfl ?_
        refine xe_s (f := (76, _, _, _)) xt_g196 rfl rfl rfl rfl rfl ?_
        refine xe_s (f := (77, _, xi 0 :: _, _)) xt_g196 rfl rfl rfl rfl rfl ?_
        refine xe_s (f := (79, _, .ref 11 :: _, _)) xt_g196 rfl rfl rfl rfl rfl ?_
        refine xe_cR xt_g196 rfl rfl rfl (q := 82) rfl (kc_S xk_4_75 (Nat.le_of_ble_eq_true rfl)) xt_g140 (by decide) ⟨Nat.le_of_ble_eq_true rfl, Nat.le_of_ble_eq_true rfl, Nat.le_of_ble_eq_true rfl⟩ (s140 hfm (sS_ko SV) (sS_ko (C1.1 (11, [47]) (by decide))) (by omega)) ?_
        rw [stA_0 (V := VV) (c := 47) (by decide)]
        refine xe_if_eq xt_g196 rfl (t := 90) rfl (q := 85) rfl (by first | omega | exact xb_r _) (fun b82 => ?_) (fun b82 => ?_)
        · try simp only [xb_0, xb_1, ne_eq, Decidable.not_not, Bool.not_eq_false, Bool.not_eq_true, decide_eq_true_eq, decide_eq_false_iff_not] at b82
          refine xe_s (f := (92, _, .ref 1 :: _, _)) xt_g196 rfl rfl rfl rfl rfl ?_
          refine xe_pf xt_g196 rfl (q := 95) rfl (xf_4_17 fm) (X1) (by omega) (by omega) rfl (Nat.le_of_ble_eq_true rfl) (Nat.le_of_ble_eq_true rfl) ⟨rfl, rfl⟩ (Or.inl rfl) ?_
          refine xe_s (f := (150, _, _, _)) xt_g196 rfl rfl rfl rfl rfl ?_
          refine xe_ret xt_g196 rfl rfl ?_
          try dsimp only
          rw [ko_new (by omega)]
          refine ⟨rfl, _, rfl, kx_trans (kx_ke ke1) kx_up, ?_, by omega, by omega⟩
          have e3 : at_3 at_wP VV q = (q.1, none, q.2.2) := by unfold at_3; rw [if_pos rfl, if_neg b82]
          rw [show KK = at_wP from b70, at_one_P, e3]
          exact ⟨na, va, dn, 1, va_up_s, a2, a3, a4, sS_up s1 a1 (by decide), sS_up s2 a1 (by decide), sS_up s3 a1 (by decide), sS_up (C1.1 (1, []) (by decide)) a1 (by decide), b1, fun g => (by cases g), b3⟩
        · try simp only [xb_0, xb_1, ne_eq, Decidable.not_not, Bool.not_eq_false, Bool.not_eq_true, decide_eq_true_eq, decide_eq_false_iff_not] at b82
          refine xe_s (f := (87, _, _, _)) xt_g196 rfl rfl rfl rfl rfl ?_
          refine xe_s (f := (92, _, _, _)) xt_g196 rfl rfl rfl rfl rfl ?_
          refine xe_pf xt_g196 rfl (q := 95) rfl (xf_4_17 fm) (X1) (by omega) (by omega) rfl (Nat.le_of_ble_eq_true rfl) (Nat.le_of_ble_eq_true rfl) ⟨rfl, rfl⟩ (Or.inl rfl) ?_
          refine xe_s (f := (150, _, _, _)) xt_g196 rfl rfl rfl rfl rfl ?_
          refine xe_ret xt_g196 rfl rfl ?_
          try dsimp only
          rw [ko_new (by omega)]
          refine ⟨rfl, _, rfl, kx_trans (kx_ke ke1) kx_up, ?_, by omega, by omega⟩
          have e3 : at_3 at_wP VV q = (q.1, some VV, q.2.2) := by unfold at_3; rw [if_pos rfl, if_pos b82]
          rw [show KK = at_wP from b70, at_one_P, e3]
          exact ⟨na, va, dn, rv, va_up_s, a2, a3, a4, sS_up s1 a1 (by decide), sS_up s2 a1 (by decide), sS_up s3 a1 (by decide), sS_up SV a1 (by decide), b1, fun g => by injection g with g; rw [g] at b82; exact absurd b82 (by decide), b3⟩
    · try simp only [xb_0, xb_1, ne_eq, Decidable.not_not, Bool.not_eq_false, Bool.not_eq_true, decide_eq_true_eq, decide_eq_false_iff_not] at b51
      have l6 : 6 ≤ (I - a).toNat := by rw [b51] at kkl; exact kkl
      refine xe_s (f := (55, _, _, _)) xt_g196 rfl rfl rfl rfl rfl ?_
      refine xe_s (f := (57, _, _, _)) xt_g196 rfl rfl rfl rfl rfl ?_
      refine xe_cN xt_g196 rfl rfl rfl (q := 60) rfl (kc_V xk_4_68 rfl (X1) (by omega) rfl rfl) xt_g197 (by decide) ⟨Nat.le_of_ble_eq_true rfl, Nat.le_of_ble_eq_true rfl, Nat.le_of_ble_eq_true rfl⟩ (k197 hfm K1 C1 HT1' SV) (fun h2' n2 c2 u2 hp => ?_)
      refine xe_s (f := (150, _, _, _)) xt_g196 rfl rfl rfl rfl rfl ?_
      refine xe_ret xt_g196 rfl rfl ?_
      try dsimp only
      obtain ⟨h2, e1, e2, e3, e4, e5⟩ := hp
      subst e1
      refine ⟨rfl, h2, rfl, kx_trans (kx_ke ke1) e2, ?_, by omega, by omega⟩
      rw [show KK = at_wD from b51, at_one_D]
      exact e3
  unfold xN
  refine xe_s (f := (1, _, _, _)) xt_g196 rfl rfl rfl rfl rfl ?_
  refine xe_bipush xt_g196 rfl (q := 3) rfl (by decide) (by decide) ?_
  refine xe_s (f := (4, _, _, _)) xt_g196 rfl rfl rfl rfl rfl ?_
  refine xe_s (f := (5, _, _, _)) xt_g196 rfl rfl rfl rfl rfl ?_
  refine xe_cR xt_g196 rfl rfl rfl (q := 8) rfl (kc_S xk_4_36 (Nat.le_of_ble_eq_true rfl)) xt_g192 (by decide) ⟨Nat.le_of_ble_eq_true rfl, Nat.le_of_ble_eq_true rfl, Nat.le_of_ble_eq_true rfl⟩ (s192 (c := 61) hfm (sS_ko H) (by omega) hb h0 hab) ?_
  rw [hI]
  refine xe_s (f := (10, [(4, _), (0, _), (1, _), (2, _), (3, _)], _, _)) xt_g196 rfl rfl rfl rfl rfl ?_
  refine xe_s (f := (11, _, _, _)) xt_g196 rfl rfl rfl rfl rfl ?_
  refine xe_s (f := (12, _, _, _)) xt_g196 rfl rfl rfl rfl rfl ?_
  refine xe_s (f := (14, _, _, _)) xt_g196 rfl rfl rfl rfl rfl ?_
  refine xe_cA xt_g196 rfl rfl rfl (q := 17) rfl (kc_S xk_4_40 (Nat.le_of_ble_eq_true rfl)) xt_g193 (by decide) ⟨Nat.le_of_ble_eq_true rfl, Nat.le_of_ble_eq_true rfl, Nat.le_of_ble_eq_true rfl⟩ (k193 (a := a) (e := I) hfm K C H h0 (by omega) (by omega)) (fun x1 h1' n1 c1 u1 hp => ?_)
  obtain ⟨h2, rfl, ke1, S1, n1', u1'⟩ := hp
  have N1 := ke1.1
  have K1 := KW_ke K ke1
  have C1 := cst_kp C K.1 (ke_kp ke1)
  refine xe_cA xt_g196 rfl rfl rfl (q := 20) rfl (kc_S xk_4_59 (Nat.le_of_ble_eq_true rfl)) xt_g72 (by decide) ⟨Nat.le_of_ble_eq_true rfl, Nat.le_of_ble_eq_true rfl, Nat.le_of_ble_eq_true rfl⟩ (k72 K1 C1 S1) (fun x2 h2' n2 c2 u2 hq => ?_)
  obtain ⟨h3, rfl, ke2, S2, n2', u2'⟩ := hq
  rw [hKK] at S2
  have N2 := ke2.1
  have K2 := KW_ke K1 ke2
  have C2 := cst_kp C1 K1.1 (ke_kp ke2)
  have H2 := sS_ke (sS_ke H ke1) ke2
  refine xe_s (f := (22, [(5, _), (4, _), (0, _), (1, _), (2, _), (3, _)], _, _)) xt_g196 rfl rfl rfl rfl rfl ?_
  refine xe_s (f := (24, _, _, _)) xt_g196 rfl rfl rfl rfl rfl ?_
  refine xe_s (f := (25, _, _, _)) xt_g196 rfl rfl rfl rfl rfl ?_
  refine xe_ic_ne xt_g196 rfl (t := 33) rfl (q := 28) rfl (by first | omega | exact xb_r _) (by first | omega | exact xb_r _) (fun b25 => ?_) (fun b25 => ?_)
  · try simp only [xb_0, xb_1, ne_eq, Decidable.not_not, Bool.not_eq_false, Bool.not_eq_true, decide_eq_true_eq, decide_eq_false_iff_not] at b25
    refine xe_s (f := (34, _, _, _)) xt_g196 rfl rfl rfl rfl rfl ?_
    refine xe_s (f := (36, _, _, _)) xt_g196 rfl rfl rfl rfl rfl ?_
    refine xe_s (f := (37, _, xi 1 :: _, _)) xt_g196 rfl rfl rfl rfl rfl ?_
    refine xe_iadd xt_g196 rfl (q := 38) rfl ?_
    refine xe_s (f := (39, _, _, _)) xt_g196 rfl rfl rfl rfl rfl ?_
    refine xe_cA xt_g196 rfl rfl rfl (q := 42) rfl (kc_S xk_4_40 (Nat.le_of_ble_eq_true rfl)) xt_g193 (by decide) ⟨Nat.le_of_ble_eq_true rfl, Nat.le_of_ble_eq_true rfl, Nat.le_of_ble_eq_true rfl⟩ (k193 (a := I + 1) (e := b) hfm K2 C2 H2 (by omega) (by omega) hb) (fun x3 h3' n3 c3 u3 hr => ?_)
    obtain ⟨h4, rfl, ke3, S3, n3', u3'⟩ := hr
    refine xe_s (f := (44, [(6, _), (5, _), (4, _), (0, _), (1, _), (2, _), (3, _)], _, _)) xt_g196 rfl rfl rfl rfl rfl ?_
    have e0 : I < b := by omega
    have vl := tr_m_len (t := lt l) (b := I + 1) (e := b) (by omega)
    rw [if_pos e0]
    exact xe_loc (by intro q hq; simp only [List.mem_cons, List.not_mem_nil, or_false] at hq; rcases hq with rfl | rfl | rfl <;> rfl) ((fin _ x2 x3 n3 _ _ h4 (by rw [if_pos e0]) (ke_trans (ke_trans ke1 ke2) ke3) (sS_ke S2 ke3) S3 (by omega) (by omega) (by omega)))
  · try simp only [xb_0, xb_1, ne_eq, Decidable.not_not, Bool.not_eq_false, Bool.not_eq_true, decide_eq_true_eq, decide_eq_false_iff_not] at b25
    refine xe_s (f := (30, _, .ref 1 :: _, _)) xt_g196 rfl rfl rfl rfl rfl ?_
    refine xe_s (f := (42, _, _, _)) xt_g196 rfl rfl rfl rfl rfl ?_
    refine xe_s (f := (44, [(6, _), (5, _), (4, _), (0, _), (1, _), (2, _), (3, _)], _, _)) xt_g196 rfl rfl rfl rfl rfl ?_
    have e0 : ¬ I < b := by omega
    have eV : tr_m (lt l) (if I < b then I + 1 else b) b = [] := by
      rw [if_neg e0]
      have := tr_m_len (t := lt l) (b := b) (e := b) (by omega)
      exact List.eq_nil_of_length_eq_zero (by omega)
    rw [eV]
    exact xe_loc (by intro q hq; simp only [List.mem_cons, List.not_mem_nil, or_false] at hq; rcases hq with rfl | rfl | rfl <;> rfl) ((fin [] x2 1 n2 _ _ h3 eV (ke_trans ke1 ke2) S2 (C2.1 (1, []) (by decide)) (by omega) (by omega) (Nat.zero_le _)))
/-- new CookieText -/
theorem k195 {f0 f1 f2 f3 f4 f5 f6 : Value} {na va : Nat} (ha : h x = .inr (13, [f0, f1, f2, f3, f4, f5, f6])) (h44 : 44 ≤ x) (hx : x < n) : xN fm 195 h n [.ref x, .ref na, .ref va] (fun h' n' u' => h' = va_up h x (.inr (13, [.ref na, .ref va, .ref 1, .ref 1, xi (-1), f5, f6])) ∧ n' = n ∧ u' = 0) := by
  unfold xN
  refine xe_s (f := (1, _, _, _)) xt_g195 rfl rfl rfl rfl rfl ?_
  refine xe_obj xt_g195 rfl (q := 4) rfl xz0_4_3 (xp_4_3 fm) (Nat.le_of_ble_eq_true rfl) ?_
  refine xe_s (f := (5, _, _, _)) xt_g195 rfl rfl rfl rfl rfl ?_
  refine xe_s (f := (7, _, .ref 1 :: _, _)) xt_g195 rfl rfl rfl rfl rfl ?_
  refine xe_pf xt_g195 rfl (q := 10) rfl (xf_4_11 fm) (ha) (by omega) (by omega) rfl (Nat.le_of_ble_eq_true rfl) (Nat.le_of_ble_eq_true rfl) ⟨rfl, rfl⟩ (Or.inl rfl) ?_
  refine xe_s (f := (11, _, _, _)) xt_g195 rfl rfl rfl rfl rfl ?_
  refine xe_s (f := (13, _, .ref 1 :: _, _)) xt_g195 rfl rfl rfl rfl rfl ?_
  refine xe_pf xt_g195 rfl (q := 16) rfl (xf_4_17 fm) (va_up_s) (by omega) (by omega) rfl (Nat.le_of_ble_eq_true rfl) (Nat.le_of_ble_eq_true rfl) ⟨rfl, rfl⟩ (Or.inl rfl) ?_
  refine xe_s (f := (17, _, _, _)) xt_g195 rfl rfl rfl rfl rfl ?_
  refine xe_s (f := (18, _, xi (-1) :: _, _)) xt_g195 rfl rfl rfl rfl rfl ?_
  refine xe_pf xt_g195 rfl (q := 21) rfl (xf_4_20 fm) (va_up_s) (by omega) (by omega) rfl (Nat.le_of_ble_eq_true rfl) (Nat.le_of_ble_eq_true rfl) xi_int (Or.inl rfl) ?_
  refine xe_s (f := (22, _, _, _)) xt_g195 rfl rfl rfl rfl rfl ?_
  refine xe_s (f := (23, _, _, _)) xt_g195 rfl rfl rfl rfl rfl ?_
  refine xe_pf xt_g195 rfl (q := 26) rfl (xf_4_24 fm) (va_up_s) (by omega) (by omega) rfl (Nat.le_of_ble_eq_true rfl) (Nat.le_of_ble_eq_true rfl) ⟨rfl, rfl⟩ (Or.inr ⟨by decide, rfl⟩) ?_
  refine xe_s (f := (27, _, _, _)) xt_g195 rfl rfl rfl rfl rfl ?_
  refine xe_s (f := (28, _, _, _)) xt_g195 rfl rfl rfl rfl rfl ?_
  refine xe_pf xt_g195 rfl (q := 31) rfl (xf_4_27 fm) (va_up_s) (by omega) (by omega) rfl (Nat.le_of_ble_eq_true rfl) (Nat.le_of_ble_eq_true rfl) ⟨rfl, rfl⟩ (Or.inr ⟨by decide, rfl⟩) ?_
  refine xe_ret xt_g195 rfl rfl ?_
  try dsimp only
  rw [va_uu, va_uu, va_uu, va_uu]
  exact ⟨rfl, rfl, rfl, rfl⟩
theorem k191_loop (hfm : fm = .null ∨ ∃ j, fm = .ref j) (hl : l.length ≤ 200) : ∀ (m F : Nat) (j k : Int) (q : at_T) (h : xm_H) (n c u : Nat), j + m = l.length + 1 → 0 ≤ k → k < j → ((j = l.length + 1 ∧ k = l.length) ∨ (j ≤ l.length ∧ pa_fd (lt l) 59 (l.length - j).toNat j = at_e (lt l) l.length k)) → (l.length - k).toNat ≤ F → KW w h n t kc → cst w h n → ctO w h n x N V q → sS (gd w) h n r l → xe fm 191 (94, [(7, xi j), (6, xi (k + 1)), (5, .ref x), (0, .ref r)], [], (ko w s p ar v h, n, c, u)) (fun q' M => q' = .inl (some (.ref x)) ∧ ∃ h1, M.1 = ko w s p ar v h1 ∧ kx x h n h1 M.2.1 ∧ ctO w h1 M.2.1 x N V (at_lp (lt l) l.length F k q) ∧ M.2.1 ≤ n + 4 * (l.length - k).toNat ∧ M.2.2.2 ≤ u + 20 * (l.length - k).toNat) := by
  intro m
  induction m with
  | zero =>
    intro F j k q h n c u hm h0 hk hd hF K C HT H
    obtain ⟨fs, F1, q1, ha, hl'⟩ := sS_at H
    have e : at_lp (lt l) l.length F k q = q := by
      cases F with
      | zero => rfl
      | succ F => rw [at_lp, if_neg (by omega)]
    rw [e]
    refine xe_s (f := (96, _, _, _)) xt_g191 rfl rfl rfl rfl rfl ?_
    refine xe_s (f := (97, _, _, _)) xt_g191 rfl rfl rfl rfl rfl ?_
    refine xe_cR xt_g191 rfl rfl rfl (q := 100) rfl (kc_V xk_4_30 rfl (F1 _ _ _ _ _) (by omega) rfl rfl) xt_g31 (by decide) ⟨Nat.le_of_ble_eq_true rfl, Nat.le_of_ble_eq_true rfl, Nat.le_of_ble_eq_true rfl⟩ (s31 (sS_ko H)) ?_
    refine xe_ic_gt xt_g191 rfl (t := 145) rfl (q := 103) rfl (by first | omega | exact xb_r _) (by first | omega | exact xb_r _) (fun b100 => ?_) (fun b100 => ?_)
    · try simp only [xb_0, xb_1, ne_eq, Decidable.not_not, Bool.not_eq_false, Bool.not_eq_true, decide_eq_true_eq, decide_eq_false_iff_not] at b100
      refine xe_s (f := (147, _, _, _)) xt_g191 rfl rfl rfl rfl rfl ?_
      refine xe_aret xt_g191 rfl (Or.inl ⟨_, rfl⟩) rfl ?_
      try dsimp only
      exact ⟨rfl, h, rfl, kx_ke ke_refl, HT, by omega, by omega⟩
    · exact absurd b100 (by omega)
  | succ m ih =>
    intro F j k q h n c u hm h0 hk hd hF K C HT H
    have W0 := K.1.1
    obtain ⟨fs, F1, q1, ha, hl'⟩ := sS_at H
    have a1 := lt_r ha j
    have hd2 : j ≤ l.length ∧ pa_fd (lt l) 59 (l.length - j).toNat j = at_e (lt l) l.length k := by
      rcases hd with g | g
      · omega
      · exact g
    obtain ⟨d1, d2⟩ := hd2
    obtain ⟨F, rfl⟩ : ∃ i, F = i + 1 := ⟨F - 1, by omega⟩
    have HT' := HT
    obtain ⟨na, va, dn, pa, b1, b2, b3, b4, _⟩ := HT'
    have X1 := (ko_d (w := w) (s := s) (p := p) (ar := ar) (v := v) b2.1).trans b1
    have fin : at_e (lt l) l.length k = j → ∀ c u, xe fm 191 (123, [(7, xi j), (6, xi (k + 1)), (5, .ref x), (0, .ref r)], [], (ko w s p ar v h, n, c, u)) (fun q' M => q' = .inl (some (.ref x)) ∧ ∃ h1, M.1 = ko w s p ar v h1 ∧ kx x h n h1 M.2.1 ∧ ctO w h1 M.2.1 x N V (at_lp (lt l) l.length (F + 1) k q) ∧ M.2.1 ≤ n + 4 * (l.length - k).toNat ∧ M.2.2.2 ≤ u + 20 * (l.length - k).toNat) := by
      intro ee c u
      have e : at_lp (lt l) l.length (F + 1) k q = at_lp (lt l) l.length F j (at_one ((tr_m (lt l) (k + 1) (pa_fd (lt l) 61 (j - (k + 1)).toNat (k + 1))).map xd_sml) (tr_m (lt l) (if pa_fd (lt l) 61 (j - (k + 1)).toNat (k + 1) < j then pa_fd (lt l) 61 (j - (k + 1)).toNat (k + 1) + 1 else j) j) q) := by
        rw [at_lp, if_pos (by omega)]
        unfold at_K at_V at_i
        rw [ee]
      rw [e]
      refine xe_s (f := (125, _, _, _)) xt_g191 rfl rfl rfl rfl rfl ?_
      refine xe_s (f := (126, _, _, _)) xt_g191 rfl rfl rfl rfl rfl ?_
      refine xe_s (f := (128, _, _, _)) xt_g191 rfl rfl rfl rfl rfl ?_
      refine xe_s (f := (130, _, _, _)) xt_g191 rfl rfl rfl rfl rfl ?_
      refine xe_cN xt_g191 rfl rfl rfl (q := 133) rfl (kc_V xk_4_55 rfl (X1) (by omega) rfl rfl) xt_g196 (by decide) ⟨Nat.le_of_ble_eq_true rfl, Nat.le_of_ble_eq_true rfl, Nat.le_of_ble_eq_true rfl⟩ (k196 (a := k + 1) (b := j) hfm K C HT H (by omega) (by omega) d1) (fun h2' n2 c2 u2 hp => ?_)
      obtain ⟨h3, rfl, kx2, HT2, n2', u2'⟩ := hp
      have N2 := kx2.1
      refine xe_s (f := (135, _, _, _)) xt_g191 rfl rfl rfl rfl rfl ?_
      refine xe_s (f := (136, _, xi 1 :: _, _)) xt_g191 rfl rfl rfl rfl rfl ?_
      refine xe_iadd xt_g191 rfl (q := 137) rfl ?_
      refine xe_s (f := (139, [(6, _), (7, _), (5, _), (0, _)], _, _)) xt_g191 rfl rfl rfl rfl rfl ?_
      refine xe_iinc xt_g191 rfl (q := 142) rfl rfl (by decide) (L1 := [(7, _), (6, _), (5, _), (0, _)]) rfl ?_
      refine xe_s (f := (94, _, _, _)) xt_g191 rfl rfl rfl rfl rfl ?_
      have g := ih F (j + 1) j _ h3 n2 (c + c2) (u + u2) (by omega) (by omega) (by omega) (by
        by_cases g : j = l.length
        · exact Or.inl ⟨by omega, g⟩
        · exact Or.inr ⟨by omega, rfl⟩) (by omega) (KW_kx K b1 kx2) (cst_kx C (by omega) b1 (by omega) kx2) HT2 (sS_kx H b1 kx2)
      refine xe_mono (xe_loc (by intro q hq; simp only [List.mem_cons, List.not_mem_nil, or_false] at hq; rcases hq with rfl | rfl | rfl | rfl <;> rfl) (g)) (fun r M hM => ?_)
      obtain ⟨g1, h4, g2, g3, g4, g5, g6⟩ := hM
      exact ⟨g1, h4, g2, kx_trans kx2 g3, g4, by omega, by omega⟩
    refine xe_s (f := (96, _, _, _)) xt_g191 rfl rfl rfl rfl rfl ?_
    refine xe_s (f := (97, _, _, _)) xt_g191 rfl rfl rfl rfl rfl ?_
    refine xe_cR xt_g191 rfl rfl rfl (q := 100) rfl (kc_V xk_4_30 rfl (F1 _ _ _ _ _) (by omega) rfl rfl) xt_g31 (by decide) ⟨Nat.le_of_ble_eq_true rfl, Nat.le_of_ble_eq_true rfl, Nat.le_of_ble_eq_true rfl⟩ (s31 (sS_ko H)) ?_
    refine xe_ic_gt xt_g191 rfl (t := 145) rfl (q := 103) rfl (by first | omega | exact xb_r _) (by first | omega | exact xb_r _) (fun b100 => ?_) (fun b100 => ?_)
    · exact absurd b100 (by omega)
    · try simp only [xb_0, xb_1, ne_eq, Decidable.not_not, Bool.not_eq_false, Bool.not_eq_true, decide_eq_true_eq, decide_eq_false_iff_not] at b100
      refine xe_s (f := (105, _, _, _)) xt_g191 rfl rfl rfl rfl rfl ?_
      refine xe_s (f := (106, _, _, _)) xt_g191 rfl rfl rfl rfl rfl ?_
      refine xe_cR xt_g191 rfl rfl rfl (q := 109) rfl (kc_V xk_4_30 rfl (F1 _ _ _ _ _) (by omega) rfl rfl) xt_g31 (by decide) ⟨Nat.le_of_ble_eq_true rfl, Nat.le_of_ble_eq_true rfl, Nat.le_of_ble_eq_true rfl⟩ (s31 (sS_ko H)) ?_
      refine xe_ic_eq xt_g191 rfl (t := 123) rfl (q := 112) rfl (by first | omega | exact xb_r _) (by first | omega | exact xb_r _) (fun b109 => ?_) (fun b109 => ?_)
      · try simp only [xb_0, xb_1, ne_eq, Decidable.not_not, Bool.not_eq_false, Bool.not_eq_true, decide_eq_true_eq, decide_eq_false_iff_not] at b109
        exact xe_loc (by intro q hq; simp only [List.mem_cons, List.not_mem_nil, or_false] at hq; rcases hq with rfl | rfl | rfl | rfl <;> rfl) ((fin (by rw [← d2, show ((l.length : Int) - j).toNat = 0 by omega]; rfl) c u))
      · try simp only [xb_0, xb_1, ne_eq, Decidable.not_not, Bool.not_eq_false, Bool.not_eq_true, decide_eq_true_eq, decide_eq_false_iff_not] at b109
        refine xe_s (f := (113, _, _, _)) xt_g191 rfl rfl rfl rfl rfl ?_
        refine xe_s (f := (115, _, _, _)) xt_g191 rfl rfl rfl rfl rfl ?_
        refine xe_cR xt_g191 rfl rfl rfl (q := 118) rfl (kc_V xk_4_51 rfl (F1 _ _ _ _ _) (by omega) rfl rfl) xt_g85 (by decide) ⟨Nat.le_of_ble_eq_true rfl, Nat.le_of_ble_eq_true rfl, Nat.le_of_ble_eq_true rfl⟩ (s85t hfm (sS_ko H) (by omega) (by omega)) ?_
        refine xe_bipush xt_g191 rfl (q := 120) rfl (by decide) (by decide) ?_
        refine xe_ic_ne xt_g191 rfl (t := 139) rfl (q := 123) rfl (by first | omega | exact xb_r _) (by first | omega | exact xb_r _) (fun b120 => ?_) (fun b120 => ?_)
        · try simp only [xb_0, xb_1, ne_eq, Decidable.not_not, Bool.not_eq_false, Bool.not_eq_true, decide_eq_true_eq, decide_eq_false_iff_not] at b120
          refine xe_iinc xt_g191 rfl (q := 142) rfl rfl (by decide) (L1 := [(7, _), (6, _), (5, _), (0, _)]) rfl ?_
          refine xe_s (f := (94, _, _, _)) xt_g191 rfl rfl rfl rfl rfl ?_
          have g := ih (F + 1) (j + 1) k q h n c u (by omega) h0 (by omega) (Or.inr ⟨by omega, by
            obtain ⟨i, hi⟩ : ∃ i, ((l.length : Int) - j).toNat = i + 1 := ⟨((l.length : Int) - j).toNat - 1, by omega⟩
            rw [← d2, hi, show ((l.length : Int) - (j + 1)).toNat = i by omega]
            exact (if_neg b120).symm⟩) hF K C HT H
          exact xe_loc (by intro q hq; simp only [List.mem_cons, List.not_mem_nil, or_false] at hq; rcases hq with rfl | rfl | rfl | rfl <;> rfl) (g)
        · try simp only [xb_0, xb_1, ne_eq, Decidable.not_not, Bool.not_eq_false, Bool.not_eq_true, decide_eq_true_eq, decide_eq_false_iff_not] at b120
          have ee : at_e (lt l) l.length k = j := by
            obtain ⟨i, hi⟩ : ∃ i, ((l.length : Int) - j).toNat = i + 1 := ⟨((l.length : Int) - j).toNat - 1, by omega⟩
            rw [← d2, hi]
            exact if_pos b120
          exact xe_loc (by intro q hq; simp only [List.mem_cons, List.not_mem_nil, or_false] at hq; rcases hq with rfl | rfl | rfl | rfl <;> rfl) ((fin ee c u))
/-- of -/
theorem k191 (hfm : fm = .null ∨ ∃ j, fm = .ref j) (K : KW w h n t kc) (C : cst w h n) (H : sS (gd w) h n r l) (hl : l.length ≤ 200) : xO fm 191 (ko w s p ar v h) n [.ref r] (fun o h' n' u' => ∃ h1, h' = ko w s p ar v h1 ∧ ke h n h1 n' ∧ n' ≤ n + 5 + 4 * l.length ∧ u' ≤ 15 + 21 * l.length ∧ (ck_pair (lt l) (pa_fd (lt l) 59 l.length 0) = none → o = none) ∧ ∀ pr, ck_pair (lt l) (pa_fd (lt l) 59 l.length 0) = some pr → ∃ x, o = some x ∧ ctO w h1 n' x pr.1 pr.2 (at_lp (lt l) l.length ((l.length : Int) + 1).toNat (pa_fd (lt l) 59 l.length 0) at_0) ∧ pr.1.length ≤ 12 ∧ pr.2.length ≤ 12) := by
  have W0 := K.1.1
  obtain ⟨fs, F1, q1, ha, hl'⟩ := sS_at H
  have er := pa_fd_r (t := lt l) (c := 59) l.length 0
  generalize hE : pa_fd (lt l) 59 l.length 0 = E at er ⊢
  have sr := pa_fd_r (t := lt l) (c := 61) E.toNat 0
  unfold ck_pair
  generalize hS : pa_fd (lt l) 61 E.toNat 0 = S at sr ⊢
  unfold xO
  refine xe_s (f := (1, _, _, _)) xt_g191 rfl rfl rfl rfl rfl ?_
  refine xe_bipush xt_g191 rfl (q := 3) rfl (by decide) (by decide) ?_
  refine xe_s (f := (4, _, xi 0 :: _, _)) xt_g191 rfl rfl rfl rfl rfl ?_
  refine xe_s (f := (5, _, _, _)) xt_g191 rfl rfl rfl rfl rfl ?_
  refine xe_cR xt_g191 rfl rfl rfl (q := 8) rfl (kc_V xk_4_30 rfl (F1 _ _ _ _ _) (by omega) rfl rfl) xt_g31 (by decide) ⟨Nat.le_of_ble_eq_true rfl, Nat.le_of_ble_eq_true rfl, Nat.le_of_ble_eq_true rfl⟩ (s31 (sS_ko H)) ?_
  refine xe_cR xt_g191 rfl rfl rfl (q := 11) rfl (kc_S xk_4_36 (Nat.le_of_ble_eq_true rfl)) xt_g192 (by decide) ⟨Nat.le_of_ble_eq_true rfl, Nat.le_of_ble_eq_true rfl, Nat.le_of_ble_eq_true rfl⟩ (s192 (c := 59) hfm (sS_ko H) (by omega) (Int.le_refl _) (by omega) (by omega)) ?_
  rw [show ((l.length : Int) - 0).toNat = l.length by omega, hE]
  refine xe_s (f := (12, [(1, _), (0, _)], _, _)) xt_g191 rfl rfl rfl rfl rfl ?_
  refine xe_s (f := (13, _, _, _)) xt_g191 rfl rfl rfl rfl rfl ?_
  refine xe_bipush xt_g191 rfl (q := 15) rfl (by decide) (by decide) ?_
  refine xe_s (f := (16, _, xi 0 :: _, _)) xt_g191 rfl rfl rfl rfl rfl ?_
  refine xe_s (f := (17, _, _, _)) xt_g191 rfl rfl rfl rfl rfl ?_
  refine xe_cR xt_g191 rfl rfl rfl (q := 20) rfl (kc_S xk_4_36 (Nat.le_of_ble_eq_true rfl)) xt_g192 (by decide) ⟨Nat.le_of_ble_eq_true rfl, Nat.le_of_ble_eq_true rfl, Nat.le_of_ble_eq_true rfl⟩ (s192 (c := 61) (to := E) hfm (sS_ko H) (by omega) (by omega) (by omega) (by omega)) ?_
  rw [show (E - 0).toNat = E.toNat by omega, hS]
  refine xe_s (f := (21, [(2, _), (1, _), (0, _)], _, _)) xt_g191 rfl rfl rfl rfl rfl ?_
  refine xe_s (f := (22, _, _, _)) xt_g191 rfl rfl rfl rfl rfl ?_
  refine xe_s (f := (23, _, _, _)) xt_g191 rfl rfl rfl rfl rfl ?_
  refine xe_ic_ne xt_g191 rfl (t := 28) rfl (q := 26) rfl (by first | omega | exact xb_r _) (by first | omega | exact xb_r _) (fun b23 => ?_) (fun b23 => ?_)
  · try simp only [xb_0, xb_1, ne_eq, Decidable.not_not, Bool.not_eq_false, Bool.not_eq_true, decide_eq_true_eq, decide_eq_false_iff_not] at b23
    rw [if_neg b23]
    refine xe_s (f := (29, _, _, _)) xt_g191 rfl rfl rfl rfl rfl ?_
    refine xe_s (f := (30, _, xi 0 :: _, _)) xt_g191 rfl rfl rfl rfl rfl ?_
    refine xe_s (f := (31, _, _, _)) xt_g191 rfl rfl rfl rfl rfl ?_
    refine xe_cA xt_g191 rfl rfl rfl (q := 34) rfl (kc_S xk_4_40 (Nat.le_of_ble_eq_true rfl)) xt_g193 (by decide) ⟨Nat.le_of_ble_eq_true rfl, Nat.le_of_ble_eq_true rfl, Nat.le_of_ble_eq_true rfl⟩ (k193 (a := 0) (e := S) hfm K C H (by omega) (by omega) (by omega)) (fun x1 h1' n1 c1 u1 hp => ?_)
    obtain ⟨h2, rfl, ke1, S1, n1', u1'⟩ := hp
    have N1 := ke1.1
    have K1 := KW_ke K ke1
    have C1 := cst_kp C K.1 (ke_kp ke1)
    have l1 := tr_m_len (t := lt l) (b := 0) (e := S) (by omega)
    generalize hN : tr_m (lt l) 0 S = NN at S1 l1 ⊢
    refine xe_s (f := (35, [(3, _), (2, _), (1, _), (0, _)], _, _)) xt_g191 rfl rfl rfl rfl rfl ?_
    refine xe_s (f := (36, _, _, _)) xt_g191 rfl rfl rfl rfl rfl ?_
    refine xe_s (f := (37, _, _, _)) xt_g191 rfl rfl rfl rfl rfl ?_
    refine xe_s (f := (38, _, xi 1 :: _, _)) xt_g191 rfl rfl rfl rfl rfl ?_
    refine xe_iadd xt_g191 rfl (q := 39) rfl ?_
    refine xe_s (f := (40, _, _, _)) xt_g191 rfl rfl rfl rfl rfl ?_
    refine xe_cA xt_g191 rfl rfl rfl (q := 43) rfl (kc_S xk_4_40 (Nat.le_of_ble_eq_true rfl)) xt_g193 (by decide) ⟨Nat.le_of_ble_eq_true rfl, Nat.le_of_ble_eq_true rfl, Nat.le_of_ble_eq_true rfl⟩ (k193 (a := S + 1) (e := E) hfm K1 C1 (sS_ke H ke1) (by omega) (by omega) (by omega)) (fun x2 h2' n2 c2 u2 hq => ?_)
    obtain ⟨h3, rfl, ke2, S2, n2', u2'⟩ := hq
    have N2 := ke2.1
    have K2 := KW_ke K1 ke2
    have C2 := cst_kp C1 K1.1 (ke_kp ke2)
    have l2 := tr_m_len (t := lt l) (b := S + 1) (e := E) (by omega)
    generalize hV : tr_m (lt l) (S + 1) E = VV at S2 l2 ⊢
    have S1' := sS_ke S1 ke2
    obtain ⟨fs2, F2, _, _, _⟩ := sS_at S1'
    obtain ⟨fs3, F3, _, _, _⟩ := sS_at S2
    have kE0 := ke_trans ke1 ke2
    refine xe_s (f := (45, [(4, _), (3, _), (2, _), (1, _), (0, _)], _, _)) xt_g191 rfl rfl rfl rfl rfl ?_
    refine xe_s (f := (46, _, _, _)) xt_g191 rfl rfl rfl rfl rfl ?_
    refine xe_cR xt_g191 rfl rfl rfl (q := 49) rfl (kc_V xk_4_44 rfl (F2 _ _ _ _ _) (by omega) rfl rfl) xt_g194 (by decide) ⟨Nat.le_of_ble_eq_true rfl, Nat.le_of_ble_eq_true rfl, Nat.le_of_ble_eq_true rfl⟩ (s194 (sS_ko S1')) ?_
    refine xe_if_ne xt_g191 rfl (t := 71) rfl (q := 52) rfl (by first | omega | exact xb_r _) (fun b49 => ?_) (fun b49 => ?_)
    · try simp only [xb_0, xb_1, ne_eq, Decidable.not_not, Bool.not_eq_false, Bool.not_eq_true, decide_eq_true_eq, decide_eq_false_iff_not] at b49
      refine xe_s (f := (72, _, _, _)) xt_g191 rfl rfl rfl rfl rfl ?_
      refine xe_aret xt_g191 rfl (Or.inl ⟨_, rfl⟩) rfl ?_
      try dsimp only
      have c0 : NN = [] ∨ 12 < NN.length ∨ 12 < VV.length := Or.inl (List.isEmpty_iff.mp b49)
      exact ⟨none, rfl, h3, rfl, kE0, by omega, by omega, fun _ => rfl, fun pr e => by rw [if_pos c0] at e; cases e⟩
    · try simp only [xb_0, xb_1, ne_eq, Decidable.not_not, Bool.not_eq_false, Bool.not_eq_true, decide_eq_true_eq, decide_eq_false_iff_not] at b49
      refine xe_s (f := (53, _, _, _)) xt_g191 rfl rfl rfl rfl rfl ?_
      refine xe_cR xt_g191 rfl rfl rfl (q := 56) rfl (kc_V xk_4_30 rfl (F2 _ _ _ _ _) (by omega) rfl rfl) xt_g31 (by decide) ⟨Nat.le_of_ble_eq_true rfl, Nat.le_of_ble_eq_true rfl, Nat.le_of_ble_eq_true rfl⟩ (s31 (sS_ko S1')) ?_
      refine xe_bipush xt_g191 rfl (q := 58) rfl (by decide) (by decide) ?_
      refine xe_ic_gt xt_g191 rfl (t := 71) rfl (q := 61) rfl (by first | omega | exact xb_r _) (by first | omega | exact xb_r _) (fun b58 => ?_) (fun b58 => ?_)
      · try simp only [xb_0, xb_1, ne_eq, Decidable.not_not, Bool.not_eq_false, Bool.not_eq_true, decide_eq_true_eq, decide_eq_false_iff_not] at b58
        refine xe_s (f := (72, _, _, _)) xt_g191 rfl rfl rfl rfl rfl ?_
        refine xe_aret xt_g191 rfl (Or.inl ⟨_, rfl⟩) rfl ?_
        try dsimp only
        have c0 : NN = [] ∨ 12 < NN.length ∨ 12 < VV.length := Or.inr (Or.inl (by omega))
        exact ⟨none, rfl, h3, rfl, kE0, by omega, by omega, fun _ => rfl, fun pr e => by rw [if_pos c0] at e; cases e⟩
      · try simp only [xb_0, xb_1, ne_eq, Decidable.not_not, Bool.not_eq_false, Bool.not_eq_true, decide_eq_true_eq, decide_eq_false_iff_not] at b58
        refine xe_s (f := (63, _, _, _)) xt_g191 rfl rfl rfl rfl rfl ?_
        refine xe_cR xt_g191 rfl rfl rfl (q := 66) rfl (kc_V xk_4_30 rfl (F3 _ _ _ _ _) (by omega) rfl rfl) xt_g31 (by decide) ⟨Nat.le_of_ble_eq_true rfl, Nat.le_of_ble_eq_true rfl, Nat.le_of_ble_eq_true rfl⟩ (s31 (sS_ko S2)) ?_
        refine xe_bipush xt_g191 rfl (q := 68) rfl (by decide) (by decide) ?_
        refine xe_ic_le xt_g191 rfl (t := 73) rfl (q := 71) rfl (by first | omega | exact xb_r _) (by first | omega | exact xb_r _) (fun b68 => ?_) (fun b68 => ?_)
        · try simp only [xb_0, xb_1, ne_eq, Decidable.not_not, Bool.not_eq_false, Bool.not_eq_true, decide_eq_true_eq, decide_eq_false_iff_not] at b68
          have c0 : ¬ (NN = [] ∨ 12 < NN.length ∨ 12 < VV.length) := by
            rintro (g | g | g)
            · rw [g] at b49; exact absurd b49 (by decide)
            · omega
            · omega
          rw [if_neg c0]
          refine xe_new (k := 7) (fs := [.null, .null, .null, .null, xi 0, xi 0, xi 0]) xt_g191 rfl rfl (q := 76) rfl (xn_4_12 fm) rfl rfl rfl ?_
          rw [ko_new (by omega)]
          refine xe_s (f := (77, _, _, _)) xt_g191 rfl rfl rfl rfl rfl ?_
          refine xe_s (f := (78, _, _, _)) xt_g191 rfl rfl rfl rfl rfl ?_
          refine xe_s (f := (80, _, _, _)) xt_g191 rfl rfl rfl rfl rfl ?_
          refine xe_cN xt_g191 rfl rfl rfl (q := 83) rfl (kc_P xk_4_48 rfl) xt_g195 (by decide) ⟨Nat.le_of_ble_eq_true rfl, Nat.le_of_ble_eq_true rfl, Nat.le_of_ble_eq_true rfl⟩ (k195 ((ko_d (Or.inr (Or.inr (Or.inr (Or.inr (by omega)))))).trans va_up_s) (by omega) (by omega)) (fun h4' n4 c4 u4 hs => ?_)
          obtain ⟨e1, e2, e3⟩ := hs
          subst e1
          rw [ko_new (by omega), va_uu, e2, e3]
          have ke3 : ke h3 n2 (va_up h3 n2 (.inr (13, [.ref x1, .ref x2, .ref 1, .ref 1, xi (-1), xi 0, xi 0]))) (n2 + 1) := ke_up (Nat.le_refl _) (by omega)
          refine xe_s (f := (85, [(5, _), (4, _), (3, _), (2, _), (1, _), (0, _)], _, _)) xt_g191 rfl rfl rfl rfl rfl ?_
          refine xe_s (f := (86, _, _, _)) xt_g191 rfl rfl rfl rfl rfl ?_
          refine xe_s (f := (87, _, xi 1 :: _, _)) xt_g191 rfl rfl rfl rfl rfl ?_
          refine xe_iadd xt_g191 rfl (q := 88) rfl ?_
          refine xe_s (f := (90, [(6, _), (5, _), (4, _), (3, _), (2, _), (1, _), (0, _)], _, _)) xt_g191 rfl rfl rfl rfl rfl ?_
          refine xe_s (f := (92, _, _, _)) xt_g191 rfl rfl rfl rfl rfl ?_
          refine xe_s (f := (94, [(7, _), (6, _), (5, _), (4, _), (3, _), (2, _), (1, _), (0, _)], _, _)) xt_g191 rfl rfl rfl rfl rfl ?_
          have g := k191_loop (fm := fm) (s := s) (p := p) (ar := ar) (v := v) (r := r) (x := n2) (N := NN) (V := VV) hfm hl ((l.length : Int) - E).toNat ((l.length : Int) + 1).toNat (E + 1) E at_0 _ (n2 + 1) (0 + c1 + c2 + 1 + c4) (0 + u1 + u2 + 7 + 0) (by omega) (by omega) (by omega) (by
            by_cases g : E = l.length
            · exact Or.inl ⟨by omega, g⟩
            · exact Or.inr ⟨by omega, rfl⟩) (by omega) (KW_ke K2 ke3) (cst_kp C2 K2.1 (ke_kp ke3)) ⟨x1, x2, 1, 1, va_up_s, gd_n K2.1 (Nat.le_refl _), by omega, by omega, sS_ke S1' ke3, sS_ke S2 ke3, sS_ke (C2.1 (1, []) (by decide)) ke3, sS_ke (C2.1 (1, []) (by decide)) ke3, fun g => (by cases g), fun g => (by cases g), fun z g => by cases g⟩ (sS_ke (sS_ke H kE0) ke3)
          refine xe_mono (xe_loc (by intro q hq; simp only [List.mem_cons, List.not_mem_nil, or_false] at hq; rcases hq with rfl | rfl | rfl | rfl <;> rfl) (g)) (fun r M hM => ?_)
          obtain ⟨g1, h5, g2, g3, g4, g5, g6⟩ := hM
          refine ⟨some n2, g1, h5, g2, kx_out g3 (ke_trans kE0 ke3) (by omega), by omega, by omega, fun e => (by cases e), fun pr e => ?_⟩
          cases e
          exact ⟨n2, rfl, g4, by dsimp only; omega, by dsimp only; omega⟩
        · try simp only [xb_0, xb_1, ne_eq, Decidable.not_not, Bool.not_eq_false, Bool.not_eq_true, decide_eq_true_eq, decide_eq_false_iff_not] at b68
          refine xe_s (f := (72, _, _, _)) xt_g191 rfl rfl rfl rfl rfl ?_
          refine xe_aret xt_g191 rfl (Or.inl ⟨_, rfl⟩) rfl ?_
          try dsimp only
          have c0 : NN = [] ∨ 12 < NN.length ∨ 12 < VV.length := Or.inr (Or.inr (by omega))
          exact ⟨none, rfl, h3, rfl, kE0, by omega, by omega, fun _ => rfl, fun pr e => by rw [if_pos c0] at e; cases e⟩
  · try simp only [xb_0, xb_1, ne_eq, Decidable.not_not, Bool.not_eq_false, Bool.not_eq_true, decide_eq_true_eq, decide_eq_false_iff_not] at b23
    refine xe_s (f := (27, _, _, _)) xt_g191 rfl rfl rfl rfl rfl ?_
    refine xe_aret xt_g191 rfl (Or.inl ⟨_, rfl⟩) rfl ?_
    try dsimp only
    exact ⟨none, rfl, h, rfl, ke_refl, by omega, by omega, fun _ => rfl, fun pr e => by rw [if_pos b23] at e; cases e⟩
end XBF
