/-! the reader of addresses: port, tails -/
section XB2
variable {fm : Value} {w w' w1 w2 : kW} {s s' s1 s2 : Nat → Int} {p p' p1 p2 : Nat → Nat} {ar : Nat → Nat → Option Nat} {v : Nat → Int} {h h' h1 h2 : xm_H} {n n' n1 n2 r k u' u1 u2 : Nat} {l L W : List Int} {t t' t1 t2 : Nat → List Int} {kc kc' kc1 kc2 : Nat → Nat}
def portR (w : kW) (s : Nat → Int) (p : Nat → Nat) (ar : Nat → Nat → Option Nat) (v : Nat → Int) (h : xm_H) (n : Nat) (o : Option (Int × Int)) (z : Int) (h' : xm_H) (n' u' : Nat) : Prop := n' = n ∧ u' = 0 ∧ ∃ s', h' = ko w s' p ar v h ∧ (∀ k, k ≠ 8 → k ≠ 10 → s' k = s k) ∧ ((z = 0 ∧ o = none) ∨ (z = 1 ∧ o = some (s' 10, s' 8)))
theorem k108_end (hn : 64 ≤ n) {f c val : Int} {s1 : Nat → Int} (e8 : s1 8 = f + c) (e10 : s1 10 = val) (es : ∀ k, k ≠ 8 → k ≠ 10 → s1 k = s k) (hf : 0 ≤ f ∧ f ≤ 1000) (hc : 0 ≤ c ∧ c ≤ 6) (hv : 0 ≤ val ∧ val < 1000000) (hz : c = 0 → val = 0) : xe fm 108 (91, [(1, xi f), (0, .ref 49)], [], (ko w s1 p ar v h, n, 0, 0)) (fun r M => ∃ z : Int, r = .inl (some (xi z)) ∧ portR w s p ar v h n (if c < 1 ∨ 5 < c ∨ val < 1 ∨ 65535 < val then none else some (val, f + c)) z M.1 M.2.1 M.2.2.2) := by
  have r8 : xr (s1 8) := by constructor <;> omega
  refine xe_s (f := (92, _, _, _)) xt_g108 rfl rfl rfl rfl rfl ?_
  refine xe_gf xt_g108 rfl (q := 95) rfl (xf_2_33 fm) (ko_49) (by omega) rfl rfl ?_
  refine xe_s (f := (96, _, _, _)) xt_g108 rfl rfl rfl rfl rfl ?_
  refine xe_isub xt_g108 rfl (q := 97) rfl ?_
  refine xe_s (f := (98, _, xi 5 :: _, _)) xt_g108 rfl rfl rfl rfl rfl ?_
  refine xe_ic_gt xt_g108 rfl (t := 122) rfl (q := 101) rfl (by first | omega | exact xb_r _) (by first | omega | exact xb_r _) (fun b98 => ?_) (fun b98 => ?_)
  · try simp only [xb_0, xb_1, ne_eq, Decidable.not_not, Bool.not_eq_false, Bool.not_eq_true, decide_eq_true_eq, decide_eq_false_iff_not] at b98
    skip
    refine xe_s (f := (123, _, xi 0 :: _, _)) xt_g108 rfl rfl rfl rfl rfl ?_
    refine xe_iret xt_g108 rfl rfl (xi_bool (by first | omega | exact xb_or _)).1 ?_
    try dsimp only
    rw [if_pos (by omega)]
    exact ⟨0, rfl, rfl, rfl, s1, rfl, es, Or.inl ⟨rfl, rfl⟩⟩
  · try simp only [xb_0, xb_1, ne_eq, Decidable.not_not, Bool.not_eq_false, Bool.not_eq_true, decide_eq_true_eq, decide_eq_false_iff_not] at b98
    refine xe_s (f := (102, _, _, _)) xt_g108 rfl rfl rfl rfl rfl ?_
    refine xe_gf xt_g108 rfl (q := 105) rfl (xf_2_115 fm) (ko_49) (by omega) rfl rfl ?_
    refine xe_s (f := (106, _, xi 1 :: _, _)) xt_g108 rfl rfl rfl rfl rfl ?_
    refine xe_ic_lt xt_g108 rfl (t := 122) rfl (q := 109) rfl (by first | omega | exact xb_r _) (by first | omega | exact xb_r _) (fun b106 => ?_) (fun b106 => ?_)
    · try simp only [xb_0, xb_1, ne_eq, Decidable.not_not, Bool.not_eq_false, Bool.not_eq_true, decide_eq_true_eq, decide_eq_false_iff_not] at b106
      refine xe_s (f := (123, _, xi 0 :: _, _)) xt_g108 rfl rfl rfl rfl rfl ?_
      refine xe_iret xt_g108 rfl rfl (xi_bool (by first | omega | exact xb_or _)).1 ?_
      try dsimp only
      rw [if_pos (by omega)]
      exact ⟨0, rfl, rfl, rfl, s1, rfl, es, Or.inl ⟨rfl, rfl⟩⟩
    · try simp only [xb_0, xb_1, ne_eq, Decidable.not_not, Bool.not_eq_false, Bool.not_eq_true, decide_eq_true_eq, decide_eq_false_iff_not] at b106
      refine xe_s (f := (110, _, _, _)) xt_g108 rfl rfl rfl rfl rfl ?_
      refine xe_gf xt_g108 rfl (q := 113) rfl (xf_2_115 fm) (ko_49) (by omega) rfl rfl ?_
      refine xe_ldci (z := 65535) xt_g108 rfl (q := 115) rfl rfl (by decide) ?_
      refine xe_ic_gt xt_g108 rfl (t := 122) rfl (q := 118) rfl (by first | omega | exact xb_r _) (by first | omega | exact xb_r _) (fun b115 => ?_) (fun b115 => ?_)
      · try simp only [xb_0, xb_1, ne_eq, Decidable.not_not, Bool.not_eq_false, Bool.not_eq_true, decide_eq_true_eq, decide_eq_false_iff_not] at b115
        refine xe_s (f := (123, _, xi 0 :: _, _)) xt_g108 rfl rfl rfl rfl rfl ?_
        refine xe_iret xt_g108 rfl rfl (xi_bool (by first | omega | exact xb_or _)).1 ?_
        try dsimp only
        rw [if_pos (by omega)]
        exact ⟨0, rfl, rfl, rfl, s1, rfl, es, Or.inl ⟨rfl, rfl⟩⟩
      · try simp only [xb_0, xb_1, ne_eq, Decidable.not_not, Bool.not_eq_false, Bool.not_eq_true, decide_eq_true_eq, decide_eq_false_iff_not] at b115
        refine xe_s (f := (119, _, xi 1 :: _, _)) xt_g108 rfl rfl rfl rfl rfl ?_
        refine xe_s (f := (123, _, _, _)) xt_g108 rfl rfl rfl rfl rfl ?_
        refine xe_iret xt_g108 rfl rfl (xi_bool (by first | omega | exact xb_or _)).1 ?_
        try dsimp only
        rw [if_neg (by omega)]
        exact ⟨1, rfl, rfl, rfl, s1, rfl, es, Or.inr ⟨rfl, by rw [e8, e10]⟩⟩
theorem k108_loop (hfm : fm = .null ∨ ∃ j, fm = .ref j) (hn : 64 ≤ n) (H : sS (gd w) h n (p 4) l) {f : Int} (hf : 0 ≤ f ∧ f ≤ 1000) : ∀ (N : Nat) (j val : Int) (s1 : Nat → Int), j + N = 6 → 0 ≤ j → s1 8 = f + j → s1 10 = val → (∀ k, k ≠ 8 → k ≠ 10 → s1 k = s k) → 0 ≤ val → val < 10 ^ j.toNat → (j = 0 → val = 0) →
    xe fm 108 (39, [(1, xi f), (0, .ref 49)], [], (ko w s1 p ar v h, n, 0, 0)) (fun r M => ∃ z : Int, r = .inl (some (xi z)) ∧ portR w s p ar v h n (if j + xd_cnt xd_dig (lt l) N (f + j) < 1 ∨ 5 < j + xd_cnt xd_dig (lt l) N (f + j) ∨ pa_num (lt l) N (f + j) val < 1 ∨ 65535 < pa_num (lt l) N (f + j) val then none else some (pa_num (lt l) N (f + j) val, f + (j + xd_cnt xd_dig (lt l) N (f + j)))) z M.1 M.2.1 M.2.2.2) := by
  have hl : asc l := H.choose_spec.choose_spec.choose_spec.2.2.2.2.2.2.1
  intro N
  induction N with
  | zero =>
    intro j val s1 hj h0 e8 e10 es hv0 hv1 hz
    have j6 : j = 6 := by omega
    subst j6
    have hv1 : val < 1000000 := hv1
    have a1 := lt_r hl (s1 8)
    have r8 : xr (s1 8) := by constructor <;> omega
    have E := k108_end (fm := fm) (w := w) (p := p) (ar := ar) (v := v) (h := h) (s := s) hn e8 e10 es hf (by omega) ⟨hv0, hv1⟩ hz
    rw [show xd_cnt xd_dig (lt l) 0 (f + 6) = 0 from rfl, show pa_num (lt l) 0 (f + 6) val = val from rfl, Int.add_zero]
    refine xe_s (f := (40, _, _, _)) xt_g108 rfl rfl rfl rfl rfl ?_
    refine xe_cR xt_g108 rfl rfl rfl (q := 43) rfl (kc_V xk_2_93 rfl (ko_49) (by omega) rfl rfl) xt_g110 (by decide) ⟨Nat.le_of_ble_eq_true rfl, Nat.le_of_ble_eq_true rfl, Nat.le_of_ble_eq_true rfl⟩ (k110 (l := l) hfm hn H (by omega)) ?_
    refine xe_cR xt_g108 rfl rfl rfl (q := 46) rfl (kc_S xk_2_128 (Nat.le_of_ble_eq_true rfl)) xt_g89 (by decide) ⟨Nat.le_of_ble_eq_true rfl, Nat.le_of_ble_eq_true rfl, Nat.le_of_ble_eq_true rfl⟩ (s89 a1) ?_
    refine xe_if_eq xt_g108 rfl (t := 91) rfl (q := 49) rfl (by first | omega | exact xb_r _) (fun b46 => ?_) (fun b46 => ?_)
    · try simp only [xb_0, xb_1, ne_eq, Decidable.not_not, Bool.not_eq_false, Bool.not_eq_true, decide_eq_true_eq, decide_eq_false_iff_not] at b46
      exact E
    · try simp only [xb_0, xb_1, ne_eq, Decidable.not_not, Bool.not_eq_false, Bool.not_eq_true, decide_eq_true_eq, decide_eq_false_iff_not] at b46
      refine xe_s (f := (50, _, _, _)) xt_g108 rfl rfl rfl rfl rfl ?_
      refine xe_gf xt_g108 rfl (q := 53) rfl (xf_2_33 fm) (ko_49) (by omega) rfl rfl ?_
      refine xe_s (f := (54, _, _, _)) xt_g108 rfl rfl rfl rfl rfl ?_
      refine xe_isub xt_g108 rfl (q := 55) rfl ?_
      refine xe_s (f := (56, _, xi 5 :: _, _)) xt_g108 rfl rfl rfl rfl rfl ?_
      refine xe_ic_gt xt_g108 rfl (t := 91) rfl (q := 59) rfl (by first | omega | exact xb_r _) (by first | omega | exact xb_r _) (fun b56 => ?_) (fun b56 => ?_)
      · try simp only [xb_0, xb_1, ne_eq, Decidable.not_not, Bool.not_eq_false, Bool.not_eq_true, decide_eq_true_eq, decide_eq_false_iff_not] at b56
        exact E
      · exact absurd b56 (by omega)
  | succ N ih =>
    intro j val s1 hj h0 e8 e10 es hv0 hv1 hz
    have pw : (10 : Int) ^ j.toNat ≤ 100000 := by
      rcases (by omega : j = 0 ∨ j = 1 ∨ j = 2 ∨ j = 3 ∨ j = 4 ∨ j = 5) with e | e | e | e | e | e <;> (rw [e]; decide)
    have pw1 : (10 : Int) ^ (j + 1).toNat = 10 ^ j.toNat * 10 := by
      rw [show (j + 1).toNat = j.toNat + 1 by omega, Int.pow_succ]
    have a1 := lt_r hl (s1 8)
    have a2 : lt l (s1 8) = lt l (f + j) := by rw [e8]
    have r8 : xr (s1 8) := by constructor <;> omega
    rw [show xd_cnt xd_dig (lt l) (N + 1) (f + j) = if xd_dig (lt l (f + j)) = true then 1 + xd_cnt xd_dig (lt l) N (f + j + 1) else 0 from rfl, show pa_num (lt l) (N + 1) (f + j) val = if xd_dig (lt l (f + j)) = true then pa_num (lt l) N (f + j + 1) (10 * val + lt l (f + j) - 48) else val from rfl]
    refine xe_s (f := (40, _, _, _)) xt_g108 rfl rfl rfl rfl rfl ?_
    refine xe_cR xt_g108 rfl rfl rfl (q := 43) rfl (kc_V xk_2_93 rfl (ko_49) (by omega) rfl rfl) xt_g110 (by decide) ⟨Nat.le_of_ble_eq_true rfl, Nat.le_of_ble_eq_true rfl, Nat.le_of_ble_eq_true rfl⟩ (k110 (l := l) hfm hn H (by omega)) ?_
    refine xe_cR xt_g108 rfl rfl rfl (q := 46) rfl (kc_S xk_2_128 (Nat.le_of_ble_eq_true rfl)) xt_g89 (by decide) ⟨Nat.le_of_ble_eq_true rfl, Nat.le_of_ble_eq_true rfl, Nat.le_of_ble_eq_true rfl⟩ (s89 a1) ?_
    refine xe_if_eq xt_g108 rfl (t := 91) rfl (q := 49) rfl (by first | omega | exact xb_r _) (fun b46 => ?_) (fun b46 => ?_)
    · try simp only [xb_0, xb_1, ne_eq, Decidable.not_not, Bool.not_eq_false, Bool.not_eq_true, decide_eq_true_eq, decide_eq_false_iff_not] at b46
      rw [a2] at b46
      simp only [b46, Bool.false_eq_true, reduceIte, Int.add_zero]
      exact k108_end (fm := fm) hn e8 e10 es hf (by omega) ⟨hv0, by omega⟩ hz
    · try simp only [xb_0, xb_1, ne_eq, Decidable.not_not, Bool.not_eq_false, Bool.not_eq_true, decide_eq_true_eq, decide_eq_false_iff_not] at b46
      refine xe_s (f := (50, _, _, _)) xt_g108 rfl rfl rfl rfl rfl ?_
      refine xe_gf xt_g108 rfl (q := 53) rfl (xf_2_33 fm) (ko_49) (by omega) rfl rfl ?_
      refine xe_s (f := (54, _, _, _)) xt_g108 rfl rfl rfl rfl rfl ?_
      refine xe_isub xt_g108 rfl (q := 55) rfl ?_
      refine xe_s (f := (56, _, xi 5 :: _, _)) xt_g108 rfl rfl rfl rfl rfl ?_
      refine xe_ic_gt xt_g108 rfl (t := 91) rfl (q := 59) rfl (by first | omega | exact xb_r _) (by first | omega | exact xb_r _) (fun b56 => ?_) (fun b56 => ?_)
      · exact absurd b56 (by omega)
      · try simp only [xb_0, xb_1, ne_eq, Decidable.not_not, Bool.not_eq_false, Bool.not_eq_true, decide_eq_true_eq, decide_eq_false_iff_not] at b56
        refine xe_s (f := (60, _, _, _)) xt_g108 rfl rfl rfl rfl rfl ?_
        refine xe_s (f := (61, _, _, _)) xt_g108 rfl rfl rfl rfl rfl ?_
        refine xe_gf xt_g108 rfl (q := 64) rfl (xf_2_115 fm) (ko_49) (by omega) rfl rfl ?_
        refine xe_bipush xt_g108 rfl (q := 66) rfl (by decide) (by decide) ?_
        refine xe_imul xt_g108 rfl (q := 67) rfl ?_
        refine xe_s (f := (68, _, _, _)) xt_g108 rfl rfl rfl rfl rfl ?_
        refine xe_cR xt_g108 rfl rfl rfl (q := 71) rfl (kc_V xk_2_93 rfl (ko_49) (by omega) rfl rfl) xt_g110 (by decide) ⟨Nat.le_of_ble_eq_true rfl, Nat.le_of_ble_eq_true rfl, Nat.le_of_ble_eq_true rfl⟩ (k110 (l := l) hfm hn H (by omega)) ?_
        refine xe_bipush xt_g108 rfl (q := 73) rfl (by decide) (by decide) ?_
        refine xe_isub xt_g108 rfl (q := 74) rfl ?_
        refine xe_iadd xt_g108 rfl (q := 75) rfl ?_
        refine xe_kp_2_5 xt_g108 rfl (q := 78) rfl (xf_2_115 fm) (by omega) ?_
        refine xe_s (f := (79, _, _, _)) xt_g108 rfl rfl rfl rfl rfl ?_
        refine xe_s (f := (80, _, _, _)) xt_g108 rfl rfl rfl rfl rfl ?_
        refine xe_gf xt_g108 rfl (q := 83) rfl (xf_2_33 fm) (ko_49) (by omega) rfl rfl ?_
        try simp only [xo_u, pu, Nat.reduceEqDiff, reduceIte]
        refine xe_s (f := (84, _, xi 1 :: _, _)) xt_g108 rfl rfl rfl rfl rfl ?_
        refine xe_iadd xt_g108 rfl (q := 85) rfl ?_
        refine xe_kp_2_2 xt_g108 rfl (q := 88) rfl (xf_2_33 fm) (by omega) ?_
        refine xe_s (f := (39, _, _, _)) xt_g108 rfl rfl rfl rfl rfl ?_
        rw [a2] at b46
        have dr : 48 ≤ lt l (s1 8) ∧ lt l (s1 8) ≤ 57 := by rw [a2]; unfold xd_dig at b46; exact of_decide_eq_true b46
        have g := ih (j + 1) (10 * val + lt l (f + j) - 48) (xo_u (xo_u s1 10 (s1 10 * 10 + (lt l (s1 8) - 48))) 8 (s1 8 + 1)) (by omega) (by omega) (by rw [xo_uS, e8]; omega) (by rw [xo_uN (by decide), xo_uS, e10, a2]; omega) (fun k h1 h2 => by rw [xo_uN h1, xo_uN h2]; exact es k h1 h2) (by omega) (by omega) (by omega)
        simp only [b46, reduceIte]
        rw [show f + (j + 1) = f + j + 1 by omega, show j + 1 + xd_cnt xd_dig (lt l) N (f + j + 1) = j + (1 + xd_cnt xd_dig (lt l) N (f + j + 1)) by omega] at g
        exact g
theorem k108 (hfm : fm = .null ∨ ∃ j, fm = .ref j) (hn : 64 ≤ n) (H : sS (gd w) h n (p 4) l) (h8 : 0 ≤ s 8 ∧ s 8 ≤ l.length) (hl : l.length ≤ 900) {sec : Bool} (h9 : s 9 = xb sec) : xI fm 108 (ko w s p ar v h) n [.ref 49] (fun z h' n' u' => portR w s p ar v h n (pa_port (lt l) sec (s 8)) z h' n' u') := by
  have ha : asc l := H.choose_spec.choose_spec.choose_spec.2.2.2.2.2.2.1
  have a1 := lt_r ha (s 8)
  unfold xI pa_port
  refine xe_s (f := (1, _, _, _)) xt_g108 rfl rfl rfl rfl rfl ?_
  refine xe_s (f := (2, _, _, _)) xt_g108 rfl rfl rfl rfl rfl ?_
  refine xe_cR xt_g108 rfl rfl rfl (q := 5) rfl (kc_V xk_2_125 rfl (ko_49) (by omega) rfl rfl) xt_g109 (by decide) ⟨Nat.le_of_ble_eq_true rfl, Nat.le_of_ble_eq_true rfl, Nat.le_of_ble_eq_true rfl⟩ (k109 hn h9) ?_
  refine xe_kp_2_5 xt_g108 rfl (q := 8) rfl (xf_2_115 fm) (by omega) ?_
  refine xe_s (f := (9, _, _, _)) xt_g108 rfl rfl rfl rfl rfl ?_
  refine xe_cR xt_g108 rfl rfl rfl (q := 12) rfl (kc_V xk_2_93 rfl (ko_49) (by omega) rfl rfl) xt_g110 (by decide) ⟨Nat.le_of_ble_eq_true rfl, Nat.le_of_ble_eq_true rfl, Nat.le_of_ble_eq_true rfl⟩ (k110 (l := l) hfm hn H (by rw [xo_uN (by decide)]; omega)) ?_
  rw [xo_uN (by decide)]
  refine xe_bipush xt_g108 rfl (q := 14) rfl (by decide) (by decide) ?_
  refine xe_ic_eq xt_g108 rfl (t := 19) rfl (q := 17) rfl (by first | omega | exact xb_r _) (by first | omega | exact xb_r _) (fun b14 => ?_) (fun b14 => ?_)
  · try simp only [xb_0, xb_1, ne_eq, Decidable.not_not, Bool.not_eq_false, Bool.not_eq_true, decide_eq_true_eq, decide_eq_false_iff_not] at b14
    refine xe_s (f := (20, _, _, _)) xt_g108 rfl rfl rfl rfl rfl ?_
    refine xe_s (f := (21, _, _, _)) xt_g108 rfl rfl rfl rfl rfl ?_
    refine xe_gf xt_g108 rfl (q := 24) rfl (xf_2_33 fm) (ko_49) (by omega) rfl rfl ?_
    try simp only [xo_u, pu, Nat.reduceEqDiff, reduceIte]
    refine xe_s (f := (25, _, xi 1 :: _, _)) xt_g108 rfl rfl rfl rfl rfl ?_
    refine xe_iadd xt_g108 rfl (q := 26) rfl ?_
    refine xe_kp_2_2 xt_g108 rfl (q := 29) rfl (xf_2_33 fm) (by omega) ?_
    refine xe_s (f := (30, _, _, _)) xt_g108 rfl rfl rfl rfl rfl ?_
    refine xe_gf xt_g108 rfl (q := 33) rfl (xf_2_33 fm) (ko_49) (by omega) rfl rfl ?_
    try simp only [xo_u, pu, Nat.reduceEqDiff, reduceIte]
    refine xe_s (f := (34, [(1, _), (0, _)], _, _)) xt_g108 rfl rfl rfl rfl rfl ?_
    refine xe_s (f := (35, _, _, _)) xt_g108 rfl rfl rfl rfl rfl ?_
    refine xe_s (f := (36, _, xi 0 :: _, _)) xt_g108 rfl rfl rfl rfl rfl ?_
    refine xe_kp_2_5 xt_g108 rfl (q := 39) rfl (xf_2_115 fm) (by omega) ?_
    rw [if_pos b14]
    have g := k108_loop (fm := fm) (s := s) (w := w) (ar := ar) (v := v) hfm hn H (f := s 8 + 1) (by omega) 6 0 0 (xo_u (xo_u (xo_u s 10 (pa_df sec)) 8 (s 8 + 1)) 10 0) (by omega) (by omega) (by rw [xo_uN (by decide), xo_uS]; omega) (by rw [xo_uS]) (fun k h1 h2 => by rw [xo_uN h2, xo_uN h1, xo_uN h2]) (by omega) (by decide) (fun _ => rfl)
    rw [show s 8 + 1 + 0 = s 8 + 1 by omega, Int.zero_add] at g
    exact g
  · try simp only [xb_0, xb_1, ne_eq, Decidable.not_not, Bool.not_eq_false, Bool.not_eq_true, decide_eq_true_eq, decide_eq_false_iff_not] at b14
    refine xe_s (f := (18, _, xi 1 :: _, _)) xt_g108 rfl rfl rfl rfl rfl ?_
    refine xe_iret xt_g108 rfl rfl (xi_bool (by first | omega | exact xb_or _)).1 ?_
    try dsimp only
    rw [if_neg b14]
    exact ⟨1, rfl, rfl, rfl, _, rfl, fun k h1 h2 => xo_uN h2, Or.inr ⟨rfl, by rw [xo_uS, xo_uN (by decide)]⟩⟩
/-- skipTail -/
theorem k114_loop (hfm : fm = .null ∨ ∃ j, fm = .ref j) (hn : 64 ≤ n) (H : sS (gd w) h n (p 4) l) : ∀ (N : Nat) (k : Int) (s1 : Nat → Int), ((l.length : Int) - k).toNat = N → 0 ≤ k → k ≤ l.length + 1 → s1 8 = k → (∀ k, k ≠ 8 → s1 k = s k) →
    xe fm 114 (10, [(0, .ref 49)], [], (ko w s1 p ar v h, n, 0, 0)) (fun r M => r = .inl none ∧ M.2.1 = n ∧ M.2.2.2 = 0 ∧ ∃ s', M.1 = ko w s' p ar v h ∧ (∀ k, k ≠ 8 → s' k = s k) ∧ s' 8 = k + xd_cnt xd_qry (lt l) N k) := by
  have G := fun s1 => sS_ko (s := s1) (p := p) (ar := ar) (v := v) H
  have ha : asc l := H.choose_spec.choose_spec.choose_spec.2.2.2.2.2.2.1
  have hl : l.length < 10000 := H.choose_spec.choose_spec.choose_spec.2.2.2.2.2.2.2
  obtain ⟨b, x, y, e1, e2, e3, e4, e5, e6, e7⟩ := H
  have g1 := fun s1 => (ko_d (w := w) (s := s1) (p := p) (ar := ar) (v := v) e3.1).trans e1
  intro N
  induction N with
  | zero =>
    intro k s1 hN h0 hk e8 es
    refine xe_s (f := (11, _, _, _)) xt_g114 rfl rfl rfl rfl rfl ?_
    refine xe_gf xt_g114 rfl (q := 14) rfl (xf_2_33 fm) (ko_49) (by omega) rfl rfl ?_
    refine xe_s (f := (15, _, _, _)) xt_g114 rfl rfl rfl rfl rfl ?_
    refine xe_gf xt_g114 rfl (q := 18) rfl (xf_2_20 fm) (ko_49) (by omega) rfl rfl ?_
    refine xe_cR xt_g114 rfl rfl rfl (q := 21) rfl (kc_V xk_2_64 rfl (g1 s1) (by omega) rfl rfl) xt_g31 (by decide) ⟨Nat.le_of_ble_eq_true rfl, Nat.le_of_ble_eq_true rfl, Nat.le_of_ble_eq_true rfl⟩ (s31 (G s1)) ?_
    refine xe_ic_ge xt_g114 rfl (t := 54) rfl (q := 24) rfl (by first | omega | exact xb_r _) (by first | omega | exact xb_r _) (fun b21 => ?_) (fun b21 => ?_)
    · try simp only [xb_0, xb_1, ne_eq, Decidable.not_not, Bool.not_eq_false, Bool.not_eq_true, decide_eq_true_eq, decide_eq_false_iff_not] at b21
      refine xe_ret xt_g114 rfl rfl ?_
      try dsimp only
      exact ⟨rfl, rfl, rfl, s1, rfl, es, by rw [e8]; unfold xd_cnt; omega⟩
    · exact absurd b21 (by omega)
  | succ N ih =>
    intro k s1 hN h0 hk e8 es
    have a1 := lt_r ha (s1 8)
    rw [show xd_cnt xd_qry (lt l) (N + 1) k = if xd_qry (lt l k) = true then 1 + xd_cnt xd_qry (lt l) N (k + 1) else 0 from rfl]
    refine xe_s (f := (11, _, _, _)) xt_g114 rfl rfl rfl rfl rfl ?_
    refine xe_gf xt_g114 rfl (q := 14) rfl (xf_2_33 fm) (ko_49) (by omega) rfl rfl ?_
    refine xe_s (f := (15, _, _, _)) xt_g114 rfl rfl rfl rfl rfl ?_
    refine xe_gf xt_g114 rfl (q := 18) rfl (xf_2_20 fm) (ko_49) (by omega) rfl rfl ?_
    refine xe_cR xt_g114 rfl rfl rfl (q := 21) rfl (kc_V xk_2_64 rfl (g1 s1) (by omega) rfl rfl) xt_g31 (by decide) ⟨Nat.le_of_ble_eq_true rfl, Nat.le_of_ble_eq_true rfl, Nat.le_of_ble_eq_true rfl⟩ (s31 (G s1)) ?_
    refine xe_ic_ge xt_g114 rfl (t := 54) rfl (q := 24) rfl (by first | omega | exact xb_r _) (by first | omega | exact xb_r _) (fun b21 => ?_) (fun b21 => ?_)
    · exact absurd b21 (by omega)
    · try simp only [xb_0, xb_1, ne_eq, Decidable.not_not, Bool.not_eq_false, Bool.not_eq_true, decide_eq_true_eq, decide_eq_false_iff_not] at b21
      refine xe_s (f := (25, _, _, _)) xt_g114 rfl rfl rfl rfl rfl ?_
      refine xe_gf xt_g114 rfl (q := 28) rfl (xf_2_20 fm) (ko_49) (by omega) rfl rfl ?_
      refine xe_s (f := (29, _, _, _)) xt_g114 rfl rfl rfl rfl rfl ?_
      refine xe_gf xt_g114 rfl (q := 32) rfl (xf_2_33 fm) (ko_49) (by omega) rfl rfl ?_
      refine xe_cR xt_g114 rfl rfl rfl (q := 35) rfl (kc_V xk_2_82 rfl (g1 s1) (by omega) rfl rfl) xt_g85 (by decide) ⟨Nat.le_of_ble_eq_true rfl, Nat.le_of_ble_eq_true rfl, Nat.le_of_ble_eq_true rfl⟩ (s85t hfm (G s1) (by omega) (by omega)) ?_
      refine xe_cR xt_g114 rfl rfl rfl (q := 38) rfl (kc_S xk_2_151 (Nat.le_of_ble_eq_true rfl)) xt_g115 (by decide) ⟨Nat.le_of_ble_eq_true rfl, Nat.le_of_ble_eq_true rfl, Nat.le_of_ble_eq_true rfl⟩ (s115 a1) ?_
      refine xe_if_eq xt_g114 rfl (t := 54) rfl (q := 41) rfl (by first | omega | exact xb_r _) (fun b38 => ?_) (fun b38 => ?_)
      · try simp only [xb_0, xb_1, ne_eq, Decidable.not_not, Bool.not_eq_false, Bool.not_eq_true, decide_eq_true_eq, decide_eq_false_iff_not] at b38
        refine xe_ret xt_g114 rfl rfl ?_
        try dsimp only
        rw [e8] at b38
        exact ⟨rfl, rfl, rfl, s1, rfl, es, by rw [b38, if_neg (by decide), e8]; omega⟩
      · try simp only [xb_0, xb_1, ne_eq, Decidable.not_not, Bool.not_eq_false, Bool.not_eq_true, decide_eq_true_eq, decide_eq_false_iff_not] at b38
        refine xe_s (f := (42, _, _, _)) xt_g114 rfl rfl rfl rfl rfl ?_
        refine xe_s (f := (43, _, _, _)) xt_g114 rfl rfl rfl rfl rfl ?_
        refine xe_gf xt_g114 rfl (q := 46) rfl (xf_2_33 fm) (ko_49) (by omega) rfl rfl ?_
        refine xe_s (f := (47, _, xi 1 :: _, _)) xt_g114 rfl rfl rfl rfl rfl ?_
        refine xe_iadd xt_g114 rfl (q := 48) rfl ?_
        refine xe_kp_2_2 xt_g114 rfl (q := 51) rfl (xf_2_33 fm) (by omega) ?_
        refine xe_s (f := (10, _, _, _)) xt_g114 rfl rfl rfl rfl rfl ?_
        rw [e8] at b38
        have g := ih (k + 1) (xo_u s1 8 (s1 8 + 1)) (by omega) (by omega) (by omega) (by rw [xo_uS, e8]) (fun j hj => by rw [xo_uN hj]; exact es j hj)
        rw [b38, if_pos rfl, show k + (1 + xd_cnt xd_qry (lt l) N (k + 1)) = k + 1 + xd_cnt xd_qry (lt l) N (k + 1) by omega]
        exact g
theorem k114 (hfm : fm = .null ∨ ∃ j, fm = .ref j) (hn : 64 ≤ n) (H : sS (gd w) h n (p 4) l) (h8 : 0 ≤ s 8 ∧ s 8 ≤ l.length) : xN fm 114 (ko w s p ar v h) n [.ref 49] (fun h' n' u' => n' = n ∧ u' = 0 ∧ ∃ s', h' = ko w s' p ar v h ∧ (∀ k, k ≠ 8 → s' k = s k) ∧ s' 8 = s 8 + 1 + xd_cnt xd_qry (lt l) ((l.length : Int) - (s 8 + 1)).toNat (s 8 + 1)) := by
  have hl : l.length < 10000 := H.choose_spec.choose_spec.choose_spec.2.2.2.2.2.2.2
  unfold xN
  refine xe_s (f := (1, _, _, _)) xt_g114 rfl rfl rfl rfl rfl ?_
  refine xe_s (f := (2, _, _, _)) xt_g114 rfl rfl rfl rfl rfl ?_
  refine xe_gf xt_g114 rfl (q := 5) rfl (xf_2_33 fm) (ko_49) (by omega) rfl rfl ?_
  refine xe_s (f := (6, _, xi 1 :: _, _)) xt_g114 rfl rfl rfl rfl rfl ?_
  refine xe_iadd xt_g114 rfl (q := 7) rfl ?_
  refine xe_kp_2_2 xt_g114 rfl (q := 10) rfl (xf_2_33 fm) (by omega) ?_
  exact k114_loop (fm := fm) hfm hn H _ (s 8 + 1) _ rfl (by omega) (by omega) xo_uS (fun k hk => xo_uN hk)
end XB2
