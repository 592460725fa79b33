/-! the reader of addresses: paths and tails -/
section XB4
variable {fm : Value} {w w' w1 w2 : kW} {s s' s1 s2 : Nat → Int} {p p' p1 p2 : Nat → Nat} {ar : Nat → Nat → Option Nat} {v : Nat → Int} {h h' h1 h2 : xm_H} {n n' n1 n2 r k k' u' u1 u2 : Nat} {l L W A : List Int} {t t' t1 t2 : Nat → List Int} {kc kc' kc1 kc2 : Nat → Nat}
theorem k111_end (hfm : fm = .null ∨ ∃ j, fm = .ref j) (K : KW w h n t kc) (C : cst w h n) (H : sS (gd w) h n (p 4) l) (HA : sS (gd w) h n r A) {f : Int} (h0 : 0 ≤ f) (h1 : f ≤ s 8) (h2 : s 8 ≤ l.length) (hl : l.length ≤ 200) (hA : A.length ≤ 200) (ht : (t 2).length < 8000) : xe fm 111 (49, [(2, xi f), (0, .ref 49), (1, .ref r)], [], (ko w s p ar v h, n, 0, 0)) (fun r M => r = .inl none ∧ ∃ w' p' h1 t' kc', M.1 = ko w' s p' ar v h1 ∧ RR [] [6] 1000 7 w s p h n t kc w' s p' h1 M.2.1 t' kc' M.2.2.2 ∧ (t' 2).length ≤ 400 ∧ sS (gd w') h1 M.2.1 (p' 6) (A ++ sl l f (s 8))) := by
  have W0 := K.1.1
  refine xe_s (f := (50, _, _, _)) xt_g111 rfl rfl rfl rfl rfl ?_
  refine xe_gf xt_g111 rfl (q := 53) rfl (xf_2_12 fm) (ko_49) (by omega) rfl rfl ?_
  refine xe_s (f := (54, _, xi 0 :: _, _)) xt_g111 rfl rfl rfl rfl rfl ?_
  refine xe_cN xt_g111 rfl rfl rfl (q := 57) rfl (kc_V xk_2_136 rfl (ko_50) (by omega) rfl rfl) xt_g14 (by decide) ⟨Nat.le_of_ble_eq_true rfl, Nat.le_of_ble_eq_true rfl, Nat.le_of_ble_eq_true rfl⟩ (k14_2 K (Int.le_refl 0) (by omega) (by omega)) (fun h1' n1 c1 u1 hp => ?_)
  obtain ⟨w1, h3, k1, rfl, R1⟩ := hp
  have N1 := R1.2.1.1
  have K1 := R1.1
  rw [show (0 : Int).toNat = 0 from rfl, List.take_zero] at R1 K1
  have H1 := sS_kp H R1.2.1
  have C1 := cst_kp C K.1 R1.2.1
  refine xe_s (f := (58, _, _, _)) xt_g111 rfl rfl rfl rfl rfl ?_
  refine xe_gf xt_g111 rfl (q := 61) rfl (xf_2_12 fm) (ko_49) (by omega) rfl rfl ?_
  refine xe_s (f := (62, _, _, _)) xt_g111 rfl rfl rfl rfl rfl ?_
  refine xe_cA xt_g111 rfl rfl rfl (q := 65) rfl (kc_V xk_2_140 rfl (ko_50) (by omega) rfl rfl) xt_g16 (by decide) ⟨Nat.le_of_ble_eq_true rfl, Nat.le_of_ble_eq_true rfl, Nat.le_of_ble_eq_true rfl⟩ (k16_2 K1 (sS_kp HA R1.2.1) (by rw [tu_s, List.length_nil]; omega)) (fun x2 h2' n2 c2 u2 hq => ?_)
  obtain ⟨rfl, w2, h4, k2, rfl, R2⟩ := hq
  rw [tu_s, List.nil_append] at R2
  have N2 := R2.2.1.1
  have K2 := R2.1
  have H2 := sS_kp H1 R2.2.1
  have C2 := cst_kp C1 K1.1 R2.2.1
  obtain ⟨fs, F1, r1, a1, l1⟩ := sS_at H2
  refine xe_s (f := (66, _, _, _)) xt_g111 rfl rfl rfl rfl rfl ?_
  refine xe_s (f := (67, _, _, _)) xt_g111 rfl rfl rfl rfl rfl ?_
  refine xe_gf xt_g111 rfl (q := 70) rfl (xf_2_12 fm) (ko_49) (by omega) rfl rfl ?_
  refine xe_s (f := (71, _, _, _)) xt_g111 rfl rfl rfl rfl rfl ?_
  refine xe_gf xt_g111 rfl (q := 74) rfl (xf_2_20 fm) (ko_49) (by omega) rfl rfl ?_
  refine xe_s (f := (75, _, _, _)) xt_g111 rfl rfl rfl rfl rfl ?_
  refine xe_s (f := (76, _, _, _)) xt_g111 rfl rfl rfl rfl rfl ?_
  refine xe_gf xt_g111 rfl (q := 79) rfl (xf_2_33 fm) (ko_49) (by omega) rfl rfl ?_
  refine xe_cA xt_g111 rfl rfl rfl (q := 82) rfl (kc_V xk_2_70 rfl (F1 _ _ _ _ _) (by omega) rfl rfl) xt_g103 (by decide) ⟨Nat.le_of_ble_eq_true rfl, Nat.le_of_ble_eq_true rfl, Nat.le_of_ble_eq_true rfl⟩ (k103 hfm K2 C2 H2 h0 h1 h2) (fun x3 h3' n3 c3 u3 hr => ?_)
  obtain ⟨h5, rfl, e3, S3, n3', u3'⟩ := hr
  have N3 := e3.1
  have K3 := KW_ke K2 e3
  have sln := sl_len h0 h1 h2
  refine xe_cA xt_g111 rfl rfl rfl (q := 85) rfl (kc_V xk_2_140 rfl (ko_50) (by omega) rfl rfl) xt_g16 (by decide) ⟨Nat.le_of_ble_eq_true rfl, Nat.le_of_ble_eq_true rfl, Nat.le_of_ble_eq_true rfl⟩ (k16_2 K3 S3 (by rw [tu_s]; omega)) (fun x4 h4' n4 c4 u4 hs => ?_)
  obtain ⟨rfl, w4, h6, k4, rfl, R4⟩ := hs
  rw [tu_s] at R4
  have N4 := R4.2.1.1
  have K4 := R4.1
  refine xe_s (f := (86, _, _, _)) xt_g111 rfl rfl rfl rfl rfl ?_
  refine xe_s (f := (87, _, _, _)) xt_g111 rfl rfl rfl rfl rfl ?_
  refine xe_s (f := (88, _, _, _)) xt_g111 rfl rfl rfl rfl rfl ?_
  refine xe_gf xt_g111 rfl (q := 91) rfl (xf_2_12 fm) (ko_49) (by omega) rfl rfl ?_
  refine xe_cA xt_g111 rfl rfl rfl (q := 94) rfl (kc_V xk_2_144 rfl (ko_50) (by omega) rfl rfl) xt_g48 (by decide) ⟨Nat.le_of_ble_eq_true rfl, Nat.le_of_ble_eq_true rfl, Nat.le_of_ble_eq_true rfl⟩ (k48_2 K4 (by rw [tu_s, List.length_append]; omega)) (fun x5 h5' n5 c5 u5 hx => ?_)
  obtain ⟨h7, rfl, e5, S5, n5', u5'⟩ := hx
  have N5 := e5.1
  rw [tu_s] at S5 u5'
  rw [List.length_append] at u5'
  refine xe_kp_2_6 xt_g111 rfl (q := 97) rfl (xf_2_27 fm) (by omega) ?_
  refine xe_ret xt_g111 rfl rfl ?_
  try dsimp only
  refine ⟨rfl, w4, _, h7, tu (tu (tu t 2 []) 2 A) 2 (A ++ sl l f (s 8)), pu (pu (pu kc 2 k1) 2 k2) 2 k4, rfl, ?_, ?_, S5⟩
  · have a1 := kR_RR2 (s := s) (p := p) R1
    have a2 := RR_trans a1 (kR_RR2 (s := s) (p := p) R2)
    have a3 := RR_trans a2 (RR_ke (S := []) (Q := []) (s := s) (s' := s) (p := p) (p' := p) (B := 204) (C := 2) (u' := u3) K2 e3 (fun _ _ => rfl) (fun _ _ => rfl) n3' (by omega))
    have a4 := RR_trans a3 (kR_RR2 (s := s) (p := p) R4)
    have a5 := RR_trans (RR_mono a4 (S' := []) (Q' := [6]) rfl rfl (Nat.le_refl _) (Nat.le_refl _) (Nat.le_refl _)) (RR_ke (S := []) (Q := [6]) (s := s) (s' := s) (p := p) (p' := pu p 6 x5) (B := 404) (C := 2) (u' := u5) K4 e5 (fun _ _ => rfl) (fun k hk => pu_n (fun e => hk (by rw [e]; decide))) n5' (by omega))
    exact RR_mono a5 rfl rfl (by omega) (by omega) (by omega)
  · rw [tu_s, List.length_append]; omega
theorem k111_loop (hfm : fm = .null ∨ ∃ j, fm = .ref j) (K : KW w h n t kc) (C : cst w h n) (H : sS (gd w) h n (p 4) l) (HA : sS (gd w) h n r A) {f : Int} (h0 : 0 ≤ f) (hl : l.length ≤ 200) (hA : A.length ≤ 200) (ht : (t 2).length < 8000) : ∀ (N : Nat) (k : Int) (s1 : Nat → Int), ((l.length : Int) - k).toNat = N → f ≤ k → k ≤ l.length → s1 8 = k → (∀ k, k ≠ 8 → s1 k = s k) →
    xe fm 111 (5, [(2, xi f), (0, .ref 49), (1, .ref r)], [], (ko w s1 p ar v h, n, 0, 0)) (fun r M => r = .inl none ∧ ∃ w' s' p' h1 t' kc', M.1 = ko w' s' p' ar v h1 ∧ RR [8] [6] 1000 7 w s p h n t kc w' s' p' h1 M.2.1 t' kc' M.2.2.2 ∧ (t' 2).length ≤ 400 ∧ s' 8 = k + xd_cnt xd_pth (lt l) N k ∧ sS (gd w') h1 M.2.1 (p' 6) (A ++ sl l f (k + xd_cnt xd_pth (lt l) N k))) := by
  have G := fun s1 => sS_ko (s := s1) (p := p) (ar := ar) (v := v) H
  have W0 := K.1.1
  obtain ⟨fs, F1, q1, ha, l1⟩ := sS_at H
  have fin : ∀ (s1 : Nat → Int) (k c : Int), f ≤ k → k ≤ l.length → s1 8 = k → (∀ k, k ≠ 8 → s1 k = s k) → c = 0 → xe fm 111 (49, [(2, xi f), (0, .ref 49), (1, .ref r)], [], (ko w s1 p ar v h, n, 0, 0)) (fun r M => r = .inl none ∧ ∃ w' s' p' h1 t' kc', M.1 = ko w' s' p' ar v h1 ∧ RR [8] [6] 1000 7 w s p h n t kc w' s' p' h1 M.2.1 t' kc' M.2.2.2 ∧ (t' 2).length ≤ 400 ∧ s' 8 = k + c ∧ sS (gd w') h1 M.2.1 (p' 6) (A ++ sl l f (k + c))) := by
    intro s1 k c e1 e2 e3 e4 e5
    subst e5
    refine xe_mono (k111_end (fm := fm) (s := s1) (ar := ar) (v := v) hfm K C H HA h0 (by omega) (by omega) hl hA ht) (fun q M hM => ?_)
    obtain ⟨g1, w', p', h1, t', kc', g2, g3, g4, g5⟩ := hM
    refine ⟨g1, w', s1, p', h1, t', kc', g2, ?_, g4, by omega, by rw [Int.add_zero, ← e3]; exact g5⟩
    obtain ⟨x1, x2, x3, x4⟩ := g3
    exact ⟨x1, x2, fun j hj => e4 j (fun e => hj (by rw [e]; decide)), x4⟩
  intro N
  induction N with
  | zero =>
    intro k s1 hN h0 hk e8 es
    refine xe_s (f := (6, _, _, _)) xt_g111 rfl rfl rfl rfl rfl ?_
    refine xe_gf xt_g111 rfl (q := 9) rfl (xf_2_33 fm) (ko_49) (by omega) rfl rfl ?_
    refine xe_s (f := (10, _, _, _)) xt_g111 rfl rfl rfl rfl rfl ?_
    refine xe_gf xt_g111 rfl (q := 13) rfl (xf_2_20 fm) (ko_49) (by omega) rfl rfl ?_
    refine xe_cR xt_g111 rfl rfl rfl (q := 16) rfl (kc_V xk_2_64 rfl (F1 _ _ _ _ _) (by omega) rfl rfl) xt_g31 (by decide) ⟨Nat.le_of_ble_eq_true rfl, Nat.le_of_ble_eq_true rfl, Nat.le_of_ble_eq_true rfl⟩ (s31 (G s1)) ?_
    refine xe_ic_ge xt_g111 rfl (t := 49) rfl (q := 19) rfl (by first | omega | exact xb_r _) (by first | omega | exact xb_r _) (fun b16 => ?_) (fun b16 => ?_)
    · try simp only [xb_0, xb_1, ne_eq, Decidable.not_not, Bool.not_eq_false, Bool.not_eq_true, decide_eq_true_eq, decide_eq_false_iff_not] at b16
      exact fin s1 k _ h0 hk e8 es rfl
    · exact absurd b16 (by omega)
  | succ N ih =>
    intro k s1 hN h0 hk e8 es
    have a1 := lt_r ha (s1 8)
    rw [show xd_cnt xd_pth (lt l) (N + 1) k = if xd_pth (lt l k) = true then 1 + xd_cnt xd_pth (lt l) N (k + 1) else 0 from rfl]
    refine xe_s (f := (6, _, _, _)) xt_g111 rfl rfl rfl rfl rfl ?_
    refine xe_gf xt_g111 rfl (q := 9) rfl (xf_2_33 fm) (ko_49) (by omega) rfl rfl ?_
    refine xe_s (f := (10, _, _, _)) xt_g111 rfl rfl rfl rfl rfl ?_
    refine xe_gf xt_g111 rfl (q := 13) rfl (xf_2_20 fm) (ko_49) (by omega) rfl rfl ?_
    refine xe_cR xt_g111 rfl rfl rfl (q := 16) rfl (kc_V xk_2_64 rfl (F1 _ _ _ _ _) (by omega) rfl rfl) xt_g31 (by decide) ⟨Nat.le_of_ble_eq_true rfl, Nat.le_of_ble_eq_true rfl, Nat.le_of_ble_eq_true rfl⟩ (s31 (G s1)) ?_
    refine xe_ic_ge xt_g111 rfl (t := 49) rfl (q := 19) rfl (by first | omega | exact xb_r _) (by first | omega | exact xb_r _) (fun b16 => ?_) (fun b16 => ?_)
    · exact absurd b16 (by omega)
    · try simp only [xb_0, xb_1, ne_eq, Decidable.not_not, Bool.not_eq_false, Bool.not_eq_true, decide_eq_true_eq, decide_eq_false_iff_not] at b16
      refine xe_s (f := (20, _, _, _)) xt_g111 rfl rfl rfl rfl rfl ?_
      refine xe_gf xt_g111 rfl (q := 23) rfl (xf_2_20 fm) (ko_49) (by omega) rfl rfl ?_
      refine xe_s (f := (24, _, _, _)) xt_g111 rfl rfl rfl rfl rfl ?_
      refine xe_gf xt_g111 rfl (q := 27) rfl (xf_2_33 fm) (ko_49) (by omega) rfl rfl ?_
      refine xe_cR xt_g111 rfl rfl rfl (q := 30) rfl (kc_V xk_2_82 rfl (F1 _ _ _ _ _) (by omega) rfl rfl) xt_g85 (by decide) ⟨Nat.le_of_ble_eq_true rfl, Nat.le_of_ble_eq_true rfl, Nat.le_of_ble_eq_true rfl⟩ (s85t hfm (G s1) (by omega) (by omega)) ?_
      refine xe_cR xt_g111 rfl rfl rfl (q := 33) rfl (kc_S xk_2_133 (Nat.le_of_ble_eq_true rfl)) xt_g112 (by decide) ⟨Nat.le_of_ble_eq_true rfl, Nat.le_of_ble_eq_true rfl, Nat.le_of_ble_eq_true rfl⟩ (s112 a1) ?_
      refine xe_if_eq xt_g111 rfl (t := 49) rfl (q := 36) rfl (by first | omega | exact xb_r _) (fun b33 => ?_) (fun b33 => ?_)
      · try simp only [xb_0, xb_1, ne_eq, Decidable.not_not, Bool.not_eq_false, Bool.not_eq_true, decide_eq_true_eq, decide_eq_false_iff_not] at b33
        rw [e8] at b33
        exact fin s1 k _ h0 hk e8 es (by rw [b33, if_neg (by decide)])
      · try simp only [xb_0, xb_1, ne_eq, Decidable.not_not, Bool.not_eq_false, Bool.not_eq_true, decide_eq_true_eq, decide_eq_false_iff_not] at b33
        refine xe_s (f := (37, _, _, _)) xt_g111 rfl rfl rfl rfl rfl ?_
        refine xe_s (f := (38, _, _, _)) xt_g111 rfl rfl rfl rfl rfl ?_
        refine xe_gf xt_g111 rfl (q := 41) rfl (xf_2_33 fm) (ko_49) (by omega) rfl rfl ?_
        refine xe_s (f := (42, _, xi 1 :: _, _)) xt_g111 rfl rfl rfl rfl rfl ?_
        refine xe_iadd xt_g111 rfl (q := 43) rfl ?_
        refine xe_kp_2_2 xt_g111 rfl (q := 46) rfl (xf_2_33 fm) (by omega) ?_
        refine xe_s (f := (5, _, _, _)) xt_g111 rfl rfl rfl rfl rfl ?_
        rw [e8] at b33
        have g := ih (k + 1) (xo_u s1 8 (s1 8 + 1)) (by omega) (by omega) (by omega) (by rw [xo_uS, e8]) (fun j hj => by rw [xo_uN hj]; exact es j hj)
        rw [b33, if_pos rfl, show k + (1 + xd_cnt xd_pth (lt l) N (k + 1)) = k + 1 + xd_cnt xd_pth (lt l) N (k + 1) by omega]
        exact g
theorem k111 (hfm : fm = .null ∨ ∃ j, fm = .ref j) (K : KW w h n t kc) (C : cst w h n) (H : sS (gd w) h n (p 4) l) (HA : sS (gd w) h n r A) (h8 : 0 ≤ s 8 ∧ s 8 ≤ l.length) (hl : l.length ≤ 200) (hA : A.length ≤ 200) (ht : (t 2).length < 8000) : xN fm 111 (ko w s p ar v h) n [.ref 49, .ref r] (fun h' n' u' => ∃ w' s' p' h1 t' kc', h' = ko w' s' p' ar v h1 ∧ RR [8] [6] 1000 7 w s p h n t kc w' s' p' h1 n' t' kc' u' ∧ (t' 2).length ≤ 400 ∧ s' 8 = s 8 + xd_cnt xd_pth (lt l) ((l.length : Int) - s 8).toNat (s 8) ∧ sS (gd w') h1 n' (p' 6) (A ++ pa_sl (lt l) (s 8) (s 8 + xd_cnt xd_pth (lt l) ((l.length : Int) - s 8).toNat (s 8)))) := by
  have W0 := K.1.1
  have c1 := xd_cnt_r (p := xd_pth) (t := lt l) ((l.length : Int) - s 8).toNat (s 8)
  rw [← sl_pa h8.1 (by omega) (by omega)]
  unfold xN
  refine xe_s (f := (1, _, _, _)) xt_g111 rfl rfl rfl rfl rfl ?_
  refine xe_gf xt_g111 rfl (q := 4) rfl (xf_2_33 fm) (ko_49) (by omega) rfl rfl ?_
  refine xe_s (f := (5, [(2, _), (0, _), (1, _)], _, _)) xt_g111 rfl rfl rfl rfl rfl ?_
  exact k111_loop (fm := fm) hfm K C H HA h8.1 hl hA ht _ (s 8) s rfl (Int.le_refl _) h8.2 rfl (fun _ _ => rfl)
/-- readTail -/
theorem k113_b (hfm : fm = .null ∨ ∃ j, fm = .ref j) (hn : 64 ≤ n) (H : sS (gd w) h n (p 4) l) (h8 : 0 ≤ s 8 ∧ s 8 ≤ l.length) {c u : Nat} : xe fm 113 (34, [(0, .ref 49)], [], (ko w s p ar v h, n, c, u)) (fun r M => ∃ z : Int, r = .inl (some (xi z)) ∧ M.2.1 = n ∧ M.2.2.2 = u ∧ ∃ s', M.1 = ko w s' p ar v h ∧ (∀ k, k ≠ 8 → s' k = s k) ∧ z = xb (decide (pa_q2 (lt l) l.length (s 8) = l.length))) := by
  obtain ⟨fs, F1, q1, ha, l1⟩ := sS_at H
  have a1 := lt_r ha (s 8)
  unfold pa_q2
  refine xe_s (f := (35, _, _, _)) xt_g113 rfl rfl rfl rfl rfl ?_
  refine xe_cR xt_g113 rfl rfl rfl (q := 38) rfl (kc_V xk_2_93 rfl (ko_49) (by omega) rfl rfl) xt_g110 (by decide) ⟨Nat.le_of_ble_eq_true rfl, Nat.le_of_ble_eq_true rfl, Nat.le_of_ble_eq_true rfl⟩ (k110 (l := l) hfm hn H (by omega)) ?_
  refine xe_bipush xt_g113 rfl (q := 40) rfl (by decide) (by decide) ?_
  refine xe_ic_ne xt_g113 rfl (t := 47) rfl (q := 43) rfl (by first | omega | exact xb_r _) (by first | omega | exact xb_r _) (fun b40 => ?_) (fun b40 => ?_)
  · try simp only [xb_0, xb_1, ne_eq, Decidable.not_not, Bool.not_eq_false, Bool.not_eq_true, decide_eq_true_eq, decide_eq_false_iff_not] at b40
    rw [if_neg b40]
    refine xe_s (f := (48, _, _, _)) xt_g113 rfl rfl rfl rfl rfl ?_
    refine xe_gf xt_g113 rfl (q := 51) rfl (xf_2_33 fm) (ko_49) (by omega) rfl rfl ?_
    refine xe_s (f := (52, _, _, _)) xt_g113 rfl rfl rfl rfl rfl ?_
    refine xe_gf xt_g113 rfl (q := 55) rfl (xf_2_20 fm) (ko_49) (by omega) rfl rfl ?_
    refine xe_cR xt_g113 rfl rfl rfl (q := 58) rfl (kc_V xk_2_64 rfl (F1 _ _ _ _ _) (by omega) rfl rfl) xt_g31 (by decide) ⟨Nat.le_of_ble_eq_true rfl, Nat.le_of_ble_eq_true rfl, Nat.le_of_ble_eq_true rfl⟩ (s31 (sS_ko H)) ?_
    refine xe_ic_ne xt_g113 rfl (t := 65) rfl (q := 61) rfl (by first | omega | exact xb_r _) (by first | omega | exact xb_r _) (fun b58 => ?_) (fun b58 => ?_)
    · try simp only [xb_0, xb_1, ne_eq, Decidable.not_not, Bool.not_eq_false, Bool.not_eq_true, decide_eq_true_eq, decide_eq_false_iff_not] at b58
      refine xe_s (f := (66, _, xi 0 :: _, _)) xt_g113 rfl rfl rfl rfl rfl ?_
      refine xe_iret xt_g113 rfl rfl (xi_bool (by first | omega | exact xb_or _)).1 ?_
      try dsimp only
      rw [decide_eq_false b58]
      exact ⟨0, rfl, rfl, rfl, s, rfl, fun _ _ => rfl, rfl⟩
    · try simp only [xb_0, xb_1, ne_eq, Decidable.not_not, Bool.not_eq_false, Bool.not_eq_true, decide_eq_true_eq, decide_eq_false_iff_not] at b58
      refine xe_s (f := (62, _, xi 1 :: _, _)) xt_g113 rfl rfl rfl rfl rfl ?_
      refine xe_s (f := (66, _, _, _)) xt_g113 rfl rfl rfl rfl rfl ?_
      refine xe_iret xt_g113 rfl rfl (xi_bool (by first | omega | exact xb_or _)).1 ?_
      try dsimp only
      rw [decide_eq_true b58]
      exact ⟨1, rfl, rfl, rfl, s, rfl, fun _ _ => rfl, rfl⟩
  · try simp only [xb_0, xb_1, ne_eq, Decidable.not_not, Bool.not_eq_false, Bool.not_eq_true, decide_eq_true_eq, decide_eq_false_iff_not] at b40
    rw [if_pos b40]
    have cr := xd_cnt_r (p := xd_qry) (t := lt l) ((l.length : Int) - (s 8 + 1)).toNat (s 8 + 1)
    refine xe_s (f := (44, _, _, _)) xt_g113 rfl rfl rfl rfl rfl ?_
    refine xe_cN xt_g113 rfl rfl rfl (q := 47) rfl (kc_V xk_2_148 rfl (ko_49) (by omega) rfl rfl) xt_g114 (by decide) ⟨Nat.le_of_ble_eq_true rfl, Nat.le_of_ble_eq_true rfl, Nat.le_of_ble_eq_true rfl⟩ (k114 (l := l) hfm hn H h8) (fun h4' n4 c4 u4 hs => ?_)
    obtain ⟨rfl, rfl, s1, rfl, e1, e2⟩ := hs
    refine xe_s (f := (48, _, _, _)) xt_g113 rfl rfl rfl rfl rfl ?_
    refine xe_gf xt_g113 rfl (q := 51) rfl (xf_2_33 fm) (ko_49) (by omega) rfl rfl ?_
    refine xe_s (f := (52, _, _, _)) xt_g113 rfl rfl rfl rfl rfl ?_
    refine xe_gf xt_g113 rfl (q := 55) rfl (xf_2_20 fm) (ko_49) (by omega) rfl rfl ?_
    refine xe_cR xt_g113 rfl rfl rfl (q := 58) rfl (kc_V xk_2_64 rfl (F1 _ _ _ _ _) (by omega) rfl rfl) xt_g31 (by decide) ⟨Nat.le_of_ble_eq_true rfl, Nat.le_of_ble_eq_true rfl, Nat.le_of_ble_eq_true rfl⟩ (s31 (sS_ko H)) ?_
    refine xe_ic_ne xt_g113 rfl (t := 65) rfl (q := 61) rfl (by first | omega | exact xb_r _) (by first | omega | exact xb_r _) (fun b58 => ?_) (fun b58 => ?_)
    · try simp only [xb_0, xb_1, ne_eq, Decidable.not_not, Bool.not_eq_false, Bool.not_eq_true, decide_eq_true_eq, decide_eq_false_iff_not] at b58
      refine xe_s (f := (66, _, xi 0 :: _, _)) xt_g113 rfl rfl rfl rfl rfl ?_
      refine xe_iret xt_g113 rfl rfl (xi_bool (by first | omega | exact xb_or _)).1 ?_
      try dsimp only
      rw [decide_eq_false (by omega)]
      exact ⟨0, rfl, rfl, rfl, s1, rfl, e1, rfl⟩
    · try simp only [xb_0, xb_1, ne_eq, Decidable.not_not, Bool.not_eq_false, Bool.not_eq_true, decide_eq_true_eq, decide_eq_false_iff_not] at b58
      refine xe_s (f := (62, _, xi 1 :: _, _)) xt_g113 rfl rfl rfl rfl rfl ?_
      refine xe_s (f := (66, _, _, _)) xt_g113 rfl rfl rfl rfl rfl ?_
      refine xe_iret xt_g113 rfl rfl (xi_bool (by first | omega | exact xb_or _)).1 ?_
      try dsimp only
      rw [decide_eq_true (by omega)]
      exact ⟨1, rfl, rfl, rfl, s1, rfl, e1, rfl⟩
theorem k113 (hfm : fm = .null ∨ ∃ j, fm = .ref j) (K : KW w h n t kc) (C : cst w h n) (H : sS (gd w) h n (p 4) l) (HQ : sS (gd w) h n (p 7) W) (h8 : 0 ≤ s 8 ∧ s 8 ≤ l.length) (hl : l.length ≤ 200) : xI fm 113 (ko w s p ar v h) n [.ref 49] (fun z h' n' u' => ∃ s' p' h1, h' = ko w s' p' ar v h1 ∧ RR [8] [7] 300 2 w s p h n t kc w s' p' h1 n' t kc u' ∧ z = xb (decide (pa_q2 (lt l) l.length (pa_q1 (lt l) l.length (s 8)) = l.length)) ∧ sS (gd w) h1 n' (p' 7) (if lt l (s 8) = 63 then pa_qy (lt l) l.length (s 8) else W)) := by
  have W0 := K.1.1
  obtain ⟨fs, F1, q1, ha, l1⟩ := sS_at H
  have a1 := lt_r ha (s 8)
  have cr := xd_cnt_r (p := xd_qry) (t := lt l) ((l.length : Int) - (s 8 + 1)).toNat (s 8 + 1)
  unfold xI
  refine xe_s (f := (1, _, _, _)) xt_g113 rfl rfl rfl rfl rfl ?_
  refine xe_cR xt_g113 rfl rfl rfl (q := 4) rfl (kc_V xk_2_93 rfl (ko_49) (by omega) rfl rfl) xt_g110 (by decide) ⟨Nat.le_of_ble_eq_true rfl, Nat.le_of_ble_eq_true rfl, Nat.le_of_ble_eq_true rfl⟩ (k110 (l := l) hfm (by omega) H (by omega)) ?_
  refine xe_bipush xt_g113 rfl (q := 6) rfl (by decide) (by decide) ?_
  refine xe_ic_ne xt_g113 rfl (t := 34) rfl (q := 9) rfl (by first | omega | exact xb_r _) (by first | omega | exact xb_r _) (fun b6 => ?_) (fun b6 => ?_)
  · try simp only [xb_0, xb_1, ne_eq, Decidable.not_not, Bool.not_eq_false, Bool.not_eq_true, decide_eq_true_eq, decide_eq_false_iff_not] at b6
    have q1e : pa_q1 (lt l) l.length (s 8) = s 8 := by unfold pa_q1; rw [if_neg b6]
    refine xe_mono (xe_loc (by intro q hq; simp only [List.mem_cons, List.not_mem_nil, or_false] at hq; rcases hq with rfl <;> rfl) ((k113_b (fm := fm) (w := w) (s := s) (p := p) (ar := ar) (v := v) (h := h) (c := 0) (u := 0) hfm (by omega) H h8))) (fun r M hM => ?_)
    obtain ⟨z, g1, g2, g3, s2, g4, g5, g6⟩ := hM
    rw [q1e, if_neg b6]
    exact ⟨z, g1, s2, p, h, g4, RR_ke K (by rw [g2]; exact ke_refl) (fun k hk => g5 k (fun e => hk (by rw [e]; decide))) (fun _ _ => rfl) (by omega) (by omega), g6, by rw [g2]; exact HQ⟩
  · try simp only [xb_0, xb_1, ne_eq, Decidable.not_not, Bool.not_eq_false, Bool.not_eq_true, decide_eq_true_eq, decide_eq_false_iff_not] at b6
    refine xe_s (f := (10, _, _, _)) xt_g113 rfl rfl rfl rfl rfl ?_
    refine xe_gf xt_g113 rfl (q := 13) rfl (xf_2_33 fm) (ko_49) (by omega) rfl rfl ?_
    refine xe_s (f := (14, [(1, _), (0, _)], _, _)) xt_g113 rfl rfl rfl rfl rfl ?_
    refine xe_s (f := (15, _, _, _)) xt_g113 rfl rfl rfl rfl rfl ?_
    refine xe_cN xt_g113 rfl rfl rfl (q := 18) rfl (kc_V xk_2_148 rfl (ko_49) (by omega) rfl rfl) xt_g114 (by decide) ⟨Nat.le_of_ble_eq_true rfl, Nat.le_of_ble_eq_true rfl, Nat.le_of_ble_eq_true rfl⟩ (k114 hfm (by omega) H h8) (fun h1' n1 c1 u1 hp => ?_)
    obtain ⟨rfl, rfl, s1, rfl, e1, e2⟩ := hp
    have q1e : pa_q1 (lt l) l.length (s 8) = s1 8 := by unfold pa_q1; rw [if_pos b6, e2]
    have s8l : s 8 < l.length := by
      by_cases g : s 8 < l.length
      · exact g
      · rw [lt_out (by omega)] at b6; omega
    refine xe_s (f := (19, _, _, _)) xt_g113 rfl rfl rfl rfl rfl ?_
    refine xe_s (f := (20, _, _, _)) xt_g113 rfl rfl rfl rfl rfl ?_
    refine xe_gf xt_g113 rfl (q := 23) rfl (xf_2_20 fm) (ko_49) (by omega) rfl rfl ?_
    refine xe_s (f := (24, _, _, _)) xt_g113 rfl rfl rfl rfl rfl ?_
    refine xe_s (f := (25, _, _, _)) xt_g113 rfl rfl rfl rfl rfl ?_
    refine xe_gf xt_g113 rfl (q := 28) rfl (xf_2_33 fm) (ko_49) (by omega) rfl rfl ?_
    refine xe_cA xt_g113 rfl rfl rfl (q := 31) rfl (kc_V xk_2_70 rfl (F1 _ _ _ _ _) (by omega) rfl rfl) xt_g103 (by decide) ⟨Nat.le_of_ble_eq_true rfl, Nat.le_of_ble_eq_true rfl, Nat.le_of_ble_eq_true rfl⟩ (k103 hfm K C H h8.1 (by omega) (by omega)) (fun x2 h2' n2 c2 u2 hq => ?_)
    obtain ⟨h3, rfl, k3, S3, n3', u3'⟩ := hq
    have N3 := k3.1
    have H3 := sS_ke H k3
    refine xe_kp_2_7 xt_g113 rfl (q := 34) rfl (xf_2_30 fm) (by omega) ?_
    refine xe_mono (xe_loc (by intro q hq; simp only [List.mem_cons, List.not_mem_nil, or_false] at hq; rcases hq with rfl <;> rfl) ((k113_b (fm := fm) (w := w) (s := s1) (p := pu p 7 x2) (ar := ar) (v := v) (h := h3) (l := l) (c := 0 + c1 + c2) (u := 0 + 0 + u2) hfm (by omega) H3 (by omega)))) (fun r M hM => ?_)
    obtain ⟨z, g1, g2, g3, s2, g4, g5, g6⟩ := hM
    rw [q1e, if_pos b6]
    refine ⟨z, g1, s2, pu p 7 x2, h3, g4, RR_ke K (by rw [g2]; exact k3) (fun k hk => ?_) (fun k hk => pu_n (fun e => hk (by rw [e]; decide))) (by omega) (by omega), g6, ?_⟩
    · rw [g5 k (fun e => hk (by rw [e]; decide))]
      exact e1 k (fun e => hk (by rw [e]; decide))
    · rw [g2]
      unfold pa_qy
      rw [q1e, ← sl_pa h8.1 (by omega) (by omega)]
      exact S3
end XB4
