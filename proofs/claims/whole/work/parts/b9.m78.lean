/-! the reader of addresses: finished, read -/
section XB9
variable {fm : Value} {w w' w1 w2 : kW} {s s' s1 s2 : Nat → Int} {p p' p1 p2 : Nat → Nat} {ar : Nat → Nat → Option Nat} {v : Nat → Int} {h h' h1 h2 : xm_H} {n n' n1 n2 r k k' u' u1 u2 x : Nat} {l L W P : List Int} {A : pa_A} {t t' t1 t2 : Nat → List Int} {kc kc' kc1 kc2 : Nat → Nat}
/-- a String stays if another kind of object changes -/
theorem sS_up {F : Nat → Prop} {a ci : Nat} {fs : List Value} {e : va_E} (H : sS F h n r l) (ha : h a = .inr (ci, fs)) (hc : ci ≠ 6) : sS F (va_up h a e) n r l := by
  obtain ⟨b, x, y, h1, ⟨f, h2, h6, h7⟩, h3, h4, h5, h8, h9⟩ := H
  have e1 : r ≠ a := by
    intro g
    rw [g, ha] at h1
    cases h1
    exact hc rfl
  have e2 : b ≠ a := by
    intro g
    rw [g, ha] at h2
    cases h2
  exact ⟨b, x, y, (va_up_n e1).trans h1, ⟨f, (va_up_n e2).trans h2, h6, h7⟩, h3, h4, h5, h8, h9⟩
theorem k119_c (hfm : fm = .null ∨ ∃ j, fm = .ref j) (K : KW w h n t kc) {D q host : List Int} (HP : sS (gd w) h n (p 6) D) (HQ : sS (gd w) h n (p 7) q) (HO : sS (gd w) h n (p 5) host) {sec : Bool} (h9 : s 9 = xb sec) (hd : t 2 = pa_hd (sec, host, s 10, D, q)) (hok : (pa_text (sec, host, s 10, D, q)).length ≤ 60 → pa_ok (sec, host, s 10, D, q)) (hl : (t 2).length + D.length + q.length < 7000) {c u : Nat} : xe fm 119 (87, [(0, .ref 49)], [], (ko w s p ar v h, n, c, u)) (fun r M => ∃ o : Option Nat, r = .inl (some (va_rf o)) ∧ ∃ w' h1 t' kc' u', M.1 = ko w' s p ar v h1 ∧ M.2.2.2 = u + u' ∧ RR [] [] 80 3 w s p h n t kc w' s p h1 M.2.1 t' kc' u' ∧ (t' 2).length < 7000 ∧ ((pa_text (sec, host, s 10, D, q)).length ≤ 60 → ∃ x, o = some x ∧ aO w' h1 M.2.1 x (sec, host, s 10, D, q)) ∧ (60 < (pa_text (sec, host, s 10, D, q)).length → o = none)) := by
  have W0 := K.1.1
  have te : pa_text (sec, host, s 10, D, q) = t 2 ++ D ++ q := by rw [hd]; rfl
  have tl : (t 2 ++ D ++ q).length = (t 2).length + D.length + q.length := by rw [List.length_append, List.length_append]
  have hb := xb_or sec
  rw [te] at hok ⊢
  refine xe_s (f := (88, _, _, _)) xt_g119 rfl rfl rfl rfl rfl ?_
  refine xe_gf xt_g119 rfl (q := 91) rfl (xf_2_12 fm) (ko_49) (by omega) rfl rfl ?_
  refine xe_s (f := (92, _, _, _)) xt_g119 rfl rfl rfl rfl rfl ?_
  refine xe_gf xt_g119 rfl (q := 95) rfl (xf_2_27 fm) (ko_49) (by omega) rfl rfl ?_
  refine xe_cA xt_g119 rfl rfl rfl (q := 98) rfl (kc_V xk_2_140 rfl (ko_50) (by omega) rfl rfl) xt_g16 (by decide) ⟨Nat.le_of_ble_eq_true rfl, Nat.le_of_ble_eq_true rfl, Nat.le_of_ble_eq_true rfl⟩ (k16_2 K HP (by omega)) (fun x1 h1' n1 c1 u1 hp => ?_)
  obtain ⟨rfl, w1, h2, k1, rfl, R1⟩ := hp
  have N1 := R1.2.1.1
  have K1 := R1.1
  have Q1 := sS_kp HQ R1.2.1
  refine xe_s (f := (99, _, _, _)) xt_g119 rfl rfl rfl rfl rfl ?_
  refine xe_s (f := (100, _, _, _)) xt_g119 rfl rfl rfl rfl rfl ?_
  refine xe_gf xt_g119 rfl (q := 103) rfl (xf_2_12 fm) (ko_49) (by omega) rfl rfl ?_
  refine xe_s (f := (104, _, _, _)) xt_g119 rfl rfl rfl rfl rfl ?_
  refine xe_gf xt_g119 rfl (q := 107) rfl (xf_2_30 fm) (ko_49) (by omega) rfl rfl ?_
  refine xe_cA xt_g119 rfl rfl rfl (q := 110) rfl (kc_V xk_2_140 rfl (ko_50) (by omega) rfl rfl) xt_g16 (by decide) ⟨Nat.le_of_ble_eq_true rfl, Nat.le_of_ble_eq_true rfl, Nat.le_of_ble_eq_true rfl⟩ (k16_2 K1 Q1 (by rw [tu_s, List.length_append]; omega)) (fun x2 h2' n2 c2 u2 hq => ?_)
  obtain ⟨rfl, w2, h3, k2, rfl, R2⟩ := hq
  rw [tu_s] at R2
  have N2 := R2.2.1.1
  have K2 := R2.1
  have Q2 := sS_kp Q1 R2.2.1
  have P2 := sS_kp (sS_kp HP R1.2.1) R2.2.1
  have O2 := sS_kp (sS_kp HO R1.2.1) R2.2.1
  have RB := RR_trans (kR_RR2 (s := s) (p := p) R1) (kR_RR2 (s := s) (p := p) R2)
  refine xe_s (f := (111, _, _, _)) xt_g119 rfl rfl rfl rfl rfl ?_
  refine xe_s (f := (112, _, _, _)) xt_g119 rfl rfl rfl rfl rfl ?_
  refine xe_gf xt_g119 rfl (q := 115) rfl (xf_2_12 fm) (ko_49) (by omega) rfl rfl ?_
  refine xe_cR xt_g119 rfl rfl rfl (q := 118) rfl (kc_V xk_2_171 rfl (ko_50) (by omega) rfl rfl) xt_g12 (by decide) ⟨Nat.le_of_ble_eq_true rfl, Nat.le_of_ble_eq_true rfl, Nat.le_of_ble_eq_true rfl⟩ (k12_2 K2) ?_
  rw [tu_s, tl]
  refine xe_bipush xt_g119 rfl (q := 120) rfl (by decide) (by decide) ?_
  refine xe_ic_le xt_g119 rfl (t := 125) rfl (q := 123) rfl (by first | omega | exact xb_r _) (by first | omega | exact xb_r _) (fun b120 => ?_) (fun b120 => ?_)
  · try simp only [xb_0, xb_1, ne_eq, Decidable.not_not, Bool.not_eq_false, Bool.not_eq_true, decide_eq_true_eq, decide_eq_false_iff_not] at b120
    refine xe_new (k := 6) (fs := [xi 0, .null, xi 0, .null, .null, .null]) xt_g119 rfl rfl (q := 128) rfl (xn_2_107 fm) rfl rfl rfl ?_
    rw [ko_new (by omega)]
    have ke1 : ke h3 n2 (va_up h3 n2 (.inr (8, [xi 0, .null, xi 0, .null, .null, .null]))) (n2 + 1) := ke_up (Nat.le_refl _) (by omega)
    refine xe_s (f := (129, _, _, _)) xt_g119 rfl rfl rfl rfl rfl ?_
    refine xe_s (f := (130, _, _, _)) xt_g119 rfl rfl rfl rfl rfl ?_
    refine xe_gf xt_g119 rfl (q := 133) rfl (xf_2_58 fm) (ko_49) (by omega) rfl rfl ?_
    rw [h9]
    refine xe_s (f := (134, _, _, _)) xt_g119 rfl rfl rfl rfl rfl ?_
    refine xe_gf xt_g119 rfl (q := 137) rfl (xf_2_24 fm) (ko_49) (by omega) rfl rfl ?_
    refine xe_s (f := (138, _, _, _)) xt_g119 rfl rfl rfl rfl rfl ?_
    refine xe_gf xt_g119 rfl (q := 141) rfl (xf_2_115 fm) (ko_49) (by omega) rfl rfl ?_
    refine xe_s (f := (142, _, _, _)) xt_g119 rfl rfl rfl rfl rfl ?_
    refine xe_gf xt_g119 rfl (q := 145) rfl (xf_2_27 fm) (ko_49) (by omega) rfl rfl ?_
    refine xe_s (f := (146, _, _, _)) xt_g119 rfl rfl rfl rfl rfl ?_
    refine xe_gf xt_g119 rfl (q := 149) rfl (xf_2_30 fm) (ko_49) (by omega) rfl rfl ?_
    refine xe_s (f := (150, _, _, _)) xt_g119 rfl rfl rfl rfl rfl ?_
    refine xe_gf xt_g119 rfl (q := 153) rfl (xf_2_12 fm) (ko_49) (by omega) rfl rfl ?_
    refine xe_cA xt_g119 rfl rfl rfl (q := 156) rfl (kc_V xk_2_144 rfl (ko_50) (by omega) rfl rfl) xt_g48 (by decide) ⟨Nat.le_of_ble_eq_true rfl, Nat.le_of_ble_eq_true rfl, Nat.le_of_ble_eq_true rfl⟩ (k48_2 (KW_ke K2 ke1) (by rw [tu_s]; omega)) (fun x5 h5' n5 c5 u5 hr => ?_)
    obtain ⟨h5, rfl, k5, S5, n5', u5'⟩ := hr
    rw [tu_s] at S5 u5'
    have N5 := k5.1
    have hx5 : h5 n2 = .inr (8, [xi 0, .null, xi 0, .null, .null, .null]) := (k5.2 n2 (by omega) (Or.inr (Or.inr (Or.inr (Or.inr (by omega)))))).trans va_up_s
    refine xe_cN xt_g119 rfl rfl rfl (q := 159) rfl (kc_P xk_2_179 rfl) xt_g125 (by decide) ⟨Nat.le_of_ble_eq_true rfl, Nat.le_of_ble_eq_true rfl, Nat.le_of_ble_eq_true rfl⟩ (k125 (x := n2) ((ko_d (Or.inr (Or.inr (Or.inr (Or.inr (by omega)))))).trans hx5) rfl (by omega) (by omega) hb) (fun h6' n6 c6 u6 hs => ?_)
    obtain ⟨e1, e2, e3⟩ := hs
    subst e1
    rw [ko_new (by omega), e2, e3]
    refine xe_aret xt_g119 rfl (Or.inl ⟨_, rfl⟩) rfl ?_
    try dsimp only
    have kE : ke h3 n2 (va_up h5 n2 (.inr (8, [xi (xb sec), .ref (p 5), xi (s 10), .ref (p 6), .ref (p 7), .ref x5]))) n5 := ⟨by omega, fun a ha d => (va_up_n (by omega)).trans ((k5.2 a (by omega) d).trans (va_up_n (by omega)))⟩
    refine ⟨some n2, rfl, w2, _, _, _, u1 + u2 + 6 + u5, rfl, by omega, RR_mono (RR_trans RB (RR_ke (S := []) (Q := []) (s := s) (p := p) (s' := s) (p' := p) (B := 70) (C := 3) (u' := 6 + u5) K2 kE (fun _ _ => rfl) (fun _ _ => rfl) (by omega) (by omega))) rfl rfl (by omega) (by omega) (by omega), by rw [tu_s]; omega, fun g => ⟨n2, rfl, _, _, _, _, va_up_s, gd_n K2.1 (Nat.le_refl _), by omega, by omega, sS_ke O2 kE, sS_ke P2 kE, sS_ke Q2 kE, ?_, hok (by rw [tl]; exact g)⟩, fun g => absurd g (by omega)⟩
    rw [te]
    exact sS_up S5 hx5 (by decide)
  · try simp only [xb_0, xb_1, ne_eq, Decidable.not_not, Bool.not_eq_false, Bool.not_eq_true, decide_eq_true_eq, decide_eq_false_iff_not] at b120
    refine xe_s (f := (124, _, _, _)) xt_g119 rfl rfl rfl rfl rfl ?_
    refine xe_aret xt_g119 rfl (Or.inl ⟨_, rfl⟩) rfl ?_
    try dsimp only
    exact ⟨none, rfl, w2, h3, _, _, u1 + u2, rfl, by omega, RR_mono RB rfl rfl (by omega) (by omega) (by omega), by rw [tu_s]; omega, fun g => absurd g (by omega), fun _ => rfl⟩
theorem k119_b (hfm : fm = .null ∨ ∃ j, fm = .ref j) (K : KW w h n t kc) (C : cst w h n) {D q host : List Int} (HP : sS (gd w) h n (p 6) D) (HQ : sS (gd w) h n (p 7) q) (HO : sS (gd w) h n (p 5) host) {sec : Bool} (h9 : s 9 = xb sec) (h10 : 1 ≤ s 10 ∧ s 10 ≤ 65535) (hd : t 2 = pa_scm sec) (hok : (pa_text (sec, host, s 10, D, q)).length ≤ 60 → pa_ok (sec, host, s 10, D, q)) (hl : host.length + D.length + q.length < 6000) {c u : Nat} : xe fm 119 (42, [(0, .ref 49)], [], (ko w s p ar v h, n, c, u)) (fun r M => ∃ o : Option Nat, r = .inl (some (va_rf o)) ∧ ∃ w' h1 t' kc' u', M.1 = ko w' s p ar v h1 ∧ M.2.2.2 = u + u' ∧ RR [] [] 80 3 w s p h n t kc w' s p h1 M.2.1 t' kc' u' ∧ (t' 2).length < 7000 ∧ ((pa_text (sec, host, s 10, D, q)).length ≤ 60 → ∃ x, o = some x ∧ aO w' h1 M.2.1 x (sec, host, s 10, D, q)) ∧ (60 < (pa_text (sec, host, s 10, D, q)).length → o = none)) := by
  have W0 := K.1.1
  have hb := xb_or sec
  have hdf : 80 ≤ pa_df sec ∧ pa_df sec ≤ 443 := by unfold pa_df; split <;> omega
  have hsl : (pa_scm sec).length ≤ 8 := by unfold pa_scm; split <;> decide
  have hnl : (nm_txt (s 10)).length ≤ 60 := by
    have e : nm_txt (s 10) = pa_dg (s 10) := by rw [nm_txt_dg (by omega), ← pt_nm (sec := sec) h10.1 h10.2]
    rw [e]
    unfold pa_dg pa_dgs
    rw [List.length_map]
    exact Nat.le_trans (List.length_filter_le _ _) (by decide)
  refine xe_s (f := (43, _, _, _)) xt_g119 rfl rfl rfl rfl rfl ?_
  refine xe_gf xt_g119 rfl (q := 46) rfl (xf_2_12 fm) (ko_49) (by omega) rfl rfl ?_
  refine xe_s (f := (47, _, _, _)) xt_g119 rfl rfl rfl rfl rfl ?_
  refine xe_gf xt_g119 rfl (q := 50) rfl (xf_2_24 fm) (ko_49) (by omega) rfl rfl ?_
  refine xe_cA xt_g119 rfl rfl rfl (q := 53) rfl (kc_V xk_2_140 rfl (ko_50) (by omega) rfl rfl) xt_g16 (by decide) ⟨Nat.le_of_ble_eq_true rfl, Nat.le_of_ble_eq_true rfl, Nat.le_of_ble_eq_true rfl⟩ (k16_2 K HO (by rw [hd]; omega)) (fun x1 h1' n1 c1 u1 hp => ?_)
  obtain ⟨rfl, w1, h2, k1, rfl, R1⟩ := hp
  rw [hd] at R1
  have N1 := R1.2.1.1
  have K1 := R1.1
  have C1 := cst_kp C K.1 R1.2.1
  have O1 := sS_kp HO R1.2.1
  have P1 := sS_kp HP R1.2.1
  have Q1 := sS_kp HQ R1.2.1
  refine xe_s (f := (54, _, _, _)) xt_g119 rfl rfl rfl rfl rfl ?_
  refine xe_s (f := (55, _, _, _)) xt_g119 rfl rfl rfl rfl rfl ?_
  refine xe_gf xt_g119 rfl (q := 58) rfl (xf_2_115 fm) (ko_49) (by omega) rfl rfl ?_
  refine xe_s (f := (59, _, _, _)) xt_g119 rfl rfl rfl rfl rfl ?_
  refine xe_cR xt_g119 rfl rfl rfl (q := 62) rfl (kc_V xk_2_125 rfl (ko_49) (by omega) rfl rfl) xt_g109 (by decide) ⟨Nat.le_of_ble_eq_true rfl, Nat.le_of_ble_eq_true rfl, Nat.le_of_ble_eq_true rfl⟩ (k109 (by omega) h9) ?_
  refine xe_ic_eq xt_g119 rfl (t := 87) rfl (q := 65) rfl (by first | omega | exact xb_r _) (by first | omega | exact xb_r _) (fun b62 => ?_) (fun b62 => ?_)
  · try simp only [xb_0, xb_1, ne_eq, Decidable.not_not, Bool.not_eq_false, Bool.not_eq_true, decide_eq_true_eq, decide_eq_false_iff_not] at b62
    refine xe_mono (xe_loc (by intro q hq; simp only [List.mem_cons, List.not_mem_nil, or_false] at hq; rcases hq with rfl <;> rfl) ((k119_c (fm := fm) (s := s) (p := p) (ar := ar) (v := v) (c := c + c1) (u := u + u1) hfm K1 P1 Q1 O1 h9 (by rw [tu_s]; unfold pa_hd pa_pt; dsimp only; rw [if_pos b62, List.append_nil]) hok (by rw [tu_s, List.length_append]; omega)))) (fun r M hM => ?_)
    obtain ⟨o, g1, w4, h4, t4, kc4, u4, g2, g3, g4, g5, g6⟩ := hM
    exact ⟨o, g1, w4, h4, t4, kc4, u1 + u4, g2, by omega, RR_mono (RR_trans (kR_RR2 (s := s) (p := p) R1) g4) rfl rfl (by omega) (by omega) (by omega), g5, g6⟩
  · try simp only [xb_0, xb_1, ne_eq, Decidable.not_not, Bool.not_eq_false, Bool.not_eq_true, decide_eq_true_eq, decide_eq_false_iff_not] at b62
    refine xe_s (f := (66, _, _, _)) xt_g119 rfl rfl rfl rfl rfl ?_
    refine xe_gf xt_g119 rfl (q := 69) rfl (xf_2_12 fm) (ko_49) (by omega) rfl rfl ?_
    refine xe_bipush xt_g119 rfl (q := 71) rfl (by decide) (by decide) ?_
    refine xe_cA xt_g119 rfl rfl rfl (q := 74) rfl (kc_V xk_2_168 rfl (ko_50) (by omega) rfl rfl) xt_g63 (by decide) ⟨Nat.le_of_ble_eq_true rfl, Nat.le_of_ble_eq_true rfl, Nat.le_of_ble_eq_true rfl⟩ (k63_2 (c := 58) K1 (by omega) (by rw [tu_s, List.length_append]; omega)) (fun x2 h2' n2 c2 u2 hq => ?_)
    obtain ⟨rfl, w2, h3, k2, rfl, R2⟩ := hq
    rw [tu_s] at R2
    have N2 := R2.2.1.1
    have K2 := R2.1
    refine xe_s (f := (75, _, _, _)) xt_g119 rfl rfl rfl rfl rfl ?_
    refine xe_s (f := (76, _, _, _)) xt_g119 rfl rfl rfl rfl rfl ?_
    refine xe_gf xt_g119 rfl (q := 79) rfl (xf_2_12 fm) (ko_49) (by omega) rfl rfl ?_
    refine xe_s (f := (80, _, _, _)) xt_g119 rfl rfl rfl rfl rfl ?_
    refine xe_gf xt_g119 rfl (q := 83) rfl (xf_2_115 fm) (ko_49) (by omega) rfl rfl ?_
    refine xe_cA xt_g119 rfl rfl rfl (q := 86) rfl (kc_V xk_2_176 rfl (ko_50) (by omega) rfl rfl) xt_g42 (by decide) ⟨Nat.le_of_ble_eq_true rfl, Nat.le_of_ble_eq_true rfl, Nat.le_of_ble_eq_true rfl⟩ (k42_2 (z := s 10) K2 (cst_kp C1 K1.1 R2.2.1) (by omega) (by rw [tu_s, List.length_append, List.length_append, List.length_singleton]; omega)) (fun x3 h3' n3 c3 u3 hr => ?_)
    obtain ⟨rfl, w3, h4, k3, rfl, R3⟩ := hr
    rw [tu_s] at R3
    have N3 := R3.2.1.1
    have K3 := R3.1
    refine xe_s (f := (87, _, _, _)) xt_g119 rfl rfl rfl rfl rfl ?_
    refine xe_mono (xe_loc (by intro q hq; simp only [List.mem_cons, List.not_mem_nil, or_false] at hq; rcases hq with rfl <;> rfl) ((k119_c (fm := fm) (s := s) (p := p) (ar := ar) (v := v) (c := c + c1 + c2 + c3) (u := u + u1 + u2 + u3) hfm K3 (sS_kp (sS_kp P1 R2.2.1) R3.2.1) (sS_kp (sS_kp Q1 R2.2.1) R3.2.1) (sS_kp (sS_kp O1 R2.2.1) R3.2.1) h9 (by rw [tu_s]; unfold pa_hd pa_pt; dsimp only; rw [if_neg b62, nm_txt_dg (by omega), ← pt_nm (sec := sec) h10.1 h10.2, List.append_assoc (pa_scm sec ++ host)]; rfl) hok (by rw [tu_s, List.length_append, List.length_append, List.length_append, List.length_singleton]; omega)))) (fun r M hM => ?_)
    obtain ⟨o, g1, w4, h5, t4, kc4, u4, g2, g3, g4, g5, g6⟩ := hM
    exact ⟨o, g1, w4, h5, t4, kc4, u1 + u2 + u3 + u4, g2, by omega, RR_mono (RR_trans (RR_trans (RR_trans (kR_RR2 (s := s) (p := p) R1) (kR_RR2 (s := s) (p := p) R2)) (kR_RR2 (s := s) (p := p) R3)) g4) rfl rfl (by omega) (by omega) (by omega), g5, g6⟩
/-- finished -/
theorem k119 (hfm : fm = .null ∨ ∃ j, fm = .ref j) (K : KW w h n t kc) (C : cst w h n) (h9 : s 9 = xb A.1) (HR : rdA w s p h n A.2) (ok0 : pa_ok0 A) (lh : A.2.1.length ≤ 300) (lq : A.2.2.2.2.length ≤ 300) (ht : (t 2).length < 8000) : xO fm 119 (ko w s p ar v h) n [.ref 49] (fun o h' n' u' => ∃ w' p' h1 t' kc', h' = ko w' s p' ar v h1 ∧ RR [] [6] 2500 807 w s p h n t kc w' s p' h1 n' t' kc' u' ∧ (t' 2).length < 7000 ∧ ((pa_text (pa_cl A)).length ≤ 60 → ∃ x, o = some x ∧ aO w' h1 n' x (pa_cl A)) ∧ (60 < (pa_text (pa_cl A)).length → o = none)) := by
  have W0 := K.1.1
  obtain ⟨HO, e10, ⟨P, HP, eD, lP⟩, HQ⟩ := HR
  have hok := fun g => pa_cl_ok ok0 g
  have h10 : 1 ≤ s 10 ∧ s 10 ≤ 65535 := by rw [e10]; exact ⟨ok0.2.2.2.2.2.1, ok0.2.2.2.2.2.2.1⟩
  unfold pa_cl at hok ⊢
  rw [← e10] at hok ⊢
  unfold xO
  refine xe_s (f := (1, _, _, _)) xt_g119 rfl rfl rfl rfl rfl ?_
  refine xe_s (f := (2, _, _, _)) xt_g119 rfl rfl rfl rfl rfl ?_
  refine xe_s (f := (3, _, _, _)) xt_g119 rfl rfl rfl rfl rfl ?_
  refine xe_gf xt_g119 rfl (q := 6) rfl (xf_2_27 fm) (ko_49) (by omega) rfl rfl ?_
  refine xe_cA xt_g119 rfl rfl rfl (q := 9) rfl (kc_V xk_2_173 rfl (ko_49) (by omega) rfl rfl) xt_g120 (by decide) ⟨Nat.le_of_ble_eq_true rfl, Nat.le_of_ble_eq_true rfl, Nat.le_of_ble_eq_true rfl⟩ (k120 hfm K C HP lP ht) (fun x1 h1' n1 c1 u1 hp => ?_)
  obtain ⟨w1, h2, t1, kc1, rfl, R1, t1l, dl, S1⟩ := hp
  rw [eD] at S1 dl
  have N1 := R1.2.1.1
  have K1 := R1.1
  refine xe_kp_2_6 xt_g119 rfl (q := 12) rfl (xf_2_27 fm) (by omega) ?_
  refine xe_s (f := (13, _, _, _)) xt_g119 rfl rfl rfl rfl rfl ?_
  refine xe_gf xt_g119 rfl (q := 16) rfl (xf_2_12 fm) (ko_49) (by omega) rfl rfl ?_
  try simp only [xo_u, pu, Nat.reduceEqDiff, reduceIte]
  refine xe_s (f := (17, _, xi 0 :: _, _)) xt_g119 rfl rfl rfl rfl rfl ?_
  refine xe_cN xt_g119 rfl rfl rfl (q := 20) rfl (kc_V xk_2_136 rfl (ko_50) (by omega) rfl rfl) xt_g14 (by decide) ⟨Nat.le_of_ble_eq_true rfl, Nat.le_of_ble_eq_true rfl, Nat.le_of_ble_eq_true rfl⟩ (k14_2 (m := 0) (p := pu p 6 x1) K1 (by omega) (by omega) (by omega)) (fun h2' n2 c2 u2 hq => ?_)
  obtain ⟨w2, h3, k2, rfl, R2⟩ := hq
  rw [show (0 : Int).toNat = 0 from rfl, List.take_zero] at R2
  have N2 := R2.2.1.1
  have K2 := R2.1
  have C2 := cst_kp (cst_kp C K.1 R1.2.1) K1.1 R2.2.1
  have P2 : sS (gd w2) h3 n2 (pu p 6 x1 6) (pa_dots A.2.2.2.1) := by rw [pu_s]; exact sS_kp S1 R2.2.1
  have Q2 : sS (gd w2) h3 n2 (pu p 6 x1 7) A.2.2.2.2 := by rw [pu_n (by decide)]; exact sS_kp (sS_kp HQ R1.2.1) R2.2.1
  have O2 : sS (gd w2) h3 n2 (pu p 6 x1 5) A.2.1 := by rw [pu_n (by decide)]; exact sS_kp (sS_kp HO R1.2.1) R2.2.1
  have RA : RR [] [6] 2415 804 w s p h n t kc w2 s (pu p 6 x1) h3 n2 (tu t1 2 []) (pu kc1 2 k2) (u1 + u2) := by
    have g := RR_trans R1 (kR_RR2 (s := s) (p := p) R2)
    obtain ⟨y1, y2, y3, y4, y5, y6, y7, y8, y9⟩ := g
    exact ⟨y1, y2, y3, fun k hk => by rw [pu_n (fun e => hk (by rw [e]; decide))], y5, y6, y7, by omega, by omega⟩
  have fin : ∀ (w5 : kW) (h5 : xm_H) (n5 u5 c5 k5 : Nat), kR w2 h3 n2 (tu t1 2 []) (pu kc1 2 k2) 2 (pa_scm A.1) w5 h5 n5 u5 k5 → xe fm 119 (42, [(0, .ref 49)], [], (ko w5 s (pu p 6 x1) ar v h5, n5, c5, 0 + u1 + u2 + u5)) (fun r M => ∃ o : Option Nat, r = .inl (some (va_rf o)) ∧ ∃ w' p' h1 t' kc', M.1 = ko w' s p' ar v h1 ∧ RR [] [6] 2500 807 w s p h n t kc w' s p' h1 M.2.1 t' kc' M.2.2.2 ∧ (t' 2).length < 7000 ∧ ((pa_text (A.1, A.2.1, s 10, pa_dots A.2.2.2.1, A.2.2.2.2)).length ≤ 60 → ∃ x, o = some x ∧ aO w' h1 M.2.1 x (A.1, A.2.1, s 10, pa_dots A.2.2.2.1, A.2.2.2.2)) ∧ (60 < (pa_text (A.1, A.2.1, s 10, pa_dots A.2.2.2.1, A.2.2.2.2)).length → o = none)) := by
    intro w5 h5 n5 u5 c5 k5 R5
    refine xe_mono (k119_b (fm := fm) (s := s) (p := pu p 6 x1) (ar := ar) (v := v) (c := c5) (u := 0 + u1 + u2 + u5) hfm R5.1 (cst_kp C2 K2.1 R5.2.1) (sS_kp P2 R5.2.1) (sS_kp Q2 R5.2.1) (sS_kp O2 R5.2.1) h9 h10 tu_s hok (by omega)) (fun r M hM => ?_)
    obtain ⟨o, g1, w6, h6, t6, kc6, u6, g2, g3, g4, g5, g6⟩ := hM
    refine ⟨o, g1, w6, pu p 6 x1, h6, t6, kc6, g2, RR_mono (RR_trans (RR_trans RA (RR_mono (kR_RR2 (s := s) (p := pu p 6 x1) R5) (S' := []) (Q' := [6]) rfl rfl (Nat.le_refl _) (Nat.le_refl _) (Nat.le_refl _))) (RR_mono g4 (S' := []) (Q' := [6]) rfl rfl (Nat.le_refl _) (Nat.le_refl _) (Nat.le_refl _))) rfl rfl (by omega) (by omega) (by omega), g5, g6⟩
  refine xe_s (f := (21, _, _, _)) xt_g119 rfl rfl rfl rfl rfl ?_
  refine xe_gf xt_g119 rfl (q := 24) rfl (xf_2_12 fm) (ko_49) (by omega) rfl rfl ?_
  try simp only [xo_u, pu, Nat.reduceEqDiff, reduceIte]
  refine xe_s (f := (25, _, _, _)) xt_g119 rfl rfl rfl rfl rfl ?_
  refine xe_gf xt_g119 rfl (q := 28) rfl (xf_2_58 fm) (ko_49) (by omega) rfl rfl ?_
  try simp only [xo_u, pu, Nat.reduceEqDiff, reduceIte]
  rw [h9]
  refine xe_if_eq xt_g119 rfl (t := 36) rfl (q := 31) rfl (by first | omega | exact xb_r _) (fun b28 => ?_) (fun b28 => ?_)
  · try simp only [xb_0, xb_1, ne_eq, Decidable.not_not, Bool.not_eq_false, Bool.not_eq_true, decide_eq_true_eq, decide_eq_false_iff_not] at b28
    refine xe_s (f := (38, _, .ref 9 :: _, _)) xt_g119 rfl rfl rfl rfl rfl ?_
    have es : pa_scm A.1 = [104, 116, 116, 112, 58, 47, 47] := by rw [b28]; rfl
    refine xe_cA xt_g119 rfl rfl rfl (q := 41) rfl (kc_V xk_2_140 rfl (ko_50) (by omega) rfl rfl) xt_g16 (by decide) ⟨Nat.le_of_ble_eq_true rfl, Nat.le_of_ble_eq_true rfl, Nat.le_of_ble_eq_true rfl⟩ (k16_2 K2 (C2.1 (9, [104, 116, 116, 112, 58, 47, 47]) (by decide)) (by rw [tu_s]; decide)) (fun x5 h5' n5 c5 u5 hr => ?_)
    obtain ⟨rfl, w5, h5, k5, rfl, R5⟩ := hr
    rw [tu_s, List.nil_append, ← es] at R5
    refine xe_s (f := (42, _, _, _)) xt_g119 rfl rfl rfl rfl rfl ?_
    exact xe_loc (by intro q hq; simp only [List.mem_cons, List.not_mem_nil, or_false] at hq; rcases hq with rfl <;> rfl) ((fin w5 h5 n5 u5 _ k5 R5))
  · try simp only [xb_0, xb_1, ne_eq, Decidable.not_not, Bool.not_eq_false, Bool.not_eq_true, decide_eq_true_eq, decide_eq_false_iff_not] at b28
    refine xe_s (f := (33, _, .ref 7 :: _, _)) xt_g119 rfl rfl rfl rfl rfl ?_
    refine xe_s (f := (38, _, _, _)) xt_g119 rfl rfl rfl rfl rfl ?_
    have es : pa_scm A.1 = [104, 116, 116, 112, 115, 58, 47, 47] := by rw [b28]; rfl
    refine xe_cA xt_g119 rfl rfl rfl (q := 41) rfl (kc_V xk_2_140 rfl (ko_50) (by omega) rfl rfl) xt_g16 (by decide) ⟨Nat.le_of_ble_eq_true rfl, Nat.le_of_ble_eq_true rfl, Nat.le_of_ble_eq_true rfl⟩ (k16_2 K2 (C2.1 (7, [104, 116, 116, 112, 115, 58, 47, 47]) (by decide)) (by rw [tu_s]; decide)) (fun x5 h5' n5 c5 u5 hr => ?_)
    obtain ⟨rfl, w5, h5, k5, rfl, R5⟩ := hr
    rw [tu_s, List.nil_append, ← es] at R5
    refine xe_s (f := (42, _, _, _)) xt_g119 rfl rfl rfl rfl rfl ?_
    exact xe_loc (by intro q hq; simp only [List.mem_cons, List.not_mem_nil, or_false] at hq; rcases hq with rfl <;> rfl) ((fin w5 h5 n5 u5 _ k5 R5))
theorem pa_pre_ok {t : Int → Int} {E : Int} {b : Option pa_A} {a : pa_A} (hb : ∀ x, b = some x → pa_ok x) (h : pa_pre t E b = some a) : pa_ok0 a := by
  unfold pa_pre at h
  split at h
  · cases e : pa_from t E (xd_ss t) (xd_sk t + 3) with
    | none => rw [e] at h; cases h
    | some x => rw [e] at h; cases h; exact pa_from_ok e
  · cases b with
    | none => cases h
    | some b => exact pa_ref_ok (hb b rfl) h
/-- an address or none -/
def adO (w : kW) (h : xm_H) (n : Nat) (o : Option Nat) : Option pa_A → Prop
  | none => o = none
  | some a => ∃ x, o = some x ∧ aO w h n x a
theorem adO_some {B : Option pa_A} (H : adO w h n (some x) B) : ∃ a, B = some a ∧ aO w h n x a := by
  cases B with
  | none => cases H
  | some a =>
    obtain ⟨y, e, H⟩ := H
    cases e
    exact ⟨a, rfl, H⟩
theorem adO_none {B : Option pa_A} (H : adO w h n none B) : B = none := by
  cases B with
  | none => rfl
  | some a =>
    obtain ⟨y, e, H⟩ := H
    cases e
theorem adO_kp {o : Option Nat} {B : Option pa_A} (H : adO w h n o B) (e : kp w h n w' h' n') : adO w' h' n' o B := by
  cases B with
  | none => exact H
  | some a =>
    obtain ⟨y, e1, H⟩ := H
    exact ⟨y, e1, aO_kp H e⟩
theorem adO_ok {o : Option Nat} {B : Option pa_A} (H : adO w h n o B) : ∀ a, B = some a → pa_ok a := by
  intro a e
  subst e
  obtain ⟨y, e1, H⟩ := H
  obtain ⟨ho, pa, qu, te, a1, a2, a3, a4, a5, a6, a7, a8, a9⟩ := H
  exact a9
theorem pa_pre_f {t : Int → Int} {E : Int} {b : Option pa_A} (h : xd_hsc t = false) : pa_pre t E b = b.bind (pa_ref t E) := by
  unfold pa_pre
  rw [if_neg (by rw [h]; decide)]
  cases b <;> rfl
theorem k100_c (hfm : fm = .null ∨ ∃ j, fm = .ref j) (K : KW w h n t kc) (C : cst w h n) {B : Option pa_A} (hB : ∀ a, B = some a → pa_ok a) {z : Int} (R : rdP w s p h n (pa_pre (lt l) l.length B) z) (hl : l.length ≤ 200) (ht : (t 2).length < 8000) {c u : Nat} : xe fm 100 (47, [(0, .ref 49)], [xi z], (ko w s p ar v h, n, c, u)) (fun r M => ∃ o : Option Nat, r = .inl (some (va_rf o)) ∧ ∃ w' p' h1 t' kc' u', M.1 = ko w' s p' ar v h1 ∧ M.2.2.2 = u + u' ∧ RR [] [6] 2500 807 w s p h n t kc w' s p' h1 M.2.1 t' kc' u' ∧ (t' 2).length < 8000 ∧ adO w' h1 M.2.1 o (pa_res (lt l) l.length B)) := by
  have W0 := K.1.1
  unfold pa_res
  cases e : pa_pre (lt l) l.length B with
  | none =>
    have z0 : z = 0 := R.1 e
    subst z0
    refine xe_s (f := (48, [(3, _), (0, _)], _, _)) xt_g100 rfl rfl rfl rfl rfl ?_
    refine xe_s (f := (49, _, _, _)) xt_g100 rfl rfl rfl rfl rfl ?_
    refine xe_if_eq xt_g100 rfl (t := 59) rfl (q := 52) rfl (by first | omega | exact xb_r _) (fun b49 => ?_) (fun b49 => ?_)
    · try simp only [xb_0, xb_1, ne_eq, Decidable.not_not, Bool.not_eq_false, Bool.not_eq_true, decide_eq_true_eq, decide_eq_false_iff_not] at b49
      refine xe_s (f := (60, _, _, _)) xt_g100 rfl rfl rfl rfl rfl ?_
      refine xe_aret xt_g100 rfl (Or.inl ⟨_, rfl⟩) rfl ?_
      try dsimp only
      exact ⟨none, rfl, w, p, h, t, kc, 0, rfl, rfl, RR_ke K ke_refl (fun _ _ => rfl) (fun _ _ => rfl) (by omega) (by omega), ht, rfl⟩
    · exact absurd b49 (by omega)
  | some a =>
    obtain ⟨z1, h9, HR⟩ := R.2 a e
    subst z1
    obtain ⟨l1, l2⟩ := pa_pre_len hB e
    refine xe_s (f := (48, [(3, _), (0, _)], _, _)) xt_g100 rfl rfl rfl rfl rfl ?_
    refine xe_s (f := (49, _, _, _)) xt_g100 rfl rfl rfl rfl rfl ?_
    refine xe_if_eq xt_g100 rfl (t := 59) rfl (q := 52) rfl (by first | omega | exact xb_r _) (fun b49 => ?_) (fun b49 => ?_)
    · exact absurd b49 (by omega)
    · try simp only [xb_0, xb_1, ne_eq, Decidable.not_not, Bool.not_eq_false, Bool.not_eq_true, decide_eq_true_eq, decide_eq_false_iff_not] at b49
      refine xe_s (f := (53, _, _, _)) xt_g100 rfl rfl rfl rfl rfl ?_
      refine xe_cO xt_g100 rfl rfl rfl (q := 56) rfl (kc_V xk_2_48 rfl (ko_49) (by omega) rfl rfl) xt_g119 (by decide) ⟨Nat.le_of_ble_eq_true rfl, Nat.le_of_ble_eq_true rfl, Nat.le_of_ble_eq_true rfl⟩ (k119 hfm K C h9 HR (pa_pre_ok hB e) (by omega) (by omega) ht) (fun o1 h1' n1 c1 u1 hp => ?_)
      obtain ⟨w1, p1, h2, t1, kc1, rfl, R1, t1l, g1, g2⟩ := hp
      refine xe_s (f := (60, _, _, _)) xt_g100 rfl rfl rfl rfl rfl ?_
      refine xe_aret xt_g100 rfl (Or.inl ⟨_, rfl⟩) xm_isA_va ?_
      try dsimp only
      refine ⟨o1, rfl, w1, p1, h2, t1, kc1, u1, rfl, rfl, R1, by omega, ?_⟩
      by_cases g : (pa_text (pa_cl a)).length ≤ 60
      · rw [if_pos g]
        exact g1 g
      · rw [if_neg g]
        exact g2 (by omega)
/-- read -/
theorem k100 (hfm : fm = .null ∨ ∃ j, fm = .ref j) (K : KW w h n t kc) (C : cst w h n) (H : sS (gd w) h n r l) {ob : Option Nat} {B : Option pa_A} (HB : adO w h n ob B) (hl : l.length ≤ 200) (ht : (t 2).length < 8000) : xO fm 100 (ko w s p ar v h) n [.ref 49, .ref r, va_rf ob] (fun o h' n' u' => ∃ w' s' p' h1 t' kc', h' = ko w' s' p' ar v h1 ∧ RR [8, 9, 10] [4, 5, 6, 7] 4600 840 w s p h n t kc w' s' p' h1 n' t' kc' u' ∧ (t' 2).length < 8000 ∧ adO w' h1 n' o (pa_res (lt l) l.length B)) := by
  have W0 := K.1.1
  obtain ⟨fs, F1, q1, ha, l1⟩ := sS_at H
  have hB := adO_ok HB
  have H0 : sS (gd w) h n (pu (pu p 4 r) 7 1 4) l := by rw [pu_n (by decide), pu_s]; exact H
  have Q0 : sS (gd w) h n (pu (pu p 4 r) 7 1 7) [] := by rw [pu_s]; exact C.1 (1, []) (by decide)
  unfold xO
  cases ob with
  | none =>
    refine xe_s (f := (1, _, _, _)) xt_g100 rfl rfl rfl rfl rfl ?_
    refine xe_s (f := (2, _, _, _)) xt_g100 rfl rfl rfl rfl rfl ?_
    refine xe_kp_2_1 xt_g100 rfl (q := 5) rfl (xf_2_20 fm) (by omega) ?_
    refine xe_s (f := (6, _, _, _)) xt_g100 rfl rfl rfl rfl rfl ?_
    refine xe_s (f := (7, _, xi 0 :: _, _)) xt_g100 rfl rfl rfl rfl rfl ?_
    refine xe_kp_2_2 xt_g100 rfl (q := 10) rfl (xf_2_33 fm) (by omega) ?_
    refine xe_s (f := (11, _, _, _)) xt_g100 rfl rfl rfl rfl rfl ?_
    refine xe_s (f := (13, _, .ref 1 :: _, _)) xt_g100 rfl rfl rfl rfl rfl ?_
    refine xe_kp_2_7 xt_g100 rfl (q := 16) rfl (xf_2_30 fm) (by omega) ?_
    refine xe_s (f := (17, _, _, _)) xt_g100 rfl rfl rfl rfl rfl ?_
    refine xe_cI xt_g100 rfl rfl rfl (q := 20) rfl (kc_V xk_2_37 rfl (ko_49) (by omega) rfl rfl) xt_g101 (by decide) ⟨Nat.le_of_ble_eq_true rfl, Nat.le_of_ble_eq_true rfl, Nat.le_of_ble_eq_true rfl⟩ (k101 (s := xo_u s 8 0) (p := pu (pu p 4 r) 7 1) (l := l) hfm K C H0 xo_uS) (fun z1 h1' n1 c1 u1 hp => ?_)
    obtain ⟨h2, s1, rfl, R1, z1e, e1, e2⟩ := hp
    rw [z1e]
    have N1 := R1.2.1.1
    have K1 := R1.1
    have C1 := cst_kp C K.1 R1.2.1
    have H1 := sS_kp H0 R1.2.1
    have Q1 := sS_kp Q0 R1.2.1
    have B1 := adO_kp HB R1.2.1
    have RA : RR [8, 9, 10] [4, 5, 6, 7] 64 10 w s p h n t kc w s1 (pu (pu p 4 r) 7 1) h2 n1 t kc u1 := by
      obtain ⟨y1, y2, y3, y4, y5, y6, y7, y8, y9⟩ := R1
      refine ⟨y1, y2, fun k hk => ?_, fun k hk => ?_, y5, y6, y7, y8, y9⟩
      · rw [y3 k (fun e => hk (by simp only [List.mem_cons, List.not_mem_nil, or_false] at e ⊢; omega)), xo_uN (fun e => hk (by rw [e]; decide))]
      · rw [pu_n (fun e => hk (by rw [e]; decide)), pu_n (fun e => hk (by rw [e]; decide))]
    have fin : ∀ (w3 : kW) (s3 : Nat → Int) (p3 : Nat → Nat) (h3 : xm_H) (n3 : Nat) (t3 : Nat → List Int) (kc3 : Nat → Nat) (u3 c3 uu : Nat) (z : Int), RR [8, 9, 10] [4, 5, 6, 7] 2034 29 w s p h n t kc w3 s3 p3 h3 n3 t3 kc3 u3 → (t3 2).length < 8000 → rdP w3 s3 p3 h3 n3 (pa_pre (lt l) l.length B) z → uu = u3 → xe fm 100 (47, [(0, .ref 49)], [xi z], (ko w3 s3 p3 ar v h3, n3, c3, uu)) (fun r M => ∃ o : Option Nat, r = .inl (some (va_rf o)) ∧ ∃ w' s' p' h1 t' kc', M.1 = ko w' s' p' ar v h1 ∧ RR [8, 9, 10] [4, 5, 6, 7] 4600 840 w s p h n t kc w' s' p' h1 M.2.1 t' kc' M.2.2.2 ∧ (t' 2).length < 8000 ∧ adO w' h1 M.2.1 o (pa_res (lt l) l.length B)) := by
      intro w3 s3 p3 h3 n3 t3 kc3 u3 c3 uu z R3 t3l D3 eu
      refine xe_mono (k100_c (fm := fm) (s := s3) (p := p3) (ar := ar) (v := v) (c := c3) (u := uu) hfm R3.1 (cst_kp C K.1 R3.2.1) hB D3 hl t3l) (fun r M hM => ?_)
      obtain ⟨o, g1, w6, p6, h6, t6, kc6, u6, g2, g3, g4, g5, g6⟩ := hM
      exact ⟨o, g1, w6, s3, p6, h6, t6, kc6, g2, RR_mono (RR_trans R3 (RR_mono g4 (S' := [8, 9, 10]) (Q' := [4, 5, 6, 7]) rfl rfl (Nat.le_refl _) (Nat.le_refl _) (Nat.le_refl _))) rfl rfl (by omega) (by omega) (by omega), g5, g6⟩
    refine xe_if_eq xt_g100 rfl (t := 30) rfl (q := 23) rfl (by first | omega | exact xb_r _) (fun b20 => ?_) (fun b20 => ?_)
    · try simp only [xb_0, xb_1, ne_eq, Decidable.not_not, Bool.not_eq_false, Bool.not_eq_true, decide_eq_true_eq, decide_eq_false_iff_not] at b20
      have s18 := e2 b20
      refine xe_s (f := (31, _, _, _)) xt_g100 rfl rfl rfl rfl rfl ?_
      refine xe_s (f := (46, _, _, _)) xt_g100 rfl rfl rfl rfl rfl ?_
      refine xe_s (f := (47, _, xi 0 :: _, _)) xt_g100 rfl rfl rfl rfl rfl ?_
      have eB := adO_none HB
      exact xe_loc (by intro q hq; simp only [List.mem_cons, List.not_mem_nil, or_false] at hq; rcases hq with rfl <;> rfl) ((fin w s1 _ h2 n1 t kc u1 _ _ 0 (RR_mono RA rfl rfl (by omega) (by omega) (Nat.le_refl _)) ht (by rw [pa_pre_f b20, eB]; exact ⟨fun _ => rfl, fun a e => by cases e⟩) (by omega)))
    · try simp only [xb_0, xb_1, ne_eq, Decidable.not_not, Bool.not_eq_false, Bool.not_eq_true, decide_eq_true_eq, decide_eq_false_iff_not] at b20
      have sk := hsc_len b20
      obtain ⟨s19, s18⟩ := e1 b20
      have hpre : pa_pre (lt l) l.length B = (pa_from (lt l) l.length (xd_ss (lt l)) (xd_sk (lt l) + 3)).map (fun r => (xd_ss (lt l), r)) := if_pos b20
      have sk0 : 4 ≤ xd_sk (lt l) := by unfold xd_sk; split <;> omega
      refine xe_s (f := (24, _, _, _)) xt_g100 rfl rfl rfl rfl rfl ?_
      refine xe_cI xt_g100 rfl rfl rfl (q := 27) rfl (kc_V xk_2_41 rfl (ko_49) (by omega) rfl rfl) xt_g107 (by decide) ⟨Nat.le_of_ble_eq_true rfl, Nat.le_of_ble_eq_true rfl, Nat.le_of_ble_eq_true rfl⟩ (k107 (l := l) hfm K1 C1 H1 Q1 (by omega) hl ht s19) (fun z2 h2' n2 c2 u2 hq => ?_)
      obtain ⟨w2, s2, p2, h4, t2, kc2, rfl, R2, t2l, O2⟩ := hq
      rw [s18] at O2
      have P2 := rdO_P O2 (show s2 9 = xb (xd_ss (lt l)) by rw [R2.2.2.1 9 (by decide)]; exact s19)
      rw [← hpre] at P2
      refine xe_s (f := (47, _, _, _)) xt_g100 rfl rfl rfl rfl rfl ?_
      exact xe_loc (by intro q hq; simp only [List.mem_cons, List.not_mem_nil, or_false] at hq; rcases hq with rfl <;> rfl) ((fin w2 s2 p2 h4 n2 t2 kc2 (u1 + u2) _ _ z2 (RR_mono (RR_trans RA (RR_mono R2 (S' := [8, 9, 10]) (Q' := [4, 5, 6, 7]) rfl rfl (Nat.le_refl _) (Nat.le_refl _) (Nat.le_refl _))) rfl rfl (by omega) (by omega) (by omega)) t2l P2 (by omega)))
  | some x31 =>
    refine xe_s (f := (1, _, _, _)) xt_g100 rfl rfl rfl rfl rfl ?_
    refine xe_s (f := (2, _, _, _)) xt_g100 rfl rfl rfl rfl rfl ?_
    refine xe_kp_2_1 xt_g100 rfl (q := 5) rfl (xf_2_20 fm) (by omega) ?_
    refine xe_s (f := (6, _, _, _)) xt_g100 rfl rfl rfl rfl rfl ?_
    refine xe_s (f := (7, _, xi 0 :: _, _)) xt_g100 rfl rfl rfl rfl rfl ?_
    refine xe_kp_2_2 xt_g100 rfl (q := 10) rfl (xf_2_33 fm) (by omega) ?_
    refine xe_s (f := (11, _, _, _)) xt_g100 rfl rfl rfl rfl rfl ?_
    refine xe_s (f := (13, _, .ref 1 :: _, _)) xt_g100 rfl rfl rfl rfl rfl ?_
    refine xe_kp_2_7 xt_g100 rfl (q := 16) rfl (xf_2_30 fm) (by omega) ?_
    refine xe_s (f := (17, _, _, _)) xt_g100 rfl rfl rfl rfl rfl ?_
    refine xe_cI xt_g100 rfl rfl rfl (q := 20) rfl (kc_V xk_2_37 rfl (ko_49) (by omega) rfl rfl) xt_g101 (by decide) ⟨Nat.le_of_ble_eq_true rfl, Nat.le_of_ble_eq_true rfl, Nat.le_of_ble_eq_true rfl⟩ (k101 (s := xo_u s 8 0) (p := pu (pu p 4 r) 7 1) (l := l) hfm K C H0 xo_uS) (fun z1 h1' n1 c1 u1 hp => ?_)
    obtain ⟨h2, s1, rfl, R1, z1e, e1, e2⟩ := hp
    rw [z1e]
    have N1 := R1.2.1.1
    have K1 := R1.1
    have C1 := cst_kp C K.1 R1.2.1
    have H1 := sS_kp H0 R1.2.1
    have Q1 := sS_kp Q0 R1.2.1
    have B1 := adO_kp HB R1.2.1
    have RA : RR [8, 9, 10] [4, 5, 6, 7] 64 10 w s p h n t kc w s1 (pu (pu p 4 r) 7 1) h2 n1 t kc u1 := by
      obtain ⟨y1, y2, y3, y4, y5, y6, y7, y8, y9⟩ := R1
      refine ⟨y1, y2, fun k hk => ?_, fun k hk => ?_, y5, y6, y7, y8, y9⟩
      · rw [y3 k (fun e => hk (by simp only [List.mem_cons, List.not_mem_nil, or_false] at e ⊢; omega)), xo_uN (fun e => hk (by rw [e]; decide))]
      · rw [pu_n (fun e => hk (by rw [e]; decide)), pu_n (fun e => hk (by rw [e]; decide))]
    have fin : ∀ (w3 : kW) (s3 : Nat → Int) (p3 : Nat → Nat) (h3 : xm_H) (n3 : Nat) (t3 : Nat → List Int) (kc3 : Nat → Nat) (u3 c3 uu : Nat) (z : Int), RR [8, 9, 10] [4, 5, 6, 7] 2034 29 w s p h n t kc w3 s3 p3 h3 n3 t3 kc3 u3 → (t3 2).length < 8000 → rdP w3 s3 p3 h3 n3 (pa_pre (lt l) l.length B) z → uu = u3 → xe fm 100 (47, [(0, .ref 49)], [xi z], (ko w3 s3 p3 ar v h3, n3, c3, uu)) (fun r M => ∃ o : Option Nat, r = .inl (some (va_rf o)) ∧ ∃ w' s' p' h1 t' kc', M.1 = ko w' s' p' ar v h1 ∧ RR [8, 9, 10] [4, 5, 6, 7] 4600 840 w s p h n t kc w' s' p' h1 M.2.1 t' kc' M.2.2.2 ∧ (t' 2).length < 8000 ∧ adO w' h1 M.2.1 o (pa_res (lt l) l.length B)) := by
      intro w3 s3 p3 h3 n3 t3 kc3 u3 c3 uu z R3 t3l D3 eu
      refine xe_mono (k100_c (fm := fm) (s := s3) (p := p3) (ar := ar) (v := v) (c := c3) (u := uu) hfm R3.1 (cst_kp C K.1 R3.2.1) hB D3 hl t3l) (fun r M hM => ?_)
      obtain ⟨o, g1, w6, p6, h6, t6, kc6, u6, g2, g3, g4, g5, g6⟩ := hM
      exact ⟨o, g1, w6, s3, p6, h6, t6, kc6, g2, RR_mono (RR_trans R3 (RR_mono g4 (S' := [8, 9, 10]) (Q' := [4, 5, 6, 7]) rfl rfl (Nat.le_refl _) (Nat.le_refl _) (Nat.le_refl _))) rfl rfl (by omega) (by omega) (by omega), g5, g6⟩
    refine xe_if_eq xt_g100 rfl (t := 30) rfl (q := 23) rfl (by first | omega | exact xb_r _) (fun b20 => ?_) (fun b20 => ?_)
    · try simp only [xb_0, xb_1, ne_eq, Decidable.not_not, Bool.not_eq_false, Bool.not_eq_true, decide_eq_true_eq, decide_eq_false_iff_not] at b20
      have s18 := e2 b20
      refine xe_s (f := (31, _, _, _)) xt_g100 rfl rfl rfl rfl rfl ?_
      obtain ⟨a, eB, A1⟩ := adO_some B1
      have hpre : pa_pre (lt l) l.length B = pa_ref (lt l) l.length a := by rw [pa_pre_f b20, eB]; rfl
      refine xe_s (f := (34, _, _, _)) xt_g100 rfl rfl rfl rfl rfl ?_
      refine xe_s (f := (35, _, _, _)) xt_g100 rfl rfl rfl rfl rfl ?_
      refine xe_s (f := (36, _, _, _)) xt_g100 rfl rfl rfl rfl rfl ?_
      refine xe_cI xt_g100 rfl rfl rfl (q := 39) rfl (kc_V xk_2_44 rfl (ko_49) (by omega) rfl rfl) xt_g116 (by decide) ⟨Nat.le_of_ble_eq_true rfl, Nat.le_of_ble_eq_true rfl, Nat.le_of_ble_eq_true rfl⟩ (k116 (l := l) (x := x31) (A := a) hfm K1 C1 H1 Q1 A1 s18 hl ht) (fun z2 h2' n2 c2 u2 hq => ?_)
      obtain ⟨w2, s2, p2, h4, t2, kc2, rfl, R2, t2l, O2⟩ := hq
      rw [← hpre] at O2
      have z2r := rdP_z O2
      have RB := RR_mono (S' := [8, 9, 10]) (Q' := [4, 5, 6, 7]) (u2 := u1 + u2) (B' := 2034) (C' := 29) (RR_trans RA (RR_mono R2 (S' := [8, 9, 10]) (Q' := [4, 5, 6, 7]) rfl rfl (Nat.le_refl _) (Nat.le_refl _) (Nat.le_refl _))) rfl rfl (by omega) (by omega) (by omega)
      refine xe_if_eq xt_g100 rfl (t := 46) rfl (q := 42) rfl (by first | omega | exact xb_r _) (fun b39 => ?_) (fun b39 => ?_)
      · try simp only [xb_0, xb_1, ne_eq, Decidable.not_not, Bool.not_eq_false, Bool.not_eq_true, decide_eq_true_eq, decide_eq_false_iff_not] at b39
        refine xe_s (f := (47, _, xi 0 :: _, _)) xt_g100 rfl rfl rfl rfl rfl ?_
        rw [b39] at O2
        exact xe_loc (by intro q hq; simp only [List.mem_cons, List.not_mem_nil, or_false] at hq; rcases hq with rfl <;> rfl) ((fin w2 s2 p2 h4 n2 t2 kc2 (u1 + u2) _ _ 0 RB t2l O2 (by omega)))
      · try simp only [xb_0, xb_1, ne_eq, Decidable.not_not, Bool.not_eq_false, Bool.not_eq_true, decide_eq_true_eq, decide_eq_false_iff_not] at b39
        refine xe_s (f := (43, _, xi 1 :: _, _)) xt_g100 rfl rfl rfl rfl rfl ?_
        refine xe_s (f := (47, _, _, _)) xt_g100 rfl rfl rfl rfl rfl ?_
        rw [show z2 = 1 by omega] at O2
        exact xe_loc (by intro q hq; simp only [List.mem_cons, List.not_mem_nil, or_false] at hq; rcases hq with rfl <;> rfl) ((fin w2 s2 p2 h4 n2 t2 kc2 (u1 + u2) _ _ 1 RB t2l O2 (by omega)))
    · try simp only [xb_0, xb_1, ne_eq, Decidable.not_not, Bool.not_eq_false, Bool.not_eq_true, decide_eq_true_eq, decide_eq_false_iff_not] at b20
      have sk := hsc_len b20
      obtain ⟨s19, s18⟩ := e1 b20
      have hpre : pa_pre (lt l) l.length B = (pa_from (lt l) l.length (xd_ss (lt l)) (xd_sk (lt l) + 3)).map (fun r => (xd_ss (lt l), r)) := if_pos b20
      have sk0 : 4 ≤ xd_sk (lt l) := by unfold xd_sk; split <;> omega
      refine xe_s (f := (24, _, _, _)) xt_g100 rfl rfl rfl rfl rfl ?_
      refine xe_cI xt_g100 rfl rfl rfl (q := 27) rfl (kc_V xk_2_41 rfl (ko_49) (by omega) rfl rfl) xt_g107 (by decide) ⟨Nat.le_of_ble_eq_true rfl, Nat.le_of_ble_eq_true rfl, Nat.le_of_ble_eq_true rfl⟩ (k107 (l := l) hfm K1 C1 H1 Q1 (by omega) hl ht s19) (fun z2 h2' n2 c2 u2 hq => ?_)
      obtain ⟨w2, s2, p2, h4, t2, kc2, rfl, R2, t2l, O2⟩ := hq
      rw [s18] at O2
      have P2 := rdO_P O2 (show s2 9 = xb (xd_ss (lt l)) by rw [R2.2.2.1 9 (by decide)]; exact s19)
      rw [← hpre] at P2
      refine xe_s (f := (47, _, _, _)) xt_g100 rfl rfl rfl rfl rfl ?_
      exact xe_loc (by intro q hq; simp only [List.mem_cons, List.not_mem_nil, or_false] at hq; rcases hq with rfl <;> rfl) ((fin w2 s2 p2 h4 n2 t2 kc2 (u1 + u2) _ _ z2 (RR_mono (RR_trans RA (RR_mono R2 (S' := [8, 9, 10]) (Q' := [4, 5, 6, 7]) rfl rfl (Nat.le_refl _) (Nat.le_refl _) (Nat.le_refl _))) rfl rfl (by omega) (by omega) (by omega)) t2l P2 (by omega)))
end XB9
