/-! the jar: put -/
theorem ck_pl_r {C : List ck_T} {f : ck_T} : 0 ≤ ck_pl C f ∧ ck_pl C f ≤ C.length ∧ (ck_pl C f < C.length → ck_fi C f 0 = ck_pl C f) ∧ (ck_pl C f = C.length → ck_fi C f 0 < 0) := by
  unfold ck_pl
  rcases ck_fi_r (f := f) C 0 with e | ⟨e1, e2⟩
  · rw [e, if_neg (by omega)]
    exact ⟨by omega, by omega, fun g => by omega, fun _ => by omega⟩
  · rw [if_pos (by omega)]
    exact ⟨by omega, by omega, fun _ => rfl, fun g => by omega⟩
theorem st_gd {C : List ck_T} {f : ck_T} {k i : Nat} (hk : k < C.length) : (C.set k f).getD i ck_0 = if i = k then f else C.getD i ck_0 := by
  rw [List.getD_eq_getElem?_getD]
  by_cases e : i = k
  · rw [if_pos e, e, List.getElem?_set_self hk]
    rfl
  · rw [if_neg e, List.getElem?_set_ne (fun g => e g.symm), ← List.getD_eq_getElem?_getD]
section XBH
variable {fm : Value} {w w' w1 w2 : kW} {s s' s1 s2 : Nat → Int} {p p' p1 p2 : Nat → Nat} {ar ar' : Nat → Nat → Option Nat} {v : Nat → Int} {h h' h1 h2 : xm_H} {n n' n1 n2 r k k' u' u1 u2 x y a : Nat} {l D W P N V : List Int} {L : List (List Int)} {A : pa_A} {q : at_T} {f : ck_T} {C : List ck_T} {t t' t1 t2 : Nat → List Int} {kc kc' kc1 kc2 : Nat → Nat}
theorem k188_c (hfm : fm = .null ∨ ∃ j, fm = .ref j) (K : KW w h n t kc) (Cc : cst w h n) (HL : sfL w s ar h n L) (HC : ckL w s ar h n C) (HY : ckO w h n y f) {Q : Nat} (hQ : s 12 = Q) (hQ1 : 1 ≤ Q) (hQ2 : Q ≤ 40) {c u : Nat} : xe fm 188 (143, [(5, .ref y), (0, .ref 59)], [], (ko w s p ar v h, n, c, u)) (fun q' M => q' = .inl none ∧ ∃ s' ar' h1, M.1 = ko w s' p ar' v h1 ∧ ke h n h1 M.2.1 ∧ M.2.1 ≤ n + 2 ∧ M.2.2.2 ≤ u + 44 ∧ (∀ k, k ≠ 13 → s' k = s k) ∧ (∀ k, k ≠ 6 → ar' k = ar k) ∧ ckL w s' ar' h1 M.2.1 (ck_c40 (ck_q L f.2.2.1 Q 41 C))) := by
  have W0 := K.1.1
  obtain ⟨na, va, dn, pa, a1, a2, a3, a4, s1, s2, s3, s4, b1, b2, b3, b4, b5, b6⟩ := HY
  have Y1 := (ko_d (w := w) (s := s) (p := p) (ar := ar) (v := v) a2.1).trans a1
  rw [ck_q_qdr hQ1 HC.2.1]
  refine xe_s (f := (144, _, _, _)) xt_g188 rfl rfl rfl rfl rfl ?_
  refine xe_s (f := (146, _, _, _)) xt_g188 rfl rfl rfl rfl rfl ?_
  refine xe_gf xt_g188 rfl (q := 149) rfl (xf_6_73 fm) (Y1) (by omega) rfl rfl ?_
  refine xe_cN xt_g188 rfl rfl rfl (q := 152) rfl (kc_V xk_6_77 rfl (ko_59) (by omega) rfl rfl) xt_g218 (by decide) ⟨Nat.le_of_ble_eq_true rfl, Nat.le_of_ble_eq_true rfl, Nat.le_of_ble_eq_true rfl⟩ (k218 hfm K Cc HL HC s3 b4 hQ hQ2) (fun h2' n2 c2 u2 hp => ?_)
  obtain ⟨s5, ar5, h3, rfl, ke1, n2', u2', f1, f2, HC5⟩ := hp
  have N2 := ke1.1
  have l41 := HC5.2.1
  refine xe_s (f := (153, _, _, _)) xt_g188 rfl rfl rfl rfl rfl ?_
  refine xe_gf xt_g188 rfl (q := 156) rfl (xf_6_35 fm) (ko_59) (by omega) rfl rfl ?_
  rw [HC5.1]
  refine xe_bipush xt_g188 rfl (q := 158) rfl (by decide) (by decide) ?_
  refine xe_ic_le xt_g188 rfl (t := 166) rfl (q := 161) rfl (by first | omega | exact xb_r _) (by first | omega | exact xb_r _) (fun b158 => ?_) (fun b158 => ?_)
  · try simp only [xb_0, xb_1, ne_eq, Decidable.not_not, Bool.not_eq_false, Bool.not_eq_true, decide_eq_true_eq, decide_eq_false_iff_not] at b158
    refine xe_ret xt_g188 rfl rfl ?_
    try dsimp only
    refine ⟨rfl, s5, ar5, h3, rfl, ke1, n2', by omega, f1, f2, ?_⟩
    unfold ck_c40
    rw [if_neg (by omega)]
    exact HC5
  · try simp only [xb_0, xb_1, ne_eq, Decidable.not_not, Bool.not_eq_false, Bool.not_eq_true, decide_eq_true_eq, decide_eq_false_iff_not] at b158
    refine xe_s (f := (162, _, _, _)) xt_g188 rfl rfl rfl rfl rfl ?_
    refine xe_s (f := (163, _, xi 0 :: _, _)) xt_g188 rfl rfl rfl rfl rfl ?_
    refine xe_cN xt_g188 rfl rfl rfl (q := 166) rfl (kc_V xk_6_69 rfl (ko_59) (by omega) rfl rfl) xt_g190 (by decide) ⟨Nat.le_of_ble_eq_true rfl, Nat.le_of_ble_eq_true rfl, Nat.le_of_ble_eq_true rfl⟩ (k190 (a := 0) (z := 0) (by omega) HC5 rfl (by omega)) (fun h3' n3 c3 u3 hq => ?_)
    refine xe_ret xt_g188 rfl rfl ?_
    try dsimp only
    obtain ⟨e1, e2, s6, ar6, e3, f3, f4, HC6⟩ := hq
    rw [e1]
    refine ⟨rfl, s6, ar6, h3, e3, ke1, n2', by omega, fun k hk => (f3 k hk).trans (f1 k hk), fun k hk => (f4 k hk).trans (f2 k hk), ?_⟩
    unfold ck_c40
    rw [if_pos (by omega)]
    exact HC6
theorem k188_b (hfm : fm = .null ∨ ∃ j, fm = .ref j) (K : KW w h n t kc) (Cc : cst w h n) (HL : sfL w s ar h n L) (HC : ckL w s ar h n C) (hC : C.length ≤ 40) (HY : ckO w h n y f) (ht : 0 ≤ s 14 ∧ s 14 ≤ 1000000000) {Q : Nat} (hQ : s 12 = Q) (hQ1 : 1 ≤ Q) (hQ2 : Q ≤ 40) {c u : Nat} : xe fm 188 (89, [(6, xi (ck_pl C f)), (5, .ref y), (0, .ref 59)], [], (ko w s p ar v h, n, c, u)) (fun q' M => q' = .inl none ∧ ∃ s' ar' h1, M.1 = ko w s' p ar' v h1 ∧ ke h n h1 M.2.1 ∧ M.2.1 ≤ n + 2 ∧ M.2.2.2 ≤ u + 44 ∧ (∀ k, k ≠ 13 → s' k = s k) ∧ (∀ k, k ≠ 6 → ar' k = ar k) ∧ ckL w s' ar' h1 M.2.1 (ck_c40 (ck_q L f.2.2.1 Q 41 (ck_ins (s 14) C f)))) := by
  have W0 := K.1.1
  have HY' := HY
  obtain ⟨p1, p2, p3, p4⟩ := ck_pl_r (C := C) (f := f)
  obtain ⟨na, va, dn, pa, a1, a2, a3, a4, _⟩ := HY
  have Y1 := (ko_d (w := w) (s := s) (p := p) (ar := ar) (v := v) a2.1).trans a1
  have h13 := HC.1
  have go : ∀ (s5 : Nat → Int) (ar5 : Nat → Nat → Option Nat) (c5 : Nat), (∀ k, k ≠ 13 → s5 k = s k) → (∀ k, k ≠ 6 → ar5 k = ar k) → ckL w s5 ar5 h n (ck_ins (s 14) C f) → xe fm 188 (143, [(5, .ref y), (0, .ref 59)], [], (ko w s5 p ar5 v h, n, c5, u)) (fun q' M => q' = .inl none ∧ ∃ s' ar' h1, M.1 = ko w s' p ar' v h1 ∧ ke h n h1 M.2.1 ∧ M.2.1 ≤ n + 2 ∧ M.2.2.2 ≤ u + 44 ∧ (∀ k, k ≠ 13 → s' k = s k) ∧ (∀ k, k ≠ 6 → ar' k = ar k) ∧ ckL w s' ar' h1 M.2.1 (ck_c40 (ck_q L f.2.2.1 Q 41 (ck_ins (s 14) C f)))) := by
    intro s5 ar5 c5 f1 f2 HC5
    refine xe_mono (k188_c (fm := fm) (p := p) (v := v) (c := c5) (u := u) hfm K Cc (sfL_kp (s' := s5) (ar' := ar5) HL kp_refl (f1 15 (by decide)) (f2 5 (by decide))) HC5 HY' ((f1 12 (by decide)).trans hQ) hQ1 hQ2) (fun r M hM => ?_)
    obtain ⟨g1, s6, ar6, h6, g2, g3, g4, g5, g6, g7, g8⟩ := hM
    exact ⟨g1, s6, ar6, h6, g2, g3, g4, g5, fun k hk => (g6 k hk).trans (f1 k hk), fun k hk => (g7 k hk).trans (f2 k hk), g8⟩
  refine xe_s (f := (91, _, _, _)) xt_g188 rfl rfl rfl rfl rfl ?_
  refine xe_s (f := (92, _, _, _)) xt_g188 rfl rfl rfl rfl rfl ?_
  refine xe_gf xt_g188 rfl (q := 95) rfl (xf_6_31 fm) (ko_59) (by omega) rfl rfl ?_
  refine xe_cR xt_g188 rfl rfl rfl (q := 98) rfl (kc_V xk_6_38 rfl (Y1) (by omega) rfl rfl) xt_g137 (by decide) ⟨Nat.le_of_ble_eq_true rfl, Nat.le_of_ble_eq_true rfl, Nat.le_of_ble_eq_true rfl⟩ (k137 HY' ht) ?_
  refine xe_if_ne xt_g188 rfl (t := 128) rfl (q := 101) rfl (by first | omega | exact xb_r _) (fun b98 => ?_) (fun b98 => ?_)
  · try simp only [xb_0, xb_1, ne_eq, Decidable.not_not, Bool.not_eq_false, Bool.not_eq_true, decide_eq_true_eq, decide_eq_false_iff_not] at b98
    refine xe_s (f := (130, _, _, _)) xt_g188 rfl rfl rfl rfl rfl ?_
    refine xe_s (f := (131, _, _, _)) xt_g188 rfl rfl rfl rfl rfl ?_
    refine xe_gf xt_g188 rfl (q := 134) rfl (xf_6_35 fm) (ko_59) (by omega) rfl rfl ?_
    rw [HC.1]
    refine xe_ic_ge xt_g188 rfl (t := 143) rfl (q := 137) rfl (by first | omega | exact xb_r _) (by first | omega | exact xb_r _) (fun b134 => ?_) (fun b134 => ?_)
    · try simp only [xb_0, xb_1, ne_eq, Decidable.not_not, Bool.not_eq_false, Bool.not_eq_true, decide_eq_true_eq, decide_eq_false_iff_not] at b134
      have ei : ck_ins (s 14) C f = C := by
        unfold ck_ins
        rw [if_pos b98, if_neg (by have := p4 (by omega); omega)]
      exact xe_loc (by intro q hq; simp only [List.mem_cons, List.not_mem_nil, or_false] at hq; rcases hq with rfl | rfl <;> rfl) ((go s ar c (fun _ _ => rfl) (fun _ _ => rfl) (by rw [ei]; exact HC)))
    · try simp only [xb_0, xb_1, ne_eq, Decidable.not_not, Bool.not_eq_false, Bool.not_eq_true, decide_eq_true_eq, decide_eq_false_iff_not] at b134
      refine xe_s (f := (138, _, _, _)) xt_g188 rfl rfl rfl rfl rfl ?_
      refine xe_s (f := (140, _, _, _)) xt_g188 rfl rfl rfl rfl rfl ?_
      refine xe_cN xt_g188 rfl rfl rfl (q := 143) rfl (kc_V xk_6_69 rfl (ko_59) (by omega) rfl rfl) xt_g190 (by decide) ⟨Nat.le_of_ble_eq_true rfl, Nat.le_of_ble_eq_true rfl, Nat.le_of_ble_eq_true rfl⟩ (k190 (a := (ck_pl C f).toNat) (by omega) HC (by omega) (by omega)) (fun h3' n3 c3 u3 hq => ?_)
      obtain ⟨e1, e2, s6, ar6, rfl, f3, f4, HC6⟩ := hq
      rw [e1, e2, Nat.add_zero]
      have ei : ck_ins (s 14) C f = C.eraseIdx (ck_pl C f).toNat := by
        unfold ck_ins
        have e := p3 (by omega)
        rw [if_pos b98, e, if_pos p1]
      exact xe_loc (by intro q hq; simp only [List.mem_cons, List.not_mem_nil, or_false] at hq; rcases hq with rfl | rfl <;> rfl) ((go s6 ar6 (c + c3) f3 f4 (by rw [ei]; exact HC6)))
  · try simp only [xb_0, xb_1, ne_eq, Decidable.not_not, Bool.not_eq_false, Bool.not_eq_true, decide_eq_true_eq, decide_eq_false_iff_not] at b98
    refine xe_s (f := (102, _, _, _)) xt_g188 rfl rfl rfl rfl rfl ?_
    refine xe_gf xt_g188 rfl (q := 105) rfl (xf_6_20 fm) (ko_59) (by omega) rfl rfl ?_
    refine xe_s (f := (107, _, _, _)) xt_g188 rfl rfl rfl rfl rfl ?_
    refine xe_s (f := (109, _, _, _)) xt_g188 rfl rfl rfl rfl rfl ?_
    refine xe_ks_62 xt_g188 rfl (q := 110) rfl (by omega) (by omega) (by omega) (Y1) (by omega) (by omega) ?_
    refine xe_s (f := (111, _, _, _)) xt_g188 rfl rfl rfl rfl rfl ?_
    refine xe_s (f := (112, _, _, _)) xt_g188 rfl rfl rfl rfl rfl ?_
    refine xe_gf xt_g188 rfl (q := 115) rfl (xf_6_35 fm) (ko_59) (by omega) rfl rfl ?_
    rw [HC.1]
    refine xe_s (f := (117, _, _, _)) xt_g188 rfl rfl rfl rfl rfl ?_
    refine xe_s (f := (118, _, xi 1 :: _, _)) xt_g188 rfl rfl rfl rfl rfl ?_
    refine xe_iadd xt_g188 rfl (q := 119) rfl ?_
    refine xe_cR xt_g188 rfl rfl rfl (q := 122) rfl (kc_S xk_6_63 (Nat.le_of_ble_eq_true rfl)) xt_g8 (by decide) ⟨Nat.le_of_ble_eq_true rfl, Nat.le_of_ble_eq_true rfl, Nat.le_of_ble_eq_true rfl⟩ (s8 (by omega) (by omega)) ?_
    refine xe_kp_4_3 xt_g188 rfl (q := 125) rfl (xf_6_35 fm) (by omega) ?_
    refine xe_s (f := (143, _, _, _)) xt_g188 rfl rfl rfl rfl rfl ?_
    have ei : ck_ins (s 14) C f = if 0 ≤ ck_fi C f 0 then C.set (ck_fi C f 0).toNat f else C ++ [f] := if_neg (by rw [b98]; decide)
    have g := go (xo_u s 13 (max (C.length : Int) (ck_pl C f + 1))) (aw ar 6 (ck_pl C f).toNat (some y)) c (fun k hk => xo_uN hk) (fun k hk => aw_n hk) (by
      rw [ei]
      by_cases lt : ck_pl C f < C.length
      · have e := p3 lt
        rw [e, if_pos p1]
        refine ⟨by rw [xo_uS, List.length_set]; omega, by rw [List.length_set]; omega, fun i hi => ?_⟩
        rw [List.length_set] at hi
        rw [st_gd (by omega), aw_s]
        by_cases g : i = (ck_pl C f).toNat
        · rw [if_pos g, g, va_up_s]
          exact ⟨y, rfl, HY'⟩
        · rw [if_neg g, va_up_n g]
          exact HC.2.2 i hi
      · have e := p4 (by omega)
        have el : (ck_pl C f).toNat = C.length := by omega
        rw [if_neg (by omega)]
        refine ⟨by rw [xo_uS, List.length_append, List.length_singleton]; omega, by rw [List.length_append, List.length_singleton]; omega, fun i hi => ?_⟩
        rw [List.length_append, List.length_singleton] at hi
        rw [aw_s, el]
        by_cases g : i = C.length
        · rw [g, va_up_s, gd_app]
          exact ⟨y, rfl, HY'⟩
        · rw [va_up_n g, gd_lt (by omega)]
          exact HC.2.2 i (by omega))
    exact xe_loc (by intro q hq; simp only [List.mem_cons, List.not_mem_nil, or_false] at hq; rcases hq with rfl | rfl <;> rfl) (g)
/-- put -/
theorem k188 (hfm : fm = .null ∨ ∃ j, fm = .ref j) (K : KW w h n t kc) (Cc : cst w h n) (HL : sfL w s ar h n L) (HC : ckL w s ar h n C) (hC : C.length ≤ 40) (H : sS (gd w) h n r l) (hl : l.length ≤ 200) (HA : aO w h n a A) (ht : 0 ≤ s 14 ∧ s 14 ≤ 1000000000) {Q : Nat} (hQ : s 12 = Q) (hQ1 : 1 ≤ Q) (hQ2 : Q ≤ 40) {net : Bool} : xN fm 188 (ko w s p ar v h) n [.ref 59, .ref r, .ref a, xi (xb net)] (fun h' n' u' => ∃ s' ar' h1, h' = ko w s' p ar' v h1 ∧ ke h n h1 n' ∧ n' ≤ n + 10 + 4 * l.length ∧ u' ≤ 140 + 21 * l.length ∧ (∀ k, k ≠ 13 → s' k = s k) ∧ (∀ k, k ≠ 6 → ar' k = ar k) ∧ ckL w s' ar' h1 n' (ck_set (lt l) l.length L Q (s 14) C A net)) := by
  have W0 := K.1.1
  have y5 := xb_or net
  have eset := ck_set_of (t := lt l) (E := l.length) (L := L) (Q := Q) (tm := s 14) (C := C) (A := A) (net := net)
  rw [Int.toNat_natCast] at eset
  rw [eset]
  have nl : (ck_nov (s 14) C).length ≤ 40 := Nat.le_trans (List.length_filter_le _ _) hC
  unfold xN
  refine xe_s (f := (1, _, _, _)) xt_g188 rfl rfl rfl rfl rfl ?_
  refine xe_cN xt_g188 rfl rfl rfl (q := 4) rfl (kc_V xk_6_42 rfl (ko_59) (by omega) rfl rfl) xt_g189 (by decide) ⟨Nat.le_of_ble_eq_true rfl, Nat.le_of_ble_eq_true rfl, Nat.le_of_ble_eq_true rfl⟩ (k189 (by omega) ht HC) (fun h1' n1 c1 u1 hp => ?_)
  obtain ⟨e1, e2, s5, ar5, rfl, f1, f2, HC5⟩ := hp
  rw [e1, e2]
  have HL5 := sfL_kp (s' := s5) (ar' := ar5) HL kp_refl (f1 15 (by decide)) (f2 5 (by decide))
  refine xe_s (f := (5, _, _, _)) xt_g188 rfl rfl rfl rfl rfl ?_
  refine xe_cO xt_g188 rfl rfl rfl (q := 8) rfl (kc_S xk_6_45 (Nat.le_of_ble_eq_true rfl)) xt_g191 (by decide) ⟨Nat.le_of_ble_eq_true rfl, Nat.le_of_ble_eq_true rfl, Nat.le_of_ble_eq_true rfl⟩ (k191 hfm K Cc H hl) (fun o2 h2' n2 c2 u2 hq => ?_)
  obtain ⟨h3, rfl, ke1, n2', u2', q1, q2⟩ := hq
  have N2 := ke1.1
  have HC6 := ckL_kp (s' := s5) (ar' := ar5) HC5 (ke_kp ke1) rfl rfl
  cases o2 with
  | none =>
    have ep : ck_pair (lt l) (pa_fd (lt l) 59 l.length 0) = none := by
      cases e : ck_pair (lt l) (pa_fd (lt l) 59 l.length 0) with
      | none => rfl
      | some pr =>
        obtain ⟨x, g1, _⟩ := q2 pr e
        cases g1
    rw [ep]
    refine xe_s (f := (10, [(4, _), (0, _), (1, _), (2, _), (3, _)], _, _)) xt_g188 rfl rfl rfl rfl rfl ?_
    refine xe_s (f := (12, _, _, _)) xt_g188 rfl rfl rfl rfl rfl ?_
    refine xe_s (f := (15, _, _, _)) xt_g188 rfl rfl rfl rfl rfl ?_
    refine xe_s (f := (16, _, _, _)) xt_g188 rfl rfl rfl rfl rfl ?_
    refine xe_s (f := (26, _, _, _)) xt_g188 rfl rfl rfl rfl rfl ?_
    refine xe_s (f := (28, [(5, _), (4, _), (0, _), (1, _), (2, _), (3, _)], _, _)) xt_g188 rfl rfl rfl rfl rfl ?_
    refine xe_s (f := (30, _, _, _)) xt_g188 rfl rfl rfl rfl rfl ?_
    refine xe_s (f := (33, _, _, _)) xt_g188 rfl rfl rfl rfl rfl ?_
    refine xe_ret xt_g188 rfl rfl ?_
    try dsimp only
    exact ⟨rfl, s5, ar5, h3, rfl, ke1, by omega, by omega, f1, f2, HC6⟩
  | some x12 =>
    obtain ⟨pr, ep⟩ : ∃ pr, ck_pair (lt l) (pa_fd (lt l) 59 l.length 0) = some pr := by
      cases e : ck_pair (lt l) (pa_fd (lt l) 59 l.length 0) with
      | none => exact absurd (q1 e) (by intro g; cases g)
      | some pr => exact ⟨pr, rfl⟩
    obtain ⟨x, g1, HT, l1, l2⟩ := q2 pr ep
    cases g1
    rw [ep]
    dsimp only
    have K3 := KW_ke K ke1
    have C3 := cst_kp Cc K.1 (ke_kp ke1)
    have HL6 := sfL_kp (s' := s5) (ar' := ar5) HL5 (ke_kp ke1) rfl rfl
    have f14 : s5 14 = s 14 := f1 14 (by decide)
    refine xe_s (f := (10, [(4, _), (0, _), (1, _), (2, _), (3, _)], _, _)) xt_g188 rfl rfl rfl rfl rfl ?_
    refine xe_s (f := (12, _, _, _)) xt_g188 rfl rfl rfl rfl rfl ?_
    refine xe_s (f := (19, _, _, _)) xt_g188 rfl rfl rfl rfl rfl ?_
    refine xe_s (f := (20, _, _, _)) xt_g188 rfl rfl rfl rfl rfl ?_
    refine xe_s (f := (22, _, _, _)) xt_g188 rfl rfl rfl rfl rfl ?_
    refine xe_s (f := (23, _, _, _)) xt_g188 rfl rfl rfl rfl rfl ?_
    refine xe_cO xt_g188 rfl rfl rfl (q := 26) rfl (kc_V xk_6_51 rfl (ko_59) (by omega) rfl rfl) xt_g200 (by decide) ⟨Nat.le_of_ble_eq_true rfl, Nat.le_of_ble_eq_true rfl, Nat.le_of_ble_eq_true rfl⟩ (k200 hfm K3 C3 HL6 HT (aO_kp HA (ke_kp ke1)) (by rw [f14]; exact ht) l1 l2) (fun o4 h4' n4 c4 u4 hr => ?_)
    obtain ⟨h5, rfl, ke2, n4', u4', q3, q4⟩ := hr
    rw [f14] at q3 q4
    have N4 := ke2.1
    have HC7 := ckL_kp (s' := s5) (ar' := ar5) HC6 (ke_kp ke2) rfl rfl
    have kE := ke_trans ke1 ke2
    cases o4 with
    | none =>
      have eo : ck_of L (s 14) A pr.1 pr.2 (at_lp (lt l) l.length ((l.length : Int) + 1).toNat (pa_fd (lt l) 59 l.length 0) at_0) = none := by
        cases e : ck_of L (s 14) A pr.1 pr.2 (at_lp (lt l) l.length ((l.length : Int) + 1).toNat (pa_fd (lt l) 59 l.length 0) at_0) with
        | none => rfl
        | some f =>
          obtain ⟨y, g1, _⟩ := q4 f e
          cases g1
      rw [eo]
      refine xe_s (f := (28, [(5, _), (4, _), (0, _), (1, _), (2, _), (3, _)], _, _)) xt_g188 rfl rfl rfl rfl rfl ?_
      refine xe_s (f := (30, _, _, _)) xt_g188 rfl rfl rfl rfl rfl ?_
      refine xe_s (f := (33, _, _, _)) xt_g188 rfl rfl rfl rfl rfl ?_
      refine xe_ret xt_g188 rfl rfl ?_
      try dsimp only
      exact ⟨rfl, s5, ar5, h5, rfl, kE, by omega, by omega, f1, f2, HC7⟩
    | some y =>
      obtain ⟨f, eo⟩ : ∃ f, ck_of L (s 14) A pr.1 pr.2 (at_lp (lt l) l.length ((l.length : Int) + 1).toNat (pa_fd (lt l) 59 l.length 0) at_0) = some f := by
        cases e : ck_of L (s 14) A pr.1 pr.2 (at_lp (lt l) l.length ((l.length : Int) + 1).toNat (pa_fd (lt l) 59 l.length 0) at_0) with
        | none => exact absurd (q3 e) (by intro g; cases g)
        | some f => exact ⟨f, rfl⟩
      obtain ⟨yy, g1, HY⟩ := q4 f eo
      cases g1
      rw [eo]
      dsimp only
      have HY' := HY
      obtain ⟨na, va, dn, pa, a1, a2, a3, a4, _⟩ := HY
      have Y1 := (ko_d (w := w) (s := s5) (p := p) (ar := ar5) (v := v) a2.1).trans a1
      obtain ⟨p1, p2, p3, p4⟩ := ck_pl_r (C := ck_nov (s 14) C) (f := f)
      have y1 := xb_or f.2.2.2.2.2.2.2
      unfold ck_do
      have stop : ck_blk (ck_nov (s 14) C) f net = true → ∃ s' ar' h1, ko w s5 p ar5 v h5 = ko w s' p ar' v h1 ∧ ke h n h1 n4 ∧ n4 ≤ n + 10 + 4 * l.length ∧ 0 + 0 + u2 + u4 ≤ 140 + 21 * l.length ∧ (∀ k, k ≠ 13 → s' k = s k) ∧ (∀ k, k ≠ 6 → ar' k = ar k) ∧ ckL w s' ar' h1 n4 (if ck_blk (ck_nov (s 14) C) f net = true then ck_nov (s 14) C else ck_c40 (ck_q L f.2.2.1 Q 41 (ck_ins (s 14) (ck_nov (s 14) C) f))) := by
        intro e
        rw [if_pos e]
        exact ⟨s5, ar5, h5, rfl, kE, by omega, by omega, f1, f2, HC7⟩
      have go : ck_blk (ck_nov (s 14) C) f net = false → ∀ c, xe fm 188 (89, [(6, xi (ck_pl (ck_nov (s 14) C) f)), (5, .ref y), (0, .ref 59)], [], (ko w s5 p ar5 v h5, n4, c, 0 + 0 + u2 + u4)) (fun q' M => q' = .inl none ∧ ∃ s' ar' h1, M.1 = ko w s' p ar' v h1 ∧ ke h n h1 M.2.1 ∧ M.2.1 ≤ n + 10 + 4 * l.length ∧ M.2.2.2 ≤ 140 + 21 * l.length ∧ (∀ k, k ≠ 13 → s' k = s k) ∧ (∀ k, k ≠ 6 → ar' k = ar k) ∧ ckL w s' ar' h1 M.2.1 (if ck_blk (ck_nov (s 14) C) f net = true then ck_nov (s 14) C else ck_c40 (ck_q L f.2.2.1 Q 41 (ck_ins (s 14) (ck_nov (s 14) C) f)))) := by
        intro e c
        rw [e, if_neg (by decide)]
        have g := k188_b (fm := fm) (p := p) (v := v) (c := c) (u := 0 + 0 + u2 + u4) hfm (KW_ke K3 ke2) (cst_kp C3 K3.1 (ke_kp ke2)) (sfL_kp (s' := s5) (ar' := ar5) HL6 (ke_kp ke2) rfl rfl) HC7 nl HY' (by rw [f14]; exact ht) ((f1 12 (by decide)).trans hQ) hQ1 hQ2
        rw [f14] at g
        refine xe_mono g (fun r M hM => ?_)
        obtain ⟨g1, s6, ar6, h6, g2, g3, g4, g5, g6, g7, g8⟩ := hM
        exact ⟨g1, s6, ar6, h6, g2, ke_trans kE g3, by omega, by omega, fun k hk => (g6 k hk).trans (f1 k hk), fun k hk => (g7 k hk).trans (f2 k hk), g8⟩
      refine xe_s (f := (28, [(5, _), (4, _), (0, _), (1, _), (2, _), (3, _)], _, _)) xt_g188 rfl rfl rfl rfl rfl ?_
      refine xe_s (f := (30, _, _, _)) xt_g188 rfl rfl rfl rfl rfl ?_
      refine xe_s (f := (34, _, _, _)) xt_g188 rfl rfl rfl rfl rfl ?_
      refine xe_s (f := (35, _, _, _)) xt_g188 rfl rfl rfl rfl rfl ?_
      refine xe_s (f := (37, _, _, _)) xt_g188 rfl rfl rfl rfl rfl ?_
      refine xe_cR xt_g188 rfl rfl rfl (q := 40) rfl (kc_V xk_6_55 rfl (ko_59) (by omega) rfl rfl) xt_g216 (by decide) ⟨Nat.le_of_ble_eq_true rfl, Nat.le_of_ble_eq_true rfl, Nat.le_of_ble_eq_true rfl⟩ (k216 (by omega) HC7 HY') ?_
      refine xe_s (f := (42, [(6, _), (5, _), (4, _), (0, _), (1, _), (2, _), (3, _)], _, _)) xt_g188 rfl rfl rfl rfl rfl ?_
      refine xe_s (f := (44, _, _, _)) xt_g188 rfl rfl rfl rfl rfl ?_
      refine xe_gf xt_g188 rfl (q := 47) rfl (xf_6_59 fm) (Y1) (by omega) rfl rfl ?_
      refine xe_if_ne xt_g188 rfl (t := 72) rfl (q := 50) rfl (by first | omega | exact xb_r _) (fun b47 => ?_) (fun b47 => ?_)
      · try simp only [xb_0, xb_1, ne_eq, Decidable.not_not, Bool.not_eq_false, Bool.not_eq_true, decide_eq_true_eq, decide_eq_false_iff_not] at b47
        have bh : f.2.2.2.2.2.2.2 = true := b47
        refine xe_s (f := (73, _, xi 1 :: _, _)) xt_g188 rfl rfl rfl rfl rfl ?_
        refine xe_s (f := (77, _, _, _)) xt_g188 rfl rfl rfl rfl rfl ?_
        refine xe_s (f := (79, [(7, _), (6, _), (5, _), (4, _), (0, _), (1, _), (2, _), (3, _)], _, _)) xt_g188 rfl rfl rfl rfl rfl ?_
        refine xe_s (f := (81, _, _, _)) xt_g188 rfl rfl rfl rfl rfl ?_
        refine xe_if_eq xt_g188 rfl (t := 89) rfl (q := 84) rfl (by first | omega | exact xb_r _) (fun b81 => ?_) (fun b81 => ?_)
        · exact absurd b81 (by omega)
        · try simp only [xb_0, xb_1, ne_eq, Decidable.not_not, Bool.not_eq_false, Bool.not_eq_true, decide_eq_true_eq, decide_eq_false_iff_not] at b81
          refine xe_s (f := (85, _, _, _)) xt_g188 rfl rfl rfl rfl rfl ?_
          refine xe_if_ne xt_g188 rfl (t := 89) rfl (q := 88) rfl (by first | omega | exact xb_r _) (fun b85 => ?_) (fun b85 => ?_)
          · try simp only [xb_0, xb_1, ne_eq, Decidable.not_not, Bool.not_eq_false, Bool.not_eq_true, decide_eq_true_eq, decide_eq_false_iff_not] at b85
            exact xe_loc (by intro q hq; simp only [List.mem_cons, List.not_mem_nil, or_false] at hq; rcases hq with rfl | rfl | rfl <;> rfl) ((go (by unfold ck_blk; rw [b85]; rfl) _))
          · try simp only [xb_0, xb_1, ne_eq, Decidable.not_not, Bool.not_eq_false, Bool.not_eq_true, decide_eq_true_eq, decide_eq_false_iff_not] at b85
            refine xe_ret xt_g188 rfl rfl ?_
            try dsimp only
            exact ⟨rfl, stop (by unfold ck_blk; rw [bh, b85]; rfl)⟩
      · try simp only [xb_0, xb_1, ne_eq, Decidable.not_not, Bool.not_eq_false, Bool.not_eq_true, decide_eq_true_eq, decide_eq_false_iff_not] at b47
        have bh : f.2.2.2.2.2.2.2 = false := b47
        refine xe_s (f := (52, _, _, _)) xt_g188 rfl rfl rfl rfl rfl ?_
        refine xe_s (f := (53, _, _, _)) xt_g188 rfl rfl rfl rfl rfl ?_
        refine xe_gf xt_g188 rfl (q := 56) rfl (xf_6_35 fm) (ko_59) (by omega) rfl rfl ?_
        rw [HC7.1]
        refine xe_ic_ge xt_g188 rfl (t := 76) rfl (q := 59) rfl (by first | omega | exact xb_r _) (by first | omega | exact xb_r _) (fun b56 => ?_) (fun b56 => ?_)
        · try simp only [xb_0, xb_1, ne_eq, Decidable.not_not, Bool.not_eq_false, Bool.not_eq_true, decide_eq_true_eq, decide_eq_false_iff_not] at b56
          have bi : (decide (0 ≤ ck_fi (ck_nov (s 14) C) f 0) && ((ck_nov (s 14) C).getD (ck_fi (ck_nov (s 14) C) f 0).toNat ck_0).2.2.2.2.2.2.2) = false := by
            have := p4 (by omega)
            rw [decide_eq_false (by omega), Bool.false_and]
          refine xe_s (f := (77, _, xi 0 :: _, _)) xt_g188 rfl rfl rfl rfl rfl ?_
          refine xe_s (f := (79, [(7, _), (6, _), (5, _), (4, _), (0, _), (1, _), (2, _), (3, _)], _, _)) xt_g188 rfl rfl rfl rfl rfl ?_
          refine xe_s (f := (81, _, _, _)) xt_g188 rfl rfl rfl rfl rfl ?_
          refine xe_if_eq xt_g188 rfl (t := 89) rfl (q := 84) rfl (by first | omega | exact xb_r _) (fun b81 => ?_) (fun b81 => ?_)
          · try simp only [xb_0, xb_1, ne_eq, Decidable.not_not, Bool.not_eq_false, Bool.not_eq_true, decide_eq_true_eq, decide_eq_false_iff_not] at b81
            exact xe_loc (by intro q hq; simp only [List.mem_cons, List.not_mem_nil, or_false] at hq; rcases hq with rfl | rfl | rfl <;> rfl) ((go (by unfold ck_blk; rw [bi, bh, Bool.or_false, Bool.and_false]) _))
          · exact absurd b81 (by omega)
        · try simp only [xb_0, xb_1, ne_eq, Decidable.not_not, Bool.not_eq_false, Bool.not_eq_true, decide_eq_true_eq, decide_eq_false_iff_not] at b56
          obtain ⟨xx, e5, HX⟩ := HC7.2.2 (ck_pl (ck_nov (s 14) C) f).toNat (by omega)
          obtain ⟨na', va', dn', pa', c1', c2', c3', c4', _⟩ := HX
          have X9 := (ko_d (w := w) (s := s5) (p := p) (ar := ar5) (v := v) c2'.1).trans c1'
          have y9 := xb_or ((ck_nov (s 14) C).getD (ck_pl (ck_nov (s 14) C) f).toNat ck_0).2.2.2.2.2.2.2
          have efi := p3 (by omega)
          refine xe_s (f := (60, _, _, _)) xt_g188 rfl rfl rfl rfl rfl ?_
          refine xe_gf xt_g188 rfl (q := 63) rfl (xf_6_20 fm) (ko_59) (by omega) rfl rfl ?_
          refine xe_s (f := (65, _, _, _)) xt_g188 rfl rfl rfl rfl rfl ?_
          refine xe_ka_62 xt_g188 rfl (q := 66) rfl (by omega) (by omega) (by omega) ?_
          rw [e5, va_some]
          refine xe_gf xt_g188 rfl (q := 69) rfl (xf_6_59 fm) (X9) (by omega) rfl rfl ?_
          refine xe_if_eq xt_g188 rfl (t := 76) rfl (q := 72) rfl (by first | omega | exact xb_r _) (fun b69 => ?_) (fun b69 => ?_)
          · try simp only [xb_0, xb_1, ne_eq, Decidable.not_not, Bool.not_eq_false, Bool.not_eq_true, decide_eq_true_eq, decide_eq_false_iff_not] at b69
            have bi : (decide (0 ≤ ck_fi (ck_nov (s 14) C) f 0) && ((ck_nov (s 14) C).getD (ck_fi (ck_nov (s 14) C) f 0).toNat ck_0).2.2.2.2.2.2.2) = false := by rw [efi, b69, Bool.and_false]
            refine xe_s (f := (77, _, xi 0 :: _, _)) xt_g188 rfl rfl rfl rfl rfl ?_
            refine xe_s (f := (79, [(7, _), (6, _), (5, _), (4, _), (0, _), (1, _), (2, _), (3, _)], _, _)) xt_g188 rfl rfl rfl rfl rfl ?_
            refine xe_s (f := (81, _, _, _)) xt_g188 rfl rfl rfl rfl rfl ?_
            refine xe_if_eq xt_g188 rfl (t := 89) rfl (q := 84) rfl (by first | omega | exact xb_r _) (fun b81 => ?_) (fun b81 => ?_)
            · try simp only [xb_0, xb_1, ne_eq, Decidable.not_not, Bool.not_eq_false, Bool.not_eq_true, decide_eq_true_eq, decide_eq_false_iff_not] at b81
              exact xe_loc (by intro q hq; simp only [List.mem_cons, List.not_mem_nil, or_false] at hq; rcases hq with rfl | rfl | rfl <;> rfl) ((go (by unfold ck_blk; rw [bi, bh, Bool.or_false, Bool.and_false]) _))
            · exact absurd b81 (by omega)
          · try simp only [xb_0, xb_1, ne_eq, Decidable.not_not, Bool.not_eq_false, Bool.not_eq_true, decide_eq_true_eq, decide_eq_false_iff_not] at b69
            have bi : (decide (0 ≤ ck_fi (ck_nov (s 14) C) f 0) && ((ck_nov (s 14) C).getD (ck_fi (ck_nov (s 14) C) f 0).toNat ck_0).2.2.2.2.2.2.2) = true := by rw [efi, b69, decide_eq_true p1]; rfl
            refine xe_s (f := (73, _, xi 1 :: _, _)) xt_g188 rfl rfl rfl rfl rfl ?_
            refine xe_s (f := (77, _, _, _)) xt_g188 rfl rfl rfl rfl rfl ?_
            refine xe_s (f := (79, [(7, _), (6, _), (5, _), (4, _), (0, _), (1, _), (2, _), (3, _)], _, _)) xt_g188 rfl rfl rfl rfl rfl ?_
            refine xe_s (f := (81, _, _, _)) xt_g188 rfl rfl rfl rfl rfl ?_
            refine xe_if_eq xt_g188 rfl (t := 89) rfl (q := 84) rfl (by first | omega | exact xb_r _) (fun b81 => ?_) (fun b81 => ?_)
            · exact absurd b81 (by omega)
            · try simp only [xb_0, xb_1, ne_eq, Decidable.not_not, Bool.not_eq_false, Bool.not_eq_true, decide_eq_true_eq, decide_eq_false_iff_not] at b81
              refine xe_s (f := (85, _, _, _)) xt_g188 rfl rfl rfl rfl rfl ?_
              refine xe_if_ne xt_g188 rfl (t := 89) rfl (q := 88) rfl (by first | omega | exact xb_r _) (fun b85 => ?_) (fun b85 => ?_)
              · try simp only [xb_0, xb_1, ne_eq, Decidable.not_not, Bool.not_eq_false, Bool.not_eq_true, decide_eq_true_eq, decide_eq_false_iff_not] at b85
                exact xe_loc (by intro q hq; simp only [List.mem_cons, List.not_mem_nil, or_false] at hq; rcases hq with rfl | rfl | rfl <;> rfl) ((go (by unfold ck_blk; rw [b85]; rfl) _))
              · try simp only [xb_0, xb_1, ne_eq, Decidable.not_not, Bool.not_eq_false, Bool.not_eq_true, decide_eq_true_eq, decide_eq_false_iff_not] at b85
                refine xe_ret xt_g188 rfl rfl ?_
                try dsimp only
                exact ⟨rfl, stop (by unfold ck_blk; rw [bi, b85, Bool.or_true]; rfl)⟩
end XBH
