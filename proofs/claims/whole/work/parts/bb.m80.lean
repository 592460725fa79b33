/-! cookies: what is asked of them -/
theorem bool_iff {a b : Bool} (h : a = true ↔ b = true) : a = b := Bool.eq_iff_iff.mpr h
theorem go_h_t {H D : List Int} : go_h true H D = decide (D = H) := by
  unfold go_h go_h0
  rw [Bool.not_true, Bool.false_and, Bool.or_false]
  refine bool_iff ?_
  simp only [Bool.and_eq_true, decide_eq_true_eq]
  constructor
  · rintro ⟨h1, h2⟩
    rw [h1, Nat.sub_self, List.drop_zero] at h2
    exact h2.symm
  · intro e
    subst e
    exact ⟨rfl, by rw [Nat.sub_self, List.drop_zero]⟩
theorem go_h_f {H D : List Int} : go_h false H D = st_ends H D := by
  unfold go_h go_h0 st_ends st_ed
  refine bool_iff ?_
  simp only [Bool.and_eq_true, Bool.or_eq_true, decide_eq_true_eq, Bool.not_false, true_and]
theorem go_p_st {P W : List Int} : go_p P W = stA P 0 W := by
  unfold go_p stA sl
  refine bool_iff ?_
  simp only [Bool.and_eq_true, decide_eq_true_eq, Int.toNat_zero, List.drop_zero]
  rw [show ((0 : Int) + (W.length : Int) - 0).toNat = W.length by omega]
  constructor
  · rintro ⟨h1, h2⟩
    exact ⟨by omega, by omega, h2⟩
  · rintro ⟨_, h1, h2⟩
    exact ⟨by omega, h2⟩
theorem stA_end {W : List Int} (h : 1 ≤ W.length) : stA W ((W.length : Int) - 1) [47] = decide (W.getD (W.length - 1) 0 = 47) := by
  unfold stA sl
  refine bool_iff ?_
  simp only [decide_eq_true_eq]
  rw [show ((W.length : Int) - 1).toNat = W.length - 1 by omega, show ((W.length : Int) - 1 + (([47] : List Int).length : Int) - ((W.length : Int) - 1)).toNat = 1 by simp only [List.length_singleton]; omega]
  rw [drop_hd (show W.length - 1 < W.length by omega), List.take_succ_cons, List.take_zero]
  constructor
  · rintro ⟨_, _, h2⟩
    simpa using h2
  · intro h2
    exact ⟨by omega, by simp only [List.length_singleton]; omega, by rw [h2]⟩
def gw (c : ck_T) (a : pa_A) (net : Bool) : Bool := go_h c.2.2.2.2.2.1 a.2.1 c.2.2.1 && ((go_p a.2.2.2.1 c.2.2.2.1 && go_e a.2.2.2.1 c.2.2.2.1) && ((!c.2.2.2.2.2.2.1 || a.1) && (!c.2.2.2.2.2.2.2 || net)))
theorem ck_go_gw {t : Int} {c : ck_T} {a : pa_A} {net : Bool} : ck_go t c a net = (!ck_io t c && gw c a net) := by
  unfold ck_go gw go_0
  cases ck_io t c <;> cases c.2.2.2.2.2.2.1 <;> cases a.1 <;> cases c.2.2.2.2.2.2.2 <;> cases net <;> cases go_h c.2.2.2.2.2.1 a.2.1 c.2.2.1 <;> cases go_p a.2.2.2.1 c.2.2.2.1 <;> cases go_e a.2.2.2.1 c.2.2.2.1 <;> rfl
def ck_pl (C : List ck_T) (f : ck_T) : Int := if 0 ≤ ck_fi C f 0 then ck_fi C f 0 else C.length
def ckO (w : kW) (h : xm_H) (n x : Nat) (c : ck_T) : Prop := ∃ na va dn pa, h x = .inr (11, [.ref na, .ref va, .ref dn, xi (xb c.2.2.2.2.2.1), .ref pa, xi (xb c.2.2.2.2.2.2.1), xi (xb c.2.2.2.2.2.2.2), xi c.2.2.2.2.1]) ∧ gd w x ∧ 44 ≤ x ∧ x < n ∧ sS (gd w) h n na c.1 ∧ sS (gd w) h n va c.2.1 ∧ sS (gd w) h n dn c.2.2.1 ∧ sS (gd w) h n pa c.2.2.2.1 ∧ (-1 ≤ c.2.2.2.2.1 ∧ c.2.2.2.2.1 ≤ 1100000000) ∧ (c.1.length ≤ 12 ∧ c.2.1.length ≤ 12 ∧ c.2.2.1.length ≤ 40 ∧ 1 ≤ c.2.2.2.1.length ∧ c.2.2.2.1.length ≤ 30)
def ckL (w : kW) (s : Nat → Int) (ar : Nat → Nat → Option Nat) (h : xm_H) (n : Nat) (C : List ck_T) : Prop := s 13 = C.length ∧ C.length ≤ 41 ∧ ∀ i, i < C.length → ∃ x, ar 6 i = some x ∧ ckO w h n x (C.getD i ck_0)
section XBB
variable {fm : Value} {w w' w1 w2 : kW} {s s' s1 s2 : Nat → Int} {p p' p1 p2 : Nat → Nat} {ar ar' : Nat → Nat → Option Nat} {v : Nat → Int} {h h' h1 h2 : xm_H} {n n' n1 n2 r k k' u' u1 u2 x y : Nat} {l D W P : List Int} {L : List (List Int)} {A : pa_A} {c f : ck_T} {C : List ck_T} {t t' t1 t2 : Nat → List Int} {kc kc' kc1 kc2 : Nat → Nat}
theorem ckO_kp (H : ckO w h n x c) (e : kp w h n w' h' n') : ckO w' h' n' x c := by
  obtain ⟨na, va, dn, pa, a1, a2, a3, a4, s1, s2, s3, s4, b⟩ := H
  have e1 := e.2.1 x a4 a2
  exact ⟨na, va, dn, pa, e1.1.trans a1, e1.2, a3, Nat.lt_of_lt_of_le a4 e.1, sS_kp s1 e, sS_kp s2 e, sS_kp s3 e, sS_kp s4 e, b⟩
theorem ckL_kp (H : ckL w s ar h n C) (e : kp w h n w' h' n') (hs : s' 13 = s 13) (ha : ar' 6 = ar 6) : ckL w' s' ar' h' n' C := by
  obtain ⟨a1, a2, a3⟩ := H
  refine ⟨hs.trans a1, a2, fun i hi => ?_⟩
  obtain ⟨x, b1, b2⟩ := a3 i hi
  exact ⟨x, by rw [ha]; exact b1, ckO_kp b2 e⟩
/-- isOver -/
theorem k137 (H : ckO w h n x c) {z : Int} (hz : 0 ≤ z ∧ z ≤ 1000000000) : xR fm 137 (ko w s p ar v h) n [.ref x, xi z] (some (xi (xb (ck_io z c)))) := by
  obtain ⟨na, va, dn, pa, a1, a2, a3, a4, s1, s2, s3, s4, b1, b2⟩ := H
  have X1 := (ko_d (w := w) (s := s) (p := p) (ar := ar) (v := v) a2.1).trans a1
  unfold xR ck_io
  refine xe_s (f := (1, _, _, _)) xt_g137 rfl rfl rfl rfl rfl ?_
  refine xe_gf xt_g137 rfl (q := 4) rfl (xf_3_40 fm) (X1) (by omega) rfl rfl ?_
  refine xe_s (f := (5, _, xi (-1) :: _, _)) xt_g137 rfl rfl rfl rfl rfl ?_
  refine xe_ic_eq xt_g137 rfl (t := 20) rfl (q := 8) rfl (by first | omega | exact xb_r _) (by first | omega | exact xb_r _) (fun b5 => ?_) (fun b5 => ?_)
  · try simp only [xb_0, xb_1, ne_eq, Decidable.not_not, Bool.not_eq_false, Bool.not_eq_true, decide_eq_true_eq, decide_eq_false_iff_not] at b5
    refine xe_s (f := (21, _, xi 0 :: _, _)) xt_g137 rfl rfl rfl rfl rfl ?_
    refine xe_iret xt_g137 rfl rfl (xi_bool (by first | omega | exact xb_or _)).1 ?_
    try dsimp only
    rw [decide_eq_false (fun g => by omega)]
    exact ⟨rfl, rfl⟩
  · try simp only [xb_0, xb_1, ne_eq, Decidable.not_not, Bool.not_eq_false, Bool.not_eq_true, decide_eq_true_eq, decide_eq_false_iff_not] at b5
    refine xe_s (f := (9, _, _, _)) xt_g137 rfl rfl rfl rfl rfl ?_
    refine xe_gf xt_g137 rfl (q := 12) rfl (xf_3_40 fm) (X1) (by omega) rfl rfl ?_
    refine xe_s (f := (13, _, _, _)) xt_g137 rfl rfl rfl rfl rfl ?_
    refine xe_ic_gt xt_g137 rfl (t := 20) rfl (q := 16) rfl (by first | omega | exact xb_r _) (by first | omega | exact xb_r _) (fun b13 => ?_) (fun b13 => ?_)
    · try simp only [xb_0, xb_1, ne_eq, Decidable.not_not, Bool.not_eq_false, Bool.not_eq_true, decide_eq_true_eq, decide_eq_false_iff_not] at b13
      refine xe_s (f := (21, _, xi 0 :: _, _)) xt_g137 rfl rfl rfl rfl rfl ?_
      refine xe_iret xt_g137 rfl rfl (xi_bool (by first | omega | exact xb_or _)).1 ?_
      try dsimp only
      rw [decide_eq_false (fun g => by omega)]
      exact ⟨rfl, rfl⟩
    · try simp only [xb_0, xb_1, ne_eq, Decidable.not_not, Bool.not_eq_false, Bool.not_eq_true, decide_eq_true_eq, decide_eq_false_iff_not] at b13
      refine xe_s (f := (17, _, xi 1 :: _, _)) xt_g137 rfl rfl rfl rfl rfl ?_
      refine xe_s (f := (21, _, _, _)) xt_g137 rfl rfl rfl rfl rfl ?_
      refine xe_iret xt_g137 rfl rfl (xi_bool (by first | omega | exact xb_or _)).1 ?_
      try dsimp only
      rw [decide_eq_true ⟨by omega, by omega⟩]
      exact ⟨rfl, rfl⟩
/-- coversPath -/
theorem k141 (hfm : fm = .null ∨ ∃ j, fm = .ref j) (Cc : cst w h n) (H : ckO w h n x c) (HP : sS (gd w) h n r P) : xR fm 141 (ko w s p ar v h) n [.ref x, .ref r] (some (xi (xb (go_p P c.2.2.2.1 && go_e P c.2.2.2.1)))) := by
  obtain ⟨na, va, dn, pa, a1, a2, a3, a4, s1, s2, s3, s4, b1, b2, b3, b4, b5, b6⟩ := H
  have X1 := (ko_d (w := w) (s := s) (p := p) (ar := ar) (v := v) a2.1).trans a1
  obtain ⟨fs, F1, q1, ha, hl⟩ := sS_at HP
  obtain ⟨fs', F1', q1', ha', hl'⟩ := sS_at s4
  have lc := ha c.2.2.2.1.length
  unfold xR
  rw [go_p_st]
  refine xe_s (f := (1, _, _, _)) xt_g141 rfl rfl rfl rfl rfl ?_
  refine xe_s (f := (2, _, xi 0 :: _, _)) xt_g141 rfl rfl rfl rfl rfl ?_
  refine xe_s (f := (3, _, _, _)) xt_g141 rfl rfl rfl rfl rfl ?_
  refine xe_gf xt_g141 rfl (q := 6) rfl (xf_3_37 fm) (X1) (by omega) rfl rfl ?_
  refine xe_cR xt_g141 rfl rfl rfl (q := 9) rfl (kc_S xk_3_65 (Nat.le_of_ble_eq_true rfl)) xt_g140 (by decide) ⟨Nat.le_of_ble_eq_true rfl, Nat.le_of_ble_eq_true rfl, Nat.le_of_ble_eq_true rfl⟩ (s140 hfm (sS_ko HP) (sS_ko s4) (by omega)) ?_
  refine xe_if_ne xt_g141 rfl (t := 14) rfl (q := 12) rfl (by first | omega | exact xb_r _) (fun b9 => ?_) (fun b9 => ?_)
  · try simp only [xb_0, xb_1, ne_eq, Decidable.not_not, Bool.not_eq_false, Bool.not_eq_true, decide_eq_true_eq, decide_eq_false_iff_not] at b9
    rw [b9, Bool.true_and]
    have wl : c.2.2.2.1.length ≤ P.length := by
      have q := of_decide_eq_true b9
      have := q.2.1
      omega
    refine xe_s (f := (15, _, _, _)) xt_g141 rfl rfl rfl rfl rfl ?_
    refine xe_gf xt_g141 rfl (q := 18) rfl (xf_3_37 fm) (X1) (by omega) rfl rfl ?_
    refine xe_cR xt_g141 rfl rfl rfl (q := 21) rfl (kc_V xk_3_69 rfl (F1' _ _ _ _ _) (by omega) rfl rfl) xt_g31 (by decide) ⟨Nat.le_of_ble_eq_true rfl, Nat.le_of_ble_eq_true rfl, Nat.le_of_ble_eq_true rfl⟩ (s31 (sS_ko s4)) ?_
    refine xe_s (f := (22, [(2, _), (0, _), (1, _)], _, _)) xt_g141 rfl rfl rfl rfl rfl ?_
    refine xe_s (f := (23, _, _, _)) xt_g141 rfl rfl rfl rfl rfl ?_
    refine xe_cR xt_g141 rfl rfl rfl (q := 26) rfl (kc_V xk_3_69 rfl (F1 _ _ _ _ _) (by omega) rfl rfl) xt_g31 (by decide) ⟨Nat.le_of_ble_eq_true rfl, Nat.le_of_ble_eq_true rfl, Nat.le_of_ble_eq_true rfl⟩ (s31 (sS_ko HP)) ?_
    refine xe_s (f := (27, _, _, _)) xt_g141 rfl rfl rfl rfl rfl ?_
    refine xe_ic_eq xt_g141 rfl (t := 55) rfl (q := 30) rfl (by first | omega | exact xb_r _) (by first | omega | exact xb_r _) (fun b27 => ?_) (fun b27 => ?_)
    · try simp only [xb_0, xb_1, ne_eq, Decidable.not_not, Bool.not_eq_false, Bool.not_eq_true, decide_eq_true_eq, decide_eq_false_iff_not] at b27
      refine xe_s (f := (56, _, xi 1 :: _, _)) xt_g141 rfl rfl rfl rfl rfl ?_
      refine xe_s (f := (60, _, _, _)) xt_g141 rfl rfl rfl rfl rfl ?_
      refine xe_iret xt_g141 rfl rfl (xi_bool (by first | omega | exact xb_or _)).1 ?_
      try dsimp only
      have e : go_e P c.2.2.2.1 = true := decide_eq_true (Or.inl (by omega))
      rw [e]
      exact ⟨rfl, rfl⟩
    · try simp only [xb_0, xb_1, ne_eq, Decidable.not_not, Bool.not_eq_false, Bool.not_eq_true, decide_eq_true_eq, decide_eq_false_iff_not] at b27
      refine xe_s (f := (31, _, _, _)) xt_g141 rfl rfl rfl rfl rfl ?_
      refine xe_gf xt_g141 rfl (q := 34) rfl (xf_3_37 fm) (X1) (by omega) rfl rfl ?_
      refine xe_s (f := (35, _, _, _)) xt_g141 rfl rfl rfl rfl rfl ?_
      refine xe_s (f := (36, _, xi 1 :: _, _)) xt_g141 rfl rfl rfl rfl rfl ?_
      refine xe_isub xt_g141 rfl (q := 37) rfl ?_
      refine xe_s (f := (39, _, .ref 11 :: _, _)) xt_g141 rfl rfl rfl rfl rfl ?_
      refine xe_cR xt_g141 rfl rfl rfl (q := 42) rfl (kc_S xk_3_65 (Nat.le_of_ble_eq_true rfl)) xt_g140 (by decide) ⟨Nat.le_of_ble_eq_true rfl, Nat.le_of_ble_eq_true rfl, Nat.le_of_ble_eq_true rfl⟩ (s140 hfm (sS_ko s4) (sS_ko (Cc.1 (11, [47]) (by decide))) (by omega)) ?_
      rw [stA_end b5]
      refine xe_if_ne xt_g141 rfl (t := 55) rfl (q := 45) rfl (by first | omega | exact xb_r _) (fun b42 => ?_) (fun b42 => ?_)
      · try simp only [xb_0, xb_1, ne_eq, Decidable.not_not, Bool.not_eq_false, Bool.not_eq_true, decide_eq_true_eq, decide_eq_false_iff_not] at b42
        refine xe_s (f := (56, _, xi 1 :: _, _)) xt_g141 rfl rfl rfl rfl rfl ?_
        refine xe_s (f := (60, _, _, _)) xt_g141 rfl rfl rfl rfl rfl ?_
        refine xe_iret xt_g141 rfl rfl (xi_bool (by first | omega | exact xb_or _)).1 ?_
        try dsimp only
        have e : go_e P c.2.2.2.1 = true := decide_eq_true (Or.inr (Or.inl b42))
        rw [e]
        exact ⟨rfl, rfl⟩
      · try simp only [xb_0, xb_1, ne_eq, Decidable.not_not, Bool.not_eq_false, Bool.not_eq_true, decide_eq_true_eq, decide_eq_false_iff_not] at b42
        refine xe_s (f := (46, _, _, _)) xt_g141 rfl rfl rfl rfl rfl ?_
        refine xe_s (f := (47, _, _, _)) xt_g141 rfl rfl rfl rfl rfl ?_
        refine xe_cR xt_g141 rfl rfl rfl (q := 50) rfl (kc_V xk_3_75 rfl (F1 _ _ _ _ _) (by omega) rfl rfl) xt_g85 (by decide) ⟨Nat.le_of_ble_eq_true rfl, Nat.le_of_ble_eq_true rfl, Nat.le_of_ble_eq_true rfl⟩ (s85 hfm (sS_ko HP) (by omega) (by omega)) ?_
        rw [Int.toNat_natCast]
        refine xe_bipush xt_g141 rfl (q := 52) rfl (by decide) (by decide) ?_
        refine xe_ic_ne xt_g141 rfl (t := 59) rfl (q := 55) rfl (by first | omega | exact xb_r _) (by first | omega | exact xb_r _) (fun b52 => ?_) (fun b52 => ?_)
        · try simp only [xb_0, xb_1, ne_eq, Decidable.not_not, Bool.not_eq_false, Bool.not_eq_true, decide_eq_true_eq, decide_eq_false_iff_not] at b52
          refine xe_s (f := (60, _, xi 0 :: _, _)) xt_g141 rfl rfl rfl rfl rfl ?_
          refine xe_iret xt_g141 rfl rfl (xi_bool (by first | omega | exact xb_or _)).1 ?_
          try dsimp only
          have e : go_e P c.2.2.2.1 = false := decide_eq_false (fun g => g.elim (fun g => by omega) (fun g => g.elim b42 b52))
          rw [e]
          exact ⟨rfl, rfl⟩
        · try simp only [xb_0, xb_1, ne_eq, Decidable.not_not, Bool.not_eq_false, Bool.not_eq_true, decide_eq_true_eq, decide_eq_false_iff_not] at b52
          refine xe_s (f := (56, _, xi 1 :: _, _)) xt_g141 rfl rfl rfl rfl rfl ?_
          refine xe_s (f := (60, _, _, _)) xt_g141 rfl rfl rfl rfl rfl ?_
          refine xe_iret xt_g141 rfl rfl (xi_bool (by first | omega | exact xb_or _)).1 ?_
          try dsimp only
          have e : go_e P c.2.2.2.1 = true := decide_eq_true (Or.inr (Or.inr b52))
          rw [e]
          exact ⟨rfl, rfl⟩
  · try simp only [xb_0, xb_1, ne_eq, Decidable.not_not, Bool.not_eq_false, Bool.not_eq_true, decide_eq_true_eq, decide_eq_false_iff_not] at b9
    rw [b9, Bool.false_and]
    refine xe_s (f := (13, _, xi 0 :: _, _)) xt_g141 rfl rfl rfl rfl rfl ?_
    refine xe_iret xt_g141 rfl rfl (xi_bool (by first | omega | exact xb_or _)).1 ?_
    exact ⟨rfl, rfl⟩
/-- goesWith -/
theorem k138 (hfm : fm = .null ∨ ∃ j, fm = .ref j) (Cc : cst w h n) (H : ckO w h n x c) (HA : aO w h n r A) {net : Bool} : xR fm 138 (ko w s p ar v h) n [.ref x, .ref r, xi (xb net)] (some (xi (xb (gw c A net)))) := by
  have H' := H
  obtain ⟨na, va, dn, pa, a1, a2, a3, a4, s1, s2, s3, s4, b1, b2⟩ := H
  obtain ⟨ho, pp, qu, te, d1, d2, d3, d4, d5, d6, d7, d8, d9⟩ := HA
  have X1 := (ko_d (w := w) (s := s) (p := p) (ar := ar) (v := v) a2.1).trans a1
  have X2 := (ko_d (w := w) (s := s) (p := p) (ar := ar) (v := v) d2.1).trans d1
  obtain ⟨fs, F1, q1, ha, hl⟩ := sS_at s3
  have y1 := xb_or c.2.2.2.2.2.1
  have y2 := xb_or c.2.2.2.2.2.2.1
  have y3 := xb_or c.2.2.2.2.2.2.2
  have y4 := xb_or A.1
  have y5 := xb_or net
  have fin : ∀ b : Bool, gw c A net = (b && ((go_p A.2.2.2.1 c.2.2.2.1 && go_e A.2.2.2.1 c.2.2.2.1) && ((!c.2.2.2.2.2.2.1 || A.1) && (!c.2.2.2.2.2.2.2 || net)))) → xe fm 138 (32, [(0, .ref x), (1, .ref r), (2, xi (xb net))], [xi (xb b)], (ko w s p ar v h, n, 0, 0)) (fun q M => q = .inl (some (xi (xb (gw c A net)))) ∧ M = (ko w s p ar v h, n, 0, 0)) := by
    intro b eb
    rw [eb]
    refine xe_s (f := (33, [(3, _), (0, _), (1, _), (2, _)], _, _)) xt_g138 rfl rfl rfl rfl rfl ?_
    refine xe_s (f := (34, _, _, _)) xt_g138 rfl rfl rfl rfl rfl ?_
    refine xe_if_eq xt_g138 rfl (t := 77) rfl (q := 37) rfl (by first | omega | exact xb_r _) (fun b34 => ?_) (fun b34 => ?_)
    · try simp only [xb_0, xb_1, ne_eq, Decidable.not_not, Bool.not_eq_false, Bool.not_eq_true, decide_eq_true_eq, decide_eq_false_iff_not] at b34
      rw [b34, Bool.false_and]
      refine xe_s (f := (78, _, xi 0 :: _, _)) xt_g138 rfl rfl rfl rfl rfl ?_
      refine xe_iret xt_g138 rfl rfl (xi_bool (by first | omega | exact xb_or _)).1 ?_
      exact ⟨rfl, rfl⟩
    · try simp only [xb_0, xb_1, ne_eq, Decidable.not_not, Bool.not_eq_false, Bool.not_eq_true, decide_eq_true_eq, decide_eq_false_iff_not] at b34
      rw [b34, Bool.true_and]
      refine xe_s (f := (38, _, _, _)) xt_g138 rfl rfl rfl rfl rfl ?_
      refine xe_s (f := (39, _, _, _)) xt_g138 rfl rfl rfl rfl rfl ?_
      refine xe_gf xt_g138 rfl (q := 42) rfl (xf_3_59 fm) (X2) (by omega) rfl rfl ?_
      refine xe_cR xt_g138 rfl rfl rfl (q := 45) rfl (kc_V xk_3_60 rfl (X1) (by omega) rfl rfl) xt_g141 (by decide) ⟨Nat.le_of_ble_eq_true rfl, Nat.le_of_ble_eq_true rfl, Nat.le_of_ble_eq_true rfl⟩ (k141 hfm Cc H' d6) ?_
      refine xe_if_eq xt_g138 rfl (t := 77) rfl (q := 48) rfl (by first | omega | exact xb_r _) (fun b45 => ?_) (fun b45 => ?_)
      · try simp only [xb_0, xb_1, ne_eq, Decidable.not_not, Bool.not_eq_false, Bool.not_eq_true, decide_eq_true_eq, decide_eq_false_iff_not] at b45
        rw [b45, Bool.false_and]
        refine xe_s (f := (78, _, xi 0 :: _, _)) xt_g138 rfl rfl rfl rfl rfl ?_
        refine xe_iret xt_g138 rfl rfl (xi_bool (by first | omega | exact xb_or _)).1 ?_
        exact ⟨rfl, rfl⟩
      · try simp only [xb_0, xb_1, ne_eq, Decidable.not_not, Bool.not_eq_false, Bool.not_eq_true, decide_eq_true_eq, decide_eq_false_iff_not] at b45
        rw [b45, Bool.true_and]
        refine xe_s (f := (49, _, _, _)) xt_g138 rfl rfl rfl rfl rfl ?_
        refine xe_gf xt_g138 rfl (q := 52) rfl (xf_3_26 fm) (X1) (by omega) rfl rfl ?_
        refine xe_if_eq xt_g138 rfl (t := 62) rfl (q := 55) rfl (by first | omega | exact xb_r _) (fun b52 => ?_) (fun b52 => ?_)
        · try simp only [xb_0, xb_1, ne_eq, Decidable.not_not, Bool.not_eq_false, Bool.not_eq_true, decide_eq_true_eq, decide_eq_false_iff_not] at b52
          rw [b52, Bool.not_false, Bool.true_or, Bool.true_and]
          refine xe_s (f := (63, _, _, _)) xt_g138 rfl rfl rfl rfl rfl ?_
          refine xe_gf xt_g138 rfl (q := 66) rfl (xf_3_30 fm) (X1) (by omega) rfl rfl ?_
          refine xe_if_eq xt_g138 rfl (t := 73) rfl (q := 69) rfl (by first | omega | exact xb_r _) (fun b66 => ?_) (fun b66 => ?_)
          · try simp only [xb_0, xb_1, ne_eq, Decidable.not_not, Bool.not_eq_false, Bool.not_eq_true, decide_eq_true_eq, decide_eq_false_iff_not] at b66
            rw [b66, Bool.not_false, Bool.true_or]
            refine xe_s (f := (74, _, xi 1 :: _, _)) xt_g138 rfl rfl rfl rfl rfl ?_
            refine xe_s (f := (78, _, _, _)) xt_g138 rfl rfl rfl rfl rfl ?_
            refine xe_iret xt_g138 rfl rfl (xi_bool (by first | omega | exact xb_or _)).1 ?_
            exact ⟨rfl, rfl⟩
          · try simp only [xb_0, xb_1, ne_eq, Decidable.not_not, Bool.not_eq_false, Bool.not_eq_true, decide_eq_true_eq, decide_eq_false_iff_not] at b66
            rw [b66, Bool.not_true, Bool.false_or]
            refine xe_s (f := (70, _, _, _)) xt_g138 rfl rfl rfl rfl rfl ?_
            refine xe_if_eq xt_g138 rfl (t := 77) rfl (q := 73) rfl (by first | omega | exact xb_r _) (fun b70 => ?_) (fun b70 => ?_)
            · try simp only [xb_0, xb_1, ne_eq, Decidable.not_not, Bool.not_eq_false, Bool.not_eq_true, decide_eq_true_eq, decide_eq_false_iff_not] at b70
              rw [b70]
              refine xe_s (f := (78, _, xi 0 :: _, _)) xt_g138 rfl rfl rfl rfl rfl ?_
              refine xe_iret xt_g138 rfl rfl (xi_bool (by first | omega | exact xb_or _)).1 ?_
              exact ⟨rfl, rfl⟩
            · try simp only [xb_0, xb_1, ne_eq, Decidable.not_not, Bool.not_eq_false, Bool.not_eq_true, decide_eq_true_eq, decide_eq_false_iff_not] at b70
              rw [b70]
              refine xe_s (f := (74, _, xi 1 :: _, _)) xt_g138 rfl rfl rfl rfl rfl ?_
              refine xe_s (f := (78, _, _, _)) xt_g138 rfl rfl rfl rfl rfl ?_
              refine xe_iret xt_g138 rfl rfl (xi_bool (by first | omega | exact xb_or _)).1 ?_
              exact ⟨rfl, rfl⟩
        · try simp only [xb_0, xb_1, ne_eq, Decidable.not_not, Bool.not_eq_false, Bool.not_eq_true, decide_eq_true_eq, decide_eq_false_iff_not] at b52
          rw [b52, Bool.not_true, Bool.false_or]
          refine xe_s (f := (56, _, _, _)) xt_g138 rfl rfl rfl rfl rfl ?_
          refine xe_gf xt_g138 rfl (q := 59) rfl (xf_3_64 fm) (X2) (by omega) rfl rfl ?_
          refine xe_if_eq xt_g138 rfl (t := 77) rfl (q := 62) rfl (by first | omega | exact xb_r _) (fun b59 => ?_) (fun b59 => ?_)
          · try simp only [xb_0, xb_1, ne_eq, Decidable.not_not, Bool.not_eq_false, Bool.not_eq_true, decide_eq_true_eq, decide_eq_false_iff_not] at b59
            rw [b59, Bool.false_and]
            refine xe_s (f := (78, _, xi 0 :: _, _)) xt_g138 rfl rfl rfl rfl rfl ?_
            refine xe_iret xt_g138 rfl rfl (xi_bool (by first | omega | exact xb_or _)).1 ?_
            exact ⟨rfl, rfl⟩
          · try simp only [xb_0, xb_1, ne_eq, Decidable.not_not, Bool.not_eq_false, Bool.not_eq_true, decide_eq_true_eq, decide_eq_false_iff_not] at b59
            rw [b59, Bool.true_and]
            refine xe_s (f := (63, _, _, _)) xt_g138 rfl rfl rfl rfl rfl ?_
            refine xe_gf xt_g138 rfl (q := 66) rfl (xf_3_30 fm) (X1) (by omega) rfl rfl ?_
            refine xe_if_eq xt_g138 rfl (t := 73) rfl (q := 69) rfl (by first | omega | exact xb_r _) (fun b66 => ?_) (fun b66 => ?_)
            · try simp only [xb_0, xb_1, ne_eq, Decidable.not_not, Bool.not_eq_false, Bool.not_eq_true, decide_eq_true_eq, decide_eq_false_iff_not] at b66
              rw [b66, Bool.not_false, Bool.true_or]
              refine xe_s (f := (74, _, xi 1 :: _, _)) xt_g138 rfl rfl rfl rfl rfl ?_
              refine xe_s (f := (78, _, _, _)) xt_g138 rfl rfl rfl rfl rfl ?_
              refine xe_iret xt_g138 rfl rfl (xi_bool (by first | omega | exact xb_or _)).1 ?_
              exact ⟨rfl, rfl⟩
            · try simp only [xb_0, xb_1, ne_eq, Decidable.not_not, Bool.not_eq_false, Bool.not_eq_true, decide_eq_true_eq, decide_eq_false_iff_not] at b66
              rw [b66, Bool.not_true, Bool.false_or]
              refine xe_s (f := (70, _, _, _)) xt_g138 rfl rfl rfl rfl rfl ?_
              refine xe_if_eq xt_g138 rfl (t := 77) rfl (q := 73) rfl (by first | omega | exact xb_r _) (fun b70 => ?_) (fun b70 => ?_)
              · try simp only [xb_0, xb_1, ne_eq, Decidable.not_not, Bool.not_eq_false, Bool.not_eq_true, decide_eq_true_eq, decide_eq_false_iff_not] at b70
                rw [b70]
                refine xe_s (f := (78, _, xi 0 :: _, _)) xt_g138 rfl rfl rfl rfl rfl ?_
                refine xe_iret xt_g138 rfl rfl (xi_bool (by first | omega | exact xb_or _)).1 ?_
                exact ⟨rfl, rfl⟩
              · try simp only [xb_0, xb_1, ne_eq, Decidable.not_not, Bool.not_eq_false, Bool.not_eq_true, decide_eq_true_eq, decide_eq_false_iff_not] at b70
                rw [b70]
                refine xe_s (f := (74, _, xi 1 :: _, _)) xt_g138 rfl rfl rfl rfl rfl ?_
                refine xe_s (f := (78, _, _, _)) xt_g138 rfl rfl rfl rfl rfl ?_
                refine xe_iret xt_g138 rfl rfl (xi_bool (by first | omega | exact xb_or _)).1 ?_
                exact ⟨rfl, rfl⟩
  unfold xR
  refine xe_s (f := (1, _, _, _)) xt_g138 rfl rfl rfl rfl rfl ?_
  refine xe_gf xt_g138 rfl (q := 4) rfl (xf_3_34 fm) (X1) (by omega) rfl rfl ?_
  refine xe_if_eq xt_g138 rfl (t := 21) rfl (q := 7) rfl (by first | omega | exact xb_r _) (fun b4 => ?_) (fun b4 => ?_)
  · try simp only [xb_0, xb_1, ne_eq, Decidable.not_not, Bool.not_eq_false, Bool.not_eq_true, decide_eq_true_eq, decide_eq_false_iff_not] at b4
    refine xe_s (f := (22, _, _, _)) xt_g138 rfl rfl rfl rfl rfl ?_
    refine xe_gf xt_g138 rfl (q := 25) rfl (xf_3_50 fm) (X2) (by omega) rfl rfl ?_
    refine xe_s (f := (26, _, _, _)) xt_g138 rfl rfl rfl rfl rfl ?_
    refine xe_gf xt_g138 rfl (q := 29) rfl (xf_3_31 fm) (X1) (by omega) rfl rfl ?_
    refine xe_cR xt_g138 rfl rfl rfl (q := 32) rfl (kc_S xk_3_55 (Nat.le_of_ble_eq_true rfl)) xt_g139 (by decide) ⟨Nat.le_of_ble_eq_true rfl, Nat.le_of_ble_eq_true rfl, Nat.le_of_ble_eq_true rfl⟩ (s139 hfm (sS_ko d5) (sS_ko s3)) ?_
    exact xe_loc (by intro q hq; simp only [List.mem_cons, List.not_mem_nil, or_false] at hq; rcases hq with rfl | rfl | rfl <;> rfl) ((fin (st_ends A.2.1 c.2.2.1) (by unfold gw; rw [b4, go_h_f])))
  · try simp only [xb_0, xb_1, ne_eq, Decidable.not_not, Bool.not_eq_false, Bool.not_eq_true, decide_eq_true_eq, decide_eq_false_iff_not] at b4
    refine xe_s (f := (8, _, _, _)) xt_g138 rfl rfl rfl rfl rfl ?_
    refine xe_gf xt_g138 rfl (q := 11) rfl (xf_3_31 fm) (X1) (by omega) rfl rfl ?_
    refine xe_s (f := (12, _, _, _)) xt_g138 rfl rfl rfl rfl rfl ?_
    refine xe_gf xt_g138 rfl (q := 15) rfl (xf_3_50 fm) (X2) (by omega) rfl rfl ?_
    refine xe_cR xt_g138 rfl rfl rfl (q := 18) rfl (kc_V xk_3_44 rfl (F1 _ _ _ _ _) (by omega) rfl rfl) xt_g92 (by decide) ⟨Nat.le_of_ble_eq_true rfl, Nat.le_of_ble_eq_true rfl, Nat.le_of_ble_eq_true rfl⟩ (s92 (sS_ko s3) (sS_ko d5)) ?_
    refine xe_s (f := (32, _, _, _)) xt_g138 rfl rfl rfl rfl rfl ?_
    exact xe_loc (by intro q hq; simp only [List.mem_cons, List.not_mem_nil, or_false] at hq; rcases hq with rfl | rfl | rfl <;> rfl) ((fin (decide (c.2.2.1 = A.2.1)) (by unfold gw; rw [b4, go_h_t])))
/-- isOfSameKey -/
theorem k217 (H : ckO w h n x c) (HF : ckO w h n y f) : xR fm 217 (ko w s p ar v h) n [.ref x, .ref y] (some (xi (xb (ck_same c f)))) := by
  obtain ⟨na, va, dn, pa, a1, a2, a3, a4, s1, s2, s3, s4, b⟩ := H
  obtain ⟨na', va', dn', pa', a1', a2', a3', a4', s1', s2', s3', s4', b'⟩ := HF
  have X1 := (ko_d (w := w) (s := s) (p := p) (ar := ar) (v := v) a2.1).trans a1
  have X2 := (ko_d (w := w) (s := s) (p := p) (ar := ar) (v := v) a2'.1).trans a1'
  obtain ⟨f1, F1, q1, _, _⟩ := sS_at s1
  obtain ⟨f3, F3, q3, _, _⟩ := sS_at s3
  obtain ⟨f4, F4, q4, _, _⟩ := sS_at s4
  unfold xR ck_same
  refine xe_s (f := (1, _, _, _)) xt_g217 rfl rfl rfl rfl rfl ?_
  refine xe_gf xt_g217 rfl (q := 4) rfl (xf_3_15 fm) (X1) (by omega) rfl rfl ?_
  refine xe_s (f := (5, _, _, _)) xt_g217 rfl rfl rfl rfl rfl ?_
  refine xe_gf xt_g217 rfl (q := 8) rfl (xf_3_15 fm) (X2) (by omega) rfl rfl ?_
  refine xe_cR xt_g217 rfl rfl rfl (q := 11) rfl (kc_V xk_3_44 rfl (F1 _ _ _ _ _) (by omega) rfl rfl) xt_g92 (by decide) ⟨Nat.le_of_ble_eq_true rfl, Nat.le_of_ble_eq_true rfl, Nat.le_of_ble_eq_true rfl⟩ (s92 (sS_ko s1) (sS_ko s1')) ?_
  refine xe_if_eq xt_g217 rfl (t := 46) rfl (q := 14) rfl (by first | omega | exact xb_r _) (fun b11 => ?_) (fun b11 => ?_)
  · try simp only [xb_0, xb_1, ne_eq, Decidable.not_not, Bool.not_eq_false, Bool.not_eq_true, decide_eq_true_eq, decide_eq_false_iff_not] at b11
    rw [decide_eq_false b11, Bool.false_and]
    refine xe_s (f := (47, _, xi 0 :: _, _)) xt_g217 rfl rfl rfl rfl rfl ?_
    refine xe_iret xt_g217 rfl rfl (xi_bool (by first | omega | exact xb_or _)).1 ?_
    exact ⟨rfl, rfl⟩
  · try simp only [xb_0, xb_1, ne_eq, Decidable.not_not, Bool.not_eq_false, Bool.not_eq_true, decide_eq_true_eq, decide_eq_false_iff_not] at b11
    rw [decide_eq_true b11, Bool.true_and]
    refine xe_s (f := (15, _, _, _)) xt_g217 rfl rfl rfl rfl rfl ?_
    refine xe_gf xt_g217 rfl (q := 18) rfl (xf_3_31 fm) (X1) (by omega) rfl rfl ?_
    refine xe_s (f := (19, _, _, _)) xt_g217 rfl rfl rfl rfl rfl ?_
    refine xe_gf xt_g217 rfl (q := 22) rfl (xf_3_31 fm) (X2) (by omega) rfl rfl ?_
    refine xe_cR xt_g217 rfl rfl rfl (q := 25) rfl (kc_V xk_3_44 rfl (F3 _ _ _ _ _) (by omega) rfl rfl) xt_g92 (by decide) ⟨Nat.le_of_ble_eq_true rfl, Nat.le_of_ble_eq_true rfl, Nat.le_of_ble_eq_true rfl⟩ (s92 (sS_ko s3) (sS_ko s3')) ?_
    refine xe_if_eq xt_g217 rfl (t := 46) rfl (q := 28) rfl (by first | omega | exact xb_r _) (fun b25 => ?_) (fun b25 => ?_)
    · try simp only [xb_0, xb_1, ne_eq, Decidable.not_not, Bool.not_eq_false, Bool.not_eq_true, decide_eq_true_eq, decide_eq_false_iff_not] at b25
      rw [decide_eq_false b25, Bool.false_and]
      refine xe_s (f := (47, _, xi 0 :: _, _)) xt_g217 rfl rfl rfl rfl rfl ?_
      refine xe_iret xt_g217 rfl rfl (xi_bool (by first | omega | exact xb_or _)).1 ?_
      exact ⟨rfl, rfl⟩
    · try simp only [xb_0, xb_1, ne_eq, Decidable.not_not, Bool.not_eq_false, Bool.not_eq_true, decide_eq_true_eq, decide_eq_false_iff_not] at b25
      rw [decide_eq_true b25, Bool.true_and]
      refine xe_s (f := (29, _, _, _)) xt_g217 rfl rfl rfl rfl rfl ?_
      refine xe_gf xt_g217 rfl (q := 32) rfl (xf_3_37 fm) (X1) (by omega) rfl rfl ?_
      refine xe_s (f := (33, _, _, _)) xt_g217 rfl rfl rfl rfl rfl ?_
      refine xe_gf xt_g217 rfl (q := 36) rfl (xf_3_37 fm) (X2) (by omega) rfl rfl ?_
      refine xe_cR xt_g217 rfl rfl rfl (q := 39) rfl (kc_V xk_3_44 rfl (F4 _ _ _ _ _) (by omega) rfl rfl) xt_g92 (by decide) ⟨Nat.le_of_ble_eq_true rfl, Nat.le_of_ble_eq_true rfl, Nat.le_of_ble_eq_true rfl⟩ (s92 (sS_ko s4) (sS_ko s4')) ?_
      refine xe_if_eq xt_g217 rfl (t := 46) rfl (q := 42) rfl (by first | omega | exact xb_r _) (fun b39 => ?_) (fun b39 => ?_)
      · try simp only [xb_0, xb_1, ne_eq, Decidable.not_not, Bool.not_eq_false, Bool.not_eq_true, decide_eq_true_eq, decide_eq_false_iff_not] at b39
        rw [decide_eq_false b39]
        refine xe_s (f := (47, _, xi 0 :: _, _)) xt_g217 rfl rfl rfl rfl rfl ?_
        refine xe_iret xt_g217 rfl rfl (xi_bool (by first | omega | exact xb_or _)).1 ?_
        exact ⟨rfl, rfl⟩
      · try simp only [xb_0, xb_1, ne_eq, Decidable.not_not, Bool.not_eq_false, Bool.not_eq_true, decide_eq_true_eq, decide_eq_false_iff_not] at b39
        rw [decide_eq_true b39]
        refine xe_s (f := (43, _, xi 1 :: _, _)) xt_g217 rfl rfl rfl rfl rfl ?_
        refine xe_s (f := (47, _, _, _)) xt_g217 rfl rfl rfl rfl rfl ?_
        refine xe_iret xt_g217 rfl rfl (xi_bool (by first | omega | exact xb_or _)).1 ?_
        exact ⟨rfl, rfl⟩
theorem k216_loop (hn : 64 ≤ n) (HC : ckL w s ar h n C) (HF : ckO w h n y f) : ∀ (m i : Nat), i + m = C.length → xe fm 216 (2, [(2, xi (i : Int)), (0, .ref 59), (1, .ref y)], [], (ko w s p ar v h, n, 0, 0)) (fun q M => q = .inl (some (xi (if 0 ≤ ck_fi (C.drop i) f i then ck_fi (C.drop i) f i else C.length))) ∧ M = (ko w s p ar v h, n, 0, 0)) := by
  have h8 := HC.2.1
  intro m
  induction m with
  | zero =>
    intro i hi
    have e0 : ck_fi (C.drop i) f i = -1 := by rw [List.drop_eq_nil_of_le (by omega)]; rfl
    rw [e0, if_neg (by omega)]
    refine xe_s (f := (3, _, _, _)) xt_g216 rfl rfl rfl rfl rfl ?_
    refine xe_s (f := (4, _, _, _)) xt_g216 rfl rfl rfl rfl rfl ?_
    refine xe_gf xt_g216 rfl (q := 7) rfl (xf_6_35 fm) (ko_59) (by omega) rfl rfl ?_
    rw [HC.1]
    refine xe_ic_ge xt_g216 rfl (t := 31) rfl (q := 10) rfl (by first | omega | exact xb_r _) (by first | omega | exact xb_r _) (fun b7 => ?_) (fun b7 => ?_)
    · try simp only [xb_0, xb_1, ne_eq, Decidable.not_not, Bool.not_eq_false, Bool.not_eq_true, decide_eq_true_eq, decide_eq_false_iff_not] at b7
      refine xe_s (f := (32, _, _, _)) xt_g216 rfl rfl rfl rfl rfl ?_
      refine xe_gf xt_g216 rfl (q := 35) rfl (xf_6_35 fm) (ko_59) (by omega) rfl rfl ?_
      rw [HC.1]
      refine xe_iret xt_g216 rfl rfl xi_int.1 ?_
      exact ⟨rfl, rfl⟩
    · exact absurd b7 (by omega)
  | succ m ih =>
    intro i hi
    obtain ⟨x, e5, HX⟩ := HC.2.2 i (by omega)
    have ed : C.drop i = C.getD i ck_0 :: C.drop (i + 1) := drop_gd (by omega)
    have HX' := HX
    obtain ⟨na, va, dn, pa, a1, a2, a3, a4, _⟩ := HX
    have X1 := (ko_d (w := w) (s := s) (p := p) (ar := ar) (v := v) a2.1).trans a1
    rw [ed]
    unfold ck_fi
    refine xe_s (f := (3, _, _, _)) xt_g216 rfl rfl rfl rfl rfl ?_
    refine xe_s (f := (4, _, _, _)) xt_g216 rfl rfl rfl rfl rfl ?_
    refine xe_gf xt_g216 rfl (q := 7) rfl (xf_6_35 fm) (ko_59) (by omega) rfl rfl ?_
    rw [HC.1]
    refine xe_ic_ge xt_g216 rfl (t := 31) rfl (q := 10) rfl (by first | omega | exact xb_r _) (by first | omega | exact xb_r _) (fun b7 => ?_) (fun b7 => ?_)
    · exact absurd b7 (by omega)
    · try simp only [xb_0, xb_1, ne_eq, Decidable.not_not, Bool.not_eq_false, Bool.not_eq_true, decide_eq_true_eq, decide_eq_false_iff_not] at b7
      refine xe_s (f := (11, _, _, _)) xt_g216 rfl rfl rfl rfl rfl ?_
      refine xe_gf xt_g216 rfl (q := 14) rfl (xf_6_20 fm) (ko_59) (by omega) rfl rfl ?_
      refine xe_s (f := (15, _, _, _)) xt_g216 rfl rfl rfl rfl rfl ?_
      refine xe_ka_62 xt_g216 rfl (q := 16) rfl (by omega) (by omega) (by omega) ?_
      rw [Int.toNat_natCast, e5, va_some]
      refine xe_s (f := (17, _, _, _)) xt_g216 rfl rfl rfl rfl rfl ?_
      refine xe_cR xt_g216 rfl rfl rfl (q := 20) rfl (kc_V xk_6_137 rfl (X1) (by omega) rfl rfl) xt_g217 (by decide) ⟨Nat.le_of_ble_eq_true rfl, Nat.le_of_ble_eq_true rfl, Nat.le_of_ble_eq_true rfl⟩ (k217 HX' HF) ?_
      refine xe_if_eq xt_g216 rfl (t := 25) rfl (q := 23) rfl (by first | omega | exact xb_r _) (fun b20 => ?_) (fun b20 => ?_)
      · try simp only [xb_0, xb_1, ne_eq, Decidable.not_not, Bool.not_eq_false, Bool.not_eq_true, decide_eq_true_eq, decide_eq_false_iff_not] at b20
        rw [show (if ck_same (C.getD i ck_0) f = true then ((i : Nat) : Int) else ck_fi (C.drop (i + 1)) f (i + 1)) = ck_fi (C.drop (i + 1)) f (i + 1) from if_neg (by rw [b20]; decide)]
        refine xe_iinc xt_g216 rfl (q := 28) rfl rfl (by decide) (L1 := [(2, _), (0, _), (1, _)]) rfl ?_
        refine xe_s (f := (2, _, _, _)) xt_g216 rfl rfl rfl rfl rfl ?_
        have g := ih (i + 1) (by omega)
        rw [show ((i + 1 : Nat) : Int) = (i : Int) + 1 by omega] at g
        exact xe_loc (by intro q hq; simp only [List.mem_cons, List.not_mem_nil, or_false] at hq; rcases hq with rfl | rfl | rfl <;> rfl) (g)
      · try simp only [xb_0, xb_1, ne_eq, Decidable.not_not, Bool.not_eq_false, Bool.not_eq_true, decide_eq_true_eq, decide_eq_false_iff_not] at b20
        rw [show (if ck_same (C.getD i ck_0) f = true then ((i : Nat) : Int) else ck_fi (C.drop (i + 1)) f (i + 1)) = ((i : Nat) : Int) from if_pos b20, if_pos (by omega)]
        refine xe_s (f := (24, _, _, _)) xt_g216 rfl rfl rfl rfl rfl ?_
        refine xe_iret xt_g216 rfl rfl xi_int.1 ?_
        exact ⟨rfl, rfl⟩
/-- placeOf -/
theorem k216 (hn : 64 ≤ n) (HC : ckL w s ar h n C) (HF : ckO w h n y f) : xR fm 216 (ko w s p ar v h) n [.ref 59, .ref y] (some (xi (ck_pl C f))) := by
  unfold xR ck_pl
  refine xe_s (f := (1, _, xi 0 :: _, _)) xt_g216 rfl rfl rfl rfl rfl ?_
  refine xe_s (f := (2, [(2, _), (0, _), (1, _)], _, _)) xt_g216 rfl rfl rfl rfl rfl ?_
  exact xe_loc (by intro q hq; simp only [List.mem_cons, List.not_mem_nil, or_false] at hq; rcases hq with rfl | rfl | rfl <;> rfl) ((k216_loop hn HC HF C.length 0 (by omega)))
theorem k154_loop (hn : 64 ≤ n) (HC : ckL w s ar h n C) (ht : 0 ≤ s 14 ∧ s 14 ≤ 1000000000) : ∀ (m i k : Nat), i + m = C.length → k ≤ i → xe fm 154 (4, [(2, xi (i : Int)), (1, xi (k : Int)), (0, .ref 59)], [], (ko w s p ar v h, n, 0, 0)) (fun q M => q = .inl (some (xi ((k + (ck_nov (s 14) (C.drop i)).length : Nat) : Int))) ∧ M = (ko w s p ar v h, n, 0, 0)) := by
  have h8 := HC.2.1
  intro m
  induction m with
  | zero =>
    intro i k hi hk
    have e0 : ck_nov (s 14) (C.drop i) = [] := by rw [List.drop_eq_nil_of_le (by omega)]; rfl
    rw [e0]
    refine xe_s (f := (5, _, _, _)) xt_g154 rfl rfl rfl rfl rfl ?_
    refine xe_s (f := (6, _, _, _)) xt_g154 rfl rfl rfl rfl rfl ?_
    refine xe_gf xt_g154 rfl (q := 9) rfl (xf_6_35 fm) (ko_59) (by omega) rfl rfl ?_
    rw [HC.1]
    refine xe_ic_ge xt_g154 rfl (t := 37) rfl (q := 12) rfl (by first | omega | exact xb_r _) (by first | omega | exact xb_r _) (fun b9 => ?_) (fun b9 => ?_)
    · try simp only [xb_0, xb_1, ne_eq, Decidable.not_not, Bool.not_eq_false, Bool.not_eq_true, decide_eq_true_eq, decide_eq_false_iff_not] at b9
      refine xe_s (f := (38, _, _, _)) xt_g154 rfl rfl rfl rfl rfl ?_
      refine xe_iret xt_g154 rfl rfl xi_int.1 ?_
      exact ⟨rfl, rfl⟩
    · exact absurd b9 (by omega)
  | succ m ih =>
    intro i k hi hk
    obtain ⟨x, e5, HX⟩ := HC.2.2 i (by omega)
    have ed : C.drop i = C.getD i ck_0 :: C.drop (i + 1) := drop_gd (by omega)
    have HX' := HX
    obtain ⟨na, va, dn, pa, a1, a2, a3, a4, _⟩ := HX
    have X1 := (ko_d (w := w) (s := s) (p := p) (ar := ar) (v := v) a2.1).trans a1
    rw [ed]
    unfold ck_nov
    rw [List.filter_cons]
    refine xe_s (f := (5, _, _, _)) xt_g154 rfl rfl rfl rfl rfl ?_
    refine xe_s (f := (6, _, _, _)) xt_g154 rfl rfl rfl rfl rfl ?_
    refine xe_gf xt_g154 rfl (q := 9) rfl (xf_6_35 fm) (ko_59) (by omega) rfl rfl ?_
    rw [HC.1]
    refine xe_ic_ge xt_g154 rfl (t := 37) rfl (q := 12) rfl (by first | omega | exact xb_r _) (by first | omega | exact xb_r _) (fun b9 => ?_) (fun b9 => ?_)
    · exact absurd b9 (by omega)
    · try simp only [xb_0, xb_1, ne_eq, Decidable.not_not, Bool.not_eq_false, Bool.not_eq_true, decide_eq_true_eq, decide_eq_false_iff_not] at b9
      refine xe_s (f := (13, _, _, _)) xt_g154 rfl rfl rfl rfl rfl ?_
      refine xe_gf xt_g154 rfl (q := 16) rfl (xf_6_20 fm) (ko_59) (by omega) rfl rfl ?_
      refine xe_s (f := (17, _, _, _)) xt_g154 rfl rfl rfl rfl rfl ?_
      refine xe_ka_62 xt_g154 rfl (q := 18) rfl (by omega) (by omega) (by omega) ?_
      rw [Int.toNat_natCast, e5, va_some]
      refine xe_s (f := (19, _, _, _)) xt_g154 rfl rfl rfl rfl rfl ?_
      refine xe_gf xt_g154 rfl (q := 22) rfl (xf_6_31 fm) (ko_59) (by omega) rfl rfl ?_
      refine xe_cR xt_g154 rfl rfl rfl (q := 25) rfl (kc_V xk_6_38 rfl (X1) (by omega) rfl rfl) xt_g137 (by decide) ⟨Nat.le_of_ble_eq_true rfl, Nat.le_of_ble_eq_true rfl, Nat.le_of_ble_eq_true rfl⟩ (k137 HX' ht) ?_
      refine xe_if_ne xt_g154 rfl (t := 31) rfl (q := 28) rfl (by first | omega | exact xb_r _) (fun b25 => ?_) (fun b25 => ?_)
      · try simp only [xb_0, xb_1, ne_eq, Decidable.not_not, Bool.not_eq_false, Bool.not_eq_true, decide_eq_true_eq, decide_eq_false_iff_not] at b25
        rw [b25, Bool.not_true, if_neg (by decide)]
        refine xe_iinc xt_g154 rfl (q := 34) rfl rfl (by decide) (L1 := [(2, _), (1, _), (0, _)]) rfl ?_
        refine xe_s (f := (4, _, _, _)) xt_g154 rfl rfl rfl rfl rfl ?_
        have g := ih (i + 1) k (by omega) (by omega)
        rw [show ((i + 1 : Nat) : Int) = (i : Int) + 1 by omega] at g
        exact xe_loc (by intro q hq; simp only [List.mem_cons, List.not_mem_nil, or_false] at hq; rcases hq with rfl | rfl | rfl <;> rfl) (g)
      · try simp only [xb_0, xb_1, ne_eq, Decidable.not_not, Bool.not_eq_false, Bool.not_eq_true, decide_eq_true_eq, decide_eq_false_iff_not] at b25
        rw [b25, Bool.not_false, if_pos rfl, List.length_cons]
        refine xe_iinc xt_g154 rfl (q := 31) rfl rfl (by decide) (L1 := [(1, _), (2, _), (0, _)]) rfl ?_
        refine xe_iinc xt_g154 rfl (q := 34) rfl rfl (by decide) (L1 := [(2, _), (1, _), (0, _)]) rfl ?_
        refine xe_s (f := (4, _, _, _)) xt_g154 rfl rfl rfl rfl rfl ?_
        have g := ih (i + 1) (k + 1) (by omega) (by omega)
        rw [show ((i + 1 : Nat) : Int) = (i : Int) + 1 by omega, show ((k + 1 : Nat) : Int) = (k : Int) + 1 by omega, show k + 1 + (ck_nov (s 14) (C.drop (i + 1))).length = k + ((ck_nov (s 14) (C.drop (i + 1))).length + 1) by omega] at g
        exact xe_loc (by intro q hq; simp only [List.mem_cons, List.not_mem_nil, or_false] at hq; rcases hq with rfl | rfl | rfl <;> rfl) (g)
/-- countLasting -/
theorem k154 (hn : 64 ≤ n) (HC : ckL w s ar h n C) (ht : 0 ≤ s 14 ∧ s 14 ≤ 1000000000) : xR fm 154 (ko w s p ar v h) n [.ref 59] (some (xi ((ck_nov (s 14) C).length : Int))) := by
  unfold xR
  refine xe_s (f := (1, _, xi 0 :: _, _)) xt_g154 rfl rfl rfl rfl rfl ?_
  refine xe_s (f := (2, [(1, _), (0, _)], _, _)) xt_g154 rfl rfl rfl rfl rfl ?_
  refine xe_s (f := (3, _, xi 0 :: _, _)) xt_g154 rfl rfl rfl rfl rfl ?_
  refine xe_s (f := (4, [(2, _), (1, _), (0, _)], _, _)) xt_g154 rfl rfl rfl rfl rfl ?_
  have g := k154_loop (fm := fm) (w := w) (s := s) (p := p) (ar := ar) (v := v) hn HC ht C.length 0 0 (by omega) (by omega)
  rw [Nat.zero_add] at g
  exact xe_loc (by intro q hq; simp only [List.mem_cons, List.not_mem_nil, or_false] at hq; rcases hq with rfl | rfl | rfl <;> rfl) (g)
end XBB
