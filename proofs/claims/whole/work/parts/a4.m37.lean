/-! the reference: setCookie -/
def ck_nov (t : Int) (C : List ck_T) : List ck_T := C.filter (fun c => !ck_io t c)
def ck_set2 (L : List (List Int)) (q tm : Int) (C : List ck_T) (a : pa_A) (net : Bool) (p : List Int × List Int) (x : at_T) : List ck_T := match cd_ch a.2.1 L x.1 with
  | none => C
  | some d => match cp_ch a.2.2.2.1 x.2.1 with
    | none => C
    | some w => ck_put L q tm C (p.1, p.2, d.2, w, ck_ov tm x.2.2.1, d.1, x.2.2.2.1, x.2.2.2.2) net a.1
def ck_set (t : Int → Int) (E : Int) (L : List (List Int)) (q tm : Int) (C : List ck_T) (a : pa_A) (net : Bool) : List ck_T := match ck_pair t (pa_fd t 59 E.toNat 0) with
  | none => ck_nov tm C
  | some p => ck_set2 L q tm (ck_nov tm C) a net p (at_lp t E (E + 1).toNat (pa_fd t 59 E.toNat 0) at_0)
section XSC
variable (fm : Value) {m n : Nat} {h0 : xm_H} {s : Nat → Int} {ar : Nat → Nat → Int}
theorem xd_over_c {i : Nat} {c : ck_T} (h : ck_at ar i c) : xd_over s ar i = ck_io (s 18) c := by
  unfold xd_over ck_io
  rw [Int.toNat_natCast, h.2.2.2.2.1]
def xd_PC (s : Nat → Int) (ar : Nat → Nat → Int) (C : List ck_T) (s' : Nat → Int) (ar' : Nat → Nat → Int) : Prop := xo_wf s' ar' ∧ xo_B ar' ∧ xq [2, 19, 33, 34, 35, 36, 37, 38, 39] [20, 21, 22, 23, 24, 25, 26, 27, 28, 29, 30, 31, 32] s ar s' ar' ∧ s' 2 = 0 ∧ ck_all s' ar' C ∧ C.length ≤ 40
theorem xU_setCookie (hmn : xo_in m n) (hw : xo_wf s ar) (hB : xo_B ar) (hl : xd_lok s ar) (h2 : 0 ≤ s 2 ∧ s 2 ≤ 160) {C : List ck_T} {L : List (List Int)} {b : Int} {a : pa_A} {net : Bool} (hC : ck_all s ar C) (hC40 : C.length ≤ 40) (hL : sf_at s ar L) (hb : 0 ≤ b ∧ b < 98) (hs : pa_at ar b (pa_text a)) (ho : pa_ok a) (h17 : 0 ≤ s 17) (h18 : 0 ≤ s 18 ∧ s 18 ≤ 1000000000) :
    xU fm 310 m n h0 s ar [.ref m, xi b, xi (xb net)] (xd_PC s ar (ck_set (xd_at s ar) (s 2) L (s 17) (s 18) C a net)) := by
  show xe fm 310 (0, [(0, .ref m), (1, xi b), (2, xi (xb net))], [], (xo m s ar h0, n, 0, 0)) _
  generalize hR : ck_set (xd_at s ar) (s 2) L (s 17) (s 18) C a net = R
  -- the end
  have fin : ∀ (s1 : Nat → Int) (ar1 : Nat → Nat → Int) (v3 : Value), xo_wf s1 ar1 → xo_B ar1 → xq [2, 19, 33, 34, 35, 36, 37, 38, 39] [20, 21, 22, 23, 24, 25, 26, 27, 28, 29, 30, 31, 32] s ar s1 ar1 → ck_all s1 ar1 R → R.length ≤ 40 → xe fm 310 (77, [(3, v3), (0, .ref m), (1, xi b), (2, xi (xb net))], [], (xo m s1 ar1 h0, n, 0, 0)) (xQU m n h0 (xd_PC s ar R)) := by
    intro s1 ar1 v3 w1 B1 q1 C1 hl1
    refine xe_s (f := (78, _, _, _)) xt_g310 rfl rfl rfl rfl rfl ?_
    refine xe_s (f := (79, _, xi 0 :: _, _)) xt_g310 rfl rfl rfl rfl rfl ?_
    refine xe_mps xt_g310 rfl (q := 82) rfl (xf_13_149 fm) (by decide) rfl (by omega) (by omega) xi_int (Or.inl rfl) ?_
    refine xe_ret xt_g310 rfl rfl ?_
    exact ⟨_, _, rfl, rfl, xo_wf_u w1 (by omega), B1, xq_u q1 (by decide), xo_uS, C1, hl1⟩
  have nov40 : (ck_nov (s 18) C).length ≤ 40 := Nat.le_trans (List.length_filter_le _ _) hC40
  -- behind the drops
  have e30 : ∀ (s1 : Nat → Int) (ar1 : Nat → Nat → Int) (v3 : Int), xo_wf s1 ar1 → xo_B ar1 → xq [19] [20, 21, 22, 23, 24, 25, 26, 27, 28, 29, 30, 31] s ar s1 ar1 → ck_all s1 ar1 (ck_nov (s 18) C) → xe fm 310 (30, [(3, xi v3), (0, .ref m), (1, xi b), (2, xi (xb net))], [], (xo m s1 ar1 h0, n, 0, 0)) (xQU m n h0 (xd_PC s ar R)) := by
    intro s1 ar1 v3 w1 B1 q1 C1
    have i2 : s1 2 = s 2 := q1.1 2 (by decide)
    have t1 : xd_at s1 ar1 = xd_at s ar := xq_at q1 (by decide) (by decide)
    have l1 := xd_lok_q hl q1 (by decide) (by decide)
    have c1 := xv_find1 fm hmn (h0 := h0) w1 (c := 59) (b := 0) (e := s 2) (by omega) (by omega) (by omega) (by omega) (by omega)
    rw [t1, Int.sub_zero] at c1
    have hen := pa_fd_r (t := xd_at s ar) (c := 59) (s 2).toNat 0
    unfold ck_set at hR
    generalize pa_fd (xd_at s ar) 59 (s 2).toNat 0 = en at *
    have Q1 := xq_mm (S' := [2, 19, 33, 34, 35, 36, 37, 38, 39]) (A' := [20, 21, 22, 23, 24, 25, 26, 27, 28, 29, 30, 31, 32]) q1 (by decide) (by decide)
    have c2 := xV_readPair fm hmn (h0 := h0) w1 B1 (by omega) (en := en) (by omega) (by omega)
    rw [t1] at c2
    refine xe_s (f := (31, _, _, _)) xt_g310 rfl rfl rfl rfl rfl ?_
    refine xe_bipush xt_g310 rfl (q := 33) rfl (by decide) (by decide) ?_
    refine xe_s (f := (34, _, xi 0 :: _, _)) xt_g310 rfl rfl rfl rfl rfl ?_
    refine xe_s (f := (35, _, _, _)) xt_g310 rfl rfl rfl rfl rfl ?_
    refine xe_mgs xt_g310 rfl (q := 38) rfl (xf_13_149 fm) (by decide) rfl (by omega) ?_
    try simp only [xo_u, xo_w, Nat.reduceEqDiff, reduceIte, false_and, true_and]
    rw [i2]
    refine xe_cvI xt_g310 rfl (q := 41) rfl xk_13_284 rfl (by omega) xt_g313 (by decide) ⟨Nat.le_of_ble_eq_true rfl, Nat.le_of_ble_eq_true rfl, Nat.le_of_ble_eq_true rfl⟩ (c1) ?_
    refine xe_s (f := (42, [(3, _), (0, _), (1, _), (2, _)], _, _)) xt_g310 rfl rfl rfl rfl rfl ?_
    refine xe_s (f := (43, _, _, _)) xt_g310 rfl rfl rfl rfl rfl ?_
    refine xe_s (f := (44, _, _, _)) xt_g310 rfl rfl rfl rfl rfl ?_
    refine xe_chI xt_g310 rfl (q := 47) rfl xk_13_288 rfl (by omega) xt_g314 (by decide) ⟨Nat.le_of_ble_eq_true rfl, Nat.le_of_ble_eq_true rfl, Nat.le_of_ble_eq_true rfl⟩ (c2) (fun z2 s2 ar2 hp2 => ?_)
    obtain ⟨w2, B2, q2, k2, pn, ps⟩ := hp2
    have Q2 := xq_t Q1 (xq_mm q2 (by decide) (by decide))
    have C2 : ck_all s2 ar2 (ck_nov (s 18) C) := ck_all_k C1 k2 (q2.1 19 (by decide))
    have hz2 : z2 = 0 ∨ z2 = 1 := by
      cases hpp : ck_pair (xd_at s ar) en with
      | none => exact Or.inl (pn hpp)
      | some p => exact Or.inr (ps p hpp).1
    refine xe_if_eq xt_g310 rfl (t := 77) rfl (q := 50) rfl (by first | omega | exact hw.1 _ | exact hw.2 _ _ | exact xb_r _) (fun h47 => ?_) (fun h47 => ?_)
    · try simp only [xb_0, xb_1, ne_eq, Decidable.not_not, decide_eq_true_eq, decide_eq_false_iff_not] at h47
      have hpn : ck_pair (xd_at s ar) en = none := by
        cases hpp : ck_pair (xd_at s ar) en with
        | none => rfl
        | some p => have := (ps p hpp).1; omega
      rw [hpn] at hR
      dsimp only at hR
      rw [← hR] at fin ⊢
      exact fin s2 ar2 _ w2 B2 Q2 C2 nov40
    · try simp only [xb_0, xb_1, ne_eq, Decidable.not_not, decide_eq_true_eq, decide_eq_false_iff_not] at h47
      obtain ⟨p, hpp⟩ : ∃ p, ck_pair (xd_at s ar) en = some p := by
        cases hpp : ck_pair (xd_at s ar) en with
        | none => exact absurd (pn hpp) h47
        | some p => exact ⟨p, rfl⟩
      obtain ⟨_, xN, xV⟩ := ps p hpp
      rw [hpp] at hR
      dsimp only at hR
      have j2 : s2 2 = s 2 := (q2.1 2 (by decide)).trans i2
      have t2 : xd_at s2 ar2 = xd_at s ar := (xq_at q2 (by decide) (by decide)).trans t1
      have l2 := xd_lok_q l1 q2 (by decide) (by decide)
      have c3 := xU_readAttributes fm hmn (h0 := h0) w2 B2 l2 (by omega) (e0 := en) (by omega) (by omega)
      rw [t2, j2] at c3
      generalize at_lp (xd_at s ar) (s 2) (s 2 + 1).toNat en at_0 = X at *
      refine xe_s (f := (51, _, _, _)) xt_g310 rfl rfl rfl rfl rfl ?_
      refine xe_s (f := (52, _, _, _)) xt_g310 rfl rfl rfl rfl rfl ?_
      refine xe_chV xt_g310 rfl (q := 55) rfl xk_13_291 rfl (by omega) xt_g316 (by decide) ⟨Nat.le_of_ble_eq_true rfl, Nat.le_of_ble_eq_true rfl, Nat.le_of_ble_eq_true rfl⟩ (c3) (fun s3 ar3 hp3 => ?_)
      obtain ⟨w3, B3, q3, k3, r3⟩ := hp3
      have Q3 := xq_t Q2 (xq_mm q3 (by decide) (by decide))
      have C3 : ck_all s3 ar3 (ck_nov (s 18) C) := ck_all_k C2 k3 (q3.1 19 (by decide))
      have S3 : pa_at ar3 b (pa_text a) := pa_at_c hs (Q3.2 4 (by decide)) (Q3.2 5 (by decide))
      have L3 : sf_at s3 ar3 L := sf_at_q hL Q3 (by decide) (by decide) (by decide)
      have m2 : s3 2 ≤ 160 := by
        rw [q3.1 2 (by decide), j2]
        exact h2.2
      have c4 := xV_chooseDomain fm hmn (h0 := h0) w3 B3 hb S3 ho L3 r3.1
      refine xe_s (f := (56, _, _, _)) xt_g310 rfl rfl rfl rfl rfl ?_
      refine xe_s (f := (57, _, _, _)) xt_g310 rfl rfl rfl rfl rfl ?_
      refine xe_chI xt_g310 rfl (q := 60) rfl xk_13_294 rfl (by omega) xt_g320 (by decide) ⟨Nat.le_of_ble_eq_true rfl, Nat.le_of_ble_eq_true rfl, Nat.le_of_ble_eq_true rfl⟩ (c4) (fun z4 s4 ar4 hp4 => ?_)
      obtain ⟨w4, B4, q4, k4, pn4, ps4⟩ := hp4
      have Q4 := xq_t Q3 (xq_mm q4 (by decide) (by decide))
      have C4 : ck_all s4 ar4 (ck_nov (s 18) C) := ck_all_k C3 k4 (q4.1 19 (by decide))
      have S4 : pa_at ar4 b (pa_text a) := pa_at_c hs (Q4.2 4 (by decide)) (Q4.2 5 (by decide))
      have hz4 : z4 = 0 ∨ z4 = 1 := by
        cases hpp : cd_ch a.2.1 L X.1 with
        | none => exact Or.inl (pn4 hpp)
        | some p => exact Or.inr (ps4 p hpp).1
      refine xe_if_eq xt_g310 rfl (t := 77) rfl (q := 63) rfl (by first | omega | exact hw.1 _ | exact hw.2 _ _ | exact xb_r _) (fun h60 => ?_) (fun h60 => ?_)
      · try simp only [xb_0, xb_1, ne_eq, Decidable.not_not, decide_eq_true_eq, decide_eq_false_iff_not] at h60
        have hcn : cd_ch a.2.1 L X.1 = none := by
          cases hpp : cd_ch a.2.1 L X.1 with
          | none => rfl
          | some p => have := (ps4 p hpp).1; omega
        unfold ck_set2 at hR
        rw [hcn] at hR
        dsimp only at hR
        rw [← hR] at fin ⊢
        exact fin s4 ar4 _ w4 B4 Q4 C4 nov40
      · try simp only [xb_0, xb_1, ne_eq, Decidable.not_not, decide_eq_true_eq, decide_eq_false_iff_not] at h60
        obtain ⟨d, hcd⟩ : ∃ d, cd_ch a.2.1 L X.1 = some d := by
          cases hpp : cd_ch a.2.1 L X.1 with
          | none => exact absurd (pn4 hpp) h60
          | some p => exact ⟨p, rfl⟩
        obtain ⟨_, xD, xA⟩ := ps4 d hcd
        have r4 : at_rp s4 ar4 X.2.1 := by
          have es : ∀ k, s4 k = s3 k := fun k => q4.1 k (by simp)
          have et : xd_at s4 ar4 = xd_at s3 ar3 := xq_at q4 (by decide) (by decide)
          have d2 := r3.2.1
          cases h : X.2.1 with
          | none => rw [h] at d2; exact (es 34).trans d2
          | some p' =>
            rw [h] at d2
            exact ⟨by rw [es 34]; exact d2.1, by rw [es 34, es 35]; exact d2.2.1, by rw [es 35, es 2]; exact d2.2.2.1, by rw [et, es 34, es 35]; exact d2.2.2.2⟩
        have c5 := xV_choosePath fm hmn (h0 := h0) w4 B4 (by rw [q4.1 2 (by decide)]; exact m2) hb S4 ho r4
        refine xe_s (f := (64, _, _, _)) xt_g310 rfl rfl rfl rfl rfl ?_
        refine xe_s (f := (65, _, _, _)) xt_g310 rfl rfl rfl rfl rfl ?_
        refine xe_chI xt_g310 rfl (q := 68) rfl xk_13_297 rfl (by omega) xt_g323 (by decide) ⟨Nat.le_of_ble_eq_true rfl, Nat.le_of_ble_eq_true rfl, Nat.le_of_ble_eq_true rfl⟩ (c5) (fun z5 s5 ar5 hp5 => ?_)
        obtain ⟨w5, B5, q5, k5, pn5, ps5⟩ := hp5
        have Q5 := xq_t Q4 (xq_mm q5 (by decide) (by decide))
        have C5 : ck_all s5 ar5 (ck_nov (s 18) C) := ck_all_k C4 k5 (q5.1 19 (by decide))
        have hz5 : z5 = 0 ∨ z5 = 1 := by
          cases hpp : cp_ch a.2.2.2.1 X.2.1 with
          | none => exact Or.inl (pn5 hpp)
          | some p => exact Or.inr (ps5 p hpp).1
        refine xe_if_eq xt_g310 rfl (t := 77) rfl (q := 71) rfl (by first | omega | exact hw.1 _ | exact hw.2 _ _ | exact xb_r _) (fun h68 => ?_) (fun h68 => ?_)
        · try simp only [xb_0, xb_1, ne_eq, Decidable.not_not, decide_eq_true_eq, decide_eq_false_iff_not] at h68
          have hcn : cp_ch a.2.2.2.1 X.2.1 = none := by
            cases hpp : cp_ch a.2.2.2.1 X.2.1 with
            | none => rfl
            | some p => have := (ps5 p hpp).1; omega
          unfold ck_set2 at hR
          rw [hcd] at hR
          dsimp only at hR
          rw [hcn] at hR
          dsimp only at hR
          rw [← hR] at fin ⊢
          exact fin s5 ar5 _ w5 B5 Q5 C5 nov40
        · try simp only [xb_0, xb_1, ne_eq, Decidable.not_not, decide_eq_true_eq, decide_eq_false_iff_not] at h68
          obtain ⟨wp, hcp⟩ : ∃ d, cp_ch a.2.2.2.1 X.2.1 = some d := by
            cases hpp : cp_ch a.2.2.2.1 X.2.1 with
            | none => exact absurd (pn5 hpp) h68
            | some p => exact ⟨p, rfl⟩
          obtain ⟨_, xP⟩ := ps5 wp hcp
          have S5 : pa_at ar5 b (pa_text a) := pa_at_c hs (Q5.2 4 (by decide)) (Q5.2 5 (by decide))
          have L5 : sf_at s5 ar5 L := sf_at_q hL Q5 (by decide) (by decide) (by decide)
          have e17 : s5 17 = s 17 := Q5.1 17 (by decide)
          have e18 : s5 18 = s 18 := Q5.1 18 (by decide)
          have f5 : ck_at ar5 41 (p.1, p.2, d.2, wp, ar5 28 41, d.1, X.2.2.2.1, X.2.2.2.2) := by
            refine ⟨?_, ?_, ?_, xP, rfl, ?_, ?_, ?_⟩
            · unfold ck_txt
              rw [q5.2 24 (by decide), q5.2 20 (by decide), q4.2 24 (by decide), q4.2 20 (by decide), q3.2 24 (by decide), q3.2 20 (by decide)]
              exact xN
            · unfold ck_txt
              rw [q5.2 25 (by decide), q5.2 21 (by decide), q4.2 25 (by decide), q4.2 21 (by decide), q3.2 25 (by decide), q3.2 21 (by decide)]
              exact xV
            · unfold ck_dom
              rw [q5.2 26 (by decide), q5.2 22 (by decide)]
              exact xD
            · rw [q5.2 29 (by decide)]
              exact xA
            · rw [q5.2 30 (by decide), q4.2 30 (by decide)]
              exact r3.2.2.2.1
            · rw [q5.2 31 (by decide), q4.2 31 (by decide)]
              exact r3.2.2.2.2
          have g5 : at_ra s5 X.2.2.1 := by
            have es : ∀ k, s5 k = s3 k := fun k => (q5.1 k (by simp)).trans (q4.1 k (by simp))
            have d3 := r3.2.2.1
            cases h : X.2.2.1 with
            | none => rw [h] at d3; exact (es 37).trans d3
            | some v => rw [h] at d3; exact ⟨(es 37).trans d3.1, (es 36).trans d3.2.1, d3.2.2⟩
          have c6 := xU_putCookie fm hmn (h0 := h0) (net := net) w5 B5 C5 nov40 f5 L5 hb S5 g5 (by omega) (by omega)
          rw [e17, e18] at c6
          have hR6 : ck_put L (s 17) (s 18) (ck_nov (s 18) C) (ck_so (p.1, p.2, d.2, wp, ar5 28 41, d.1, X.2.2.2.1, X.2.2.2.2) (ck_ov (s 18) X.2.2.1)) net a.1 = R := by
            unfold ck_set2 at hR
            rw [hcd] at hR
            dsimp only at hR
            rw [hcp] at hR
            dsimp only at hR
            exact hR
          rw [hR6] at c6
          refine xe_s (f := (72, _, _, _)) xt_g310 rfl rfl rfl rfl rfl ?_
          refine xe_s (f := (73, _, _, _)) xt_g310 rfl rfl rfl rfl rfl ?_
          refine xe_s (f := (74, _, _, _)) xt_g310 rfl rfl rfl rfl rfl ?_
          refine xe_chV xt_g310 rfl (q := 77) rfl xk_13_300 rfl (by omega) xt_g324 (by decide) ⟨Nat.le_of_ble_eq_true rfl, Nat.le_of_ble_eq_true rfl, Nat.le_of_ble_eq_true rfl⟩ (c6) (fun s6 ar6 hp6 => ?_)
          obtain ⟨w6, B6, q6, C6, l6⟩ := hp6
          exact fin s6 ar6 _ w6 B6 (xq_t Q5 (xq_mm q6 (by decide) (by decide))) C6 l6
  have loop : ∀ (k : Nat) (s1 : Nat → Int) (ar1 : Nat → Nat → Int), k ≤ C.length → xo_wf s1 ar1 → xo_B ar1 → xq [19] [20, 21, 22, 23, 24, 25, 26, 27, 28, 29, 30, 31] s ar s1 ar1 → ck_all s1 ar1 (C.take k ++ ck_nov (s 18) (C.drop k)) → xe fm 310 (7, [(3, xi ((k : Int) - 1)), (0, .ref m), (1, xi b), (2, xi (xb net))], [], (xo m s1 ar1 h0, n, 0, 0)) (xQU m n h0 (xd_PC s ar R)) := by
    intro k
    induction k with
    | zero =>
      intro s1 ar1 hk w1 B1 q1 C1
      rw [List.take_zero, List.nil_append, List.drop_zero] at C1
      refine xe_s (f := (8, _, _, _)) xt_g310 rfl rfl rfl rfl rfl ?_
      refine xe_if_lt xt_g310 rfl (t := 30) rfl (q := 11) rfl (by first | omega | exact hw.1 _ | exact hw.2 _ _ | exact xb_r _) (fun h8 => ?_) (fun h8 => ?_)
      · try simp only [xb_0, xb_1, ne_eq, Decidable.not_not, decide_eq_true_eq, decide_eq_false_iff_not] at h8
        exact e30 s1 ar1 _ w1 B1 q1 C1
      · exact absurd h8 (by omega)
    | succ k ih =>
      intro s1 ar1 hk w1 B1 q1 C1
      have e18 : s1 18 = s 18 := q1.1 18 (by decide)
      have hlt : k < C.length := by omega
      have htk : (C.take (k + 1)).length = k + 1 := by rw [List.length_take]; omega
      have hcl := C1.2.1
      rw [List.length_append, htk] at hcl
      have hrow := C1.2.2 k (by rw [List.length_append, htk]; omega)
      have hget : (C.take (k + 1) ++ ck_nov (s 18) (C.drop (k + 1))).getD k ck_0 = C.getD k ck_0 := by
        simp only [List.getD, List.getElem?_append_left (show k < (C.take (k + 1)).length by omega), List.getElem?_take]
        rw [if_pos (by omega)]
      rw [hget] at hrow
      have hov := xd_over_c (s := s1) hrow
      rw [e18] at hov
      rw [show ((k + 1 : Nat) : Int) - 1 = k by omega]
      have hd := ck_getD hlt
      refine xe_s (f := (8, _, _, _)) xt_g310 rfl rfl rfl rfl rfl ?_
      refine xe_if_lt xt_g310 rfl (t := 30) rfl (q := 11) rfl (by first | omega | exact hw.1 _ | exact hw.2 _ _ | exact xb_r _) (fun h8 => ?_) (fun h8 => ?_)
      · exact absurd h8 (by omega)
      · try simp only [xb_0, xb_1, ne_eq, Decidable.not_not, decide_eq_true_eq, decide_eq_false_iff_not] at h8
        refine xe_s (f := (12, _, _, _)) xt_g310 rfl rfl rfl rfl rfl ?_
        refine xe_s (f := (13, _, _, _)) xt_g310 rfl rfl rfl rfl rfl ?_
        refine xe_cvI xt_g310 rfl (q := 16) rfl xk_13_278 rfl (by omega) xt_g287 (by decide) ⟨Nat.le_of_ble_eq_true rfl, Nat.le_of_ble_eq_true rfl, Nat.le_of_ble_eq_true rfl⟩ (xv_isOver fm hmn w1 (by omega)) ?_
        rw [hov]
        refine xe_if_eq xt_g310 rfl (t := 24) rfl (q := 19) rfl (by first | omega | exact hw.1 _ | exact hw.2 _ _ | exact xb_r _) (fun h16 => ?_) (fun h16 => ?_)
        · try simp only [xb_0, xb_1, ne_eq, Decidable.not_not, decide_eq_true_eq, decide_eq_false_iff_not] at h16
          refine xe_iinc xt_g310 rfl (q := 27) rfl rfl (by decide) (L1 := [(3, _), (0, _), (1, _), (2, _)]) rfl ?_
          refine xe_s (f := (7, _, _, _)) xt_g310 rfl rfl rfl rfl rfl ?_
          refine ih s1 ar1 (by omega) w1 B1 q1 ?_
          have e : C.take k ++ ck_nov (s 18) (C.drop k) = C.take (k + 1) ++ ck_nov (s 18) (C.drop (k + 1)) := by
            rw [hd]
            unfold ck_nov
            rw [List.filter_cons_of_pos (by rw [h16]; rfl), List.take_succ_eq_append_getElem hlt, List.append_assoc, show C[k] = C.getD k ck_0 by simp [List.getD, hlt]]
            rfl
          rw [e]
          exact C1
        · try simp only [xb_0, xb_1, ne_eq, Decidable.not_not, decide_eq_true_eq, decide_eq_false_iff_not] at h16
          refine xe_s (f := (20, _, _, _)) xt_g310 rfl rfl rfl rfl rfl ?_
          refine xe_s (f := (21, _, _, _)) xt_g310 rfl rfl rfl rfl rfl ?_
          refine xe_chV xt_g310 rfl (q := 24) rfl xk_13_281 rfl (by omega) xt_g311 (by decide) ⟨Nat.le_of_ble_eq_true rfl, Nat.le_of_ble_eq_true rfl, Nat.le_of_ble_eq_true rfl⟩ (xU_drop fm hmn w1 B1 C1 (i := k) (by omega) (by rw [List.length_append, htk]; omega)) (fun s2 ar2 hp2 => ?_)
          refine xe_iinc xt_g310 rfl (q := 27) rfl rfl (by decide) (L1 := [(3, _), (0, _), (1, _), (2, _)]) rfl ?_
          refine xe_s (f := (7, _, _, _)) xt_g310 rfl rfl rfl rfl rfl ?_
          obtain ⟨e2, w2, B2, q2, C2, _⟩ := hp2
          refine ih s2 ar2 (by omega) w2 B2 (xq_t q1 q2) ?_
          have e : C.take k ++ ck_nov (s 18) (C.drop k) = (C.take (k + 1) ++ ck_nov (s 18) (C.drop (k + 1))).eraseIdx (k : Int).toNat := by
            rw [hd, Int.toNat_natCast, List.eraseIdx_append_of_lt_length (by omega)]
            unfold ck_nov
            rw [List.filter_cons_of_neg (by rw [show ck_io (s 18) (C.getD k ck_0) = true by simpa using h16]; decide)]
            congr 1
            rw [List.take_succ_eq_append_getElem hlt, List.eraseIdx_append_of_length_le (by rw [List.length_take]; omega), List.length_take, Nat.min_eq_left (by omega), Nat.sub_self]
            simp
          rw [e]
          exact C2
  have g19 := hC.1
  have h := loop C.length s ar (Nat.le_refl _) hw hB xq_r (by rw [List.take_of_length_le (Nat.le_refl _), List.drop_of_length_le (Nat.le_refl _)]; simpa [ck_nov] using hC)
  refine xe_s (f := (1, _, _, _)) xt_g310 rfl rfl rfl rfl rfl ?_
  refine xe_mgs xt_g310 rfl (q := 4) rfl (xf_13_265 fm) (by decide) rfl (by omega) ?_
  rw [g19]
  refine xe_s (f := (5, _, xi 1 :: _, _)) xt_g310 rfl rfl rfl rfl rfl ?_
  refine xe_isub xt_g310 rfl (q := 6) rfl ?_
  refine xe_s (f := (7, [(3, _), (0, _), (1, _), (2, _)], _, _)) xt_g310 rfl rfl rfl rfl rfl ?_
  exact xe_loc (by intro q hq; simp only [List.mem_cons, List.not_mem_nil, or_false] at hq; rcases hq with rfl | rfl | rfl | rfl <;> rfl) (h)
end XSC
