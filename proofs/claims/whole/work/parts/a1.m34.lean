/-! the reference: readAttributes, readPair -/
def at_0 : at_T := (none, none, none, false, false)
def at_e (t : Int → Int) (E k : Int) : Int := pa_fd t 59 (E - (k + 1)).toNat (k + 1)
def at_i (t : Int → Int) (E k : Int) : Int := pa_fd t 61 (at_e t E k - (k + 1)).toNat (k + 1)
def at_K (t : Int → Int) (E k : Int) : List Int := (tr_m t (k + 1) (at_i t E k)).map xd_sml
def at_V (t : Int → Int) (E k : Int) : List Int := tr_m t (if at_i t E k < at_e t E k then at_i t E k + 1 else at_e t E k) (at_e t E k)
def at_lp (t : Int → Int) (E : Int) : Nat → Int → at_T → at_T
  | 0, _, a => a
  | F + 1, k, a => if k < E then at_lp t E F (at_e t E k) (at_one (at_K t E k) (at_V t E k) a) else a
theorem at_rel_q {S A : List Nat} {s s1 : Nat → Int} {ar ar1 : Nat → Nat → Int} {a : at_T} (h : at_rel s ar a) (q : xq S A s ar s1 ar1) (hS : S.all (fun k => decide (37 < k)) = true) (hA : A.all (fun k => decide (32 < k ∨ (1 < k ∧ k < 30))) = true) : at_rel s1 ar1 a := by
  have fS : ∀ k, k ≤ 37 → s1 k = s k := fun k hk => q.1 k (fun h => by have := of_decide_eq_true (List.all_eq_true.mp hS k h); omega)
  have fA : ∀ k, k = 1 ∨ k = 30 ∨ k = 31 ∨ k = 32 → ar1 k = ar k := fun k hk => q.2 k (fun h => by have := of_decide_eq_true (List.all_eq_true.mp hA k h); omega)
  have t1 : xd_at s1 ar1 = xd_at s ar := by
    funext k
    unfold xd_at
    rw [fS 2 (by decide), fA 1 (by decide)]
  obtain ⟨d1, d2, d3, d4, d5⟩ := h
  refine ⟨?_, ?_, ?_, by rw [fA 30 (by decide)]; exact d4, by rw [fA 31 (by decide)]; exact d5⟩
  · cases h : a.1 with
    | none => rw [h] at d1; exact (fS 33 (by decide)).trans d1
    | some d => rw [h] at d1; exact ⟨(fS 33 (by decide)).trans d1.1, d1.2.1, d1.2.2.1, by rw [fA 32 (by decide)]; exact d1.2.2.2⟩
  · cases h : a.2.1 with
    | none => rw [h] at d2; exact (fS 34 (by decide)).trans d2
    | some d =>
      rw [h] at d2
      refine ⟨?_, ?_, ?_, ?_⟩
      · rw [fS 34 (by decide)]; exact d2.1
      · rw [fS 34 (by decide), fS 35 (by decide)]; exact d2.2.1
      · rw [fS 35 (by decide), fS 2 (by decide)]; exact d2.2.2.1
      · rw [t1, fS 34 (by decide), fS 35 (by decide)]; exact d2.2.2.2
  · cases h : a.2.2.1 with
    | none => rw [h] at d3; exact (fS 37 (by decide)).trans d3
    | some d => rw [h] at d3; exact ⟨(fS 37 (by decide)).trans d3.1, (fS 36 (by decide)).trans d3.2.1, d3.2.2⟩
theorem xd_lok_q {S A : List Nat} {s s1 : Nat → Int} {ar ar1 : Nat → Nat → Int} (h : xd_lok s ar) (q : xq S A s ar s1 ar1) (h2 : 2 ∉ S) (h1 : 1 ∉ A) : xd_lok s1 ar1 := by
  intro k a b
  rw [q.2 1 h1]
  exact h k a (by rw [q.1 2 h2] at b; exact b)
def xd_PA (s : Nat → Int) (ar : Nat → Nat → Int) (a : at_T) (s' : Nat → Int) (ar' : Nat → Nat → Int) : Prop := xo_wf s' ar' ∧ xo_B ar' ∧ xq [33, 34, 35, 36, 37, 38, 39] [30, 31, 32] s ar s' ar' ∧ ck_keep ar ar' ∧ at_rel s' ar' a
section XRA
variable (fm : Value) {m n : Nat} {h0 : xm_H} {s : Nat → Int} {ar : Nat → Nat → Int}
theorem xU_readAttributes (hmn : xo_in m n) (hw : xo_wf s ar) (hB : xo_B ar) (hl : xd_lok s ar) (h2 : 0 ≤ s 2 ∧ s 2 ≤ 160) {e0 : Int} (h01 : 0 ≤ e0) (h02 : e0 ≤ s 2) : xU fm 316 m n h0 s ar [.ref m, xi e0] (xd_PA s ar (at_lp (xd_at s ar) (s 2) (s 2 + 1).toNat e0 at_0)) := by
  show xe fm 316 (0, [(0, .ref m), (1, xi e0)], [], (xo m s ar h0, n, 0, 0)) _
  generalize hR : at_lp (xd_at s ar) (s 2) (s 2 + 1).toNat e0 at_0 = R
  have loop : ∀ (F : Nat) (k : Int) (a : at_T) (s1 : Nat → Int) (ar1 : Nat → Nat → Int), 0 ≤ k → k ≤ s 2 → s 2 - k < F → at_lp (xd_at s ar) (s 2) F k a = R → xo_wf s1 ar1 → xo_B ar1 → xq [33, 34, 35, 36, 37, 38, 39] [30, 31, 32] s ar s1 ar1 → ck_keep ar ar1 → at_rel s1 ar1 a → xe fm 316 (33, [(2, xi k), (0, .ref m), (1, xi e0)], [], (xo m s1 ar1 h0, n, 0, 0)) (xQU m n h0 (xd_PA s ar R)) := by
    intro F
    induction F with
    | zero => intro k a s1 ar1 hk0 hk hF; omega
    | succ F ih =>
      intro k a s1 ar1 hk0 hk hF hRk w1 B1 q1 k1 r1
      have i2 : s1 2 = s 2 := q1.1 2 (by decide)
      have t1 : xd_at s1 ar1 = xd_at s ar := xq_at q1 (by decide) (by decide)
      have l1 := xd_lok_q hl q1 (by decide) (by decide)
      rw [at_lp] at hRk
      by_cases hkE : k < s 2
      · rw [if_pos hkE] at hRk
        have he := pa_fd_r (t := xd_at s ar) (c := 59) (s 2 - (k + 1)).toNat (k + 1)
        have he' : k + 1 ≤ at_e (xd_at s ar) (s 2) k ∧ at_e (xd_at s ar) (s 2) k ≤ s 2 := by unfold at_e; omega
        have hi := pa_fd_r (t := xd_at s ar) (c := 61) (at_e (xd_at s ar) (s 2) k - (k + 1)).toNat (k + 1)
        have hi' : k + 1 ≤ at_i (xd_at s ar) (s 2) k ∧ at_i (xd_at s ar) (s 2) k ≤ at_e (xd_at s ar) (s 2) k := by unfold at_i; omega
        have c1 := xv_find1 fm hmn (h0 := h0) w1 (c := 59) (b := k + 1) (e := s 2) (by omega) (by omega) (by omega) (by omega) (by omega)
        rw [t1] at c1
        have c2 := xv_find1 fm hmn (h0 := h0) w1 (c := 61) (b := k + 1) (e := at_e (xd_at s ar) (s 2) k) (by omega) (by omega) (by omega) (by omega) (by omega)
        rw [t1] at c2
        have c3 := xv_keyOf fm hmn (h0 := h0) w1 l1 (b := k + 1) (e := at_i (xd_at s ar) (s 2) k) (by omega) (by omega) (by omega) (by omega)
        rw [t1] at c3
        have hky : ky_ok (at_K (xd_at s ar) (s 2) k) := by
          have hr := tr_r (t := xd_at s ar) (b := k + 1) (e := at_i (xd_at s ar) (s 2) k) (by omega)
          exact tr_ky hl (by omega) (by omega) (by omega)
        generalize hS2 : xo_u (xo_u s1 38 (tr_f (xd_at s ar) (k + 1) (at_i (xd_at s ar) (s 2) k))) 39 (tr_t (xd_at s ar) (k + 1) (at_i (xd_at s ar) (s 2) k)) = S2 at c3
        have q2 : xq [38, 39] [] s1 ar1 S2 ar1 := by
          rw [← hS2]
          exact xq_u (xq_u xq_r (by decide)) (by decide)
        have w2 : xo_wf S2 ar1 := by
          have hr := tr_r (t := xd_at s ar) (b := k + 1) (e := at_i (xd_at s ar) (s 2) k) (by omega)
          rw [← hS2]
          exact xo_wf_u (xo_wf_u w1 (by omega)) (by omega)
        have t2 : xd_at S2 ar1 = xd_at s ar := (xq_at q2 (by decide) (by decide)).trans t1
        have i22 : S2 2 = s 2 := (q2.1 2 (by decide)).trans i2
        have main : ∀ z : Int, z = (if at_i (xd_at s ar) (s 2) k < at_e (xd_at s ar) (s 2) k then at_i (xd_at s ar) (s 2) k + 1 else at_e (xd_at s ar) (s 2) k) → xe fm 316 (93, [(5, xl (ky_of (at_K (xd_at s ar) (s 2) k))), (4, xi (at_i (xd_at s ar) (s 2) k)), (3, xi (at_e (xd_at s ar) (s 2) k)), (2, xi k), (0, .ref m), (1, xi e0)], [xi z, .ref m], (xo m S2 ar1 h0, n, 0, 0)) (xQU m n h0 (xd_PA s ar R)) := by
          intro z hz
          have hz1 : 0 ≤ z ∧ z ≤ at_e (xd_at s ar) (s 2) k := by
            rw [hz]
            split <;> omega
          have c4 := xv_trim1 fm hmn (h0 := h0) w2 (b := z) (e := at_e (xd_at s ar) (s 2) k) hz1.1 hz1.2 (by omega) (by omega)
          rw [t2] at c4
          have hr := tr_r (t := xd_at s ar) (b := z) (e := at_e (xd_at s ar) (s 2) k) hz1.2
          have w3 : xo_wf (xo_u (xo_u S2 38 (tr_f (xd_at s ar) z (at_e (xd_at s ar) (s 2) k))) 39 (tr_t (xd_at s ar) z (at_e (xd_at s ar) (s 2) k))) ar1 := xo_wf_u (xo_wf_u w2 (by omega)) (by omega)
          have q3 : xq [38, 39] [] s1 ar1 (xo_u (xo_u S2 38 (tr_f (xd_at s ar) z (at_e (xd_at s ar) (s 2) k))) 39 (tr_t (xd_at s ar) z (at_e (xd_at s ar) (s 2) k))) ar1 := xq_u (xq_u q2 (by decide)) (by decide)
          have c5 := xU_takeAttribute fm hmn (h0 := h0) w3 B1 hky (at_rel_q r1 q3 (by decide) (by decide)) (show S2 2 ≤ 160 by omega) (show 0 ≤ tr_f (xd_at s ar) z (at_e (xd_at s ar) (s 2) k) by omega) (show tr_f (xd_at s ar) z (at_e (xd_at s ar) (s 2) k) ≤ tr_t (xd_at s ar) z (at_e (xd_at s ar) (s 2) k) by omega) (show tr_t (xd_at s ar) z (at_e (xd_at s ar) (s 2) k) ≤ S2 2 by omega)
          have eV : pa_sl (xd_at (xo_u (xo_u S2 38 (tr_f (xd_at s ar) z (at_e (xd_at s ar) (s 2) k))) 39 (tr_t (xd_at s ar) z (at_e (xd_at s ar) (s 2) k))) ar1) (xo_u (xo_u S2 38 (tr_f (xd_at s ar) z (at_e (xd_at s ar) (s 2) k))) 39 (tr_t (xd_at s ar) z (at_e (xd_at s ar) (s 2) k)) 38) (xo_u (xo_u S2 38 (tr_f (xd_at s ar) z (at_e (xd_at s ar) (s 2) k))) 39 (tr_t (xd_at s ar) z (at_e (xd_at s ar) (s 2) k)) 39) = at_V (xd_at s ar) (s 2) k := by
            rw [xq_at q3 (by decide) (by decide), t1]
            unfold at_V tr_m
            rw [← hz]
            rfl
          rw [eV] at c5
          refine xe_s (f := (94, _, _, _)) xt_g316 rfl rfl rfl rfl rfl ?_
          refine xe_cvV xt_g316 rfl (q := 97) rfl xk_13_304 rfl (by omega) xt_g315 (by decide) ⟨Nat.le_of_ble_eq_true rfl, Nat.le_of_ble_eq_true rfl, Nat.le_of_ble_eq_true rfl⟩ (c4) ?_
          refine xe_s (f := (98, _, _, _)) xt_g316 rfl rfl rfl rfl rfl ?_
          refine xe_s (f := (100, _, _, _)) xt_g316 rfl rfl rfl rfl rfl ?_
          refine xe_chV xt_g316 rfl (q := 103) rfl xk_13_320 rfl (by omega) xt_g318 (by decide) ⟨Nat.le_of_ble_eq_true rfl, Nat.le_of_ble_eq_true rfl, Nat.le_of_ble_eq_true rfl⟩ (c5) (fun s4 ar4 hp4 => ?_)
          refine xe_s (f := (104, _, _, _)) xt_g316 rfl rfl rfl rfl rfl ?_
          refine xe_s (f := (105, [(2, _), (5, _), (4, _), (3, _), (0, _), (1, _)], _, _)) xt_g316 rfl rfl rfl rfl rfl ?_
          refine xe_s (f := (33, _, _, _)) xt_g316 rfl rfl rfl rfl rfl ?_
          obtain ⟨w4, B4, q4, k4, r4⟩ := hp4
          exact xe_loc (by intro q hq; simp only [List.mem_cons, List.not_mem_nil, or_false] at hq; rcases hq with rfl | rfl | rfl <;> rfl) (ih (at_e (xd_at s ar) (s 2) k) _ s4 ar4 (by omega) (by omega) (by omega) hRk w4 B4 (xq_t (xq_t q1 (xq_mm q3 (by decide) (by decide))) (xq_mm q4 (by decide) (by decide))) (ck_keep_t k1 k4) r4)
        refine xe_s (f := (34, _, _, _)) xt_g316 rfl rfl rfl rfl rfl ?_
        refine xe_s (f := (35, _, _, _)) xt_g316 rfl rfl rfl rfl rfl ?_
        refine xe_mgs xt_g316 rfl (q := 38) rfl (xf_13_149 fm) (by decide) rfl (by omega) ?_
        try simp only [xo_u, xo_w, Nat.reduceEqDiff, reduceIte, false_and, true_and]
        rw [i2]
        refine xe_ic_ge xt_g316 rfl (t := 108) rfl (q := 41) rfl (by first | omega | exact hw.1 _ | exact hw.2 _ _ | exact xb_r _) (by first | omega | exact hw.1 _ | exact hw.2 _ _ | exact xb_r _) (fun h38 => ?_) (fun h38 => ?_)
        · exact absurd h38 (by omega)
        · refine xe_s (f := (42, _, _, _)) xt_g316 rfl rfl rfl rfl rfl ?_
          refine xe_bipush xt_g316 rfl (q := 44) rfl (by decide) (by decide) ?_
          refine xe_s (f := (45, _, _, _)) xt_g316 rfl rfl rfl rfl rfl ?_
          refine xe_s (f := (46, _, xi 1 :: _, _)) xt_g316 rfl rfl rfl rfl rfl ?_
          refine xe_iadd xt_g316 rfl (q := 47) rfl ?_
          refine xe_s (f := (48, _, _, _)) xt_g316 rfl rfl rfl rfl rfl ?_
          refine xe_mgs xt_g316 rfl (q := 51) rfl (xf_13_149 fm) (by decide) rfl (by omega) ?_
          try simp only [xo_u, xo_w, Nat.reduceEqDiff, reduceIte, false_and, true_and]
          rw [i2]
          refine xe_cvI xt_g316 rfl (q := 54) rfl xk_13_284 rfl (by omega) xt_g313 (by decide) ⟨Nat.le_of_ble_eq_true rfl, Nat.le_of_ble_eq_true rfl, Nat.le_of_ble_eq_true rfl⟩ (c1) ?_
          refine xe_s (f := (55, [(3, _), (2, _), (0, _), (1, _)], _, _)) xt_g316 rfl rfl rfl rfl rfl ?_
          show xe fm 316 (55, [(3, xi (at_e (xd_at s ar) (s 2) k)), (2, xi k), (0, .ref m), (1, xi e0)], [], (xo m s1 ar1 h0, n, 0, 0)) _
          refine xe_s (f := (56, _, _, _)) xt_g316 rfl rfl rfl rfl rfl ?_
          refine xe_bipush xt_g316 rfl (q := 58) rfl (by decide) (by decide) ?_
          refine xe_s (f := (59, _, _, _)) xt_g316 rfl rfl rfl rfl rfl ?_
          refine xe_s (f := (60, _, xi 1 :: _, _)) xt_g316 rfl rfl rfl rfl rfl ?_
          refine xe_iadd xt_g316 rfl (q := 61) rfl ?_
          refine xe_s (f := (62, _, _, _)) xt_g316 rfl rfl rfl rfl rfl ?_
          refine xe_cvI xt_g316 rfl (q := 65) rfl xk_13_284 rfl (by omega) xt_g313 (by decide) ⟨Nat.le_of_ble_eq_true rfl, Nat.le_of_ble_eq_true rfl, Nat.le_of_ble_eq_true rfl⟩ (c2) ?_
          refine xe_s (f := (67, [(4, _), (3, _), (2, _), (0, _), (1, _)], _, _)) xt_g316 rfl rfl rfl rfl rfl ?_
          show xe fm 316 (67, [(4, xi (at_i (xd_at s ar) (s 2) k)), (3, xi (at_e (xd_at s ar) (s 2) k)), (2, xi k), (0, .ref m), (1, xi e0)], [], (xo m s1 ar1 h0, n, 0, 0)) _
          refine xe_s (f := (68, _, _, _)) xt_g316 rfl rfl rfl rfl rfl ?_
          refine xe_s (f := (69, _, _, _)) xt_g316 rfl rfl rfl rfl rfl ?_
          refine xe_s (f := (70, _, xi 1 :: _, _)) xt_g316 rfl rfl rfl rfl rfl ?_
          refine xe_iadd xt_g316 rfl (q := 71) rfl ?_
          refine xe_s (f := (73, _, _, _)) xt_g316 rfl rfl rfl rfl rfl ?_
          refine xe_cvL xt_g316 rfl (q := 76) rfl xk_13_316 rfl (by omega) xt_g317 (by decide) ⟨Nat.le_of_ble_eq_true rfl, Nat.le_of_ble_eq_true rfl, Nat.le_of_ble_eq_true rfl⟩ (c3) ?_
          refine xe_s (f := (78, [(5, _), (4, _), (3, _), (2, _), (0, _), (1, _)], _, _)) xt_g316 rfl rfl rfl rfl rfl ?_
          refine xe_s (f := (79, _, _, _)) xt_g316 rfl rfl rfl rfl rfl ?_
          refine xe_s (f := (81, _, _, _)) xt_g316 rfl rfl rfl rfl rfl ?_
          refine xe_s (f := (82, _, _, _)) xt_g316 rfl rfl rfl rfl rfl ?_
          refine xe_ic_ge xt_g316 rfl (t := 92) rfl (q := 85) rfl (by first | omega | exact hw.1 _ | exact hw.2 _ _ | exact xb_r _) (by first | omega | exact hw.1 _ | exact hw.2 _ _ | exact xb_r _) (fun h82 => ?_) (fun h82 => ?_)
          · refine xe_s (f := (93, _, _, _)) xt_g316 rfl rfl rfl rfl rfl ?_
            exact main _ (by rw [if_neg (by omega)])
          · refine xe_s (f := (87, _, _, _)) xt_g316 rfl rfl rfl rfl rfl ?_
            refine xe_s (f := (88, _, xi 1 :: _, _)) xt_g316 rfl rfl rfl rfl rfl ?_
            refine xe_iadd xt_g316 rfl (q := 89) rfl ?_
            refine xe_s (f := (93, _, _, _)) xt_g316 rfl rfl rfl rfl rfl ?_
            exact main _ (by rw [if_pos (by omega)])
      · rw [if_neg hkE] at hRk
        refine xe_s (f := (34, _, _, _)) xt_g316 rfl rfl rfl rfl rfl ?_
        refine xe_s (f := (35, _, _, _)) xt_g316 rfl rfl rfl rfl rfl ?_
        refine xe_mgs xt_g316 rfl (q := 38) rfl (xf_13_149 fm) (by decide) rfl (by omega) ?_
        try simp only [xo_u, xo_w, Nat.reduceEqDiff, reduceIte, false_and, true_and]
        rw [i2]
        refine xe_ic_ge xt_g316 rfl (t := 108) rfl (q := 41) rfl (by first | omega | exact hw.1 _ | exact hw.2 _ _ | exact xb_r _) (by first | omega | exact hw.1 _ | exact hw.2 _ _ | exact xb_r _) (fun h38 => ?_) (fun h38 => ?_)
        · refine xe_ret xt_g316 rfl rfl ?_
          rw [← hRk]
          exact ⟨_, _, rfl, rfl, w1, B1, q1, k1, r1⟩
        · exact absurd h38 (by omega)
  refine xe_s (f := (1, _, _, _)) xt_g316 rfl rfl rfl rfl rfl ?_
  refine xe_s (f := (2, _, xi (-1) :: _, _)) xt_g316 rfl rfl rfl rfl rfl ?_
  refine xe_mps xt_g316 rfl (q := 5) rfl (xf_13_307 fm) (by decide) rfl (by omega) (by omega) xi_int (Or.inl rfl) ?_
  refine xe_s (f := (6, _, _, _)) xt_g316 rfl rfl rfl rfl rfl ?_
  refine xe_s (f := (7, _, xi (-1) :: _, _)) xt_g316 rfl rfl rfl rfl rfl ?_
  refine xe_mps xt_g316 rfl (q := 10) rfl (xf_13_310 fm) (by decide) rfl (by omega) (by omega) xi_int (Or.inl rfl) ?_
  refine xe_s (f := (11, _, _, _)) xt_g316 rfl rfl rfl rfl rfl ?_
  refine xe_s (f := (12, _, xi 0 :: _, _)) xt_g316 rfl rfl rfl rfl rfl ?_
  refine xe_mps xt_g316 rfl (q := 15) rfl (xf_13_313 fm) (by decide) rfl (by omega) (by omega) (xi_bool (by omega)) (Or.inl rfl) ?_
  refine xe_s (f := (16, _, _, _)) xt_g316 rfl rfl rfl rfl rfl ?_
  refine xe_mga xt_g316 rfl (q := 19) rfl (xf_13_68 fm) (by decide) rfl (by omega) ?_
  try simp only [xo_u, xo_w, Nat.reduceEqDiff, reduceIte, false_and, true_and]
  refine xe_bipush xt_g316 rfl (q := 21) rfl (by decide) (by decide) ?_
  refine xe_s (f := (22, _, xi 0 :: _, _)) xt_g316 rfl rfl rfl rfl rfl ?_
  refine xe_mas (ok := xm_isB) (ty := .boolean) xt_g316 rfl (q := 23) rfl (fun _ _ => ⟨rfl, rfl, rfl, rfl⟩) rfl rfl rfl (by omega) (by omega) (by omega) (by omega) (by omega) (xi_nb (by first | omega | exact xb_or _)) ?_
  refine xe_s (f := (24, _, _, _)) xt_g316 rfl rfl rfl rfl rfl ?_
  refine xe_mga xt_g316 rfl (q := 27) rfl (xf_13_71 fm) (by decide) rfl (by omega) ?_
  try simp only [xo_u, xo_w, Nat.reduceEqDiff, reduceIte, false_and, true_and]
  refine xe_bipush xt_g316 rfl (q := 29) rfl (by decide) (by decide) ?_
  refine xe_s (f := (30, _, xi 0 :: _, _)) xt_g316 rfl rfl rfl rfl rfl ?_
  refine xe_mas (ok := xm_isB) (ty := .boolean) xt_g316 rfl (q := 31) rfl (fun _ _ => ⟨rfl, rfl, rfl, rfl⟩) rfl rfl rfl (by omega) (by omega) (by omega) (by omega) (by omega) (xi_nb (by first | omega | exact xb_or _)) ?_
  refine xe_s (f := (32, _, _, _)) xt_g316 rfl rfl rfl rfl rfl ?_
  refine xe_s (f := (33, [(2, _), (0, _), (1, _)], _, _)) xt_g316 rfl rfl rfl rfl rfl ?_
  exact loop (s 2 + 1).toNat e0 at_0 _ _ h01 h02 (by omega) hR (xo_wf_w (xo_wf_w (xo_wf_u (xo_wf_u (xo_wf_u hw (by omega)) (by omega)) (by omega)) (by omega)) (by omega)) (xo_B_w (xo_B_w hB (fun _ => Or.inl rfl)) (fun _ => Or.inl rfl)) (xq_w (xq_w (xq_u (xq_u (xq_u xq_r (by decide)) (by decide)) (by decide)) (by decide)) (by decide)) (ck_keep_b (ck_keep_b ck_keep_r (by omega)) (by omega)) ⟨rfl, rfl, rfl, rfl, rfl⟩
def ck_pair (t : Int → Int) (en : Int) : Option (List Int × List Int) := if pa_fd t 61 en.toNat 0 = en then none else if tr_m t 0 (pa_fd t 61 en.toNat 0) = [] ∨ 12 < (tr_m t 0 (pa_fd t 61 en.toNat 0)).length ∨ 12 < (tr_m t (pa_fd t 61 en.toNat 0 + 1) en).length then none else some (tr_m t 0 (pa_fd t 61 en.toNat 0), tr_m t (pa_fd t 61 en.toNat 0 + 1) en)
def xd_PP2 (s : Nat → Int) (ar : Nat → Nat → Int) (r : Option (List Int × List Int)) (z : Int) (s' : Nat → Int) (ar' : Nat → Nat → Int) : Prop := xo_wf s' ar' ∧ xo_B ar' ∧ xq [38, 39] [20, 21, 24, 25] s ar s' ar' ∧ ck_keep ar ar' ∧ (r = none → z = 0) ∧ ∀ p, r = some p → z = 1 ∧ ck_txt ar' 24 20 12 41 p.1 ∧ ck_txt ar' 25 21 12 41 p.2
theorem xV_readPair (hmn : xo_in m n) (hw : xo_wf s ar) (hB : xo_B ar) (h2 : 0 ≤ s 2 ∧ s 2 ≤ 160) {en : Int} (h01 : 0 ≤ en) (h02 : en ≤ s 2) : xV fm 314 m n h0 s ar [.ref m, xi en] (xd_PP2 s ar (ck_pair (xd_at s ar) en)) := by
  show xe fm 314 (0, [(0, .ref m), (1, xi en)], [], (xo m s ar h0, n, 0, 0)) _
  have he := pa_fd_r (t := xd_at s ar) (c := 61) en.toNat 0
  have c1 := xv_find1 fm hmn (h0 := h0) hw (c := 61) (b := 0) (e := en) (by omega) (by omega) (by omega) (by omega) (by omega)
  rw [Int.sub_zero] at c1
  generalize hR : ck_pair (xd_at s ar) en = R
  unfold ck_pair at hR
  generalize pa_fd (xd_at s ar) 61 en.toNat 0 = e at *
  have hr1 := tr_r (t := xd_at s ar) (b := 0) (e := e) (by omega)
  generalize hf1 : tr_f (xd_at s ar) 0 e = f1 at *
  generalize hg1 : tr_t (xd_at s ar) 0 e = g1 at *
  have n1 : (tr_m (xd_at s ar) 0 e).length = (g1 - f1).toNat := by
    unfold tr_m
    rw [pa_sl_len, hf1, hg1]
  have m1 : tr_m (xd_at s ar) 0 e = pa_sl (xd_at s ar) f1 g1 := by
    unfold tr_m
    rw [hf1, hg1]
  -- the value
  have val : e ≠ en → tr_m (xd_at s ar) 0 e ≠ [] → (tr_m (xd_at s ar) 0 e).length ≤ 12 → ∀ (s1 : Nat → Int) (ar1 : Nat → Nat → Int) (v3 : Int), xo_wf s1 ar1 → xo_B ar1 → xq [38, 39] [20, 21, 24, 25] s ar s1 ar1 → ck_keep ar ar1 → ck_txt ar1 24 20 12 41 (tr_m (xd_at s ar) 0 e) → xe fm 314 (105, [(3, xi v3), (2, xi e), (0, .ref m), (1, xi en)], [], (xo m s1 ar1 h0, n, 0, 0)) (xQI m n h0 (xd_PP2 s ar R)) := by
    intro hne hN0 hN12 s1 ar1 v3 w1 B1 q1 k1 x1
    rw [if_neg hne] at hR
    have t1 : xd_at s1 ar1 = xd_at s ar := xq_at q1 (by decide) (by decide)
    have i2 : s1 2 = s 2 := q1.1 2 (by decide)
    have c2 := xv_trim1 fm hmn (h0 := h0) w1 (b := e + 1) (e := en) (by omega) (by omega) (by omega) (by omega)
    rw [t1] at c2
    have hr2 := tr_r (t := xd_at s ar) (b := e + 1) (e := en) (by omega)
    generalize hf2 : tr_f (xd_at s ar) (e + 1) en = f2 at *
    generalize hg2 : tr_t (xd_at s ar) (e + 1) en = g2 at *
    have n2 : (tr_m (xd_at s ar) (e + 1) en).length = (g2 - f2).toNat := by
      unfold tr_m
      rw [pa_sl_len, hf2, hg2]
    have m2 : tr_m (xd_at s ar) (e + 1) en = pa_sl (xd_at s ar) f2 g2 := by
      unfold tr_m
      rw [hf2, hg2]
    have w2 : xo_wf (xo_u (xo_u s1 38 f2) 39 g2) ar1 := xo_wf_u (xo_wf_u w1 (by omega)) (by omega)
    have q2 : xq [38, 39] [20, 21, 24, 25] s ar (xo_u (xo_u s1 38 f2) 39 g2) ar1 := xq_u (xq_u q1 (by decide)) (by decide)
    have loop : g2 - f2 ≤ 12 → ∀ (N : Nat) (k : Int) (ar2 : Nat → Nat → Int), f2 ≤ k → k + N = g2 → xo_wf (xo_u (xo_u s1 38 f2) 39 g2) ar2 → xo_B ar2 → xq [38, 39] [20, 21, 24, 25] s ar (xo_u (xo_u s1 38 f2) 39 g2) ar2 → ck_keep ar ar2 → ck_txt ar2 24 20 12 41 (tr_m (xd_at s ar) 0 e) → ar2 25 41 = g2 - f2 → xh (ar2 21) 492 (pa_sl (xd_at s ar) f2 k) → xe fm 314 (150, [(3, xi k), (2, xi e), (0, .ref m), (1, xi en)], [], (xo m (xo_u (xo_u s1 38 f2) 39 g2) ar2 h0, n, 0, 0)) (xQI m n h0 (xd_PP2 s ar R)) := by
      intro h12 N
      induction N with
      | zero =>
        intro k ar2 hk hN W Bq Q Kk X1 z25 hx
        rw [show k = g2 by omega] at hx
        have hno : ¬ (tr_m (xd_at s ar) 0 e = [] ∨ 12 < (tr_m (xd_at s ar) 0 e).length ∨ 12 < (tr_m (xd_at s ar) (e + 1) en).length) := by
          rintro (h | h | h)
          · exact hN0 h
          · omega
          · omega
        rw [if_neg hno] at hR
        refine xe_s (f := (151, _, _, _)) xt_g314 rfl rfl rfl rfl rfl ?_
        refine xe_s (f := (152, _, _, _)) xt_g314 rfl rfl rfl rfl rfl ?_
        refine xe_mgs xt_g314 rfl (q := 155) rfl (xf_13_275 fm) (by decide) rfl (by omega) ?_
        try simp only [xo_u, xo_w, Nat.reduceEqDiff, reduceIte, false_and, true_and]
        refine xe_ic_ge xt_g314 rfl (t := 185) rfl (q := 158) rfl (by first | omega | exact hw.1 _ | exact hw.2 _ _ | exact xb_r _) (by first | omega | exact hw.1 _ | exact hw.2 _ _ | exact xb_r _) (fun h155 => ?_) (fun h155 => ?_)
        · refine xe_s (f := (186, _, xi 1 :: _, _)) xt_g314 rfl rfl rfl rfl rfl ?_
          refine xe_iret xt_g314 rfl rfl (xi_bool (by first | omega | exact xb_or _)).1 ?_
          rw [← hR]
          refine ⟨_, _, _, rfl, rfl, W, Bq, Q, Kk, fun h => (by cases h), fun p hp => ?_⟩
          cases hp
          refine ⟨rfl, X1, ?_, ?_, ?_⟩
          · show ar2 25 41 = ((tr_m (xd_at s ar) (e + 1) en).length : Int)
            rw [z25, n2]
            omega
          · show (tr_m (xd_at s ar) (e + 1) en).length ≤ 12
            omega
          · show xh (ar2 21) (12 * 41) (tr_m (xd_at s ar) (e + 1) en)
            rw [m2]
            exact hx
        · exact absurd h155 (by omega)
      | succ N ih =>
        intro k ar2 hk hN W Bq Q Kk X1 z25 hx
        have ek : ar2 1 k.toNat = xd_at s ar k := by
          rw [Q.2 1 (by decide), xd_at_in (by omega) (by omega)]
        refine xe_s (f := (151, _, _, _)) xt_g314 rfl rfl rfl rfl rfl ?_
        refine xe_s (f := (152, _, _, _)) xt_g314 rfl rfl rfl rfl rfl ?_
        refine xe_mgs xt_g314 rfl (q := 155) rfl (xf_13_275 fm) (by decide) rfl (by omega) ?_
        try simp only [xo_u, xo_w, Nat.reduceEqDiff, reduceIte, false_and, true_and]
        refine xe_ic_ge xt_g314 rfl (t := 185) rfl (q := 158) rfl (by first | omega | exact hw.1 _ | exact hw.2 _ _ | exact xb_r _) (by first | omega | exact hw.1 _ | exact hw.2 _ _ | exact xb_r _) (fun h155 => ?_) (fun h155 => ?_)
        · exact absurd h155 (by omega)
        · refine xe_s (f := (159, _, _, _)) xt_g314 rfl rfl rfl rfl rfl ?_
          refine xe_mga xt_g314 rfl (q := 162) rfl (xf_13_40 fm) (by decide) rfl (by omega) ?_
          try simp only [xo_u, xo_w, Nat.reduceEqDiff, reduceIte, false_and, true_and]
          refine xe_sipush xt_g314 rfl (q := 165) rfl (by decide) (by decide) ?_
          refine xe_s (f := (166, _, _, _)) xt_g314 rfl rfl rfl rfl rfl ?_
          refine xe_iadd xt_g314 rfl (q := 167) rfl ?_
          refine xe_s (f := (168, _, _, _)) xt_g314 rfl rfl rfl rfl rfl ?_
          refine xe_mgs xt_g314 rfl (q := 171) rfl (xf_13_272 fm) (by decide) rfl (by omega) ?_
          try simp only [xo_u, xo_w, Nat.reduceEqDiff, reduceIte, false_and, true_and]
          refine xe_isub xt_g314 rfl (q := 172) rfl ?_
          refine xe_s (f := (173, _, _, _)) xt_g314 rfl rfl rfl rfl rfl ?_
          refine xe_mga xt_g314 rfl (q := 176) rfl (xf_13_7 fm) (by decide) rfl (by omega) ?_
          try simp only [xo_u, xo_w, Nat.reduceEqDiff, reduceIte, false_and, true_and]
          refine xe_s (f := (177, _, _, _)) xt_g314 rfl rfl rfl rfl rfl ?_
          refine xe_mal (ok := xm_isN) (ty := .int) xt_g314 rfl (q := 178) rfl (fun _ _ => ⟨rfl, rfl, rfl, rfl⟩) rfl rfl rfl (by omega) (by omega) (by omega) (by omega) ?_
          try simp only [xo_u, xo_w, Nat.reduceEqDiff, reduceIte, false_and, true_and]
          refine xe_mas (ok := xm_isN) (ty := .int) xt_g314 rfl (q := 179) rfl (fun _ _ => ⟨rfl, rfl, rfl, rfl⟩) rfl rfl rfl (by omega) (by omega) (by omega) (by omega) (by omega) rfl ?_
          refine xe_iinc xt_g314 rfl (q := 182) rfl rfl (by decide) (L1 := [(3, _), (2, _), (0, _), (1, _)]) rfl ?_
          refine xe_s (f := (150, _, _, _)) xt_g314 rfl rfl rfl rfl rfl ?_
          rw [ek]
          refine ih (k + 1) _ (by omega) (by omega) (xo_wf_w W (xd_at_r hw _)) (xo_B_w Bq (fun h => absurd h (by decide))) (xq_w Q (by decide)) (ck_keep_x Kk (by omega)) ⟨by rw [xo_wK (by decide)]; exact X1.1, X1.2.1, by rw [xo_wK (by decide)]; exact X1.2.2⟩ (by rw [xo_wK (by decide)]; exact z25) ?_
          rw [pa_sl_s hk]
          exact xh_w (by rw [pa_sl_len]; omega) hx
    refine xe_s (f := (106, _, _, _)) xt_g314 rfl rfl rfl rfl rfl ?_
    refine xe_s (f := (107, _, _, _)) xt_g314 rfl rfl rfl rfl rfl ?_
    refine xe_s (f := (108, _, xi 1 :: _, _)) xt_g314 rfl rfl rfl rfl rfl ?_
    refine xe_iadd xt_g314 rfl (q := 109) rfl ?_
    refine xe_s (f := (110, _, _, _)) xt_g314 rfl rfl rfl rfl rfl ?_
    refine xe_cvV xt_g314 rfl (q := 113) rfl xk_13_304 rfl (by omega) xt_g315 (by decide) ⟨Nat.le_of_ble_eq_true rfl, Nat.le_of_ble_eq_true rfl, Nat.le_of_ble_eq_true rfl⟩ (c2) ?_
    refine xe_s (f := (114, _, _, _)) xt_g314 rfl rfl rfl rfl rfl ?_
    refine xe_mgs xt_g314 rfl (q := 117) rfl (xf_13_275 fm) (by decide) rfl (by omega) ?_
    try simp only [xo_u, xo_w, Nat.reduceEqDiff, reduceIte, false_and, true_and]
    refine xe_s (f := (118, _, _, _)) xt_g314 rfl rfl rfl rfl rfl ?_
    refine xe_mgs xt_g314 rfl (q := 121) rfl (xf_13_272 fm) (by decide) rfl (by omega) ?_
    try simp only [xo_u, xo_w, Nat.reduceEqDiff, reduceIte, false_and, true_and]
    refine xe_isub xt_g314 rfl (q := 122) rfl ?_
    refine xe_bipush xt_g314 rfl (q := 124) rfl (by decide) (by decide) ?_
    refine xe_ic_le xt_g314 rfl (t := 129) rfl (q := 127) rfl (by first | omega | exact hw.1 _ | exact hw.2 _ _ | exact xb_r _) (by first | omega | exact hw.1 _ | exact hw.2 _ _ | exact xb_r _) (fun h124 => ?_) (fun h124 => ?_)
    · refine xe_s (f := (130, _, _, _)) xt_g314 rfl rfl rfl rfl rfl ?_
      refine xe_mga xt_g314 rfl (q := 133) rfl (xf_13_52 fm) (by decide) rfl (by omega) ?_
      try simp only [xo_u, xo_w, Nat.reduceEqDiff, reduceIte, false_and, true_and]
      refine xe_bipush xt_g314 rfl (q := 135) rfl (by decide) (by decide) ?_
      refine xe_s (f := (136, _, _, _)) xt_g314 rfl rfl rfl rfl rfl ?_
      refine xe_mgs xt_g314 rfl (q := 139) rfl (xf_13_275 fm) (by decide) rfl (by omega) ?_
      try simp only [xo_u, xo_w, Nat.reduceEqDiff, reduceIte, false_and, true_and]
      refine xe_s (f := (140, _, _, _)) xt_g314 rfl rfl rfl rfl rfl ?_
      refine xe_mgs xt_g314 rfl (q := 143) rfl (xf_13_272 fm) (by decide) rfl (by omega) ?_
      try simp only [xo_u, xo_w, Nat.reduceEqDiff, reduceIte, false_and, true_and]
      refine xe_isub xt_g314 rfl (q := 144) rfl ?_
      refine xe_mas (ok := xm_isN) (ty := .int) xt_g314 rfl (q := 145) rfl (fun _ _ => ⟨rfl, rfl, rfl, rfl⟩) rfl rfl rfl (by omega) (by omega) (by omega) (by omega) (by omega) rfl ?_
      refine xe_s (f := (146, _, _, _)) xt_g314 rfl rfl rfl rfl rfl ?_
      refine xe_mgs xt_g314 rfl (q := 149) rfl (xf_13_272 fm) (by decide) rfl (by omega) ?_
      try simp only [xo_u, xo_w, Nat.reduceEqDiff, reduceIte, false_and, true_and]
      refine xe_s (f := (150, [(3, _), (2, _), (0, _), (1, _)], _, _)) xt_g314 rfl rfl rfl rfl rfl ?_
      exact loop (by omega) (g2 - f2).toNat f2 _ (Int.le_refl _) (by omega) (xo_wf_w w2 (by omega)) (xo_B_w B1 (fun h => absurd h (by decide))) (xq_w q2 (by decide)) (ck_keep_b k1 (by omega)) ⟨by rw [xo_wK (by decide)]; exact x1.1, x1.2.1, by rw [xo_wK (by decide)]; exact x1.2.2⟩ xo_wS (by rw [pa_sl_nil (Int.le_refl _)]; exact xh_nil)
    · refine xe_s (f := (128, _, xi 0 :: _, _)) xt_g314 rfl rfl rfl rfl rfl ?_
      refine xe_iret xt_g314 rfl rfl (xi_bool (by first | omega | exact xb_or _)).1 ?_
      rw [if_pos (by rw [n2]; omega)] at hR
      rw [← hR]
      exact ⟨_, _, _, rfl, rfl, w2, B1, q2, k1, fun _ => rfl, fun _ h => (by cases h)⟩
  have w1 : xo_wf (xo_u (xo_u s 38 f1) 39 g1) ar := xo_wf_u (xo_wf_u hw (by omega)) (by omega)
  have q1 : xq [38, 39] [20, 21, 24, 25] s ar (xo_u (xo_u s 38 f1) 39 g1) ar := xq_u (xq_u xq_r (by decide)) (by decide)
  have c2 := xv_trim1 fm hmn (h0 := h0) hw (b := 0) (e := e) (by omega) (by omega) (by omega) (by omega)
  rw [hf1, hg1] at c2
  have loop : e ≠ en → g1 - f1 ≤ 12 → f1 ≠ g1 → ∀ (N : Nat) (k : Int) (ar2 : Nat → Nat → Int), f1 ≤ k → k + N = g1 → xo_wf (xo_u (xo_u s 38 f1) 39 g1) ar2 → xo_B ar2 → xq [38, 39] [20, 21, 24, 25] s ar (xo_u (xo_u s 38 f1) 39 g1) ar2 → ck_keep ar ar2 → ar2 24 41 = g1 - f1 → xh (ar2 20) 492 (pa_sl (xd_at s ar) f1 k) → xe fm 314 (70, [(3, xi k), (2, xi e), (0, .ref m), (1, xi en)], [], (xo m (xo_u (xo_u s 38 f1) 39 g1) ar2 h0, n, 0, 0)) (xQI m n h0 (xd_PP2 s ar R)) := by
    intro hne h12 hne2 N
    induction N with
    | zero =>
      intro k ar2 hk hN W Bq Q Kk z24 hx
      rw [show k = g1 by omega] at hx
      refine xe_s (f := (71, _, _, _)) xt_g314 rfl rfl rfl rfl rfl ?_
      refine xe_s (f := (72, _, _, _)) xt_g314 rfl rfl rfl rfl rfl ?_
      refine xe_mgs xt_g314 rfl (q := 75) rfl (xf_13_275 fm) (by decide) rfl (by omega) ?_
      try simp only [xo_u, xo_w, Nat.reduceEqDiff, reduceIte, false_and, true_and]
      refine xe_ic_ge xt_g314 rfl (t := 105) rfl (q := 78) rfl (by first | omega | exact hw.1 _ | exact hw.2 _ _ | exact xb_r _) (by first | omega | exact hw.1 _ | exact hw.2 _ _ | exact xb_r _) (fun h75 => ?_) (fun h75 => ?_)
      · refine val hne (by intro h; rw [h] at n1; simp at n1; omega) (by omega) _ ar2 k W Bq Q Kk ⟨?_, by omega, ?_⟩
        · rw [z24, n1]
          omega
        · rw [m1]
          exact hx
      · exact absurd h75 (by omega)
    | succ N ih =>
      intro k ar2 hk hN W Bq Q Kk z24 hx
      have ek : ar2 1 k.toNat = xd_at s ar k := by
        rw [Q.2 1 (by decide), xd_at_in (by omega) (by omega)]
      refine xe_s (f := (71, _, _, _)) xt_g314 rfl rfl rfl rfl rfl ?_
      refine xe_s (f := (72, _, _, _)) xt_g314 rfl rfl rfl rfl rfl ?_
      refine xe_mgs xt_g314 rfl (q := 75) rfl (xf_13_275 fm) (by decide) rfl (by omega) ?_
      try simp only [xo_u, xo_w, Nat.reduceEqDiff, reduceIte, false_and, true_and]
      refine xe_ic_ge xt_g314 rfl (t := 105) rfl (q := 78) rfl (by first | omega | exact hw.1 _ | exact hw.2 _ _ | exact xb_r _) (by first | omega | exact hw.1 _ | exact hw.2 _ _ | exact xb_r _) (fun h75 => ?_) (fun h75 => ?_)
      · exact absurd h75 (by omega)
      · refine xe_s (f := (79, _, _, _)) xt_g314 rfl rfl rfl rfl rfl ?_
        refine xe_mga xt_g314 rfl (q := 82) rfl (xf_13_37 fm) (by decide) rfl (by omega) ?_
        try simp only [xo_u, xo_w, Nat.reduceEqDiff, reduceIte, false_and, true_and]
        refine xe_sipush xt_g314 rfl (q := 85) rfl (by decide) (by decide) ?_
        refine xe_s (f := (86, _, _, _)) xt_g314 rfl rfl rfl rfl rfl ?_
        refine xe_iadd xt_g314 rfl (q := 87) rfl ?_
        refine xe_s (f := (88, _, _, _)) xt_g314 rfl rfl rfl rfl rfl ?_
        refine xe_mgs xt_g314 rfl (q := 91) rfl (xf_13_272 fm) (by decide) rfl (by omega) ?_
        try simp only [xo_u, xo_w, Nat.reduceEqDiff, reduceIte, false_and, true_and]
        refine xe_isub xt_g314 rfl (q := 92) rfl ?_
        refine xe_s (f := (93, _, _, _)) xt_g314 rfl rfl rfl rfl rfl ?_
        refine xe_mga xt_g314 rfl (q := 96) rfl (xf_13_7 fm) (by decide) rfl (by omega) ?_
        try simp only [xo_u, xo_w, Nat.reduceEqDiff, reduceIte, false_and, true_and]
        refine xe_s (f := (97, _, _, _)) xt_g314 rfl rfl rfl rfl rfl ?_
        refine xe_mal (ok := xm_isN) (ty := .int) xt_g314 rfl (q := 98) rfl (fun _ _ => ⟨rfl, rfl, rfl, rfl⟩) rfl rfl rfl (by omega) (by omega) (by omega) (by omega) ?_
        try simp only [xo_u, xo_w, Nat.reduceEqDiff, reduceIte, false_and, true_and]
        refine xe_mas (ok := xm_isN) (ty := .int) xt_g314 rfl (q := 99) rfl (fun _ _ => ⟨rfl, rfl, rfl, rfl⟩) rfl rfl rfl (by omega) (by omega) (by omega) (by omega) (by omega) rfl ?_
        refine xe_iinc xt_g314 rfl (q := 102) rfl rfl (by decide) (L1 := [(3, _), (2, _), (0, _), (1, _)]) rfl ?_
        refine xe_s (f := (70, _, _, _)) xt_g314 rfl rfl rfl rfl rfl ?_
        rw [ek]
        refine ih (k + 1) _ (by omega) (by omega) (xo_wf_w W (xd_at_r hw _)) (xo_B_w Bq (fun h => absurd h (by decide))) (xq_w Q (by decide)) (ck_keep_x Kk (by omega)) (by rw [xo_wK (by decide)]; exact z24) ?_
        rw [pa_sl_s hk]
        exact xh_w (by rw [pa_sl_len]; omega) hx
  refine xe_s (f := (1, _, _, _)) xt_g314 rfl rfl rfl rfl rfl ?_
  refine xe_bipush xt_g314 rfl (q := 3) rfl (by decide) (by decide) ?_
  refine xe_s (f := (4, _, xi 0 :: _, _)) xt_g314 rfl rfl rfl rfl rfl ?_
  refine xe_s (f := (5, _, _, _)) xt_g314 rfl rfl rfl rfl rfl ?_
  refine xe_cvI xt_g314 rfl (q := 8) rfl xk_13_284 rfl (by omega) xt_g313 (by decide) ⟨Nat.le_of_ble_eq_true rfl, Nat.le_of_ble_eq_true rfl, Nat.le_of_ble_eq_true rfl⟩ (c1) ?_
  refine xe_s (f := (9, [(2, _), (0, _), (1, _)], _, _)) xt_g314 rfl rfl rfl rfl rfl ?_
  refine xe_s (f := (10, _, _, _)) xt_g314 rfl rfl rfl rfl rfl ?_
  refine xe_s (f := (11, _, _, _)) xt_g314 rfl rfl rfl rfl rfl ?_
  refine xe_ic_ne xt_g314 rfl (t := 16) rfl (q := 14) rfl (by first | omega | exact hw.1 _ | exact hw.2 _ _ | exact xb_r _) (by first | omega | exact hw.1 _ | exact hw.2 _ _ | exact xb_r _) (fun h11 => ?_) (fun h11 => ?_)
  · refine xe_s (f := (17, _, _, _)) xt_g314 rfl rfl rfl rfl rfl ?_
    refine xe_s (f := (18, _, xi 0 :: _, _)) xt_g314 rfl rfl rfl rfl rfl ?_
    refine xe_s (f := (19, _, _, _)) xt_g314 rfl rfl rfl rfl rfl ?_
    refine xe_cvV xt_g314 rfl (q := 22) rfl xk_13_304 rfl (by omega) xt_g315 (by decide) ⟨Nat.le_of_ble_eq_true rfl, Nat.le_of_ble_eq_true rfl, Nat.le_of_ble_eq_true rfl⟩ (c2) ?_
    refine xe_s (f := (23, _, _, _)) xt_g314 rfl rfl rfl rfl rfl ?_
    refine xe_mgs xt_g314 rfl (q := 26) rfl (xf_13_275 fm) (by decide) rfl (by omega) ?_
    try simp only [xo_u, xo_w, Nat.reduceEqDiff, reduceIte, false_and, true_and]
    refine xe_s (f := (27, _, _, _)) xt_g314 rfl rfl rfl rfl rfl ?_
    refine xe_mgs xt_g314 rfl (q := 30) rfl (xf_13_272 fm) (by decide) rfl (by omega) ?_
    try simp only [xo_u, xo_w, Nat.reduceEqDiff, reduceIte, false_and, true_and]
    refine xe_ic_eq xt_g314 rfl (t := 47) rfl (q := 33) rfl (by first | omega | exact hw.1 _ | exact hw.2 _ _ | exact xb_r _) (by first | omega | exact hw.1 _ | exact hw.2 _ _ | exact xb_r _) (fun h30 => ?_) (fun h30 => ?_)
    · refine xe_s (f := (48, _, xi 0 :: _, _)) xt_g314 rfl rfl rfl rfl rfl ?_
      refine xe_iret xt_g314 rfl rfl (xi_bool (by first | omega | exact xb_or _)).1 ?_
      rw [if_neg h11, if_pos (by
        by_cases h : tr_m (xd_at s ar) 0 e = []
        · exact Or.inl h
        · refine Or.inr (Or.inl ?_)
          have : (tr_m (xd_at s ar) 0 e).length ≠ 0 := fun h' => h (List.eq_nil_of_length_eq_zero h')
          rw [n1] at this ⊢
          omega)] at hR
      rw [← hR]
      exact ⟨_, _, _, rfl, rfl, w1, hB, q1, ck_keep_r, fun _ => rfl, fun _ h => (by cases h)⟩
    · refine xe_s (f := (34, _, _, _)) xt_g314 rfl rfl rfl rfl rfl ?_
      refine xe_mgs xt_g314 rfl (q := 37) rfl (xf_13_275 fm) (by decide) rfl (by omega) ?_
      try simp only [xo_u, xo_w, Nat.reduceEqDiff, reduceIte, false_and, true_and]
      refine xe_s (f := (38, _, _, _)) xt_g314 rfl rfl rfl rfl rfl ?_
      refine xe_mgs xt_g314 rfl (q := 41) rfl (xf_13_272 fm) (by decide) rfl (by omega) ?_
      try simp only [xo_u, xo_w, Nat.reduceEqDiff, reduceIte, false_and, true_and]
      refine xe_isub xt_g314 rfl (q := 42) rfl ?_
      refine xe_bipush xt_g314 rfl (q := 44) rfl (by decide) (by decide) ?_
      refine xe_ic_le xt_g314 rfl (t := 49) rfl (q := 47) rfl (by first | omega | exact hw.1 _ | exact hw.2 _ _ | exact xb_r _) (by first | omega | exact hw.1 _ | exact hw.2 _ _ | exact xb_r _) (fun h44 => ?_) (fun h44 => ?_)
      · refine xe_s (f := (50, _, _, _)) xt_g314 rfl rfl rfl rfl rfl ?_
        refine xe_mga xt_g314 rfl (q := 53) rfl (xf_13_49 fm) (by decide) rfl (by omega) ?_
        try simp only [xo_u, xo_w, Nat.reduceEqDiff, reduceIte, false_and, true_and]
        refine xe_bipush xt_g314 rfl (q := 55) rfl (by decide) (by decide) ?_
        refine xe_s (f := (56, _, _, _)) xt_g314 rfl rfl rfl rfl rfl ?_
        refine xe_mgs xt_g314 rfl (q := 59) rfl (xf_13_275 fm) (by decide) rfl (by omega) ?_
        try simp only [xo_u, xo_w, Nat.reduceEqDiff, reduceIte, false_and, true_and]
        refine xe_s (f := (60, _, _, _)) xt_g314 rfl rfl rfl rfl rfl ?_
        refine xe_mgs xt_g314 rfl (q := 63) rfl (xf_13_272 fm) (by decide) rfl (by omega) ?_
        try simp only [xo_u, xo_w, Nat.reduceEqDiff, reduceIte, false_and, true_and]
        refine xe_isub xt_g314 rfl (q := 64) rfl ?_
        refine xe_mas (ok := xm_isN) (ty := .int) xt_g314 rfl (q := 65) rfl (fun _ _ => ⟨rfl, rfl, rfl, rfl⟩) rfl rfl rfl (by omega) (by omega) (by omega) (by omega) (by omega) rfl ?_
        refine xe_s (f := (66, _, _, _)) xt_g314 rfl rfl rfl rfl rfl ?_
        refine xe_mgs xt_g314 rfl (q := 69) rfl (xf_13_272 fm) (by decide) rfl (by omega) ?_
        try simp only [xo_u, xo_w, Nat.reduceEqDiff, reduceIte, false_and, true_and]
        refine xe_s (f := (70, [(3, _), (2, _), (0, _), (1, _)], _, _)) xt_g314 rfl rfl rfl rfl rfl ?_
        exact loop h11 (by omega) (by omega) (g1 - f1).toNat f1 _ (Int.le_refl _) (by omega) (xo_wf_w w1 (by omega)) (xo_B_w hB (fun h => absurd h (by decide))) (xq_w q1 (by decide)) (ck_keep_b ck_keep_r (by omega)) xo_wS (by rw [pa_sl_nil (Int.le_refl _)]; exact xh_nil)
      · refine xe_s (f := (48, _, xi 0 :: _, _)) xt_g314 rfl rfl rfl rfl rfl ?_
        refine xe_iret xt_g314 rfl rfl (xi_bool (by first | omega | exact xb_or _)).1 ?_
        rw [if_neg h11, if_pos (by
          by_cases h : tr_m (xd_at s ar) 0 e = []
          · exact Or.inl h
          · refine Or.inr (Or.inl ?_)
            have : (tr_m (xd_at s ar) 0 e).length ≠ 0 := fun h' => h (List.eq_nil_of_length_eq_zero h')
            rw [n1] at this ⊢
            omega)] at hR
        rw [← hR]
        exact ⟨_, _, _, rfl, rfl, w1, hB, q1, ck_keep_r, fun _ => rfl, fun _ h => (by cases h)⟩
  · refine xe_s (f := (15, _, xi 0 :: _, _)) xt_g314 rfl rfl rfl rfl rfl ?_
    refine xe_iret xt_g314 rfl rfl (xi_bool (by first | omega | exact xb_or _)).1 ?_
    rw [if_pos (Decidable.not_not.mp h11)] at hR
    rw [← hR]
    exact ⟨_, _, _, rfl, rfl, hw, hB, xq_r, ck_keep_r, fun _ => rfl, fun _ h => (by cases h)⟩
end XRA
