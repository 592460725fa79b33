/-! the reference: removeDots, from its beginning -/
section XRD2
variable (fm : Value) {m n : Nat} {h0 : xm_H} {s : Nat → Int} {ar : Nat → Nat → Int}
theorem xg_take {l : List Int} {i k : Nat} (h : i < k) : (l.take k).getD i 0 = l.getD i 0 := by
  simp only [List.getD, List.getElem?_take]
  rw [if_pos h]
/-- the last part is taken away, if it is two dots -/
theorem xe_dots6 (hmn : xo_in m n) (hw : xo_wf s ar) {cl : List Int} {k e d5 : Int} {d t : Bool} {Q : xe_Q} (hR : xh (ar 8) 0 cl) (hl : cl.length ≤ 290)
    (kk : xe fm 267 (176, [(1, xi (if t = true then pa_pop cl else cl).length), (2, xi (xb d)), (3, xi k), (4, xi e), (5, xi d5), (6, xi (xb t)), (0, .ref m)], [], (xo m s ar h0, n, 0, 0)) Q) :
    xe fm 267 (131, [(2, xi (xb d)), (6, xi (xb t)), (5, xi d5), (4, xi e), (1, xi cl.length), (3, xi k), (0, .ref m)], [], (xo m s ar h0, n, 0, 0)) Q := by
  have hb0 := pa_bl_le (l := cl) (c := 47) cl.length
  cases t with
  | false =>
    rw [if_neg (by decide)] at kk
    refine xe_s (f := (133, _, _, _)) xt_g267 rfl rfl rfl rfl rfl ?_
    refine xe_if_eq xt_g267 rfl (t := 159) rfl (q := 136) rfl (by first | omega | exact hw.1 _ | exact hw.2 _ _ | exact xb_r _) (fun h133 => ?_) (fun h133 => ?_)
    · refine xe_s (f := (161, _, _, _)) xt_g267 rfl rfl rfl rfl rfl ?_
      refine xe_if_eq xt_g267 rfl (t := 174) rfl (q := 164) rfl (by first | omega | exact hw.1 _ | exact hw.2 _ _ | exact xb_r _) (fun h161 => ?_) (fun h161 => ?_)
      · refine xe_s (f := (175, _, _, _)) xt_g267 rfl rfl rfl rfl rfl ?_
        refine xe_s (f := (176, [(1, _), (2, _), (6, _), (5, _), (4, _), (3, _), (0, _)], _, _)) xt_g267 rfl rfl rfl rfl rfl ?_
        exact xe_loc (by intro q hq; simp only [List.mem_cons, List.not_mem_nil, or_false] at hq; rcases hq with rfl | rfl | rfl | rfl | rfl | rfl | rfl <;> rfl) (kk)
      · exact absurd rfl h161
    · exact absurd rfl h133
  | true =>
    rw [if_pos rfl] at kk
    have hpl : (pa_pop cl).length = pa_bl cl 47 cl.length - 1 := by
      unfold pa_pop
      rw [List.length_take]
      omega
    rw [hpl] at kk
    have e159 : xe fm 267 (159, [(1, xi (pa_bl cl 47 cl.length : Nat)), (2, xi (xb d)), (6, xi (xb true)), (5, xi d5), (4, xi e), (3, xi k), (0, .ref m)], [], (xo m s ar h0, n, 0, 0)) Q := by
      refine xe_s (f := (161, _, _, _)) xt_g267 rfl rfl rfl rfl rfl ?_
      refine xe_if_eq xt_g267 rfl (t := 174) rfl (q := 164) rfl (by first | omega | exact hw.1 _ | exact hw.2 _ _ | exact xb_r _) (fun h161 => ?_) (fun h161 => ?_)
      · exact absurd h161 (by decide)
      · refine xe_s (f := (165, _, _, _)) xt_g267 rfl rfl rfl rfl rfl ?_
        refine xe_if_le xt_g267 rfl (t := 174) rfl (q := 168) rfl (by first | omega | exact hw.1 _ | exact hw.2 _ _ | exact xb_r _) (fun h165 => ?_) (fun h165 => ?_)
        · rw [show pa_bl cl 47 cl.length = 0 by omega] at kk ⊢
          refine xe_s (f := (175, _, _, _)) xt_g267 rfl rfl rfl rfl rfl ?_
          refine xe_s (f := (176, [(1, _), (2, _), (6, _), (5, _), (4, _), (3, _), (0, _)], _, _)) xt_g267 rfl rfl rfl rfl rfl ?_
          exact xe_loc (by intro q hq; simp only [List.mem_cons, List.not_mem_nil, or_false] at hq; rcases hq with rfl | rfl | rfl | rfl | rfl | rfl | rfl <;> rfl) (kk)
        · rw [show ((pa_bl cl 47 cl.length - 1 : Nat) : Int) = (pa_bl cl 47 cl.length : Int) - 1 by omega] at kk
          refine xe_s (f := (169, _, _, _)) xt_g267 rfl rfl rfl rfl rfl ?_
          refine xe_s (f := (170, _, xi 1 :: _, _)) xt_g267 rfl rfl rfl rfl rfl ?_
          refine xe_isub xt_g267 rfl (q := 171) rfl ?_
          refine xe_s (f := (175, _, _, _)) xt_g267 rfl rfl rfl rfl rfl ?_
          refine xe_s (f := (176, [(1, _), (2, _), (6, _), (5, _), (4, _), (3, _), (0, _)], _, _)) xt_g267 rfl rfl rfl rfl rfl ?_
          exact xe_loc (by intro q hq; simp only [List.mem_cons, List.not_mem_nil, or_false] at hq; rcases hq with rfl | rfl | rfl | rfl | rfl | rfl | rfl <;> rfl) (kk)
    have loop : ∀ j : Nat, j ≤ cl.length → pa_bl cl 47 j = pa_bl cl 47 cl.length → xe fm 267 (131, [(1, xi j), (2, xi (xb d)), (6, xi (xb true)), (5, xi d5), (4, xi e), (3, xi k), (0, .ref m)], [], (xo m s ar h0, n, 0, 0)) Q := by
      intro j
      induction j with
      | zero =>
        intro hj hbl
        rw [pa_bl] at hbl
        rw [← hbl] at e159
        refine xe_s (f := (133, _, _, _)) xt_g267 rfl rfl rfl rfl rfl ?_
        refine xe_if_eq xt_g267 rfl (t := 159) rfl (q := 136) rfl (by first | omega | exact hw.1 _ | exact hw.2 _ _ | exact xb_r _) (fun h133 => ?_) (fun h133 => ?_)
        · exact absurd h133 (by decide)
        · try simp only [xb_0, xb_1, ne_eq, Decidable.not_not, decide_eq_true_eq, decide_eq_false_iff_not] at h133
          refine xe_s (f := (137, _, _, _)) xt_g267 rfl rfl rfl rfl rfl ?_
          refine xe_if_le xt_g267 rfl (t := 159) rfl (q := 140) rfl (by first | omega | exact hw.1 _ | exact hw.2 _ _ | exact xb_r _) (fun h137 => ?_) (fun h137 => ?_)
          · try simp only [xb_0, xb_1, ne_eq, Decidable.not_not, decide_eq_true_eq, decide_eq_false_iff_not] at h137
            exact e159
          · exact absurd h137 (by omega)
      | succ j ih =>
        intro hj hbl
        have e8 : ar 8 (((j + 1 : Nat) : Int) - 1).toNat = cl.getD j 0 := by
          rw [← hR j (by omega), Nat.zero_add]
          congr 1
          omega
        have hbr := hw.2 8 (((j + 1 : Nat) : Int) - 1).toNat
        refine xe_s (f := (133, _, _, _)) xt_g267 rfl rfl rfl rfl rfl ?_
        refine xe_if_eq xt_g267 rfl (t := 159) rfl (q := 136) rfl (by first | omega | exact hw.1 _ | exact hw.2 _ _ | exact xb_r _) (fun h133 => ?_) (fun h133 => ?_)
        · exact absurd h133 (by decide)
        · try simp only [xb_0, xb_1, ne_eq, Decidable.not_not, decide_eq_true_eq, decide_eq_false_iff_not] at h133
          refine xe_s (f := (137, _, _, _)) xt_g267 rfl rfl rfl rfl rfl ?_
          refine xe_if_le xt_g267 rfl (t := 159) rfl (q := 140) rfl (by first | omega | exact hw.1 _ | exact hw.2 _ _ | exact xb_r _) (fun h137 => ?_) (fun h137 => ?_)
          · exact absurd h137 (by omega)
          · try simp only [xb_0, xb_1, ne_eq, Decidable.not_not, decide_eq_true_eq, decide_eq_false_iff_not] at h137
            refine xe_s (f := (141, _, _, _)) xt_g267 rfl rfl rfl rfl rfl ?_
            refine xe_mga xt_g267 rfl (q := 144) rfl (xf_13_25 fm) (by decide) rfl (by omega) ?_
            try simp only [xo_u, xo_w, Nat.reduceEqDiff, reduceIte, false_and, true_and]
            refine xe_s (f := (145, _, _, _)) xt_g267 rfl rfl rfl rfl rfl ?_
            refine xe_s (f := (146, _, xi 1 :: _, _)) xt_g267 rfl rfl rfl rfl rfl ?_
            refine xe_isub xt_g267 rfl (q := 147) rfl ?_
            refine xe_mal (ok := xm_isN) (ty := .int) xt_g267 rfl (q := 148) rfl (fun _ _ => ⟨rfl, rfl, rfl, rfl⟩) rfl rfl rfl (by omega) (by omega) (by omega) (by omega) ?_
            try simp only [xo_u, xo_w, Nat.reduceEqDiff, reduceIte, false_and, true_and]
            refine xe_bipush xt_g267 rfl (q := 150) rfl (by decide) (by decide) ?_
            refine xe_ic_eq xt_g267 rfl (t := 159) rfl (q := 153) rfl (by first | omega | exact hw.1 _ | exact hw.2 _ _ | exact xb_r _) (by first | omega | exact hw.1 _ | exact hw.2 _ _ | exact xb_r _) (fun h150 => ?_) (fun h150 => ?_)
            · rw [e8] at h150
              rw [pa_bl, if_pos h150] at hbl
              rw [← hbl] at e159
              exact e159
            · refine xe_iinc xt_g267 rfl (q := 156) rfl rfl (by decide) (L1 := [(1, _), (2, _), (6, _), (5, _), (4, _), (3, _), (0, _)]) rfl ?_
              refine xe_s (f := (131, _, _, _)) xt_g267 rfl rfl rfl rfl rfl ?_
              rw [e8] at h150
              rw [pa_bl, if_neg h150] at hbl
              rw [show ((j + 1 : Nat) : Int) + -1 = (j : Int) by omega]
              exact ih (by omega) hbl
    exact xe_loc (by intro q hq; simp only [List.mem_cons, List.not_mem_nil, or_false] at hq; rcases hq with rfl | rfl | rfl | rfl | rfl | rfl | rfl <;> rfl) (loop cl.length (Nat.le_refl _) rfl)
theorem xe_dots5 (hmn : xo_in m n) {s0 : Nat → Int} {ar0 : Nat → Nat → Int} {P : List Int} (hPl : P.length ≤ 220) : ∀ (F : Nat) (rem pre cl : List Int) (d : Bool) (s : Nat → Int) (ar : Nat → Nat → Int), rem.length ≤ F → P = pre ++ rem → cl.length ≤ pre.length → xo_wf s ar → xq [11] [7, 8] s0 ar0 s ar → s 11 = P.length → xh (ar 7) 0 P → xh (ar 8) 0 cl →
    xe fm 267 (6, [(1, xi cl.length), (2, xi (xb d)), (3, xi pre.length), (0, .ref m)], [], (xo m s ar h0, n, 0, 0)) (xQU m n h0 (xd_PK s0 ar0 (pa_fin (pa_dl F rem cl d)))) := by
  intro F
  have done : ∀ (pre cl : List Int) (d : Bool) (s : Nat → Int) (ar : Nat → Nat → Int), P = pre → cl.length ≤ pre.length → xo_wf s ar → xq [11] [7, 8] s0 ar0 s ar → s 11 = P.length → xh (ar 8) 0 cl → xe fm 267 (6, [(1, xi cl.length), (2, xi (xb d)), (3, xi pre.length), (0, .ref m)], [], (xo m s ar h0, n, 0, 0)) (xQU m n h0 (xd_PK s0 ar0 (pa_fin (cl, d)))) := by
    intro pre cl d s ar hP hc w q g11 g8
    subst hP
    refine xe_s (f := (7, _, _, _)) xt_g267 rfl rfl rfl rfl rfl ?_
    refine xe_s (f := (8, _, _, _)) xt_g267 rfl rfl rfl rfl rfl ?_
    refine xe_mgs xt_g267 rfl (q := 11) rfl (xf_13_201 fm) (by decide) rfl (by omega) ?_
    try simp only [xo_u, xo_w, Nat.reduceEqDiff, reduceIte, false_and, true_and]
    refine xe_ic_ge xt_g267 rfl (t := 218) rfl (q := 14) rfl (by first | omega | exact hw.1 _ | exact hw.2 _ _ | exact xb_r _) (by first | omega | exact hw.1 _ | exact hw.2 _ _ | exact xb_r _) (fun h11 => ?_) (fun h11 => ?_)
    · exact xe_loc (by intro q hq; simp only [List.mem_cons, List.not_mem_nil, or_false] at hq; rcases hq with rfl | rfl | rfl <;> rfl) (xe_dots8 fm hmn w q g8 (by omega))
    · exact absurd h11 (by omega)
  induction F with
  | zero =>
    intro rem pre cl d s ar hF hP hc w q g11 g7 g8
    have hr : rem = [] := List.eq_nil_of_length_eq_zero (by omega)
    subst hr
    rw [List.append_nil] at hP
    exact done pre cl d s ar hP hc w q g11 g8
  | succ F ih =>
    intro rem pre cl d s ar hF hP hc w q g11 g7 g8
    cases rem with
    | nil =>
      rw [List.append_nil] at hP
      exact done pre cl d s ar hP hc w q g11 g8
    | cons c r =>
      have hwl := pa_wd_le r
      have hwn := pa_wd_ne r
      have hwe := pa_wd_end r
      have hlen : P.length = pre.length + 1 + r.length := by
        rw [hP]
        simp
        omega
      rw [List.length_cons] at hF
      have hPr : ∀ i, P.getD (pre.length + 1 + i) 0 = r.getD i 0 := by
        intro i
        rw [hP, xg_r (by omega), show pre.length + 1 + i - pre.length = i + 1 by omega]
        rfl
      have hA : ∀ i : Nat, i < r.length → ar 7 ((pre.length : Int) + 1 + i).toNat = r.getD i 0 := by
        intro i hi
        rw [← hPr i, ← g7 (pre.length + 1 + i) (by omega), Nat.zero_add]
        congr 1
      have hRg : ∀ i : Nat, xr (ar 7 ((pre.length : Int) + 1 + i).toNat) := fun i => w.2 _ _
      have hR1 := w.2 7 ((pre.length : Int) + 1).toNat
      have hR2 := w.2 7 ((pre.length : Int) + 2).toNat
      -- one, two, dots
      generalize h1 : decide (r.take (pa_wd r) = [46]) = o1
      generalize h2 : decide (r.take (pa_wd r) = [46, 46]) = o2
      have j131 : xe fm 267 (131, [(2, xi (xb (o1 || o2))), (6, xi (xb o2)), (5, xi (xb o1)), (4, xi ((pre.length : Int) + 1 + (pa_wd r : Nat))), (1, xi cl.length), (3, xi pre.length), (0, .ref m)], [], (xo m s ar h0, n, 0, 0)) (xQU m n h0 (xd_PK s0 ar0 (pa_fin (pa_dl (F + 1) (c :: r) cl d)))) := by
        refine xe_dots6 fm hmn w g8 (by omega) ?_
        have hcl' : (if o2 = true then pa_pop cl else cl).length ≤ cl.length := by
          split
          · unfold pa_pop
            rw [List.length_take]
            omega
          · exact Nat.le_refl _
        have g8' : xh (ar 8) 0 (if o2 = true then pa_pop cl else cl) := by
          split
          · exact xh_take g8 _
          · exact g8
        have hcw : (c :: r.take (pa_wd r)).length = pa_wd r + 1 := by
          rw [List.length_cons, List.length_take]
          omega
        rw [show (pre.length : Int) + 1 + (pa_wd r : Nat) = (pre.length : Int) + (c :: r.take (pa_wd r)).length by rw [hcw]; omega]
        refine xe_dots7 fm hmn w q (P := P) (w := c :: r.take (pa_wd r)) (k := pre.length) g7 g8' (by omega) (by omega) hPl ?_ ?_
        · intro i hi
          cases i with
          | zero =>
            rw [Nat.add_zero, hP, xg_r (Nat.le_refl _), Nat.sub_self]
            rfl
          | succ i =>
            rw [show pre.length + (i + 1) = pre.length + 1 + i by omega, hPr i]
            show _ = (r.take (pa_wd r)).getD i 0
            rw [xg_take (by omega)]
        · intro s1 ar1 w1 q1 es e7 g81
          subst es
          have hP' : P = (pre ++ c :: r.take (pa_wd r)) ++ r.drop (pa_wd r) := by
            rw [hP, List.append_assoc, List.cons_append, List.take_append_drop]
          have hpl : ((pre ++ c :: r.take (pa_wd r)).length : Int) = (pre.length : Int) + (c :: r.take (pa_wd r)).length := by
            rw [List.length_append]
            omega
          rw [← hpl]
          have h := ih (r.drop (pa_wd r)) (pre ++ c :: r.take (pa_wd r)) (if (o1 || o2) = true then (if o2 = true then pa_pop cl else cl) else (if o2 = true then pa_pop cl else cl) ++ c :: r.take (pa_wd r)) (o1 || o2) s1 ar1 (by rw [List.length_drop]; omega) hP' (by
            split
            · rw [List.length_append]
              omega
            · rw [List.length_append, List.length_append]
              omega) w1 q1 g11 (by rw [e7]; exact g7) g81
          have ed : pa_dl (F + 1) (c :: r) cl d = pa_dl F (r.drop (pa_wd r)) (if (o1 || o2) = true then (if o2 = true then pa_pop cl else cl) else (if o2 = true then pa_pop cl else cl) ++ c :: r.take (pa_wd r)) (o1 || o2) := by
            rw [pa_dl]
            by_cases a1 : r.take (pa_wd r) = [46]
            · have b1 : o1 = true := by rw [← h1]; exact decide_eq_true a1
              have b2 : o2 = false := by rw [← h2, a1]; decide
              rw [if_pos a1, b1, b2]
              rfl
            · have b1 : o1 = false := by rw [← h1]; exact decide_eq_false a1
              rw [if_neg a1]
              by_cases a2 : r.take (pa_wd r) = [46, 46]
              · have b2 : o2 = true := by rw [← h2]; exact decide_eq_true a2
                rw [if_pos a2, b1, b2]
                rfl
              · have b2 : o2 = false := by rw [← h2]; exact decide_eq_false a2
                rw [if_neg a2, b1, b2]
                rfl
          rw [ed]
          exact h
      have j130 : ∀ z : Int, z = xb (o1 || o2) → xe fm 267 (130, [(6, xi (xb o2)), (5, xi (xb o1)), (4, xi ((pre.length : Int) + 1 + (pa_wd r : Nat))), (1, xi cl.length), (2, xi (xb d)), (3, xi pre.length), (0, .ref m)], [xi z], (xo m s ar h0, n, 0, 0)) (xQU m n h0 (xd_PK s0 ar0 (pa_fin (pa_dl (F + 1) (c :: r) cl d)))) := by
        intro z hz
        rw [hz]
        refine xe_s (f := (131, [(2, _), (6, _), (5, _), (4, _), (1, _), (3, _), (0, _)], _, _)) xt_g267 rfl rfl rfl rfl rfl ?_
        exact j131
      have j113 : ∀ z : Int, z = xb o2 → xe fm 267 (113, [(5, xi (xb o1)), (4, xi ((pre.length : Int) + 1 + (pa_wd r : Nat))), (1, xi cl.length), (2, xi (xb d)), (3, xi pre.length), (0, .ref m)], [xi z], (xo m s ar h0, n, 0, 0)) (xQU m n h0 (xd_PK s0 ar0 (pa_fin (pa_dl (F + 1) (c :: r) cl d)))) := by
        intro z hz
        rw [hz]
        refine xe_s (f := (115, [(6, _), (5, _), (4, _), (1, _), (2, _), (3, _), (0, _)], _, _)) xt_g267 rfl rfl rfl rfl rfl ?_
        refine xe_s (f := (117, _, _, _)) xt_g267 rfl rfl rfl rfl rfl ?_
        refine xe_if_ne xt_g267 rfl (t := 125) rfl (q := 120) rfl (by first | omega | exact hw.1 _ | exact hw.2 _ _ | exact xb_r _) (fun h117 => ?_) (fun h117 => ?_)
        · try simp only [xb_0, xb_1, ne_eq, Decidable.not_not, decide_eq_true_eq, decide_eq_false_iff_not] at h117
          refine xe_s (f := (126, _, xi 1 :: _, _)) xt_g267 rfl rfl rfl rfl rfl ?_
          refine xe_s (f := (130, _, _, _)) xt_g267 rfl rfl rfl rfl rfl ?_
          exact j130 _ (by simp_all [xb])
        · try simp only [xb_0, xb_1, ne_eq, Decidable.not_not, decide_eq_true_eq, decide_eq_false_iff_not] at h117
          refine xe_s (f := (122, _, _, _)) xt_g267 rfl rfl rfl rfl rfl ?_
          refine xe_if_eq xt_g267 rfl (t := 129) rfl (q := 125) rfl (by first | omega | exact hw.1 _ | exact hw.2 _ _ | exact xb_r _) (fun h122 => ?_) (fun h122 => ?_)
          · try simp only [xb_0, xb_1, ne_eq, Decidable.not_not, decide_eq_true_eq, decide_eq_false_iff_not] at h122
            refine xe_s (f := (130, _, xi 0 :: _, _)) xt_g267 rfl rfl rfl rfl rfl ?_
            exact j130 _ (by simp_all [xb])
          · try simp only [xb_0, xb_1, ne_eq, Decidable.not_not, decide_eq_true_eq, decide_eq_false_iff_not] at h122
            refine xe_s (f := (126, _, xi 1 :: _, _)) xt_g267 rfl rfl rfl rfl rfl ?_
            refine xe_s (f := (130, _, _, _)) xt_g267 rfl rfl rfl rfl rfl ?_
            exact j130 _ (by simp_all [xb])
      have f2 : o2 = decide (pa_wd r = 2 ∧ r.getD 0 0 = 46 ∧ r.getD 1 0 = 46) := by rw [← h2]; exact decide_eq_decide.mpr pa_w2
      have f1 : o1 = decide (pa_wd r = 1 ∧ r.getD 0 0 = 46) := by rw [← h1]; exact decide_eq_decide.mpr pa_w1
      have a0 : 0 < r.length → ar 7 ((pre.length : Int) + 1).toNat = r.getD 0 0 := by
        intro h
        have := hA 0 h
        simpa using this
      have a1 : 1 < r.length → ar 7 ((pre.length : Int) + 2).toNat = r.getD 1 0 := by
        intro h
        have := hA 1 h
        rw [← this]
        congr 1
      have j72 : ∀ z : Int, z = xb o1 → xe fm 267 (72, [(4, xi ((pre.length : Int) + 1 + (pa_wd r : Nat))), (1, xi cl.length), (2, xi (xb d)), (3, xi pre.length), (0, .ref m)], [xi z], (xo m s ar h0, n, 0, 0)) (xQU m n h0 (xd_PK s0 ar0 (pa_fin (pa_dl (F + 1) (c :: r) cl d)))) := by
        intro z hz
        rw [hz]
        refine xe_s (f := (74, [(5, _), (4, _), (1, _), (2, _), (3, _), (0, _)], _, _)) xt_g267 rfl rfl rfl rfl rfl ?_
        refine xe_s (f := (76, _, _, _)) xt_g267 rfl rfl rfl rfl rfl ?_
        refine xe_s (f := (77, _, _, _)) xt_g267 rfl rfl rfl rfl rfl ?_
        refine xe_s (f := (78, _, xi 3 :: _, _)) xt_g267 rfl rfl rfl rfl rfl ?_
        refine xe_iadd xt_g267 rfl (q := 79) rfl ?_
        refine xe_ic_ne xt_g267 rfl (t := 112) rfl (q := 82) rfl (by first | omega | exact hw.1 _ | exact hw.2 _ _ | exact xb_r _) (by first | omega | exact hw.1 _ | exact hw.2 _ _ | exact xb_r _) (fun h79 => ?_) (fun h79 => ?_)
        · skip
          refine xe_s (f := (113, _, xi 0 :: _, _)) xt_g267 rfl rfl rfl rfl rfl ?_
          exact j113 _ (by rw [f2, decide_eq_false (fun h => h79 (by rw [h.1]; omega))]; rfl)
        · rw [Decidable.not_not] at h79
          have k2 : pa_wd r = 2 := by omega
          refine xe_s (f := (83, _, _, _)) xt_g267 rfl rfl rfl rfl rfl ?_
          refine xe_mga xt_g267 rfl (q := 86) rfl (xf_13_22 fm) (by decide) rfl (by omega) ?_
          try simp only [xo_u, xo_w, Nat.reduceEqDiff, reduceIte, false_and, true_and]
          refine xe_s (f := (87, _, _, _)) xt_g267 rfl rfl rfl rfl rfl ?_
          refine xe_s (f := (88, _, xi 1 :: _, _)) xt_g267 rfl rfl rfl rfl rfl ?_
          refine xe_iadd xt_g267 rfl (q := 89) rfl ?_
          refine xe_mal (ok := xm_isN) (ty := .int) xt_g267 rfl (q := 90) rfl (fun _ _ => ⟨rfl, rfl, rfl, rfl⟩) rfl rfl rfl (by omega) (by omega) (by omega) (by omega) ?_
          try simp only [xo_u, xo_w, Nat.reduceEqDiff, reduceIte, false_and, true_and]
          refine xe_bipush xt_g267 rfl (q := 92) rfl (by decide) (by decide) ?_
          refine xe_ic_ne xt_g267 rfl (t := 112) rfl (q := 95) rfl (by first | omega | exact hw.1 _ | exact hw.2 _ _ | exact xb_r _) (by first | omega | exact hw.1 _ | exact hw.2 _ _ | exact xb_r _) (fun h92 => ?_) (fun h92 => ?_)
          · skip
            refine xe_s (f := (113, _, xi 0 :: _, _)) xt_g267 rfl rfl rfl rfl rfl ?_
            exact j113 _ (by rw [a0 (by omega)] at h92; rw [f2, decide_eq_false (fun h => h92 h.2.1)]; rfl)
          · refine xe_s (f := (96, _, _, _)) xt_g267 rfl rfl rfl rfl rfl ?_
            refine xe_mga xt_g267 rfl (q := 99) rfl (xf_13_22 fm) (by decide) rfl (by omega) ?_
            try simp only [xo_u, xo_w, Nat.reduceEqDiff, reduceIte, false_and, true_and]
            refine xe_s (f := (100, _, _, _)) xt_g267 rfl rfl rfl rfl rfl ?_
            refine xe_s (f := (101, _, xi 2 :: _, _)) xt_g267 rfl rfl rfl rfl rfl ?_
            refine xe_iadd xt_g267 rfl (q := 102) rfl ?_
            refine xe_mal (ok := xm_isN) (ty := .int) xt_g267 rfl (q := 103) rfl (fun _ _ => ⟨rfl, rfl, rfl, rfl⟩) rfl rfl rfl (by omega) (by omega) (by omega) (by omega) ?_
            try simp only [xo_u, xo_w, Nat.reduceEqDiff, reduceIte, false_and, true_and]
            refine xe_bipush xt_g267 rfl (q := 105) rfl (by decide) (by decide) ?_
            refine xe_ic_ne xt_g267 rfl (t := 112) rfl (q := 108) rfl (by first | omega | exact hw.1 _ | exact hw.2 _ _ | exact xb_r _) (by first | omega | exact hw.1 _ | exact hw.2 _ _ | exact xb_r _) (fun h105 => ?_) (fun h105 => ?_)
            · skip
              refine xe_s (f := (113, _, xi 0 :: _, _)) xt_g267 rfl rfl rfl rfl rfl ?_
              exact j113 _ (by rw [a1 (by omega)] at h105; rw [f2, decide_eq_false (fun h => h105 h.2.2)]; rfl)
            · refine xe_s (f := (109, _, xi 1 :: _, _)) xt_g267 rfl rfl rfl rfl rfl ?_
              refine xe_s (f := (113, _, _, _)) xt_g267 rfl rfl rfl rfl rfl ?_
              exact j113 _ (by rw [a0 (by omega), Decidable.not_not] at h92; rw [a1 (by omega), Decidable.not_not] at h105; rw [f2, decide_eq_true ⟨k2, h92, h105⟩]; rfl)
      have j46 : xe fm 267 (46, [(4, xi ((pre.length : Int) + 1 + (pa_wd r : Nat))), (1, xi cl.length), (2, xi (xb d)), (3, xi pre.length), (0, .ref m)], [], (xo m s ar h0, n, 0, 0)) (xQU m n h0 (xd_PK s0 ar0 (pa_fin (pa_dl (F + 1) (c :: r) cl d)))) := by
        refine xe_s (f := (48, _, _, _)) xt_g267 rfl rfl rfl rfl rfl ?_
        refine xe_s (f := (49, _, _, _)) xt_g267 rfl rfl rfl rfl rfl ?_
        refine xe_s (f := (50, _, xi 2 :: _, _)) xt_g267 rfl rfl rfl rfl rfl ?_
        refine xe_iadd xt_g267 rfl (q := 51) rfl ?_
        refine xe_ic_ne xt_g267 rfl (t := 71) rfl (q := 54) rfl (by first | omega | exact hw.1 _ | exact hw.2 _ _ | exact xb_r _) (by first | omega | exact hw.1 _ | exact hw.2 _ _ | exact xb_r _) (fun h51 => ?_) (fun h51 => ?_)
        · refine xe_s (f := (72, _, xi 0 :: _, _)) xt_g267 rfl rfl rfl rfl rfl ?_
          exact j72 _ (by rw [f1, decide_eq_false (fun h => h51 (by rw [h.1]; omega))]; rfl)
        · rw [Decidable.not_not] at h51
          have k1 : pa_wd r = 1 := by omega
          refine xe_s (f := (55, _, _, _)) xt_g267 rfl rfl rfl rfl rfl ?_
          refine xe_mga xt_g267 rfl (q := 58) rfl (xf_13_22 fm) (by decide) rfl (by omega) ?_
          try simp only [xo_u, xo_w, Nat.reduceEqDiff, reduceIte, false_and, true_and]
          refine xe_s (f := (59, _, _, _)) xt_g267 rfl rfl rfl rfl rfl ?_
          refine xe_s (f := (60, _, xi 1 :: _, _)) xt_g267 rfl rfl rfl rfl rfl ?_
          refine xe_iadd xt_g267 rfl (q := 61) rfl ?_
          refine xe_mal (ok := xm_isN) (ty := .int) xt_g267 rfl (q := 62) rfl (fun _ _ => ⟨rfl, rfl, rfl, rfl⟩) rfl rfl rfl (by omega) (by omega) (by omega) (by omega) ?_
          try simp only [xo_u, xo_w, Nat.reduceEqDiff, reduceIte, false_and, true_and]
          refine xe_bipush xt_g267 rfl (q := 64) rfl (by decide) (by decide) ?_
          refine xe_ic_ne xt_g267 rfl (t := 71) rfl (q := 67) rfl (by first | omega | exact hw.1 _ | exact hw.2 _ _ | exact xb_r _) (by first | omega | exact hw.1 _ | exact hw.2 _ _ | exact xb_r _) (fun h64 => ?_) (fun h64 => ?_)
          · refine xe_s (f := (72, _, xi 0 :: _, _)) xt_g267 rfl rfl rfl rfl rfl ?_
            exact j72 _ (by rw [a0 (by omega)] at h64; rw [f1, decide_eq_false (fun h => h64 h.2)]; rfl)
          · refine xe_s (f := (68, _, xi 1 :: _, _)) xt_g267 rfl rfl rfl rfl rfl ?_
            refine xe_s (f := (72, _, _, _)) xt_g267 rfl rfl rfl rfl rfl ?_
            exact j72 _ (by rw [a0 (by omega), Decidable.not_not] at h64; rw [f1, decide_eq_true ⟨k1, h64⟩]; rfl)
      have l19 : ∀ (N j : Nat), j + N = pa_wd r → xe fm 267 (19, [(4, xi ((pre.length : Int) + 1 + (j : Nat))), (1, xi cl.length), (2, xi (xb d)), (3, xi pre.length), (0, .ref m)], [], (xo m s ar h0, n, 0, 0)) (xQU m n h0 (xd_PK s0 ar0 (pa_fin (pa_dl (F + 1) (c :: r) cl d)))) := by
        intro N
        induction N with
        | zero =>
          intro j hj
          have hj' : j = pa_wd r := by omega
          subst hj'
          have hRj := hRg (pa_wd r)
          refine xe_s (f := (21, _, _, _)) xt_g267 rfl rfl rfl rfl rfl ?_
          refine xe_s (f := (22, _, _, _)) xt_g267 rfl rfl rfl rfl rfl ?_
          refine xe_mgs xt_g267 rfl (q := 25) rfl (xf_13_201 fm) (by decide) rfl (by omega) ?_
          try simp only [xo_u, xo_w, Nat.reduceEqDiff, reduceIte, false_and, true_and]
          refine xe_ic_ge xt_g267 rfl (t := 46) rfl (q := 28) rfl (by first | omega | exact hw.1 _ | exact hw.2 _ _ | exact xb_r _) (by first | omega | exact hw.1 _ | exact hw.2 _ _ | exact xb_r _) (fun h25 => ?_) (fun h25 => ?_)
          · exact j46
          · refine xe_s (f := (29, _, _, _)) xt_g267 rfl rfl rfl rfl rfl ?_
            refine xe_mga xt_g267 rfl (q := 32) rfl (xf_13_22 fm) (by decide) rfl (by omega) ?_
            try simp only [xo_u, xo_w, Nat.reduceEqDiff, reduceIte, false_and, true_and]
            refine xe_s (f := (34, _, _, _)) xt_g267 rfl rfl rfl rfl rfl ?_
            refine xe_mal (ok := xm_isN) (ty := .int) xt_g267 rfl (q := 35) rfl (fun _ _ => ⟨rfl, rfl, rfl, rfl⟩) rfl rfl rfl (by omega) (by omega) (by omega) (by omega) ?_
            try simp only [xo_u, xo_w, Nat.reduceEqDiff, reduceIte, false_and, true_and]
            refine xe_bipush xt_g267 rfl (q := 37) rfl (by decide) (by decide) ?_
            refine xe_ic_eq xt_g267 rfl (t := 46) rfl (q := 40) rfl (by first | omega | exact hw.1 _ | exact hw.2 _ _ | exact xb_r _) (by first | omega | exact hw.1 _ | exact hw.2 _ _ | exact xb_r _) (fun h37 => ?_) (fun h37 => ?_)
            · exact j46
            · rcases hwe with h | ⟨h3, h4⟩
              · omega
              · rw [hA _ h3] at h37
                exact absurd h4 h37
        | succ N ihN =>
          intro j hj
          have hRj := hRg j
          have hne := hwn j (by omega)
          rw [← hA j (by omega)] at hne
          refine xe_s (f := (21, _, _, _)) xt_g267 rfl rfl rfl rfl rfl ?_
          refine xe_s (f := (22, _, _, _)) xt_g267 rfl rfl rfl rfl rfl ?_
          refine xe_mgs xt_g267 rfl (q := 25) rfl (xf_13_201 fm) (by decide) rfl (by omega) ?_
          try simp only [xo_u, xo_w, Nat.reduceEqDiff, reduceIte, false_and, true_and]
          refine xe_ic_ge xt_g267 rfl (t := 46) rfl (q := 28) rfl (by first | omega | exact hw.1 _ | exact hw.2 _ _ | exact xb_r _) (by first | omega | exact hw.1 _ | exact hw.2 _ _ | exact xb_r _) (fun h25 => ?_) (fun h25 => ?_)
          · exact absurd h25 (by omega)
          · refine xe_s (f := (29, _, _, _)) xt_g267 rfl rfl rfl rfl rfl ?_
            refine xe_mga xt_g267 rfl (q := 32) rfl (xf_13_22 fm) (by decide) rfl (by omega) ?_
            try simp only [xo_u, xo_w, Nat.reduceEqDiff, reduceIte, false_and, true_and]
            refine xe_s (f := (34, _, _, _)) xt_g267 rfl rfl rfl rfl rfl ?_
            refine xe_mal (ok := xm_isN) (ty := .int) xt_g267 rfl (q := 35) rfl (fun _ _ => ⟨rfl, rfl, rfl, rfl⟩) rfl rfl rfl (by omega) (by omega) (by omega) (by omega) ?_
            try simp only [xo_u, xo_w, Nat.reduceEqDiff, reduceIte, false_and, true_and]
            refine xe_bipush xt_g267 rfl (q := 37) rfl (by decide) (by decide) ?_
            refine xe_ic_eq xt_g267 rfl (t := 46) rfl (q := 40) rfl (by first | omega | exact hw.1 _ | exact hw.2 _ _ | exact xb_r _) (by first | omega | exact hw.1 _ | exact hw.2 _ _ | exact xb_r _) (fun h37 => ?_) (fun h37 => ?_)
            · exact absurd h37 hne
            · refine xe_iinc xt_g267 rfl (q := 43) rfl rfl (by decide) (L1 := [(4, _), (1, _), (2, _), (3, _), (0, _)]) rfl ?_
              refine xe_s (f := (19, _, _, _)) xt_g267 rfl rfl rfl rfl rfl ?_
              rw [show ((pre.length : Int) + 1 + (j : Nat)) + 1 = (pre.length : Int) + 1 + ((j + 1 : Nat) : Int) by omega]
              exact ihN (j + 1) (by omega)
      refine xe_s (f := (7, _, _, _)) xt_g267 rfl rfl rfl rfl rfl ?_
      refine xe_s (f := (8, _, _, _)) xt_g267 rfl rfl rfl rfl rfl ?_
      refine xe_mgs xt_g267 rfl (q := 11) rfl (xf_13_201 fm) (by decide) rfl (by omega) ?_
      refine xe_ic_ge xt_g267 rfl (t := 218) rfl (q := 14) rfl (by first | omega | exact hw.1 _ | exact hw.2 _ _ | exact xb_r _) (by first | omega | exact hw.1 _ | exact hw.2 _ _ | exact xb_r _) (fun h11 => ?_) (fun h11 => ?_)
      · omega
      · refine xe_s (f := (15, _, _, _)) xt_g267 rfl rfl rfl rfl rfl ?_
        refine xe_s (f := (16, _, xi 1 :: _, _)) xt_g267 rfl rfl rfl rfl rfl ?_
        refine xe_iadd xt_g267 rfl (q := 17) rfl ?_
        refine xe_s (f := (19, [(4, _), (1, _), (2, _), (3, _), (0, _)], _, _)) xt_g267 rfl rfl rfl rfl rfl ?_
        have h := l19 (pa_wd r) 0 (by omega)
        simpa using h
theorem xU_removeDots (hmn : xo_in m n) (hw : xo_wf s ar) {P : List Int} (hPl : P.length ≤ 220) (h11 : s 11 = P.length) (h7 : xh (ar 7) 0 P) : xU fm 267 m n h0 s ar [.ref m] (xd_PK s ar (pa_dots P)) := by
  show xe fm 267 (0, [(0, .ref m)], [], (xo m s ar h0, n, 0, 0)) _
  have h := xe_dots5 fm hmn (h0 := h0) (P := P) hPl P.length P [] [] false s ar (Nat.le_refl _) rfl (Nat.le_refl _) hw xq_r h11 h7 xh_nil
  refine xe_s (f := (1, _, xi 0 :: _, _)) xt_g267 rfl rfl rfl rfl rfl ?_
  refine xe_s (f := (2, [(1, _), (0, _)], _, _)) xt_g267 rfl rfl rfl rfl rfl ?_
  refine xe_s (f := (3, _, xi 0 :: _, _)) xt_g267 rfl rfl rfl rfl rfl ?_
  refine xe_s (f := (4, [(2, _), (1, _), (0, _)], _, _)) xt_g267 rfl rfl rfl rfl rfl ?_
  refine xe_s (f := (5, _, xi 0 :: _, _)) xt_g267 rfl rfl rfl rfl rfl ?_
  refine xe_s (f := (6, [(3, _), (2, _), (1, _), (0, _)], _, _)) xt_g267 rfl rfl rfl rfl rfl ?_
  exact xe_loc (by intro q hq; simp only [List.mem_cons, List.not_mem_nil, or_false] at hq; rcases hq with rfl | rfl | rfl | rfl <;> rfl) (h)
end XRD2
