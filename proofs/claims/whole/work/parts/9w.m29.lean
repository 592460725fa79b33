/-! loops that compare; sites -/
def xc_all (B : Nat → Bool) : Nat → Nat → Bool
  | 0, _ => true
  | N + 1, k => B k && xc_all B N (k + 1)
theorem xc_loop0 {n : Nat} {B : Nat → Bool} {P : Nat → Bool → Prop} {E : Bool → Prop} (hend : ∀ k b, k ≤ n → (k = n ∨ b = false) → E b → P k b) (hstep : ∀ k, k < n → P (k + 1) (B k) → P k true) : ∀ (N k : Nat) (b : Bool), k + N = n → E (b && xc_all B N k) → P k b
  | 0, k, b, hk, h => by
    rw [xc_all, Bool.and_true] at h
    exact hend k b (by omega) (Or.inl (by omega)) h
  | N + 1, k, b, hk, h => by
    cases b with
    | false => exact hend k false (by omega) (Or.inr rfl) (by rw [Bool.false_and] at h; exact h)
    | true =>
      rw [Bool.true_and, xc_all] at h
      exact hstep k (by omega) (xc_loop0 hend hstep N (k + 1) (B k) (by omega) h)
/-- a loop that compares place by place, as long as all was alike -/
theorem xc_loop {n : Nat} {B : Nat → Bool} {P : Nat → Bool → Prop} {E : Bool → Prop} (b : Bool) (h : E (b && xc_all B n 0)) (hend : ∀ k b, k ≤ n → (k = n ∨ b = false) → E b → P k b) (hstep : ∀ k, k < n → P (k + 1) (B k) → P k true) : P 0 b :=
  xc_loop0 hend hstep n 0 b (by omega) h
theorem xc_all_iff {B : Nat → Bool} : ∀ (N k : Nat), xc_all B N k = true ↔ ∀ i, k ≤ i → i < k + N → B i = true
  | 0, k => by simp [xc_all]; omega
  | N + 1, k => by
    unfold xc_all
    rw [Bool.and_eq_true, xc_all_iff N (k + 1)]
    constructor
    · rintro ⟨h1, h2⟩ i h3 h4
      by_cases h : i = k
      · rw [h]
        exact h1
      · exact h2 i (by omega) (by omega)
    · intro h
      exact ⟨h k (Nat.le_refl _) (by omega), fun i h1 h2 => h i (by omega) (by omega)⟩
theorem xc_all_eq {B : Nat → Bool} {X Y : List Int} {n : Nat} (hX : X.length = n) (hY : Y.length = n) (h : ∀ k, k < n → B k = decide (X.getD k 0 = Y.getD k 0)) : xc_all B n 0 = decide (X = Y) := by
  by_cases e : X = Y
  · rw [decide_eq_true e, xc_all_iff]
    intro i h1 h2
    rw [h i (by omega), e]
    exact decide_eq_true rfl
  · rw [decide_eq_false e]
    cases hb : xc_all B n 0 with
    | false => rfl
    | true =>
      rw [xc_all_iff] at hb
      exact absurd (xg_ext (by omega) (fun i hi => of_decide_eq_true ((h i (by omega)).symm.trans (hb i (by omega) (by omega))))) e
theorem xh_drop {f : Nat → Int} {p : Nat} {l : List Int} (h : xh f p l) {k : Nat} (hk : k ≤ l.length) : xh f (p + k) (l.drop k) := by
  have h2 : l = l.take k ++ l.drop k := (List.take_append_drop k l).symm
  rw [h2, xh_app] at h
  have := h.2
  rw [List.length_take, Nat.min_eq_left hk] at this
  exact this
def st_ed (D S : List Int) : Bool := decide (S.length = D.length ∨ (S.length < D.length ∧ D.getD (D.length - S.length - 1) 0 = 46))
def st_ends (D S : List Int) : Bool := st_ed D S && decide (D.drop (D.length - S.length) = S)
def st_best (D : List Int) : List (List Int) → Nat → Nat
  | [], b => b
  | S :: L, b => st_best D L (if st_ends D S = true ∧ D.length - S.length < b then D.length - S.length else b)
def st_b2 (D : List Int) (b : Nat) : Nat := if b = D.length then pa_bl D 46 D.length else b
def st_site (D : List Int) (L : List (List Int)) : Nat := if st_b2 D (st_best D L D.length) = 0 then 0 else pa_bl D 46 (st_b2 D (st_best D L D.length) - 1)
theorem st_best_le {D : List Int} : ∀ (L : List (List Int)) (b : Nat), st_best D L b ≤ b
  | [], b => Nat.le_refl _
  | S :: L, b => by
    unfold st_best
    split
    · exact Nat.le_trans (st_best_le L _) (by omega)
    · exact st_best_le L b
theorem st_site_le {D : List Int} {L : List (List Int)} : st_site D L ≤ D.length := by
  have h1 := st_best_le (D := D) L D.length
  have h2 : st_b2 D (st_best D L D.length) ≤ D.length := by
    unfold st_b2
    split
    · exact pa_bl_le _
    · exact h1
  unfold st_site
  split
  · omega
  · have := pa_bl_le (l := D) (c := 46) (st_b2 D (st_best D L D.length) - 1)
    omega
theorem xd_lab_bl {f : Nat → Int} {p : Nat} {D : List Int} (h : xh f p D) : ∀ j : Nat, j ≤ D.length → xd_lab f j ((p : Int) + j) = (p : Int) + pa_bl D 46 j
  | 0, _ => rfl
  | j + 1, hj => by
    unfold xd_lab pa_bl
    have e : f ((p : Int) + ((j + 1 : Nat) : Int) - 1).toNat = D.getD j 0 := by
      rw [← h j (by omega)]
      congr 1
      omega
    rw [e]
    split
    · rfl
    · rw [show (p : Int) + ((j + 1 : Nat) : Int) - 1 = (p : Int) + (j : Int) by omega]
      exact xd_lab_bl h j (by omega)
/-- row i has domain D -/
def ck_dom (ar : Nat → Nat → Int) (i : Nat) (D : List Int) : Prop := ar 26 i = D.length ∧ D.length ≤ 40 ∧ xh (ar 22) (40 * i) D
section XST
variable (fm : Value) {m n : Nat} {h0 : xm_H} {s : Nat → Int} {ar : Nat → Nat → Int}
theorem xv_labelD (hmn : xo_in m n) (hw : xo_wf s ar) {i j : Nat} {D : List Int} (hi : i < 42) (hD : ck_dom ar i D) (hj : j ≤ D.length) {z : Int} (hz : z = 40 * (i : Int) + j) : xv fm 329 m n h0 s ar [.ref m, xi (40 * (i : Int)), xi z] (some (xi (40 * (i : Int) + pa_bl D 46 j))) s ar := by
  subst hz
  have hl := hD.2.1
  have h := xv_labelFrom fm hmn (h0 := h0) hw (b := 40 * (i : Int)) (e := 40 * (i : Int) + j) (by omega) (by omega) (by omega) (by omega)
  have e := xd_lab_bl hD.2.2 j hj
  rw [show ((40 * i : Nat) : Int) = 40 * (i : Int) by omega] at e
  rw [show (40 * (i : Int) + j - 40 * (i : Int)).toNat = j by omega, e] at h
  exact h
theorem xv_siteFrom (hmn : xo_in m n) (hw : xo_wf s ar) {i : Nat} {D : List Int} {L : List (List Int)} (hi : i < 42) (hD : ck_dom ar i D) (hL : sf_at s ar L) : xv fm 328 m n h0 s ar [.ref m, xi i] (some (xi (40 * (i : Int) + st_site D L))) s ar := by
  show xe fm 328 (0, [(0, .ref m), (1, xi i)], [], (xo m s ar h0, n, 0, 0)) _
  have hDl := hD.2.1
  have h26 : ar 26 (i : Int).toNat = D.length := hD.1
  have e125 : ∀ b, b ≤ D.length → st_site D L = (if b = 0 then 0 else pa_bl D 46 (b - 1)) → xe fm 328 (125, [(4, xi (40 * (i : Int) + (b : Nat))), (3, xi (40 * (i : Int) + D.length)), (2, xi (40 * (i : Int))), (0, .ref m), (1, xi i)], [], (xo m s ar h0, n, 0, 0)) (fun r M => r = .inl (some (xi (40 * (i : Int) + st_site D L))) ∧ M = (xo m s ar h0, n, 0, 0)) := by
    intro b hb he
    refine xe_s (f := (127, _, _, _)) xt_g328 rfl rfl rfl rfl rfl ?_
    refine xe_s (f := (128, _, _, _)) xt_g328 rfl rfl rfl rfl rfl ?_
    refine xe_ic_ne xt_g328 rfl (t := 135) rfl (q := 131) rfl (by first | omega | exact hw.1 _ | exact hw.2 _ _ | exact xb_r _) (by first | omega | exact hw.1 _ | exact hw.2 _ _ | exact xb_r _) (fun h128 => ?_) (fun h128 => ?_)
    · refine xe_s (f := (136, _, _, _)) xt_g328 rfl rfl rfl rfl rfl ?_
      refine xe_s (f := (137, _, _, _)) xt_g328 rfl rfl rfl rfl rfl ?_
      refine xe_s (f := (139, _, _, _)) xt_g328 rfl rfl rfl rfl rfl ?_
      refine xe_s (f := (140, _, xi 1 :: _, _)) xt_g328 rfl rfl rfl rfl rfl ?_
      refine xe_isub xt_g328 rfl (q := 141) rfl ?_
      refine xe_cvI xt_g328 rfl (q := 144) rfl xk_13_254 rfl (by omega) xt_g329 (by decide) ⟨Nat.le_of_ble_eq_true rfl, Nat.le_of_ble_eq_true rfl, Nat.le_of_ble_eq_true rfl⟩ (xv_labelD fm hmn hw hi hD (j := b - 1) (by omega) (by omega)) ?_
      refine xe_iret xt_g328 rfl rfl xi_int.1 ?_
      rw [he, if_neg (by omega)]
      exact ⟨rfl, rfl⟩
    · refine xe_s (f := (132, _, _, _)) xt_g328 rfl rfl rfl rfl rfl ?_
      refine xe_s (f := (144, _, _, _)) xt_g328 rfl rfl rfl rfl rfl ?_
      refine xe_iret xt_g328 rfl rfl xi_int.1 ?_
      rw [he, if_pos (by omega), Int.natCast_zero, Int.add_zero]
      exact ⟨rfl, rfl⟩
  have e111 : ∀ b, b ≤ D.length → st_site D L = (if st_b2 D b = 0 then 0 else pa_bl D 46 (st_b2 D b - 1)) → xe fm 328 (111, [(4, xi (40 * (i : Int) + (b : Nat))), (3, xi (40 * (i : Int) + D.length)), (2, xi (40 * (i : Int))), (0, .ref m), (1, xi i)], [], (xo m s ar h0, n, 0, 0)) (fun r M => r = .inl (some (xi (40 * (i : Int) + st_site D L))) ∧ M = (xo m s ar h0, n, 0, 0)) := by
    intro b hb he
    refine xe_s (f := (113, _, _, _)) xt_g328 rfl rfl rfl rfl rfl ?_
    refine xe_s (f := (114, _, _, _)) xt_g328 rfl rfl rfl rfl rfl ?_
    refine xe_ic_ne xt_g328 rfl (t := 125) rfl (q := 117) rfl (by first | omega | exact hw.1 _ | exact hw.2 _ _ | exact xb_r _) (by first | omega | exact hw.1 _ | exact hw.2 _ _ | exact xb_r _) (fun h114 => ?_) (fun h114 => ?_)
    · refine e125 b hb ?_
      rw [he, show st_b2 D b = b by unfold st_b2; rw [if_neg (by omega)]]
    · refine xe_s (f := (118, _, _, _)) xt_g328 rfl rfl rfl rfl rfl ?_
      refine xe_s (f := (119, _, _, _)) xt_g328 rfl rfl rfl rfl rfl ?_
      refine xe_s (f := (120, _, _, _)) xt_g328 rfl rfl rfl rfl rfl ?_
      refine xe_cvI xt_g328 rfl (q := 123) rfl xk_13_254 rfl (by omega) xt_g329 (by decide) ⟨Nat.le_of_ble_eq_true rfl, Nat.le_of_ble_eq_true rfl, Nat.le_of_ble_eq_true rfl⟩ (xv_labelD fm hmn hw hi hD (j := D.length) (Nat.le_refl _) rfl) ?_
      refine xe_s (f := (125, [(4, _), (3, _), (2, _), (0, _), (1, _)], _, _)) xt_g328 rfl rfl rfl rfl rfl ?_
      refine e125 (pa_bl D 46 D.length) (pa_bl_le _) ?_
      rw [he, show st_b2 D b = pa_bl D 46 D.length by unfold st_b2; rw [if_pos (by omega)]]
  have loop : ∀ (L2 : List (List Int)) (q b : Nat), L.drop q = L2 → q ≤ L.length → b ≤ D.length → st_best D L2 b = st_best D L D.length → xe fm 328 (20, [(5, xi q), (4, xi (40 * (i : Int) + (b : Nat))), (3, xi (40 * (i : Int) + D.length)), (2, xi (40 * (i : Int))), (0, .ref m), (1, xi i)], [], (xo m s ar h0, n, 0, 0)) (fun r M => r = .inl (some (xi (40 * (i : Int) + st_site D L))) ∧ M = (xo m s ar h0, n, 0, 0)) := by
    intro L2
    have hL8 := hL.2.1
    have g16 := hL.1
    induction L2 with
    | nil =>
      intro q b hq hql hb hbest
      have hqe : L.length ≤ q := List.drop_eq_nil_iff.mp hq
      refine xe_s (f := (22, _, _, _)) xt_g328 rfl rfl rfl rfl rfl ?_
      refine xe_s (f := (23, _, _, _)) xt_g328 rfl rfl rfl rfl rfl ?_
      refine xe_mgs xt_g328 rfl (q := 26) rfl (xf_13_247 fm) (by decide) rfl (by omega) ?_
      try simp only [xo_u, xo_w, Nat.reduceEqDiff, reduceIte, false_and, true_and]
      rw [g16]
      refine xe_ic_ge xt_g328 rfl (t := 111) rfl (q := 29) rfl (by first | omega | exact hw.1 _ | exact hw.2 _ _ | exact xb_r _) (by first | omega | exact hw.1 _ | exact hw.2 _ _ | exact xb_r _) (fun h26 => ?_) (fun h26 => ?_)
      · exact xe_loc (by intro q hq; simp only [List.mem_cons, List.not_mem_nil, or_false] at hq; rcases hq with rfl | rfl | rfl | rfl | rfl <;> rfl) (e111 b hb (by unfold st_site; rw [← hbest]; rfl))
      · exact absurd h26 (by omega)
    | cons S L2 ih =>
      intro q b hq hql hb hbest
      have hqlt : q < L.length := by
        apply Decidable.byContradiction
        intro h
        rw [List.drop_of_length_le (by omega)] at hq
        cases hq
      have hS : L.getD q [] = S := by
        rw [List.drop_eq_getElem_cons hqlt] at hq
        cases hq
        simp [List.getD, hqlt]
      have hL2 : L.drop (q + 1) = L2 := by
        rw [List.drop_eq_getElem_cons hqlt] at hq
        cases hq
        rfl
      obtain ⟨a1, a2, a3⟩ := hL.2.2 q hqlt
      rw [hS] at a1 a2 a3
      have a1' : ar 15 (q : Int).toNat = S.length := a1
      rw [st_best] at hbest
      have skip : ∀ v6 v7, st_ends D S = false ∨ b ≤ D.length - S.length → xe fm 328 (105, [(7, xi v7), (6, xi v6), (5, xi q), (4, xi (40 * (i : Int) + (b : Nat))), (3, xi (40 * (i : Int) + D.length)), (2, xi (40 * (i : Int))), (0, .ref m), (1, xi i)], [], (xo m s ar h0, n, 0, 0)) (fun r M => r = .inl (some (xi (40 * (i : Int) + st_site D L))) ∧ M = (xo m s ar h0, n, 0, 0)) := by
        intro v6 v7 hno
        have hno2 : ¬ (st_ends D S = true ∧ D.length - S.length < b) := by
          rintro ⟨h1, h2⟩
          rcases hno with h | h
          · rw [h] at h1
            cases h1
          · omega
        rw [if_neg hno2] at hbest
        refine xe_iinc xt_g328 rfl (q := 108) rfl rfl (by decide) (L1 := [(5, _), (7, _), (6, _), (4, _), (3, _), (2, _), (0, _), (1, _)]) rfl ?_
        refine xe_s (f := (20, _, _, _)) xt_g328 rfl rfl rfl rfl rfl ?_
        rw [show ((q : Int) + 1) = ((q + 1 : Nat) : Int) by omega]
        exact xe_loc (by intro q hq; simp only [List.mem_cons, List.not_mem_nil, or_false] at hq; rcases hq with rfl | rfl | rfl | rfl | rfl | rfl <;> rfl) (ih (q + 1) b hL2 (by omega) hb hbest)
      have e73 : ∀ z : Int, z = xb (st_ed D S) → xe fm 328 (71, [(6, xi (40 * (i : Int) + D.length - S.length)), (5, xi q), (4, xi (40 * (i : Int) + (b : Nat))), (3, xi (40 * (i : Int) + D.length)), (2, xi (40 * (i : Int))), (0, .ref m), (1, xi i)], [xi z], (xo m s ar h0, n, 0, 0)) (fun r M => r = .inl (some (xi (40 * (i : Int) + st_site D L))) ∧ M = (xo m s ar h0, n, 0, 0)) := by
        intro z hz
        rw [hz]
        have hSD : st_ed D S = true → S.length ≤ D.length := by
          intro h
          have := of_decide_eq_true h
          omega
        have hsx : S.length ≤ D.length → xv fm 254 m n h0 s ar [.ref m, xi q, .ref (m + 1 + 11), xi (40 * (i : Int) + D.length - S.length), xi (40 * (i : Int) + D.length)] (some (xi (xb (decide (D.drop (D.length - S.length) = S))))) s ar := by
          intro hle
          have hdl : (D.drop (D.length - S.length)).length = S.length := by
            rw [List.length_drop]
            omega
          have h := xv_isSuffix fm hmn (h0 := h0) hw (j := 11) (kF := 22) (eF := 1680) rfl (by decide) (i := q) (b := 40 * i + (D.length - S.length)) (e := 40 * (i : Int) + D.length) (S := S) (R := D.drop (D.length - S.length)) (by omega) a1 a2 a3 (xh_drop hD.2.2 (by omega)) (by rw [hdl]; omega) (by rw [hdl]; omega)
          rw [show ((40 * i + (D.length - S.length) : Nat) : Int) = 40 * (i : Int) + D.length - S.length by omega] at h
          exact h
        refine xe_s (f := (73, [(7, _), (6, _), (5, _), (4, _), (3, _), (2, _), (0, _), (1, _)], _, _)) xt_g328 rfl rfl rfl rfl rfl ?_
        refine xe_s (f := (75, _, _, _)) xt_g328 rfl rfl rfl rfl rfl ?_
        refine xe_if_eq xt_g328 rfl (t := 105) rfl (q := 78) rfl (by first | omega | exact hw.1 _ | exact hw.2 _ _ | exact xb_r _) (fun h75 => ?_) (fun h75 => ?_)
        · try simp only [xb_0, xb_1, ne_eq, Decidable.not_not, decide_eq_true_eq, decide_eq_false_iff_not] at h75
          exact skip _ _ (Or.inl (by unfold st_ends; rw [h75]; rfl))
        · try simp only [xb_0, xb_1, ne_eq, Decidable.not_not, decide_eq_true_eq, decide_eq_false_iff_not] at h75
          have h75' : st_ed D S = true := by simpa using h75
          have hle := hSD h75'
          refine xe_s (f := (80, _, _, _)) xt_g328 rfl rfl rfl rfl rfl ?_
          refine xe_s (f := (82, _, _, _)) xt_g328 rfl rfl rfl rfl rfl ?_
          refine xe_ic_ge xt_g328 rfl (t := 105) rfl (q := 85) rfl (by first | omega | exact hw.1 _ | exact hw.2 _ _ | exact xb_r _) (by first | omega | exact hw.1 _ | exact hw.2 _ _ | exact xb_r _) (fun h82 => ?_) (fun h82 => ?_)
          · exact skip _ _ (Or.inr (by omega))
          · refine xe_s (f := (86, _, _, _)) xt_g328 rfl rfl rfl rfl rfl ?_
            refine xe_s (f := (88, _, _, _)) xt_g328 rfl rfl rfl rfl rfl ?_
            refine xe_s (f := (89, _, _, _)) xt_g328 rfl rfl rfl rfl rfl ?_
            refine xe_mga xt_g328 rfl (q := 92) rfl (xf_13_43 fm) (by decide) rfl (by omega) ?_
            try simp only [xo_u, xo_w, Nat.reduceEqDiff, reduceIte, false_and, true_and]
            refine xe_s (f := (94, _, _, _)) xt_g328 rfl rfl rfl rfl rfl ?_
            refine xe_s (f := (95, _, _, _)) xt_g328 rfl rfl rfl rfl rfl ?_
            refine xe_cvI xt_g328 rfl (q := 98) rfl xk_13_250 rfl (by omega) xt_g254 (by decide) ⟨Nat.le_of_ble_eq_true rfl, Nat.le_of_ble_eq_true rfl, Nat.le_of_ble_eq_true rfl⟩ (hsx hle) ?_
            refine xe_if_eq xt_g328 rfl (t := 105) rfl (q := 101) rfl (by first | omega | exact hw.1 _ | exact hw.2 _ _ | exact xb_r _) (fun h98 => ?_) (fun h98 => ?_)
            · try simp only [xb_0, xb_1, ne_eq, Decidable.not_not, decide_eq_true_eq, decide_eq_false_iff_not] at h98
              exact skip _ _ (Or.inl (by unfold st_ends; rw [decide_eq_false h98, Bool.and_false]))
            · try simp only [xb_0, xb_1, ne_eq, Decidable.not_not, decide_eq_true_eq, decide_eq_false_iff_not] at h98
              refine xe_s (f := (103, _, _, _)) xt_g328 rfl rfl rfl rfl rfl ?_
              refine xe_s (f := (105, [(4, _), (7, _), (6, _), (5, _), (3, _), (2, _), (0, _), (1, _)], _, _)) xt_g328 rfl rfl rfl rfl rfl ?_
              refine xe_iinc xt_g328 rfl (q := 108) rfl rfl (by decide) (L1 := [(5, _), (4, _), (7, _), (6, _), (3, _), (2, _), (0, _), (1, _)]) rfl ?_
              refine xe_s (f := (20, _, _, _)) xt_g328 rfl rfl rfl rfl rfl ?_
              have hyes : st_ends D S = true ∧ D.length - S.length < b := ⟨by unfold st_ends; rw [h75', decide_eq_true h98]; rfl, by omega⟩
              rw [if_pos hyes] at hbest
              rw [show ((q : Int) + 1) = ((q + 1 : Nat) : Int) by omega, show 40 * (i : Int) + D.length - S.length = 40 * (i : Int) + ((D.length - S.length : Nat) : Int) by omega]
              exact xe_loc (by intro q hq; simp only [List.mem_cons, List.not_mem_nil, or_false] at hq; rcases hq with rfl | rfl | rfl | rfl | rfl | rfl <;> rfl) (ih (q + 1) (D.length - S.length) hL2 (by omega) (by omega) hbest)
      have e46 : S.length < D.length → ar 22 (40 * (i : Int) + D.length - S.length - 1).toNat = D.getD (D.length - S.length - 1) 0 := by
        intro h
        rw [← hD.2.2 (D.length - S.length - 1) (by omega)]
        congr 1
        omega
      have hrr := hw.2 22 (40 * (i : Int) + D.length - S.length - 1).toNat
      refine xe_s (f := (22, _, _, _)) xt_g328 rfl rfl rfl rfl rfl ?_
      refine xe_s (f := (23, _, _, _)) xt_g328 rfl rfl rfl rfl rfl ?_
      refine xe_mgs xt_g328 rfl (q := 26) rfl (xf_13_247 fm) (by decide) rfl (by omega) ?_
      try simp only [xo_u, xo_w, Nat.reduceEqDiff, reduceIte, false_and, true_and]
      rw [g16]
      refine xe_ic_ge xt_g328 rfl (t := 111) rfl (q := 29) rfl (by first | omega | exact hw.1 _ | exact hw.2 _ _ | exact xb_r _) (by first | omega | exact hw.1 _ | exact hw.2 _ _ | exact xb_r _) (fun h26 => ?_) (fun h26 => ?_)
      · exact absurd h26 (by omega)
      · refine xe_s (f := (30, _, _, _)) xt_g328 rfl rfl rfl rfl rfl ?_
        refine xe_s (f := (31, _, _, _)) xt_g328 rfl rfl rfl rfl rfl ?_
        refine xe_mga xt_g328 rfl (q := 34) rfl (xf_13_34 fm) (by decide) rfl (by omega) ?_
        try simp only [xo_u, xo_w, Nat.reduceEqDiff, reduceIte, false_and, true_and]
        refine xe_s (f := (36, _, _, _)) xt_g328 rfl rfl rfl rfl rfl ?_
        refine xe_mal (ok := xm_isN) (ty := .int) xt_g328 rfl (q := 37) rfl (fun _ _ => ⟨rfl, rfl, rfl, rfl⟩) rfl rfl rfl (by omega) (by omega) (by omega) (by omega) ?_
        try simp only [xo_u, xo_w, Nat.reduceEqDiff, reduceIte, false_and, true_and]
        rw [a1']
        refine xe_isub xt_g328 rfl (q := 38) rfl ?_
        refine xe_s (f := (40, [(6, _), (5, _), (4, _), (3, _), (2, _), (0, _), (1, _)], _, _)) xt_g328 rfl rfl rfl rfl rfl ?_
        refine xe_s (f := (42, _, _, _)) xt_g328 rfl rfl rfl rfl rfl ?_
        refine xe_s (f := (43, _, _, _)) xt_g328 rfl rfl rfl rfl rfl ?_
        refine xe_ic_eq xt_g328 rfl (t := 66) rfl (q := 46) rfl (by first | omega | exact hw.1 _ | exact hw.2 _ _ | exact xb_r _) (by first | omega | exact hw.1 _ | exact hw.2 _ _ | exact xb_r _) (fun h43 => ?_) (fun h43 => ?_)
        · refine xe_s (f := (67, _, xi 1 :: _, _)) xt_g328 rfl rfl rfl rfl rfl ?_
          refine xe_s (f := (71, _, _, _)) xt_g328 rfl rfl rfl rfl rfl ?_
          exact e73 _ (by unfold st_ed; rw [decide_eq_true (Or.inl (by omega))]; rfl)
        · refine xe_s (f := (48, _, _, _)) xt_g328 rfl rfl rfl rfl rfl ?_
          refine xe_s (f := (49, _, _, _)) xt_g328 rfl rfl rfl rfl rfl ?_
          refine xe_ic_le xt_g328 rfl (t := 70) rfl (q := 52) rfl (by first | omega | exact hw.1 _ | exact hw.2 _ _ | exact xb_r _) (by first | omega | exact hw.1 _ | exact hw.2 _ _ | exact xb_r _) (fun h49 => ?_) (fun h49 => ?_)
          · refine xe_s (f := (71, _, xi 0 :: _, _)) xt_g328 rfl rfl rfl rfl rfl ?_
            exact e73 _ (by unfold st_ed; rw [decide_eq_false (by omega)]; rfl)
          · refine xe_s (f := (53, _, _, _)) xt_g328 rfl rfl rfl rfl rfl ?_
            refine xe_mga xt_g328 rfl (q := 56) rfl (xf_13_43 fm) (by decide) rfl (by omega) ?_
            try simp only [xo_u, xo_w, Nat.reduceEqDiff, reduceIte, false_and, true_and]
            refine xe_s (f := (58, _, _, _)) xt_g328 rfl rfl rfl rfl rfl ?_
            refine xe_s (f := (59, _, xi 1 :: _, _)) xt_g328 rfl rfl rfl rfl rfl ?_
            refine xe_isub xt_g328 rfl (q := 60) rfl ?_
            refine xe_mal (ok := xm_isN) (ty := .int) xt_g328 rfl (q := 61) rfl (fun _ _ => ⟨rfl, rfl, rfl, rfl⟩) rfl rfl rfl (by omega) (by omega) (by omega) (by omega) ?_
            try simp only [xo_u, xo_w, Nat.reduceEqDiff, reduceIte, false_and, true_and]
            refine xe_bipush xt_g328 rfl (q := 63) rfl (by decide) (by decide) ?_
            refine xe_ic_ne xt_g328 rfl (t := 70) rfl (q := 66) rfl (by first | omega | exact hw.1 _ | exact hw.2 _ _ | exact xb_r _) (by first | omega | exact hw.1 _ | exact hw.2 _ _ | exact xb_r _) (fun h63 => ?_) (fun h63 => ?_)
            · refine xe_s (f := (71, _, xi 0 :: _, _)) xt_g328 rfl rfl rfl rfl rfl ?_
              exact e73 _ (by rw [e46 (by omega)] at h63; unfold st_ed; rw [decide_eq_false (by omega)]; rfl)
            · refine xe_s (f := (67, _, xi 1 :: _, _)) xt_g328 rfl rfl rfl rfl rfl ?_
              refine xe_s (f := (71, _, _, _)) xt_g328 rfl rfl rfl rfl rfl ?_
              exact e73 _ (by rw [e46 (by omega), Decidable.not_not] at h63; unfold st_ed; rw [decide_eq_true (Or.inr ⟨by omega, h63⟩)]; rfl)
  refine xe_bipush xt_g328 rfl (q := 2) rfl (by decide) (by decide) ?_
  refine xe_s (f := (3, _, _, _)) xt_g328 rfl rfl rfl rfl rfl ?_
  refine xe_imul xt_g328 rfl (q := 4) rfl ?_
  refine xe_s (f := (5, [(2, _), (0, _), (1, _)], _, _)) xt_g328 rfl rfl rfl rfl rfl ?_
  refine xe_s (f := (6, _, _, _)) xt_g328 rfl rfl rfl rfl rfl ?_
  refine xe_s (f := (7, _, _, _)) xt_g328 rfl rfl rfl rfl rfl ?_
  refine xe_mga xt_g328 rfl (q := 10) rfl (xf_13_55 fm) (by decide) rfl (by omega) ?_
  refine xe_s (f := (11, _, _, _)) xt_g328 rfl rfl rfl rfl rfl ?_
  refine xe_mal (ok := xm_isN) (ty := .int) xt_g328 rfl (q := 12) rfl (fun _ _ => ⟨rfl, rfl, rfl, rfl⟩) rfl rfl rfl (by omega) (by omega) (by omega) (by omega) ?_
  rw [h26]
  refine xe_iadd xt_g328 rfl (q := 13) rfl ?_
  refine xe_s (f := (14, [(3, _), (2, _), (0, _), (1, _)], _, _)) xt_g328 rfl rfl rfl rfl rfl ?_
  refine xe_s (f := (15, _, _, _)) xt_g328 rfl rfl rfl rfl rfl ?_
  refine xe_s (f := (17, [(4, _), (3, _), (2, _), (0, _), (1, _)], _, _)) xt_g328 rfl rfl rfl rfl rfl ?_
  refine xe_s (f := (18, _, xi 0 :: _, _)) xt_g328 rfl rfl rfl rfl rfl ?_
  refine xe_s (f := (20, [(5, _), (4, _), (3, _), (2, _), (0, _), (1, _)], _, _)) xt_g328 rfl rfl rfl rfl rfl ?_
  exact xe_loc (by intro q hq; simp only [List.mem_cons, List.not_mem_nil, or_false] at hq; rcases hq with rfl | rfl | rfl | rfl | rfl | rfl <;> rfl) (loop L 0 D.length rfl (Nat.zero_le _) (Nat.le_refl _) rfl)
def st_tail (D : List Int) (L : List (List Int)) : List Int := D.drop (st_site D L)
theorem xv_isOfSite (hmn : xo_in m n) (hw : xo_wf s ar) {i j : Nat} {D D' : List Int} {L : List (List Int)} (hi : i < 42) (hj : j < 42) (hD : ck_dom ar i D) (hD' : ck_dom ar j D') (hL : sf_at s ar L) : xv fm 327 m n h0 s ar [.ref m, xi i, xi j] (some (xi (xb (decide (st_tail D L = st_tail D' L))))) s ar := by
  show xe fm 327 (0, [(0, .ref m), (1, xi i), (2, xi j)], [], (xo m s ar h0, n, 0, 0)) _
  have a1 : ar 26 (i : Int).toNat = D.length := hD.1
  have a2 : ar 26 (j : Int).toNat = D'.length := hD'.1
  have hDl := hD.2.1
  have hDl' := hD'.2.1
  have l1 := st_site_le (D := D) (L := L)
  have l2 := st_site_le (D := D') (L := L)
  have t1 : (st_tail D L).length = D.length - st_site D L := List.length_drop
  have t2 : (st_tail D' L).length = D'.length - st_site D' L := List.length_drop
  have x1 : xh (ar 22) (40 * i + st_site D L) (st_tail D L) := xh_drop hD.2.2 l1
  have x2 : xh (ar 22) (40 * j + st_site D' L) (st_tail D' L) := xh_drop hD'.2.2 l2
  have e104 : ∀ b : Bool, b = decide (st_tail D L = st_tail D' L) → ∀ v7 v5 v4 v3, xe fm 327 (104, [(7, xi v7), (6, xi (xb b)), (5, xi v5), (4, xi v4), (3, xi v3), (0, .ref m), (1, xi i), (2, xi j)], [], (xo m s ar h0, n, 0, 0)) (fun r M => r = .inl (some (xi (xb (decide (st_tail D L = st_tail D' L))))) ∧ M = (xo m s ar h0, n, 0, 0)) := by
    intro b hb v7 v5 v4 v3
    rw [hb]
    refine xe_s (f := (106, _, _, _)) xt_g327 rfl rfl rfl rfl rfl ?_
    refine xe_iret xt_g327 rfl rfl (xi_bool (by first | omega | exact xb_or _)).1 ?_
    exact ⟨rfl, rfl⟩
  have e57 : ∀ b : Bool, b = decide ((st_tail D L).length = (st_tail D' L).length) → xe fm 327 (57, [(7, xi ((0 : Nat) : Int)), (6, xi (xb b)), (5, xi ((st_tail D L).length : Nat)), (4, xi (40 * (j : Int) + st_site D' L)), (3, xi (40 * (i : Int) + st_site D L)), (0, .ref m), (1, xi i), (2, xi j)], [], (xo m s ar h0, n, 0, 0)) (fun r M => r = .inl (some (xi (xb (decide (st_tail D L = st_tail D' L))))) ∧ M = (xo m s ar h0, n, 0, 0)) := by
    intro b hb
    refine xc_loop (n := (st_tail D L).length) (B := fun k => decide ((st_tail D L).getD k 0 = (st_tail D' L).getD k 0)) (P := fun k b => (b = true → (st_tail D L).length = (st_tail D' L).length) → xe fm 327 (57, [(7, xi (k : Nat)), (6, xi (xb b)), (5, xi ((st_tail D L).length : Nat)), (4, xi (40 * (j : Int) + st_site D' L)), (3, xi (40 * (i : Int) + st_site D L)), (0, .ref m), (1, xi i), (2, xi j)], [], (xo m s ar h0, n, 0, 0)) (fun r M => r = .inl (some (xi (xb (decide (st_tail D L = st_tail D' L))))) ∧ M = (xo m s ar h0, n, 0, 0))) (E := fun b => b = decide (st_tail D L = st_tail D' L)) b ?_ ?_ ?_ (fun h => of_decide_eq_true (hb.symm.trans h))
    · rw [hb]
      by_cases hl : (st_tail D L).length = (st_tail D' L).length
      · rw [decide_eq_true hl, Bool.true_and]
        exact xc_all_eq rfl hl.symm (fun _ _ => rfl)
      · rw [decide_eq_false hl, Bool.false_and, decide_eq_false (fun h => hl (by rw [h]))]
    · intro k b hk hkb hE _
      have hxb := xb_or b
      refine xe_s (f := (59, _, _, _)) xt_g327 rfl rfl rfl rfl rfl ?_
      refine xe_s (f := (61, _, _, _)) xt_g327 rfl rfl rfl rfl rfl ?_
      refine xe_ic_ge xt_g327 rfl (t := 104) rfl (q := 64) rfl (by first | omega | exact hw.1 _ | exact hw.2 _ _ | exact xb_r _) (by first | omega | exact hw.1 _ | exact hw.2 _ _ | exact xb_r _) (fun h61 => ?_) (fun h61 => ?_)
      · exact e104 b hE _ _ _ _
      · refine xe_s (f := (66, _, _, _)) xt_g327 rfl rfl rfl rfl rfl ?_
        refine xe_if_eq xt_g327 rfl (t := 104) rfl (q := 69) rfl (by first | omega | exact hw.1 _ | exact hw.2 _ _ | exact xb_r _) (fun h66 => ?_) (fun h66 => ?_)
        · try simp only [xb_0, xb_1, ne_eq, Decidable.not_not, decide_eq_true_eq, decide_eq_false_iff_not] at h66
          exact e104 b hE _ _ _ _
        · try simp only [xb_0, xb_1, ne_eq, Decidable.not_not, decide_eq_true_eq, decide_eq_false_iff_not] at h66
          exfalso
          rcases hkb with h | h
          · omega
          · rw [h] at h66; exact absurd rfl h66
    · intro k hk ih hlt
      have hl := hlt rfl
      have y1 : ar 22 (40 * (i : Int) + st_site D L + k).toNat = (st_tail D L).getD k 0 := by
        rw [← x1 k (by omega)]
        congr 1
      have y2 : ar 22 (40 * (j : Int) + st_site D' L + k).toNat = (st_tail D' L).getD k 0 := by
        rw [← x2 k (by omega)]
        congr 1
      have r1 := hw.2 22 (40 * (i : Int) + st_site D L + k).toNat
      have r2 := hw.2 22 (40 * (j : Int) + st_site D' L + k).toNat
      have ih' := ih (fun _ => hl)
      refine xe_s (f := (59, _, _, _)) xt_g327 rfl rfl rfl rfl rfl ?_
      refine xe_s (f := (61, _, _, _)) xt_g327 rfl rfl rfl rfl rfl ?_
      refine xe_ic_ge xt_g327 rfl (t := 104) rfl (q := 64) rfl (by first | omega | exact hw.1 _ | exact hw.2 _ _ | exact xb_r _) (by first | omega | exact hw.1 _ | exact hw.2 _ _ | exact xb_r _) (fun h61 => ?_) (fun h61 => ?_)
      · exact absurd h61 (by omega)
      · refine xe_s (f := (66, _, _, _)) xt_g327 rfl rfl rfl rfl rfl ?_
        refine xe_if_eq xt_g327 rfl (t := 104) rfl (q := 69) rfl (by first | omega | exact hw.1 _ | exact hw.2 _ _ | exact xb_r _) (fun h66 => ?_) (fun h66 => ?_)
        · exact absurd h66 (by decide)
        · try simp only [xb_0, xb_1, ne_eq, Decidable.not_not, decide_eq_true_eq, decide_eq_false_iff_not] at h66
          refine xe_s (f := (70, _, _, _)) xt_g327 rfl rfl rfl rfl rfl ?_
          refine xe_mga xt_g327 rfl (q := 73) rfl (xf_13_43 fm) (by decide) rfl (by omega) ?_
          try simp only [xo_u, xo_w, Nat.reduceEqDiff, reduceIte, false_and, true_and]
          refine xe_s (f := (74, _, _, _)) xt_g327 rfl rfl rfl rfl rfl ?_
          refine xe_s (f := (76, _, _, _)) xt_g327 rfl rfl rfl rfl rfl ?_
          refine xe_iadd xt_g327 rfl (q := 77) rfl ?_
          refine xe_mal (ok := xm_isN) (ty := .int) xt_g327 rfl (q := 78) rfl (fun _ _ => ⟨rfl, rfl, rfl, rfl⟩) rfl rfl rfl (by omega) (by omega) (by omega) (by omega) ?_
          try simp only [xo_u, xo_w, Nat.reduceEqDiff, reduceIte, false_and, true_and]
          refine xe_s (f := (79, _, _, _)) xt_g327 rfl rfl rfl rfl rfl ?_
          refine xe_mga xt_g327 rfl (q := 82) rfl (xf_13_43 fm) (by decide) rfl (by omega) ?_
          try simp only [xo_u, xo_w, Nat.reduceEqDiff, reduceIte, false_and, true_and]
          refine xe_s (f := (84, _, _, _)) xt_g327 rfl rfl rfl rfl rfl ?_
          refine xe_s (f := (86, _, _, _)) xt_g327 rfl rfl rfl rfl rfl ?_
          refine xe_iadd xt_g327 rfl (q := 87) rfl ?_
          refine xe_mal (ok := xm_isN) (ty := .int) xt_g327 rfl (q := 88) rfl (fun _ _ => ⟨rfl, rfl, rfl, rfl⟩) rfl rfl rfl (by omega) (by omega) (by omega) (by omega) ?_
          try simp only [xo_u, xo_w, Nat.reduceEqDiff, reduceIte, false_and, true_and]
          refine xe_ic_ne xt_g327 rfl (t := 95) rfl (q := 91) rfl (by first | omega | exact hw.1 _ | exact hw.2 _ _ | exact xb_r _) (by first | omega | exact hw.1 _ | exact hw.2 _ _ | exact xb_r _) (fun h88 => ?_) (fun h88 => ?_)
          · refine xe_s (f := (96, _, xi 0 :: _, _)) xt_g327 rfl rfl rfl rfl rfl ?_
            refine xe_s (f := (98, [(6, _), (7, _), (5, _), (4, _), (3, _), (0, _), (1, _), (2, _)], _, _)) xt_g327 rfl rfl rfl rfl rfl ?_
            refine xe_iinc xt_g327 rfl (q := 101) rfl rfl (by decide) (L1 := [(7, _), (6, _), (5, _), (4, _), (3, _), (0, _), (1, _), (2, _)]) rfl ?_
            refine xe_s (f := (57, _, _, _)) xt_g327 rfl rfl rfl rfl rfl ?_
            rw [y1, y2] at h88
            rw [decide_eq_false h88] at ih'
            rw [show ((k : Int) + 1) = ((k + 1 : Nat) : Int) by omega]
            exact xe_loc (by intro q hq; simp only [List.mem_cons, List.not_mem_nil, or_false] at hq; rcases hq with rfl | rfl | rfl | rfl | rfl | rfl | rfl | rfl <;> rfl) (ih')
          · refine xe_s (f := (92, _, xi 1 :: _, _)) xt_g327 rfl rfl rfl rfl rfl ?_
            refine xe_s (f := (96, _, _, _)) xt_g327 rfl rfl rfl rfl rfl ?_
            refine xe_s (f := (98, [(6, _), (7, _), (5, _), (4, _), (3, _), (0, _), (1, _), (2, _)], _, _)) xt_g327 rfl rfl rfl rfl rfl ?_
            refine xe_iinc xt_g327 rfl (q := 101) rfl rfl (by decide) (L1 := [(7, _), (6, _), (5, _), (4, _), (3, _), (0, _), (1, _), (2, _)]) rfl ?_
            refine xe_s (f := (57, _, _, _)) xt_g327 rfl rfl rfl rfl rfl ?_
            rw [y1, y2] at h88
            rw [decide_eq_true (Decidable.not_not.mp h88)] at ih'
            rw [show ((k : Int) + 1) = ((k + 1 : Nat) : Int) by omega]
            exact xe_loc (by intro q hq; simp only [List.mem_cons, List.not_mem_nil, or_false] at hq; rcases hq with rfl | rfl | rfl | rfl | rfl | rfl | rfl | rfl <;> rfl) (ih')
  refine xe_s (f := (1, _, _, _)) xt_g327 rfl rfl rfl rfl rfl ?_
  refine xe_s (f := (2, _, _, _)) xt_g327 rfl rfl rfl rfl rfl ?_
  refine xe_cvI xt_g327 rfl (q := 5) rfl xk_13_257 rfl (by omega) xt_g328 (by decide) ⟨Nat.le_of_ble_eq_true rfl, Nat.le_of_ble_eq_true rfl, Nat.le_of_ble_eq_true rfl⟩ (xv_siteFrom fm hmn hw hi hD hL) ?_
  refine xe_s (f := (6, [(3, _), (0, _), (1, _), (2, _)], _, _)) xt_g327 rfl rfl rfl rfl rfl ?_
  refine xe_s (f := (7, _, _, _)) xt_g327 rfl rfl rfl rfl rfl ?_
  refine xe_s (f := (8, _, _, _)) xt_g327 rfl rfl rfl rfl rfl ?_
  refine xe_cvI xt_g327 rfl (q := 11) rfl xk_13_257 rfl (by omega) xt_g328 (by decide) ⟨Nat.le_of_ble_eq_true rfl, Nat.le_of_ble_eq_true rfl, Nat.le_of_ble_eq_true rfl⟩ (xv_siteFrom fm hmn hw hj hD' hL) ?_
  refine xe_s (f := (13, [(4, _), (3, _), (0, _), (1, _), (2, _)], _, _)) xt_g327 rfl rfl rfl rfl rfl ?_
  refine xe_bipush xt_g327 rfl (q := 15) rfl (by decide) (by decide) ?_
  refine xe_s (f := (16, _, _, _)) xt_g327 rfl rfl rfl rfl rfl ?_
  refine xe_imul xt_g327 rfl (q := 17) rfl ?_
  refine xe_s (f := (18, _, _, _)) xt_g327 rfl rfl rfl rfl rfl ?_
  refine xe_mga xt_g327 rfl (q := 21) rfl (xf_13_55 fm) (by decide) rfl (by omega) ?_
  try simp only [xo_u, xo_w, Nat.reduceEqDiff, reduceIte, false_and, true_and]
  refine xe_s (f := (22, _, _, _)) xt_g327 rfl rfl rfl rfl rfl ?_
  refine xe_mal (ok := xm_isN) (ty := .int) xt_g327 rfl (q := 23) rfl (fun _ _ => ⟨rfl, rfl, rfl, rfl⟩) rfl rfl rfl (by omega) (by omega) (by omega) (by omega) ?_
  try simp only [xo_u, xo_w, Nat.reduceEqDiff, reduceIte, false_and, true_and]
  rw [a1]
  refine xe_iadd xt_g327 rfl (q := 24) rfl ?_
  refine xe_s (f := (25, _, _, _)) xt_g327 rfl rfl rfl rfl rfl ?_
  refine xe_isub xt_g327 rfl (q := 26) rfl ?_
  rw [show 40 * (i : Int) + D.length - (40 * (i : Int) + st_site D L) = ((st_tail D L).length : Nat) by rw [t1]; omega]
  refine xe_s (f := (28, [(5, _), (4, _), (3, _), (0, _), (1, _), (2, _)], _, _)) xt_g327 rfl rfl rfl rfl rfl ?_
  refine xe_s (f := (30, _, _, _)) xt_g327 rfl rfl rfl rfl rfl ?_
  refine xe_bipush xt_g327 rfl (q := 32) rfl (by decide) (by decide) ?_
  refine xe_s (f := (33, _, _, _)) xt_g327 rfl rfl rfl rfl rfl ?_
  refine xe_imul xt_g327 rfl (q := 34) rfl ?_
  refine xe_s (f := (35, _, _, _)) xt_g327 rfl rfl rfl rfl rfl ?_
  refine xe_mga xt_g327 rfl (q := 38) rfl (xf_13_55 fm) (by decide) rfl (by omega) ?_
  try simp only [xo_u, xo_w, Nat.reduceEqDiff, reduceIte, false_and, true_and]
  refine xe_s (f := (39, _, _, _)) xt_g327 rfl rfl rfl rfl rfl ?_
  refine xe_mal (ok := xm_isN) (ty := .int) xt_g327 rfl (q := 40) rfl (fun _ _ => ⟨rfl, rfl, rfl, rfl⟩) rfl rfl rfl (by omega) (by omega) (by omega) (by omega) ?_
  try simp only [xo_u, xo_w, Nat.reduceEqDiff, reduceIte, false_and, true_and]
  rw [a2]
  refine xe_iadd xt_g327 rfl (q := 41) rfl ?_
  refine xe_s (f := (43, _, _, _)) xt_g327 rfl rfl rfl rfl rfl ?_
  refine xe_isub xt_g327 rfl (q := 44) rfl ?_
  rw [show 40 * (j : Int) + D'.length - (40 * (j : Int) + st_site D' L) = ((st_tail D' L).length : Nat) by rw [t2]; omega]
  refine xe_ic_ne xt_g327 rfl (t := 51) rfl (q := 47) rfl (by first | omega | exact hw.1 _ | exact hw.2 _ _ | exact xb_r _) (by first | omega | exact hw.1 _ | exact hw.2 _ _ | exact xb_r _) (fun h44 => ?_) (fun h44 => ?_)
  · refine xe_s (f := (52, _, xi 0 :: _, _)) xt_g327 rfl rfl rfl rfl rfl ?_
    refine xe_s (f := (54, [(6, _), (5, _), (4, _), (3, _), (0, _), (1, _), (2, _)], _, _)) xt_g327 rfl rfl rfl rfl rfl ?_
    refine xe_s (f := (55, _, xi 0 :: _, _)) xt_g327 rfl rfl rfl rfl rfl ?_
    refine xe_s (f := (57, [(7, _), (6, _), (5, _), (4, _), (3, _), (0, _), (1, _), (2, _)], _, _)) xt_g327 rfl rfl rfl rfl rfl ?_
    have h := e57 false (by rw [decide_eq_false (by omega)])
    exact xe_loc (by intro q hq; simp only [List.mem_cons, List.not_mem_nil, or_false] at hq; rcases hq with rfl | rfl | rfl | rfl | rfl | rfl | rfl | rfl <;> rfl) (h)
  · refine xe_s (f := (48, _, xi 1 :: _, _)) xt_g327 rfl rfl rfl rfl rfl ?_
    refine xe_s (f := (52, _, _, _)) xt_g327 rfl rfl rfl rfl rfl ?_
    refine xe_s (f := (54, [(6, _), (5, _), (4, _), (3, _), (0, _), (1, _), (2, _)], _, _)) xt_g327 rfl rfl rfl rfl rfl ?_
    refine xe_s (f := (55, _, xi 0 :: _, _)) xt_g327 rfl rfl rfl rfl rfl ?_
    refine xe_s (f := (57, [(7, _), (6, _), (5, _), (4, _), (3, _), (0, _), (1, _), (2, _)], _, _)) xt_g327 rfl rfl rfl rfl rfl ?_
    have h := e57 true (by rw [decide_eq_true (by omega)])
    exact xe_loc (by intro q hq; simp only [List.mem_cons, List.not_mem_nil, or_false] at hq; rcases hq with rfl | rfl | rfl | rfl | rfl | rfl | rfl | rfl <;> rfl) (h)
end XST
