/-! the reference: suffixes -/
def sf_at (s : Nat → Int) (ar : Nat → Nat → Int) (L : List (List Int)) : Prop := s 16 = L.length ∧ L.length ≤ 8 ∧ ∀ i, i < L.length → ar 15 i = (L.getD i []).length ∧ (L.getD i []).length ≤ 80 ∧ xh (ar 14) (80 * i) (L.getD i [])
theorem sf_at_q {S A : List Nat} {s s1 : Nat → Int} {ar ar1 : Nat → Nat → Int} {L : List (List Int)} (h : sf_at s ar L) (q : xq S A s ar s1 ar1) (h1 : 16 ∉ S) (h2 : 14 ∉ A) (h3 : 15 ∉ A) : sf_at s1 ar1 L := by
  unfold sf_at
  rw [q.1 16 h1, q.2 14 h2, q.2 15 h3]
  exact h
theorem xh_eq {f : Nat → Int} {p : Nat} {l l' : List Int} (h : xh f p l) (h' : xh f p l') (hl : l.length = l'.length) : l = l' := xg_ext hl (fun i hi => by rw [← h i hi, ← h' i (by omega)])
theorem xd_hs_77 {t : Int → Int} {E : Int} : ∀ (F : Nat) (lb k : Int), (xd_hs t E F lb k).2 = true → lb ≤ 5 ∧ (xd_hs t E F lb k).1 - k ≤ 13 * (6 - lb) - 1 ∧ 1 ≤ (xd_hs t E F lb k).1 - k
  | 0, lb, k, h => by
    unfold xd_hs at h
    cases h
  | F + 1, lb, k, h => by
    have hc := xd_cnt_r (p := xd_lbl) (t := t) (E - k).toNat k
    unfold xd_hs at h ⊢
    split at h
    · cases h
    · rename_i h1
      rw [if_neg h1]
      split at h
      · rename_i h2
        rw [if_pos h2]
        have ih := xd_hs_77 F (lb + 1) (k + xd_cnt xd_lbl t (E - k).toNat k + 1) h
        omega
      · rename_i h2
        rw [if_neg h2]
        dsimp only
        omega
section XSU
variable (fm : Value) {m n : Nat} {h0 : xm_H} {s : Nat → Int} {ar : Nat → Nat → Int}
theorem xv_isSuffix (hmn : xo_in m n) (hw : xo_wf s ar) {j kF eF : Nat} (hA : xo_A[j]? = some (kF, 0, eF)) (heF : eF ≤ 5000) {i b : Nat} {e : Int} {S R : List Int} (hi : i < 8) (h15 : ar 15 i = S.length) (hSl : S.length ≤ 80) (hS : xh (ar 14) (80 * i) S) (hR : xh (ar kF) b R) (he : e = (b : Int) + R.length) (heb : b + R.length ≤ eF) :
    xv fm 254 m n h0 s ar [.ref m, xi i, .ref (m + 1 + j), xi b, xi e] (some (xi (xb (decide (R = S))))) s ar := by
  show xe fm 254 (0, [(0, .ref m), (1, xi i), (2, .ref (m + 1 + j)), (3, xi b), (4, xi e)], [], (xo m s ar h0, n, 0, 0)) _
  have hj : j < 42 := by
    have := (List.getElem?_eq_some_iff.mp hA).1
    rw [xo_Alen] at this
    exact this
  subst he
  have h15' : ar 15 (i : Int).toNat = S.length := h15
  have no : R ≠ S → ∀ k : Nat, k ≤ 100 → xe fm 254 (23, [(6, xi k), (5, xi 0), (0, .ref m), (1, xi i), (2, .ref (m + 1 + j)), (3, xi b), (4, xi ((b : Int) + R.length))], [], (xo m s ar h0, n, 0, 0)) (fun r M => r = .inl (some (xi (xb (decide (R = S))))) ∧ M = (xo m s ar h0, n, 0, 0)) := by
    intro hne k hk
    rw [decide_eq_false hne]
    refine xe_s (f := (25, _, _, _)) xt_g254 rfl rfl rfl rfl rfl ?_
    refine xe_s (f := (26, _, _, _)) xt_g254 rfl rfl rfl rfl rfl ?_
    refine xe_mga xt_g254 rfl (q := 29) rfl (xf_13_34 fm) (by decide) rfl (by omega) ?_
    try simp only [xo_u, xo_w, Nat.reduceEqDiff, reduceIte, false_and, true_and]
    refine xe_s (f := (30, _, _, _)) xt_g254 rfl rfl rfl rfl rfl ?_
    refine xe_mal (ok := xm_isN) (ty := .int) xt_g254 rfl (q := 31) rfl (fun _ _ => ⟨rfl, rfl, rfl, rfl⟩) rfl rfl rfl (by omega) (by omega) (by omega) (by omega) ?_
    try simp only [xo_u, xo_w, Nat.reduceEqDiff, reduceIte, false_and, true_and]
    rw [h15']
    refine xe_ic_ge xt_g254 rfl (t := 73) rfl (q := 34) rfl (by first | omega | exact hw.1 _ | exact hw.2 _ _ | exact xb_r _) (by first | omega | exact hw.1 _ | exact hw.2 _ _ | exact xb_r _) (fun h31 => ?_) (fun h31 => ?_)
    · refine xe_s (f := (75, _, _, _)) xt_g254 rfl rfl rfl rfl rfl ?_
      refine xe_iret xt_g254 rfl rfl (xi_bool (by first | omega | exact xb_or _)).1 ?_
      exact ⟨rfl, rfl⟩
    · refine xe_s (f := (36, _, _, _)) xt_g254 rfl rfl rfl rfl rfl ?_
      refine xe_if_eq xt_g254 rfl (t := 73) rfl (q := 39) rfl (by first | omega | exact hw.1 _ | exact hw.2 _ _ | exact xb_r _) (fun h36 => ?_) (fun h36 => ?_)
      · try simp only [xb_0, xb_1, ne_eq, Decidable.not_not, decide_eq_true_eq, decide_eq_false_iff_not] at h36
        refine xe_s (f := (75, _, _, _)) xt_g254 rfl rfl rfl rfl rfl ?_
        refine xe_iret xt_g254 rfl rfl (xi_bool (by first | omega | exact xb_or _)).1 ?_
        exact ⟨rfl, rfl⟩
      · exact absurd h36 (by omega)
  have loop : R.length = S.length → ∀ (N k : Nat), k + N = S.length → (∀ i, i < k → R.getD i 0 = S.getD i 0) → xe fm 254 (23, [(6, xi k), (5, xi 1), (0, .ref m), (1, xi i), (2, .ref (m + 1 + j)), (3, xi b), (4, xi ((b : Int) + R.length))], [], (xo m s ar h0, n, 0, 0)) (fun r M => r = .inl (some (xi (xb (decide (R = S))))) ∧ M = (xo m s ar h0, n, 0, 0)) := by
    intro hl N
    induction N with
    | zero =>
      intro k hk hall
      have : R = S := xg_ext hl (fun i hi => hall i (by omega))
      rw [decide_eq_true this]
      refine xe_s (f := (25, _, _, _)) xt_g254 rfl rfl rfl rfl rfl ?_
      refine xe_s (f := (26, _, _, _)) xt_g254 rfl rfl rfl rfl rfl ?_
      refine xe_mga xt_g254 rfl (q := 29) rfl (xf_13_34 fm) (by decide) rfl (by omega) ?_
      try simp only [xo_u, xo_w, Nat.reduceEqDiff, reduceIte, false_and, true_and]
      refine xe_s (f := (30, _, _, _)) xt_g254 rfl rfl rfl rfl rfl ?_
      refine xe_mal (ok := xm_isN) (ty := .int) xt_g254 rfl (q := 31) rfl (fun _ _ => ⟨rfl, rfl, rfl, rfl⟩) rfl rfl rfl (by omega) (by omega) (by omega) (by omega) ?_
      try simp only [xo_u, xo_w, Nat.reduceEqDiff, reduceIte, false_and, true_and]
      rw [h15']
      refine xe_ic_ge xt_g254 rfl (t := 73) rfl (q := 34) rfl (by first | omega | exact hw.1 _ | exact hw.2 _ _ | exact xb_r _) (by first | omega | exact hw.1 _ | exact hw.2 _ _ | exact xb_r _) (fun h31 => ?_) (fun h31 => ?_)
      · refine xe_s (f := (75, _, _, _)) xt_g254 rfl rfl rfl rfl rfl ?_
        refine xe_iret xt_g254 rfl rfl (xi_bool (by first | omega | exact xb_or _)).1 ?_
        exact ⟨rfl, rfl⟩
      · exact absurd h31 (by omega)
    | succ N ih =>
      intro k hk hall
      have e1 : ar 14 (80 * (i : Int) + k).toNat = S.getD k 0 := by
        rw [← hS k (by omega)]
        congr 1
      have e2 : ar kF ((b : Int) + k).toNat = R.getD k 0 := by
        rw [← hR k (by omega)]
        congr 1
      have r1 := hw.2 14 (80 * (i : Int) + k).toNat
      have r2 := hw.2 kF ((b : Int) + k).toNat
      have j65 : ∀ z : Int, z = xb (decide (R.getD k 0 = S.getD k 0)) → xe fm 254 (65, [(6, xi k), (5, xi 1), (0, .ref m), (1, xi i), (2, .ref (m + 1 + j)), (3, xi b), (4, xi ((b : Int) + R.length))], [xi z], (xo m s ar h0, n, 0, 0)) (fun r M => r = .inl (some (xi (xb (decide (R = S))))) ∧ M = (xo m s ar h0, n, 0, 0)) := by
        intro z hz
        rw [hz]
        by_cases hkk : R.getD k 0 = S.getD k 0
        · rw [decide_eq_true hkk]
          refine xe_s (f := (67, [(5, _), (6, _), (0, _), (1, _), (2, _), (3, _), (4, _)], _, _)) xt_g254 rfl rfl rfl rfl rfl ?_
          refine xe_iinc xt_g254 rfl (q := 70) rfl rfl (by decide) (L1 := [(6, _), (5, _), (0, _), (1, _), (2, _), (3, _), (4, _)]) rfl ?_
          refine xe_s (f := (23, _, _, _)) xt_g254 rfl rfl rfl rfl rfl ?_
          rw [show ((k : Int) + 1) = ((k + 1 : Nat) : Int) by omega]
          exact xe_loc (by intro q hq; simp only [List.mem_cons, List.not_mem_nil, or_false] at hq; rcases hq with rfl | rfl | rfl | rfl | rfl | rfl | rfl <;> rfl) (ih (k + 1) (by omega) (fun i hi => (if h : i = k then by rw [h]; exact hkk else hall i (by omega))))
        · rw [decide_eq_false hkk]
          refine xe_s (f := (67, [(5, _), (6, _), (0, _), (1, _), (2, _), (3, _), (4, _)], _, _)) xt_g254 rfl rfl rfl rfl rfl ?_
          refine xe_iinc xt_g254 rfl (q := 70) rfl rfl (by decide) (L1 := [(6, _), (5, _), (0, _), (1, _), (2, _), (3, _), (4, _)]) rfl ?_
          refine xe_s (f := (23, _, _, _)) xt_g254 rfl rfl rfl rfl rfl ?_
          rw [show ((k : Int) + 1) = ((k + 1 : Nat) : Int) by omega]
          exact xe_loc (by intro q hq; simp only [List.mem_cons, List.not_mem_nil, or_false] at hq; rcases hq with rfl | rfl | rfl | rfl | rfl | rfl | rfl <;> rfl) (no (fun h => hkk (by rw [h])) (k + 1) (by omega))
      refine xe_s (f := (25, _, _, _)) xt_g254 rfl rfl rfl rfl rfl ?_
      refine xe_s (f := (26, _, _, _)) xt_g254 rfl rfl rfl rfl rfl ?_
      refine xe_mga xt_g254 rfl (q := 29) rfl (xf_13_34 fm) (by decide) rfl (by omega) ?_
      refine xe_s (f := (30, _, _, _)) xt_g254 rfl rfl rfl rfl rfl ?_
      refine xe_mal (ok := xm_isN) (ty := .int) xt_g254 rfl (q := 31) rfl (fun _ _ => ⟨rfl, rfl, rfl, rfl⟩) rfl rfl rfl (by omega) (by omega) (by omega) (by omega) ?_
      rw [h15']
      refine xe_ic_ge xt_g254 rfl (t := 73) rfl (q := 34) rfl (by first | omega | exact hw.1 _ | exact hw.2 _ _ | exact xb_r _) (by first | omega | exact hw.1 _ | exact hw.2 _ _ | exact xb_r _) (fun h31 => ?_) (fun h31 => ?_)
      · exact absurd h31 (by omega)
      · refine xe_s (f := (36, _, _, _)) xt_g254 rfl rfl rfl rfl rfl ?_
        refine xe_if_eq xt_g254 rfl (t := 73) rfl (q := 39) rfl (by first | omega | exact hw.1 _ | exact hw.2 _ _ | exact xb_r _) (fun h36 => ?_) (fun h36 => ?_)
        · exact absurd h36 (by omega)
        · refine xe_s (f := (40, _, _, _)) xt_g254 rfl rfl rfl rfl rfl ?_
          refine xe_mga xt_g254 rfl (q := 43) rfl (xf_13_31 fm) (by decide) rfl (by omega) ?_
          refine xe_bipush xt_g254 rfl (q := 45) rfl (by decide) (by decide) ?_
          refine xe_s (f := (46, _, _, _)) xt_g254 rfl rfl rfl rfl rfl ?_
          refine xe_imul xt_g254 rfl (q := 47) rfl ?_
          refine xe_s (f := (49, _, _, _)) xt_g254 rfl rfl rfl rfl rfl ?_
          refine xe_iadd xt_g254 rfl (q := 50) rfl ?_
          refine xe_mal (ok := xm_isN) (ty := .int) xt_g254 rfl (q := 51) rfl (fun _ _ => ⟨rfl, rfl, rfl, rfl⟩) rfl rfl rfl (by omega) (by omega) (by omega) (by omega) ?_
          refine xe_s (f := (52, _, _, _)) xt_g254 rfl rfl rfl rfl rfl ?_
          refine xe_s (f := (53, _, _, _)) xt_g254 rfl rfl rfl rfl rfl ?_
          refine xe_s (f := (55, _, _, _)) xt_g254 rfl rfl rfl rfl rfl ?_
          refine xe_iadd xt_g254 rfl (q := 56) rfl ?_
          refine xe_mal (ok := xm_isN) (ty := .int) xt_g254 rfl (q := 57) rfl (fun _ _ => ⟨rfl, rfl, rfl, rfl⟩) hA rfl rfl (by omega) (by omega) (by omega) (by omega) ?_
          refine xe_ic_ne xt_g254 rfl (t := 64) rfl (q := 60) rfl (by first | omega | exact hw.1 _ | exact hw.2 _ _ | exact xb_r _) (by first | omega | exact hw.1 _ | exact hw.2 _ _ | exact xb_r _) (fun h57 => ?_) (fun h57 => ?_)
          · refine xe_s (f := (65, _, xi 0 :: _, _)) xt_g254 rfl rfl rfl rfl rfl ?_
            exact j65 _ (by rw [← e1, ← e2, decide_eq_false (fun h => h57 h.symm)]; rfl)
          · refine xe_s (f := (61, _, xi 1 :: _, _)) xt_g254 rfl rfl rfl rfl rfl ?_
            refine xe_s (f := (65, _, _, _)) xt_g254 rfl rfl rfl rfl rfl ?_
            exact j65 _ (by rw [← e1, ← e2, decide_eq_true (Decidable.not_not.mp h57).symm]; rfl)
  have j18 : ∀ z : Int, z = xb (decide (R.length = S.length)) → xe fm 254 (18, [(0, .ref m), (1, xi i), (2, .ref (m + 1 + j)), (3, xi b), (4, xi ((b : Int) + R.length))], [xi z], (xo m s ar h0, n, 0, 0)) (fun r M => r = .inl (some (xi (xb (decide (R = S))))) ∧ M = (xo m s ar h0, n, 0, 0)) := by
    intro z hz
    rw [hz]
    by_cases hl : R.length = S.length
    · rw [decide_eq_true hl]
      refine xe_s (f := (20, [(5, _), (0, _), (1, _), (2, _), (3, _), (4, _)], _, _)) xt_g254 rfl rfl rfl rfl rfl ?_
      refine xe_s (f := (21, _, xi 0 :: _, _)) xt_g254 rfl rfl rfl rfl rfl ?_
      refine xe_s (f := (23, [(6, _), (5, _), (0, _), (1, _), (2, _), (3, _), (4, _)], _, _)) xt_g254 rfl rfl rfl rfl rfl ?_
      exact loop hl S.length 0 (by omega) (fun i hi => absurd hi (by omega))
    · rw [decide_eq_false hl]
      refine xe_s (f := (20, [(5, _), (0, _), (1, _), (2, _), (3, _), (4, _)], _, _)) xt_g254 rfl rfl rfl rfl rfl ?_
      refine xe_s (f := (21, _, xi 0 :: _, _)) xt_g254 rfl rfl rfl rfl rfl ?_
      refine xe_s (f := (23, [(6, _), (5, _), (0, _), (1, _), (2, _), (3, _), (4, _)], _, _)) xt_g254 rfl rfl rfl rfl rfl ?_
      exact no (fun h => hl (by rw [h])) 0 (by omega)
  refine xe_s (f := (2, _, _, _)) xt_g254 rfl rfl rfl rfl rfl ?_
  refine xe_s (f := (3, _, _, _)) xt_g254 rfl rfl rfl rfl rfl ?_
  refine xe_isub xt_g254 rfl (q := 4) rfl ?_
  refine xe_s (f := (5, _, _, _)) xt_g254 rfl rfl rfl rfl rfl ?_
  refine xe_mga xt_g254 rfl (q := 8) rfl (xf_13_34 fm) (by decide) rfl (by omega) ?_
  refine xe_s (f := (9, _, _, _)) xt_g254 rfl rfl rfl rfl rfl ?_
  refine xe_mal (ok := xm_isN) (ty := .int) xt_g254 rfl (q := 10) rfl (fun _ _ => ⟨rfl, rfl, rfl, rfl⟩) rfl rfl rfl (by omega) (by omega) (by omega) (by omega) ?_
  rw [h15', show (b : Int) + R.length - b = R.length by omega]
  refine xe_ic_ne xt_g254 rfl (t := 17) rfl (q := 13) rfl (by first | omega | exact hw.1 _ | exact hw.2 _ _ | exact xb_r _) (by first | omega | exact hw.1 _ | exact hw.2 _ _ | exact xb_r _) (fun h10 => ?_) (fun h10 => ?_)
  · refine xe_s (f := (18, _, xi 0 :: _, _)) xt_g254 rfl rfl rfl rfl rfl ?_
    exact j18 _ (by rw [decide_eq_false (by omega)]; rfl)
  · refine xe_s (f := (14, _, xi 1 :: _, _)) xt_g254 rfl rfl rfl rfl rfl ?_
    refine xe_s (f := (18, _, _, _)) xt_g254 rfl rfl rfl rfl rfl ?_
    exact j18 _ (by rw [decide_eq_true (by omega)]; rfl)
/-- what suffix() answers, and the suffixes behind it -/
def sf_new (t : Int → Int) (E : Int) (L : List (List Int)) : Option (List Int) := if (xd_hs t E 7 0 0).2 = true ∧ (xd_hs t E 7 0 0).1 = E ∧ L.length < 8 ∧ pa_hn t 0 E ∉ L then some (pa_hn t 0 E) else none
def sf_ans (L : List (List Int)) (r : Option (List Int)) : Int := match r with
  | none => -1
  | some _ => L.length + 1
def sf_add (L : List (List Int)) (r : Option (List Int)) : List (List Int) := match r with
  | none => L
  | some h => L ++ [h]
def xd_PS (s : Nat → Int) (ar : Nat → Nat → Int) (L : List (List Int)) (r : Option (List Int)) (z : Int) (s' : Nat → Int) (ar' : Nat → Nat → Int) : Prop := xo_wf s' ar' ∧ xq [0, 2, 3, 10, 16] [6, 14, 15] s ar s' ar' ∧ s' 0 = 0 ∧ s' 2 = 0 ∧ z = sf_ans L r ∧ sf_at s' ar' (sf_add L r)
theorem xV_suffix (hmn : xo_in m n) (hw : xo_wf s ar) {L : List (List Int)} (hL : sf_at s ar L) (h2 : 0 ≤ s 2 ∧ s 2 ≤ 160) : xV fm 246 m n h0 s ar [.ref m] (xd_PS s ar L (sf_new (xd_at s ar) (s 2) L)) := by
  show xe fm 246 (0, [(0, .ref m)], [], (xo m s ar h0, n, 0, 0)) _
  generalize hr : sf_new (xd_at s ar) (s 2) L = r
  -- the end: a suffix is added
  have add : ∀ (H : List Int) (s1 : Nat → Int) (ar1 : Nat → Nat → Int), r = some H → H.length ≤ 80 → L.length < 8 → xo_wf s1 ar1 → xq [0, 2, 3, 10] [6] s ar s1 ar1 → s1 0 = 0 → s1 2 = 0 → s1 10 = H.length → xh (ar1 6) 0 H → ∀ v1, xe fm 246 (102, [(1, xi v1), (0, .ref m)], [], (xo m s1 ar1 h0, n, 0, 0)) (xQI m n h0 (xd_PS s ar L r)) := by
    intro H s1 ar1 hrH hHl hL8 w1 q1 g0 g2 g10 gH v1
    have g16 : s1 16 = L.length := (q1.1 16 (by decide)).trans hL.1
    have loop : ∀ (N k : Nat) (ar2 : Nat → Nat → Int), k + N = H.length → xo_wf s1 ar2 → xq [] [14] s1 ar1 s1 ar2 → (∀ i, i < 80 * L.length → ar2 14 i = ar1 14 i) → xh (ar2 14) (80 * L.length) (H.take k) → xe fm 246 (104, [(2, xi k), (1, xi v1), (0, .ref m)], [], (xo m s1 ar2 h0, n, 0, 0)) (xQI m n h0 (xd_PS s ar L r)) := by
      intro N
      induction N with
      | zero =>
        intro k ar2 hk w2 q2 f2 hx
        rw [List.take_of_length_le (by omega)] at hx
        refine xe_s (f := (105, _, _, _)) xt_g246 rfl rfl rfl rfl rfl ?_
        refine xe_s (f := (106, _, _, _)) xt_g246 rfl rfl rfl rfl rfl ?_
        refine xe_mgs xt_g246 rfl (q := 109) rfl (xf_13_185 fm) (by decide) rfl (by omega) ?_
        try simp only [xo_u, xo_w, Nat.reduceEqDiff, reduceIte, false_and, true_and]
        rw [g10]
        refine xe_ic_ge xt_g246 rfl (t := 138) rfl (q := 112) rfl (by first | omega | exact hw.1 _ | exact hw.2 _ _ | exact xb_r _) (by first | omega | exact hw.1 _ | exact hw.2 _ _ | exact xb_r _) (fun h109 => ?_) (fun h109 => ?_)
        · refine xe_s (f := (139, _, _, _)) xt_g246 rfl rfl rfl rfl rfl ?_
          refine xe_mga xt_g246 rfl (q := 142) rfl (xf_13_34 fm) (by decide) rfl (by omega) ?_
          try simp only [xo_u, xo_w, Nat.reduceEqDiff, reduceIte, false_and, true_and]
          refine xe_s (f := (143, _, _, _)) xt_g246 rfl rfl rfl rfl rfl ?_
          refine xe_mgs xt_g246 rfl (q := 146) rfl (xf_13_247 fm) (by decide) rfl (by omega) ?_
          try simp only [xo_u, xo_w, Nat.reduceEqDiff, reduceIte, false_and, true_and]
          rw [g16]
          refine xe_s (f := (147, _, _, _)) xt_g246 rfl rfl rfl rfl rfl ?_
          refine xe_mgs xt_g246 rfl (q := 150) rfl (xf_13_185 fm) (by decide) rfl (by omega) ?_
          try simp only [xo_u, xo_w, Nat.reduceEqDiff, reduceIte, false_and, true_and]
          rw [g10]
          refine xe_mas (ok := xm_isN) (ty := .int) xt_g246 rfl (q := 151) rfl (fun _ _ => ⟨rfl, rfl, rfl, rfl⟩) rfl rfl rfl (by omega) (by omega) (by omega) (by omega) (by omega) rfl ?_
          refine xe_s (f := (152, _, _, _)) xt_g246 rfl rfl rfl rfl rfl ?_
          refine xe_s (f := (153, _, _, _)) xt_g246 rfl rfl rfl rfl rfl ?_
          refine xe_mgs xt_g246 rfl (q := 156) rfl (xf_13_247 fm) (by decide) rfl (by omega) ?_
          try simp only [xo_u, xo_w, Nat.reduceEqDiff, reduceIte, false_and, true_and]
          rw [g16]
          refine xe_s (f := (157, _, xi 1 :: _, _)) xt_g246 rfl rfl rfl rfl rfl ?_
          refine xe_iadd xt_g246 rfl (q := 158) rfl ?_
          refine xe_mps xt_g246 rfl (q := 161) rfl (xf_13_247 fm) (by decide) rfl (by omega) (by omega) xi_int (Or.inl rfl) ?_
          refine xe_s (f := (162, _, _, _)) xt_g246 rfl rfl rfl rfl rfl ?_
          refine xe_mgs xt_g246 rfl (q := 165) rfl (xf_13_247 fm) (by decide) rfl (by omega) ?_
          try simp only [xo_u, xo_w, Nat.reduceEqDiff, reduceIte, false_and, true_and]
          refine xe_iret xt_g246 rfl rfl xi_int.1 ?_
          have hA := hL.2.2
          rw [hrH]
          refine ⟨_, _, _, rfl, rfl, xo_wf_u (xo_wf_w w2 (by omega)) (by omega), xq_u (xq_w (xq_t (xq_mm q1 (by decide) (by decide)) (xq_mm q2 (by decide) (by decide))) (by decide)) (by decide), ?_, ?_, ?_, ?_, ?_, ?_⟩
          · rw [xo_uN (by decide)]
            exact g0
          · rw [xo_uN (by decide)]
            exact g2
          · rfl
          · rw [xo_uS]
            simp [sf_add]
          · simp [sf_add]
            omega
          · intro i hi
            simp only [sf_add, List.length_append, List.length_singleton] at hi
            rw [xo_wK (F := 15) (k := 14) (by decide)]
            by_cases hil : i < L.length
            · have e1 : (sf_add L (some H)).getD i [] = L.getD i [] := by simp [sf_add, List.getD, List.getElem?_append_left hil]
              rw [e1, xo_wI (by omega), q2.2 15 (by decide), q1.2 15 (by decide)]
              refine ⟨(hA i hil).1, (hA i hil).2.1, xh_e (hA i hil).2.2 (fun j hj => ?_)⟩
              have := (hA i hil).2.1
              rw [f2 _ (by omega), q1.2 14 (by decide)]
            · have e1 : (sf_add L (some H)).getD i [] = H := by
                rw [show i = L.length by omega]
                simp [sf_add]
              rw [e1, show i = L.length by omega]
              exact ⟨xo_wS, hHl, hx⟩
        · exact absurd h109 (by omega)
      | succ N ih =>
        intro k ar2 hk w2 q2 f2 hx
        have hlt : k < H.length := by omega
        have e6 : ar2 6 (k : Int).toNat = H.getD k 0 := by
          rw [q2.2 6 (by decide), ← gH k hlt, Nat.zero_add]
          rfl
        refine xe_s (f := (105, _, _, _)) xt_g246 rfl rfl rfl rfl rfl ?_
        refine xe_s (f := (106, _, _, _)) xt_g246 rfl rfl rfl rfl rfl ?_
        refine xe_mgs xt_g246 rfl (q := 109) rfl (xf_13_185 fm) (by decide) rfl (by omega) ?_
        try simp only [xo_u, xo_w, Nat.reduceEqDiff, reduceIte, false_and, true_and]
        rw [g10]
        refine xe_ic_ge xt_g246 rfl (t := 138) rfl (q := 112) rfl (by first | omega | exact hw.1 _ | exact hw.2 _ _ | exact xb_r _) (by first | omega | exact hw.1 _ | exact hw.2 _ _ | exact xb_r _) (fun h109 => ?_) (fun h109 => ?_)
        · exact absurd h109 (by omega)
        · refine xe_s (f := (113, _, _, _)) xt_g246 rfl rfl rfl rfl rfl ?_
          refine xe_mga xt_g246 rfl (q := 116) rfl (xf_13_31 fm) (by decide) rfl (by omega) ?_
          try simp only [xo_u, xo_w, Nat.reduceEqDiff, reduceIte, false_and, true_and]
          refine xe_bipush xt_g246 rfl (q := 118) rfl (by decide) (by decide) ?_
          refine xe_s (f := (119, _, _, _)) xt_g246 rfl rfl rfl rfl rfl ?_
          refine xe_mgs xt_g246 rfl (q := 122) rfl (xf_13_247 fm) (by decide) rfl (by omega) ?_
          try simp only [xo_u, xo_w, Nat.reduceEqDiff, reduceIte, false_and, true_and]
          rw [g16]
          refine xe_imul xt_g246 rfl (q := 123) rfl ?_
          refine xe_s (f := (124, _, _, _)) xt_g246 rfl rfl rfl rfl rfl ?_
          refine xe_iadd xt_g246 rfl (q := 125) rfl ?_
          refine xe_s (f := (126, _, _, _)) xt_g246 rfl rfl rfl rfl rfl ?_
          refine xe_mga xt_g246 rfl (q := 129) rfl (xf_13_19 fm) (by decide) rfl (by omega) ?_
          try simp only [xo_u, xo_w, Nat.reduceEqDiff, reduceIte, false_and, true_and]
          refine xe_s (f := (130, _, _, _)) xt_g246 rfl rfl rfl rfl rfl ?_
          refine xe_mal (ok := xm_isN) (ty := .int) xt_g246 rfl (q := 131) rfl (fun _ _ => ⟨rfl, rfl, rfl, rfl⟩) rfl rfl rfl (by omega) (by omega) (by omega) (by omega) ?_
          try simp only [xo_u, xo_w, Nat.reduceEqDiff, reduceIte, false_and, true_and]
          refine xe_mas (ok := xm_isN) (ty := .int) xt_g246 rfl (q := 132) rfl (fun _ _ => ⟨rfl, rfl, rfl, rfl⟩) rfl rfl rfl (by omega) (by omega) (by omega) (by omega) (by omega) rfl ?_
          refine xe_iinc xt_g246 rfl (q := 135) rfl rfl (by decide) (L1 := [(2, _), (1, _), (0, _)]) rfl ?_
          refine xe_s (f := (104, _, _, _)) xt_g246 rfl rfl rfl rfl rfl ?_
          rw [e6, show ((k : Int) + 1) = ((k + 1 : Nat) : Int) by omega, show (80 * (L.length : Int) + k).toNat = 80 * L.length + k by omega]
          refine ih (k + 1) _ (by omega) (xo_wf_w w2 (by rw [← e6]; exact w2.2 _ _)) (xq_w q2 (by decide)) (fun i hi => by rw [xo_wI (by omega)]; exact f2 i hi) ?_
          rw [List.take_succ_eq_append_getElem hlt, show H[k] = H.getD k 0 by simp [List.getD, hlt]]
          exact xh_w (by rw [List.length_take]; omega) hx
    refine xe_s (f := (103, _, xi 0 :: _, _)) xt_g246 rfl rfl rfl rfl rfl ?_
    refine xe_s (f := (104, [(2, _), (1, _), (0, _)], _, _)) xt_g246 rfl rfl rfl rfl rfl ?_
    exact xe_loc (by intro q hq; simp only [List.mem_cons, List.not_mem_nil, or_false] at hq; rcases hq with rfl | rfl | rfl <;> rfl) (loop H.length 0 ar1 (by omega) w1 xq_r (fun _ _ => rfl) xh_nil)
  have fail : ∀ (s1 : Nat → Int) (ar1 : Nat → Nat → Int), r = none → xo_wf s1 ar1 → xq [0, 2, 3, 10] [6] s ar s1 ar1 → s1 0 = 0 → s1 2 = 0 → xd_PS s ar L r (-1) s1 ar1 := by
    intro s1 ar1 hrn w1 q1 g0 g2
    rw [hrn]
    exact ⟨w1, xq_mm q1 (by decide) (by decide), g0, g2, rfl, sf_at_q hL q1 (by decide) (by decide) (by decide)⟩
  -- the loop over the suffixes
  have l55 : ∀ (H : List Int) (s1 : Nat → Int) (ar1 : Nat → Nat → Int), H.length ≤ 80 → L.length < 8 → r = (if H ∈ L then none else some H) → xo_wf s1 ar1 → xq [0, 2, 3, 10] [6] s ar s1 ar1 → s1 0 = 0 → s1 2 = 0 → s1 10 = H.length → xh (ar1 6) 0 H → ∀ (N k : Nat), k + N = L.length → (∀ i, i < k → H ≠ L.getD i []) → xe fm 246 (55, [(2, xi k), (1, xi 1), (0, .ref m)], [], (xo m s1 ar1 h0, n, 0, 0)) (xQI m n h0 (xd_PS s ar L r)) := by
    intro H s1 ar1 hHl hL8 hrH w1 q1 g0 g2 g10 gH N
    have g16 : s1 16 = L.length := (q1.1 16 (by decide)).trans hL.1
    have hL1 : sf_at s1 ar1 L := sf_at_q hL q1 (by decide) (by decide) (by decide)
    have out : H ∈ L → ∀ k : Nat, k ≤ 10 → xe fm 246 (55, [(2, xi k), (1, xi 0), (0, .ref m)], [], (xo m s1 ar1 h0, n, 0, 0)) (xQI m n h0 (xd_PS s ar L r)) := by
      intro hin k hk
      rw [if_pos hin] at hrH
      refine xe_s (f := (56, _, _, _)) xt_g246 rfl rfl rfl rfl rfl ?_
      refine xe_s (f := (57, _, _, _)) xt_g246 rfl rfl rfl rfl rfl ?_
      refine xe_mgs xt_g246 rfl (q := 60) rfl (xf_13_247 fm) (by decide) rfl (by omega) ?_
      try simp only [xo_u, xo_w, Nat.reduceEqDiff, reduceIte, false_and, true_and]
      rw [g16]
      refine xe_ic_ge xt_g246 rfl (t := 96) rfl (q := 63) rfl (by first | omega | exact hw.1 _ | exact hw.2 _ _ | exact xb_r _) (by first | omega | exact hw.1 _ | exact hw.2 _ _ | exact xb_r _) (fun h60 => ?_) (fun h60 => ?_)
      · refine xe_s (f := (97, _, _, _)) xt_g246 rfl rfl rfl rfl rfl ?_
        refine xe_if_ne xt_g246 rfl (t := 102) rfl (q := 100) rfl (by first | omega | exact hw.1 _ | exact hw.2 _ _ | exact xb_r _) (fun h97 => ?_) (fun h97 => ?_)
        · exact absurd h97 (by decide)
        · try simp only [xb_0, xb_1, ne_eq, Decidable.not_not, decide_eq_true_eq, decide_eq_false_iff_not] at h97
          refine xe_s (f := (101, _, xi (-1) :: _, _)) xt_g246 rfl rfl rfl rfl rfl ?_
          refine xe_iret xt_g246 rfl rfl xi_int.1 ?_
          exact ⟨_, _, _, rfl, rfl, fail s1 ar1 hrH w1 q1 g0 g2⟩
      · refine xe_s (f := (64, _, _, _)) xt_g246 rfl rfl rfl rfl rfl ?_
        refine xe_if_eq xt_g246 rfl (t := 96) rfl (q := 67) rfl (by first | omega | exact hw.1 _ | exact hw.2 _ _ | exact xb_r _) (fun h64 => ?_) (fun h64 => ?_)
        · try simp only [xb_0, xb_1, ne_eq, Decidable.not_not, decide_eq_true_eq, decide_eq_false_iff_not] at h64
          refine xe_s (f := (97, _, _, _)) xt_g246 rfl rfl rfl rfl rfl ?_
          refine xe_if_ne xt_g246 rfl (t := 102) rfl (q := 100) rfl (by first | omega | exact hw.1 _ | exact hw.2 _ _ | exact xb_r _) (fun h97 => ?_) (fun h97 => ?_)
          · exact absurd h97 (by decide)
          · try simp only [xb_0, xb_1, ne_eq, Decidable.not_not, decide_eq_true_eq, decide_eq_false_iff_not] at h97
            refine xe_s (f := (101, _, xi (-1) :: _, _)) xt_g246 rfl rfl rfl rfl rfl ?_
            refine xe_iret xt_g246 rfl rfl xi_int.1 ?_
            exact ⟨_, _, _, rfl, rfl, fail s1 ar1 hrH w1 q1 g0 g2⟩
        · exact absurd h64 (by omega)
    induction N with
    | zero =>
      intro k hk hall
      have hnin : H ∉ L := by
        intro hin
        obtain ⟨i, hi, e⟩ := List.getElem_of_mem hin
        exact hall i (by omega) (by simp [List.getD, hi, e])
      rw [if_neg hnin] at hrH
      refine xe_s (f := (56, _, _, _)) xt_g246 rfl rfl rfl rfl rfl ?_
      refine xe_s (f := (57, _, _, _)) xt_g246 rfl rfl rfl rfl rfl ?_
      refine xe_mgs xt_g246 rfl (q := 60) rfl (xf_13_247 fm) (by decide) rfl (by omega) ?_
      try simp only [xo_u, xo_w, Nat.reduceEqDiff, reduceIte, false_and, true_and]
      rw [g16]
      refine xe_ic_ge xt_g246 rfl (t := 96) rfl (q := 63) rfl (by first | omega | exact hw.1 _ | exact hw.2 _ _ | exact xb_r _) (by first | omega | exact hw.1 _ | exact hw.2 _ _ | exact xb_r _) (fun h60 => ?_) (fun h60 => ?_)
      · refine xe_s (f := (97, _, _, _)) xt_g246 rfl rfl rfl rfl rfl ?_
        refine xe_if_ne xt_g246 rfl (t := 102) rfl (q := 100) rfl (by first | omega | exact hw.1 _ | exact hw.2 _ _ | exact xb_r _) (fun h97 => ?_) (fun h97 => ?_)
        · try simp only [xb_0, xb_1, ne_eq, Decidable.not_not, decide_eq_true_eq, decide_eq_false_iff_not] at h97
          exact xe_loc (by intro q hq; simp only [List.mem_cons, List.not_mem_nil, or_false] at hq; rcases hq with rfl | rfl <;> rfl) (add H s1 ar1 hrH hHl hL8 w1 q1 g0 g2 g10 gH 1)
        · exact absurd (show (1 : Int) ≠ 0 by decide) h97
      · exact absurd h60 (by omega)
    | succ N ih =>
      intro k hk hall
      obtain ⟨a1, a2, a3⟩ := hL1.2.2 k (by omega)
      have hsx := xv_isSuffix fm hmn (h0 := h0) w1 (j := 3) (kF := 6) (eF := 300) rfl (by decide) (i := k) (b := 0) (e := H.length) (S := L.getD k []) (R := H) (by omega) a1 a2 a3 gH (by omega) (by omega)
      have j89 : ∀ z : Int, z = xb (decide (H ≠ L.getD k [])) → xe fm 246 (89, [(2, xi k), (1, xi 1), (0, .ref m)], [xi z], (xo m s1 ar1 h0, n, 0, 0)) (xQI m n h0 (xd_PS s ar L r)) := by
        intro z hz
        rw [hz]
        by_cases hkk : H = L.getD k []
        · rw [decide_eq_false (fun h => h hkk)]
          refine xe_s (f := (90, [(1, _), (2, _), (0, _)], _, _)) xt_g246 rfl rfl rfl rfl rfl ?_
          refine xe_iinc xt_g246 rfl (q := 93) rfl rfl (by decide) (L1 := [(2, _), (1, _), (0, _)]) rfl ?_
          refine xe_s (f := (55, _, _, _)) xt_g246 rfl rfl rfl rfl rfl ?_
          rw [show ((k : Int) + 1) = ((k + 1 : Nat) : Int) by omega]
          exact xe_loc (by intro q hq; simp only [List.mem_cons, List.not_mem_nil, or_false] at hq; rcases hq with rfl | rfl | rfl <;> rfl) (out (by rw [hkk]; simp only [List.getD, List.getElem?_eq_getElem (show k < L.length by omega), Option.getD_some]; exact List.getElem_mem _) (k + 1) (by omega))
        · rw [decide_eq_true hkk]
          refine xe_s (f := (90, [(1, _), (2, _), (0, _)], _, _)) xt_g246 rfl rfl rfl rfl rfl ?_
          refine xe_iinc xt_g246 rfl (q := 93) rfl rfl (by decide) (L1 := [(2, _), (1, _), (0, _)]) rfl ?_
          refine xe_s (f := (55, _, _, _)) xt_g246 rfl rfl rfl rfl rfl ?_
          rw [show ((k : Int) + 1) = ((k + 1 : Nat) : Int) by omega]
          exact xe_loc (by intro q hq; simp only [List.mem_cons, List.not_mem_nil, or_false] at hq; rcases hq with rfl | rfl | rfl <;> rfl) (ih (k + 1) (by omega) (fun i hi => (if h : i = k then by rw [h]; exact hkk else hall i (by omega))))
      refine xe_s (f := (56, _, _, _)) xt_g246 rfl rfl rfl rfl rfl ?_
      refine xe_s (f := (57, _, _, _)) xt_g246 rfl rfl rfl rfl rfl ?_
      refine xe_mgs xt_g246 rfl (q := 60) rfl (xf_13_247 fm) (by decide) rfl (by omega) ?_
      try simp only [xo_u, xo_w, Nat.reduceEqDiff, reduceIte, false_and, true_and]
      rw [g16]
      refine xe_ic_ge xt_g246 rfl (t := 96) rfl (q := 63) rfl (by first | omega | exact hw.1 _ | exact hw.2 _ _ | exact xb_r _) (by first | omega | exact hw.1 _ | exact hw.2 _ _ | exact xb_r _) (fun h60 => ?_) (fun h60 => ?_)
      · exact absurd h60 (by omega)
      · refine xe_s (f := (64, _, _, _)) xt_g246 rfl rfl rfl rfl rfl ?_
        refine xe_if_eq xt_g246 rfl (t := 96) rfl (q := 67) rfl (by first | omega | exact hw.1 _ | exact hw.2 _ _ | exact xb_r _) (fun h64 => ?_) (fun h64 => ?_)
        · exact absurd h64 (by omega)
        · try simp only [xb_0, xb_1, ne_eq, Decidable.not_not, decide_eq_true_eq, decide_eq_false_iff_not] at h64
          refine xe_s (f := (68, _, _, _)) xt_g246 rfl rfl rfl rfl rfl ?_
          refine xe_s (f := (69, _, _, _)) xt_g246 rfl rfl rfl rfl rfl ?_
          refine xe_s (f := (70, _, _, _)) xt_g246 rfl rfl rfl rfl rfl ?_
          refine xe_mga xt_g246 rfl (q := 73) rfl (xf_13_19 fm) (by decide) rfl (by omega) ?_
          try simp only [xo_u, xo_w, Nat.reduceEqDiff, reduceIte, false_and, true_and]
          refine xe_s (f := (74, _, xi 0 :: _, _)) xt_g246 rfl rfl rfl rfl rfl ?_
          refine xe_s (f := (75, _, _, _)) xt_g246 rfl rfl rfl rfl rfl ?_
          refine xe_mgs xt_g246 rfl (q := 78) rfl (xf_13_185 fm) (by decide) rfl (by omega) ?_
          try simp only [xo_u, xo_w, Nat.reduceEqDiff, reduceIte, false_and, true_and]
          rw [g10]
          refine xe_cvI xt_g246 rfl (q := 81) rfl xk_13_250 rfl (by omega) xt_g254 (by decide) ⟨Nat.le_of_ble_eq_true rfl, Nat.le_of_ble_eq_true rfl, Nat.le_of_ble_eq_true rfl⟩ (hsx) ?_
          refine xe_if_ne xt_g246 rfl (t := 88) rfl (q := 84) rfl (by first | omega | exact hw.1 _ | exact hw.2 _ _ | exact xb_r _) (fun h81 => ?_) (fun h81 => ?_)
          · try simp only [xb_0, xb_1, ne_eq, Decidable.not_not, decide_eq_true_eq, decide_eq_false_iff_not] at h81
            refine xe_s (f := (89, _, xi 0 :: _, _)) xt_g246 rfl rfl rfl rfl rfl ?_
            exact j89 _ (by rw [decide_eq_false (fun h => h h81)]; rfl)
          · try simp only [xb_0, xb_1, ne_eq, Decidable.not_not, decide_eq_true_eq, decide_eq_false_iff_not] at h81
            refine xe_s (f := (85, _, xi 1 :: _, _)) xt_g246 rfl rfl rfl rfl rfl ?_
            refine xe_s (f := (89, _, _, _)) xt_g246 rfl rfl rfl rfl rfl ?_
            exact j89 _ (by rw [decide_eq_true h81]; rfl)
  have n55 : ∀ (s1 : Nat → Int) (ar1 : Nat → Nat → Int), r = none → xo_wf s1 ar1 → xq [0, 2, 3, 10] [6] s ar s1 ar1 → s1 0 = 0 → s1 2 = 0 → xe fm 246 (55, [(2, xi 0), (1, xi 0), (0, .ref m)], [], (xo m s1 ar1 h0, n, 0, 0)) (xQI m n h0 (xd_PS s ar L r)) := by
    intro s1 ar1 hrn w1 q1 g0 g2
    have g16 : s1 16 = L.length := (q1.1 16 (by decide)).trans hL.1
    have hL8 := hL.2.1
    refine xe_s (f := (56, _, _, _)) xt_g246 rfl rfl rfl rfl rfl ?_
    refine xe_s (f := (57, _, _, _)) xt_g246 rfl rfl rfl rfl rfl ?_
    refine xe_mgs xt_g246 rfl (q := 60) rfl (xf_13_247 fm) (by decide) rfl (by omega) ?_
    try simp only [xo_u, xo_w, Nat.reduceEqDiff, reduceIte, false_and, true_and]
    rw [g16]
    refine xe_ic_ge xt_g246 rfl (t := 96) rfl (q := 63) rfl (by first | omega | exact hw.1 _ | exact hw.2 _ _ | exact xb_r _) (by first | omega | exact hw.1 _ | exact hw.2 _ _ | exact xb_r _) (fun h60 => ?_) (fun h60 => ?_)
    · refine xe_s (f := (97, _, _, _)) xt_g246 rfl rfl rfl rfl rfl ?_
      refine xe_if_ne xt_g246 rfl (t := 102) rfl (q := 100) rfl (by first | omega | exact hw.1 _ | exact hw.2 _ _ | exact xb_r _) (fun h97 => ?_) (fun h97 => ?_)
      · exact absurd h97 (by decide)
      · try simp only [xb_0, xb_1, ne_eq, Decidable.not_not, decide_eq_true_eq, decide_eq_false_iff_not] at h97
        refine xe_s (f := (101, _, xi (-1) :: _, _)) xt_g246 rfl rfl rfl rfl rfl ?_
        refine xe_iret xt_g246 rfl rfl xi_int.1 ?_
        exact ⟨_, _, _, rfl, rfl, fail s1 ar1 hrn w1 q1 g0 g2⟩
    · refine xe_s (f := (64, _, _, _)) xt_g246 rfl rfl rfl rfl rfl ?_
      refine xe_if_eq xt_g246 rfl (t := 96) rfl (q := 67) rfl (by first | omega | exact hw.1 _ | exact hw.2 _ _ | exact xb_r _) (fun h64 => ?_) (fun h64 => ?_)
      · try simp only [xb_0, xb_1, ne_eq, Decidable.not_not, decide_eq_true_eq, decide_eq_false_iff_not] at h64
        refine xe_s (f := (97, _, _, _)) xt_g246 rfl rfl rfl rfl rfl ?_
        refine xe_if_ne xt_g246 rfl (t := 102) rfl (q := 100) rfl (by first | omega | exact hw.1 _ | exact hw.2 _ _ | exact xb_r _) (fun h97 => ?_) (fun h97 => ?_)
        · exact absurd h97 (by decide)
        · try simp only [xb_0, xb_1, ne_eq, Decidable.not_not, decide_eq_true_eq, decide_eq_false_iff_not] at h97
          refine xe_s (f := (101, _, xi (-1) :: _, _)) xt_g246 rfl rfl rfl rfl rfl ?_
          refine xe_iret xt_g246 rfl rfl xi_int.1 ?_
          exact ⟨_, _, _, rfl, rfl, fail s1 ar1 hrn w1 q1 g0 g2⟩
      · exact absurd h64 (by omega)
  have W : xo_wf (xo_u (xo_u (xo_u s 0 0) 10 0) 3 0) ar := xo_wf_u (xo_wf_u (xo_wf_u hw (by omega)) (by omega)) (by omega)
  have Q : xq [0, 2, 3, 10] [6] s ar (xo_u (xo_u (xo_u s 0 0) 10 0) 3 0) ar := xq_u (xq_u (xq_u xq_r (by decide)) (by decide)) (by decide)
  have hrh := xV_readHost fm hmn (h0 := h0) W (H := []) h2 (show 0 ≤ (0 : Int) ∧ (0 : Int) ≤ s 2 by omega) rfl xh_nil (by simp)
  have e1 : xd_at (xo_u (xo_u (xo_u s 0 0) 10 0) 3 0) ar = xd_at s ar := rfl
  have e2 : xo_u (xo_u (xo_u s 0 0) 10 0) 3 0 2 = s 2 := rfl
  have e3 : xo_u (xo_u (xo_u s 0 0) 10 0) 3 0 3 = 0 := rfl
  rw [e1, e2, e3] at hrh
  have hb := xd_hs_b (t := xd_at s ar) (E := s 2) xd_at_E 7 0 0 h2.1
  have h77 := xd_hs_77 (t := xd_at s ar) (E := s 2) 7 0 0
  have hL8 := hL.2.1
  refine xe_s (f := (1, _, _, _)) xt_g246 rfl rfl rfl rfl rfl ?_
  refine xe_s (f := (2, _, xi 0 :: _, _)) xt_g246 rfl rfl rfl rfl rfl ?_
  refine xe_mps xt_g246 rfl (q := 5) rfl (xf_13_146 fm) (by decide) rfl (by omega) (by omega) xi_int (Or.inl rfl) ?_
  refine xe_s (f := (6, _, _, _)) xt_g246 rfl rfl rfl rfl rfl ?_
  refine xe_s (f := (7, _, xi 0 :: _, _)) xt_g246 rfl rfl rfl rfl rfl ?_
  refine xe_mps xt_g246 rfl (q := 10) rfl (xf_13_185 fm) (by decide) rfl (by omega) (by omega) xi_int (Or.inl rfl) ?_
  refine xe_s (f := (11, _, _, _)) xt_g246 rfl rfl rfl rfl rfl ?_
  refine xe_s (f := (12, _, xi 0 :: _, _)) xt_g246 rfl rfl rfl rfl rfl ?_
  refine xe_mps xt_g246 rfl (q := 15) rfl (xf_13_152 fm) (by decide) rfl (by omega) (by omega) xi_int (Or.inl rfl) ?_
  refine xe_s (f := (16, _, _, _)) xt_g246 rfl rfl rfl rfl rfl ?_
  refine xe_chI xt_g246 rfl (q := 19) rfl xk_13_213 rfl (by omega) xt_g247 (by decide) ⟨Nat.le_of_ble_eq_true rfl, Nat.le_of_ble_eq_true rfl, Nat.le_of_ble_eq_true rfl⟩ (hrh) (fun z1 s1 ar1 hp1 => ?_)
  obtain ⟨w1, q1', pz, p3, p4, p5, p10, pH⟩ := hp1
  have q1 := xq_t Q (xq_mm (S' := [0, 2, 3, 10]) (A' := [6]) q1' (by decide) (by decide))
  rw [List.nil_append] at p10 pH
  have g0 : s1 0 = 0 := q1'.1 0 (by decide)
  have g2 : s1 2 = s 2 := q1'.1 2 (by decide)
  have g16 : s1 16 = L.length := (q1.1 16 (by decide)).trans hL.1
  have hzr : xr z1 := by rw [pz]; exact xb_r _
  refine xe_if_eq xt_g246 rfl (t := 46) rfl (q := 22) rfl (by first | omega | exact hw.1 _ | exact hw.2 _ _ | exact xb_r _) (fun h19 => ?_) (fun h19 => ?_)
  · try simp only [xb_0, xb_1, ne_eq, Decidable.not_not, decide_eq_true_eq, decide_eq_false_iff_not] at h19
    refine xe_s (f := (47, _, xi 0 :: _, _)) xt_g246 rfl rfl rfl rfl rfl ?_
    refine xe_s (f := (48, [(1, _), (0, _)], _, _)) xt_g246 rfl rfl rfl rfl rfl ?_
    refine xe_s (f := (49, _, _, _)) xt_g246 rfl rfl rfl rfl rfl ?_
    refine xe_s (f := (50, _, xi 0 :: _, _)) xt_g246 rfl rfl rfl rfl rfl ?_
    refine xe_mps xt_g246 rfl (q := 53) rfl (xf_13_149 fm) (by decide) rfl (by omega) (by omega) xi_int (Or.inl rfl) ?_
    refine xe_s (f := (54, _, xi 0 :: _, _)) xt_g246 rfl rfl rfl rfl rfl ?_
    refine xe_s (f := (55, [(2, _), (1, _), (0, _)], _, _)) xt_g246 rfl rfl rfl rfl rfl ?_
    have hrn : r = none := by
      rw [← hr]
      unfold sf_new
      rw [if_neg]
      rintro ⟨h, _⟩
      rw [pz, h] at h19
      exact absurd h19 (by decide)
    exact n55 _ _ hrn (xo_wf_u w1 (by omega)) (xq_u q1 (by decide)) g0 xo_uS
  · try simp only [xb_0, xb_1, ne_eq, Decidable.not_not, decide_eq_true_eq, decide_eq_false_iff_not] at h19
    refine xe_s (f := (23, _, _, _)) xt_g246 rfl rfl rfl rfl rfl ?_
    refine xe_mgs xt_g246 rfl (q := 26) rfl (xf_13_152 fm) (by decide) rfl (by omega) ?_
    try simp only [xo_u, xo_w, Nat.reduceEqDiff, reduceIte, false_and, true_and]
    rw [p3]
    refine xe_s (f := (27, _, _, _)) xt_g246 rfl rfl rfl rfl rfl ?_
    refine xe_mgs xt_g246 rfl (q := 30) rfl (xf_13_149 fm) (by decide) rfl (by omega) ?_
    try simp only [xo_u, xo_w, Nat.reduceEqDiff, reduceIte, false_and, true_and]
    rw [g2]
    refine xe_ic_ne xt_g246 rfl (t := 46) rfl (q := 33) rfl (by first | omega | exact hw.1 _ | exact hw.2 _ _ | exact xb_r _) (by first | omega | exact hw.1 _ | exact hw.2 _ _ | exact xb_r _) (fun h30 => ?_) (fun h30 => ?_)
    · refine xe_s (f := (47, _, xi 0 :: _, _)) xt_g246 rfl rfl rfl rfl rfl ?_
      refine xe_s (f := (48, [(1, _), (0, _)], _, _)) xt_g246 rfl rfl rfl rfl rfl ?_
      refine xe_s (f := (49, _, _, _)) xt_g246 rfl rfl rfl rfl rfl ?_
      refine xe_s (f := (50, _, xi 0 :: _, _)) xt_g246 rfl rfl rfl rfl rfl ?_
      refine xe_mps xt_g246 rfl (q := 53) rfl (xf_13_149 fm) (by decide) rfl (by omega) (by omega) xi_int (Or.inl rfl) ?_
      refine xe_s (f := (54, _, xi 0 :: _, _)) xt_g246 rfl rfl rfl rfl rfl ?_
      refine xe_s (f := (55, [(2, _), (1, _), (0, _)], _, _)) xt_g246 rfl rfl rfl rfl rfl ?_
      have hrn : r = none := by
        rw [← hr]
        unfold sf_new
        rw [if_neg]
        rintro ⟨_, h, _⟩
        exact h30 h
      exact n55 _ _ hrn (xo_wf_u w1 (by omega)) (xq_u q1 (by decide)) g0 xo_uS
    · refine xe_s (f := (34, _, _, _)) xt_g246 rfl rfl rfl rfl rfl ?_
      refine xe_mgs xt_g246 rfl (q := 37) rfl (xf_13_247 fm) (by decide) rfl (by omega) ?_
      try simp only [xo_u, xo_w, Nat.reduceEqDiff, reduceIte, false_and, true_and]
      rw [g16]
      refine xe_bipush xt_g246 rfl (q := 39) rfl (by decide) (by decide) ?_
      refine xe_ic_ge xt_g246 rfl (t := 46) rfl (q := 42) rfl (by first | omega | exact hw.1 _ | exact hw.2 _ _ | exact xb_r _) (by first | omega | exact hw.1 _ | exact hw.2 _ _ | exact xb_r _) (fun h39 => ?_) (fun h39 => ?_)
      · refine xe_s (f := (47, _, xi 0 :: _, _)) xt_g246 rfl rfl rfl rfl rfl ?_
        refine xe_s (f := (48, [(1, _), (0, _)], _, _)) xt_g246 rfl rfl rfl rfl rfl ?_
        refine xe_s (f := (49, _, _, _)) xt_g246 rfl rfl rfl rfl rfl ?_
        refine xe_s (f := (50, _, xi 0 :: _, _)) xt_g246 rfl rfl rfl rfl rfl ?_
        refine xe_mps xt_g246 rfl (q := 53) rfl (xf_13_149 fm) (by decide) rfl (by omega) (by omega) xi_int (Or.inl rfl) ?_
        refine xe_s (f := (54, _, xi 0 :: _, _)) xt_g246 rfl rfl rfl rfl rfl ?_
        refine xe_s (f := (55, [(2, _), (1, _), (0, _)], _, _)) xt_g246 rfl rfl rfl rfl rfl ?_
        have hrn : r = none := by
          rw [← hr]
          unfold sf_new
          rw [if_neg]
          rintro ⟨_, _, h, _⟩
          omega
        exact n55 _ _ hrn (xo_wf_u w1 (by omega)) (xq_u q1 (by decide)) g0 xo_uS
      · refine xe_s (f := (43, _, xi 1 :: _, _)) xt_g246 rfl rfl rfl rfl rfl ?_
        refine xe_s (f := (47, _, _, _)) xt_g246 rfl rfl rfl rfl rfl ?_
        refine xe_s (f := (48, [(1, _), (0, _)], _, _)) xt_g246 rfl rfl rfl rfl rfl ?_
        refine xe_s (f := (49, _, _, _)) xt_g246 rfl rfl rfl rfl rfl ?_
        refine xe_s (f := (50, _, xi 0 :: _, _)) xt_g246 rfl rfl rfl rfl rfl ?_
        refine xe_mps xt_g246 rfl (q := 53) rfl (xf_13_149 fm) (by decide) rfl (by omega) (by omega) xi_int (Or.inl rfl) ?_
        refine xe_s (f := (54, _, xi 0 :: _, _)) xt_g246 rfl rfl rfl rfl rfl ?_
        refine xe_s (f := (55, [(2, _), (1, _), (0, _)], _, _)) xt_g246 rfl rfl rfl rfl rfl ?_
        have ho : (xd_hs (xd_at s ar) (s 2) 7 0 0).2 = true := by
          cases hh : (xd_hs (xd_at s ar) (s 2) 7 0 0).2 with
          | true => rfl
          | false => rw [pz, hh] at h19; exact absurd rfl h19
        have he := Decidable.not_not.mp h30
        have h78 := h77 ho
        rw [he] at p10 pH h78
        have hrr : r = if pa_hn (xd_at s ar) 0 (s 2) ∈ L then none else some (pa_hn (xd_at s ar) 0 (s 2)) := by
          rw [← hr]
          unfold sf_new
          by_cases hin : pa_hn (xd_at s ar) 0 (s 2) ∈ L
          · rw [if_neg (fun h => h.2.2.2 hin), if_pos hin]
          · rw [if_pos ⟨ho, he, by omega, hin⟩, if_neg hin]
        exact l55 (pa_hn (xd_at s ar) 0 (s 2)) (xo_u s1 2 0) ar1 (by unfold pa_hn; rw [List.length_map, pa_sl_len]; omega) (by omega) hrr (xo_wf_u w1 (by omega)) (xq_u q1 (by decide)) g0 xo_uS p10 pH L.length 0 (by omega) (fun i hi => absurd hi (by omega))
end XSU
