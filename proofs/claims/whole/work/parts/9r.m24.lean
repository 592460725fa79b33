/-! the reference: removeDots -/
def pa_wd : List Int → Nat
  | [] => 0
  | c :: r => if c = 47 then 0 else pa_wd r + 1
def pa_pop (cl : List Int) : List Int := cl.take (pa_bl cl 47 cl.length - 1)
def pa_dl : Nat → List Int → List Int → Bool → List Int × Bool
  | 0, _, cl, d => (cl, d)
  | _ + 1, [], cl, d => (cl, d)
  | F + 1, c :: r, cl, _ => if r.take (pa_wd r) = [46] then pa_dl F (r.drop (pa_wd r)) cl true else if r.take (pa_wd r) = [46, 46] then pa_dl F (r.drop (pa_wd r)) (pa_pop cl) true else pa_dl F (r.drop (pa_wd r)) (cl ++ c :: r.take (pa_wd r)) false
def pa_fin (x : List Int × Bool) : List Int := if x.2 = true ∨ x.1 = [] then x.1 ++ [47] else x.1
def pa_dots (P : List Int) : List Int := pa_fin (pa_dl P.length P [] false)
theorem pa_wd_le : ∀ r : List Int, pa_wd r ≤ r.length
  | [] => Nat.le_refl _
  | c :: r => by
    unfold pa_wd
    split
    · exact Nat.zero_le _
    · exact Nat.succ_le_succ (pa_wd_le r)
theorem pa_wd_ne : ∀ (r : List Int) (i : Nat), i < pa_wd r → r.getD i 0 ≠ 47
  | [], i, h => absurd h (Nat.not_lt_zero i)
  | c :: r, i, h => by
    unfold pa_wd at h
    split at h
    · exact absurd h (Nat.not_lt_zero i)
    · rename_i hc
      cases i with
      | zero => exact hc
      | succ i => exact pa_wd_ne r i (Nat.lt_of_succ_lt_succ h)
theorem pa_wd_end : ∀ r : List Int, pa_wd r = r.length ∨ (pa_wd r < r.length ∧ r.getD (pa_wd r) 0 = 47)
  | [] => Or.inl rfl
  | c :: r => by
    unfold pa_wd
    split
    · rename_i hc
      exact Or.inr ⟨Nat.zero_lt_succ _, hc⟩
    · rcases pa_wd_end r with h | ⟨h1, h2⟩
      · exact Or.inl (by rw [h]; rfl)
      · exact Or.inr ⟨Nat.succ_lt_succ h1, h2⟩
theorem pa_w1 {r : List Int} : r.take (pa_wd r) = [46] ↔ pa_wd r = 1 ∧ r.getD 0 0 = 46 := by
  have hl := pa_wd_le r
  constructor
  · intro h
    have h1 : (r.take (pa_wd r)).length = 1 := by rw [h]; rfl
    rw [List.length_take] at h1
    have h2 : pa_wd r = 1 := by omega
    refine ⟨h2, ?_⟩
    rw [h2] at h
    cases r with
    | nil => cases h
    | cons c r => cases h; rfl
  · rintro ⟨h1, h2⟩
    rw [h1]
    cases r with
    | nil => simp [pa_wd] at h1
    | cons c r =>
      have : c = 46 := h2
      rw [this]
      rfl
theorem pa_w2 {r : List Int} : r.take (pa_wd r) = [46, 46] ↔ pa_wd r = 2 ∧ r.getD 0 0 = 46 ∧ r.getD 1 0 = 46 := by
  have hl := pa_wd_le r
  constructor
  · intro h
    have h1 : (r.take (pa_wd r)).length = 2 := by rw [h]; rfl
    rw [List.length_take] at h1
    have h2 : pa_wd r = 2 := by omega
    refine ⟨h2, ?_⟩
    rw [h2] at h
    cases r with
    | nil => cases h
    | cons c r =>
      cases r with
      | nil => simp at h
      | cons d r => cases h; exact ⟨rfl, rfl⟩
  · rintro ⟨h1, h2, h3⟩
    rw [h1]
    cases r with
    | nil => simp [pa_wd] at h1
    | cons c r =>
      cases r with
      | nil =>
        have : (0 : Int) = 46 := h3
        exact absurd this (by decide)
      | cons d r =>
        have e1 : c = 46 := h2
        have e2 : d = 46 := h3
        rw [e1, e2]
        rfl
section XRD
variable (fm : Value) {m n : Nat} {h0 : xm_H} {s : Nat → Int} {ar : Nat → Nat → Int}
def xd_PK (s : Nat → Int) (ar : Nat → Nat → Int) (R : List Int) (s' : Nat → Int) (ar' : Nat → Nat → Int) : Prop := xo_wf s' ar' ∧ xq [11] [7, 8] s ar s' ar' ∧ s' 11 = R.length ∧ xh (ar' 7) 0 R
theorem xh_take {f : Nat → Int} {p : Nat} {l : List Int} (h : xh f p l) (k : Nat) : xh f p (l.take k) := by
  intro i hi
  rw [List.length_take] at hi
  rw [h i (by omega)]
  simp only [List.getD, List.getElem?_take]
  rw [if_pos (by omega)]
/-- the end: clean becomes the path -/
theorem xe_dots9 (hmn : xo_in m n) {s0 : Nat → Int} {ar0 : Nat → Nat → Int} (hw : xo_wf s ar) (hq : xq [11] [7, 8] s0 ar0 s ar) {R : List Int} {v2 : Value} (hR : xh (ar 8) 0 R) (hl : R.length ≤ 290) : xe fm 267 (237, [(1, xi R.length), (2, v2), (0, .ref m)], [], (xo m s ar h0, n, 0, 0)) (xQU m n h0 (xd_PK s0 ar0 R)) := by
  have loop : ∀ (N k : Nat) (s1 : Nat → Int) (ar1 : Nat → Nat → Int), k + N = R.length → xo_wf s1 ar1 → xq [11] [7, 8] s0 ar0 s1 ar1 → s1 11 = R.length → xh (ar1 8) 0 R → xh (ar1 7) 0 (R.take k) → xe fm 267 (245, [(4, xi k), (1, xi R.length), (2, v2), (0, .ref m)], [], (xo m s1 ar1 h0, n, 0, 0)) (xQU m n h0 (xd_PK s0 ar0 R)) := by
    intro N
    induction N with
    | zero =>
      intro k s1 ar1 hk w1 q1 g11 g8 g7
      rw [List.take_of_length_le (by omega)] at g7
      refine xe_s (f := (247, _, _, _)) xt_g267 rfl rfl rfl rfl rfl ?_
      refine xe_s (f := (248, _, _, _)) xt_g267 rfl rfl rfl rfl rfl ?_
      refine xe_ic_ge xt_g267 rfl (t := 271) rfl (q := 251) rfl (by first | omega | exact hw.1 _ | exact hw.2 _ _ | exact xb_r _) (by first | omega | exact hw.1 _ | exact hw.2 _ _ | exact xb_r _) (fun h248 => ?_) (fun h248 => ?_)
      · refine xe_ret xt_g267 rfl rfl ?_
        exact ⟨_, _, rfl, rfl, w1, q1, g11, g7⟩
      · exact absurd h248 (by omega)
    | succ N ih =>
      intro k s1 ar1 hk w1 q1 g11 g8 g7
      have hlt : k < R.length := by omega
      refine xe_s (f := (247, _, _, _)) xt_g267 rfl rfl rfl rfl rfl ?_
      refine xe_s (f := (248, _, _, _)) xt_g267 rfl rfl rfl rfl rfl ?_
      refine xe_ic_ge xt_g267 rfl (t := 271) rfl (q := 251) rfl (by first | omega | exact hw.1 _ | exact hw.2 _ _ | exact xb_r _) (by first | omega | exact hw.1 _ | exact hw.2 _ _ | exact xb_r _) (fun h248 => ?_) (fun h248 => ?_)
      · exact absurd h248 (by omega)
      · refine xe_s (f := (252, _, _, _)) xt_g267 rfl rfl rfl rfl rfl ?_
        refine xe_mga xt_g267 rfl (q := 255) rfl (xf_13_22 fm) (by decide) rfl (by omega) ?_
        try simp only [xo_u, xo_w, Nat.reduceEqDiff, reduceIte, false_and, true_and]
        refine xe_s (f := (257, _, _, _)) xt_g267 rfl rfl rfl rfl rfl ?_
        refine xe_s (f := (258, _, _, _)) xt_g267 rfl rfl rfl rfl rfl ?_
        refine xe_mga xt_g267 rfl (q := 261) rfl (xf_13_25 fm) (by decide) rfl (by omega) ?_
        try simp only [xo_u, xo_w, Nat.reduceEqDiff, reduceIte, false_and, true_and]
        refine xe_s (f := (263, _, _, _)) xt_g267 rfl rfl rfl rfl rfl ?_
        refine xe_mal (ok := xm_isN) (ty := .int) xt_g267 rfl (q := 264) rfl (fun _ _ => ⟨rfl, rfl, rfl, rfl⟩) rfl rfl rfl (by omega) (by omega) (by omega) (by omega) ?_
        try simp only [xo_u, xo_w, Nat.reduceEqDiff, reduceIte, false_and, true_and]
        refine xe_mas (ok := xm_isN) (ty := .int) xt_g267 rfl (q := 265) rfl (fun _ _ => ⟨rfl, rfl, rfl, rfl⟩) rfl rfl rfl (by omega) (by omega) (by omega) (by omega) (by omega) rfl ?_
        refine xe_iinc xt_g267 rfl (q := 268) rfl rfl (by decide) (L1 := [(4, _), (1, _), (2, _), (0, _)]) rfl ?_
        refine xe_s (f := (245, _, _, _)) xt_g267 rfl rfl rfl rfl rfl ?_
        rw [show ((k : Int) + 1) = ((k + 1 : Nat) : Int) by omega]
        refine ih (k + 1) _ _ (by omega) (xo_wf_w w1 (w1.2 _ _)) (xq_w q1 (by decide)) g11 (by rw [xo_wK (by decide)]; exact g8) ?_
        have e7 : ar1 8 (k : Int).toNat = R.getD k 0 := by
          have := g8 k hlt
          rw [Nat.zero_add] at this
          exact this
        rw [e7, List.take_succ_eq_append_getElem hlt, show R[k] = R.getD k 0 by simp [List.getD, hlt]]
        exact xh_w (by rw [List.length_take]; omega) g7
  refine xe_s (f := (238, _, _, _)) xt_g267 rfl rfl rfl rfl rfl ?_
  refine xe_s (f := (239, _, _, _)) xt_g267 rfl rfl rfl rfl rfl ?_
  refine xe_mps xt_g267 rfl (q := 242) rfl (xf_13_201 fm) (by decide) rfl (by omega) (by omega) xi_int (Or.inl rfl) ?_
  refine xe_s (f := (243, _, xi 0 :: _, _)) xt_g267 rfl rfl rfl rfl rfl ?_
  refine xe_s (f := (245, [(4, _), (1, _), (2, _), (0, _)], _, _)) xt_g267 rfl rfl rfl rfl rfl ?_
  exact loop R.length 0 _ _ (by omega) (xo_wf_u hw (by omega)) (xq_u hq (by decide)) xo_uS hR xh_nil
theorem xe_dots8 (hmn : xo_in m n) {s0 : Nat → Int} {ar0 : Nat → Nat → Int} (hw : xo_wf s ar) (hq : xq [11] [7, 8] s0 ar0 s ar) {cl : List Int} {d : Bool} (hR : xh (ar 8) 0 cl) (hl : cl.length ≤ 280) : xe fm 267 (218, [(1, xi cl.length), (2, xi (xb d)), (0, .ref m)], [], (xo m s ar h0, n, 0, 0)) (xQU m n h0 (xd_PK s0 ar0 (pa_fin (cl, d)))) := by
  have add : (d = true ∨ cl = []) → xe fm 267 (226, [(1, xi cl.length), (2, xi (xb d)), (0, .ref m)], [], (xo m s ar h0, n, 0, 0)) (xQU m n h0 (xd_PK s0 ar0 (pa_fin (cl, d)))) := by
    intro h
    rw [show pa_fin (cl, d) = cl ++ [47] by unfold pa_fin; rw [if_pos h]]
    refine xe_s (f := (227, _, _, _)) xt_g267 rfl rfl rfl rfl rfl ?_
    refine xe_mga xt_g267 rfl (q := 230) rfl (xf_13_25 fm) (by decide) rfl (by omega) ?_
    try simp only [xo_u, xo_w, Nat.reduceEqDiff, reduceIte, false_and, true_and]
    refine xe_s (f := (231, _, _, _)) xt_g267 rfl rfl rfl rfl rfl ?_
    refine xe_bipush xt_g267 rfl (q := 233) rfl (by decide) (by decide) ?_
    refine xe_mas (ok := xm_isN) (ty := .int) xt_g267 rfl (q := 234) rfl (fun _ _ => ⟨rfl, rfl, rfl, rfl⟩) rfl rfl rfl (by omega) (by omega) (by omega) (by omega) (by omega) rfl ?_
    refine xe_iinc xt_g267 rfl (q := 237) rfl rfl (by decide) (L1 := [(1, _), (2, _), (0, _)]) rfl ?_
    rw [show ((cl.length : Int) + 1) = ((cl ++ [47]).length : Int) by simp]
    exact xe_dots9 fm hmn (xo_wf_w hw (by omega)) (xq_w hq (by decide)) (xh_w (by omega) hR) (by simp; omega)
  refine xe_s (f := (219, _, _, _)) xt_g267 rfl rfl rfl rfl rfl ?_
  refine xe_if_ne xt_g267 rfl (t := 226) rfl (q := 222) rfl (by first | omega | exact hw.1 _ | exact hw.2 _ _ | exact xb_r _) (fun h219 => ?_) (fun h219 => ?_)
  · try simp only [xb_0, xb_1, ne_eq, Decidable.not_not, decide_eq_true_eq, decide_eq_false_iff_not] at h219
    exact add (Or.inl (by simpa using h219))
  · try simp only [xb_0, xb_1, ne_eq, Decidable.not_not, decide_eq_true_eq, decide_eq_false_iff_not] at h219
    refine xe_s (f := (223, _, _, _)) xt_g267 rfl rfl rfl rfl rfl ?_
    refine xe_if_ne xt_g267 rfl (t := 237) rfl (q := 226) rfl (by first | omega | exact hw.1 _ | exact hw.2 _ _ | exact xb_r _) (fun h223 => ?_) (fun h223 => ?_)
    · try simp only [xb_0, xb_1, ne_eq, Decidable.not_not, decide_eq_true_eq, decide_eq_false_iff_not] at h223
      rw [show pa_fin (cl, d) = cl by
        unfold pa_fin
        rw [if_neg]
        rintro (h | h)
        · simp_all
        · rw [show cl = [] from h] at h223; exact h223 rfl]
      exact xe_dots9 fm hmn hw hq hR (by omega)
    · try simp only [xb_0, xb_1, ne_eq, Decidable.not_not, decide_eq_true_eq, decide_eq_false_iff_not] at h223
      exact add (Or.inr (List.eq_nil_of_length_eq_zero (by omega)))
/-- what is kept of a part that is no dots -/
theorem xe_dots7 (hmn : xo_in m n) {s0 : Nat → Int} {ar0 : Nat → Nat → Int} (hw : xo_wf s ar) (hq : xq [11] [7, 8] s0 ar0 s ar) {P cl w : List Int} {k : Nat} {d : Bool} {Q : xe_Q} {v5 v6 : Int} (hP : xh (ar 7) 0 P) (hR : xh (ar 8) 0 cl) (hl : cl.length + w.length ≤ 290) (hk : k + w.length ≤ P.length) (hPl : P.length ≤ 220) (hw2 : ∀ i, i < w.length → P.getD (k + i) 0 = w.getD i 0)
    (kk : ∀ (s1 : Nat → Int) (ar1 : Nat → Nat → Int), xo_wf s1 ar1 → xq [11] [7, 8] s0 ar0 s1 ar1 → s1 = s → ar1 7 = ar 7 → xh (ar1 8) 0 (if d = true then cl else cl ++ w) → xe fm 267 (6, [(1, xi (if d = true then cl else cl ++ w).length), (2, xi (xb d)), (3, xi ((k : Int) + w.length)), (0, .ref m)], [], (xo m s1 ar1 h0, n, 0, 0)) Q) :
    xe fm 267 (176, [(1, xi cl.length), (2, xi (xb d)), (3, xi k), (4, xi ((k : Int) + w.length)), (5, xi v5), (6, xi v6), (0, .ref m)], [], (xo m s ar h0, n, 0, 0)) Q := by
  have loop : ∀ (N j : Nat) (s1 : Nat → Int) (ar1 : Nat → Nat → Int), j + N = w.length → d = false → xo_wf s1 ar1 → xq [11] [7, 8] s0 ar0 s1 ar1 → s1 = s → ar1 7 = ar 7 → xh (ar1 8) 0 (cl ++ w.take j) → xe fm 267 (179, [(1, xi ((cl.length : Int) + j)), (7, xi ((k : Int) + j)), (2, xi (xb d)), (3, xi k), (4, xi ((k : Int) + w.length)), (5, xi v5), (6, xi v6), (0, .ref m)], [], (xo m s1 ar1 h0, n, 0, 0)) Q := by
    intro N
    induction N with
    | zero =>
      intro j s1 ar1 hj hd w1 q1 es e7 g8
      rw [List.take_of_length_le (by omega)] at g8
      have h := kk s1 ar1 w1 q1 es e7 (by rw [if_neg (by rw [hd]; decide)]; exact g8)
      rw [if_neg (by rw [hd]; decide)] at h
      rw [show (((cl ++ w).length : Nat) : Int) = (cl.length : Int) + j by rw [List.length_append]; omega] at h
      refine xe_s (f := (181, _, _, _)) xt_g267 rfl rfl rfl rfl rfl ?_
      refine xe_s (f := (183, _, _, _)) xt_g267 rfl rfl rfl rfl rfl ?_
      refine xe_ic_ge xt_g267 rfl (t := 212) rfl (q := 186) rfl (by first | omega | exact hw.1 _ | exact hw.2 _ _ | exact xb_r _) (by first | omega | exact hw.1 _ | exact hw.2 _ _ | exact xb_r _) (fun h183 => ?_) (fun h183 => ?_)
      · refine xe_s (f := (214, _, _, _)) xt_g267 rfl rfl rfl rfl rfl ?_
        refine xe_s (f := (215, [(3, _), (1, _), (7, _), (2, _), (4, _), (5, _), (6, _), (0, _)], _, _)) xt_g267 rfl rfl rfl rfl rfl ?_
        refine xe_s (f := (6, _, _, _)) xt_g267 rfl rfl rfl rfl rfl ?_
        exact xe_loc (by intro q hq; simp only [List.mem_cons, List.not_mem_nil, or_false] at hq; rcases hq with rfl | rfl | rfl | rfl <;> rfl) (h)
      · exact absurd h183 (by omega)
    | succ N ih =>
      intro j s1 ar1 hj hd w1 q1 es e7 g8
      have hlt : j < w.length := by omega
      have e8 : ar1 7 ((k : Int) + j).toNat = w.getD j 0 := by
        rw [e7, ← hw2 j hlt, ← hP (k + j) (by omega), Nat.zero_add]
        congr 1
      refine xe_s (f := (181, _, _, _)) xt_g267 rfl rfl rfl rfl rfl ?_
      refine xe_s (f := (183, _, _, _)) xt_g267 rfl rfl rfl rfl rfl ?_
      refine xe_ic_ge xt_g267 rfl (t := 212) rfl (q := 186) rfl (by first | omega | exact hw.1 _ | exact hw.2 _ _ | exact xb_r _) (by first | omega | exact hw.1 _ | exact hw.2 _ _ | exact xb_r _) (fun h183 => ?_) (fun h183 => ?_)
      · exact absurd h183 (by omega)
      · refine xe_s (f := (187, _, _, _)) xt_g267 rfl rfl rfl rfl rfl ?_
        refine xe_if_ne xt_g267 rfl (t := 212) rfl (q := 190) rfl (by first | omega | exact hw.1 _ | exact hw.2 _ _ | exact xb_r _) (fun h187 => ?_) (fun h187 => ?_)
        · exact absurd (show xb d = 0 by rw [hd]; rfl) h187
        · try simp only [xb_0, xb_1, ne_eq, Decidable.not_not, decide_eq_true_eq, decide_eq_false_iff_not] at h187
          refine xe_s (f := (191, _, _, _)) xt_g267 rfl rfl rfl rfl rfl ?_
          refine xe_mga xt_g267 rfl (q := 194) rfl (xf_13_25 fm) (by decide) rfl (by omega) ?_
          try simp only [xo_u, xo_w, Nat.reduceEqDiff, reduceIte, false_and, true_and]
          refine xe_s (f := (195, _, _, _)) xt_g267 rfl rfl rfl rfl rfl ?_
          refine xe_s (f := (196, _, _, _)) xt_g267 rfl rfl rfl rfl rfl ?_
          refine xe_mga xt_g267 rfl (q := 199) rfl (xf_13_22 fm) (by decide) rfl (by omega) ?_
          try simp only [xo_u, xo_w, Nat.reduceEqDiff, reduceIte, false_and, true_and]
          refine xe_s (f := (201, _, _, _)) xt_g267 rfl rfl rfl rfl rfl ?_
          refine xe_mal (ok := xm_isN) (ty := .int) xt_g267 rfl (q := 202) rfl (fun _ _ => ⟨rfl, rfl, rfl, rfl⟩) rfl rfl rfl (by omega) (by omega) (by omega) (by omega) ?_
          try simp only [xo_u, xo_w, Nat.reduceEqDiff, reduceIte, false_and, true_and]
          refine xe_mas (ok := xm_isN) (ty := .int) xt_g267 rfl (q := 203) rfl (fun _ _ => ⟨rfl, rfl, rfl, rfl⟩) rfl rfl rfl (by omega) (by omega) (by omega) (by omega) (by omega) rfl ?_
          refine xe_iinc xt_g267 rfl (q := 206) rfl rfl (by decide) (L1 := [(1, _), (7, _), (2, _), (3, _), (4, _), (5, _), (6, _), (0, _)]) rfl ?_
          refine xe_iinc xt_g267 rfl (q := 209) rfl rfl (by decide) (L1 := [(7, _), (1, _), (2, _), (3, _), (4, _), (5, _), (6, _), (0, _)]) rfl ?_
          refine xe_s (f := (179, _, _, _)) xt_g267 rfl rfl rfl rfl rfl ?_
          rw [e8, show ((cl.length : Int) + j + 1) = (cl.length : Int) + ((j + 1 : Nat) : Int) by omega, show ((k : Int) + j + 1) = (k : Int) + ((j + 1 : Nat) : Int) by omega]
          have h := ih (j + 1) s1 (xo_w ar1 8 ((cl.length : Int) + j).toNat (w.getD j 0)) (by omega) hd (xo_wf_w w1 (by rw [← e8]; exact w1.2 _ _)) (xq_w q1 (by decide)) es (by rw [xo_wK (by decide)]; exact e7) (by
            rw [List.take_succ_eq_append_getElem hlt, show w[j] = w.getD j 0 by simp [List.getD, hlt], ← List.append_assoc]
            exact xh_w (by rw [List.length_append, List.length_take]; omega) g8)
          exact xe_loc (by intro q hq; simp only [List.mem_cons, List.not_mem_nil, or_false] at hq; rcases hq with rfl | rfl | rfl | rfl | rfl | rfl | rfl | rfl <;> rfl) (h)
  cases d with
  | false =>
    refine xe_s (f := (177, _, _, _)) xt_g267 rfl rfl rfl rfl rfl ?_
    refine xe_s (f := (179, [(7, _), (1, _), (2, _), (3, _), (4, _), (5, _), (6, _), (0, _)], _, _)) xt_g267 rfl rfl rfl rfl rfl ?_
    have h := loop w.length 0 s ar (by omega) rfl hw hq rfl rfl (by simpa using hR)
    simp only [Int.natCast_zero, Int.add_zero] at h
    exact xe_loc (by intro q hq; simp only [List.mem_cons, List.not_mem_nil, or_false] at hq; rcases hq with rfl | rfl | rfl | rfl | rfl | rfl | rfl | rfl <;> rfl) (h)
  | true =>
    have h := kk s ar hw hq rfl rfl hR
    rw [if_pos rfl] at h
    refine xe_s (f := (177, _, _, _)) xt_g267 rfl rfl rfl rfl rfl ?_
    refine xe_s (f := (179, [(7, _), (1, _), (2, _), (3, _), (4, _), (5, _), (6, _), (0, _)], _, _)) xt_g267 rfl rfl rfl rfl rfl ?_
    refine xe_s (f := (181, _, _, _)) xt_g267 rfl rfl rfl rfl rfl ?_
    refine xe_s (f := (183, _, _, _)) xt_g267 rfl rfl rfl rfl rfl ?_
    refine xe_ic_ge xt_g267 rfl (t := 212) rfl (q := 186) rfl (by first | omega | exact hw.1 _ | exact hw.2 _ _ | exact xb_r _) (by first | omega | exact hw.1 _ | exact hw.2 _ _ | exact xb_r _) (fun h183 => ?_) (fun h183 => ?_)
    · refine xe_s (f := (214, _, _, _)) xt_g267 rfl rfl rfl rfl rfl ?_
      refine xe_s (f := (215, [(3, _), (7, _), (1, _), (2, _), (4, _), (5, _), (6, _), (0, _)], _, _)) xt_g267 rfl rfl rfl rfl rfl ?_
      refine xe_s (f := (6, _, _, _)) xt_g267 rfl rfl rfl rfl rfl ?_
      exact xe_loc (by intro q hq; simp only [List.mem_cons, List.not_mem_nil, or_false] at hq; rcases hq with rfl | rfl | rfl | rfl <;> rfl) (h)
    · refine xe_s (f := (187, _, _, _)) xt_g267 rfl rfl rfl rfl rfl ?_
      refine xe_if_ne xt_g267 rfl (t := 212) rfl (q := 190) rfl (by first | omega | exact hw.1 _ | exact hw.2 _ _ | exact xb_r _) (fun h187 => ?_) (fun h187 => ?_)
      · refine xe_s (f := (214, _, _, _)) xt_g267 rfl rfl rfl rfl rfl ?_
        refine xe_s (f := (215, [(3, _), (7, _), (1, _), (2, _), (4, _), (5, _), (6, _), (0, _)], _, _)) xt_g267 rfl rfl rfl rfl rfl ?_
        refine xe_s (f := (6, _, _, _)) xt_g267 rfl rfl rfl rfl rfl ?_
        exact xe_loc (by intro q hq; simp only [List.mem_cons, List.not_mem_nil, or_false] at hq; rcases hq with rfl | rfl | rfl | rfl <;> rfl) (h)
      · exact absurd (show xb true ≠ 0 by decide) h187
end XRD
