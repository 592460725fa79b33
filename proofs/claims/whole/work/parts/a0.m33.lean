/-! the reference: takeAttribute, readAttributes -/
theorem at_okW : ky_ok at_wS ∧ ky_ok at_wH ∧ ky_ok at_wP ∧ ky_ok at_wD ∧ ky_ok at_wA := by
  unfold ky_ok at_wS at_wH at_wP at_wD at_wA
  refine ⟨?_, ?_, ?_, ?_, ?_⟩ <;> intro c hc <;> simp at hc <;> omega
def xd_PT (s : Nat → Int) (ar : Nat → Nat → Int) (a : at_T) (s' : Nat → Int) (ar' : Nat → Nat → Int) : Prop := xo_wf s' ar' ∧ xo_B ar' ∧ xq [33, 34, 35, 36, 37] [30, 31, 32] s ar s' ar' ∧ ck_keep ar ar' ∧ at_rel s' ar' a
section XTA
variable (fm : Value) {m n : Nat} {h0 : xm_H} {s : Nat → Int} {ar : Nat → Nat → Int}
theorem xe_ta5 (hmn : xo_in m n) {s0 : Nat → Int} {ar0 : Nat → Nat → Int} (hw : xo_wf s ar) (hB : xo_B ar) (hq : xq [33, 34, 35, 36, 37] [30, 31, 32] s0 ar0 s ar) (hk : ck_keep ar0 ar) {K : List Int} (hK : ky_ok K) {a : at_T} (ha : at_rel s ar a) (h2 : s 2 ≤ 160) (h8 : 0 ≤ s 38) (h9 : s 38 ≤ s 39) (h92 : s 39 ≤ s 2) {L : xm_L} (hL : L = [(0, .ref m), (1, xl (ky_of K))]) :
    xe fm 318 (194, L, [], (xo m s ar h0, n, 0, 0)) (xQU m n h0 (xd_PT s0 ar0 (at_5 K (pa_sl (xd_at s ar) (s 38) (s 39)) a))) := by
  subst hL
  have hkr := ky_of_r hK
  have hc := xd_cmp_r (ky_of K) 30787941246789477
  have hA := ky_is hK at_okW.2.2.2.2 (by decide) (by decide)
  rw [show ky_pack at_wA = 30787941246789477 by decide] at hA
  refine xe_s (f := (195, _, _, _)) xt_g318 rfl rfl rfl rfl rfl ?_
  refine xe_ldcl (z := 30787941246789477) xt_g318 rfl (q := 198) rfl rfl (by decide) ?_
  refine xe_lcmp xt_g318 rfl (q := 199) rfl (by omega) (by omega) ?_
  refine xe_if_ne xt_g318 rfl (t := 206) rfl (q := 202) rfl (by first | omega | exact hw.1 _ | exact hw.2 _ _ | exact xb_r _) (fun h199 => ?_) (fun h199 => ?_)
  · try simp only [xb_0, xb_1, ne_eq, Decidable.not_not, decide_eq_true_eq, decide_eq_false_iff_not] at h199
    refine xe_ret xt_g318 rfl rfl ?_
    have hne : K ≠ at_wA := fun h => h199 (xd_cmp_0.mpr (hA.mpr h))
    unfold at_5
    rw [if_neg hne]
    exact ⟨_, _, rfl, rfl, hw, hB, hq, hk, ha⟩
  · try simp only [xb_0, xb_1, ne_eq, Decidable.not_not, decide_eq_true_eq, decide_eq_false_iff_not] at h199
    refine xe_s (f := (203, _, _, _)) xt_g318 rfl rfl rfl rfl rfl ?_
    refine xe_cvV xt_g318 rfl (q := 206) rfl xk_13_337 rfl (by omega) xt_g319 (by decide) ⟨Nat.le_of_ble_eq_true rfl, Nat.le_of_ble_eq_true rfl, Nat.le_of_ble_eq_true rfl⟩ (xv_takeAge fm hmn hw h2 h8 h9 h92) ?_
    refine xe_ret xt_g318 rfl rfl ?_
    have he : K = at_wA := hA.mp (xd_cmp_0.mp h199)
    unfold at_5
    rw [if_pos he]
    cases hg : at_age (pa_sl (xd_at s ar) (s 38) (s 39)) with
    | none => exact ⟨_, _, rfl, rfl, hw, hB, hq, hk, ha⟩
    | some v =>
      have hv := at_age_r hg
      obtain ⟨d1, d2, d3, d4, d5⟩ := ha
      refine ⟨_, _, rfl, rfl, xo_wf_u (xo_wf_u hw (by omega)) (by omega), hB, xq_u (xq_u hq (by decide)) (by decide), hk, ?_, ?_, ⟨rfl, rfl, hv.1, hv.2⟩, d4, d5⟩
      · show at_rd (xo_u (xo_u s 37 1) 36 v) ar a.1
        cases h : a.1 with
        | none => rw [h] at d1; exact d1
        | some d => rw [h] at d1; exact d1
      · show at_rp (xo_u (xo_u s 37 1) 36 v) ar a.2.1
        cases h : a.2.1 with
        | none => rw [h] at d2; exact d2
        | some d => rw [h] at d2; exact d2
theorem xe_ta4 (hmn : xo_in m n) {s0 : Nat → Int} {ar0 : Nat → Nat → Int} (hw : xo_wf s ar) (hB : xo_B ar) (hq : xq [33, 34, 35, 36, 37] [30, 31, 32] s0 ar0 s ar) (hk : ck_keep ar0 ar) {K : List Int} (hK : ky_ok K) {a : at_T} (ha : at_rel s ar a) (h2 : s 2 ≤ 160) (h8 : 0 ≤ s 38) (h9 : s 38 ≤ s 39) (h92 : s 39 ≤ s 2) :
    xe fm 318 (85, [(0, .ref m), (1, xl (ky_of K))], [], (xo m s ar h0, n, 0, 0)) (xQU m n h0 (xd_PT s0 ar0 (at_5 K (pa_sl (xd_at s ar) (s 38) (s 39)) (at_4 K (pa_sl (xd_at s ar) (s 38) (s 39)) a)))) := by
  have hkr := ky_of_r hK
  have hc := xd_cmp_r (ky_of K) 110429739247982
  have hA := ky_is hK at_okW.2.2.2.1 (by decide) (by decide)
  rw [show ky_pack at_wD = 110429739247982 by decide] at hA
  generalize hV : pa_sl (xd_at s ar) (s 38) (s 39) = V
  have hrk := hw.2 1 (s 38).toNat
  -- behind the loop
  have fin : K = at_wD → ∀ (b : Int) (ar1 : Nat → Nat → Int) (v4 : Int), s 38 ≤ b → b ≤ s 39 → (if V.getD 0 0 = 46 then V.drop 1 else V) = pa_sl (xd_at s ar) b (s 39) → xo_wf s ar1 → xq [] [32] s ar s ar1 → (b < s 39 → xh (ar1 32) 0 ((pa_sl (xd_at s ar) b (s 39)).map xd_sml)) → (s 39 ≤ b → ar1 = ar) → xe fm 318 (169, [(4, xi v4), (3, xi b), (0, .ref m), (1, xl (ky_of K))], [], (xo m s ar1 h0, n, 0, 0)) (xQU m n h0 (xd_PT s0 ar0 (at_5 K V (at_4 K V a)))) := by
    intro hKD b ar1 v4 hb1 hb2 hVb w1 q1 hx hne
    have B1 : xo_B ar1 := xo_B_q hB q1 (by decide)
    have t1 : xd_at s ar1 = xd_at s ar := xq_at q1 (by decide) (by decide)
    have e4 : at_4 K V a = if pa_sl (xd_at s ar) b (s 39) = [] then a else (some ((pa_sl (xd_at s ar) b (s 39)).map xd_sml), a.2) := by
      unfold at_4
      rw [if_pos hKD, hVb]
    obtain ⟨d1, d2, d3, d4, d5⟩ := ha
    have go : ∀ (z : Int) (a' : at_T), at_4 K V a = a' → (xr z) → at_rd (xo_u s 33 z) ar1 a'.1 → a'.2 = a.2 → xe fm 318 (191, [(4, xi v4), (3, xi b), (0, .ref m), (1, xl (ky_of K))], [xi z, .ref m], (xo m s ar1 h0, n, 0, 0)) (xQU m n h0 (xd_PT s0 ar0 (at_5 K V (at_4 K V a)))) := by
      intro z a' he hzr hrd ha2
      rw [he]
      have e2 : xd_at (xo_u s 33 z) ar1 = xd_at s ar := t1
      have h := xe_ta5 fm hmn (h0 := h0) (s := xo_u s 33 z) (ar := ar1) (s0 := s0) (ar0 := ar0) (xo_wf_u w1 hzr) B1 (xq_u (xq_t hq (xq_mm q1 (by decide) (by decide))) (by decide)) (ck_keep_t hk (ck_keep_q q1 (by decide))) hK (a := a') ⟨hrd, ?_, ?_, ?_, ?_⟩ h2 h8 h9 h92 rfl
      · rw [e2] at h
        have h' : xe fm 318 (194, [(0, .ref m), (1, xl (ky_of K))], [], (xo m (xo_u s 33 z) ar1 h0, n, 0, 0)) (xQU m n h0 (xd_PT s0 ar0 (at_5 K (pa_sl (xd_at s ar) (s 38) (s 39)) a'))) := h
        rw [hV] at h'
        refine xe_mps xt_g318 rfl (q := 194) rfl (xf_13_307 fm) (by decide) rfl (by omega) (by omega) xi_int (Or.inl rfl) ?_
        exact xe_loc (by intro q hq; simp only [List.mem_cons, List.not_mem_nil, or_false] at hq; rcases hq with rfl | rfl <;> rfl) (h')
      · rw [ha2]
        cases h : a.2.1 with
        | none => rw [h] at d2; exact d2
        | some d =>
          rw [h] at d2
          exact ⟨d2.1, d2.2.1, d2.2.2.1, by rw [e2]; exact d2.2.2.2⟩
      · rw [ha2]
        cases h : a.2.2.1 with
        | none => rw [h] at d3; exact d3
        | some d => rw [h] at d3; exact d3
      · rw [ha2, q1.2 30 (by decide)]
        exact d4
      · rw [ha2, q1.2 31 (by decide)]
        exact d5
    refine xe_s (f := (170, _, _, _)) xt_g318 rfl rfl rfl rfl rfl ?_
    refine xe_s (f := (171, _, _, _)) xt_g318 rfl rfl rfl rfl rfl ?_
    refine xe_mgs xt_g318 rfl (q := 174) rfl (xf_13_275 fm) (by decide) rfl (by omega) ?_
    try simp only [xo_u, xo_w, Nat.reduceEqDiff, reduceIte, false_and, true_and]
    refine xe_s (f := (175, _, _, _)) xt_g318 rfl rfl rfl rfl rfl ?_
    refine xe_ic_le xt_g318 rfl (t := 187) rfl (q := 178) rfl (by first | omega | exact hw.1 _ | exact hw.2 _ _ | exact xb_r _) (by first | omega | exact hw.1 _ | exact hw.2 _ _ | exact xb_r _) (fun h175 => ?_) (fun h175 => ?_)
    · refine xe_s (f := (188, _, _, _)) xt_g318 rfl rfl rfl rfl rfl ?_
      refine xe_mgs xt_g318 rfl (q := 191) rfl (xf_13_307 fm) (by decide) rfl (by omega) ?_
      try simp only [xo_u, xo_w, Nat.reduceEqDiff, reduceIte, false_and, true_and]
      have he := hne (by omega)
      subst he
      refine go _ a (by rw [e4, if_pos (pa_sl_nil (by omega))]) (hw.1 33) ?_ rfl
      cases h : a.1 with
      | none => rw [h] at d1; exact d1
      | some d => rw [h] at d1; exact d1
    · refine xe_s (f := (179, _, _, _)) xt_g318 rfl rfl rfl rfl rfl ?_
      refine xe_mgs xt_g318 rfl (q := 182) rfl (xf_13_275 fm) (by decide) rfl (by omega) ?_
      try simp only [xo_u, xo_w, Nat.reduceEqDiff, reduceIte, false_and, true_and]
      refine xe_s (f := (183, _, _, _)) xt_g318 rfl rfl rfl rfl rfl ?_
      refine xe_isub xt_g318 rfl (q := 184) rfl ?_
      refine xe_s (f := (191, _, _, _)) xt_g318 rfl rfl rfl rfl rfl ?_
      have hlen : ((pa_sl (xd_at s ar) b (s 39)).map xd_sml).length = (s 39 - b).toNat := by rw [List.length_map, pa_sl_len]
      refine go _ (some ((pa_sl (xd_at s ar) b (s 39)).map xd_sml), a.2) (by rw [e4, if_neg (by rw [pa_sl_c (by omega)]; simp)]) (by omega) ⟨?_, ?_, ?_, hx (by omega)⟩ rfl
      · rw [xo_uS, hlen]
        omega
      · omega
      · omega
  have loop : K = at_wD → ∀ (b : Int), s 38 ≤ b → b ≤ s 39 → (if V.getD 0 0 = 46 then V.drop 1 else V) = pa_sl (xd_at s ar) b (s 39) → ∀ (N : Nat) (k : Int) (ar1 : Nat → Nat → Int), b ≤ k → k + N = s 39 → xo_wf s ar1 → xq [] [32] s ar s ar1 → xh (ar1 32) 0 ((pa_sl (xd_at s ar) b k).map xd_sml) → (k = b → ar1 = ar) → xe fm 318 (135, [(4, xi k), (3, xi b), (0, .ref m), (1, xl (ky_of K))], [], (xo m s ar1 h0, n, 0, 0)) (xQU m n h0 (xd_PT s0 ar0 (at_5 K V (at_4 K V a)))) := by
    intro hKD b hb1 hb2 hVb N
    induction N with
    | zero =>
      intro k ar1 hbk hN w1 q1 hx he
      refine xe_s (f := (137, _, _, _)) xt_g318 rfl rfl rfl rfl rfl ?_
      refine xe_s (f := (138, _, _, _)) xt_g318 rfl rfl rfl rfl rfl ?_
      refine xe_mgs xt_g318 rfl (q := 141) rfl (xf_13_275 fm) (by decide) rfl (by omega) ?_
      try simp only [xo_u, xo_w, Nat.reduceEqDiff, reduceIte, false_and, true_and]
      refine xe_ic_ge xt_g318 rfl (t := 169) rfl (q := 144) rfl (by first | omega | exact hw.1 _ | exact hw.2 _ _ | exact xb_r _) (by first | omega | exact hw.1 _ | exact hw.2 _ _ | exact xb_r _) (fun h141 => ?_) (fun h141 => ?_)
      · refine fin hKD b ar1 k hb1 hb2 hVb w1 q1 (fun hlt => ?_) (fun hge => he (by omega))
        rw [show k = s 39 by omega] at hx
        exact hx
      · exact absurd h141 (by omega)
    | succ N ih =>
      intro k ar1 hbk hN w1 q1 hx he
      have hrk := w1.2 1 k.toNat
      have ek : ar1 1 k.toNat = xd_at s ar k := by
        rw [q1.2 1 (by decide), xd_at_in (by omega) (by omega)]
      have hlen : ((pa_sl (xd_at s ar) b k).map xd_sml).length = (k - b).toNat := by rw [List.length_map, pa_sl_len]
      refine xe_s (f := (137, _, _, _)) xt_g318 rfl rfl rfl rfl rfl ?_
      refine xe_s (f := (138, _, _, _)) xt_g318 rfl rfl rfl rfl rfl ?_
      refine xe_mgs xt_g318 rfl (q := 141) rfl (xf_13_275 fm) (by decide) rfl (by omega) ?_
      try simp only [xo_u, xo_w, Nat.reduceEqDiff, reduceIte, false_and, true_and]
      refine xe_ic_ge xt_g318 rfl (t := 169) rfl (q := 144) rfl (by first | omega | exact hw.1 _ | exact hw.2 _ _ | exact xb_r _) (by first | omega | exact hw.1 _ | exact hw.2 _ _ | exact xb_r _) (fun h141 => ?_) (fun h141 => ?_)
      · exact absurd h141 (by omega)
      · refine xe_s (f := (145, _, _, _)) xt_g318 rfl rfl rfl rfl rfl ?_
        refine xe_mga xt_g318 rfl (q := 148) rfl (xf_13_74 fm) (by decide) rfl (by omega) ?_
        try simp only [xo_u, xo_w, Nat.reduceEqDiff, reduceIte, false_and, true_and]
        refine xe_s (f := (150, _, _, _)) xt_g318 rfl rfl rfl rfl rfl ?_
        refine xe_s (f := (151, _, _, _)) xt_g318 rfl rfl rfl rfl rfl ?_
        refine xe_isub xt_g318 rfl (q := 152) rfl ?_
        refine xe_s (f := (153, _, _, _)) xt_g318 rfl rfl rfl rfl rfl ?_
        refine xe_mga xt_g318 rfl (q := 156) rfl (xf_13_7 fm) (by decide) rfl (by omega) ?_
        try simp only [xo_u, xo_w, Nat.reduceEqDiff, reduceIte, false_and, true_and]
        refine xe_s (f := (158, _, _, _)) xt_g318 rfl rfl rfl rfl rfl ?_
        refine xe_mal (ok := xm_isN) (ty := .int) xt_g318 rfl (q := 159) rfl (fun _ _ => ⟨rfl, rfl, rfl, rfl⟩) rfl rfl rfl (by omega) (by omega) (by omega) (by omega) ?_
        try simp only [xo_u, xo_w, Nat.reduceEqDiff, reduceIte, false_and, true_and]
        refine xe_csI xt_g318 rfl (q := 162) rfl xk_13_159 rfl (Nat.le_of_ble_eq_true rfl) xt_g251 (by decide) ⟨Nat.le_of_ble_eq_true rfl, Nat.le_of_ble_eq_true rfl, Nat.le_of_ble_eq_true rfl⟩ (xv_small fm hrk) ?_
        refine xe_mas (ok := xm_isN) (ty := .int) xt_g318 rfl (q := 163) rfl (fun _ _ => ⟨rfl, rfl, rfl, rfl⟩) rfl rfl rfl (by omega) (by omega) (by omega) (by omega) (by omega) rfl ?_
        refine xe_iinc xt_g318 rfl (q := 166) rfl rfl (by decide) (L1 := [(4, _), (3, _), (0, _), (1, _)]) rfl ?_
        refine xe_s (f := (135, _, _, _)) xt_g318 rfl rfl rfl rfl rfl ?_
        rw [ek]
        refine ih (k + 1) _ (by omega) (by omega) (xo_wf_w w1 (xd_sml_r (xd_at_r hw _))) (xq_w q1 (by decide)) ?_ (fun h => absurd h (by omega))
        rw [pa_sl_s hbk, List.map_append, List.map_singleton]
        exact xh_w (by omega) hx
  have j131 : K = at_wD → ∀ (b : Int), s 38 ≤ b → b ≤ s 39 → (b = s 38 ∨ s 38 < s 39) → (if V.getD 0 0 = 46 then V.drop 1 else V) = pa_sl (xd_at s ar) b (s 39) → xe fm 318 (131, [(0, .ref m), (1, xl (ky_of K))], [xi b], (xo m s ar h0, n, 0, 0)) (xQU m n h0 (xd_PT s0 ar0 (at_5 K V (at_4 K V a)))) := by
    intro hKD b hb1 hb2 hb3 hVb
    refine xe_s (f := (132, [(3, _), (0, _), (1, _)], _, _)) xt_g318 rfl rfl rfl rfl rfl ?_
    refine xe_s (f := (133, _, _, _)) xt_g318 rfl rfl rfl rfl rfl ?_
    refine xe_s (f := (135, [(4, _), (3, _), (0, _), (1, _)], _, _)) xt_g318 rfl rfl rfl rfl rfl ?_
    exact xe_loc (by intro q hq; simp only [List.mem_cons, List.not_mem_nil, or_false] at hq; rcases hq with rfl | rfl | rfl | rfl <;> rfl) (loop hKD b hb1 hb2 hVb (s 39 - b).toNat b ar (Int.le_refl _) (by omega) hw xq_r (by rw [pa_sl_nil (Int.le_refl _)]; exact xh_nil) (fun _ => rfl))
  refine xe_s (f := (86, _, _, _)) xt_g318 rfl rfl rfl rfl rfl ?_
  refine xe_ldcl (z := 110429739247982) xt_g318 rfl (q := 89) rfl rfl (by decide) ?_
  refine xe_lcmp xt_g318 rfl (q := 90) rfl (by omega) (by omega) ?_
  refine xe_if_ne xt_g318 rfl (t := 194) rfl (q := 93) rfl (by first | omega | exact hw.1 _ | exact hw.2 _ _ | exact xb_r _) (fun h90 => ?_) (fun h90 => ?_)
  · try simp only [xb_0, xb_1, ne_eq, Decidable.not_not, decide_eq_true_eq, decide_eq_false_iff_not] at h90
    have hne : K ≠ at_wD := fun h => h90 (xd_cmp_0.mpr (hA.mpr h))
    have h := xe_ta5 fm hmn (h0 := h0) hw hB hq hk hK ha h2 h8 h9 h92 rfl
    rw [show at_4 K V a = a by unfold at_4; rw [if_neg hne], ← hV]
    exact h
  · try simp only [xb_0, xb_1, ne_eq, Decidable.not_not, decide_eq_true_eq, decide_eq_false_iff_not] at h90
    have hKD : K = at_wD := hA.mp (xd_cmp_0.mp h90)
    refine xe_s (f := (94, _, _, _)) xt_g318 rfl rfl rfl rfl rfl ?_
    refine xe_mgs xt_g318 rfl (q := 97) rfl (xf_13_272 fm) (by decide) rfl (by omega) ?_
    try simp only [xo_u, xo_w, Nat.reduceEqDiff, reduceIte, false_and, true_and]
    refine xe_s (f := (98, _, _, _)) xt_g318 rfl rfl rfl rfl rfl ?_
    refine xe_mgs xt_g318 rfl (q := 101) rfl (xf_13_275 fm) (by decide) rfl (by omega) ?_
    try simp only [xo_u, xo_w, Nat.reduceEqDiff, reduceIte, false_and, true_and]
    refine xe_ic_ge xt_g318 rfl (t := 127) rfl (q := 104) rfl (by first | omega | exact hw.1 _ | exact hw.2 _ _ | exact xb_r _) (by first | omega | exact hw.1 _ | exact hw.2 _ _ | exact xb_r _) (fun h101 => ?_) (fun h101 => ?_)
    · refine xe_s (f := (128, _, _, _)) xt_g318 rfl rfl rfl rfl rfl ?_
      refine xe_mgs xt_g318 rfl (q := 131) rfl (xf_13_272 fm) (by decide) rfl (by omega) ?_
      try simp only [xo_u, xo_w, Nat.reduceEqDiff, reduceIte, false_and, true_and]
      refine j131 hKD (s 38) (Int.le_refl _) (by omega) (Or.inl rfl) ?_
      rw [hV, if_neg]
      intro he
      rw [← hV, pa_sl_nil (by omega)] at he
      exact absurd he (by decide)
    · refine xe_s (f := (105, _, _, _)) xt_g318 rfl rfl rfl rfl rfl ?_
      refine xe_mga xt_g318 rfl (q := 108) rfl (xf_13_7 fm) (by decide) rfl (by omega) ?_
      try simp only [xo_u, xo_w, Nat.reduceEqDiff, reduceIte, false_and, true_and]
      refine xe_s (f := (109, _, _, _)) xt_g318 rfl rfl rfl rfl rfl ?_
      refine xe_mgs xt_g318 rfl (q := 112) rfl (xf_13_272 fm) (by decide) rfl (by omega) ?_
      try simp only [xo_u, xo_w, Nat.reduceEqDiff, reduceIte, false_and, true_and]
      refine xe_mal (ok := xm_isN) (ty := .int) xt_g318 rfl (q := 113) rfl (fun _ _ => ⟨rfl, rfl, rfl, rfl⟩) rfl rfl rfl (by omega) (by omega) (by omega) (by omega) ?_
      try simp only [xo_u, xo_w, Nat.reduceEqDiff, reduceIte, false_and, true_and]
      refine xe_bipush xt_g318 rfl (q := 115) rfl (by decide) (by decide) ?_
      refine xe_ic_ne xt_g318 rfl (t := 127) rfl (q := 118) rfl (by first | omega | exact hw.1 _ | exact hw.2 _ _ | exact xb_r _) (by first | omega | exact hw.1 _ | exact hw.2 _ _ | exact xb_r _) (fun h115 => ?_) (fun h115 => ?_)
      · refine xe_s (f := (128, _, _, _)) xt_g318 rfl rfl rfl rfl rfl ?_
        refine xe_mgs xt_g318 rfl (q := 131) rfl (xf_13_272 fm) (by decide) rfl (by omega) ?_
        try simp only [xo_u, xo_w, Nat.reduceEqDiff, reduceIte, false_and, true_and]
        refine j131 hKD (s 38) (Int.le_refl _) (by omega) (Or.inl rfl) ?_
        rw [hV, if_neg]
        intro he
        rw [← hV, pa_sl_0 (by omega), xd_at_in (by omega) (by omega)] at he
        exact h115 he
      · refine xe_s (f := (119, _, _, _)) xt_g318 rfl rfl rfl rfl rfl ?_
        refine xe_mgs xt_g318 rfl (q := 122) rfl (xf_13_272 fm) (by decide) rfl (by omega) ?_
        try simp only [xo_u, xo_w, Nat.reduceEqDiff, reduceIte, false_and, true_and]
        refine xe_s (f := (123, _, xi 1 :: _, _)) xt_g318 rfl rfl rfl rfl rfl ?_
        refine xe_iadd xt_g318 rfl (q := 124) rfl ?_
        refine xe_s (f := (131, _, _, _)) xt_g318 rfl rfl rfl rfl rfl ?_
        refine j131 hKD (s 38 + 1) (by omega) (by omega) (Or.inr (by omega)) ?_
        rw [if_pos, ← hV, pa_sl_d (by omega)]
        rw [← hV, pa_sl_0 (by omega), xd_at_in (by omega) (by omega)]
        exact Decidable.not_not.mp h115
theorem xU_takeAttribute (hmn : xo_in m n) (hw : xo_wf s ar) (hB : xo_B ar) {K : List Int} (hK : ky_ok K) {a : at_T} (ha : at_rel s ar a) (h2 : s 2 ≤ 160) (h8 : 0 ≤ s 38) (h9 : s 38 ≤ s 39) (h92 : s 39 ≤ s 2) :
    xU fm 318 m n h0 s ar [.ref m, xl (ky_of K)] (xd_PT s ar (at_one K (pa_sl (xd_at s ar) (s 38) (s 39)) a)) := by
  show xe fm 318 (0, [(0, .ref m), (1, xl (ky_of K))], [], (xo m s ar h0, n, 0, 0)) _
  have hkr := ky_of_r hK
  have hc1 := xd_cmp_r (ky_of K) 126879297532517
  have hc2 := xd_cmp_r (ky_of K) 7526768903497608313
  have hc3 := xd_cmp_r (ky_of K) 1885434984
  have hS := ky_is hK at_okW.1 (by decide) (by decide)
  have hH := ky_is hK at_okW.2.1 (by decide) (by decide)
  have hP := ky_is hK at_okW.2.2.1 (by decide) (by decide)
  rw [show ky_pack at_wS = 126879297532517 by decide] at hS
  rw [show ky_pack at_wH = 7526768903497608313 by decide] at hH
  rw [show ky_pack at_wP = 1885434984 by decide] at hP
  generalize hV : pa_sl (xd_at s ar) (s 38) (s 39) = V
  have e32 : ∀ (ar1 : Nat → Nat → Int) (a1 : at_T), xo_wf s ar1 → xo_B ar1 → xq [33, 34, 35, 36, 37] [30, 31, 32] s ar s ar1 → ck_keep ar ar1 → at_rel s ar1 a1 → at_2 K (at_1 K a) = a1 → xe fm 318 (32, [(0, .ref m), (1, xl (ky_of K))], [], (xo m s ar1 h0, n, 0, 0)) (xQU m n h0 (xd_PT s ar (at_one K V a))) := by
    intro ar1 a1 w1 B1 q1 k1 r1 he
    have t1 : xd_at s ar1 = xd_at s ar := xq_at q1 (by decide) (by decide)
    have hrk := w1.2 1 (s 38).toNat
    unfold at_one
    rw [he]
    obtain ⟨d1, d2, d3, d4, d5⟩ := r1
    have j74 : K = at_wP → ∀ z : Int, (z = -1 ∧ V.getD 0 0 ≠ 47) ∨ (z = s 38 ∧ V.getD 0 0 = 47) → xe fm 318 (74, [(0, .ref m), (1, xl (ky_of K))], [xi z, .ref m], (xo m s ar1 h0, n, 0, 0)) (xQU m n h0 (xd_PT s ar (at_5 K V (at_4 K V (at_3 K V a1))))) := by
      intro hKP z hz
      have e2 : xd_at (xo_u (xo_u s 34 z) 35 (s 39)) ar1 = xd_at s ar := t1
      have h := xe_ta4 fm hmn (h0 := h0) (s := xo_u (xo_u s 34 z) 35 (s 39)) (ar := ar1) (s0 := s) (ar0 := ar) (xo_wf_u (xo_wf_u w1 (by omega)) (by omega)) B1 (xq_u (xq_u q1 (by decide)) (by decide)) k1 hK (a := at_3 K V a1) ⟨?_, ?_, ?_, ?_, ?_⟩ h2 h8 h9 h92
      · have h' : xe fm 318 (85, [(0, .ref m), (1, xl (ky_of K))], [], (xo m (xo_u (xo_u s 34 z) 35 (s 39)) ar1 h0, n, 0, 0)) (xQU m n h0 (xd_PT s ar (at_5 K (pa_sl (xd_at (xo_u (xo_u s 34 z) 35 (s 39)) ar1) (s 38) (s 39)) (at_4 K (pa_sl (xd_at (xo_u (xo_u s 34 z) 35 (s 39)) ar1) (s 38) (s 39)) (at_3 K V a1))))) := h
        rw [e2, hV] at h'
        refine xe_mps xt_g318 rfl (q := 77) rfl (xf_13_310 fm) (by decide) rfl (by omega) (by omega) xi_int (Or.inl rfl) ?_
        refine xe_s (f := (78, _, _, _)) xt_g318 rfl rfl rfl rfl rfl ?_
        refine xe_s (f := (79, _, _, _)) xt_g318 rfl rfl rfl rfl rfl ?_
        refine xe_mgs xt_g318 rfl (q := 82) rfl (xf_13_275 fm) (by decide) rfl (by omega) ?_
        try simp only [xo_u, xo_w, Nat.reduceEqDiff, reduceIte, false_and, true_and]
        refine xe_mps xt_g318 rfl (q := 85) rfl (xf_13_330 fm) (by decide) rfl (by omega) (by omega) xi_int (Or.inl rfl) ?_
        exact h'
      · unfold at_3
        rw [if_pos hKP]
        show at_rd _ _ a1.1
        cases h : a1.1 with
        | none => rw [h] at d1; exact d1
        | some d => rw [h] at d1; exact d1
      · unfold at_3
        rw [if_pos hKP]
        rcases hz with ⟨hz, hv⟩ | ⟨hz, hv⟩
        · show at_rp _ _ (if V.getD 0 0 = 47 then some V else none)
          rw [if_neg hv, hz]
          rfl
        · show at_rp _ _ (if V.getD 0 0 = 47 then some V else none)
          rw [if_pos hv, hz]
          exact ⟨h8, h9, h92, by rw [show xd_at (xo_u (xo_u s 34 (s 38)) 35 (s 39)) ar1 = xd_at s ar from t1, ← hV]; rfl⟩
      · unfold at_3
        rw [if_pos hKP]
        show at_ra _ a1.2.2.1
        cases h : a1.2.2.1 with
        | none => rw [h] at d3; exact d3
        | some d => rw [h] at d3; exact d3
      · unfold at_3
        rw [if_pos hKP]
        exact d4
      · unfold at_3
        rw [if_pos hKP]
        exact d5
    refine xe_s (f := (33, _, _, _)) xt_g318 rfl rfl rfl rfl rfl ?_
    refine xe_ldcl (z := 1885434984) xt_g318 rfl (q := 36) rfl rfl (by decide) ?_
    refine xe_lcmp xt_g318 rfl (q := 37) rfl (by omega) (by omega) ?_
    refine xe_if_ne xt_g318 rfl (t := 85) rfl (q := 40) rfl (by first | omega | exact hw.1 _ | exact hw.2 _ _ | exact xb_r _) (fun h37 => ?_) (fun h37 => ?_)
    · try simp only [xb_0, xb_1, ne_eq, Decidable.not_not, decide_eq_true_eq, decide_eq_false_iff_not] at h37
      have hne : K ≠ at_wP := fun h => h37 (xd_cmp_0.mpr (hP.mpr h))
      have h := xe_ta4 fm hmn (h0 := h0) w1 B1 q1 k1 hK (a := a1) ⟨d1, d2, d3, d4, d5⟩ h2 h8 h9 h92
      rw [show at_3 K V a1 = a1 by unfold at_3; rw [if_neg hne]]
      rw [t1, hV] at h
      exact h
    · try simp only [xb_0, xb_1, ne_eq, Decidable.not_not, decide_eq_true_eq, decide_eq_false_iff_not] at h37
      have hKP : K = at_wP := hP.mp (xd_cmp_0.mp h37)
      refine xe_s (f := (41, _, _, _)) xt_g318 rfl rfl rfl rfl rfl ?_
      refine xe_s (f := (42, _, _, _)) xt_g318 rfl rfl rfl rfl rfl ?_
      refine xe_mgs xt_g318 rfl (q := 45) rfl (xf_13_272 fm) (by decide) rfl (by omega) ?_
      try simp only [xo_u, xo_w, Nat.reduceEqDiff, reduceIte, false_and, true_and]
      refine xe_s (f := (46, _, _, _)) xt_g318 rfl rfl rfl rfl rfl ?_
      refine xe_mgs xt_g318 rfl (q := 49) rfl (xf_13_275 fm) (by decide) rfl (by omega) ?_
      try simp only [xo_u, xo_w, Nat.reduceEqDiff, reduceIte, false_and, true_and]
      refine xe_ic_ge xt_g318 rfl (t := 73) rfl (q := 52) rfl (by first | omega | exact hw.1 _ | exact hw.2 _ _ | exact xb_r _) (by first | omega | exact hw.1 _ | exact hw.2 _ _ | exact xb_r _) (fun h49 => ?_) (fun h49 => ?_)
      · refine xe_s (f := (74, _, xi (-1) :: _, _)) xt_g318 rfl rfl rfl rfl rfl ?_
        refine j74 hKP _ (Or.inl ⟨rfl, ?_⟩)
        rw [← hV, pa_sl_nil (by omega)]
        decide
      · refine xe_s (f := (53, _, _, _)) xt_g318 rfl rfl rfl rfl rfl ?_
        refine xe_mga xt_g318 rfl (q := 56) rfl (xf_13_7 fm) (by decide) rfl (by omega) ?_
        try simp only [xo_u, xo_w, Nat.reduceEqDiff, reduceIte, false_and, true_and]
        refine xe_s (f := (57, _, _, _)) xt_g318 rfl rfl rfl rfl rfl ?_
        refine xe_mgs xt_g318 rfl (q := 60) rfl (xf_13_272 fm) (by decide) rfl (by omega) ?_
        try simp only [xo_u, xo_w, Nat.reduceEqDiff, reduceIte, false_and, true_and]
        refine xe_mal (ok := xm_isN) (ty := .int) xt_g318 rfl (q := 61) rfl (fun _ _ => ⟨rfl, rfl, rfl, rfl⟩) rfl rfl rfl (by omega) (by omega) (by omega) (by omega) ?_
        try simp only [xo_u, xo_w, Nat.reduceEqDiff, reduceIte, false_and, true_and]
        refine xe_bipush xt_g318 rfl (q := 63) rfl (by decide) (by decide) ?_
        refine xe_ic_ne xt_g318 rfl (t := 73) rfl (q := 66) rfl (by first | omega | exact hw.1 _ | exact hw.2 _ _ | exact xb_r _) (by first | omega | exact hw.1 _ | exact hw.2 _ _ | exact xb_r _) (fun h63 => ?_) (fun h63 => ?_)
        · refine xe_s (f := (74, _, xi (-1) :: _, _)) xt_g318 rfl rfl rfl rfl rfl ?_
          refine j74 hKP _ (Or.inl ⟨rfl, ?_⟩)
          rw [← hV, pa_sl_0 (by omega), xd_at_in (by omega) (by omega), ← q1.2 1 (by decide)]
          exact h63
        · refine xe_s (f := (67, _, _, _)) xt_g318 rfl rfl rfl rfl rfl ?_
          refine xe_mgs xt_g318 rfl (q := 70) rfl (xf_13_272 fm) (by decide) rfl (by omega) ?_
          try simp only [xo_u, xo_w, Nat.reduceEqDiff, reduceIte, false_and, true_and]
          refine xe_s (f := (74, _, _, _)) xt_g318 rfl rfl rfl rfl rfl ?_
          refine j74 hKP _ (Or.inr ⟨rfl, ?_⟩)
          rw [← hV, pa_sl_0 (by omega), xd_at_in (by omega) (by omega), ← q1.2 1 (by decide)]
          exact Decidable.not_not.mp h63
  have e16 : ∀ (ar1 : Nat → Nat → Int) (a1 : at_T), xo_wf s ar1 → xo_B ar1 → xq [33, 34, 35, 36, 37] [30, 31, 32] s ar s ar1 → ck_keep ar ar1 → at_rel s ar1 a1 → at_1 K a = a1 → xe fm 318 (16, [(0, .ref m), (1, xl (ky_of K))], [], (xo m s ar1 h0, n, 0, 0)) (xQU m n h0 (xd_PT s ar (at_one K V a))) := by
    intro ar1 a1 w1 B1 q1 k1 r1 he
    refine xe_s (f := (17, _, _, _)) xt_g318 rfl rfl rfl rfl rfl ?_
    refine xe_ldcl (z := 7526768903497608313) xt_g318 rfl (q := 20) rfl rfl (by decide) ?_
    refine xe_lcmp xt_g318 rfl (q := 21) rfl (by omega) (by omega) ?_
    refine xe_if_ne xt_g318 rfl (t := 32) rfl (q := 24) rfl (by first | omega | exact hw.1 _ | exact hw.2 _ _ | exact xb_r _) (fun h21 => ?_) (fun h21 => ?_)
    · try simp only [xb_0, xb_1, ne_eq, Decidable.not_not, decide_eq_true_eq, decide_eq_false_iff_not] at h21
      have hne : K ≠ at_wH := fun h => h21 (xd_cmp_0.mpr (hH.mpr h))
      exact e32 ar1 a1 w1 B1 q1 k1 r1 (by rw [he]; unfold at_2; rw [if_neg hne])
    · try simp only [xb_0, xb_1, ne_eq, Decidable.not_not, decide_eq_true_eq, decide_eq_false_iff_not] at h21
      refine xe_s (f := (25, _, _, _)) xt_g318 rfl rfl rfl rfl rfl ?_
      refine xe_mga xt_g318 rfl (q := 28) rfl (xf_13_71 fm) (by decide) rfl (by omega) ?_
      try simp only [xo_u, xo_w, Nat.reduceEqDiff, reduceIte, false_and, true_and]
      refine xe_bipush xt_g318 rfl (q := 30) rfl (by decide) (by decide) ?_
      refine xe_s (f := (31, _, xi 1 :: _, _)) xt_g318 rfl rfl rfl rfl rfl ?_
      refine xe_mas (ok := xm_isB) (ty := .boolean) xt_g318 rfl (q := 32) rfl (fun _ _ => ⟨rfl, rfl, rfl, rfl⟩) rfl rfl rfl (by omega) (by omega) (by omega) (by omega) (by omega) (xi_nb (by first | omega | exact xb_or _)) ?_
      have hKH : K = at_wH := hH.mp (xd_cmp_0.mp h21)
      obtain ⟨d1, d2, d3, d4, d5⟩ := r1
      refine e32 _ (a1.1, a1.2.1, a1.2.2.1, a1.2.2.2.1, true) (xo_wf_w w1 (by omega)) (xo_B_w B1 (fun _ => Or.inr rfl)) (xq_w q1 (by decide)) (ck_keep_b k1 (by omega)) ⟨?_, ?_, d3, ?_, xo_wS⟩ (by rw [he]; unfold at_2; rw [if_pos hKH])
      · show at_rd _ _ a1.1
        cases h : a1.1 with
        | none => rw [h] at d1; exact d1
        | some d => rw [h] at d1; exact ⟨d1.1, d1.2.1, d1.2.2.1, by rw [xo_wK (by decide)]; exact d1.2.2.2⟩
      · show at_rp _ _ a1.2.1
        cases h : a1.2.1 with
        | none => rw [h] at d2; exact d2
        | some d => rw [h] at d2; exact d2
      · show xo_w ar1 31 41 1 30 41 = xb a1.2.2.2.1
        rw [xo_wK (by decide)]
        exact d4
  refine xe_s (f := (1, _, _, _)) xt_g318 rfl rfl rfl rfl rfl ?_
  refine xe_ldcl (z := 126879297532517) xt_g318 rfl (q := 4) rfl rfl (by decide) ?_
  refine xe_lcmp xt_g318 rfl (q := 5) rfl (by omega) (by omega) ?_
  refine xe_if_ne xt_g318 rfl (t := 16) rfl (q := 8) rfl (by first | omega | exact hw.1 _ | exact hw.2 _ _ | exact xb_r _) (fun h5 => ?_) (fun h5 => ?_)
  · try simp only [xb_0, xb_1, ne_eq, Decidable.not_not, decide_eq_true_eq, decide_eq_false_iff_not] at h5
    have hne : K ≠ at_wS := fun h => h5 (xd_cmp_0.mpr (hS.mpr h))
    exact e16 ar a hw hB xq_r ck_keep_r ha (by unfold at_1; rw [if_neg hne])
  · try simp only [xb_0, xb_1, ne_eq, Decidable.not_not, decide_eq_true_eq, decide_eq_false_iff_not] at h5
    refine xe_s (f := (9, _, _, _)) xt_g318 rfl rfl rfl rfl rfl ?_
    refine xe_mga xt_g318 rfl (q := 12) rfl (xf_13_68 fm) (by decide) rfl (by omega) ?_
    try simp only [xo_u, xo_w, Nat.reduceEqDiff, reduceIte, false_and, true_and]
    refine xe_bipush xt_g318 rfl (q := 14) rfl (by decide) (by decide) ?_
    refine xe_s (f := (15, _, xi 1 :: _, _)) xt_g318 rfl rfl rfl rfl rfl ?_
    refine xe_mas (ok := xm_isB) (ty := .boolean) xt_g318 rfl (q := 16) rfl (fun _ _ => ⟨rfl, rfl, rfl, rfl⟩) rfl rfl rfl (by omega) (by omega) (by omega) (by omega) (by omega) (xi_nb (by first | omega | exact xb_or _)) ?_
    have hKS : K = at_wS := hS.mp (xd_cmp_0.mp h5)
    obtain ⟨d1, d2, d3, d4, d5⟩ := ha
    refine e16 _ (a.1, a.2.1, a.2.2.1, true, a.2.2.2.2) (xo_wf_w hw (by omega)) (xo_B_w hB (fun _ => Or.inr rfl)) (xq_w xq_r (by decide)) (ck_keep_b ck_keep_r (by omega)) ⟨?_, ?_, d3, xo_wS, ?_⟩ (by unfold at_1; rw [if_pos hKS])
    · show at_rd _ _ a.1
      cases h : a.1 with
      | none => rw [h] at d1; exact d1
      | some d => rw [h] at d1; exact ⟨d1.1, d1.2.1, d1.2.2.1, by rw [xo_wK (by decide)]; exact d1.2.2.2⟩
    · show at_rp _ _ a.2.1
      cases h : a.2.1 with
      | none => rw [h] at d2; exact d2
      | some d => rw [h] at d2; exact d2
    · show xo_w ar 30 41 1 31 41 = xb a.2.2.2.2
      rw [xo_wK (by decide)]
      exact d5
end XTA
