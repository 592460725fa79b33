/-! the reference: takeAge, takeAttribute -/
def at_num (V : List Int) : Int := V.foldl (fun a c => 10 * a + c - 48) 0
def at_ag2 (B : List Int) (below : Bool) : Option Int := if 1 ≤ B.length ∧ B.length ≤ 7 ∧ B.all xd_dig = true then some (if below = true then 0 else at_num B) else none
def at_age (V : List Int) : Option Int := if V.getD 0 0 = 45 then at_ag2 (V.drop 1) true else at_ag2 V false
theorem at_num_b : ∀ (B : List Int) (a : Int), 0 ≤ a → B.all xd_dig = true → 0 ≤ B.foldl (fun a c => 10 * a + c - 48) a ∧ B.foldl (fun a c => 10 * a + c - 48) a < (a + 1) * 10 ^ B.length
  | [], a, ha, _ => by simp; omega
  | c :: B, a, ha, h => by
    rw [List.all_cons, Bool.and_eq_true] at h
    have hc : 48 ≤ c ∧ c ≤ 57 := of_decide_eq_true h.1
    have ih := at_num_b B (10 * a + c - 48) (by omega) h.2
    rw [List.foldl_cons, List.length_cons, Int.pow_succ]
    refine ⟨ih.1, ?_⟩
    have h2 := ih.2
    generalize (10 : Int) ^ B.length = w at *
    generalize B.foldl (fun a c => 10 * a + c - 48) (10 * a + c - 48) = x at *
    have hw : 0 ≤ w := by
      apply Decidable.byContradiction
      intro hn
      have : (10 * a + c - 48 + 1) * w ≤ 0 := Int.mul_nonpos_of_nonneg_of_nonpos (by omega) (by omega)
      omega
    have h3 : (10 * a + c - 48 + 1) * w ≤ ((a + 1) * 10) * w := Int.mul_le_mul_of_nonneg_right (by omega) hw
    rw [show (a + 1) * (w * 10) = ((a + 1) * 10) * w by rw [Int.mul_comm w 10, Int.mul_assoc]]
    omega
theorem at_num_7 {B : List Int} (h : B.all xd_dig = true) (hl : B.length ≤ 7) : 0 ≤ at_num B ∧ at_num B ≤ 9999999 := by
  have h1 := at_num_b B 0 (by omega) h
  unfold at_num
  refine ⟨h1.1, ?_⟩
  have h2 := h1.2
  have : B.length = 0 ∨ B.length = 1 ∨ B.length = 2 ∨ B.length = 3 ∨ B.length = 4 ∨ B.length = 5 ∨ B.length = 6 ∨ B.length = 7 := by omega
  rcases this with e | e | e | e | e | e | e | e <;> rw [e] at h2 <;> simp at h2 <;> omega
theorem at_ag2_r {B : List Int} {below : Bool} {v : Int} (h : at_ag2 B below = some v) : 0 ≤ v ∧ v ≤ 9999999 := by
  unfold at_ag2 at h
  split at h
  · rename_i hc
    have := at_num_7 hc.2.2 hc.2.1
    cases h
    split <;> omega
  · cases h
theorem at_age_r {V : List Int} {v : Int} (h : at_age V = some v) : 0 ≤ v ∧ v ≤ 9999999 := by
  unfold at_age at h
  split at h
  · exact at_ag2_r h
  · exact at_ag2_r h
def xd_ag (s : Nat → Int) (r : Option Int) : Nat → Int := match r with
  | none => s
  | some v => xo_u (xo_u s 37 1) 36 v
theorem xd_cmp_0 {a b : Int} : xd_cmp a b = 0 ↔ a = b := by
  unfold xd_cmp
  split
  · simp
    omega
  · split
    · simp_all
    · simp_all
theorem xd_cmp_r (a b : Int) : xr (xd_cmp a b) := by
  unfold xd_cmp
  split
  · decide
  · split
    · decide
    · decide
theorem pa_sl_0 {t : Int → Int} {a b : Int} (h : a < b) : (pa_sl t a b).getD 0 0 = t a := by
  rw [pa_sl_get (by omega)]
  congr 1
  omega
theorem pa_sl_d {t : Int → Int} {a b : Int} (h : a < b) : (pa_sl t a b).drop 1 = pa_sl t (a + 1) b := by
  rw [pa_sl_c h]
  rfl
section XAG
variable (fm : Value) {m n : Nat} {h0 : xm_H} {s : Nat → Int} {ar : Nat → Nat → Int}
theorem xv_takeAge (hmn : xo_in m n) (hw : xo_wf s ar) (h2 : s 2 ≤ 160) (h8 : 0 ≤ s 38) (h9 : s 38 ≤ s 39) (h92 : s 39 ≤ s 2) : xv fm 319 m n h0 s ar [.ref m] none (xd_ag s (at_age (pa_sl (xd_at s ar) (s 38) (s 39)))) ar := by
  show xe fm 319 (0, [(0, .ref m)], [], (xo m s ar h0, n, 0, 0)) _
  generalize hA : at_age (pa_sl (xd_at s ar) (s 38) (s 39)) = A
  have main : ∀ (below : Bool) (b : Int), s 38 ≤ b → b ≤ s 39 + 1 → A = at_ag2 (pa_sl (xd_at s ar) b (s 39)) below → xe fm 319 (48, [(1, xi (xb below)), (0, .ref m)], [xi b], (xo m s ar h0, n, 0, 0)) (fun r M => r = .inl none ∧ M = (xo m (xd_ag s A) ar h0, n, 0, 0)) := by
    intro below b hb1 hb2 hAb
    have hlen : (pa_sl (xd_at s ar) b (s 39)).length = (s 39 - b).toNat := pa_sl_len
    have loop : 1 ≤ s 39 - b → s 39 - b ≤ 7 → ∀ (N : Nat) (k : Int), b ≤ k → k + N = s 39 → (pa_sl (xd_at s ar) b k).all xd_dig = true → xe fm 319 (76, [(4, xi k), (3, xi (at_num (pa_sl (xd_at s ar) b k))), (2, xi b), (1, xi (xb below)), (0, .ref m)], [], (xo m s ar h0, n, 0, 0)) (fun r M => r = .inl none ∧ M = (xo m (xd_ag s A) ar h0, n, 0, 0)) := by
      intro hl1 hl7 N
      induction N with
      | zero =>
        intro k hk hN hall
        rw [show k = s 39 by omega] at hall ⊢
        have hA2 : A = some (if below = true then 0 else at_num (pa_sl (xd_at s ar) b (s 39))) := by
          rw [hAb]
          unfold at_ag2
          rw [if_pos ⟨by omega, by omega, hall⟩]
        rw [hA2]
        refine xe_s (f := (78, _, _, _)) xt_g319 rfl rfl rfl rfl rfl ?_
        refine xe_s (f := (79, _, _, _)) xt_g319 rfl rfl rfl rfl rfl ?_
        refine xe_mgs xt_g319 rfl (q := 82) rfl (xf_13_275 fm) (by decide) rfl (by omega) ?_
        try simp only [xo_u, xo_w, Nat.reduceEqDiff, reduceIte, false_and, true_and]
        refine xe_ic_ge xt_g319 rfl (t := 121) rfl (q := 85) rfl (by first | omega | exact hw.1 _ | exact hw.2 _ _ | exact xb_r _) (by first | omega | exact hw.1 _ | exact hw.2 _ _ | exact xb_r _) (fun h82 => ?_) (fun h82 => ?_)
        · refine xe_s (f := (122, _, _, _)) xt_g319 rfl rfl rfl rfl rfl ?_
          refine xe_s (f := (123, _, xi 1 :: _, _)) xt_g319 rfl rfl rfl rfl rfl ?_
          refine xe_mps xt_g319 rfl (q := 126) rfl (xf_13_313 fm) (by decide) rfl (by omega) (by omega) (xi_bool (by omega)) (Or.inl rfl) ?_
          refine xe_s (f := (127, _, _, _)) xt_g319 rfl rfl rfl rfl rfl ?_
          refine xe_s (f := (128, _, _, _)) xt_g319 rfl rfl rfl rfl rfl ?_
          refine xe_if_eq xt_g319 rfl (t := 135) rfl (q := 131) rfl (by first | omega | exact hw.1 _ | exact hw.2 _ _ | exact xb_r _) (fun h128 => ?_) (fun h128 => ?_)
          · try simp only [xb_0, xb_1, ne_eq, Decidable.not_not, decide_eq_true_eq, decide_eq_false_iff_not] at h128
            refine xe_s (f := (136, _, _, _)) xt_g319 rfl rfl rfl rfl rfl ?_
            refine xe_mps xt_g319 rfl (q := 139) rfl (xf_13_340 fm) (by decide) rfl (by omega) (by omega) xi_int (Or.inl rfl) ?_
            refine xe_ret xt_g319 rfl rfl ?_
            rw [h128]
            exact ⟨rfl, rfl⟩
          · try simp only [xb_0, xb_1, ne_eq, Decidable.not_not, decide_eq_true_eq, decide_eq_false_iff_not] at h128
            refine xe_s (f := (132, _, xi 0 :: _, _)) xt_g319 rfl rfl rfl rfl rfl ?_
            refine xe_s (f := (136, _, _, _)) xt_g319 rfl rfl rfl rfl rfl ?_
            refine xe_mps xt_g319 rfl (q := 139) rfl (xf_13_340 fm) (by decide) rfl (by omega) (by omega) xi_int (Or.inl rfl) ?_
            refine xe_ret xt_g319 rfl rfl ?_
            rw [show below = true by simpa using h128]
            exact ⟨rfl, rfl⟩
        · exact absurd h82 (by omega)
      | succ N ih =>
        intro k hk hN hall
        have hrk := hw.2 1 k.toNat
        have ek := xd_at_in (s := s) (ar := ar) (k := k) (by omega) (by omega)
        refine xe_s (f := (78, _, _, _)) xt_g319 rfl rfl rfl rfl rfl ?_
        refine xe_s (f := (79, _, _, _)) xt_g319 rfl rfl rfl rfl rfl ?_
        refine xe_mgs xt_g319 rfl (q := 82) rfl (xf_13_275 fm) (by decide) rfl (by omega) ?_
        try simp only [xo_u, xo_w, Nat.reduceEqDiff, reduceIte, false_and, true_and]
        refine xe_ic_ge xt_g319 rfl (t := 121) rfl (q := 85) rfl (by first | omega | exact hw.1 _ | exact hw.2 _ _ | exact xb_r _) (by first | omega | exact hw.1 _ | exact hw.2 _ _ | exact xb_r _) (fun h82 => ?_) (fun h82 => ?_)
        · exact absurd h82 (by omega)
        · refine xe_s (f := (86, _, _, _)) xt_g319 rfl rfl rfl rfl rfl ?_
          refine xe_mga xt_g319 rfl (q := 89) rfl (xf_13_7 fm) (by decide) rfl (by omega) ?_
          try simp only [xo_u, xo_w, Nat.reduceEqDiff, reduceIte, false_and, true_and]
          refine xe_s (f := (91, _, _, _)) xt_g319 rfl rfl rfl rfl rfl ?_
          refine xe_mal (ok := xm_isN) (ty := .int) xt_g319 rfl (q := 92) rfl (fun _ _ => ⟨rfl, rfl, rfl, rfl⟩) rfl rfl rfl (by omega) (by omega) (by omega) (by omega) ?_
          try simp only [xo_u, xo_w, Nat.reduceEqDiff, reduceIte, false_and, true_and]
          refine xe_csI xt_g319 rfl (q := 95) rfl xk_13_162 rfl (Nat.le_of_ble_eq_true rfl) xt_g252 (by decide) ⟨Nat.le_of_ble_eq_true rfl, Nat.le_of_ble_eq_true rfl, Nat.le_of_ble_eq_true rfl⟩ (xv_isDigit fm hrk) ?_
          refine xe_if_ne xt_g319 rfl (t := 99) rfl (q := 98) rfl (by first | omega | exact hw.1 _ | exact hw.2 _ _ | exact xb_r _) (fun h95 => ?_) (fun h95 => ?_)
          · try simp only [xb_0, xb_1, ne_eq, Decidable.not_not, decide_eq_true_eq, decide_eq_false_iff_not] at h95
            refine xe_bipush xt_g319 rfl (q := 101) rfl (by decide) (by decide) ?_
            refine xe_s (f := (102, _, _, _)) xt_g319 rfl rfl rfl rfl rfl ?_
            refine xe_imul xt_g319 rfl (q := 103) rfl ?_
            refine xe_s (f := (104, _, _, _)) xt_g319 rfl rfl rfl rfl rfl ?_
            refine xe_mga xt_g319 rfl (q := 107) rfl (xf_13_7 fm) (by decide) rfl (by omega) ?_
            try simp only [xo_u, xo_w, Nat.reduceEqDiff, reduceIte, false_and, true_and]
            refine xe_s (f := (109, _, _, _)) xt_g319 rfl rfl rfl rfl rfl ?_
            refine xe_mal (ok := xm_isN) (ty := .int) xt_g319 rfl (q := 110) rfl (fun _ _ => ⟨rfl, rfl, rfl, rfl⟩) rfl rfl rfl (by omega) (by omega) (by omega) (by omega) ?_
            try simp only [xo_u, xo_w, Nat.reduceEqDiff, reduceIte, false_and, true_and]
            refine xe_iadd xt_g319 rfl (q := 111) rfl ?_
            refine xe_bipush xt_g319 rfl (q := 113) rfl (by decide) (by decide) ?_
            refine xe_isub xt_g319 rfl (q := 114) rfl ?_
            refine xe_s (f := (115, [(3, _), (4, _), (2, _), (1, _), (0, _)], _, _)) xt_g319 rfl rfl rfl rfl rfl ?_
            refine xe_iinc xt_g319 rfl (q := 118) rfl rfl (by decide) (L1 := [(4, _), (3, _), (2, _), (1, _), (0, _)]) rfl ?_
            refine xe_s (f := (76, _, _, _)) xt_g319 rfl rfl rfl rfl rfl ?_
            have e1 : at_num (pa_sl (xd_at s ar) b (k + 1)) = 10 * at_num (pa_sl (xd_at s ar) b k) + ar 1 k.toNat - 48 := by
              rw [pa_sl_s hk, ← ek]
              unfold at_num
              rw [List.foldl_append]
              rfl
            have h := ih (k + 1) (by omega) (by omega) (by
              rw [pa_sl_s hk, List.all_append, hall, ek]
              simpa using h95)
            rw [e1] at h
            exact xe_loc (by intro q hq; simp only [List.mem_cons, List.not_mem_nil, or_false] at hq; rcases hq with rfl | rfl | rfl | rfl | rfl <;> rfl) (h)
          · try simp only [xb_0, xb_1, ne_eq, Decidable.not_not, decide_eq_true_eq, decide_eq_false_iff_not] at h95
            have hA2 : A = none := by
              rw [hAb]
              unfold at_ag2
              rw [if_neg]
              rintro ⟨_, _, h⟩
              have := List.all_eq_true.mp h (xd_at s ar k) (by
                rw [← pa_sl_app (b := k) hk (by omega), pa_sl_c (a := k) (by omega)]
                simp)
              rw [ek, h95] at this
              cases this
            rw [hA2]
            refine xe_ret xt_g319 rfl rfl ?_
            exact ⟨rfl, rfl⟩
    have fail : (s 39 - b < 1 ∨ 7 < s 39 - b) → A = none := by
      intro h
      rw [hAb]
      unfold at_ag2
      rw [if_neg (by omega)]
    refine xe_s (f := (49, [(2, _), (1, _), (0, _)], _, _)) xt_g319 rfl rfl rfl rfl rfl ?_
    refine xe_s (f := (50, _, _, _)) xt_g319 rfl rfl rfl rfl rfl ?_
    refine xe_mgs xt_g319 rfl (q := 53) rfl (xf_13_275 fm) (by decide) rfl (by omega) ?_
    try simp only [xo_u, xo_w, Nat.reduceEqDiff, reduceIte, false_and, true_and]
    refine xe_s (f := (54, _, _, _)) xt_g319 rfl rfl rfl rfl rfl ?_
    refine xe_isub xt_g319 rfl (q := 55) rfl ?_
    refine xe_s (f := (56, _, xi 1 :: _, _)) xt_g319 rfl rfl rfl rfl rfl ?_
    refine xe_ic_lt xt_g319 rfl (t := 70) rfl (q := 59) rfl (by first | omega | exact hw.1 _ | exact hw.2 _ _ | exact xb_r _) (by first | omega | exact hw.1 _ | exact hw.2 _ _ | exact xb_r _) (fun h56 => ?_) (fun h56 => ?_)
    · refine xe_ret xt_g319 rfl rfl ?_
      rw [fail (by omega)]
      exact ⟨rfl, rfl⟩
    · refine xe_s (f := (60, _, _, _)) xt_g319 rfl rfl rfl rfl rfl ?_
      refine xe_mgs xt_g319 rfl (q := 63) rfl (xf_13_275 fm) (by decide) rfl (by omega) ?_
      try simp only [xo_u, xo_w, Nat.reduceEqDiff, reduceIte, false_and, true_and]
      refine xe_s (f := (64, _, _, _)) xt_g319 rfl rfl rfl rfl rfl ?_
      refine xe_isub xt_g319 rfl (q := 65) rfl ?_
      refine xe_bipush xt_g319 rfl (q := 67) rfl (by decide) (by decide) ?_
      refine xe_ic_le xt_g319 rfl (t := 71) rfl (q := 70) rfl (by first | omega | exact hw.1 _ | exact hw.2 _ _ | exact xb_r _) (by first | omega | exact hw.1 _ | exact hw.2 _ _ | exact xb_r _) (fun h67 => ?_) (fun h67 => ?_)
      · refine xe_s (f := (72, _, xi 0 :: _, _)) xt_g319 rfl rfl rfl rfl rfl ?_
        refine xe_s (f := (73, [(3, _), (2, _), (1, _), (0, _)], _, _)) xt_g319 rfl rfl rfl rfl rfl ?_
        refine xe_s (f := (74, _, _, _)) xt_g319 rfl rfl rfl rfl rfl ?_
        refine xe_s (f := (76, [(4, _), (3, _), (2, _), (1, _), (0, _)], _, _)) xt_g319 rfl rfl rfl rfl rfl ?_
        have h := loop (by omega) (by omega) (s 39 - b).toNat b (Int.le_refl _) (by omega) (by rw [pa_sl_nil (Int.le_refl _)]; rfl)
        rw [pa_sl_nil (Int.le_refl _)] at h
        exact xe_loc (by intro q hq; simp only [List.mem_cons, List.not_mem_nil, or_false] at hq; rcases hq with rfl | rfl | rfl | rfl | rfl <;> rfl) (h)
      · refine xe_ret xt_g319 rfl rfl ?_
        rw [fail (by omega)]
        exact ⟨rfl, rfl⟩
  have hrk := hw.2 1 (s 38).toNat
  have j30 : ∀ (below : Bool), (below = true ↔ s 38 < s 39 ∧ xd_at s ar (s 38) = 45) → xe fm 319 (30, [(0, .ref m)], [xi (xb below)], (xo m s ar h0, n, 0, 0)) (fun r M => r = .inl none ∧ M = (xo m (xd_ag s A) ar h0, n, 0, 0)) := by
    intro below hb
    refine xe_s (f := (31, [(1, _), (0, _)], _, _)) xt_g319 rfl rfl rfl rfl rfl ?_
    refine xe_s (f := (32, _, _, _)) xt_g319 rfl rfl rfl rfl rfl ?_
    refine xe_if_eq xt_g319 rfl (t := 44) rfl (q := 35) rfl (by first | omega | exact hw.1 _ | exact hw.2 _ _ | exact xb_r _) (fun h32 => ?_) (fun h32 => ?_)
    · try simp only [xb_0, xb_1, ne_eq, Decidable.not_not, decide_eq_true_eq, decide_eq_false_iff_not] at h32
      refine xe_s (f := (45, _, _, _)) xt_g319 rfl rfl rfl rfl rfl ?_
      refine xe_mgs xt_g319 rfl (q := 48) rfl (xf_13_272 fm) (by decide) rfl (by omega) ?_
      try simp only [xo_u, xo_w, Nat.reduceEqDiff, reduceIte, false_and, true_and]
      refine main below (s 38) (Int.le_refl _) (by omega) ?_
      rw [h32, ← hA]
      unfold at_age
      rw [if_neg]
      intro he
      have hlt : s 38 < s 39 := by
        apply Decidable.byContradiction
        intro h
        rw [pa_sl_nil (by omega)] at he
        exact absurd he (by decide)
      rw [pa_sl_0 hlt] at he
      rw [hb.mpr ⟨hlt, he⟩] at h32
      cases h32
    · try simp only [xb_0, xb_1, ne_eq, Decidable.not_not, decide_eq_true_eq, decide_eq_false_iff_not] at h32
      refine xe_s (f := (36, _, _, _)) xt_g319 rfl rfl rfl rfl rfl ?_
      refine xe_mgs xt_g319 rfl (q := 39) rfl (xf_13_272 fm) (by decide) rfl (by omega) ?_
      try simp only [xo_u, xo_w, Nat.reduceEqDiff, reduceIte, false_and, true_and]
      refine xe_s (f := (40, _, xi 1 :: _, _)) xt_g319 rfl rfl rfl rfl rfl ?_
      refine xe_iadd xt_g319 rfl (q := 41) rfl ?_
      refine xe_s (f := (48, _, _, _)) xt_g319 rfl rfl rfl rfl rfl ?_
      have hbt : below = true := by simpa using h32
      obtain ⟨hlt, he⟩ := hb.mp hbt
      refine main below (s 38 + 1) (by omega) (by omega) ?_
      rw [hbt, ← hA]
      unfold at_age
      rw [if_pos (by rw [pa_sl_0 hlt]; exact he), pa_sl_d hlt]
  have j30' : ∀ (z : Int) (below : Bool), z = xb below → (below = true ↔ s 38 < s 39 ∧ xd_at s ar (s 38) = 45) → xe fm 319 (30, [(0, .ref m)], [xi z], (xo m s ar h0, n, 0, 0)) (fun r M => r = .inl none ∧ M = (xo m (xd_ag s A) ar h0, n, 0, 0)) := by
    intro z below hz hb
    rw [hz]
    exact j30 below hb
  refine xe_s (f := (1, _, _, _)) xt_g319 rfl rfl rfl rfl rfl ?_
  refine xe_mgs xt_g319 rfl (q := 4) rfl (xf_13_272 fm) (by decide) rfl (by omega) ?_
  try simp only [xo_u, xo_w, Nat.reduceEqDiff, reduceIte, false_and, true_and]
  refine xe_s (f := (5, _, _, _)) xt_g319 rfl rfl rfl rfl rfl ?_
  refine xe_mgs xt_g319 rfl (q := 8) rfl (xf_13_275 fm) (by decide) rfl (by omega) ?_
  try simp only [xo_u, xo_w, Nat.reduceEqDiff, reduceIte, false_and, true_and]
  refine xe_ic_ge xt_g319 rfl (t := 29) rfl (q := 11) rfl (by first | omega | exact hw.1 _ | exact hw.2 _ _ | exact xb_r _) (by first | omega | exact hw.1 _ | exact hw.2 _ _ | exact xb_r _) (fun h8 => ?_) (fun h8 => ?_)
  · refine xe_s (f := (30, _, xi 0 :: _, _)) xt_g319 rfl rfl rfl rfl rfl ?_
    exact j30' _ false rfl ⟨fun h => by (cases h), fun h => by omega⟩
  · refine xe_s (f := (12, _, _, _)) xt_g319 rfl rfl rfl rfl rfl ?_
    refine xe_mga xt_g319 rfl (q := 15) rfl (xf_13_7 fm) (by decide) rfl (by omega) ?_
    try simp only [xo_u, xo_w, Nat.reduceEqDiff, reduceIte, false_and, true_and]
    refine xe_s (f := (16, _, _, _)) xt_g319 rfl rfl rfl rfl rfl ?_
    refine xe_mgs xt_g319 rfl (q := 19) rfl (xf_13_272 fm) (by decide) rfl (by omega) ?_
    try simp only [xo_u, xo_w, Nat.reduceEqDiff, reduceIte, false_and, true_and]
    refine xe_mal (ok := xm_isN) (ty := .int) xt_g319 rfl (q := 20) rfl (fun _ _ => ⟨rfl, rfl, rfl, rfl⟩) rfl rfl rfl (by omega) (by omega) (by omega) (by omega) ?_
    try simp only [xo_u, xo_w, Nat.reduceEqDiff, reduceIte, false_and, true_and]
    refine xe_bipush xt_g319 rfl (q := 22) rfl (by decide) (by decide) ?_
    refine xe_ic_ne xt_g319 rfl (t := 29) rfl (q := 25) rfl (by first | omega | exact hw.1 _ | exact hw.2 _ _ | exact xb_r _) (by first | omega | exact hw.1 _ | exact hw.2 _ _ | exact xb_r _) (fun h22 => ?_) (fun h22 => ?_)
    · refine xe_s (f := (30, _, xi 0 :: _, _)) xt_g319 rfl rfl rfl rfl rfl ?_
      exact j30' _ false rfl ⟨fun h => by (cases h), fun h => by rw [xd_at_in (by omega) (by omega)] at h; exact absurd h.2 h22⟩
    · refine xe_s (f := (26, _, xi 1 :: _, _)) xt_g319 rfl rfl rfl rfl rfl ?_
      refine xe_s (f := (30, _, _, _)) xt_g319 rfl rfl rfl rfl rfl ?_
      exact j30' _ true rfl ⟨fun h => ⟨by omega, by rw [xd_at_in (by omega) (by omega)]; exact Decidable.not_not.mp h22⟩, fun h => rfl⟩
end XAG
abbrev at_T : Type := Option (List Int) × Option (List Int) × Option Int × Bool × Bool
def at_wS : List Int := [115, 101, 99, 117, 114, 101]
def at_wH : List Int := [104, 116, 116, 112, 111, 110, 108, 121]
def at_wP : List Int := [112, 97, 116, 104]
def at_wD : List Int := [100, 111, 109, 97, 105, 110]
def at_wA : List Int := [109, 97, 120, 45, 97, 103, 101]
def at_1 (K : List Int) (a : at_T) : at_T := if K = at_wS then (a.1, a.2.1, a.2.2.1, true, a.2.2.2.2) else a
def at_2 (K : List Int) (a : at_T) : at_T := if K = at_wH then (a.1, a.2.1, a.2.2.1, a.2.2.2.1, true) else a
def at_3 (K V : List Int) (a : at_T) : at_T := if K = at_wP then (a.1, if V.getD 0 0 = 47 then some V else none, a.2.2) else a
def at_4 (K V : List Int) (a : at_T) : at_T := if K = at_wD then (if (if V.getD 0 0 = 46 then V.drop 1 else V) = [] then a else (some ((if V.getD 0 0 = 46 then V.drop 1 else V).map xd_sml), a.2)) else a
def at_5 (K V : List Int) (a : at_T) : at_T := if K = at_wA then (match at_age V with
  | none => a
  | some v => (a.1, a.2.1, some v, a.2.2.2)) else a
def at_one (K V : List Int) (a : at_T) : at_T := at_5 K V (at_4 K V (at_3 K V (at_2 K (at_1 K a))))
def at_rd (s : Nat → Int) (ar : Nat → Nat → Int) : Option (List Int) → Prop
  | none => s 33 = -1
  | some d => s 33 = d.length ∧ 1 ≤ d.length ∧ d.length ≤ 160 ∧ xh (ar 32) 0 d
def at_rp (s : Nat → Int) (ar : Nat → Nat → Int) : Option (List Int) → Prop
  | none => s 34 = -1
  | some p => 0 ≤ s 34 ∧ s 34 ≤ s 35 ∧ s 35 ≤ s 2 ∧ p = pa_sl (xd_at s ar) (s 34) (s 35)
def at_ra (s : Nat → Int) : Option Int → Prop
  | none => s 37 = 0
  | some v => s 37 = 1 ∧ s 36 = v ∧ 0 ≤ v ∧ v ≤ 9999999
def at_rel (s : Nat → Int) (ar : Nat → Nat → Int) (a : at_T) : Prop := at_rd s ar a.1 ∧ at_rp s ar a.2.1 ∧ at_ra s a.2.2.1 ∧ ar 30 41 = xb a.2.2.2.1 ∧ ar 31 41 = xb a.2.2.2.2
/-- of the cookies' rows all but the last stay -/
def ck_keep (ar ar' : Nat → Nat → Int) : Prop := ∀ i, i < 41 → ck_eq ar i ar' i
theorem ck_keep_r {ar : Nat → Nat → Int} : ck_keep ar ar := fun _ _ => ck_eq_r
theorem ck_keep_t {ar ar1 ar2 : Nat → Nat → Int} (h : ck_keep ar ar1) (h' : ck_keep ar1 ar2) : ck_keep ar ar2 := fun i hi => ck_eq_t (h i hi) (h' i hi)
theorem ck_keep_o {ar ar1 : Nat → Nat → Int} {F i : Nat} {z : Int} (h : ck_keep ar ar1) (hF : F < 20 ∨ 31 < F) : ck_keep ar (xo_w ar1 F i z) := ck_keep_t h (fun j hj => ck_eq_q (fun G h1 h2 => xo_wK (by omega)))
theorem ck_keep_b {ar ar1 : Nat → Nat → Int} {F : Nat} {z : Int} (h : ck_keep ar ar1) (hF : 24 ≤ F ∧ F ≤ 31) : ck_keep ar (xo_w ar1 F 41 z) := by
  refine ck_keep_t h (fun j hj => ⟨fun i hi => ?_, fun i hi => ?_, fun i hi => ?_, fun i hi => ?_, ?_, ?_, ?_, ?_, ?_, ?_, ?_, ?_⟩)
  · rw [xo_wK (by omega)]
  · rw [xo_wK (by omega)]
  · rw [xo_wK (by omega)]
  · rw [xo_wK (by omega)]
  all_goals exact xo_wI (by omega)
theorem ck_keep_x {ar ar1 : Nat → Nat → Int} {F i : Nat} {z : Int} (h : ck_keep ar ar1) (hF : (F = 20 ∨ F = 21) ∧ 492 ≤ i ∨ F = 22 ∧ 1640 ≤ i ∨ F = 23 ∧ 1230 ≤ i) : ck_keep ar (xo_w ar1 F i z) := by
  refine ck_keep_t h (fun j hj => ⟨fun k hk => ?_, fun k hk => ?_, fun k hk => ?_, fun k hk => ?_, ?_, ?_, ?_, ?_, ?_, ?_, ?_, ?_⟩)
  · by_cases hq : F = 20
    · exact xo_wI (by omega)
    · rw [xo_wK (fun e => hq e.symm)]
  · by_cases hq : F = 21
    · exact xo_wI (by omega)
    · rw [xo_wK (fun e => hq e.symm)]
  · by_cases hq : F = 22
    · exact xo_wI (by omega)
    · rw [xo_wK (fun e => hq e.symm)]
  · by_cases hq : F = 23
    · exact xo_wI (by omega)
    · rw [xo_wK (fun e => hq e.symm)]
  all_goals rw [xo_wK (by omega)]
theorem ck_keep_q {S A : List Nat} {s s1 : Nat → Int} {ar ar1 : Nat → Nat → Int} (q : xq S A s ar s1 ar1) (hA : A.all (fun k => decide (k < 20 ∨ 31 < k)) = true) : ck_keep ar ar1 := by
  intro i _
  refine ck_eq_q (fun F h1 h2 => q.2 F (fun hF => ?_))
  have := of_decide_eq_true (List.all_eq_true.mp hA F hF)
  omega
theorem ck_all_k {s s1 : Nat → Int} {ar ar1 : Nat → Nat → Int} {C : List ck_T} (h : ck_all s ar C) (hk : ck_keep ar ar1) (h19 : s1 19 = s 19) : ck_all s1 ar1 C := ⟨h19.trans h.1, h.2.1, fun i hi => ck_at_eq (h.2.2 i hi) (hk i (by have := h.2.1; omega))⟩
