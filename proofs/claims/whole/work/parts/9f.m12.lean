/-! the reference: readTail, behind the question mark -/
section XMC
variable (fm : Value) {m n : Nat} {h0 : xm_H} {s : Nat → Int} {ar : Nat → Nat → Int}
def xd_z2 (s : Nat → Int) (ar : Nat → Nat → Int) : Int := if xd_at s ar (s 3) = 35 then s 3 + 1 + xd_cnt xd_qry (xd_at s ar) (s 2 - (s 3 + 1)).toNat (s 3 + 1) else s 3
theorem xd_at_3 {z k : Int} : xd_at (xo_u s 3 z) ar k = xd_at s ar k := by
  unfold xd_at
  rw [xo_uN (by decide)]
theorem xv_here3 (hmn : xo_in m n) {z : Int} (h2 : 0 ≤ s 2 ∧ s 2 ≤ 160) (hz : 0 ≤ z ∧ z < 2147483648) : xv fm 248 m n h0 (xo_u s 3 z) ar [.ref m] (some (xi (xd_at s ar z))) (xo_u s 3 z) ar := by
  have h := xv_here fm hmn (h0 := h0) (s := xo_u s 3 z) (ar := ar) (by rw [xo_uN (by decide)]; exact h2) (by rw [xo_uS]; exact hz)
  rw [xo_uS, xd_at_3] at h
  exact h
theorem xe_tail (hmn : xo_in m n) (hw : xo_wf s ar) (h2 : 0 ≤ s 2 ∧ s 2 ≤ 160) (h3 : 0 ≤ s 3 ∧ s 3 ≤ s 2) : xe fm 264 (70, [(0, .ref m)], [], (xo m s ar h0, n, 0, 0)) (fun r M => r = .inl (some (xi (xb (decide (xd_z2 s ar = s 2))))) ∧ M = (xo m (xo_u s 3 (xd_z2 s ar)) ar h0, n, 0, 0)) := by
  have fin : ∀ z : Int, 0 ≤ z → z ≤ 400 → xe fm 264 (112, [(0, .ref m)], [], (xo m (xo_u s 3 z) ar h0, n, 0, 0)) (fun r M => r = .inl (some (xi (xb (decide (z = s 2))))) ∧ M = (xo m (xo_u s 3 z) ar h0, n, 0, 0)) := by
    intro z z1 z2
    refine xe_s (f := (113, _, _, _)) xt_g264 rfl rfl rfl rfl rfl ?_
    refine xe_mgs xt_g264 rfl (q := 116) rfl (xf_13_152 fm) (by decide) rfl (by omega) ?_
    rw [xo_uS]
    refine xe_s (f := (117, _, _, _)) xt_g264 rfl rfl rfl rfl rfl ?_
    refine xe_mgs xt_g264 rfl (q := 120) rfl (xf_13_149 fm) (by decide) rfl (by omega) ?_
    rw [xo_uN (by decide)]
    refine xe_ic_ne xt_g264 rfl (t := 127) rfl (q := 123) rfl (by first | omega | exact hw.1 _ | exact hw.2 _ _) (by first | omega | exact hw.1 _ | exact hw.2 _ _) (fun hb => ?_) (fun hb => ?_)
    · refine xe_s (f := (128, _, xi 0 :: _, _)) xt_g264 rfl rfl rfl rfl rfl ?_
      refine xe_iret xt_g264 rfl rfl (xi_bool (by first | omega | exact xb_or _)).1 ?_
      exact ⟨by rw [decide_eq_false hb]; rfl, rfl⟩
    · refine xe_s (f := (124, _, xi 1 :: _, _)) xt_g264 rfl rfl rfl rfl rfl ?_
      refine xe_s (f := (128, _, _, _)) xt_g264 rfl rfl rfl rfl rfl ?_
      refine xe_iret xt_g264 rfl rfl (xi_bool (by first | omega | exact xb_or _)).1 ?_
      exact ⟨by rw [decide_eq_true (Decidable.not_not.mp hb)]; rfl, rfl⟩
  have loop : ∀ (N : Nat) (k : Int), 0 ≤ k → k ≤ 200 → (k ≤ s 2 ∨ N = 0) → (s 2 - k).toNat = N → xe fm 264 (89, [(0, .ref m)], [], (xo m (xo_u s 3 k) ar h0, n, 0, 0)) (fun r M => r = .inl (some (xi (xb (decide (k + xd_cnt xd_qry (xd_at s ar) N k = s 2))))) ∧ M = (xo m (xo_u s 3 (k + xd_cnt xd_qry (xd_at s ar) N k)) ar h0, n, 0, 0)) := by
    intro N
    induction N with
    | zero =>
      intro k k1 k2 k3 k4
      rw [xd_cnt, Int.add_zero]
      refine xe_s (f := (90, _, _, _)) xt_g264 rfl rfl rfl rfl rfl ?_
      refine xe_mcv xt_g264 rfl (q := 93) rfl xk_13_196 rfl (by omega) xt_g248 (by decide) ⟨Nat.le_of_ble_eq_true rfl, Nat.le_of_ble_eq_true rfl, Nat.le_of_ble_eq_true rfl⟩ (xv_here3 fm hmn h2 (by omega)) ?_
      rw [xd_at_0 (by omega)]
      show xe fm 264 (93, [(0, .ref m)], [xi 0], (xo m (xo_u s 3 k) ar h0, n, 0, 0)) _
      refine xe_mcs xt_g264 rfl (q := 96) rfl xk_13_207 (Nat.le_of_ble_eq_true rfl) xt_g265 (by decide) ⟨Nat.le_of_ble_eq_true rfl, Nat.le_of_ble_eq_true rfl, Nat.le_of_ble_eq_true rfl⟩ (xv_isOfQuery fm ⟨by decide, by decide⟩) ?_
      show xe fm 264 (96, [(0, .ref m)], [xi 0], (xo m (xo_u s 3 k) ar h0, n, 0, 0)) _
      refine xe_if_eq xt_g264 rfl (t := 112) rfl (q := 99) rfl (by first | omega | exact hw.1 _ | exact hw.2 _ _) (fun hb => ?_) (fun hb => ?_)
      · exact fin k k1 (by omega)
      · exact absurd hb (by omega)
    | succ N ih =>
      intro k k1 k2 k3 k4
      refine xe_s (f := (90, _, _, _)) xt_g264 rfl rfl rfl rfl rfl ?_
      refine xe_mcv xt_g264 rfl (q := 93) rfl xk_13_196 rfl (by omega) xt_g248 (by decide) ⟨Nat.le_of_ble_eq_true rfl, Nat.le_of_ble_eq_true rfl, Nat.le_of_ble_eq_true rfl⟩ (xv_here3 fm hmn h2 (by omega)) ?_
      show xe fm 264 (93, [(0, .ref m)], [xi (xd_at s ar k)], (xo m (xo_u s 3 k) ar h0, n, 0, 0)) _
      refine xe_mcs xt_g264 rfl (q := 96) rfl xk_13_207 (Nat.le_of_ble_eq_true rfl) xt_g265 (by decide) ⟨Nat.le_of_ble_eq_true rfl, Nat.le_of_ble_eq_true rfl, Nat.le_of_ble_eq_true rfl⟩ (xv_isOfQuery fm (xd_at_r hw k)) ?_
      show xe fm 264 (96, [(0, .ref m)], [xi (xb (xd_qry (xd_at s ar k)))], (xo m (xo_u s 3 k) ar h0, n, 0, 0)) _
      have hx := xb_or (xd_qry (xd_at s ar k))
      refine xe_if_eq xt_g264 rfl (t := 112) rfl (q := 99) rfl (by first | omega | exact hw.1 _ | exact hw.2 _ _) (fun hb => ?_) (fun hb => ?_)
      · rw [xd_cnt, if_neg (by intro e; rw [e] at hb; exact absurd hb (by decide)), Int.add_zero]
        exact fin k k1 (by omega)
      · have hp : xd_qry (xd_at s ar k) = true := by cases h : xd_qry (xd_at s ar k) <;> simp_all [xb]
        refine xe_s (f := (100, _, _, _)) xt_g264 rfl rfl rfl rfl rfl ?_
        refine xe_s (f := (101, _, _, _)) xt_g264 rfl rfl rfl rfl rfl ?_
        refine xe_mgs xt_g264 rfl (q := 104) rfl (xf_13_152 fm) (by decide) rfl (by omega) ?_
        rw [xo_uS]
        refine xe_s (f := (105, _, xi 1 :: _, _)) xt_g264 rfl rfl rfl rfl rfl ?_
        refine xe_iadd xt_g264 rfl (q := 106) rfl ?_
        refine xe_mps xt_g264 rfl (q := 109) rfl (xf_13_152 fm) (by decide) rfl (by omega) (by omega) xi_int (Or.inl rfl) ?_
        refine xe_s (f := (89, _, _, _)) xt_g264 rfl rfl rfl rfl rfl ?_
        rw [xo_uu, xd_cnt, if_pos hp, show k + (1 + xd_cnt xd_qry (xd_at s ar) N (k + 1)) = k + 1 + xd_cnt xd_qry (xd_at s ar) N (k + 1) by omega]
        exact ih (k + 1) (by omega) (by omega) (by omega) (by omega)
  refine xe_s (f := (71, _, _, _)) xt_g264 rfl rfl rfl rfl rfl ?_
  refine xe_mcv xt_g264 rfl (q := 74) rfl xk_13_196 rfl (by omega) xt_g248 (by decide) ⟨Nat.le_of_ble_eq_true rfl, Nat.le_of_ble_eq_true rfl, Nat.le_of_ble_eq_true rfl⟩ (xv_here fm hmn h2 (by omega)) ?_
  show xe fm 264 (74, [(0, .ref m)], [xi (xd_at s ar (s 3))], (xo m s ar h0, n, 0, 0)) _
  have hr := xd_at_r hw (s 3)
  refine xe_bipush xt_g264 rfl (q := 76) rfl (by decide) (by decide) ?_
  refine xe_ic_ne xt_g264 rfl (t := 112) rfl (q := 79) rfl (by first | omega | exact hw.1 _ | exact hw.2 _ _) (by first | omega | exact hw.1 _ | exact hw.2 _ _) (fun hb => ?_) (fun hb => ?_)
  · rw [show xd_z2 s ar = s 3 by unfold xd_z2; rw [if_neg hb]]
    have h := fin (s 3) h3.1 (by omega)
    rw [xo_ui (s := s) (k := 3) rfl] at h ⊢
    exact h
  · rw [show xd_z2 s ar = s 3 + 1 + xd_cnt xd_qry (xd_at s ar) (s 2 - (s 3 + 1)).toNat (s 3 + 1) by unfold xd_z2; rw [if_pos (Decidable.not_not.mp hb)]]
    refine xe_s (f := (80, _, _, _)) xt_g264 rfl rfl rfl rfl rfl ?_
    refine xe_s (f := (81, _, _, _)) xt_g264 rfl rfl rfl rfl rfl ?_
    refine xe_mgs xt_g264 rfl (q := 84) rfl (xf_13_152 fm) (by decide) rfl (by omega) ?_
    refine xe_s (f := (85, _, xi 1 :: _, _)) xt_g264 rfl rfl rfl rfl rfl ?_
    refine xe_iadd xt_g264 rfl (q := 86) rfl ?_
    refine xe_mps xt_g264 rfl (q := 89) rfl (xf_13_152 fm) (by decide) rfl (by omega) (by omega) xi_int (Or.inl rfl) ?_
    exact loop _ (s 3 + 1) (by omega) (by omega) (by omega) rfl
end XMC
