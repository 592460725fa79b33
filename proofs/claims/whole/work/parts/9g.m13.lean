/-! the reference: readTail -/
def xd_rN (s : Nat → Int) (c : Int) : Nat → Int := xo_u (xo_u s 12 c) 3 (s 3 + 1 + c)
def xd_rA (s : Nat → Int) (ar : Nat → Nat → Int) (c : Int) : Nat → Nat → Int := xd_ap ar 9 0 (fun i => xd_at s ar (s 3 + 1 + i)) c
def xd_rc (s : Nat → Int) (ar : Nat → Nat → Int) : Int := xd_cnt xd_qry (xd_at s ar) (s 2 - (s 3 + 1)).toNat (s 3 + 1)
def xd_rs (s : Nat → Int) (ar : Nat → Nat → Int) : Nat → Int := if xd_at s ar (s 3) = 63 then xd_rN s (xd_rc s ar) else s
def xd_ra (s : Nat → Int) (ar : Nat → Nat → Int) : Nat → Nat → Int := if xd_at s ar (s 3) = 63 then xd_rA s ar (xd_rc s ar) else ar
section XMD
variable (fm : Value) {m n : Nat} {h0 : xm_H} {s : Nat → Int} {ar : Nat → Nat → Int}
theorem xd_rN_2 {c : Int} : xd_rN s c 2 = s 2 := by
  unfold xd_rN
  rw [xo_uN (by decide), xo_uN (by decide)]
theorem xd_rN_3 {c : Int} : xd_rN s c 3 = s 3 + 1 + c := by
  unfold xd_rN
  rw [xo_uS]
theorem xd_rN_12 {c : Int} : xd_rN s c 12 = c := by
  unfold xd_rN
  rw [xo_uN (by decide), xo_uS]
theorem xd_rat {c k : Int} : xd_at (xd_rN s c) (xd_rA s ar c) k = xd_at s ar k := by
  unfold xd_at
  rw [xd_rN_2]
  unfold xd_rA
  rw [xd_ap_N (by decide)]
theorem xv_hereR (hmn : xo_in m n) {c : Int} (h2 : 0 ≤ s 2 ∧ s 2 ≤ 160) (h3 : 0 ≤ s 3 + 1 + c ∧ s 3 + 1 + c < 2147483648) : xv fm 248 m n h0 (xd_rN s c) (xd_rA s ar c) [.ref m] (some (xi (xd_at s ar (s 3 + 1 + c)))) (xd_rN s c) (xd_rA s ar c) := by
  have h := xv_here fm hmn (h0 := h0) (s := xd_rN s c) (ar := xd_rA s ar c) (by rw [xd_rN_2]; exact h2) (by rw [xd_rN_3]; exact h3)
  rw [xd_rat, xd_rN_3] at h
  exact h
theorem xv_readTail (hmn : xo_in m n) (hw : xo_wf s ar) (h2 : 0 ≤ s 2 ∧ s 2 ≤ 160) (h3 : 0 ≤ s 3 ∧ s 3 ≤ s 2) :
    xv fm 264 m n h0 s ar [.ref m] (some (xi (xb (decide (xd_z2 (xd_rs s ar) (xd_ra s ar) = s 2))))) (xo_u (xd_rs s ar) 3 (xd_z2 (xd_rs s ar) (xd_ra s ar))) (xd_ra s ar) := by
  show xe fm 264 (0, [(0, .ref m)], [], (xo m s ar h0, n, 0, 0)) _
  have hr := xd_at_r hw (s 3)
  refine xe_s (f := (1, _, _, _)) xt_g264 rfl rfl rfl rfl rfl ?_
  refine xe_mcv xt_g264 rfl (q := 4) rfl xk_13_196 rfl (by omega) xt_g248 (by decide) ⟨Nat.le_of_ble_eq_true rfl, Nat.le_of_ble_eq_true rfl, Nat.le_of_ble_eq_true rfl⟩ (xv_here fm hmn h2 (by omega)) ?_
  show xe fm 264 (4, [(0, .ref m)], [xi (xd_at s ar (s 3))], (xo m s ar h0, n, 0, 0)) _
  refine xe_bipush xt_g264 rfl (q := 6) rfl (by decide) (by decide) ?_
  refine xe_ic_ne xt_g264 rfl (t := 70) rfl (q := 9) rfl (by first | omega | exact hw.1 _ | exact hw.2 _ _) (by first | omega | exact hw.1 _ | exact hw.2 _ _) (fun hb => ?_) (fun hb => ?_)
  · rw [show xd_rs s ar = s by unfold xd_rs; rw [if_neg hb], show xd_ra s ar = ar by unfold xd_ra; rw [if_neg hb]]
    exact xe_tail fm hmn hw h2 h3
  · have hb' : xd_at s ar (s 3) = 63 := Decidable.not_not.mp hb
    have hin : s 3 < s 2 := by
      apply Decidable.byContradiction
      intro h
      rw [xd_at_0 (by omega)] at hb'
      exact absurd hb' (by decide)
    rw [show xd_rs s ar = xd_rN s (xd_rc s ar) by unfold xd_rs; rw [if_pos hb'], show xd_ra s ar = xd_rA s ar (xd_rc s ar) by unfold xd_ra; rw [if_pos hb']]
    have wf : ∀ c : Int, 0 ≤ c → c ≤ 160 → xo_wf (xd_rN s c) (xd_rA s ar c) := fun c c1 c2 => xo_wf_u (xo_wf_u (xd_ap_wf hw (fun i => xd_at_r hw _)) (by omega)) (by omega)
    have loop : ∀ (N : Nat) (c : Int), 0 ≤ c → s 3 + 1 + c ≤ s 2 → (s 2 - (s 3 + 1 + c)).toNat = N → xe fm 264 (24, [(0, .ref m)], [], (xo m (xd_rN s c) (xd_rA s ar c) h0, n, 0, 0)) (fun r M => r = .inl (some (xi (xb (decide (xd_z2 (xd_rN s (c + xd_cnt xd_qry (xd_at s ar) N (s 3 + 1 + c))) (xd_rA s ar (c + xd_cnt xd_qry (xd_at s ar) N (s 3 + 1 + c))) = s 2))))) ∧ M = (xo m (xo_u (xd_rN s (c + xd_cnt xd_qry (xd_at s ar) N (s 3 + 1 + c))) 3 (xd_z2 (xd_rN s (c + xd_cnt xd_qry (xd_at s ar) N (s 3 + 1 + c))) (xd_rA s ar (c + xd_cnt xd_qry (xd_at s ar) N (s 3 + 1 + c))))) (xd_rA s ar (c + xd_cnt xd_qry (xd_at s ar) N (s 3 + 1 + c))) h0, n, 0, 0)) := by
      intro N
      induction N with
      | zero =>
        intro c c1 c2 c3
        rw [xd_cnt, Int.add_zero]
        refine xe_s (f := (25, _, _, _)) xt_g264 rfl rfl rfl rfl rfl ?_
        refine xe_mcv xt_g264 rfl (q := 28) rfl xk_13_196 rfl (by omega) xt_g248 (by decide) ⟨Nat.le_of_ble_eq_true rfl, Nat.le_of_ble_eq_true rfl, Nat.le_of_ble_eq_true rfl⟩ (xv_hereR fm hmn h2 (by omega)) ?_
        rw [xd_at_0 (by omega)]
        show xe fm 264 (28, [(0, .ref m)], [xi 0], (xo m (xd_rN s c) (xd_rA s ar c) h0, n, 0, 0)) _
        refine xe_mcs xt_g264 rfl (q := 31) rfl xk_13_207 (Nat.le_of_ble_eq_true rfl) xt_g265 (by decide) ⟨Nat.le_of_ble_eq_true rfl, Nat.le_of_ble_eq_true rfl, Nat.le_of_ble_eq_true rfl⟩ (xv_isOfQuery fm ⟨by decide, by decide⟩) ?_
        show xe fm 264 (31, [(0, .ref m)], [xi 0], (xo m (xd_rN s c) (xd_rA s ar c) h0, n, 0, 0)) _
        refine xe_if_eq xt_g264 rfl (t := 70) rfl (q := 34) rfl (by first | omega | exact hw.1 _ | exact hw.2 _ _) (fun g1 => ?_) (fun g1 => ?_)
        · have h := xe_tail fm hmn (h0 := h0) (wf c c1 (by omega)) (by rw [xd_rN_2]; exact h2) (by rw [xd_rN_2, xd_rN_3]; omega)
          rw [xd_rN_2] at h
          exact h
        · exact absurd g1 (by omega)
      | succ N ih =>
        intro c c1 c2 c3
        have hrc := xd_at_r hw (s 3 + 1 + c)
        refine xe_s (f := (25, _, _, _)) xt_g264 rfl rfl rfl rfl rfl ?_
        refine xe_mcv xt_g264 rfl (q := 28) rfl xk_13_196 rfl (by omega) xt_g248 (by decide) ⟨Nat.le_of_ble_eq_true rfl, Nat.le_of_ble_eq_true rfl, Nat.le_of_ble_eq_true rfl⟩ (xv_hereR fm hmn h2 (by omega)) ?_
        show xe fm 264 (28, [(0, .ref m)], [xi (xd_at s ar (s 3 + 1 + c))], (xo m (xd_rN s c) (xd_rA s ar c) h0, n, 0, 0)) _
        refine xe_mcs xt_g264 rfl (q := 31) rfl xk_13_207 (Nat.le_of_ble_eq_true rfl) xt_g265 (by decide) ⟨Nat.le_of_ble_eq_true rfl, Nat.le_of_ble_eq_true rfl, Nat.le_of_ble_eq_true rfl⟩ (xv_isOfQuery fm hrc) ?_
        show xe fm 264 (31, [(0, .ref m)], [xi (xb (xd_qry (xd_at s ar (s 3 + 1 + c))))], (xo m (xd_rN s c) (xd_rA s ar c) h0, n, 0, 0)) _
        have hx := xb_or (xd_qry (xd_at s ar (s 3 + 1 + c)))
        refine xe_if_eq xt_g264 rfl (t := 70) rfl (q := 34) rfl (by first | omega | exact hw.1 _ | exact hw.2 _ _) (fun g1 => ?_) (fun g1 => ?_)
        · rw [xd_cnt, if_neg (by intro e; rw [e] at g1; exact absurd g1 (by decide)), Int.add_zero]
          have h := xe_tail fm hmn (h0 := h0) (wf c c1 (by omega)) (by rw [xd_rN_2]; exact h2) (by rw [xd_rN_2, xd_rN_3]; omega)
          rw [xd_rN_2] at h
          exact h
        · have hp : xd_qry (xd_at s ar (s 3 + 1 + c)) = true := by cases h : xd_qry (xd_at s ar (s 3 + 1 + c)) <;> simp_all [xb]
          refine xe_s (f := (35, _, _, _)) xt_g264 rfl rfl rfl rfl rfl ?_
          refine xe_mga xt_g264 rfl (q := 38) rfl (xf_13_28 fm) (by decide) rfl (by omega) ?_
          refine xe_s (f := (39, _, _, _)) xt_g264 rfl rfl rfl rfl rfl ?_
          refine xe_mgs xt_g264 rfl (q := 42) rfl (xf_13_204 fm) (by decide) rfl (by omega) ?_
          rw [xd_rN_12]
          refine xe_s (f := (43, _, _, _)) xt_g264 rfl rfl rfl rfl rfl ?_
          refine xe_mcv xt_g264 rfl (q := 46) rfl xk_13_196 rfl (by omega) xt_g248 (by decide) ⟨Nat.le_of_ble_eq_true rfl, Nat.le_of_ble_eq_true rfl, Nat.le_of_ble_eq_true rfl⟩ (xv_hereR fm hmn h2 (by omega)) ?_
          show xe fm 264 (46, [(0, .ref m)], [xi (xd_at s ar (s 3 + 1 + c)), xi c, .ref (m + 1 + 6)], (xo m (xd_rN s c) (xd_rA s ar c) h0, n, 0, 0)) _
          refine xe_mas (ok := xm_isN) (ty := .int) xt_g264 rfl (q := 47) rfl (fun _ _ => ⟨rfl, rfl, rfl, rfl⟩) rfl rfl rfl (by omega) (by omega) (by omega) (by omega) (by omega) rfl ?_
          refine xe_s (f := (48, _, _, _)) xt_g264 rfl rfl rfl rfl rfl ?_
          refine xe_s (f := (49, _, _, _)) xt_g264 rfl rfl rfl rfl rfl ?_
          refine xe_mgs xt_g264 rfl (q := 52) rfl (xf_13_204 fm) (by decide) rfl (by omega) ?_
          rw [xd_rN_12]
          refine xe_s (f := (53, _, xi 1 :: _, _)) xt_g264 rfl rfl rfl rfl rfl ?_
          refine xe_iadd xt_g264 rfl (q := 54) rfl ?_
          refine xe_mps xt_g264 rfl (q := 57) rfl (xf_13_204 fm) (by decide) rfl (by omega) (by omega) xi_int (Or.inl rfl) ?_
          refine xe_s (f := (58, _, _, _)) xt_g264 rfl rfl rfl rfl rfl ?_
          refine xe_s (f := (59, _, _, _)) xt_g264 rfl rfl rfl rfl rfl ?_
          refine xe_mgs xt_g264 rfl (q := 62) rfl (xf_13_152 fm) (by decide) rfl (by omega) ?_
          rw [xo_uN (by decide), xd_rN_3]
          refine xe_s (f := (63, _, xi 1 :: _, _)) xt_g264 rfl rfl rfl rfl rfl ?_
          refine xe_iadd xt_g264 rfl (q := 64) rfl ?_
          refine xe_mps xt_g264 rfl (q := 67) rfl (xf_13_152 fm) (by decide) rfl (by omega) (by omega) xi_int (Or.inl rfl) ?_
          refine xe_s (f := (24, _, _, _)) xt_g264 rfl rfl rfl rfl rfl ?_
          rw [show xo_u (xo_u (xd_rN s c) 12 (c + 1)) 3 (s 3 + 1 + c + 1) = xd_rN s (c + 1) by unfold xd_rN; rw [xo_u2 (by decide), show s 3 + 1 + c + 1 = s 3 + 1 + (c + 1) by omega],
            show xo_w (xd_rA s ar c) 9 c.toNat (xd_at s ar (s 3 + 1 + c)) = xd_rA s ar (c + 1) from xd_ap_s (by omega) c1 (by omega) rfl]
          rw [xd_cnt, if_pos hp, show c + (1 + xd_cnt xd_qry (xd_at s ar) N (s 3 + 1 + c + 1)) = c + 1 + xd_cnt xd_qry (xd_at s ar) N (s 3 + 1 + (c + 1)) by rw [show s 3 + 1 + c + 1 = s 3 + 1 + (c + 1) by omega]; omega]
          exact ih (c + 1) (by omega) (by omega) (by omega)
    have h := loop (s 2 - (s 3 + 1)).toNat 0 (by omega) (by omega) (by rw [Int.add_zero])
    rw [Int.add_zero, Int.zero_add] at h
    refine xe_s (f := (10, _, _, _)) xt_g264 rfl rfl rfl rfl rfl ?_
    refine xe_s (f := (11, _, _, _)) xt_g264 rfl rfl rfl rfl rfl ?_
    refine xe_mgs xt_g264 rfl (q := 14) rfl (xf_13_152 fm) (by decide) rfl (by omega) ?_
    refine xe_s (f := (15, _, xi 1 :: _, _)) xt_g264 rfl rfl rfl rfl rfl ?_
    refine xe_iadd xt_g264 rfl (q := 16) rfl ?_
    refine xe_mps xt_g264 rfl (q := 19) rfl (xf_13_152 fm) (by decide) rfl (by omega) (by omega) xi_int (Or.inl rfl) ?_
    refine xe_s (f := (20, _, _, _)) xt_g264 rfl rfl rfl rfl rfl ?_
    refine xe_s (f := (21, _, xi 0 :: _, _)) xt_g264 rfl rfl rfl rfl rfl ?_
    refine xe_mps xt_g264 rfl (q := 24) rfl (xf_13_204 fm) (by decide) rfl (by omega) (by omega) xi_int (Or.inl rfl) ?_
    rw [show xo_u (xo_u s 3 (s 3 + 1)) 12 0 = xd_rN s 0 by
      unfold xd_rN
      rw [Int.add_zero]
      funext j
      unfold xo_u
      by_cases e1 : j = 12
      · simp [e1]
      · by_cases e2 : j = 3
        · simp [e2]
        · simp [e1, e2]]
    have e0 : xd_rA s ar 0 = ar := xd_ap_0
    rw [e0] at h
    exact h
end XMD
