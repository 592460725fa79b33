/-! the reference: tell, refuse, letter, message -/
section XM7
variable (fm : Value) {m n : Nat} {h0 : xm_H} {s : Nat → Int} {ar : Nat → Nat → Int}
def xd_min (a b : Int) : Int := if a < b then a else b
def xd_tl (s : Nat → Int) (ar : Nat → Nat → Int) (w a b : Int) : Nat → Nat → Int := if s 55 = 200 then ar else xd_ap (xo_w (xo_w (xo_w (xo_w ar 56 (s 55).toNat w) 57 (s 55).toNat a) 58 (s 55).toNat b) 59 (s 55).toNat (xd_min (s 62) 200)) 60 (200 * s 55) (fun i => ar 61 i.toNat) (xd_min (s 62) 200)
def xd_ts (s : Nat → Int) : Nat → Int := if s 55 = 200 then xo_u s 62 0 else xo_u (xo_u s 62 0) 55 (s 55 + 1)
theorem xv_tell (hmn : xo_in m n) (hw : xo_wf s ar) {w a b : Int} (h6 : 0 ≤ s 62 ∧ s 62 ≤ 1400) (h5 : 0 ≤ s 55 ∧ s 55 ≤ 200) (hmd : ∀ i : Int, 0 ≤ i → i < s 62 → -128 ≤ ar 61 i.toNat ∧ ar 61 i.toNat < 128) : xv fm 289 m n h0 s ar [.ref m, xi w, xi a, xi b] none (xd_ts s) (xd_tl s ar w a b) := by
  have hmin : 0 ≤ xd_min (s 62) 200 ∧ xd_min (s 62) 200 ≤ 200 ∧ xd_min (s 62) 200 ≤ s 62 := by
    unfold xd_min
    split <;> omega
  show xe fm 289 (0, [(0, .ref m), (1, xi w), (2, xi a), (3, xi b)], [], (xo m s ar h0, n, 0, 0)) _
  have behind : xe fm 289 (22, [(4, xi (xd_min (s 62) 200)), (0, .ref m), (1, xi w), (2, xi a), (3, xi b)], [], (xo m s ar h0, n, 0, 0)) (fun r M => r = .inl none ∧ M = (xo m (xd_ts s) (xd_tl s ar w a b) h0, n, 0, 0)) := by
    refine xe_s (f := (23, _, _, _)) xt_g289 rfl rfl rfl rfl rfl ?_
    refine xe_s (f := (24, _, xi 0 :: _, _)) xt_g289 rfl rfl rfl rfl rfl ?_
    refine xe_mps xt_g289 rfl (q := 27) rfl (xf_13_363 fm) (by decide) rfl (by omega) (by omega) xi_int (Or.inl rfl) ?_
    refine xe_s (f := (28, _, _, _)) xt_g289 rfl rfl rfl rfl rfl ?_
    refine xe_mgs xt_g289 rfl (q := 31) rfl (xf_13_373 fm) (by decide) rfl (by omega) ?_
    rw [xo_uN (by decide)]
    refine xe_sipush xt_g289 rfl (q := 34) rfl (by decide) (by decide) ?_
    refine xe_ic_ne xt_g289 rfl (t := 38) rfl (q := 37) rfl (by first | omega | exact hw.1 _ | exact hw.2 _ _) (by first | omega | exact hw.1 _ | exact hw.2 _ _) (fun hb => ?_) (fun hb => ?_)
    · refine xe_s (f := (39, _, _, _)) xt_g289 rfl rfl rfl rfl rfl ?_
      refine xe_mga xt_g289 rfl (q := 42) rfl (xf_13_120 fm) (by decide) rfl (by omega) ?_
      refine xe_s (f := (43, _, _, _)) xt_g289 rfl rfl rfl rfl rfl ?_
      refine xe_mgs xt_g289 rfl (q := 46) rfl (xf_13_373 fm) (by decide) rfl (by omega) ?_
      rw [xo_uN (by decide)]
      refine xe_s (f := (47, _, _, _)) xt_g289 rfl rfl rfl rfl rfl ?_
      refine xe_mas (ok := xm_isN) (ty := .int) xt_g289 rfl (q := 48) rfl (fun _ _ => ⟨rfl, rfl, rfl, rfl⟩) rfl rfl rfl (by omega) (by omega) (by omega) (by omega) (by omega) rfl ?_
      refine xe_s (f := (49, _, _, _)) xt_g289 rfl rfl rfl rfl rfl ?_
      refine xe_mga xt_g289 rfl (q := 52) rfl (xf_13_123 fm) (by decide) rfl (by omega) ?_
      refine xe_s (f := (53, _, _, _)) xt_g289 rfl rfl rfl rfl rfl ?_
      refine xe_mgs xt_g289 rfl (q := 56) rfl (xf_13_373 fm) (by decide) rfl (by omega) ?_
      rw [xo_uN (by decide)]
      refine xe_s (f := (57, _, _, _)) xt_g289 rfl rfl rfl rfl rfl ?_
      refine xe_mas (ok := xm_isN) (ty := .int) xt_g289 rfl (q := 58) rfl (fun _ _ => ⟨rfl, rfl, rfl, rfl⟩) rfl rfl rfl (by omega) (by omega) (by omega) (by omega) (by omega) rfl ?_
      refine xe_s (f := (59, _, _, _)) xt_g289 rfl rfl rfl rfl rfl ?_
      refine xe_mga xt_g289 rfl (q := 62) rfl (xf_13_126 fm) (by decide) rfl (by omega) ?_
      refine xe_s (f := (63, _, _, _)) xt_g289 rfl rfl rfl rfl rfl ?_
      refine xe_mgs xt_g289 rfl (q := 66) rfl (xf_13_373 fm) (by decide) rfl (by omega) ?_
      rw [xo_uN (by decide)]
      refine xe_s (f := (67, _, _, _)) xt_g289 rfl rfl rfl rfl rfl ?_
      refine xe_mas (ok := xm_isN) (ty := .int) xt_g289 rfl (q := 68) rfl (fun _ _ => ⟨rfl, rfl, rfl, rfl⟩) rfl rfl rfl (by omega) (by omega) (by omega) (by omega) (by omega) rfl ?_
      refine xe_s (f := (69, _, _, _)) xt_g289 rfl rfl rfl rfl rfl ?_
      refine xe_mga xt_g289 rfl (q := 72) rfl (xf_13_129 fm) (by decide) rfl (by omega) ?_
      refine xe_s (f := (73, _, _, _)) xt_g289 rfl rfl rfl rfl rfl ?_
      refine xe_mgs xt_g289 rfl (q := 76) rfl (xf_13_373 fm) (by decide) rfl (by omega) ?_
      rw [xo_uN (by decide)]
      refine xe_s (f := (78, _, _, _)) xt_g289 rfl rfl rfl rfl rfl ?_
      refine xe_mas (ok := xm_isN) (ty := .int) xt_g289 rfl (q := 79) rfl (fun _ _ => ⟨rfl, rfl, rfl, rfl⟩) rfl rfl rfl (by omega) (by omega) (by omega) (by omega) (by omega) rfl ?_
      refine xe_s (f := (80, _, xi 0 :: _, _)) xt_g289 rfl rfl rfl rfl rfl ?_
      refine xe_s (f := (82, [(5, _), (4, _), (0, _), (1, _), (2, _), (3, _)], _, _)) xt_g289 rfl rfl rfl rfl rfl ?_
      generalize har : xo_w (xo_w (xo_w (xo_w ar 56 (s 55).toNat w) 57 (s 55).toNat a) 58 (s 55).toNat b) 59 (s 55).toNat (xd_min (s 62) 200) = ar1
      have h61 : ∀ j, ar1 61 j = ar 61 j := by
        intro j
        rw [← har, xo_wN (by decide), xo_wN (by decide), xo_wN (by decide), xo_wN (by decide)]
      have loop : ∀ (N : Nat) (k : Int), 0 ≤ k → k + N = xd_min (s 62) 200 → xe fm 289 (82, [(5, xi k), (4, xi (xd_min (s 62) 200)), (0, .ref m), (1, xi w), (2, xi a), (3, xi b)], [], (xo m (xo_u s 62 0) (xd_ap ar1 60 (200 * s 55) (fun i => ar 61 i.toNat) k) h0, n, 0, 0)) (fun r M => r = .inl none ∧ M = (xo m (xo_u (xo_u s 62 0) 55 (s 55 + 1)) (xd_ap ar1 60 (200 * s 55) (fun i => ar 61 i.toNat) (xd_min (s 62) 200)) h0, n, 0, 0)) := by
        intro N
        induction N with
        | zero =>
          intro k k1 k2
          have ek : k = xd_min (s 62) 200 := by omega
          rw [ek]
          refine xe_s (f := (84, _, _, _)) xt_g289 rfl rfl rfl rfl rfl ?_
          refine xe_s (f := (86, _, _, _)) xt_g289 rfl rfl rfl rfl rfl ?_
          refine xe_ic_ge xt_g289 rfl (t := 119) rfl (q := 89) rfl (by first | omega | exact hw.1 _ | exact hw.2 _ _) (by first | omega | exact hw.1 _ | exact hw.2 _ _) (fun hb2 => ?_) (fun hb2 => ?_)
          · refine xe_s (f := (120, _, _, _)) xt_g289 rfl rfl rfl rfl rfl ?_
            refine xe_s (f := (121, _, _, _)) xt_g289 rfl rfl rfl rfl rfl ?_
            refine xe_mgs xt_g289 rfl (q := 124) rfl (xf_13_373 fm) (by decide) rfl (by omega) ?_
            rw [xo_uN (by decide)]
            refine xe_s (f := (125, _, xi 1 :: _, _)) xt_g289 rfl rfl rfl rfl rfl ?_
            refine xe_iadd xt_g289 rfl (q := 126) rfl ?_
            refine xe_mps xt_g289 rfl (q := 129) rfl (xf_13_373 fm) (by decide) rfl (by omega) (by omega) xi_int (Or.inl rfl) ?_
            refine xe_ret xt_g289 rfl rfl ?_
            exact ⟨rfl, rfl⟩
          · exact absurd hb2 (by omega)
        | succ N ih =>
          intro k k1 k2
          refine xe_s (f := (84, _, _, _)) xt_g289 rfl rfl rfl rfl rfl ?_
          refine xe_s (f := (86, _, _, _)) xt_g289 rfl rfl rfl rfl rfl ?_
          refine xe_ic_ge xt_g289 rfl (t := 119) rfl (q := 89) rfl (by first | omega | exact hw.1 _ | exact hw.2 _ _) (by first | omega | exact hw.1 _ | exact hw.2 _ _) (fun hb2 => ?_) (fun hb2 => ?_)
          · exact absurd hb2 (by omega)
          · refine xe_s (f := (90, _, _, _)) xt_g289 rfl rfl rfl rfl rfl ?_
            refine xe_mga xt_g289 rfl (q := 93) rfl (xf_13_133 fm) (by decide) rfl (by omega) ?_
            refine xe_sipush xt_g289 rfl (q := 96) rfl (by decide) (by decide) ?_
            refine xe_s (f := (97, _, _, _)) xt_g289 rfl rfl rfl rfl rfl ?_
            refine xe_mgs xt_g289 rfl (q := 100) rfl (xf_13_373 fm) (by decide) rfl (by omega) ?_
            rw [xo_uN (by decide)]
            refine xe_imul xt_g289 rfl (q := 101) rfl ?_
            refine xe_s (f := (103, _, _, _)) xt_g289 rfl rfl rfl rfl rfl ?_
            refine xe_iadd xt_g289 rfl (q := 104) rfl ?_
            refine xe_s (f := (105, _, _, _)) xt_g289 rfl rfl rfl rfl rfl ?_
            refine xe_mga xt_g289 rfl (q := 108) rfl (xf_13_137 fm) (by decide) rfl (by omega) ?_
            refine xe_s (f := (110, _, _, _)) xt_g289 rfl rfl rfl rfl rfl ?_
            refine xe_mal (ok := xm_isN) (ty := .int) xt_g289 rfl (q := 111) rfl (fun _ _ => ⟨rfl, rfl, rfl, rfl⟩) rfl rfl rfl (by omega) (by omega) (by omega) (by omega) ?_
            rw [xd_ap_N (by decide), h61]
            have hr := hmd k k1 (by omega)
            refine xe_i2b xt_g289 rfl (q := 112) rfl (by omega) ?_
            refine xe_mas (ok := xm_isB) (ty := .byte) xt_g289 rfl (q := 113) rfl (fun _ _ => ⟨rfl, rfl, rfl, rfl⟩) rfl rfl rfl (by omega) (by omega) (by omega) (by omega) (by omega) (xi_ny (by omega)) ?_
            rw [xd_ap_s (g := fun i => ar 61 i.toNat) (z := ar 61 k.toNat) (by omega) k1 rfl rfl]
            refine xe_iinc xt_g289 rfl (q := 116) rfl rfl (by decide) (L1 := [(5, _), (4, _), (0, _), (1, _), (2, _), (3, _)]) rfl ?_
            refine xe_s (f := (82, _, _, _)) xt_g289 rfl rfl rfl rfl rfl ?_
            exact ih (k + 1) (by omega) (by omega)
      have h := loop (xd_min (s 62) 200).toNat 0 (by omega) (by omega)
      rw [xd_ap_0] at h
      rw [show xd_ts s = xo_u (xo_u s 62 0) 55 (s 55 + 1) by unfold xd_ts; rw [if_neg hb], show xd_tl s ar w a b = xd_ap ar1 60 (200 * s 55) (fun i => ar 61 i.toNat) (xd_min (s 62) 200) by unfold xd_tl; rw [if_neg hb, har]]
      exact h
    · refine xe_ret xt_g289 rfl rfl ?_
      have e : s 55 = 200 := Decidable.not_not.mp hb
      exact ⟨rfl, by rw [show xd_ts s = xo_u s 62 0 by unfold xd_ts; rw [if_pos e], show xd_tl s ar w a b = ar by unfold xd_tl; rw [if_pos e]]⟩
  refine xe_s (f := (1, _, _, _)) xt_g289 rfl rfl rfl rfl rfl ?_
  refine xe_mgs xt_g289 rfl (q := 4) rfl (xf_13_363 fm) (by decide) rfl (by omega) ?_
  refine xe_sipush xt_g289 rfl (q := 7) rfl (by decide) (by decide) ?_
  refine xe_ic_ge xt_g289 rfl (t := 17) rfl (q := 10) rfl (by first | omega | exact hw.1 _ | exact hw.2 _ _) (by first | omega | exact hw.1 _ | exact hw.2 _ _) (fun hb0 => ?_) (fun hb0 => ?_)
  · refine xe_sipush xt_g289 rfl (q := 20) rfl (by decide) (by decide) ?_
    refine xe_s (f := (22, [(4, _), (0, _), (1, _), (2, _), (3, _)], _, _)) xt_g289 rfl rfl rfl rfl rfl ?_
    rw [show xd_min (s 62) 200 = 200 by unfold xd_min; rw [if_neg (by omega)]] at behind
    exact behind
  · refine xe_s (f := (11, _, _, _)) xt_g289 rfl rfl rfl rfl rfl ?_
    refine xe_mgs xt_g289 rfl (q := 14) rfl (xf_13_363 fm) (by decide) rfl (by omega) ?_
    refine xe_s (f := (20, _, _, _)) xt_g289 rfl rfl rfl rfl rfl ?_
    refine xe_s (f := (22, [(4, _), (0, _), (1, _), (2, _), (3, _)], _, _)) xt_g289 rfl rfl rfl rfl rfl ?_
    rw [show xd_min (s 62) 200 = s 62 by unfold xd_min; rw [if_pos (by omega)]] at behind
    exact behind
theorem xv_refuse (hmn : xo_in m n) (hw : xo_wf s ar) {f w : Int} (h6 : 0 ≤ s 62 ∧ s 62 ≤ 1400) (h5 : 0 ≤ s 55 ∧ s 55 ≤ 200) (hmd : ∀ i : Int, 0 ≤ i → i < s 62 → -128 ≤ ar 61 i.toNat ∧ ar 61 i.toNat < 128) : xv fm 300 m n h0 s ar [.ref m, xi f, xi w] (some (xi (-1))) (xo_u (xd_ts s) 2 0) (xd_tl s ar 6 f w) := by
  show xe fm 300 (0, [(0, .ref m), (1, xi f), (2, xi w)], [], (xo m s ar h0, n, 0, 0)) _
  refine xe_s (f := (1, _, _, _)) xt_g300 rfl rfl rfl rfl rfl ?_
  refine xe_bipush xt_g300 rfl (q := 3) rfl (by decide) (by decide) ?_
  refine xe_s (f := (4, _, _, _)) xt_g300 rfl rfl rfl rfl rfl ?_
  refine xe_s (f := (5, _, _, _)) xt_g300 rfl rfl rfl rfl rfl ?_
  refine xe_mcv xt_g300 rfl (q := 8) rfl xk_13_376 rfl (by omega) xt_g289 (by decide) ⟨Nat.le_of_ble_eq_true rfl, Nat.le_of_ble_eq_true rfl, Nat.le_of_ble_eq_true rfl⟩ (xv_tell fm hmn hw h6 h5 hmd) ?_
  show xe fm 300 (8, [(0, .ref m), (1, xi f), (2, xi w)], [], (xo m (xd_ts s) (xd_tl s ar 6 f w) h0, n, 0, 0)) _
  refine xe_s (f := (9, _, _, _)) xt_g300 rfl rfl rfl rfl rfl ?_
  refine xe_s (f := (10, _, xi 0 :: _, _)) xt_g300 rfl rfl rfl rfl rfl ?_
  refine xe_mps xt_g300 rfl (q := 13) rfl (xf_13_149 fm) (by decide) rfl (by omega) (by omega) xi_int (Or.inl rfl) ?_
  refine xe_s (f := (14, _, xi (-1) :: _, _)) xt_g300 rfl rfl rfl rfl rfl ?_
  refine xe_iret xt_g300 rfl rfl xi_int.1 ?_
  exact ⟨rfl, rfl⟩
theorem xv_letter (hmn : xo_in m n) (hw : xo_wf s ar) {k j : Int} (hk : xr k) (hj : xr j) (h5 : 0 ≤ s 55 ∧ s 55 ≤ 200) (h9 : ∀ i : Nat, ar 59 i ≤ 200) : xv fm 345 m n h0 s ar [.ref m, xi k, xi j] (some (xi (if 0 ≤ k ∧ k < s 55 ∧ 0 ≤ j ∧ j < ar 59 k.toNat then ar 60 (200 * k + j).toNat else -1))) (xo_u s 0 0) ar := by
  show xe fm 345 (0, [(0, .ref m), (1, xi k), (2, xi j)], [], (xo m s ar h0, n, 0, 0)) _
  have no : ¬ (0 ≤ k ∧ k < s 55 ∧ 0 ≤ j ∧ j < ar 59 k.toNat) → xe fm 345 (31, [(0, .ref m), (1, xi k), (2, xi j)], [], (xo m (xo_u s 0 0) ar h0, n, 0, 0)) (fun r M => r = .inl (some (xi (if 0 ≤ k ∧ k < s 55 ∧ 0 ≤ j ∧ j < ar 59 k.toNat then ar 60 (200 * k + j).toNat else -1))) ∧ M = (xo m (xo_u s 0 0) ar h0, n, 0, 0)) := by
    intro h
    rw [if_neg h]
    refine xe_s (f := (32, _, xi (-1) :: _, _)) xt_g345 rfl rfl rfl rfl rfl ?_
    refine xe_s (f := (47, _, _, _)) xt_g345 rfl rfl rfl rfl rfl ?_
    refine xe_iret xt_g345 rfl rfl xi_int.1 ?_
    exact ⟨rfl, rfl⟩
  refine xe_s (f := (1, _, _, _)) xt_g345 rfl rfl rfl rfl rfl ?_
  refine xe_s (f := (2, _, xi 0 :: _, _)) xt_g345 rfl rfl rfl rfl rfl ?_
  refine xe_mps xt_g345 rfl (q := 5) rfl (xf_13_146 fm) (by decide) rfl (by omega) (by omega) xi_int (Or.inl rfl) ?_
  refine xe_s (f := (6, _, _, _)) xt_g345 rfl rfl rfl rfl rfl ?_
  refine xe_if_lt xt_g345 rfl (t := 31) rfl (q := 9) rfl (by first | omega | exact hw.1 _ | exact hw.2 _ _) (fun hb => ?_) (fun hb => ?_)
  · exact no (by omega)
  · refine xe_s (f := (10, _, _, _)) xt_g345 rfl rfl rfl rfl rfl ?_
    refine xe_s (f := (11, _, _, _)) xt_g345 rfl rfl rfl rfl rfl ?_
    refine xe_mgs xt_g345 rfl (q := 14) rfl (xf_13_373 fm) (by decide) rfl (by omega) ?_
    rw [xo_uN (by decide)]
    refine xe_ic_ge xt_g345 rfl (t := 31) rfl (q := 17) rfl (by first | omega | exact hw.1 _ | exact hw.2 _ _) (by first | omega | exact hw.1 _ | exact hw.2 _ _) (fun hb2 => ?_) (fun hb2 => ?_)
    · exact no (by omega)
    · refine xe_s (f := (18, _, _, _)) xt_g345 rfl rfl rfl rfl rfl ?_
      refine xe_if_lt xt_g345 rfl (t := 31) rfl (q := 21) rfl (by first | omega | exact hw.1 _ | exact hw.2 _ _) (fun hb3 => ?_) (fun hb3 => ?_)
      · exact no (by omega)
      · refine xe_s (f := (22, _, _, _)) xt_g345 rfl rfl rfl rfl rfl ?_
        refine xe_s (f := (23, _, _, _)) xt_g345 rfl rfl rfl rfl rfl ?_
        refine xe_mga xt_g345 rfl (q := 26) rfl (xf_13_129 fm) (by decide) rfl (by omega) ?_
        refine xe_s (f := (27, _, _, _)) xt_g345 rfl rfl rfl rfl rfl ?_
        refine xe_mal (ok := xm_isN) (ty := .int) xt_g345 rfl (q := 28) rfl (fun _ _ => ⟨rfl, rfl, rfl, rfl⟩) rfl rfl rfl (by omega) (by omega) (by omega) (by omega) ?_
        have h9k := h9 k.toNat
        refine xe_ic_lt xt_g345 rfl (t := 35) rfl (q := 31) rfl (by first | omega | exact hw.1 _ | exact hw.2 _ _) (by first | omega | exact hw.1 _ | exact hw.2 _ _) (fun hb4 => ?_) (fun hb4 => ?_)
        · rw [if_pos (by omega)]
          refine xe_s (f := (36, _, _, _)) xt_g345 rfl rfl rfl rfl rfl ?_
          refine xe_mga xt_g345 rfl (q := 39) rfl (xf_13_133 fm) (by decide) rfl (by omega) ?_
          refine xe_sipush xt_g345 rfl (q := 42) rfl (by decide) (by decide) ?_
          refine xe_s (f := (43, _, _, _)) xt_g345 rfl rfl rfl rfl rfl ?_
          refine xe_imul xt_g345 rfl (q := 44) rfl ?_
          refine xe_s (f := (45, _, _, _)) xt_g345 rfl rfl rfl rfl rfl ?_
          refine xe_iadd xt_g345 rfl (q := 46) rfl ?_
          refine xe_mal (ok := xm_isB) (ty := .byte) xt_g345 rfl (q := 47) rfl (fun _ _ => ⟨rfl, rfl, rfl, rfl⟩) rfl rfl rfl (by omega) (by omega) (by omega) (by omega) ?_
          refine xe_iret xt_g345 rfl rfl xi_int.1 ?_
          exact ⟨rfl, rfl⟩
        · exact no (by omega)
end XM7
