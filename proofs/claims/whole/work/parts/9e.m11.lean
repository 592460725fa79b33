/-! the reference: trim -/
/-- how many blanks end ahead of k -/
def xd_bk (f : Nat → Int) : Nat → Int → Int
  | 0, k => k
  | n + 1, k => if f (k - 1).toNat = 32 then xd_bk f n (k - 1) else k
def xd_fw (f : Nat → Int) : Nat → Int → Int
  | 0, k => k
  | n + 1, k => if f k.toNat = 32 then xd_fw f n (k + 1) else k
theorem xd_fw_r {f : Nat → Int} : ∀ (N : Nat) (k : Int), k ≤ xd_fw f N k ∧ xd_fw f N k ≤ k + N
  | 0, k => by simp [xd_fw]
  | N + 1, k => by
    unfold xd_fw
    have h := xd_fw_r (f := f) N (k + 1)
    split <;> omega
section XMB
variable (fm : Value) {m n : Nat} {h0 : xm_H} {s : Nat → Int} {ar : Nat → Nat → Int}
def xd_tf (ar : Nat → Nat → Int) (b e : Int) : Int := xd_fw (ar 1) (e - b).toNat b
def xd_tt (ar : Nat → Nat → Int) (b e : Int) : Int := xd_bk (ar 1) (e - xd_tf ar b e).toNat e
theorem xv_trim (hmn : xo_in m n) (hw : xo_wf s ar) {b e : Int} (h1 : 0 ≤ b) (h2 : b ≤ 161) (h3 : e ≤ 160) (h4 : 0 ≤ e) : xv fm 315 m n h0 s ar [.ref m, xi b, xi e] none (xo_u (xo_u s 38 (xd_tf ar b e)) 39 (xd_tt ar b e)) ar := by
  show xe fm 315 (0, [(0, .ref m), (1, xi b), (2, xi e)], [], (xo m s ar h0, n, 0, 0)) _
  have back : ∀ (N : Nat) (k f : Int), 0 ≤ f → f ≤ 161 → k ≤ e → 0 ≤ k → (k - f).toNat = N → xe fm 315 (48, [(0, .ref m), (1, xi b), (2, xi e)], [], (xo m (xo_u (xo_u s 38 f) 39 k) ar h0, n, 0, 0)) (fun r M => r = .inl none ∧ M = (xo m (xo_u (xo_u s 38 f) 39 (xd_bk (ar 1) N k)) ar h0, n, 0, 0)) := by
    intro N
    induction N with
    | zero =>
      intro k f f1 f2 k1 k2 k3
      refine xe_s (f := (49, _, _, _)) xt_g315 rfl rfl rfl rfl rfl ?_
      refine xe_mgs xt_g315 rfl (q := 52) rfl (xf_13_275 fm) (by decide) rfl (by omega) ?_
      rw [xo_uS]
      refine xe_s (f := (53, _, _, _)) xt_g315 rfl rfl rfl rfl rfl ?_
      refine xe_mgs xt_g315 rfl (q := 56) rfl (xf_13_272 fm) (by decide) rfl (by omega) ?_
      rw [xo_uN (by decide), xo_uS]
      refine xe_ic_le xt_g315 rfl (t := 88) rfl (q := 59) rfl (by first | omega | exact hw.1 _ | exact hw.2 _ _) (by first | omega | exact hw.1 _ | exact hw.2 _ _) (fun hb => ?_) (fun hb => ?_)
      · refine xe_ret xt_g315 rfl rfl ?_
        exact ⟨rfl, rfl⟩
      · exact absurd hb (by omega)
    | succ N ih =>
      intro k f f1 f2 k1 k2 k3
      refine xe_s (f := (49, _, _, _)) xt_g315 rfl rfl rfl rfl rfl ?_
      refine xe_mgs xt_g315 rfl (q := 52) rfl (xf_13_275 fm) (by decide) rfl (by omega) ?_
      rw [xo_uS]
      refine xe_s (f := (53, _, _, _)) xt_g315 rfl rfl rfl rfl rfl ?_
      refine xe_mgs xt_g315 rfl (q := 56) rfl (xf_13_272 fm) (by decide) rfl (by omega) ?_
      rw [xo_uN (by decide), xo_uS]
      refine xe_ic_le xt_g315 rfl (t := 88) rfl (q := 59) rfl (by first | omega | exact hw.1 _ | exact hw.2 _ _) (by first | omega | exact hw.1 _ | exact hw.2 _ _) (fun hb => ?_) (fun hb => ?_)
      · exact absurd hb (by omega)
      · refine xe_s (f := (60, _, _, _)) xt_g315 rfl rfl rfl rfl rfl ?_
        refine xe_mga xt_g315 rfl (q := 63) rfl (xf_13_7 fm) (by decide) rfl (by omega) ?_
        refine xe_s (f := (64, _, _, _)) xt_g315 rfl rfl rfl rfl rfl ?_
        refine xe_mgs xt_g315 rfl (q := 67) rfl (xf_13_275 fm) (by decide) rfl (by omega) ?_
        rw [xo_uS]
        refine xe_s (f := (68, _, xi 1 :: _, _)) xt_g315 rfl rfl rfl rfl rfl ?_
        refine xe_isub xt_g315 rfl (q := 69) rfl ?_
        refine xe_mal (ok := xm_isN) (ty := .int) xt_g315 rfl (q := 70) rfl (fun _ _ => ⟨rfl, rfl, rfl, rfl⟩) rfl rfl rfl (by omega) (by omega) (by omega) (by omega) ?_
        refine xe_bipush xt_g315 rfl (q := 72) rfl (by decide) (by decide) ?_
        refine xe_ic_ne xt_g315 rfl (t := 88) rfl (q := 75) rfl (by first | omega | exact hw.1 _ | exact hw.2 _ _) (by first | omega | exact hw.1 _ | exact hw.2 _ _) (fun hb2 => ?_) (fun hb2 => ?_)
        · refine xe_ret xt_g315 rfl rfl ?_
          rw [xd_bk, if_neg hb2]
          exact ⟨rfl, rfl⟩
        · refine xe_s (f := (76, _, _, _)) xt_g315 rfl rfl rfl rfl rfl ?_
          refine xe_s (f := (77, _, _, _)) xt_g315 rfl rfl rfl rfl rfl ?_
          refine xe_mgs xt_g315 rfl (q := 80) rfl (xf_13_275 fm) (by decide) rfl (by omega) ?_
          rw [xo_uS]
          refine xe_s (f := (81, _, xi 1 :: _, _)) xt_g315 rfl rfl rfl rfl rfl ?_
          refine xe_isub xt_g315 rfl (q := 82) rfl ?_
          refine xe_mps xt_g315 rfl (q := 85) rfl (xf_13_275 fm) (by decide) rfl (by omega) (by omega) xi_int (Or.inl rfl) ?_
          refine xe_s (f := (48, _, _, _)) xt_g315 rfl rfl rfl rfl rfl ?_
          rw [xo_uu, xd_bk, if_pos (Decidable.not_not.mp hb2)]
          exact ih (k - 1) f f1 f2 (by omega) (by omega) (by omega)
  have fore : ∀ (N : Nat) (k : Int), 0 ≤ k → k ≤ 161 → (e - k).toNat = N → xe fm 315 (10, [(0, .ref m), (1, xi b), (2, xi e)], [], (xo m (xo_u (xo_u s 38 k) 39 e) ar h0, n, 0, 0)) (fun r M => r = .inl none ∧ M = (xo m (xo_u (xo_u s 38 (xd_fw (ar 1) N k)) 39 (xd_bk (ar 1) (e - xd_fw (ar 1) N k).toNat e)) ar h0, n, 0, 0)) := by
    intro N
    induction N with
    | zero =>
      intro k k1 k2 k3
      refine xe_s (f := (11, _, _, _)) xt_g315 rfl rfl rfl rfl rfl ?_
      refine xe_mgs xt_g315 rfl (q := 14) rfl (xf_13_272 fm) (by decide) rfl (by omega) ?_
      rw [xo_uN (by decide), xo_uS]
      refine xe_s (f := (15, _, _, _)) xt_g315 rfl rfl rfl rfl rfl ?_
      refine xe_mgs xt_g315 rfl (q := 18) rfl (xf_13_275 fm) (by decide) rfl (by omega) ?_
      rw [xo_uS]
      refine xe_ic_ge xt_g315 rfl (t := 48) rfl (q := 21) rfl (by first | omega | exact hw.1 _ | exact hw.2 _ _) (by first | omega | exact hw.1 _ | exact hw.2 _ _) (fun hb => ?_) (fun hb => ?_)
      · exact back _ e k k1 k2 (by omega) h4 rfl
      · exact absurd hb (by omega)
    | succ N ih =>
      intro k k1 k2 k3
      refine xe_s (f := (11, _, _, _)) xt_g315 rfl rfl rfl rfl rfl ?_
      refine xe_mgs xt_g315 rfl (q := 14) rfl (xf_13_272 fm) (by decide) rfl (by omega) ?_
      rw [xo_uN (by decide), xo_uS]
      refine xe_s (f := (15, _, _, _)) xt_g315 rfl rfl rfl rfl rfl ?_
      refine xe_mgs xt_g315 rfl (q := 18) rfl (xf_13_275 fm) (by decide) rfl (by omega) ?_
      rw [xo_uS]
      refine xe_ic_ge xt_g315 rfl (t := 48) rfl (q := 21) rfl (by first | omega | exact hw.1 _ | exact hw.2 _ _) (by first | omega | exact hw.1 _ | exact hw.2 _ _) (fun hb => ?_) (fun hb => ?_)
      · exact absurd hb (by omega)
      · refine xe_s (f := (22, _, _, _)) xt_g315 rfl rfl rfl rfl rfl ?_
        refine xe_mga xt_g315 rfl (q := 25) rfl (xf_13_7 fm) (by decide) rfl (by omega) ?_
        refine xe_s (f := (26, _, _, _)) xt_g315 rfl rfl rfl rfl rfl ?_
        refine xe_mgs xt_g315 rfl (q := 29) rfl (xf_13_272 fm) (by decide) rfl (by omega) ?_
        rw [xo_uN (by decide), xo_uS]
        refine xe_mal (ok := xm_isN) (ty := .int) xt_g315 rfl (q := 30) rfl (fun _ _ => ⟨rfl, rfl, rfl, rfl⟩) rfl rfl rfl (by omega) (by omega) (by omega) (by omega) ?_
        refine xe_bipush xt_g315 rfl (q := 32) rfl (by decide) (by decide) ?_
        refine xe_ic_ne xt_g315 rfl (t := 48) rfl (q := 35) rfl (by first | omega | exact hw.1 _ | exact hw.2 _ _) (by first | omega | exact hw.1 _ | exact hw.2 _ _) (fun hb2 => ?_) (fun hb2 => ?_)
        · rw [xd_fw, if_neg hb2]
          exact back _ e k k1 k2 (by omega) h4 rfl
        · refine xe_s (f := (36, _, _, _)) xt_g315 rfl rfl rfl rfl rfl ?_
          refine xe_s (f := (37, _, _, _)) xt_g315 rfl rfl rfl rfl rfl ?_
          refine xe_mgs xt_g315 rfl (q := 40) rfl (xf_13_272 fm) (by decide) rfl (by omega) ?_
          rw [xo_uN (by decide), xo_uS]
          refine xe_s (f := (41, _, xi 1 :: _, _)) xt_g315 rfl rfl rfl rfl rfl ?_
          refine xe_iadd xt_g315 rfl (q := 42) rfl ?_
          refine xe_mps xt_g315 rfl (q := 45) rfl (xf_13_272 fm) (by decide) rfl (by omega) (by omega) xi_int (Or.inl rfl) ?_
          refine xe_s (f := (10, _, _, _)) xt_g315 rfl rfl rfl rfl rfl ?_
          rw [xd_fw, if_pos (Decidable.not_not.mp hb2), show xo_u (xo_u (xo_u s 38 k) 39 e) 38 (k + 1) = xo_u (xo_u s 38 (k + 1)) 39 e by
            funext j
            unfold xo_u
            by_cases e1 : j = 38
            · simp [e1]
            · by_cases e2 : j = 39
              · simp [e2]
              · simp [e1, e2]]
          exact ih (k + 1) (by omega) (by omega) (by omega)
  refine xe_s (f := (1, _, _, _)) xt_g315 rfl rfl rfl rfl rfl ?_
  refine xe_s (f := (2, _, _, _)) xt_g315 rfl rfl rfl rfl rfl ?_
  refine xe_mps xt_g315 rfl (q := 5) rfl (xf_13_272 fm) (by decide) rfl (by omega) (by omega) xi_int (Or.inl rfl) ?_
  refine xe_s (f := (6, _, _, _)) xt_g315 rfl rfl rfl rfl rfl ?_
  refine xe_s (f := (7, _, _, _)) xt_g315 rfl rfl rfl rfl rfl ?_
  refine xe_mps xt_g315 rfl (q := 10) rfl (xf_13_275 fm) (by decide) rfl (by omega) (by omega) xi_int (Or.inl rfl) ?_
  exact fore _ b h1 h2 rfl
end XMB
