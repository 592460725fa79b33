/-! the reference: pass -/
section XMH
variable (fm : Value) {m n : Nat} {h0 : xm_H} {s : Nat → Int} {ar : Nat → Nat → Int}
theorem xe_ldcl {y pc q idx : Nat} {L : xm_L} {M : xm_M} {Q : xe_Q} {D : xt_D} {S : List Value} {z : Int} {x : Int64} {fm : Value} (hy : xt_md[y]? = some D) (hi : xt_lk D.2.2.2.2.2 pc = some (.ldc2_w idx, 3)) (hq : pc + 3 = q) (hc : xm_con (xt_X fm) D.1.cls idx = some (.long x)) (hx : x = Int64.ofInt z) (kk : xe fm y (q, L, xl z :: S, M) Q) : xe fm y (pc, L, S, M) Q := by
  subst hq
  subst hx
  refine xe_s hy hi rfl rfl rfl (f := (pc + 3, L, xl z :: S, M)) ?_ kk
  show xm_pus xm_isL (xm_con (xt_X fm) D.1.cls idx) 3 pc L S M = _
  rw [hc]
  rfl
theorem xv_pass (hmn : xo_in m n) (hw : xo_wf s ar) {k : Int} (hk : xr k) (h18 : 0 ≤ s 18 ∧ s 18 ≤ 1000000000) : xv fm 255 m n h0 s ar [.ref m, xi k] (some (xi (if k < 0 ∨ 1000000000 < s 18 + k then -1 else s 18 + k))) (if k < 0 ∨ 1000000000 < s 18 + k then xo_u s 0 0 else xo_u (xo_u s 0 0) 18 (s 18 + k)) ar := by
  show xe fm 255 (0, [(0, .ref m), (1, xi k)], [], (xo m s ar h0, n, 0, 0)) _
  have no : (k < 0 ∨ 1000000000 < s 18 + k) → xe fm 255 (24, [(0, .ref m), (1, xi k)], [], (xo m (xo_u s 0 0) ar h0, n, 0, 0)) (fun r M => r = .inl (some (xi (if k < 0 ∨ 1000000000 < s 18 + k then -1 else s 18 + k))) ∧ M = (xo m (if k < 0 ∨ 1000000000 < s 18 + k then xo_u s 0 0 else xo_u (xo_u s 0 0) 18 (s 18 + k)) ar h0, n, 0, 0)) := by
    intro h
    rw [if_pos h, if_pos h]
    refine xe_s (f := (25, _, xi (-1) :: _, _)) xt_g255 rfl rfl rfl rfl rfl ?_
    refine xe_iret xt_g255 rfl rfl xi_int.1 ?_
    exact ⟨rfl, rfl⟩
  refine xe_s (f := (1, _, _, _)) xt_g255 rfl rfl rfl rfl rfl ?_
  refine xe_s (f := (2, _, xi 0 :: _, _)) xt_g255 rfl rfl rfl rfl rfl ?_
  refine xe_mps xt_g255 rfl (q := 5) rfl (xf_13_146 fm) (by decide) rfl (by omega) (by omega) xi_int (Or.inl rfl) ?_
  refine xe_s (f := (6, _, _, _)) xt_g255 rfl rfl rfl rfl rfl ?_
  refine xe_if_lt xt_g255 rfl (t := 24) rfl (q := 9) rfl (by first | omega | exact hw.1 _ | exact hw.2 _ _) (fun hb => ?_) (fun hb => ?_)
  · exact no (Or.inl hb)
  · refine xe_s (f := (10, _, _, _)) xt_g255 rfl rfl rfl rfl rfl ?_
    refine xe_mgs xt_g255 rfl (q := 13) rfl (xf_13_260 fm) (by decide) rfl (by omega) ?_
    rw [xo_uN (by decide)]
    refine xe_i2l xt_g255 rfl (q := 14) rfl (by first | omega | exact hw.1 _ | exact hw.2 _ _) ?_
    refine xe_s (f := (15, _, _, _)) xt_g255 rfl rfl rfl rfl rfl ?_
    refine xe_i2l xt_g255 rfl (q := 16) rfl (by first | omega | exact hw.1 _ | exact hw.2 _ _) ?_
    refine xe_ladd xt_g255 rfl (q := 17) rfl ?_
    refine xe_ldcl (z := 1000000000) xt_g255 rfl (q := 20) rfl rfl (by decide) ?_
    refine xe_lcmp xt_g255 rfl (q := 21) rfl (by omega) (by omega) ?_
    have hc : xd_cmp (s 18 + k) 1000000000 ≤ 0 ↔ ¬ 1000000000 < s 18 + k := by
      unfold xd_cmp
      split
      · omega
      · split <;> omega
    have hc2 : -1 ≤ xd_cmp (s 18 + k) 1000000000 ∧ xd_cmp (s 18 + k) 1000000000 ≤ 1 := by
      unfold xd_cmp
      split
      · omega
      · split <;> omega
    refine xe_if_le xt_g255 rfl (t := 26) rfl (q := 24) rfl (by first | omega | exact hw.1 _ | exact hw.2 _ _) (fun hb2 => ?_) (fun hb2 => ?_)
    · rw [if_neg (by omega), if_neg (by omega)]
      refine xe_s (f := (27, _, _, _)) xt_g255 rfl rfl rfl rfl rfl ?_
      refine xe_s (f := (28, _, _, _)) xt_g255 rfl rfl rfl rfl rfl ?_
      refine xe_mgs xt_g255 rfl (q := 31) rfl (xf_13_260 fm) (by decide) rfl (by omega) ?_
      rw [xo_uN (by decide)]
      refine xe_s (f := (32, _, _, _)) xt_g255 rfl rfl rfl rfl rfl ?_
      refine xe_iadd xt_g255 rfl (q := 33) rfl ?_
      refine xe_mps xt_g255 rfl (q := 36) rfl (xf_13_260 fm) (by decide) rfl (by omega) (by omega) xi_int (Or.inl rfl) ?_
      refine xe_s (f := (37, _, _, _)) xt_g255 rfl rfl rfl rfl rfl ?_
      refine xe_mgs xt_g255 rfl (q := 40) rfl (xf_13_260 fm) (by decide) rfl (by omega) ?_
      rw [xo_uS]
      refine xe_iret xt_g255 rfl rfl xi_int.1 ?_
      exact ⟨rfl, rfl⟩
    · exact no (Or.inr (by omega))
end XMH
