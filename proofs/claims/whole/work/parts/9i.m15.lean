/-! the reference: message -/
section XMF
variable (fm : Value) {m n : Nat} {h0 : xm_H} {s : Nat → Int} {ar : Nat → Nat → Int}
def xd_msg (s : Nat → Int) (ar : Nat → Nat → Int) (k w : Int) : Int := if k < 0 ∨ s 55 ≤ k ∨ w < 0 ∨ 3 < w then -1 else if w = 0 then ar 56 k.toNat else if w = 1 then ar 57 k.toNat else if w = 2 then ar 58 k.toNat else ar 59 k.toNat
theorem xv_message (hmn : xo_in m n) (hw : xo_wf s ar) {k w : Int} (hk : xr k) (hx : xr w) (h5 : 0 ≤ s 55 ∧ s 55 ≤ 200) : xv fm 344 m n h0 s ar [.ref m, xi k, xi w] (some (xi (xd_msg s ar k w))) (xo_u s 0 0) ar := by
  show xe fm 344 (0, [(0, .ref m), (1, xi k), (2, xi w)], [], (xo m s ar h0, n, 0, 0)) _
  have no : (k < 0 ∨ s 55 ≤ k ∨ w < 0 ∨ 3 < w) → xe fm 344 (26, [(0, .ref m), (1, xi k), (2, xi w)], [], (xo m (xo_u s 0 0) ar h0, n, 0, 0)) (fun r M => r = .inl (some (xi (xd_msg s ar k w))) ∧ M = (xo m (xo_u s 0 0) ar h0, n, 0, 0)) := by
    intro h
    refine xe_s (f := (27, _, xi (-1) :: _, _)) xt_g344 rfl rfl rfl rfl rfl ?_
    refine xe_iret xt_g344 rfl rfl xi_int.1 ?_
    exact ⟨by rw [show xd_msg s ar k w = -1 by unfold xd_msg; rw [if_pos h]], rfl⟩
  refine xe_s (f := (1, _, _, _)) xt_g344 rfl rfl rfl rfl rfl ?_
  refine xe_s (f := (2, _, xi 0 :: _, _)) xt_g344 rfl rfl rfl rfl rfl ?_
  refine xe_mps xt_g344 rfl (q := 5) rfl (xf_13_146 fm) (by decide) rfl (by omega) (by omega) xi_int (Or.inl rfl) ?_
  refine xe_s (f := (6, _, _, _)) xt_g344 rfl rfl rfl rfl rfl ?_
  refine xe_if_lt xt_g344 rfl (t := 26) rfl (q := 9) rfl (by first | omega | exact hw.1 _ | exact hw.2 _ _) (fun hb => ?_) (fun hb => ?_)
  · exact no (by omega)
  · refine xe_s (f := (10, _, _, _)) xt_g344 rfl rfl rfl rfl rfl ?_
    refine xe_s (f := (11, _, _, _)) xt_g344 rfl rfl rfl rfl rfl ?_
    refine xe_mgs xt_g344 rfl (q := 14) rfl (xf_13_373 fm) (by decide) rfl (by omega) ?_
    rw [xo_uN (by decide)]
    refine xe_ic_ge xt_g344 rfl (t := 26) rfl (q := 17) rfl (by first | omega | exact hw.1 _ | exact hw.2 _ _) (by first | omega | exact hw.1 _ | exact hw.2 _ _) (fun hb2 => ?_) (fun hb2 => ?_)
    · exact no (by omega)
    · refine xe_s (f := (18, _, _, _)) xt_g344 rfl rfl rfl rfl rfl ?_
      refine xe_if_lt xt_g344 rfl (t := 26) rfl (q := 21) rfl (by first | omega | exact hw.1 _ | exact hw.2 _ _) (fun hb3 => ?_) (fun hb3 => ?_)
      · exact no (by omega)
      · refine xe_s (f := (22, _, _, _)) xt_g344 rfl rfl rfl rfl rfl ?_
        refine xe_s (f := (23, _, xi 3 :: _, _)) xt_g344 rfl rfl rfl rfl rfl ?_
        refine xe_ic_le xt_g344 rfl (t := 28) rfl (q := 26) rfl (by first | omega | exact hw.1 _ | exact hw.2 _ _) (by first | omega | exact hw.1 _ | exact hw.2 _ _) (fun hb4 => ?_) (fun hb4 => ?_)
        · refine xe_s (f := (29, _, _, _)) xt_g344 rfl rfl rfl rfl rfl ?_
          refine xe_if_ne xt_g344 rfl (t := 41) rfl (q := 32) rfl (by first | omega | exact hw.1 _ | exact hw.2 _ _) (fun hb5 => ?_) (fun hb5 => ?_)
          · refine xe_s (f := (42, _, _, _)) xt_g344 rfl rfl rfl rfl rfl ?_
            refine xe_s (f := (43, _, xi 1 :: _, _)) xt_g344 rfl rfl rfl rfl rfl ?_
            refine xe_ic_ne xt_g344 rfl (t := 55) rfl (q := 46) rfl (by first | omega | exact hw.1 _ | exact hw.2 _ _) (by first | omega | exact hw.1 _ | exact hw.2 _ _) (fun hb6 => ?_) (fun hb6 => ?_)
            · refine xe_s (f := (56, _, _, _)) xt_g344 rfl rfl rfl rfl rfl ?_
              refine xe_s (f := (57, _, xi 2 :: _, _)) xt_g344 rfl rfl rfl rfl rfl ?_
              refine xe_ic_ne xt_g344 rfl (t := 69) rfl (q := 60) rfl (by first | omega | exact hw.1 _ | exact hw.2 _ _) (by first | omega | exact hw.1 _ | exact hw.2 _ _) (fun hb7 => ?_) (fun hb7 => ?_)
              · refine xe_s (f := (70, _, _, _)) xt_g344 rfl rfl rfl rfl rfl ?_
                refine xe_mga xt_g344 rfl (q := 73) rfl (xf_13_129 fm) (by decide) rfl (by omega) ?_
                refine xe_s (f := (74, _, _, _)) xt_g344 rfl rfl rfl rfl rfl ?_
                refine xe_mal (ok := xm_isN) (ty := .int) xt_g344 rfl (q := 75) rfl (fun _ _ => ⟨rfl, rfl, rfl, rfl⟩) rfl rfl rfl (by omega) (by omega) (by omega) (by omega) ?_
                refine xe_iret xt_g344 rfl rfl xi_int.1 ?_
                exact ⟨by rw [show xd_msg s ar k w = ar 59 k.toNat by unfold xd_msg; rw [if_neg (by omega), if_neg hb5, if_neg hb6, if_neg hb7]], rfl⟩
              · refine xe_s (f := (61, _, _, _)) xt_g344 rfl rfl rfl rfl rfl ?_
                refine xe_mga xt_g344 rfl (q := 64) rfl (xf_13_126 fm) (by decide) rfl (by omega) ?_
                refine xe_s (f := (65, _, _, _)) xt_g344 rfl rfl rfl rfl rfl ?_
                refine xe_mal (ok := xm_isN) (ty := .int) xt_g344 rfl (q := 66) rfl (fun _ _ => ⟨rfl, rfl, rfl, rfl⟩) rfl rfl rfl (by omega) (by omega) (by omega) (by omega) ?_
                refine xe_s (f := (75, _, _, _)) xt_g344 rfl rfl rfl rfl rfl ?_
                refine xe_iret xt_g344 rfl rfl xi_int.1 ?_
                exact ⟨by rw [show xd_msg s ar k w = ar 58 k.toNat by unfold xd_msg; rw [if_neg (by omega), if_neg hb5, if_neg hb6, if_pos (by omega)]], rfl⟩
            · refine xe_s (f := (47, _, _, _)) xt_g344 rfl rfl rfl rfl rfl ?_
              refine xe_mga xt_g344 rfl (q := 50) rfl (xf_13_123 fm) (by decide) rfl (by omega) ?_
              refine xe_s (f := (51, _, _, _)) xt_g344 rfl rfl rfl rfl rfl ?_
              refine xe_mal (ok := xm_isN) (ty := .int) xt_g344 rfl (q := 52) rfl (fun _ _ => ⟨rfl, rfl, rfl, rfl⟩) rfl rfl rfl (by omega) (by omega) (by omega) (by omega) ?_
              refine xe_s (f := (75, _, _, _)) xt_g344 rfl rfl rfl rfl rfl ?_
              refine xe_iret xt_g344 rfl rfl xi_int.1 ?_
              exact ⟨by rw [show xd_msg s ar k w = ar 57 k.toNat by unfold xd_msg; rw [if_neg (by omega), if_neg hb5, if_pos (by omega)]], rfl⟩
          · refine xe_s (f := (33, _, _, _)) xt_g344 rfl rfl rfl rfl rfl ?_
            refine xe_mga xt_g344 rfl (q := 36) rfl (xf_13_120 fm) (by decide) rfl (by omega) ?_
            refine xe_s (f := (37, _, _, _)) xt_g344 rfl rfl rfl rfl rfl ?_
            refine xe_mal (ok := xm_isN) (ty := .int) xt_g344 rfl (q := 38) rfl (fun _ _ => ⟨rfl, rfl, rfl, rfl⟩) rfl rfl rfl (by omega) (by omega) (by omega) (by omega) ?_
            refine xe_s (f := (75, _, _, _)) xt_g344 rfl rfl rfl rfl rfl ?_
            refine xe_iret xt_g344 rfl rfl xi_int.1 ?_
            exact ⟨by rw [show xd_msg s ar k w = ar 56 k.toNat by unfold xd_msg; rw [if_neg (by omega), if_pos (by omega)]], rfl⟩
        · exact no (by omega)
end XMF
