/-! small methods of the reference -/
def xd_dig (c : Int) : Bool := decide (48 ≤ c ∧ c ≤ 57)
def xd_sml (c : Int) : Int := if 65 ≤ c ∧ c ≤ 90 then c + 32 else c
def xd_pln (c : Int) : Bool := decide (97 ≤ xd_sml c ∧ xd_sml c ≤ 122) || xd_dig c
theorem xv_isDigit (fm : Value) {c : Int} (hc : xr c) : xw fm 252 [xi c] (some (xi (xb (xd_dig c)))) := by
  intro M
  show xe fm 252 (0, [(0, xi c)], [], M) _
  refine xe_s (f := (1, _, _, _)) xt_g252 rfl rfl rfl rfl rfl ?_
  refine xe_bipush xt_g252 rfl (q := 3) rfl (by decide) (by decide) ?_
  refine xe_ic_lt xt_g252 rfl (t := 16) rfl (q := 6) rfl (by first | omega | exact hw.1 _ | exact hw.2 _ _ | exact xb_r _) (by first | omega | exact hw.1 _ | exact hw.2 _ _ | exact xb_r _) (fun hb => ?_) (fun hb => ?_)
  · refine xe_s (f := (17, _, xi 0 :: _, _)) xt_g252 rfl rfl rfl rfl rfl ?_
    refine xe_iret xt_g252 rfl rfl (xi_bool (by first | omega | exact xb_or _)).1 ?_
    exact ⟨by rw [show xd_dig c = false by simp [xd_dig]; omega]; rfl, rfl⟩
  · refine xe_s (f := (7, _, _, _)) xt_g252 rfl rfl rfl rfl rfl ?_
    refine xe_bipush xt_g252 rfl (q := 9) rfl (by decide) (by decide) ?_
    refine xe_ic_gt xt_g252 rfl (t := 16) rfl (q := 12) rfl (by first | omega | exact hw.1 _ | exact hw.2 _ _ | exact xb_r _) (by first | omega | exact hw.1 _ | exact hw.2 _ _ | exact xb_r _) (fun hb2 => ?_) (fun hb2 => ?_)
    · refine xe_s (f := (17, _, xi 0 :: _, _)) xt_g252 rfl rfl rfl rfl rfl ?_
      refine xe_iret xt_g252 rfl rfl (xi_bool (by first | omega | exact xb_or _)).1 ?_
      exact ⟨by rw [show xd_dig c = false by simp [xd_dig]; omega]; rfl, rfl⟩
    · refine xe_s (f := (13, _, xi 1 :: _, _)) xt_g252 rfl rfl rfl rfl rfl ?_
      refine xe_s (f := (17, _, _, _)) xt_g252 rfl rfl rfl rfl rfl ?_
      refine xe_iret xt_g252 rfl rfl (xi_bool (by first | omega | exact xb_or _)).1 ?_
      exact ⟨by rw [show xd_dig c = true by simp [xd_dig]; omega]; rfl, rfl⟩
theorem xv_small (fm : Value) {c : Int} (hc : xr c) : xw fm 251 [xi c] (some (xi (xd_sml c))) := by
  intro M
  show xe fm 251 (0, [(0, xi c)], [], M) _
  refine xe_s (f := (1, _, _, _)) xt_g251 rfl rfl rfl rfl rfl ?_
  refine xe_bipush xt_g251 rfl (q := 3) rfl (by decide) (by decide) ?_
  refine xe_ic_lt xt_g251 rfl (t := 19) rfl (q := 6) rfl (by first | omega | exact hw.1 _ | exact hw.2 _ _ | exact xb_r _) (by first | omega | exact hw.1 _ | exact hw.2 _ _ | exact xb_r _) (fun hb => ?_) (fun hb => ?_)
  · refine xe_s (f := (20, _, _, _)) xt_g251 rfl rfl rfl rfl rfl ?_
    refine xe_iret xt_g251 rfl rfl xi_int.1 ?_
    exact ⟨by rw [show xd_sml c = c by unfold xd_sml; rw [if_neg (by omega)]], rfl⟩
  · refine xe_s (f := (7, _, _, _)) xt_g251 rfl rfl rfl rfl rfl ?_
    refine xe_bipush xt_g251 rfl (q := 9) rfl (by decide) (by decide) ?_
    refine xe_ic_gt xt_g251 rfl (t := 19) rfl (q := 12) rfl (by first | omega | exact hw.1 _ | exact hw.2 _ _ | exact xb_r _) (by first | omega | exact hw.1 _ | exact hw.2 _ _ | exact xb_r _) (fun hb2 => ?_) (fun hb2 => ?_)
    · refine xe_s (f := (20, _, _, _)) xt_g251 rfl rfl rfl rfl rfl ?_
      refine xe_iret xt_g251 rfl rfl xi_int.1 ?_
      exact ⟨by rw [show xd_sml c = c by unfold xd_sml; rw [if_neg (by omega)]], rfl⟩
    · refine xe_s (f := (13, _, _, _)) xt_g251 rfl rfl rfl rfl rfl ?_
      refine xe_bipush xt_g251 rfl (q := 15) rfl (by decide) (by decide) ?_
      refine xe_iadd xt_g251 rfl (q := 16) rfl ?_
      refine xe_s (f := (20, _, _, _)) xt_g251 rfl rfl rfl rfl rfl ?_
      refine xe_iret xt_g251 rfl rfl xi_int.1 ?_
      exact ⟨by rw [show xd_sml c = c + 32 by unfold xd_sml; rw [if_pos (by omega)]], rfl⟩
theorem xd_sml_r {c : Int} (hc : xr c) : xr (xd_sml c) := by
  unfold xd_sml
  split <;> omega
theorem xv_isPlain (fm : Value) {c : Int} (hc : xr c) : xw fm 250 [xi c] (some (xi (xb (xd_pln c)))) := by
  have hs := xd_sml_r hc
  intro M
  show xe fm 250 (0, [(0, xi c)], [], M) _
  refine xe_s (f := (1, _, _, _)) xt_g250 rfl rfl rfl rfl rfl ?_
  refine xe_mcs xt_g250 rfl (q := 4) rfl xk_13_159 (Nat.le_of_ble_eq_true rfl) xt_g251 (by decide) ⟨Nat.le_of_ble_eq_true rfl, Nat.le_of_ble_eq_true rfl, Nat.le_of_ble_eq_true rfl⟩ (xv_small fm hc) ?_
  show xe fm 250 (4, [(0, xi c)], [xi (xd_sml c)], M) _
  refine xe_bipush xt_g250 rfl (q := 6) rfl (by decide) (by decide) ?_
  have tail : ¬ (97 ≤ xd_sml c ∧ xd_sml c ≤ 122) → xe fm 250 (18, [(0, xi c)], [], M) (fun r m => r = .inl (some (xi (xb (xd_pln c)))) ∧ m = M) := by
    intro hn
    refine xe_s (f := (19, _, _, _)) xt_g250 rfl rfl rfl rfl rfl ?_
    refine xe_mcs xt_g250 rfl (q := 22) rfl xk_13_162 (Nat.le_of_ble_eq_true rfl) xt_g252 (by decide) ⟨Nat.le_of_ble_eq_true rfl, Nat.le_of_ble_eq_true rfl, Nat.le_of_ble_eq_true rfl⟩ (xv_isDigit fm hc) ?_
    show xe fm 250 (22, [(0, xi c)], [xi (xb (xd_dig c))], M) _
    have hd := xb_or (xd_dig c)
    refine xe_if_eq xt_g250 rfl (t := 29) rfl (q := 25) rfl (by first | omega | exact hw.1 _ | exact hw.2 _ _ | exact xb_r _) (fun hb => ?_) (fun hb => ?_)
    · refine xe_s (f := (30, _, xi 0 :: _, _)) xt_g250 rfl rfl rfl rfl rfl ?_
      refine xe_iret xt_g250 rfl rfl (xi_bool (by first | omega | exact xb_or _)).1 ?_
      exact ⟨by rw [show xd_pln c = false by unfold xd_pln; cases h : xd_dig c <;> simp_all [xb]]; rfl, rfl⟩
    · refine xe_s (f := (26, _, xi 1 :: _, _)) xt_g250 rfl rfl rfl rfl rfl ?_
      refine xe_s (f := (30, _, _, _)) xt_g250 rfl rfl rfl rfl rfl ?_
      refine xe_iret xt_g250 rfl rfl (xi_bool (by first | omega | exact xb_or _)).1 ?_
      exact ⟨by rw [show xd_pln c = true by unfold xd_pln; cases h : xd_dig c <;> simp_all [xb]]; rfl, rfl⟩
  refine xe_ic_lt xt_g250 rfl (t := 18) rfl (q := 9) rfl (by first | omega | exact hw.1 _ | exact hw.2 _ _ | exact xb_r _) (by first | omega | exact hw.1 _ | exact hw.2 _ _ | exact xb_r _) (fun hb => ?_) (fun hb => ?_)
  · exact tail (by omega)
  · refine xe_s (f := (10, _, _, _)) xt_g250 rfl rfl rfl rfl rfl ?_
    refine xe_mcs xt_g250 rfl (q := 13) rfl xk_13_159 (Nat.le_of_ble_eq_true rfl) xt_g251 (by decide) ⟨Nat.le_of_ble_eq_true rfl, Nat.le_of_ble_eq_true rfl, Nat.le_of_ble_eq_true rfl⟩ (xv_small fm hc) ?_
    show xe fm 250 (13, [(0, xi c)], [xi (xd_sml c)], M) _
    refine xe_bipush xt_g250 rfl (q := 15) rfl (by decide) (by decide) ?_
    refine xe_ic_le xt_g250 rfl (t := 25) rfl (q := 18) rfl (by first | omega | exact hw.1 _ | exact hw.2 _ _ | exact xb_r _) (by first | omega | exact hw.1 _ | exact hw.2 _ _ | exact xb_r _) (fun hb2 => ?_) (fun hb2 => ?_)
    · refine xe_s (f := (26, _, xi 1 :: _, _)) xt_g250 rfl rfl rfl rfl rfl ?_
      refine xe_s (f := (30, _, _, _)) xt_g250 rfl rfl rfl rfl rfl ?_
      refine xe_iret xt_g250 rfl rfl (xi_bool (by first | omega | exact xb_or _)).1 ?_
      exact ⟨by rw [show xd_pln c = true by unfold xd_pln; rw [decide_eq_true (by omega)]; rfl]; rfl, rfl⟩
    · exact tail (by omega)
/-- the place of the reference's cells -/
abbrev xo_in (m n : Nat) : Prop := 44 ≤ m ∧ m + 42 < n
def xd_at (s : Nat → Int) (ar : Nat → Nat → Int) (k : Int) : Int := if 0 ≤ k ∧ k < s 2 then ar 1 k.toNat else 0
theorem xv_charAt (fm : Value) {m n : Nat} (hmn : xo_in m n) {h0 : xm_H} {s : Nat → Int} {ar : Nat → Nat → Int} {k : Int} (hs : 0 ≤ s 2 ∧ s 2 ≤ 160) (hk : 0 ≤ k ∧ k < 2147483648) : xv fm 249 m n h0 s ar [.ref m, xi k] (some (xi (xd_at s ar k))) s ar := by
  show xe fm 249 (0, [(0, .ref m), (1, xi k)], [], (xo m s ar h0, n, 0, 0)) _
  refine xe_s (f := (1, _, _, _)) xt_g249 rfl rfl rfl rfl rfl ?_
  refine xe_s (f := (2, _, _, _)) xt_g249 rfl rfl rfl rfl rfl ?_
  refine xe_mgs xt_g249 rfl (q := 5) rfl (xf_13_149 fm) (by decide) rfl (by omega) ?_
  refine xe_ic_ge xt_g249 rfl (t := 17) rfl (q := 8) rfl (by first | omega | exact hw.1 _ | exact hw.2 _ _ | exact xb_r _) (by first | omega | exact hw.1 _ | exact hw.2 _ _ | exact xb_r _) (fun hb => ?_) (fun hb => ?_)
  · refine xe_s (f := (18, _, xi 0 :: _, _)) xt_g249 rfl rfl rfl rfl rfl ?_
    refine xe_iret xt_g249 rfl rfl xi_int.1 ?_
    exact ⟨by rw [show xd_at s ar k = 0 by unfold xd_at; rw [if_neg (by omega)]], rfl⟩
  · refine xe_s (f := (9, _, _, _)) xt_g249 rfl rfl rfl rfl rfl ?_
    refine xe_mga xt_g249 rfl (q := 12) rfl (xf_13_7 fm) (by decide) rfl (by omega) ?_
    refine xe_s (f := (13, _, _, _)) xt_g249 rfl rfl rfl rfl rfl ?_
    refine xe_mal (ok := xm_isN) (ty := .int) xt_g249 rfl (q := 14) rfl (fun _ _ => ⟨rfl, rfl, rfl, rfl⟩) rfl rfl rfl (by omega) (by omega) (by omega) (by omega) ?_
    refine xe_s (f := (18, _, _, _)) xt_g249 rfl rfl rfl rfl rfl ?_
    refine xe_iret xt_g249 rfl rfl xi_int.1 ?_
    exact ⟨by rw [show xd_at s ar k = ar 1 k.toNat by unfold xd_at; rw [if_pos (by omega)]], rfl⟩
theorem xv_here (fm : Value) {m n : Nat} (hmn : xo_in m n) {h0 : xm_H} {s : Nat → Int} {ar : Nat → Nat → Int} (hs : 0 ≤ s 2 ∧ s 2 ≤ 160) (hk : 0 ≤ s 3 ∧ s 3 < 2147483648) : xv fm 248 m n h0 s ar [.ref m] (some (xi (xd_at s ar (s 3)))) s ar := by
  show xe fm 248 (0, [(0, .ref m)], [], (xo m s ar h0, n, 0, 0)) _
  refine xe_s (f := (1, _, _, _)) xt_g248 rfl rfl rfl rfl rfl ?_
  refine xe_s (f := (2, _, _, _)) xt_g248 rfl rfl rfl rfl rfl ?_
  refine xe_mgs xt_g248 rfl (q := 5) rfl (xf_13_152 fm) (by decide) rfl (by omega) ?_
  refine xe_mcv xt_g248 rfl (q := 8) rfl xk_13_155 rfl (by omega) xt_g249 (by decide) ⟨Nat.le_of_ble_eq_true rfl, Nat.le_of_ble_eq_true rfl, Nat.le_of_ble_eq_true rfl⟩ (xv_charAt fm hmn hs hk) ?_
  show xe fm 248 (8, [(0, .ref m)], [xi (xd_at s ar (s 3))], (xo m s ar h0, n, 0, 0)) _
  refine xe_iret xt_g248 rfl rfl xi_int.1 ?_
  exact ⟨rfl, rfl⟩
theorem xv_addHead (fm : Value) {m n : Nat} (hmn : xo_in m n) {h0 : xm_H} {s : Nat → Int} {ar : Nat → Nat → Int} {x : Int} (hk : 0 ≤ s 10 ∧ s 10 < 300) : xv fm 253 m n h0 s ar [.ref m, xi x] none (xo_u s 10 (s 10 + 1)) (xo_w ar 6 (s 10).toNat x) := by
  show xe fm 253 (0, [(0, .ref m), (1, xi x)], [], (xo m s ar h0, n, 0, 0)) _
  refine xe_s (f := (1, _, _, _)) xt_g253 rfl rfl rfl rfl rfl ?_
  refine xe_mga xt_g253 rfl (q := 4) rfl (xf_13_19 fm) (by decide) rfl (by omega) ?_
  refine xe_s (f := (5, _, _, _)) xt_g253 rfl rfl rfl rfl rfl ?_
  refine xe_mgs xt_g253 rfl (q := 8) rfl (xf_13_185 fm) (by decide) rfl (by omega) ?_
  refine xe_s (f := (9, _, _, _)) xt_g253 rfl rfl rfl rfl rfl ?_
  refine xe_mas (ok := xm_isN) (ty := .int) xt_g253 rfl (q := 10) rfl (fun _ _ => ⟨rfl, rfl, rfl, rfl⟩) rfl rfl rfl (by omega) (by omega) (by omega) (by omega) (by omega) rfl ?_
  refine xe_s (f := (11, _, _, _)) xt_g253 rfl rfl rfl rfl rfl ?_
  refine xe_s (f := (12, _, _, _)) xt_g253 rfl rfl rfl rfl rfl ?_
  refine xe_mgs xt_g253 rfl (q := 15) rfl (xf_13_185 fm) (by decide) rfl (by omega) ?_
  refine xe_s (f := (16, _, xi 1 :: _, _)) xt_g253 rfl rfl rfl rfl rfl ?_
  refine xe_iadd xt_g253 rfl (q := 17) rfl ?_
  refine xe_mps xt_g253 rfl (q := 20) rfl (xf_13_185 fm) (by decide) rfl (by omega) (by omega) xi_int (Or.inl rfl) ?_
  refine xe_ret xt_g253 rfl rfl ?_
  exact ⟨rfl, rfl⟩
