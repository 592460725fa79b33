/-! methods of the reference that read -/
def xd_fnd (f : Nat → Int) (c : Int) : Nat → Int → Int
  | 0, k => k
  | n + 1, k => if f k.toNat = c then k else xd_fnd f c n (k + 1)
section XM2
variable (fm : Value) {m n : Nat} {h0 : xm_H} {s : Nat → Int} {ar : Nat → Nat → Int}
theorem xv_find (hmn : xo_in m n) (hw : xo_wf s ar) {c b e : Int} (hc : xr c) (h1 : 0 ≤ b) (h2 : b ≤ 160) (h3 : e ≤ 160) (h4 : 0 ≤ e) : xv fm 313 m n h0 s ar [.ref m, xi c, xi b, xi e] (some (xi (xd_fnd (ar 1) c (e - b).toNat b))) s ar := by
  show xe fm 313 (0, [(0, .ref m), (1, xi c), (2, xi b), (3, xi e)], [], (xo m s ar h0, n, 0, 0)) _
  refine xe_s (f := (1, _, _, _)) xt_g313 rfl rfl rfl rfl rfl ?_
  refine xe_s (f := (3, [(4, _), (0, _), (1, _), (2, _), (3, _)], _, _)) xt_g313 rfl rfl rfl rfl rfl ?_
  have loop : ∀ (N : Nat) (k : Int), 0 ≤ k → k ≤ 160 → (e - k).toNat = N → xe fm 313 (3, [(4, xi k), (0, .ref m), (1, xi c), (2, xi b), (3, xi e)], [], (xo m s ar h0, n, 0, 0)) (fun r M => r = .inl (some (xi (xd_fnd (ar 1) c N k))) ∧ M = (xo m s ar h0, n, 0, 0)) := by
    intro N
    induction N with
    | zero =>
      intro k k1 k2 k3
      refine xe_s (f := (5, _, _, _)) xt_g313 rfl rfl rfl rfl rfl ?_
      refine xe_s (f := (6, _, _, _)) xt_g313 rfl rfl rfl rfl rfl ?_
      refine xe_ic_ge xt_g313 rfl (t := 26) rfl (q := 9) rfl (by first | omega | exact hw.1 _ | exact hw.2 _ _) (by first | omega | exact hw.1 _ | exact hw.2 _ _) (fun hb => ?_) (fun hb => ?_)
      · refine xe_s (f := (28, _, _, _)) xt_g313 rfl rfl rfl rfl rfl ?_
        refine xe_iret xt_g313 rfl rfl xi_int.1 ?_
        exact ⟨rfl, rfl⟩
      · exact absurd hb (by omega)
    | succ N ih =>
      intro k k1 k2 k3
      refine xe_s (f := (5, _, _, _)) xt_g313 rfl rfl rfl rfl rfl ?_
      refine xe_s (f := (6, _, _, _)) xt_g313 rfl rfl rfl rfl rfl ?_
      refine xe_ic_ge xt_g313 rfl (t := 26) rfl (q := 9) rfl (by first | omega | exact hw.1 _ | exact hw.2 _ _) (by first | omega | exact hw.1 _ | exact hw.2 _ _) (fun hb => ?_) (fun hb => ?_)
      · exact absurd hb (by omega)
      · refine xe_s (f := (10, _, _, _)) xt_g313 rfl rfl rfl rfl rfl ?_
        refine xe_mga xt_g313 rfl (q := 13) rfl (xf_13_7 fm) (by decide) rfl (by omega) ?_
        refine xe_s (f := (15, _, _, _)) xt_g313 rfl rfl rfl rfl rfl ?_
        refine xe_mal (ok := xm_isN) (ty := .int) xt_g313 rfl (q := 16) rfl (fun _ _ => ⟨rfl, rfl, rfl, rfl⟩) rfl rfl rfl (by omega) (by omega) (by omega) (by omega) ?_
        refine xe_s (f := (17, _, _, _)) xt_g313 rfl rfl rfl rfl rfl ?_
        refine xe_ic_eq xt_g313 rfl (t := 26) rfl (q := 20) rfl (by first | omega | exact hw.1 _ | exact hw.2 _ _) (by first | omega | exact hw.1 _ | exact hw.2 _ _) (fun hb2 => ?_) (fun hb2 => ?_)
        · refine xe_s (f := (28, _, _, _)) xt_g313 rfl rfl rfl rfl rfl ?_
          refine xe_iret xt_g313 rfl rfl xi_int.1 ?_
          exact ⟨by rw [show xd_fnd (ar 1) c (N + 1) k = k by rw [xd_fnd, if_pos hb2]], rfl⟩
        · refine xe_iinc xt_g313 rfl (q := 23) rfl rfl (by decide) (L1 := [(4, _), (0, _), (1, _), (2, _), (3, _)]) rfl ?_
          refine xe_s (f := (3, _, _, _)) xt_g313 rfl rfl rfl rfl rfl ?_
          have h := ih (k + 1) (by omega) (by omega) (by omega)
          rw [show xd_fnd (ar 1) c (N + 1) k = xd_fnd (ar 1) c N (k + 1) by rw [xd_fnd, if_neg hb2]]
          exact h
  exact loop _ b h1 h2 rfl
theorem xv_textAt (hmn : xo_in m n) {a k : Int} (h1 : 0 ≤ 60 * a + k) (h2 : 60 * a + k < 5880) : xv fm 270 m n h0 s ar [.ref m, xi a, xi k] (some (xi (ar 4 (60 * a + k).toNat))) s ar := by
  show xe fm 270 (0, [(0, .ref m), (1, xi a), (2, xi k)], [], (xo m s ar h0, n, 0, 0)) _
  refine xe_s (f := (1, _, _, _)) xt_g270 rfl rfl rfl rfl rfl ?_
  refine xe_mga xt_g270 rfl (q := 4) rfl (xf_13_13 fm) (by decide) rfl (by omega) ?_
  refine xe_bipush xt_g270 rfl (q := 6) rfl (by decide) (by decide) ?_
  refine xe_s (f := (7, _, _, _)) xt_g270 rfl rfl rfl rfl rfl ?_
  refine xe_imul xt_g270 rfl (q := 8) rfl ?_
  refine xe_s (f := (9, _, _, _)) xt_g270 rfl rfl rfl rfl rfl ?_
  refine xe_iadd xt_g270 rfl (q := 10) rfl ?_
  refine xe_mal (ok := xm_isN) (ty := .int) xt_g270 rfl (q := 11) rfl (fun _ _ => ⟨rfl, rfl, rfl, rfl⟩) rfl rfl rfl (by omega) (by omega) (by omega) (by omega) ?_
  refine xe_iret xt_g270 rfl rfl xi_int.1 ?_
  exact ⟨rfl, rfl⟩
def xd_safe (ar : Nat → Nat → Int) (a : Int) : Bool := decide (ar 4 (60 * a + 4).toNat = 115)
theorem xv_isSafe (hmn : xo_in m n) (hw : xo_wf s ar) {a : Int} (h1 : 0 ≤ a) (h2 : a < 98) : xv fm 269 m n h0 s ar [.ref m, xi a] (some (xi (xb (xd_safe ar a)))) s ar := by
  show xe fm 269 (0, [(0, .ref m), (1, xi a)], [], (xo m s ar h0, n, 0, 0)) _
  refine xe_s (f := (1, _, _, _)) xt_g269 rfl rfl rfl rfl rfl ?_
  refine xe_s (f := (2, _, _, _)) xt_g269 rfl rfl rfl rfl rfl ?_
  refine xe_s (f := (3, _, xi 4 :: _, _)) xt_g269 rfl rfl rfl rfl rfl ?_
  refine xe_mcv xt_g269 rfl (q := 6) rfl xk_13_172 rfl (by omega) xt_g270 (by decide) ⟨Nat.le_of_ble_eq_true rfl, Nat.le_of_ble_eq_true rfl, Nat.le_of_ble_eq_true rfl⟩ (xv_textAt fm hmn (by omega) (by omega)) ?_
  show xe fm 269 (6, [(0, .ref m), (1, xi a)], [xi (ar 4 (60 * a + 4).toNat)], (xo m s ar h0, n, 0, 0)) _
  refine xe_bipush xt_g269 rfl (q := 8) rfl (by decide) (by decide) ?_
  refine xe_ic_ne xt_g269 rfl (t := 15) rfl (q := 11) rfl (by first | omega | exact hw.1 _ | exact hw.2 _ _) (by first | omega | exact hw.1 _ | exact hw.2 _ _) (fun hb => ?_) (fun hb => ?_)
  · refine xe_s (f := (16, _, xi 0 :: _, _)) xt_g269 rfl rfl rfl rfl rfl ?_
    refine xe_iret xt_g269 rfl rfl (xi_bool (by first | omega | exact xb_or _)).1 ?_
    exact ⟨by rw [show xd_safe ar a = false from decide_eq_false hb]; rfl, rfl⟩
  · refine xe_s (f := (12, _, xi 1 :: _, _)) xt_g269 rfl rfl rfl rfl rfl ?_
    refine xe_s (f := (16, _, _, _)) xt_g269 rfl rfl rfl rfl rfl ?_
    refine xe_iret xt_g269 rfl rfl (xi_bool (by first | omega | exact xb_or _)).1 ?_
    exact ⟨by rw [show xd_safe ar a = true from decide_eq_true (Decidable.not_not.mp hb)]; rfl, rfl⟩
def xd_hf (ar : Nat → Nat → Int) (a : Int) : Int := if xd_safe ar a = true then 8 else 7
theorem xv_hostFrom (hmn : xo_in m n) (hw : xo_wf s ar) {a : Int} (h1 : 0 ≤ a) (h2 : a < 98) : xv fm 272 m n h0 s ar [.ref m, xi a] (some (xi (xd_hf ar a))) s ar := by
  show xe fm 272 (0, [(0, .ref m), (1, xi a)], [], (xo m s ar h0, n, 0, 0)) _
  refine xe_s (f := (1, _, _, _)) xt_g272 rfl rfl rfl rfl rfl ?_
  refine xe_s (f := (2, _, _, _)) xt_g272 rfl rfl rfl rfl rfl ?_
  refine xe_mcv xt_g272 rfl (q := 5) rfl xk_13_176 rfl (by omega) xt_g269 (by decide) ⟨Nat.le_of_ble_eq_true rfl, Nat.le_of_ble_eq_true rfl, Nat.le_of_ble_eq_true rfl⟩ (xv_isSafe fm hmn hw h1 h2) ?_
  show xe fm 272 (5, [(0, .ref m), (1, xi a)], [xi (xb (xd_safe ar a))], (xo m s ar h0, n, 0, 0)) _
  have hx := xb_or (xd_safe ar a)
  refine xe_if_eq xt_g272 rfl (t := 13) rfl (q := 8) rfl (by first | omega | exact hw.1 _ | exact hw.2 _ _) (fun hb => ?_) (fun hb => ?_)
  · refine xe_bipush xt_g272 rfl (q := 15) rfl (by decide) (by decide) ?_
    refine xe_iret xt_g272 rfl rfl xi_int.1 ?_
    exact ⟨by rw [show xd_hf ar a = 7 by unfold xd_hf; cases h : xd_safe ar a <;> simp_all [xb]], rfl⟩
  · refine xe_bipush xt_g272 rfl (q := 10) rfl (by decide) (by decide) ?_
    refine xe_s (f := (15, _, _, _)) xt_g272 rfl rfl rfl rfl rfl ?_
    refine xe_iret xt_g272 rfl rfl xi_int.1 ?_
    exact ⟨by rw [show xd_hf ar a = 8 by unfold xd_hf; cases h : xd_safe ar a <;> simp_all [xb]], rfl⟩
theorem xd_hf_r {a : Int} : 7 ≤ xd_hf ar a ∧ xd_hf ar a ≤ 8 := by
  unfold xd_hf
  split <;> omega
/-- from k on, up to e, the first place of c in the text a -/
def xd_oe (ar : Nat → Nat → Int) (a : Int) : Int := xd_fnd (fun k => ar 4 (60 * a + k).toNat) 47 (ar 5 a.toNat - xd_hf ar a).toNat (xd_hf ar a)
theorem xd_fnd_le {f : Nat → Int} {c : Int} : ∀ (N : Nat) (k : Int), k ≤ xd_fnd f c N k ∧ xd_fnd f c N k ≤ k + N
  | 0, k => by simp [xd_fnd]
  | N + 1, k => by
    unfold xd_fnd
    split
    · omega
    · have h := xd_fnd_le (f := f) (c := c) N (k + 1)
      omega
theorem xv_originEnd (hmn : xo_in m n) (hw : xo_wf s ar) {a : Int} (h1 : 0 ≤ a) (h2 : a < 98) (h3 : 0 ≤ ar 5 a.toNat ∧ ar 5 a.toNat ≤ 60) : xv fm 271 m n h0 s ar [.ref m, xi a] (some (xi (xd_oe ar a))) s ar := by
  have hr := xd_hf_r (ar := ar) (a := a)
  show xe fm 271 (0, [(0, .ref m), (1, xi a)], [], (xo m s ar h0, n, 0, 0)) _
  refine xe_s (f := (1, _, _, _)) xt_g271 rfl rfl rfl rfl rfl ?_
  refine xe_s (f := (2, _, _, _)) xt_g271 rfl rfl rfl rfl rfl ?_
  refine xe_mcv xt_g271 rfl (q := 5) rfl xk_13_179 rfl (by omega) xt_g272 (by decide) ⟨Nat.le_of_ble_eq_true rfl, Nat.le_of_ble_eq_true rfl, Nat.le_of_ble_eq_true rfl⟩ (xv_hostFrom fm hmn hw h1 h2) ?_
  show xe fm 271 (5, [(0, .ref m), (1, xi a)], [xi (xd_hf ar a)], (xo m s ar h0, n, 0, 0)) _
  refine xe_s (f := (6, [(2, _), (0, _), (1, _)], _, _)) xt_g271 rfl rfl rfl rfl rfl ?_
  have loop : ∀ (N : Nat) (k : Int), 7 ≤ k → k ≤ 61 → (ar 5 a.toNat - k).toNat = N → xe fm 271 (6, [(2, xi k), (0, .ref m), (1, xi a)], [], (xo m s ar h0, n, 0, 0)) (fun r M => r = .inl (some (xi (xd_fnd (fun k => ar 4 (60 * a + k).toNat) 47 N k))) ∧ M = (xo m s ar h0, n, 0, 0)) := by
    intro N
    induction N with
    | zero =>
      intro k k1 k2 k3
      refine xe_s (f := (7, _, _, _)) xt_g271 rfl rfl rfl rfl rfl ?_
      refine xe_s (f := (8, _, _, _)) xt_g271 rfl rfl rfl rfl rfl ?_
      refine xe_mga xt_g271 rfl (q := 11) rfl (xf_13_16 fm) (by decide) rfl (by omega) ?_
      refine xe_s (f := (12, _, _, _)) xt_g271 rfl rfl rfl rfl rfl ?_
      refine xe_mal (ok := xm_isN) (ty := .int) xt_g271 rfl (q := 13) rfl (fun _ _ => ⟨rfl, rfl, rfl, rfl⟩) rfl rfl rfl (by omega) (by omega) (by omega) (by omega) ?_
      refine xe_ic_ge xt_g271 rfl (t := 33) rfl (q := 16) rfl (by first | omega | exact hw.1 _ | exact hw.2 _ _) (by first | omega | exact hw.1 _ | exact hw.2 _ _) (fun hb => ?_) (fun hb => ?_)
      · refine xe_s (f := (34, _, _, _)) xt_g271 rfl rfl rfl rfl rfl ?_
        refine xe_iret xt_g271 rfl rfl xi_int.1 ?_
        exact ⟨rfl, rfl⟩
      · exact absurd hb (by omega)
    | succ N ih =>
      intro k k1 k2 k3
      refine xe_s (f := (7, _, _, _)) xt_g271 rfl rfl rfl rfl rfl ?_
      refine xe_s (f := (8, _, _, _)) xt_g271 rfl rfl rfl rfl rfl ?_
      refine xe_mga xt_g271 rfl (q := 11) rfl (xf_13_16 fm) (by decide) rfl (by omega) ?_
      refine xe_s (f := (12, _, _, _)) xt_g271 rfl rfl rfl rfl rfl ?_
      refine xe_mal (ok := xm_isN) (ty := .int) xt_g271 rfl (q := 13) rfl (fun _ _ => ⟨rfl, rfl, rfl, rfl⟩) rfl rfl rfl (by omega) (by omega) (by omega) (by omega) ?_
      refine xe_ic_ge xt_g271 rfl (t := 33) rfl (q := 16) rfl (by first | omega | exact hw.1 _ | exact hw.2 _ _) (by first | omega | exact hw.1 _ | exact hw.2 _ _) (fun hb => ?_) (fun hb => ?_)
      · exact absurd hb (by omega)
      · refine xe_s (f := (17, _, _, _)) xt_g271 rfl rfl rfl rfl rfl ?_
        refine xe_s (f := (18, _, _, _)) xt_g271 rfl rfl rfl rfl rfl ?_
        refine xe_s (f := (19, _, _, _)) xt_g271 rfl rfl rfl rfl rfl ?_
        refine xe_mcv xt_g271 rfl (q := 22) rfl xk_13_172 rfl (by omega) xt_g270 (by decide) ⟨Nat.le_of_ble_eq_true rfl, Nat.le_of_ble_eq_true rfl, Nat.le_of_ble_eq_true rfl⟩ (xv_textAt fm hmn (by omega) (by omega)) ?_
        show xe fm 271 (22, [(2, xi k), (0, .ref m), (1, xi a)], [xi (ar 4 (60 * a + k).toNat)], (xo m s ar h0, n, 0, 0)) _
        refine xe_bipush xt_g271 rfl (q := 24) rfl (by decide) (by decide) ?_
        have ek : ((k.toNat : Nat) : Int) = k := Int.toNat_of_nonneg (by omega)
        refine xe_ic_eq xt_g271 rfl (t := 33) rfl (q := 27) rfl (by first | omega | exact hw.1 _ | exact hw.2 _ _) (by first | omega | exact hw.1 _ | exact hw.2 _ _) (fun hb2 => ?_) (fun hb2 => ?_)
        · refine xe_s (f := (34, _, _, _)) xt_g271 rfl rfl rfl rfl rfl ?_
          refine xe_iret xt_g271 rfl rfl xi_int.1 ?_
          exact ⟨by rw [xd_fnd, ek, if_pos hb2], rfl⟩
        · refine xe_iinc xt_g271 rfl (q := 30) rfl rfl (by decide) (L1 := [(2, _), (0, _), (1, _)]) rfl ?_
          refine xe_s (f := (6, _, _, _)) xt_g271 rfl rfl rfl rfl rfl ?_
          have h := ih (k + 1) (by omega) (by omega) (by omega)
          rw [xd_fnd, ek, if_neg hb2]
          exact h
  exact loop _ _ hr.1 (by omega) rfl
end XM2
