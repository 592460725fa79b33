/-! more methods of the reference that read -/
section XM3
variable (fm : Value) {m n : Nat} {h0 : xm_H} {s : Nat → Int} {ar : Nat → Nat → Int}
def xd_he (ar : Nat → Nat → Int) (a : Int) : Int := xd_fnd (fun k => ar 4 (60 * a + k).toNat) 58 (xd_oe ar a - xd_hf ar a).toNat (xd_hf ar a)
theorem xd_oe_r {a : Int} (h3 : 0 ≤ ar 5 a.toNat ∧ ar 5 a.toNat ≤ 60) : xd_hf ar a ≤ xd_oe ar a ∧ (xd_oe ar a ≤ ar 5 a.toNat ∨ xd_oe ar a = xd_hf ar a) := by
  have h := xd_fnd_le (f := fun k => ar 4 (60 * a + k).toNat) (c := 47) (ar 5 a.toNat - xd_hf ar a).toNat (xd_hf ar a)
  have e : xd_oe ar a = xd_fnd (fun k => ar 4 (60 * a + k).toNat) 47 (ar 5 a.toNat - xd_hf ar a).toNat (xd_hf ar a) := rfl
  rw [e]
  omega
theorem xv_hostEnd (hmn : xo_in m n) (hw : xo_wf s ar) {a : Int} (h1 : 0 ≤ a) (h2 : a < 98) (h3 : 0 ≤ ar 5 a.toNat ∧ ar 5 a.toNat ≤ 60) : xv fm 288 m n h0 s ar [.ref m, xi a] (some (xi (xd_he ar a))) s ar := by
  have hr := xd_hf_r (ar := ar) (a := a)
  have ho := xd_oe_r h3
  show xe fm 288 (0, [(0, .ref m), (1, xi a)], [], (xo m s ar h0, n, 0, 0)) _
  refine xe_s (f := (1, _, _, _)) xt_g288 rfl rfl rfl rfl rfl ?_
  refine xe_s (f := (2, _, _, _)) xt_g288 rfl rfl rfl rfl rfl ?_
  refine xe_mcv xt_g288 rfl (q := 5) rfl xk_13_179 rfl (by omega) xt_g272 (by decide) ⟨Nat.le_of_ble_eq_true rfl, Nat.le_of_ble_eq_true rfl, Nat.le_of_ble_eq_true rfl⟩ (xv_hostFrom fm hmn hw h1 h2) ?_
  show xe fm 288 (5, [(0, .ref m), (1, xi a)], [xi (xd_hf ar a)], (xo m s ar h0, n, 0, 0)) _
  refine xe_s (f := (6, [(2, _), (0, _), (1, _)], _, _)) xt_g288 rfl rfl rfl rfl rfl ?_
  have loop : ∀ (N : Nat) (k : Int), 7 ≤ k → k ≤ 61 → (xd_oe ar a - k).toNat = N → xe fm 288 (6, [(2, xi k), (0, .ref m), (1, xi a)], [], (xo m s ar h0, n, 0, 0)) (fun r M => r = .inl (some (xi (xd_fnd (fun k => ar 4 (60 * a + k).toNat) 58 N k))) ∧ M = (xo m s ar h0, n, 0, 0)) := by
    intro N
    induction N with
    | zero =>
      intro k k1 k2 k3
      refine xe_s (f := (7, _, _, _)) xt_g288 rfl rfl rfl rfl rfl ?_
      refine xe_s (f := (8, _, _, _)) xt_g288 rfl rfl rfl rfl rfl ?_
      refine xe_s (f := (9, _, _, _)) xt_g288 rfl rfl rfl rfl rfl ?_
      refine xe_mcv xt_g288 rfl (q := 12) rfl xk_13_182 rfl (by omega) xt_g271 (by decide) ⟨Nat.le_of_ble_eq_true rfl, Nat.le_of_ble_eq_true rfl, Nat.le_of_ble_eq_true rfl⟩ (xv_originEnd fm hmn hw h1 h2 h3) ?_
      show xe fm 288 (12, [(2, xi k), (0, .ref m), (1, xi a)], [xi (xd_oe ar a), xi k], (xo m s ar h0, n, 0, 0)) _
      refine xe_ic_ge xt_g288 rfl (t := 32) rfl (q := 15) rfl (by first | omega | exact hw.1 _ | exact hw.2 _ _) (by first | omega | exact hw.1 _ | exact hw.2 _ _) (fun hb => ?_) (fun hb => ?_)
      · refine xe_s (f := (33, _, _, _)) xt_g288 rfl rfl rfl rfl rfl ?_
        refine xe_iret xt_g288 rfl rfl xi_int.1 ?_
        exact ⟨rfl, rfl⟩
      · exact absurd hb (by omega)
    | succ N ih =>
      intro k k1 k2 k3
      refine xe_s (f := (7, _, _, _)) xt_g288 rfl rfl rfl rfl rfl ?_
      refine xe_s (f := (8, _, _, _)) xt_g288 rfl rfl rfl rfl rfl ?_
      refine xe_s (f := (9, _, _, _)) xt_g288 rfl rfl rfl rfl rfl ?_
      refine xe_mcv xt_g288 rfl (q := 12) rfl xk_13_182 rfl (by omega) xt_g271 (by decide) ⟨Nat.le_of_ble_eq_true rfl, Nat.le_of_ble_eq_true rfl, Nat.le_of_ble_eq_true rfl⟩ (xv_originEnd fm hmn hw h1 h2 h3) ?_
      show xe fm 288 (12, [(2, xi k), (0, .ref m), (1, xi a)], [xi (xd_oe ar a), xi k], (xo m s ar h0, n, 0, 0)) _
      refine xe_ic_ge xt_g288 rfl (t := 32) rfl (q := 15) rfl (by first | omega | exact hw.1 _ | exact hw.2 _ _) (by first | omega | exact hw.1 _ | exact hw.2 _ _) (fun hb => ?_) (fun hb => ?_)
      · exact absurd hb (by omega)
      · refine xe_s (f := (16, _, _, _)) xt_g288 rfl rfl rfl rfl rfl ?_
        refine xe_s (f := (17, _, _, _)) xt_g288 rfl rfl rfl rfl rfl ?_
        refine xe_s (f := (18, _, _, _)) xt_g288 rfl rfl rfl rfl rfl ?_
        refine xe_mcv xt_g288 rfl (q := 21) rfl xk_13_172 rfl (by omega) xt_g270 (by decide) ⟨Nat.le_of_ble_eq_true rfl, Nat.le_of_ble_eq_true rfl, Nat.le_of_ble_eq_true rfl⟩ (xv_textAt fm hmn (by omega) (by omega)) ?_
        show xe fm 288 (21, [(2, xi k), (0, .ref m), (1, xi a)], [xi (ar 4 (60 * a + k).toNat)], (xo m s ar h0, n, 0, 0)) _
        refine xe_bipush xt_g288 rfl (q := 23) rfl (by decide) (by decide) ?_
        have ek : ((k.toNat : Nat) : Int) = k := Int.toNat_of_nonneg (by omega)
        refine xe_ic_eq xt_g288 rfl (t := 32) rfl (q := 26) rfl (by first | omega | exact hw.1 _ | exact hw.2 _ _) (by first | omega | exact hw.1 _ | exact hw.2 _ _) (fun hb2 => ?_) (fun hb2 => ?_)
        · refine xe_s (f := (33, _, _, _)) xt_g288 rfl rfl rfl rfl rfl ?_
          refine xe_iret xt_g288 rfl rfl xi_int.1 ?_
          exact ⟨by rw [xd_fnd, ek, if_pos hb2], rfl⟩
        · refine xe_iinc xt_g288 rfl (q := 29) rfl rfl (by decide) (L1 := [(2, _), (0, _), (1, _)]) rfl ?_
          refine xe_s (f := (6, _, _, _)) xt_g288 rfl rfl rfl rfl rfl ?_
          have h := ih (k + 1) (by omega) (by omega) (by omega)
          rw [xd_fnd, ek, if_neg hb2]
          exact h
  exact loop _ _ hr.1 (by omega) rfl
def xd_pe (ar : Nat → Nat → Int) (a : Int) : Int := xd_fnd (fun k => ar 4 (60 * a + k).toNat) 63 (ar 5 a.toNat - xd_oe ar a).toNat (xd_oe ar a)
theorem xv_pathEnd (hmn : xo_in m n) (hw : xo_wf s ar) {a : Int} (h1 : 0 ≤ a) (h2 : a < 98) (h3 : 0 ≤ ar 5 a.toNat ∧ ar 5 a.toNat ≤ 60) : xv fm 273 m n h0 s ar [.ref m, xi a] (some (xi (xd_pe ar a))) s ar := by
  have hr := xd_hf_r (ar := ar) (a := a)
  have ho := xd_oe_r h3
  show xe fm 273 (0, [(0, .ref m), (1, xi a)], [], (xo m s ar h0, n, 0, 0)) _
  refine xe_s (f := (1, _, _, _)) xt_g273 rfl rfl rfl rfl rfl ?_
  refine xe_s (f := (2, _, _, _)) xt_g273 rfl rfl rfl rfl rfl ?_
  refine xe_mcv xt_g273 rfl (q := 5) rfl xk_13_182 rfl (by omega) xt_g271 (by decide) ⟨Nat.le_of_ble_eq_true rfl, Nat.le_of_ble_eq_true rfl, Nat.le_of_ble_eq_true rfl⟩ (xv_originEnd fm hmn hw h1 h2 h3) ?_
  show xe fm 273 (5, [(0, .ref m), (1, xi a)], [xi (xd_oe ar a)], (xo m s ar h0, n, 0, 0)) _
  refine xe_s (f := (6, [(2, _), (0, _), (1, _)], _, _)) xt_g273 rfl rfl rfl rfl rfl ?_
  have loop : ∀ (N : Nat) (k : Int), 7 ≤ k → k ≤ 61 → (ar 5 a.toNat - k).toNat = N → xe fm 273 (6, [(2, xi k), (0, .ref m), (1, xi a)], [], (xo m s ar h0, n, 0, 0)) (fun r M => r = .inl (some (xi (xd_fnd (fun k => ar 4 (60 * a + k).toNat) 63 N k))) ∧ M = (xo m s ar h0, n, 0, 0)) := by
    intro N
    induction N with
    | zero =>
      intro k k1 k2 k3
      refine xe_s (f := (7, _, _, _)) xt_g273 rfl rfl rfl rfl rfl ?_
      refine xe_s (f := (8, _, _, _)) xt_g273 rfl rfl rfl rfl rfl ?_
      refine xe_mga xt_g273 rfl (q := 11) rfl (xf_13_16 fm) (by decide) rfl (by omega) ?_
      refine xe_s (f := (12, _, _, _)) xt_g273 rfl rfl rfl rfl rfl ?_
      refine xe_mal (ok := xm_isN) (ty := .int) xt_g273 rfl (q := 13) rfl (fun _ _ => ⟨rfl, rfl, rfl, rfl⟩) rfl rfl rfl (by omega) (by omega) (by omega) (by omega) ?_
      refine xe_ic_ge xt_g273 rfl (t := 33) rfl (q := 16) rfl (by first | omega | exact hw.1 _ | exact hw.2 _ _) (by first | omega | exact hw.1 _ | exact hw.2 _ _) (fun hb => ?_) (fun hb => ?_)
      · refine xe_s (f := (34, _, _, _)) xt_g273 rfl rfl rfl rfl rfl ?_
        refine xe_iret xt_g273 rfl rfl xi_int.1 ?_
        exact ⟨rfl, rfl⟩
      · exact absurd hb (by omega)
    | succ N ih =>
      intro k k1 k2 k3
      refine xe_s (f := (7, _, _, _)) xt_g273 rfl rfl rfl rfl rfl ?_
      refine xe_s (f := (8, _, _, _)) xt_g273 rfl rfl rfl rfl rfl ?_
      refine xe_mga xt_g273 rfl (q := 11) rfl (xf_13_16 fm) (by decide) rfl (by omega) ?_
      refine xe_s (f := (12, _, _, _)) xt_g273 rfl rfl rfl rfl rfl ?_
      refine xe_mal (ok := xm_isN) (ty := .int) xt_g273 rfl (q := 13) rfl (fun _ _ => ⟨rfl, rfl, rfl, rfl⟩) rfl rfl rfl (by omega) (by omega) (by omega) (by omega) ?_
      refine xe_ic_ge xt_g273 rfl (t := 33) rfl (q := 16) rfl (by first | omega | exact hw.1 _ | exact hw.2 _ _) (by first | omega | exact hw.1 _ | exact hw.2 _ _) (fun hb => ?_) (fun hb => ?_)
      · exact absurd hb (by omega)
      · refine xe_s (f := (17, _, _, _)) xt_g273 rfl rfl rfl rfl rfl ?_
        refine xe_s (f := (18, _, _, _)) xt_g273 rfl rfl rfl rfl rfl ?_
        refine xe_s (f := (19, _, _, _)) xt_g273 rfl rfl rfl rfl rfl ?_
        refine xe_mcv xt_g273 rfl (q := 22) rfl xk_13_172 rfl (by omega) xt_g270 (by decide) ⟨Nat.le_of_ble_eq_true rfl, Nat.le_of_ble_eq_true rfl, Nat.le_of_ble_eq_true rfl⟩ (xv_textAt fm hmn (by omega) (by omega)) ?_
        show xe fm 273 (22, [(2, xi k), (0, .ref m), (1, xi a)], [xi (ar 4 (60 * a + k).toNat)], (xo m s ar h0, n, 0, 0)) _
        refine xe_bipush xt_g273 rfl (q := 24) rfl (by decide) (by decide) ?_
        have ek : ((k.toNat : Nat) : Int) = k := Int.toNat_of_nonneg (by omega)
        refine xe_ic_eq xt_g273 rfl (t := 33) rfl (q := 27) rfl (by first | omega | exact hw.1 _ | exact hw.2 _ _) (by first | omega | exact hw.1 _ | exact hw.2 _ _) (fun hb2 => ?_) (fun hb2 => ?_)
        · refine xe_s (f := (34, _, _, _)) xt_g273 rfl rfl rfl rfl rfl ?_
          refine xe_iret xt_g273 rfl rfl xi_int.1 ?_
          exact ⟨by rw [xd_fnd, ek, if_pos hb2], rfl⟩
        · refine xe_iinc xt_g273 rfl (q := 30) rfl rfl (by decide) (L1 := [(2, _), (0, _), (1, _)]) rfl ?_
          refine xe_s (f := (6, _, _, _)) xt_g273 rfl rfl rfl rfl rfl ?_
          have h := ih (k + 1) (by omega) (by omega) (by omega)
          rw [xd_fnd, ek, if_neg hb2]
          exact h
  exact loop _ _ (by omega) (by omega) rfl
def xd_fr (ar : Nat → Nat → Int) (f : Int) : Bool := decide (0 ≤ f ∧ f < 16 ∧ 0 ≤ ar 42 f.toNat)
theorem xv_isFrame (hmn : xo_in m n) (hw : xo_wf s ar) {f : Int} (hf : xr f) : xv fm 298 m n h0 s ar [.ref m, xi f] (some (xi (xb (xd_fr ar f)))) s ar := by
  show xe fm 298 (0, [(0, .ref m), (1, xi f)], [], (xo m s ar h0, n, 0, 0)) _
  have no : xd_fr ar f = false → xe fm 298 (23, [(0, .ref m), (1, xi f)], [], (xo m s ar h0, n, 0, 0)) (fun r M => r = .inl (some (xi (xb (xd_fr ar f)))) ∧ M = (xo m s ar h0, n, 0, 0)) := by
    intro h
    rw [h]
    refine xe_s (f := (24, _, xi 0 :: _, _)) xt_g298 rfl rfl rfl rfl rfl ?_
    refine xe_iret xt_g298 rfl rfl (xi_bool (by first | omega | exact xb_or _)).1 ?_
    exact ⟨rfl, rfl⟩
  refine xe_s (f := (1, _, _, _)) xt_g298 rfl rfl rfl rfl rfl ?_
  refine xe_if_lt xt_g298 rfl (t := 23) rfl (q := 4) rfl (by first | omega | exact hw.1 _ | exact hw.2 _ _) (fun hb => ?_) (fun hb => ?_)
  · exact no (decide_eq_false (by omega))
  · refine xe_s (f := (5, _, _, _)) xt_g298 rfl rfl rfl rfl rfl ?_
    refine xe_bipush xt_g298 rfl (q := 7) rfl (by decide) (by decide) ?_
    refine xe_ic_ge xt_g298 rfl (t := 23) rfl (q := 10) rfl (by first | omega | exact hw.1 _ | exact hw.2 _ _) (by first | omega | exact hw.1 _ | exact hw.2 _ _) (fun hb2 => ?_) (fun hb2 => ?_)
    · exact no (decide_eq_false (by omega))
    · refine xe_s (f := (11, _, _, _)) xt_g298 rfl rfl rfl rfl rfl ?_
      refine xe_mga xt_g298 rfl (q := 14) rfl (xf_13_84 fm) (by decide) rfl (by omega) ?_
      refine xe_s (f := (15, _, _, _)) xt_g298 rfl rfl rfl rfl rfl ?_
      refine xe_mal (ok := xm_isN) (ty := .int) xt_g298 rfl (q := 16) rfl (fun _ _ => ⟨rfl, rfl, rfl, rfl⟩) rfl rfl rfl (by omega) (by omega) (by omega) (by omega) ?_
      refine xe_if_lt xt_g298 rfl (t := 23) rfl (q := 19) rfl (by first | omega | exact hw.1 _ | exact hw.2 _ _) (fun hb3 => ?_) (fun hb3 => ?_)
      · exact no (decide_eq_false (by omega))
      · rw [show xd_fr ar f = true from decide_eq_true (by omega)]
        refine xe_s (f := (20, _, xi 1 :: _, _)) xt_g298 rfl rfl rfl rfl rfl ?_
        refine xe_s (f := (24, _, _, _)) xt_g298 rfl rfl rfl rfl rfl ?_
        refine xe_iret xt_g298 rfl rfl (xi_bool (by first | omega | exact xb_or _)).1 ?_
        exact ⟨rfl, rfl⟩
def xd_rq (ar : Nat → Nat → Int) (f : Int) : Bool := decide (0 ≤ f ∧ f < 24 ∧ 0 ≤ ar 46 f.toNat)
theorem xv_isRequest (hmn : xo_in m n) (hw : xo_wf s ar) {f : Int} (hf : xr f) : xv fm 306 m n h0 s ar [.ref m, xi f] (some (xi (xb (xd_rq ar f)))) s ar := by
  show xe fm 306 (0, [(0, .ref m), (1, xi f)], [], (xo m s ar h0, n, 0, 0)) _
  have no : xd_rq ar f = false → xe fm 306 (23, [(0, .ref m), (1, xi f)], [], (xo m s ar h0, n, 0, 0)) (fun r M => r = .inl (some (xi (xb (xd_rq ar f)))) ∧ M = (xo m s ar h0, n, 0, 0)) := by
    intro h
    rw [h]
    refine xe_s (f := (24, _, xi 0 :: _, _)) xt_g306 rfl rfl rfl rfl rfl ?_
    refine xe_iret xt_g306 rfl rfl (xi_bool (by first | omega | exact xb_or _)).1 ?_
    exact ⟨rfl, rfl⟩
  refine xe_s (f := (1, _, _, _)) xt_g306 rfl rfl rfl rfl rfl ?_
  refine xe_if_lt xt_g306 rfl (t := 23) rfl (q := 4) rfl (by first | omega | exact hw.1 _ | exact hw.2 _ _) (fun hb => ?_) (fun hb => ?_)
  · exact no (decide_eq_false (by omega))
  · refine xe_s (f := (5, _, _, _)) xt_g306 rfl rfl rfl rfl rfl ?_
    refine xe_bipush xt_g306 rfl (q := 7) rfl (by decide) (by decide) ?_
    refine xe_ic_ge xt_g306 rfl (t := 23) rfl (q := 10) rfl (by first | omega | exact hw.1 _ | exact hw.2 _ _) (by first | omega | exact hw.1 _ | exact hw.2 _ _) (fun hb2 => ?_) (fun hb2 => ?_)
    · exact no (decide_eq_false (by omega))
    · refine xe_s (f := (11, _, _, _)) xt_g306 rfl rfl rfl rfl rfl ?_
      refine xe_mga xt_g306 rfl (q := 14) rfl (xf_13_96 fm) (by decide) rfl (by omega) ?_
      refine xe_s (f := (15, _, _, _)) xt_g306 rfl rfl rfl rfl rfl ?_
      refine xe_mal (ok := xm_isN) (ty := .int) xt_g306 rfl (q := 16) rfl (fun _ _ => ⟨rfl, rfl, rfl, rfl⟩) rfl rfl rfl (by omega) (by omega) (by omega) (by omega) ?_
      refine xe_if_lt xt_g306 rfl (t := 23) rfl (q := 19) rfl (by first | omega | exact hw.1 _ | exact hw.2 _ _) (fun hb3 => ?_) (fun hb3 => ?_)
      · exact no (decide_eq_false (by omega))
      · rw [show xd_rq ar f = true from decide_eq_true (by omega)]
        refine xe_s (f := (20, _, xi 1 :: _, _)) xt_g306 rfl rfl rfl rfl rfl ?_
        refine xe_s (f := (24, _, _, _)) xt_g306 rfl rfl rfl rfl rfl ?_
        refine xe_iret xt_g306 rfl rfl (xi_bool (by first | omega | exact xb_or _)).1 ?_
        exact ⟨rfl, rfl⟩
def xd_tb (ar : Nat → Nat → Int) (f : Int) : Bool := decide (0 ≤ f ∧ f < 4 ∧ ar 40 f.toNat ≠ 0)
theorem xv_hasTab (hmn : xo_in m n) (hw : xo_wf s ar) {f : Int} (hf : xr f) : xv fm 291 m n h0 s ar [.ref m, xi f] (some (xi (xb (xd_tb ar f)))) s ar := by
  show xe fm 291 (0, [(0, .ref m), (1, xi f)], [], (xo m s ar h0, n, 0, 0)) _
  have no : xd_tb ar f = false → xe fm 291 (22, [(0, .ref m), (1, xi f)], [], (xo m s ar h0, n, 0, 0)) (fun r M => r = .inl (some (xi (xb (xd_tb ar f)))) ∧ M = (xo m s ar h0, n, 0, 0)) := by
    intro h
    rw [h]
    refine xe_s (f := (23, _, xi 0 :: _, _)) xt_g291 rfl rfl rfl rfl rfl ?_
    refine xe_iret xt_g291 rfl rfl (xi_bool (by first | omega | exact xb_or _)).1 ?_
    exact ⟨rfl, rfl⟩
  refine xe_s (f := (1, _, _, _)) xt_g291 rfl rfl rfl rfl rfl ?_
  refine xe_if_lt xt_g291 rfl (t := 22) rfl (q := 4) rfl (by first | omega | exact hw.1 _ | exact hw.2 _ _) (fun hb => ?_) (fun hb => ?_)
  · exact no (decide_eq_false (by omega))
  · refine xe_s (f := (5, _, _, _)) xt_g291 rfl rfl rfl rfl rfl ?_
    refine xe_s (f := (6, _, xi 4 :: _, _)) xt_g291 rfl rfl rfl rfl rfl ?_
    refine xe_ic_ge xt_g291 rfl (t := 22) rfl (q := 9) rfl (by first | omega | exact hw.1 _ | exact hw.2 _ _) (by first | omega | exact hw.1 _ | exact hw.2 _ _) (fun hb2 => ?_) (fun hb2 => ?_)
    · exact no (decide_eq_false (by omega))
    · refine xe_s (f := (10, _, _, _)) xt_g291 rfl rfl rfl rfl rfl ?_
      refine xe_mga xt_g291 rfl (q := 13) rfl (xf_13_77 fm) (by decide) rfl (by omega) ?_
      refine xe_s (f := (14, _, _, _)) xt_g291 rfl rfl rfl rfl rfl ?_
      refine xe_mal (ok := xm_isB) (ty := .boolean) xt_g291 rfl (q := 15) rfl (fun _ _ => ⟨rfl, rfl, rfl, rfl⟩) rfl rfl rfl (by omega) (by omega) (by omega) (by omega) ?_
      refine xe_if_eq xt_g291 rfl (t := 22) rfl (q := 18) rfl (by first | omega | exact hw.1 _ | exact hw.2 _ _) (fun hb3 => ?_) (fun hb3 => ?_)
      · exact no (decide_eq_false (by omega))
      · rw [show xd_tb ar f = true from decide_eq_true (by omega)]
        refine xe_s (f := (19, _, xi 1 :: _, _)) xt_g291 rfl rfl rfl rfl rfl ?_
        refine xe_s (f := (23, _, _, _)) xt_g291 rfl rfl rfl rfl rfl ?_
        refine xe_iret xt_g291 rfl rfl (xi_bool (by first | omega | exact xb_or _)).1 ?_
        exact ⟨rfl, rfl⟩
theorem xv_thrown (hmn : xo_in m n) : xv fm 244 m n h0 s ar [.ref m] (some (xi (s 0))) s ar := by
  show xe fm 244 (0, [(0, .ref m)], [], (xo m s ar h0, n, 0, 0)) _
  refine xe_s (f := (1, _, _, _)) xt_g244 rfl rfl rfl rfl rfl ?_
  refine xe_mgs xt_g244 rfl (q := 4) rfl (xf_13_146 fm) (by decide) rfl (by omega) ?_
  refine xe_iret xt_g244 rfl rfl xi_int.1 ?_
  exact ⟨rfl, rfl⟩
theorem xv_make (hmn : xo_in m n) {x : Int} (hk : 0 ≤ s 62 ∧ s 62 < 1400) : xv fm 284 m n h0 s ar [.ref m, xi x] none (xo_u s 62 (s 62 + 1)) (xo_w ar 61 (s 62).toNat x) := by
  show xe fm 284 (0, [(0, .ref m), (1, xi x)], [], (xo m s ar h0, n, 0, 0)) _
  refine xe_s (f := (1, _, _, _)) xt_g284 rfl rfl rfl rfl rfl ?_
  refine xe_mga xt_g284 rfl (q := 4) rfl (xf_13_137 fm) (by decide) rfl (by omega) ?_
  refine xe_s (f := (5, _, _, _)) xt_g284 rfl rfl rfl rfl rfl ?_
  refine xe_mgs xt_g284 rfl (q := 8) rfl (xf_13_363 fm) (by decide) rfl (by omega) ?_
  refine xe_s (f := (9, _, _, _)) xt_g284 rfl rfl rfl rfl rfl ?_
  refine xe_mas (ok := xm_isN) (ty := .int) xt_g284 rfl (q := 10) rfl (fun _ _ => ⟨rfl, rfl, rfl, rfl⟩) rfl rfl rfl (by omega) (by omega) (by omega) (by omega) (by omega) rfl ?_
  refine xe_s (f := (11, _, _, _)) xt_g284 rfl rfl rfl rfl rfl ?_
  refine xe_s (f := (12, _, _, _)) xt_g284 rfl rfl rfl rfl rfl ?_
  refine xe_mgs xt_g284 rfl (q := 15) rfl (xf_13_363 fm) (by decide) rfl (by omega) ?_
  refine xe_s (f := (16, _, xi 1 :: _, _)) xt_g284 rfl rfl rfl rfl rfl ?_
  refine xe_iadd xt_g284 rfl (q := 17) rfl ?_
  refine xe_mps xt_g284 rfl (q := 20) rfl (xf_13_363 fm) (by decide) rfl (by omega) (by omega) xi_int (Or.inl rfl) ?_
  refine xe_ret xt_g284 rfl rfl ?_
  exact ⟨rfl, rfl⟩
def xd_over (s : Nat → Int) (ar : Nat → Nat → Int) (i : Int) : Bool := decide (0 ≤ ar 28 i.toNat ∧ ar 28 i.toNat ≤ s 18)
theorem xv_isOver (hmn : xo_in m n) (hw : xo_wf s ar) {i : Int} (h1 : 0 ≤ i ∧ i < 42) : xv fm 287 m n h0 s ar [.ref m, xi i] (some (xi (xb (xd_over s ar i)))) s ar := by
  show xe fm 287 (0, [(0, .ref m), (1, xi i)], [], (xo m s ar h0, n, 0, 0)) _
  have no : xd_over s ar i = false → xe fm 287 (26, [(0, .ref m), (1, xi i)], [], (xo m s ar h0, n, 0, 0)) (fun r M => r = .inl (some (xi (xb (xd_over s ar i)))) ∧ M = (xo m s ar h0, n, 0, 0)) := by
    intro h
    rw [h]
    refine xe_s (f := (27, _, xi 0 :: _, _)) xt_g287 rfl rfl rfl rfl rfl ?_
    refine xe_iret xt_g287 rfl rfl (xi_bool (by first | omega | exact xb_or _)).1 ?_
    exact ⟨rfl, rfl⟩
  refine xe_s (f := (1, _, _, _)) xt_g287 rfl rfl rfl rfl rfl ?_
  refine xe_mga xt_g287 rfl (q := 4) rfl (xf_13_61 fm) (by decide) rfl (by omega) ?_
  refine xe_s (f := (5, _, _, _)) xt_g287 rfl rfl rfl rfl rfl ?_
  refine xe_mal (ok := xm_isN) (ty := .int) xt_g287 rfl (q := 6) rfl (fun _ _ => ⟨rfl, rfl, rfl, rfl⟩) rfl rfl rfl (by omega) (by omega) (by omega) (by omega) ?_
  refine xe_if_lt xt_g287 rfl (t := 26) rfl (q := 9) rfl (by first | omega | exact hw.1 _ | exact hw.2 _ _) (fun hb => ?_) (fun hb => ?_)
  · exact no (decide_eq_false (by omega))
  · refine xe_s (f := (10, _, _, _)) xt_g287 rfl rfl rfl rfl rfl ?_
    refine xe_mga xt_g287 rfl (q := 13) rfl (xf_13_61 fm) (by decide) rfl (by omega) ?_
    refine xe_s (f := (14, _, _, _)) xt_g287 rfl rfl rfl rfl rfl ?_
    refine xe_mal (ok := xm_isN) (ty := .int) xt_g287 rfl (q := 15) rfl (fun _ _ => ⟨rfl, rfl, rfl, rfl⟩) rfl rfl rfl (by omega) (by omega) (by omega) (by omega) ?_
    refine xe_s (f := (16, _, _, _)) xt_g287 rfl rfl rfl rfl rfl ?_
    refine xe_mgs xt_g287 rfl (q := 19) rfl (xf_13_260 fm) (by decide) rfl (by omega) ?_
    refine xe_ic_gt xt_g287 rfl (t := 26) rfl (q := 22) rfl (by first | omega | exact hw.1 _ | exact hw.2 _ _) (by first | omega | exact hw.1 _ | exact hw.2 _ _) (fun hb2 => ?_) (fun hb2 => ?_)
    · exact no (decide_eq_false (by omega))
    · rw [show xd_over s ar i = true from decide_eq_true (by omega)]
      refine xe_s (f := (23, _, xi 1 :: _, _)) xt_g287 rfl rfl rfl rfl rfl ?_
      refine xe_s (f := (27, _, _, _)) xt_g287 rfl rfl rfl rfl rfl ?_
      refine xe_iret xt_g287 rfl rfl (xi_bool (by first | omega | exact xb_or _)).1 ?_
      exact ⟨rfl, rfl⟩
theorem xv_clear (hmn : xo_in m n) : xv fm 346 m n h0 s ar [.ref m] none (xo_u (xo_u s 0 0) 55 0) ar := by
  show xe fm 346 (0, [(0, .ref m)], [], (xo m s ar h0, n, 0, 0)) _
  refine xe_s (f := (1, _, _, _)) xt_g346 rfl rfl rfl rfl rfl ?_
  refine xe_s (f := (2, _, xi 0 :: _, _)) xt_g346 rfl rfl rfl rfl rfl ?_
  refine xe_mps xt_g346 rfl (q := 5) rfl (xf_13_146 fm) (by decide) rfl (by omega) (by omega) xi_int (Or.inl rfl) ?_
  refine xe_s (f := (6, _, _, _)) xt_g346 rfl rfl rfl rfl rfl ?_
  refine xe_s (f := (7, _, xi 0 :: _, _)) xt_g346 rfl rfl rfl rfl rfl ?_
  refine xe_mps xt_g346 rfl (q := 10) rfl (xf_13_373 fm) (by decide) rfl (by omega) (by omega) xi_int (Or.inl rfl) ?_
  refine xe_ret xt_g346 rfl rfl ?_
  exact ⟨rfl, rfl⟩
theorem xv_shown (hmn : xo_in m n) (hw : xo_wf s ar) {k : Int} (hk : xr k) (h6 : 0 ≤ s 64 ∧ s 64 ≤ 1400) : xv fm 347 m n h0 s ar [.ref m, xi k] (some (xi (if 0 ≤ k ∧ k < s 64 then ar 63 k.toNat else -1))) (xo_u s 0 0) ar := by
  show xe fm 347 (0, [(0, .ref m), (1, xi k)], [], (xo m s ar h0, n, 0, 0)) _
  have no : ¬ (0 ≤ k ∧ k < s 64) → xe fm 347 (17, [(0, .ref m), (1, xi k)], [], (xo m (xo_u s 0 0) ar h0, n, 0, 0)) (fun r M => r = .inl (some (xi (if 0 ≤ k ∧ k < s 64 then ar 63 k.toNat else -1))) ∧ M = (xo m (xo_u s 0 0) ar h0, n, 0, 0)) := by
    intro h
    rw [if_neg h]
    refine xe_s (f := (18, _, xi (-1) :: _, _)) xt_g347 rfl rfl rfl rfl rfl ?_
    refine xe_s (f := (27, _, _, _)) xt_g347 rfl rfl rfl rfl rfl ?_
    refine xe_iret xt_g347 rfl rfl xi_int.1 ?_
    exact ⟨rfl, rfl⟩
  refine xe_s (f := (1, _, _, _)) xt_g347 rfl rfl rfl rfl rfl ?_
  refine xe_s (f := (2, _, xi 0 :: _, _)) xt_g347 rfl rfl rfl rfl rfl ?_
  refine xe_mps xt_g347 rfl (q := 5) rfl (xf_13_146 fm) (by decide) rfl (by omega) (by omega) xi_int (Or.inl rfl) ?_
  refine xe_s (f := (6, _, _, _)) xt_g347 rfl rfl rfl rfl rfl ?_
  refine xe_if_lt xt_g347 rfl (t := 17) rfl (q := 9) rfl (by first | omega | exact hw.1 _ | exact hw.2 _ _) (fun hb => ?_) (fun hb => ?_)
  · exact no (by omega)
  · refine xe_s (f := (10, _, _, _)) xt_g347 rfl rfl rfl rfl rfl ?_
    refine xe_s (f := (11, _, _, _)) xt_g347 rfl rfl rfl rfl rfl ?_
    refine xe_mgs xt_g347 rfl (q := 14) rfl (xf_13_455 fm) (by decide) rfl (by omega) ?_
    rw [xo_uN (by decide)]
    refine xe_ic_lt xt_g347 rfl (t := 21) rfl (q := 17) rfl (by first | omega | exact hw.1 _ | exact hw.2 _ _) (by first | omega | exact hw.1 _ | exact hw.2 _ _) (fun hb2 => ?_) (fun hb2 => ?_)
    · rw [if_pos (by omega)]
      refine xe_s (f := (22, _, _, _)) xt_g347 rfl rfl rfl rfl rfl ?_
      refine xe_mga xt_g347 rfl (q := 25) rfl (xf_13_140 fm) (by decide) rfl (by omega) ?_
      refine xe_s (f := (26, _, _, _)) xt_g347 rfl rfl rfl rfl rfl ?_
      refine xe_mal (ok := xm_isN) (ty := .int) xt_g347 rfl (q := 27) rfl (fun _ _ => ⟨rfl, rfl, rfl, rfl⟩) rfl rfl rfl (by omega) (by omega) (by omega) (by omega) ?_
      refine xe_iret xt_g347 rfl rfl xi_int.1 ?_
      exact ⟨rfl, rfl⟩
    · exact no (by omega)
end XM3
