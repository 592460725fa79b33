/-! the reference: places that are free, texts of one origin, copies -/
def xd_first (p : Int → Bool) : Nat → Int → Int
  | 0, _ => -1
  | n + 1, k => if p k = true then k else xd_first p n (k + 1)
def xd_all (p : Int → Bool) : Nat → Int → Bool
  | 0, _ => true
  | n + 1, k => p k && xd_all p n (k + 1)
section XM4
variable (fm : Value) {m n : Nat} {h0 : xm_H} {s : Nat → Int} {ar : Nat → Nat → Int}
def xd_ff (ar : Nat → Nat → Int) : Int := xd_first (fun f => decide (ar 42 f.toNat < 0)) 16 0
theorem xv_freeFrame (hmn : xo_in m n) (hw : xo_wf s ar) : xv fm 275 m n h0 s ar [.ref m] (some (xi (xd_ff ar))) s ar := by
  show xe fm 275 (0, [(0, .ref m)], [], (xo m s ar h0, n, 0, 0)) _
  refine xe_s (f := (1, _, xi 0 :: _, _)) xt_g275 rfl rfl rfl rfl rfl ?_
  refine xe_s (f := (2, [(1, _), (0, _)], _, _)) xt_g275 rfl rfl rfl rfl rfl ?_
  have loop : ∀ (N : Nat) (k : Int), 0 ≤ k → k + N = 16 → xe fm 275 (2, [(1, xi k), (0, .ref m)], [], (xo m s ar h0, n, 0, 0)) (fun r M => r = .inl (some (xi (xd_first (fun f => decide (ar 42 f.toNat < 0)) N k))) ∧ M = (xo m s ar h0, n, 0, 0)) := by
    intro N
    induction N with
    | zero =>
      intro k k1 k2
      refine xe_s (f := (3, _, _, _)) xt_g275 rfl rfl rfl rfl rfl ?_
      refine xe_bipush xt_g275 rfl (q := 5) rfl (by decide) (by decide) ?_
      refine xe_ic_ge xt_g275 rfl (t := 25) rfl (q := 8) rfl (by first | omega | exact hw.1 _ | exact hw.2 _ _) (by first | omega | exact hw.1 _ | exact hw.2 _ _) (fun hb => ?_) (fun hb => ?_)
      · refine xe_s (f := (26, _, xi (-1) :: _, _)) xt_g275 rfl rfl rfl rfl rfl ?_
        refine xe_iret xt_g275 rfl rfl xi_int.1 ?_
        exact ⟨rfl, rfl⟩
      · exact absurd hb (by omega)
    | succ N ih =>
      intro k k1 k2
      refine xe_s (f := (3, _, _, _)) xt_g275 rfl rfl rfl rfl rfl ?_
      refine xe_bipush xt_g275 rfl (q := 5) rfl (by decide) (by decide) ?_
      refine xe_ic_ge xt_g275 rfl (t := 25) rfl (q := 8) rfl (by first | omega | exact hw.1 _ | exact hw.2 _ _) (by first | omega | exact hw.1 _ | exact hw.2 _ _) (fun hb => ?_) (fun hb => ?_)
      · exact absurd hb (by omega)
      · refine xe_s (f := (9, _, _, _)) xt_g275 rfl rfl rfl rfl rfl ?_
        refine xe_mga xt_g275 rfl (q := 12) rfl (xf_13_84 fm) (by decide) rfl (by omega) ?_
        refine xe_s (f := (13, _, _, _)) xt_g275 rfl rfl rfl rfl rfl ?_
        refine xe_mal (ok := xm_isN) (ty := .int) xt_g275 rfl (q := 14) rfl (fun _ _ => ⟨rfl, rfl, rfl, rfl⟩) rfl rfl rfl (by omega) (by omega) (by omega) (by omega) ?_
        refine xe_if_ge xt_g275 rfl (t := 19) rfl (q := 17) rfl (by first | omega | exact hw.1 _ | exact hw.2 _ _) (fun hb2 => ?_) (fun hb2 => ?_)
        · refine xe_iinc xt_g275 rfl (q := 22) rfl rfl (by decide) (L1 := [(1, _), (0, _)]) rfl ?_
          refine xe_s (f := (2, _, _, _)) xt_g275 rfl rfl rfl rfl rfl ?_
          rw [xd_first, if_neg (by simp; omega)]
          exact ih (k + 1) (by omega) (by omega)
        · refine xe_s (f := (18, _, _, _)) xt_g275 rfl rfl rfl rfl rfl ?_
          refine xe_iret xt_g275 rfl rfl xi_int.1 ?_
          exact ⟨by rw [xd_first, if_pos (by simp; omega)], rfl⟩
  exact loop 16 0 (by omega) (by omega)
def xd_fq (ar : Nat → Nat → Int) : Int := xd_first (fun f => decide (ar 46 f.toNat < 0)) 24 0
theorem xv_freeRequest (hmn : xo_in m n) (hw : xo_wf s ar) : xv fm 276 m n h0 s ar [.ref m] (some (xi (xd_fq ar))) s ar := by
  show xe fm 276 (0, [(0, .ref m)], [], (xo m s ar h0, n, 0, 0)) _
  refine xe_s (f := (1, _, xi 0 :: _, _)) xt_g276 rfl rfl rfl rfl rfl ?_
  refine xe_s (f := (2, [(1, _), (0, _)], _, _)) xt_g276 rfl rfl rfl rfl rfl ?_
  have loop : ∀ (N : Nat) (k : Int), 0 ≤ k → k + N = 24 → xe fm 276 (2, [(1, xi k), (0, .ref m)], [], (xo m s ar h0, n, 0, 0)) (fun r M => r = .inl (some (xi (xd_first (fun f => decide (ar 46 f.toNat < 0)) N k))) ∧ M = (xo m s ar h0, n, 0, 0)) := by
    intro N
    induction N with
    | zero =>
      intro k k1 k2
      refine xe_s (f := (3, _, _, _)) xt_g276 rfl rfl rfl rfl rfl ?_
      refine xe_bipush xt_g276 rfl (q := 5) rfl (by decide) (by decide) ?_
      refine xe_ic_ge xt_g276 rfl (t := 25) rfl (q := 8) rfl (by first | omega | exact hw.1 _ | exact hw.2 _ _) (by first | omega | exact hw.1 _ | exact hw.2 _ _) (fun hb => ?_) (fun hb => ?_)
      · refine xe_s (f := (26, _, xi (-1) :: _, _)) xt_g276 rfl rfl rfl rfl rfl ?_
        refine xe_iret xt_g276 rfl rfl xi_int.1 ?_
        exact ⟨rfl, rfl⟩
      · exact absurd hb (by omega)
    | succ N ih =>
      intro k k1 k2
      refine xe_s (f := (3, _, _, _)) xt_g276 rfl rfl rfl rfl rfl ?_
      refine xe_bipush xt_g276 rfl (q := 5) rfl (by decide) (by decide) ?_
      refine xe_ic_ge xt_g276 rfl (t := 25) rfl (q := 8) rfl (by first | omega | exact hw.1 _ | exact hw.2 _ _) (by first | omega | exact hw.1 _ | exact hw.2 _ _) (fun hb => ?_) (fun hb => ?_)
      · exact absurd hb (by omega)
      · refine xe_s (f := (9, _, _, _)) xt_g276 rfl rfl rfl rfl rfl ?_
        refine xe_mga xt_g276 rfl (q := 12) rfl (xf_13_96 fm) (by decide) rfl (by omega) ?_
        refine xe_s (f := (13, _, _, _)) xt_g276 rfl rfl rfl rfl rfl ?_
        refine xe_mal (ok := xm_isN) (ty := .int) xt_g276 rfl (q := 14) rfl (fun _ _ => ⟨rfl, rfl, rfl, rfl⟩) rfl rfl rfl (by omega) (by omega) (by omega) (by omega) ?_
        refine xe_if_ge xt_g276 rfl (t := 19) rfl (q := 17) rfl (by first | omega | exact hw.1 _ | exact hw.2 _ _) (fun hb2 => ?_) (fun hb2 => ?_)
        · refine xe_iinc xt_g276 rfl (q := 22) rfl rfl (by decide) (L1 := [(1, _), (0, _)]) rfl ?_
          refine xe_s (f := (2, _, _, _)) xt_g276 rfl rfl rfl rfl rfl ?_
          rw [xd_first, if_neg (by simp; omega)]
          exact ih (k + 1) (by omega) (by omega)
        · refine xe_s (f := (18, _, _, _)) xt_g276 rfl rfl rfl rfl rfl ?_
          refine xe_iret xt_g276 rfl rfl xi_int.1 ?_
          exact ⟨by rw [xd_first, if_pos (by simp; omega)], rfl⟩
  exact loop 24 0 (by omega) (by omega)
def xd_nv (ar : Nat → Nat → Int) (f : Int) : Int := xd_first (fun r => decide (ar 46 r.toNat = f ∧ ar 47 r.toNat = 0)) 24 0
theorem xv_navigationOf (hmn : xo_in m n) (hw : xo_wf s ar) {f : Int} (hf : xr f) : xv fm 279 m n h0 s ar [.ref m, xi f] (some (xi (xd_nv ar f))) s ar := by
  show xe fm 279 (0, [(0, .ref m), (1, xi f)], [], (xo m s ar h0, n, 0, 0)) _
  refine xe_s (f := (1, _, xi 0 :: _, _)) xt_g279 rfl rfl rfl rfl rfl ?_
  refine xe_s (f := (2, [(2, _), (0, _), (1, _)], _, _)) xt_g279 rfl rfl rfl rfl rfl ?_
  have loop : ∀ (N : Nat) (k : Int), 0 ≤ k → k + N = 24 → xe fm 279 (2, [(2, xi k), (0, .ref m), (1, xi f)], [], (xo m s ar h0, n, 0, 0)) (fun r M => r = .inl (some (xi (xd_first (fun r => decide (ar 46 r.toNat = f ∧ ar 47 r.toNat = 0)) N k))) ∧ M = (xo m s ar h0, n, 0, 0)) := by
    intro N
    induction N with
    | zero =>
      intro k k1 k2
      refine xe_s (f := (3, _, _, _)) xt_g279 rfl rfl rfl rfl rfl ?_
      refine xe_bipush xt_g279 rfl (q := 5) rfl (by decide) (by decide) ?_
      refine xe_ic_ge xt_g279 rfl (t := 35) rfl (q := 8) rfl (by first | omega | exact hw.1 _ | exact hw.2 _ _) (by first | omega | exact hw.1 _ | exact hw.2 _ _) (fun hb => ?_) (fun hb => ?_)
      · refine xe_s (f := (36, _, xi (-1) :: _, _)) xt_g279 rfl rfl rfl rfl rfl ?_
        refine xe_iret xt_g279 rfl rfl xi_int.1 ?_
        exact ⟨rfl, rfl⟩
      · exact absurd hb (by omega)
    | succ N ih =>
      intro k k1 k2
      have next : ¬ (ar 46 k.toNat = f ∧ ar 47 k.toNat = 0) → xe fm 279 (29, [(2, xi k), (0, .ref m), (1, xi f)], [], (xo m s ar h0, n, 0, 0)) (fun r M => r = .inl (some (xi (xd_first (fun r => decide (ar 46 r.toNat = f ∧ ar 47 r.toNat = 0)) (N + 1) k))) ∧ M = (xo m s ar h0, n, 0, 0)) := by
        intro h
        refine xe_iinc xt_g279 rfl (q := 32) rfl rfl (by decide) (L1 := [(2, _), (0, _), (1, _)]) rfl ?_
        refine xe_s (f := (2, _, _, _)) xt_g279 rfl rfl rfl rfl rfl ?_
        rw [xd_first, if_neg (fun e => h (of_decide_eq_true e))]
        exact ih (k + 1) (by omega) (by omega)
      refine xe_s (f := (3, _, _, _)) xt_g279 rfl rfl rfl rfl rfl ?_
      refine xe_bipush xt_g279 rfl (q := 5) rfl (by decide) (by decide) ?_
      refine xe_ic_ge xt_g279 rfl (t := 35) rfl (q := 8) rfl (by first | omega | exact hw.1 _ | exact hw.2 _ _) (by first | omega | exact hw.1 _ | exact hw.2 _ _) (fun hb => ?_) (fun hb => ?_)
      · exact absurd hb (by omega)
      · refine xe_s (f := (9, _, _, _)) xt_g279 rfl rfl rfl rfl rfl ?_
        refine xe_mga xt_g279 rfl (q := 12) rfl (xf_13_96 fm) (by decide) rfl (by omega) ?_
        refine xe_s (f := (13, _, _, _)) xt_g279 rfl rfl rfl rfl rfl ?_
        refine xe_mal (ok := xm_isN) (ty := .int) xt_g279 rfl (q := 14) rfl (fun _ _ => ⟨rfl, rfl, rfl, rfl⟩) rfl rfl rfl (by omega) (by omega) (by omega) (by omega) ?_
        refine xe_s (f := (15, _, _, _)) xt_g279 rfl rfl rfl rfl rfl ?_
        refine xe_ic_ne xt_g279 rfl (t := 29) rfl (q := 18) rfl (by first | omega | exact hw.1 _ | exact hw.2 _ _) (by first | omega | exact hw.1 _ | exact hw.2 _ _) (fun hb2 => ?_) (fun hb2 => ?_)
        · exact next (fun e => hb2 e.1)
        · refine xe_s (f := (19, _, _, _)) xt_g279 rfl rfl rfl rfl rfl ?_
          refine xe_mga xt_g279 rfl (q := 22) rfl (xf_13_99 fm) (by decide) rfl (by omega) ?_
          refine xe_s (f := (23, _, _, _)) xt_g279 rfl rfl rfl rfl rfl ?_
          refine xe_mal (ok := xm_isN) (ty := .int) xt_g279 rfl (q := 24) rfl (fun _ _ => ⟨rfl, rfl, rfl, rfl⟩) rfl rfl rfl (by omega) (by omega) (by omega) (by omega) ?_
          refine xe_if_ne xt_g279 rfl (t := 29) rfl (q := 27) rfl (by first | omega | exact hw.1 _ | exact hw.2 _ _) (fun hb3 => ?_) (fun hb3 => ?_)
          · exact next (fun e => hb3 e.2)
          · refine xe_s (f := (28, _, _, _)) xt_g279 rfl rfl rfl rfl rfl ?_
            refine xe_iret xt_g279 rfl rfl xi_int.1 ?_
            exact ⟨by rw [xd_first, if_pos (decide_eq_true ⟨Decidable.not_not.mp hb2, Decidable.not_not.mp hb3⟩)], rfl⟩
  exact loop 24 0 (by omega) (by omega)
def xd_top (ar : Nat → Nat → Int) (t : Int) : Int := xd_first (fun f => decide (ar 42 f.toNat = t ∧ ar 43 f.toNat < 0)) 16 0
theorem xv_topOf (hmn : xo_in m n) (hw : xo_wf s ar) {f : Int} (hf : xr f) : xv fm 293 m n h0 s ar [.ref m, xi f] (some (xi (xd_top ar f))) s ar := by
  show xe fm 293 (0, [(0, .ref m), (1, xi f)], [], (xo m s ar h0, n, 0, 0)) _
  refine xe_s (f := (1, _, xi 0 :: _, _)) xt_g293 rfl rfl rfl rfl rfl ?_
  refine xe_s (f := (2, [(2, _), (0, _), (1, _)], _, _)) xt_g293 rfl rfl rfl rfl rfl ?_
  have loop : ∀ (N : Nat) (k : Int), 0 ≤ k → k + N = 16 → xe fm 293 (2, [(2, xi k), (0, .ref m), (1, xi f)], [], (xo m s ar h0, n, 0, 0)) (fun r M => r = .inl (some (xi (xd_first (fun r => decide (ar 42 r.toNat = f ∧ ar 43 r.toNat < 0)) N k))) ∧ M = (xo m s ar h0, n, 0, 0)) := by
    intro N
    induction N with
    | zero =>
      intro k k1 k2
      refine xe_s (f := (3, _, _, _)) xt_g293 rfl rfl rfl rfl rfl ?_
      refine xe_bipush xt_g293 rfl (q := 5) rfl (by decide) (by decide) ?_
      refine xe_ic_ge xt_g293 rfl (t := 35) rfl (q := 8) rfl (by first | omega | exact hw.1 _ | exact hw.2 _ _) (by first | omega | exact hw.1 _ | exact hw.2 _ _) (fun hb => ?_) (fun hb => ?_)
      · refine xe_s (f := (36, _, xi (-1) :: _, _)) xt_g293 rfl rfl rfl rfl rfl ?_
        refine xe_iret xt_g293 rfl rfl xi_int.1 ?_
        exact ⟨rfl, rfl⟩
      · exact absurd hb (by omega)
    | succ N ih =>
      intro k k1 k2
      have next : ¬ (ar 42 k.toNat = f ∧ ar 43 k.toNat < 0) → xe fm 293 (29, [(2, xi k), (0, .ref m), (1, xi f)], [], (xo m s ar h0, n, 0, 0)) (fun r M => r = .inl (some (xi (xd_first (fun r => decide (ar 42 r.toNat = f ∧ ar 43 r.toNat < 0)) (N + 1) k))) ∧ M = (xo m s ar h0, n, 0, 0)) := by
        intro h
        refine xe_iinc xt_g293 rfl (q := 32) rfl rfl (by decide) (L1 := [(2, _), (0, _), (1, _)]) rfl ?_
        refine xe_s (f := (2, _, _, _)) xt_g293 rfl rfl rfl rfl rfl ?_
        rw [xd_first, if_neg (fun e => h (of_decide_eq_true e))]
        exact ih (k + 1) (by omega) (by omega)
      refine xe_s (f := (3, _, _, _)) xt_g293 rfl rfl rfl rfl rfl ?_
      refine xe_bipush xt_g293 rfl (q := 5) rfl (by decide) (by decide) ?_
      refine xe_ic_ge xt_g293 rfl (t := 35) rfl (q := 8) rfl (by first | omega | exact hw.1 _ | exact hw.2 _ _) (by first | omega | exact hw.1 _ | exact hw.2 _ _) (fun hb => ?_) (fun hb => ?_)
      · exact absurd hb (by omega)
      · refine xe_s (f := (9, _, _, _)) xt_g293 rfl rfl rfl rfl rfl ?_
        refine xe_mga xt_g293 rfl (q := 12) rfl (xf_13_84 fm) (by decide) rfl (by omega) ?_
        refine xe_s (f := (13, _, _, _)) xt_g293 rfl rfl rfl rfl rfl ?_
        refine xe_mal (ok := xm_isN) (ty := .int) xt_g293 rfl (q := 14) rfl (fun _ _ => ⟨rfl, rfl, rfl, rfl⟩) rfl rfl rfl (by omega) (by omega) (by omega) (by omega) ?_
        refine xe_s (f := (15, _, _, _)) xt_g293 rfl rfl rfl rfl rfl ?_
        refine xe_ic_ne xt_g293 rfl (t := 29) rfl (q := 18) rfl (by first | omega | exact hw.1 _ | exact hw.2 _ _) (by first | omega | exact hw.1 _ | exact hw.2 _ _) (fun hb2 => ?_) (fun hb2 => ?_)
        · exact next (fun e => hb2 e.1)
        · refine xe_s (f := (19, _, _, _)) xt_g293 rfl rfl rfl rfl rfl ?_
          refine xe_mga xt_g293 rfl (q := 22) rfl (xf_13_87 fm) (by decide) rfl (by omega) ?_
          refine xe_s (f := (23, _, _, _)) xt_g293 rfl rfl rfl rfl rfl ?_
          refine xe_mal (ok := xm_isN) (ty := .int) xt_g293 rfl (q := 24) rfl (fun _ _ => ⟨rfl, rfl, rfl, rfl⟩) rfl rfl rfl (by omega) (by omega) (by omega) (by omega) ?_
          refine xe_if_ge xt_g293 rfl (t := 29) rfl (q := 27) rfl (by first | omega | exact hw.1 _ | exact hw.2 _ _) (fun hb3 => ?_) (fun hb3 => ?_)
          · exact next (fun e => absurd e.2 (by omega))
          · refine xe_s (f := (28, _, _, _)) xt_g293 rfl rfl rfl rfl rfl ?_
            refine xe_iret xt_g293 rfl rfl xi_int.1 ?_
            exact ⟨by rw [xd_first, if_pos (decide_eq_true ⟨Decidable.not_not.mp hb2, by omega⟩)], rfl⟩
  exact loop 16 0 (by omega) (by omega)
def xd_oo (ar : Nat → Nat → Int) (a b : Int) : Bool := decide (xd_oe ar a = xd_oe ar b) && xd_all (fun k => decide (ar 4 (60 * a + k).toNat = ar 4 (60 * b + k).toNat)) (xd_oe ar a).toNat 0
theorem xv_isOfOrigin (hmn : xo_in m n) (hw : xo_wf s ar) {a b : Int} (h1 : 0 ≤ a) (h2 : a < 98) (h3 : 0 ≤ ar 5 a.toNat ∧ ar 5 a.toNat ≤ 60) (g1 : 0 ≤ b) (g2 : b < 98) (g3 : 0 ≤ ar 5 b.toNat ∧ ar 5 b.toNat ≤ 60) : xv fm 303 m n h0 s ar [.ref m, xi a, xi b] (some (xi (xb (xd_oo ar a b)))) s ar := by
  have hr := xd_hf_r (ar := ar) (a := a)
  have ho := xd_oe_r h3
  have hr' := xd_hf_r (ar := ar) (a := b)
  have ho' := xd_oe_r g3
  show xe fm 303 (0, [(0, .ref m), (1, xi a), (2, xi b)], [], (xo m s ar h0, n, 0, 0)) _
  refine xe_s (f := (1, _, _, _)) xt_g303 rfl rfl rfl rfl rfl ?_
  refine xe_s (f := (2, _, _, _)) xt_g303 rfl rfl rfl rfl rfl ?_
  refine xe_mcv xt_g303 rfl (q := 5) rfl xk_13_182 rfl (by omega) xt_g271 (by decide) ⟨Nat.le_of_ble_eq_true rfl, Nat.le_of_ble_eq_true rfl, Nat.le_of_ble_eq_true rfl⟩ (xv_originEnd fm hmn hw h1 h2 h3) ?_
  show xe fm 303 (5, [(0, .ref m), (1, xi a), (2, xi b)], [xi (xd_oe ar a)], (xo m s ar h0, n, 0, 0)) _
  refine xe_s (f := (6, [(3, _), (0, _), (1, _), (2, _)], _, _)) xt_g303 rfl rfl rfl rfl rfl ?_
  refine xe_s (f := (7, _, _, _)) xt_g303 rfl rfl rfl rfl rfl ?_
  refine xe_s (f := (8, _, _, _)) xt_g303 rfl rfl rfl rfl rfl ?_
  refine xe_s (f := (9, _, _, _)) xt_g303 rfl rfl rfl rfl rfl ?_
  refine xe_mcv xt_g303 rfl (q := 12) rfl xk_13_182 rfl (by omega) xt_g271 (by decide) ⟨Nat.le_of_ble_eq_true rfl, Nat.le_of_ble_eq_true rfl, Nat.le_of_ble_eq_true rfl⟩ (xv_originEnd fm hmn hw g1 g2 g3) ?_
  show xe fm 303 (12, [(3, xi (xd_oe ar a)), (0, .ref m), (1, xi a), (2, xi b)], [xi (xd_oe ar b), xi (xd_oe ar a)], (xo m s ar h0, n, 0, 0)) _
  have loop : ∀ (N : Nat) (k : Int) (same : Bool), 0 ≤ k → (xd_oe ar a - k).toNat = N → k ≤ 60 → xe fm 303 (25, [(5, xi k), (4, xi (xb same)), (3, xi (xd_oe ar a)), (0, .ref m), (1, xi a), (2, xi b)], [], (xo m s ar h0, n, 0, 0)) (fun r M => r = .inl (some (xi (xb (same && xd_all (fun k => decide (ar 4 (60 * a + k).toNat = ar 4 (60 * b + k).toNat)) N k)))) ∧ M = (xo m s ar h0, n, 0, 0)) := by
    intro N
    induction N with
    | zero =>
      intro k same k1 k2 k3
      refine xe_s (f := (27, _, _, _)) xt_g303 rfl rfl rfl rfl rfl ?_
      refine xe_s (f := (28, _, _, _)) xt_g303 rfl rfl rfl rfl rfl ?_
      refine xe_ic_ge xt_g303 rfl (t := 66) rfl (q := 31) rfl (by first | omega | exact hw.1 _ | exact hw.2 _ _) (by first | omega | exact hw.1 _ | exact hw.2 _ _) (fun hb => ?_) (fun hb => ?_)
      · refine xe_s (f := (68, _, _, _)) xt_g303 rfl rfl rfl rfl rfl ?_
        refine xe_iret xt_g303 rfl rfl (xi_bool (by first | omega | exact xb_or _)).1 ?_
        exact ⟨by rw [xd_all, Bool.and_true], rfl⟩
      · exact absurd hb (by omega)
    | succ N ih =>
      intro k same k1 k2 k3
      have hx := xb_or same
      refine xe_s (f := (27, _, _, _)) xt_g303 rfl rfl rfl rfl rfl ?_
      refine xe_s (f := (28, _, _, _)) xt_g303 rfl rfl rfl rfl rfl ?_
      refine xe_ic_ge xt_g303 rfl (t := 66) rfl (q := 31) rfl (by first | omega | exact hw.1 _ | exact hw.2 _ _) (by first | omega | exact hw.1 _ | exact hw.2 _ _) (fun hb => ?_) (fun hb => ?_)
      · exact absurd hb (by omega)
      · refine xe_s (f := (33, _, _, _)) xt_g303 rfl rfl rfl rfl rfl ?_
        refine xe_if_eq xt_g303 rfl (t := 66) rfl (q := 36) rfl (by first | omega | exact hw.1 _ | exact hw.2 _ _) (fun hb2 => ?_) (fun hb2 => ?_)
        · cases same with
          | true => exact absurd hb2 (by simp [xb])
          | false =>
            refine xe_s (f := (68, _, _, _)) xt_g303 rfl rfl rfl rfl rfl ?_
            refine xe_iret xt_g303 rfl rfl (xi_bool (by first | omega | exact xb_or _)).1 ?_
            exact ⟨by rw [Bool.false_and], rfl⟩
        · cases same with
          | false => exact absurd (by simp [xb]) hb2
          | true =>
            refine xe_s (f := (37, _, _, _)) xt_g303 rfl rfl rfl rfl rfl ?_
            refine xe_s (f := (38, _, _, _)) xt_g303 rfl rfl rfl rfl rfl ?_
            refine xe_s (f := (40, _, _, _)) xt_g303 rfl rfl rfl rfl rfl ?_
            refine xe_mcv xt_g303 rfl (q := 43) rfl xk_13_172 rfl (by omega) xt_g270 (by decide) ⟨Nat.le_of_ble_eq_true rfl, Nat.le_of_ble_eq_true rfl, Nat.le_of_ble_eq_true rfl⟩ (xv_textAt fm hmn (by omega) (by omega)) ?_
            show xe fm 303 (43, [(5, xi k), (4, xi (xb true)), (3, xi (xd_oe ar a)), (0, .ref m), (1, xi a), (2, xi b)], [xi (ar 4 (60 * a + k).toNat)], (xo m s ar h0, n, 0, 0)) _
            refine xe_s (f := (44, _, _, _)) xt_g303 rfl rfl rfl rfl rfl ?_
            refine xe_s (f := (45, _, _, _)) xt_g303 rfl rfl rfl rfl rfl ?_
            refine xe_s (f := (47, _, _, _)) xt_g303 rfl rfl rfl rfl rfl ?_
            refine xe_mcv xt_g303 rfl (q := 50) rfl xk_13_172 rfl (by omega) xt_g270 (by decide) ⟨Nat.le_of_ble_eq_true rfl, Nat.le_of_ble_eq_true rfl, Nat.le_of_ble_eq_true rfl⟩ (xv_textAt fm hmn (by omega) (by omega)) ?_
            show xe fm 303 (50, [(5, xi k), (4, xi (xb true)), (3, xi (xd_oe ar a)), (0, .ref m), (1, xi a), (2, xi b)], [xi (ar 4 (60 * b + k).toNat), xi (ar 4 (60 * a + k).toNat)], (xo m s ar h0, n, 0, 0)) _
            rw [xd_all, Bool.true_and]
            refine xe_ic_ne xt_g303 rfl (t := 57) rfl (q := 53) rfl (by first | omega | exact hw.1 _ | exact hw.2 _ _) (by first | omega | exact hw.1 _ | exact hw.2 _ _) (fun hb3 => ?_) (fun hb3 => ?_)
            · refine xe_s (f := (58, _, xi 0 :: _, _)) xt_g303 rfl rfl rfl rfl rfl ?_
              refine xe_s (f := (60, [(4, _), (5, _), (3, _), (0, _), (1, _), (2, _)], _, _)) xt_g303 rfl rfl rfl rfl rfl ?_
              refine xe_iinc xt_g303 rfl (q := 63) rfl rfl (by decide) (L1 := [(5, _), (4, _), (3, _), (0, _), (1, _), (2, _)]) rfl ?_
              refine xe_s (f := (25, _, _, _)) xt_g303 rfl rfl rfl rfl rfl ?_
              rw [decide_eq_false hb3]
              exact xe_loc (by intro q hq; simp only [List.mem_cons, List.not_mem_nil, or_false] at hq; rcases hq with rfl | rfl | rfl | rfl | rfl | rfl <;> rfl) (ih (k + 1) false (by omega) (by omega) (by omega))
            · refine xe_s (f := (54, _, xi 1 :: _, _)) xt_g303 rfl rfl rfl rfl rfl ?_
              refine xe_s (f := (58, _, _, _)) xt_g303 rfl rfl rfl rfl rfl ?_
              refine xe_s (f := (60, [(4, _), (5, _), (3, _), (0, _), (1, _), (2, _)], _, _)) xt_g303 rfl rfl rfl rfl rfl ?_
              refine xe_iinc xt_g303 rfl (q := 63) rfl rfl (by decide) (L1 := [(5, _), (4, _), (3, _), (0, _), (1, _), (2, _)]) rfl ?_
              refine xe_s (f := (25, _, _, _)) xt_g303 rfl rfl rfl rfl rfl ?_
              rw [decide_eq_true (Decidable.not_not.mp hb3)]
              exact xe_loc (by intro q hq; simp only [List.mem_cons, List.not_mem_nil, or_false] at hq; rcases hq with rfl | rfl | rfl | rfl | rfl | rfl <;> rfl) (ih (k + 1) true (by omega) (by omega) (by omega))
  refine xe_ic_ne xt_g303 rfl (t := 19) rfl (q := 15) rfl (by first | omega | exact hw.1 _ | exact hw.2 _ _) (by first | omega | exact hw.1 _ | exact hw.2 _ _) (fun hb => ?_) (fun hb => ?_)
  · refine xe_s (f := (20, _, xi 0 :: _, _)) xt_g303 rfl rfl rfl rfl rfl ?_
    refine xe_s (f := (22, [(4, _), (3, _), (0, _), (1, _), (2, _)], _, _)) xt_g303 rfl rfl rfl rfl rfl ?_
    refine xe_s (f := (23, _, xi 0 :: _, _)) xt_g303 rfl rfl rfl rfl rfl ?_
    refine xe_s (f := (25, [(5, _), (4, _), (3, _), (0, _), (1, _), (2, _)], _, _)) xt_g303 rfl rfl rfl rfl rfl ?_
    rw [show xd_oo ar a b = (false && xd_all (fun k => decide (ar 4 (60 * a + k).toNat = ar 4 (60 * b + k).toNat)) (xd_oe ar a).toNat 0) by unfold xd_oo; rw [decide_eq_false hb]]
    exact loop _ 0 false (by omega) (by simp) (by omega)
  · refine xe_s (f := (16, _, xi 1 :: _, _)) xt_g303 rfl rfl rfl rfl rfl ?_
    refine xe_s (f := (20, _, _, _)) xt_g303 rfl rfl rfl rfl rfl ?_
    refine xe_s (f := (22, [(4, _), (3, _), (0, _), (1, _), (2, _)], _, _)) xt_g303 rfl rfl rfl rfl rfl ?_
    refine xe_s (f := (23, _, xi 0 :: _, _)) xt_g303 rfl rfl rfl rfl rfl ?_
    refine xe_s (f := (25, [(5, _), (4, _), (3, _), (0, _), (1, _), (2, _)], _, _)) xt_g303 rfl rfl rfl rfl rfl ?_
    rw [show xd_oo ar a b = (true && xd_all (fun k => decide (ar 4 (60 * a + k).toNat = ar 4 (60 * b + k).toNat)) (xd_oe ar a).toNat 0) by unfold xd_oo; rw [decide_eq_true (Decidable.not_not.mp hb)]]
    exact loop _ 0 true (by omega) (by simp) (by omega)
theorem xv_newFrame (hmn : xo_in m n) {f t p : Int} (h1 : 0 ≤ f ∧ f < 16) : xv fm 277 m n h0 s ar [.ref m, xi f, xi t, xi p] none s (xo_w (xo_w (xo_w ar 42 f.toNat t) 43 f.toNat p) 44 f.toNat 0) := by
  show xe fm 277 (0, [(0, .ref m), (1, xi f), (2, xi t), (3, xi p)], [], (xo m s ar h0, n, 0, 0)) _
  refine xe_s (f := (1, _, _, _)) xt_g277 rfl rfl rfl rfl rfl ?_
  refine xe_mga xt_g277 rfl (q := 4) rfl (xf_13_84 fm) (by decide) rfl (by omega) ?_
  refine xe_s (f := (5, _, _, _)) xt_g277 rfl rfl rfl rfl rfl ?_
  refine xe_s (f := (6, _, _, _)) xt_g277 rfl rfl rfl rfl rfl ?_
  refine xe_mas (ok := xm_isN) (ty := .int) xt_g277 rfl (q := 7) rfl (fun _ _ => ⟨rfl, rfl, rfl, rfl⟩) rfl rfl rfl (by omega) (by omega) (by omega) (by omega) (by omega) rfl ?_
  refine xe_s (f := (8, _, _, _)) xt_g277 rfl rfl rfl rfl rfl ?_
  refine xe_mga xt_g277 rfl (q := 11) rfl (xf_13_87 fm) (by decide) rfl (by omega) ?_
  refine xe_s (f := (12, _, _, _)) xt_g277 rfl rfl rfl rfl rfl ?_
  refine xe_s (f := (13, _, _, _)) xt_g277 rfl rfl rfl rfl rfl ?_
  refine xe_mas (ok := xm_isN) (ty := .int) xt_g277 rfl (q := 14) rfl (fun _ _ => ⟨rfl, rfl, rfl, rfl⟩) rfl rfl rfl (by omega) (by omega) (by omega) (by omega) (by omega) rfl ?_
  refine xe_s (f := (15, _, _, _)) xt_g277 rfl rfl rfl rfl rfl ?_
  refine xe_mga xt_g277 rfl (q := 18) rfl (xf_13_90 fm) (by decide) rfl (by omega) ?_
  refine xe_s (f := (19, _, _, _)) xt_g277 rfl rfl rfl rfl rfl ?_
  refine xe_s (f := (20, _, xi 0 :: _, _)) xt_g277 rfl rfl rfl rfl rfl ?_
  refine xe_mas (ok := xm_isB) (ty := .boolean) xt_g277 rfl (q := 21) rfl (fun _ _ => ⟨rfl, rfl, rfl, rfl⟩) rfl rfl rfl (by omega) (by omega) (by omega) (by omega) (by omega) (xi_nb (by first | omega | exact xb_or _)) ?_
  refine xe_ret xt_g277 rfl rfl ?_
  exact ⟨rfl, rfl⟩
end XM4
