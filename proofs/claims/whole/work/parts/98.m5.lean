/-! the reference: what is written row by row -/
/-- from the place p on, k values of g are written into the array F -/
def xd_ap (ar : Nat → Nat → Int) (F : Nat) (p : Int) (g : Int → Int) (k : Int) (f j : Nat) : Int := if f = F ∧ p ≤ (j : Int) ∧ (j : Int) < p + k then g ((j : Int) - p) else ar f j
theorem xd_ap_0 {ar : Nat → Nat → Int} {F : Nat} {p : Int} {g : Int → Int} : xd_ap ar F p g 0 = ar := by
  funext f j
  unfold xd_ap
  rw [if_neg (by omega)]
theorem xd_ap_N {ar : Nat → Nat → Int} {F f j : Nat} {p k : Int} {g : Int → Int} (h : f ≠ F) : xd_ap ar F p g k f j = ar f j := by
  unfold xd_ap
  rw [if_neg (fun e => h e.1)]
theorem xd_ap_s {ar : Nat → Nat → Int} {F : Nat} {p k z : Int} {g : Int → Int} (hp : 0 ≤ p) (hk : 0 ≤ k) {i : Nat} (hi : i = (p + k).toNat) (hz : z = g k) : xo_w (xd_ap ar F p g k) F i z = xd_ap ar F p g (k + 1) := by
  subst hi
  subst hz
  funext f j
  unfold xo_w xd_ap
  by_cases hf : f = F
  · subst hf
    by_cases hj : j = (p + k).toNat
    · rw [if_pos ⟨rfl, hj⟩, if_pos ⟨rfl, by omega, by omega⟩]
      congr 1
      omega
    · rw [if_neg (fun h => hj h.2)]
      by_cases hr : p ≤ (j : Int) ∧ (j : Int) < p + k
      · rw [if_pos ⟨rfl, hr⟩, if_pos ⟨rfl, hr.1, by omega⟩]
      · rw [if_neg (fun h => hr h.2), if_neg (fun h => hr ⟨h.2.1, by omega⟩)]
  · rw [if_neg (fun h => hf h.1), if_neg (fun h => hf h.1), if_neg (fun h => hf h.1)]
theorem xd_ap_wf {s : Nat → Int} {ar : Nat → Nat → Int} {F : Nat} {p k : Int} {g : Int → Int} (h : xo_wf s ar) (hg : ∀ i, xr (g i)) : xo_wf s (xd_ap ar F p g k) := by
  refine ⟨h.1, fun f j => ?_⟩
  unfold xd_ap
  split
  · exact hg _
  · exact h.2 f j
theorem xo_uu {s : Nat → Int} {k : Nat} {x z : Int} : xo_u (xo_u s k x) k z = xo_u s k z := by
  funext j
  unfold xo_u
  split <;> rfl
theorem xo_ui {s : Nat → Int} {k : Nat} {z : Int} (h : z = s k) : xo_u s k z = s := by
  subst h
  funext j
  unfold xo_u
  split
  · rename_i e
    rw [e]
  · rfl
section XM5
variable (fm : Value) {m n : Nat} {h0 : xm_H} {s : Nat → Int} {ar : Nat → Nat → Int}
def xd_tx (ar : Nat → Nat → Int) (a : Int) (k : Int) : Int := ar 4 (60 * a + k).toNat
theorem xv_copyText (hmn : xo_in m n) {a b e : Int} (ha : 0 ≤ a ∧ a < 98) (hb : 0 ≤ b ∧ b < 98) (hab : a ≠ b) (he : 0 ≤ e ∧ e ≤ 60) : xv fm 282 m n h0 s ar [.ref m, xi a, xi b, xi e] none s (xo_w (xd_ap ar 4 (60 * b) (xd_tx ar a) e) 5 b.toNat e) := by
  show xe fm 282 (0, [(0, .ref m), (1, xi a), (2, xi b), (3, xi e)], [], (xo m s ar h0, n, 0, 0)) _
  refine xe_s (f := (1, _, xi 0 :: _, _)) xt_g282 rfl rfl rfl rfl rfl ?_
  refine xe_s (f := (3, [(4, _), (0, _), (1, _), (2, _), (3, _)], _, _)) xt_g282 rfl rfl rfl rfl rfl ?_
  have loop : ∀ (N : Nat) (k : Int), 0 ≤ k → k + N = e → xe fm 282 (3, [(4, xi k), (0, .ref m), (1, xi a), (2, xi b), (3, xi e)], [], (xo m s (xd_ap ar 4 (60 * b) (xd_tx ar a) k) h0, n, 0, 0)) (fun r M => r = .inl none ∧ M = (xo m s (xo_w (xd_ap ar 4 (60 * b) (xd_tx ar a) e) 5 b.toNat e) h0, n, 0, 0)) := by
    intro N
    induction N with
    | zero =>
      intro k k1 k2
      obtain rfl : k = e := by omega
      refine xe_s (f := (5, _, _, _)) xt_g282 rfl rfl rfl rfl rfl ?_
      refine xe_s (f := (6, _, _, _)) xt_g282 rfl rfl rfl rfl rfl ?_
      refine xe_ic_ge xt_g282 rfl (t := 39) rfl (q := 9) rfl (by first | omega | exact hw.1 _ | exact hw.2 _ _) (by first | omega | exact hw.1 _ | exact hw.2 _ _) (fun hb => ?_) (fun hb => ?_)
      · refine xe_s (f := (40, _, _, _)) xt_g282 rfl rfl rfl rfl rfl ?_
        refine xe_mga xt_g282 rfl (q := 43) rfl (xf_13_16 fm) (by decide) rfl (by omega) ?_
        refine xe_s (f := (44, _, _, _)) xt_g282 rfl rfl rfl rfl rfl ?_
        refine xe_s (f := (45, _, _, _)) xt_g282 rfl rfl rfl rfl rfl ?_
        refine xe_mas (ok := xm_isN) (ty := .int) xt_g282 rfl (q := 46) rfl (fun _ _ => ⟨rfl, rfl, rfl, rfl⟩) rfl rfl rfl (by omega) (by omega) (by omega) (by omega) (by omega) rfl ?_
        refine xe_ret xt_g282 rfl rfl ?_
        exact ⟨rfl, rfl⟩
      · exact absurd hb (by omega)
    | succ N ih =>
      intro k k1 k2
      refine xe_s (f := (5, _, _, _)) xt_g282 rfl rfl rfl rfl rfl ?_
      refine xe_s (f := (6, _, _, _)) xt_g282 rfl rfl rfl rfl rfl ?_
      refine xe_ic_ge xt_g282 rfl (t := 39) rfl (q := 9) rfl (by first | omega | exact hw.1 _ | exact hw.2 _ _) (by first | omega | exact hw.1 _ | exact hw.2 _ _) (fun hx => ?_) (fun hx => ?_)
      · exact absurd hx (by omega)
      · refine xe_s (f := (10, _, _, _)) xt_g282 rfl rfl rfl rfl rfl ?_
        refine xe_mga xt_g282 rfl (q := 13) rfl (xf_13_13 fm) (by decide) rfl (by omega) ?_
        refine xe_bipush xt_g282 rfl (q := 15) rfl (by decide) (by decide) ?_
        refine xe_s (f := (16, _, _, _)) xt_g282 rfl rfl rfl rfl rfl ?_
        refine xe_imul xt_g282 rfl (q := 17) rfl ?_
        refine xe_s (f := (19, _, _, _)) xt_g282 rfl rfl rfl rfl rfl ?_
        refine xe_iadd xt_g282 rfl (q := 20) rfl ?_
        refine xe_s (f := (21, _, _, _)) xt_g282 rfl rfl rfl rfl rfl ?_
        refine xe_mga xt_g282 rfl (q := 24) rfl (xf_13_13 fm) (by decide) rfl (by omega) ?_
        refine xe_bipush xt_g282 rfl (q := 26) rfl (by decide) (by decide) ?_
        refine xe_s (f := (27, _, _, _)) xt_g282 rfl rfl rfl rfl rfl ?_
        refine xe_imul xt_g282 rfl (q := 28) rfl ?_
        refine xe_s (f := (30, _, _, _)) xt_g282 rfl rfl rfl rfl rfl ?_
        refine xe_iadd xt_g282 rfl (q := 31) rfl ?_
        refine xe_mal (ok := xm_isN) (ty := .int) xt_g282 rfl (q := 32) rfl (fun _ _ => ⟨rfl, rfl, rfl, rfl⟩) rfl rfl rfl (by omega) (by omega) (by omega) (by omega) ?_
        refine xe_mas (ok := xm_isN) (ty := .int) xt_g282 rfl (q := 33) rfl (fun _ _ => ⟨rfl, rfl, rfl, rfl⟩) rfl rfl rfl (by omega) (by omega) (by omega) (by omega) (by omega) rfl ?_
        rw [xd_ap_s (by omega) k1 rfl (by unfold xd_ap; rw [if_neg (by omega)]; rfl)]
        refine xe_iinc xt_g282 rfl (q := 36) rfl rfl (by decide) (L1 := [(4, _), (0, _), (1, _), (2, _), (3, _)]) rfl ?_
        refine xe_s (f := (3, _, _, _)) xt_g282 rfl rfl rfl rfl rfl ?_
        exact ih (k + 1) (by omega) (by omega)
  have h := loop e.toNat 0 (by omega) (by omega)
  rw [xd_ap_0] at h
  exact h
theorem xv_makeText (hmn : xo_in m n) (hw : xo_wf s ar) {a : Int} (ha : 0 ≤ a ∧ a < 98) (h5 : 0 ≤ ar 5 a.toNat ∧ ar 5 a.toNat ≤ 60) (h6 : 0 ≤ s 62 ∧ s 62 + ar 5 a.toNat ≤ 1400) : xv fm 283 m n h0 s ar [.ref m, xi a] none (xo_u s 62 (s 62 + ar 5 a.toNat)) (xd_ap ar 61 (s 62) (xd_tx ar a) (ar 5 a.toNat)) := by
  show xe fm 283 (0, [(0, .ref m), (1, xi a)], [], (xo m s ar h0, n, 0, 0)) _
  refine xe_s (f := (1, _, xi 0 :: _, _)) xt_g283 rfl rfl rfl rfl rfl ?_
  refine xe_s (f := (2, [(2, _), (0, _), (1, _)], _, _)) xt_g283 rfl rfl rfl rfl rfl ?_
  have loop : ∀ (N : Nat) (k : Int), 0 ≤ k → k + N = ar 5 a.toNat → xe fm 283 (2, [(2, xi k), (0, .ref m), (1, xi a)], [], (xo m (xo_u s 62 (s 62 + k)) (xd_ap ar 61 (s 62) (xd_tx ar a) k) h0, n, 0, 0)) (fun r M => r = .inl none ∧ M = (xo m (xo_u s 62 (s 62 + ar 5 a.toNat)) (xd_ap ar 61 (s 62) (xd_tx ar a) (ar 5 a.toNat)) h0, n, 0, 0)) := by
    intro N
    induction N with
    | zero =>
      intro k k1 k2
      have ek : ar 5 a.toNat = k := by omega
      refine xe_s (f := (3, _, _, _)) xt_g283 rfl rfl rfl rfl rfl ?_
      refine xe_s (f := (4, _, _, _)) xt_g283 rfl rfl rfl rfl rfl ?_
      refine xe_mga xt_g283 rfl (q := 7) rfl (xf_13_16 fm) (by decide) rfl (by omega) ?_
      refine xe_s (f := (8, _, _, _)) xt_g283 rfl rfl rfl rfl rfl ?_
      refine xe_mal (ok := xm_isN) (ty := .int) xt_g283 rfl (q := 9) rfl (fun _ _ => ⟨rfl, rfl, rfl, rfl⟩) rfl rfl rfl (by omega) (by omega) (by omega) (by omega) ?_
      rw [xd_ap_N (by decide)]
      refine xe_ic_ge xt_g283 rfl (t := 28) rfl (q := 12) rfl (by first | omega | exact hw.1 _ | exact hw.2 _ _) (by first | omega | exact hw.1 _ | exact hw.2 _ _) (fun hb => ?_) (fun hb => ?_)
      · refine xe_ret xt_g283 rfl rfl ?_
        rw [ek]
        exact ⟨rfl, rfl⟩
      · exact absurd hb (by omega)
    | succ N ih =>
      intro k k1 k2
      refine xe_s (f := (3, _, _, _)) xt_g283 rfl rfl rfl rfl rfl ?_
      refine xe_s (f := (4, _, _, _)) xt_g283 rfl rfl rfl rfl rfl ?_
      refine xe_mga xt_g283 rfl (q := 7) rfl (xf_13_16 fm) (by decide) rfl (by omega) ?_
      refine xe_s (f := (8, _, _, _)) xt_g283 rfl rfl rfl rfl rfl ?_
      refine xe_mal (ok := xm_isN) (ty := .int) xt_g283 rfl (q := 9) rfl (fun _ _ => ⟨rfl, rfl, rfl, rfl⟩) rfl rfl rfl (by omega) (by omega) (by omega) (by omega) ?_
      rw [xd_ap_N (by decide)]
      refine xe_ic_ge xt_g283 rfl (t := 28) rfl (q := 12) rfl (by first | omega | exact hw.1 _ | exact hw.2 _ _) (by first | omega | exact hw.1 _ | exact hw.2 _ _) (fun hb => ?_) (fun hb => ?_)
      · exact absurd hb (by omega)
      · refine xe_s (f := (13, _, _, _)) xt_g283 rfl rfl rfl rfl rfl ?_
        refine xe_s (f := (14, _, _, _)) xt_g283 rfl rfl rfl rfl rfl ?_
        refine xe_s (f := (15, _, _, _)) xt_g283 rfl rfl rfl rfl rfl ?_
        refine xe_s (f := (16, _, _, _)) xt_g283 rfl rfl rfl rfl rfl ?_
        refine xe_mcv xt_g283 rfl (q := 19) rfl xk_13_172 rfl (by omega) xt_g270 (by decide) ⟨Nat.le_of_ble_eq_true rfl, Nat.le_of_ble_eq_true rfl, Nat.le_of_ble_eq_true rfl⟩ (xv_textAt fm hmn (by omega) (by omega)) ?_
        show xe fm 283 (19, [(2, xi k), (0, .ref m), (1, xi a)], [xi (xd_ap ar 61 (s 62) (xd_tx ar a) k 4 (60 * a + k).toNat), .ref m], (xo m (xo_u s 62 (s 62 + k)) (xd_ap ar 61 (s 62) (xd_tx ar a) k) h0, n, 0, 0)) _
        rw [xd_ap_N (by decide)]
        refine xe_mcv xt_g283 rfl (q := 22) rfl xk_13_370 rfl (by omega) xt_g284 (by decide) ⟨Nat.le_of_ble_eq_true rfl, Nat.le_of_ble_eq_true rfl, Nat.le_of_ble_eq_true rfl⟩ (xv_make fm hmn (by rw [xo_uS]; omega)) ?_
        show xe fm 283 (22, [(2, xi k), (0, .ref m), (1, xi a)], [], (xo m (xo_u (xo_u s 62 (s 62 + k)) 62 (xo_u s 62 (s 62 + k) 62 + 1)) (xo_w (xd_ap ar 61 (s 62) (xd_tx ar a) k) 61 (xo_u s 62 (s 62 + k) 62).toNat (ar 4 (60 * a + k).toNat)) h0, n, 0, 0)) _
        rw [xo_uS, xo_uu, xd_ap_s (g := xd_tx ar a) (z := ar 4 (60 * a + k).toNat) (by omega) k1 rfl rfl, show s 62 + k + 1 = s 62 + (k + 1) by omega]
        refine xe_iinc xt_g283 rfl (q := 25) rfl rfl (by decide) (L1 := [(2, _), (0, _), (1, _)]) rfl ?_
        refine xe_s (f := (2, _, _, _)) xt_g283 rfl rfl rfl rfl rfl ?_
        exact ih (k + 1) (by omega) (by omega)
  have h := loop (ar 5 a.toNat).toNat 0 (by omega) (by omega)
  rw [xd_ap_0, xo_ui (by omega)] at h
  exact h
theorem xv_show (hmn : xo_in m n) (hw : xo_wf s ar) (h6 : 0 ≤ s 62 ∧ s 62 ≤ 1400) : xv fm 333 m n h0 s ar [.ref m] (some (xi (s 62))) (xo_u (xo_u s 64 (s 62)) 62 0) (xd_ap ar 63 0 (fun i => ar 61 i.toNat) (s 62)) := by
  show xe fm 333 (0, [(0, .ref m)], [], (xo m s ar h0, n, 0, 0)) _
  refine xe_s (f := (1, _, xi 0 :: _, _)) xt_g333 rfl rfl rfl rfl rfl ?_
  refine xe_s (f := (2, [(1, _), (0, _)], _, _)) xt_g333 rfl rfl rfl rfl rfl ?_
  have loop : ∀ (N : Nat) (k : Int), 0 ≤ k → k + N = s 62 → xe fm 333 (2, [(1, xi k), (0, .ref m)], [], (xo m s (xd_ap ar 63 0 (fun i => ar 61 i.toNat) k) h0, n, 0, 0)) (fun r M => r = .inl (some (xi (s 62))) ∧ M = (xo m (xo_u (xo_u s 64 (s 62)) 62 0) (xd_ap ar 63 0 (fun i => ar 61 i.toNat) (s 62)) h0, n, 0, 0)) := by
    intro N
    induction N with
    | zero =>
      intro k k1 k2
      obtain rfl : k = s 62 := by omega
      refine xe_s (f := (3, _, _, _)) xt_g333 rfl rfl rfl rfl rfl ?_
      refine xe_s (f := (4, _, _, _)) xt_g333 rfl rfl rfl rfl rfl ?_
      refine xe_mgs xt_g333 rfl (q := 7) rfl (xf_13_363 fm) (by decide) rfl (by omega) ?_
      refine xe_ic_ge xt_g333 rfl (t := 28) rfl (q := 10) rfl (by first | omega | exact hw.1 _ | exact hw.2 _ _) (by first | omega | exact hw.1 _ | exact hw.2 _ _) (fun hb => ?_) (fun hb => ?_)
      · refine xe_s (f := (29, _, _, _)) xt_g333 rfl rfl rfl rfl rfl ?_
        refine xe_s (f := (30, _, _, _)) xt_g333 rfl rfl rfl rfl rfl ?_
        refine xe_mgs xt_g333 rfl (q := 33) rfl (xf_13_363 fm) (by decide) rfl (by omega) ?_
        refine xe_mps xt_g333 rfl (q := 36) rfl (xf_13_455 fm) (by decide) rfl (by omega) (by omega) xi_int (Or.inl rfl) ?_
        refine xe_s (f := (37, _, _, _)) xt_g333 rfl rfl rfl rfl rfl ?_
        refine xe_s (f := (38, _, xi 0 :: _, _)) xt_g333 rfl rfl rfl rfl rfl ?_
        refine xe_mps xt_g333 rfl (q := 41) rfl (xf_13_363 fm) (by decide) rfl (by omega) (by omega) xi_int (Or.inl rfl) ?_
        refine xe_s (f := (42, _, _, _)) xt_g333 rfl rfl rfl rfl rfl ?_
        refine xe_mgs xt_g333 rfl (q := 45) rfl (xf_13_455 fm) (by decide) rfl (by omega) ?_
        rw [show xo_u (xo_u s 64 (s 62)) 62 0 64 = s 62 by rw [xo_uN (by decide), xo_uS]]
        refine xe_iret xt_g333 rfl rfl xi_int.1 ?_
        exact ⟨rfl, rfl⟩
      · exact absurd hb (by omega)
    | succ N ih =>
      intro k k1 k2
      refine xe_s (f := (3, _, _, _)) xt_g333 rfl rfl rfl rfl rfl ?_
      refine xe_s (f := (4, _, _, _)) xt_g333 rfl rfl rfl rfl rfl ?_
      refine xe_mgs xt_g333 rfl (q := 7) rfl (xf_13_363 fm) (by decide) rfl (by omega) ?_
      refine xe_ic_ge xt_g333 rfl (t := 28) rfl (q := 10) rfl (by first | omega | exact hw.1 _ | exact hw.2 _ _) (by first | omega | exact hw.1 _ | exact hw.2 _ _) (fun hb => ?_) (fun hb => ?_)
      · exact absurd hb (by omega)
      · refine xe_s (f := (11, _, _, _)) xt_g333 rfl rfl rfl rfl rfl ?_
        refine xe_mga xt_g333 rfl (q := 14) rfl (xf_13_140 fm) (by decide) rfl (by omega) ?_
        refine xe_s (f := (15, _, _, _)) xt_g333 rfl rfl rfl rfl rfl ?_
        refine xe_s (f := (16, _, _, _)) xt_g333 rfl rfl rfl rfl rfl ?_
        refine xe_mga xt_g333 rfl (q := 19) rfl (xf_13_137 fm) (by decide) rfl (by omega) ?_
        refine xe_s (f := (20, _, _, _)) xt_g333 rfl rfl rfl rfl rfl ?_
        refine xe_mal (ok := xm_isN) (ty := .int) xt_g333 rfl (q := 21) rfl (fun _ _ => ⟨rfl, rfl, rfl, rfl⟩) rfl rfl rfl (by omega) (by omega) (by omega) (by omega) ?_
        refine xe_mas (ok := xm_isN) (ty := .int) xt_g333 rfl (q := 22) rfl (fun _ _ => ⟨rfl, rfl, rfl, rfl⟩) rfl rfl rfl (by omega) (by omega) (by omega) (by omega) (by omega) rfl ?_
        rw [xd_ap_s (by omega) k1 (by omega) (by rw [xd_ap_N (by decide)])]
        refine xe_iinc xt_g333 rfl (q := 25) rfl rfl (by decide) (L1 := [(1, _), (0, _)]) rfl ?_
        refine xe_s (f := (2, _, _, _)) xt_g333 rfl rfl rfl rfl rfl ?_
        exact ih (k + 1) (by omega) (by omega)
  have h := loop (s 62).toNat 0 (by omega) (by omega)
  rw [xd_ap_0] at h
  exact h
end XM5
