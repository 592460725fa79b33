/-! the reference: the head of an address -/
section XM9
variable (fm : Value) {m n : Nat} {h0 : xm_H} {s : Nat → Int} {ar : Nat → Nat → Int}
theorem xv_addH (hmn : xo_in m n) {p k x : Int} {g : Int → Int} (hp : 0 ≤ p) (hk : 0 ≤ k) (h10 : s 10 = p + k) (hb : p + k < 300) (hx : x = g k) : xv fm 253 m n h0 s (xd_ap ar 6 p g k) [.ref m, xi x] none (xo_u s 10 (p + (k + 1))) (xd_ap ar 6 p g (k + 1)) := by
  have h := xv_addHead fm hmn (h0 := h0) (s := s) (ar := xd_ap ar 6 p g k) (x := x) (by omega)
  rw [h10, xd_ap_s hp hk rfl hx, show p + k + 1 = p + (k + 1) by omega] at h
  exact h
def xd_sl (s : Nat → Int) : Int := if s 13 = 0 then 7 else 8
def xd_sg (s : Nat → Int) (i : Int) : Int := (if s 13 = 0 then [104, 116, 116, 112, 58, 47, 47] else [104, 116, 116, 112, 115, 58, 47, 47] : List Int).getD i.toNat 0
theorem xv_addScheme (hmn : xo_in m n) (h10 : 0 ≤ s 10 ∧ s 10 + 8 ≤ 300) (h13 : s 13 = 0 ∨ s 13 = 1) : xv fm 260 m n h0 s ar [.ref m] none (xo_u s 10 (s 10 + xd_sl s)) (xd_ap ar 6 (s 10) (xd_sg s) (xd_sl s)) := by
  have key : xe fm 260 (0, [(0, .ref m)], [], (xo m (xo_u s 10 (s 10 + 0)) (xd_ap ar 6 (s 10) (xd_sg s) 0) h0, n, 0, 0)) (fun r M => r = .inl none ∧ M = (xo m (xo_u s 10 (s 10 + xd_sl s)) (xd_ap ar 6 (s 10) (xd_sg s) (xd_sl s)) h0, n, 0, 0)) := by
    rcases h13 with h13 | h13
    · refine xe_s (f := (1, _, _, _)) xt_g260 rfl rfl rfl rfl rfl ?_
      refine xe_bipush xt_g260 rfl (q := 3) rfl (by decide) (by decide) ?_
      refine xe_mcv xt_g260 rfl (q := 6) rfl xk_13_188 rfl (by omega) xt_g253 (by decide) ⟨Nat.le_of_ble_eq_true rfl, Nat.le_of_ble_eq_true rfl, Nat.le_of_ble_eq_true rfl⟩ (xv_addH fm hmn (p := s 10) (k := 0) (g := xd_sg s) (by omega) (by omega) (by rw [xo_uS]) (by omega) (by unfold xd_sg; rw [h13]; rfl)) ?_
      rw [xo_uu]
      show xe fm 260 (6, [(0, .ref m)], [], (xo m (xo_u s 10 (s 10 + 1)) (xd_ap ar 6 (s 10) (xd_sg s) 1) h0, n, 0, 0)) _
      refine xe_s (f := (7, _, _, _)) xt_g260 rfl rfl rfl rfl rfl ?_
      refine xe_bipush xt_g260 rfl (q := 9) rfl (by decide) (by decide) ?_
      refine xe_mcv xt_g260 rfl (q := 12) rfl xk_13_188 rfl (by omega) xt_g253 (by decide) ⟨Nat.le_of_ble_eq_true rfl, Nat.le_of_ble_eq_true rfl, Nat.le_of_ble_eq_true rfl⟩ (xv_addH fm hmn (p := s 10) (k := 1) (g := xd_sg s) (by omega) (by omega) (by rw [xo_uS]) (by omega) (by unfold xd_sg; rw [h13]; rfl)) ?_
      rw [xo_uu]
      show xe fm 260 (12, [(0, .ref m)], [], (xo m (xo_u s 10 (s 10 + 2)) (xd_ap ar 6 (s 10) (xd_sg s) 2) h0, n, 0, 0)) _
      refine xe_s (f := (13, _, _, _)) xt_g260 rfl rfl rfl rfl rfl ?_
      refine xe_bipush xt_g260 rfl (q := 15) rfl (by decide) (by decide) ?_
      refine xe_mcv xt_g260 rfl (q := 18) rfl xk_13_188 rfl (by omega) xt_g253 (by decide) ⟨Nat.le_of_ble_eq_true rfl, Nat.le_of_ble_eq_true rfl, Nat.le_of_ble_eq_true rfl⟩ (xv_addH fm hmn (p := s 10) (k := 2) (g := xd_sg s) (by omega) (by omega) (by rw [xo_uS]) (by omega) (by unfold xd_sg; rw [h13]; rfl)) ?_
      rw [xo_uu]
      show xe fm 260 (18, [(0, .ref m)], [], (xo m (xo_u s 10 (s 10 + 3)) (xd_ap ar 6 (s 10) (xd_sg s) 3) h0, n, 0, 0)) _
      refine xe_s (f := (19, _, _, _)) xt_g260 rfl rfl rfl rfl rfl ?_
      refine xe_bipush xt_g260 rfl (q := 21) rfl (by decide) (by decide) ?_
      refine xe_mcv xt_g260 rfl (q := 24) rfl xk_13_188 rfl (by omega) xt_g253 (by decide) ⟨Nat.le_of_ble_eq_true rfl, Nat.le_of_ble_eq_true rfl, Nat.le_of_ble_eq_true rfl⟩ (xv_addH fm hmn (p := s 10) (k := 3) (g := xd_sg s) (by omega) (by omega) (by rw [xo_uS]) (by omega) (by unfold xd_sg; rw [h13]; rfl)) ?_
      rw [xo_uu]
      show xe fm 260 (24, [(0, .ref m)], [], (xo m (xo_u s 10 (s 10 + 4)) (xd_ap ar 6 (s 10) (xd_sg s) 4) h0, n, 0, 0)) _
      refine xe_s (f := (25, _, _, _)) xt_g260 rfl rfl rfl rfl rfl ?_
      refine xe_mgs xt_g260 rfl (q := 28) rfl (xf_13_192 fm) (by decide) rfl (by omega) ?_
      rw [xo_uN (by decide)]
      refine xe_if_eq xt_g260 rfl (t := 37) rfl (q := 31) rfl (by first | omega | exact hw.1 _ | exact hw.2 _ _) (fun hb => ?_) (fun hb => ?_)
      · refine xe_s (f := (38, _, _, _)) xt_g260 rfl rfl rfl rfl rfl ?_
        refine xe_bipush xt_g260 rfl (q := 40) rfl (by decide) (by decide) ?_
        refine xe_mcv xt_g260 rfl (q := 43) rfl xk_13_188 rfl (by omega) xt_g253 (by decide) ⟨Nat.le_of_ble_eq_true rfl, Nat.le_of_ble_eq_true rfl, Nat.le_of_ble_eq_true rfl⟩ (xv_addH fm hmn (p := s 10) (k := 4) (g := xd_sg s) (by omega) (by omega) (by rw [xo_uS]) (by omega) (by unfold xd_sg; rw [h13]; rfl)) ?_
        rw [xo_uu]
        show xe fm 260 (43, [(0, .ref m)], [], (xo m (xo_u s 10 (s 10 + 5)) (xd_ap ar 6 (s 10) (xd_sg s) 5) h0, n, 0, 0)) _
        refine xe_s (f := (44, _, _, _)) xt_g260 rfl rfl rfl rfl rfl ?_
        refine xe_bipush xt_g260 rfl (q := 46) rfl (by decide) (by decide) ?_
        refine xe_mcv xt_g260 rfl (q := 49) rfl xk_13_188 rfl (by omega) xt_g253 (by decide) ⟨Nat.le_of_ble_eq_true rfl, Nat.le_of_ble_eq_true rfl, Nat.le_of_ble_eq_true rfl⟩ (xv_addH fm hmn (p := s 10) (k := 5) (g := xd_sg s) (by omega) (by omega) (by rw [xo_uS]) (by omega) (by unfold xd_sg; rw [h13]; rfl)) ?_
        rw [xo_uu]
        show xe fm 260 (49, [(0, .ref m)], [], (xo m (xo_u s 10 (s 10 + 6)) (xd_ap ar 6 (s 10) (xd_sg s) 6) h0, n, 0, 0)) _
        refine xe_s (f := (50, _, _, _)) xt_g260 rfl rfl rfl rfl rfl ?_
        refine xe_bipush xt_g260 rfl (q := 52) rfl (by decide) (by decide) ?_
        refine xe_mcv xt_g260 rfl (q := 55) rfl xk_13_188 rfl (by omega) xt_g253 (by decide) ⟨Nat.le_of_ble_eq_true rfl, Nat.le_of_ble_eq_true rfl, Nat.le_of_ble_eq_true rfl⟩ (xv_addH fm hmn (p := s 10) (k := 6) (g := xd_sg s) (by omega) (by omega) (by rw [xo_uS]) (by omega) (by unfold xd_sg; rw [h13]; rfl)) ?_
        rw [xo_uu]
        show xe fm 260 (55, [(0, .ref m)], [], (xo m (xo_u s 10 (s 10 + 7)) (xd_ap ar 6 (s 10) (xd_sg s) 7) h0, n, 0, 0)) _
        refine xe_ret xt_g260 rfl rfl ?_
        exact ⟨rfl, by rw [show xd_sl s = 7 by unfold xd_sl; rw [h13]; rfl]⟩
      · exact absurd h13 hb
    · refine xe_s (f := (1, _, _, _)) xt_g260 rfl rfl rfl rfl rfl ?_
      refine xe_bipush xt_g260 rfl (q := 3) rfl (by decide) (by decide) ?_
      refine xe_mcv xt_g260 rfl (q := 6) rfl xk_13_188 rfl (by omega) xt_g253 (by decide) ⟨Nat.le_of_ble_eq_true rfl, Nat.le_of_ble_eq_true rfl, Nat.le_of_ble_eq_true rfl⟩ (xv_addH fm hmn (p := s 10) (k := 0) (g := xd_sg s) (by omega) (by omega) (by rw [xo_uS]) (by omega) (by unfold xd_sg; rw [h13]; rfl)) ?_
      rw [xo_uu]
      show xe fm 260 (6, [(0, .ref m)], [], (xo m (xo_u s 10 (s 10 + 1)) (xd_ap ar 6 (s 10) (xd_sg s) 1) h0, n, 0, 0)) _
      refine xe_s (f := (7, _, _, _)) xt_g260 rfl rfl rfl rfl rfl ?_
      refine xe_bipush xt_g260 rfl (q := 9) rfl (by decide) (by decide) ?_
      refine xe_mcv xt_g260 rfl (q := 12) rfl xk_13_188 rfl (by omega) xt_g253 (by decide) ⟨Nat.le_of_ble_eq_true rfl, Nat.le_of_ble_eq_true rfl, Nat.le_of_ble_eq_true rfl⟩ (xv_addH fm hmn (p := s 10) (k := 1) (g := xd_sg s) (by omega) (by omega) (by rw [xo_uS]) (by omega) (by unfold xd_sg; rw [h13]; rfl)) ?_
      rw [xo_uu]
      show xe fm 260 (12, [(0, .ref m)], [], (xo m (xo_u s 10 (s 10 + 2)) (xd_ap ar 6 (s 10) (xd_sg s) 2) h0, n, 0, 0)) _
      refine xe_s (f := (13, _, _, _)) xt_g260 rfl rfl rfl rfl rfl ?_
      refine xe_bipush xt_g260 rfl (q := 15) rfl (by decide) (by decide) ?_
      refine xe_mcv xt_g260 rfl (q := 18) rfl xk_13_188 rfl (by omega) xt_g253 (by decide) ⟨Nat.le_of_ble_eq_true rfl, Nat.le_of_ble_eq_true rfl, Nat.le_of_ble_eq_true rfl⟩ (xv_addH fm hmn (p := s 10) (k := 2) (g := xd_sg s) (by omega) (by omega) (by rw [xo_uS]) (by omega) (by unfold xd_sg; rw [h13]; rfl)) ?_
      rw [xo_uu]
      show xe fm 260 (18, [(0, .ref m)], [], (xo m (xo_u s 10 (s 10 + 3)) (xd_ap ar 6 (s 10) (xd_sg s) 3) h0, n, 0, 0)) _
      refine xe_s (f := (19, _, _, _)) xt_g260 rfl rfl rfl rfl rfl ?_
      refine xe_bipush xt_g260 rfl (q := 21) rfl (by decide) (by decide) ?_
      refine xe_mcv xt_g260 rfl (q := 24) rfl xk_13_188 rfl (by omega) xt_g253 (by decide) ⟨Nat.le_of_ble_eq_true rfl, Nat.le_of_ble_eq_true rfl, Nat.le_of_ble_eq_true rfl⟩ (xv_addH fm hmn (p := s 10) (k := 3) (g := xd_sg s) (by omega) (by omega) (by rw [xo_uS]) (by omega) (by unfold xd_sg; rw [h13]; rfl)) ?_
      rw [xo_uu]
      show xe fm 260 (24, [(0, .ref m)], [], (xo m (xo_u s 10 (s 10 + 4)) (xd_ap ar 6 (s 10) (xd_sg s) 4) h0, n, 0, 0)) _
      refine xe_s (f := (25, _, _, _)) xt_g260 rfl rfl rfl rfl rfl ?_
      refine xe_mgs xt_g260 rfl (q := 28) rfl (xf_13_192 fm) (by decide) rfl (by omega) ?_
      rw [xo_uN (by decide)]
      refine xe_if_eq xt_g260 rfl (t := 37) rfl (q := 31) rfl (by first | omega | exact hw.1 _ | exact hw.2 _ _) (fun hb => ?_) (fun hb => ?_)
      · exact absurd hb (by omega)
      · refine xe_s (f := (32, _, _, _)) xt_g260 rfl rfl rfl rfl rfl ?_
        refine xe_bipush xt_g260 rfl (q := 34) rfl (by decide) (by decide) ?_
        refine xe_mcv xt_g260 rfl (q := 37) rfl xk_13_188 rfl (by omega) xt_g253 (by decide) ⟨Nat.le_of_ble_eq_true rfl, Nat.le_of_ble_eq_true rfl, Nat.le_of_ble_eq_true rfl⟩ (xv_addH fm hmn (p := s 10) (k := 4) (g := xd_sg s) (by omega) (by omega) (by rw [xo_uS]) (by omega) (by unfold xd_sg; rw [h13]; rfl)) ?_
        rw [xo_uu]
        show xe fm 260 (37, [(0, .ref m)], [], (xo m (xo_u s 10 (s 10 + 5)) (xd_ap ar 6 (s 10) (xd_sg s) 5) h0, n, 0, 0)) _
        refine xe_s (f := (38, _, _, _)) xt_g260 rfl rfl rfl rfl rfl ?_
        refine xe_bipush xt_g260 rfl (q := 40) rfl (by decide) (by decide) ?_
        refine xe_mcv xt_g260 rfl (q := 43) rfl xk_13_188 rfl (by omega) xt_g253 (by decide) ⟨Nat.le_of_ble_eq_true rfl, Nat.le_of_ble_eq_true rfl, Nat.le_of_ble_eq_true rfl⟩ (xv_addH fm hmn (p := s 10) (k := 5) (g := xd_sg s) (by omega) (by omega) (by rw [xo_uS]) (by omega) (by unfold xd_sg; rw [h13]; rfl)) ?_
        rw [xo_uu]
        show xe fm 260 (43, [(0, .ref m)], [], (xo m (xo_u s 10 (s 10 + 6)) (xd_ap ar 6 (s 10) (xd_sg s) 6) h0, n, 0, 0)) _
        refine xe_s (f := (44, _, _, _)) xt_g260 rfl rfl rfl rfl rfl ?_
        refine xe_bipush xt_g260 rfl (q := 46) rfl (by decide) (by decide) ?_
        refine xe_mcv xt_g260 rfl (q := 49) rfl xk_13_188 rfl (by omega) xt_g253 (by decide) ⟨Nat.le_of_ble_eq_true rfl, Nat.le_of_ble_eq_true rfl, Nat.le_of_ble_eq_true rfl⟩ (xv_addH fm hmn (p := s 10) (k := 6) (g := xd_sg s) (by omega) (by omega) (by rw [xo_uS]) (by omega) (by unfold xd_sg; rw [h13]; rfl)) ?_
        rw [xo_uu]
        show xe fm 260 (49, [(0, .ref m)], [], (xo m (xo_u s 10 (s 10 + 7)) (xd_ap ar 6 (s 10) (xd_sg s) 7) h0, n, 0, 0)) _
        refine xe_s (f := (50, _, _, _)) xt_g260 rfl rfl rfl rfl rfl ?_
        refine xe_bipush xt_g260 rfl (q := 52) rfl (by decide) (by decide) ?_
        refine xe_mcv xt_g260 rfl (q := 55) rfl xk_13_188 rfl (by omega) xt_g253 (by decide) ⟨Nat.le_of_ble_eq_true rfl, Nat.le_of_ble_eq_true rfl, Nat.le_of_ble_eq_true rfl⟩ (xv_addH fm hmn (p := s 10) (k := 7) (g := xd_sg s) (by omega) (by omega) (by rw [xo_uS]) (by omega) (by unfold xd_sg; rw [h13]; rfl)) ?_
        rw [xo_uu]
        show xe fm 260 (55, [(0, .ref m)], [], (xo m (xo_u s 10 (s 10 + 8)) (xd_ap ar 6 (s 10) (xd_sg s) 8) h0, n, 0, 0)) _
        refine xe_ret xt_g260 rfl rfl ?_
        exact ⟨rfl, by rw [show xd_sl s = 8 by unfold xd_sl; rw [h13]; rfl]⟩
  rw [xd_ap_0, Int.add_zero, xo_ui (s := s) (k := 10) rfl] at key
  exact key
end XM9
