/-! the reference: readHost -/
def xd_lbl (c : Int) : Bool := xd_pln c || decide (c = 45)
def xd_hs (t : Int → Int) (E : Int) : Nat → Int → Int → Int × Bool
  | 0, _, k => (k, false)
  | F + 1, lb, k => if xd_cnt xd_lbl t (E - k).toNat k < 1 ∨ 12 < xd_cnt xd_lbl t (E - k).toNat k ∨ 6 < lb + 1 then (k + xd_cnt xd_lbl t (E - k).toNat k, false)
    else if t (k + xd_cnt xd_lbl t (E - k).toNat k) = 46 then xd_hs t E F (lb + 1) (k + xd_cnt xd_lbl t (E - k).toNat k + 1) else (k + xd_cnt xd_lbl t (E - k).toNat k, true)
def xd_hg (s : Nat → Int) (ar : Nat → Nat → Int) (i : Int) : Int := xd_sml (xd_at s ar (s 3 + i))
def xd_hS (s : Nat → Int) (c : Int) : Nat → Int := xo_u (xo_u s 10 (s 10 + c)) 3 (s 3 + c)
def xd_hA (s : Nat → Int) (ar : Nat → Nat → Int) (c : Int) : Nat → Nat → Int := xd_ap ar 6 (s 10) (xd_hg s ar) c
section XMA
variable (fm : Value) {m n : Nat} {h0 : xm_H} {s : Nat → Int} {ar : Nat → Nat → Int}
theorem xd_hS_2 {c : Int} : xd_hS s c 2 = s 2 := by
  unfold xd_hS
  rw [xo_uN (by decide), xo_uN (by decide)]
theorem xd_hS_3 {c : Int} : xd_hS s c 3 = s 3 + c := by
  unfold xd_hS
  rw [xo_uS]
theorem xd_hS_10 {c : Int} : xd_hS s c 10 = s 10 + c := by
  unfold xd_hS
  rw [xo_uN (by decide), xo_uS]
theorem xd_hat {c : Int} : xd_at (xd_hS s c) (xd_hA s ar c) (xd_hS s c 3) = xd_at s ar (s 3 + c) := by
  rw [xd_hS_3]
  unfold xd_at
  rw [xd_hS_2]
  unfold xd_hA
  rw [xd_ap_N (by decide)]
theorem xv_hereH (hmn : xo_in m n) {c : Int} (h2 : 0 ≤ s 2 ∧ s 2 ≤ 160) (h3 : 0 ≤ s 3 + c ∧ s 3 + c < 2147483648) : xv fm 248 m n h0 (xd_hS s c) (xd_hA s ar c) [.ref m] (some (xi (xd_at s ar (s 3 + c)))) (xd_hS s c) (xd_hA s ar c) := by
  have h := xv_here fm hmn (h0 := h0) (s := xd_hS s c) (ar := xd_hA s ar c) (by rw [xd_hS_2]; exact h2) (by rw [xd_hS_3]; exact h3)
  rw [xd_hat] at h
  exact h
theorem xv_addHH (hmn : xo_in m n) {c x : Int} (hc : 0 ≤ c) (hp : 0 ≤ s 10) (hb : s 10 + c < 300) (hx : x = xd_hg s ar c) : xv fm 253 m n h0 (xd_hS s c) (xd_hA s ar c) [.ref m, xi x] none (xo_u (xd_hS s c) 10 (s 10 + (c + 1))) (xd_hA s ar (c + 1)) :=
  xv_addH fm hmn hp hc xd_hS_10 hb hx
theorem xd_hS_s {c : Int} : xo_u (xo_u (xd_hS s c) 10 (s 10 + (c + 1))) 3 (s 3 + c + 1) = xd_hS s (c + 1) := by
  unfold xd_hS
  rw [xo_u2 (by decide), show s 3 + c + 1 = s 3 + (c + 1) by omega]
theorem xd_at_0 {k : Int} (h : s 2 ≤ k) : xd_at s ar k = 0 := by
  unfold xd_at
  rw [if_neg (by omega)]
theorem xd_sml_dot {c : Int} (h : c = 46) : xd_sml c = 46 := by
  subst h
  decide
theorem xv_readHost (hmn : xo_in m n) (hw : xo_wf s ar) (h2 : 0 ≤ s 2 ∧ s 2 ≤ 160) (h3 : 0 ≤ s 3 ∧ s 3 ≤ s 2) (h10 : 0 ≤ s 10 ∧ s 10 ≤ 100) :
    xv fm 247 m n h0 s ar [.ref m] (some (xi (xb (xd_hs (xd_at s ar) (s 2) 7 0 (s 3)).2))) (xd_hS s ((xd_hs (xd_at s ar) (s 2) 7 0 (s 3)).1 - s 3)) (xd_hA s ar ((xd_hs (xd_at s ar) (s 2) 7 0 (s 3)).1 - s 3)) := by
  show xe fm 247 (0, [(0, .ref m)], [], (xo m s ar h0, n, 0, 0)) _
  have inner : ∀ (N : Nat) (c j lb : Int) (Q : xe_Q), 0 ≤ c → 0 ≤ j → j ≤ 160 → s 3 + c ≤ s 2 → (s 2 - (s 3 + c)).toNat = N → j + N ≤ 160 →
      xe fm 247 (56, [(3, xi (j + xd_cnt xd_lbl (xd_at s ar) N (s 3 + c))), (2, xi 1), (1, xi lb), (0, .ref m)], [], (xo m (xd_hS s (c + xd_cnt xd_lbl (xd_at s ar) N (s 3 + c))) (xd_hA s ar (c + xd_cnt xd_lbl (xd_at s ar) N (s 3 + c))) h0, n, 0, 0)) Q →
      xe fm 247 (10, [(3, xi j), (2, xi 1), (1, xi lb), (0, .ref m)], [], (xo m (xd_hS s c) (xd_hA s ar c) h0, n, 0, 0)) Q := by
    intro N
    induction N with
    | zero =>
      intro c j lb Q c1 j1 j2 c2 c3 j3 kk
      rw [xd_cnt, Int.add_zero, Int.add_zero] at kk
      have e0 : xd_at s ar (s 3 + c) = 0 := xd_at_0 (by omega)
      refine xe_s (f := (11, _, _, _)) xt_g247 rfl rfl rfl rfl rfl ?_
      refine xe_mcv xt_g247 rfl (q := 14) rfl xk_13_196 rfl (by omega) xt_g248 (by decide) ⟨Nat.le_of_ble_eq_true rfl, Nat.le_of_ble_eq_true rfl, Nat.le_of_ble_eq_true rfl⟩ (xv_hereH fm hmn h2 (by omega)) ?_
      rw [e0]
      show xe fm 247 (14, [(3, xi j), (2, xi 1), (1, xi lb), (0, .ref m)], [xi 0], (xo m (xd_hS s c) (xd_hA s ar c) h0, n, 0, 0)) _
      refine xe_mcs xt_g247 rfl (q := 17) rfl xk_13_166 (Nat.le_of_ble_eq_true rfl) xt_g250 (by decide) ⟨Nat.le_of_ble_eq_true rfl, Nat.le_of_ble_eq_true rfl, Nat.le_of_ble_eq_true rfl⟩ (xv_isPlain fm ⟨by decide, by decide⟩) ?_
      show xe fm 247 (17, [(3, xi j), (2, xi 1), (1, xi lb), (0, .ref m)], [xi 0], (xo m (xd_hS s c) (xd_hA s ar c) h0, n, 0, 0)) _
      refine xe_if_ne xt_g247 rfl (t := 29) rfl (q := 20) rfl (by first | omega | exact hw.1 _ | exact hw.2 _ _) (fun hb => ?_) (fun hb => ?_)
      · exact absurd hb (by omega)
      · refine xe_s (f := (21, _, _, _)) xt_g247 rfl rfl rfl rfl rfl ?_
        refine xe_mcv xt_g247 rfl (q := 24) rfl xk_13_196 rfl (by omega) xt_g248 (by decide) ⟨Nat.le_of_ble_eq_true rfl, Nat.le_of_ble_eq_true rfl, Nat.le_of_ble_eq_true rfl⟩ (xv_hereH fm hmn h2 (by omega)) ?_
        rw [e0]
        show xe fm 247 (24, [(3, xi j), (2, xi 1), (1, xi lb), (0, .ref m)], [xi 0], (xo m (xd_hS s c) (xd_hA s ar c) h0, n, 0, 0)) _
        refine xe_bipush xt_g247 rfl (q := 26) rfl (by decide) (by decide) ?_
        refine xe_ic_ne xt_g247 rfl (t := 56) rfl (q := 29) rfl (by first | omega | exact hw.1 _ | exact hw.2 _ _) (by first | omega | exact hw.1 _ | exact hw.2 _ _) (fun hb2 => ?_) (fun hb2 => ?_)
        · exact kk
        · exact absurd hb2 (by omega)
    | succ N ih =>
      intro c j lb Q c1 j1 j2 c2 c3 j3 kk
      have hr := xd_at_r hw (s 3 + c)
      have body : xd_lbl (xd_at s ar (s 3 + c)) = true → xe fm 247 (29, [(3, xi j), (2, xi 1), (1, xi lb), (0, .ref m)], [], (xo m (xd_hS s c) (xd_hA s ar c) h0, n, 0, 0)) Q := by
        intro hl
        rw [xd_cnt, if_pos hl] at kk
        refine xe_s (f := (30, _, _, _)) xt_g247 rfl rfl rfl rfl rfl ?_
        refine xe_s (f := (31, _, _, _)) xt_g247 rfl rfl rfl rfl rfl ?_
        refine xe_mcv xt_g247 rfl (q := 34) rfl xk_13_196 rfl (by omega) xt_g248 (by decide) ⟨Nat.le_of_ble_eq_true rfl, Nat.le_of_ble_eq_true rfl, Nat.le_of_ble_eq_true rfl⟩ (xv_hereH fm hmn h2 (by omega)) ?_
        show xe fm 247 (34, [(3, xi j), (2, xi 1), (1, xi lb), (0, .ref m)], [xi (xd_at s ar (s 3 + c)), .ref m], (xo m (xd_hS s c) (xd_hA s ar c) h0, n, 0, 0)) _
        refine xe_mcs xt_g247 rfl (q := 37) rfl xk_13_159 (Nat.le_of_ble_eq_true rfl) xt_g251 (by decide) ⟨Nat.le_of_ble_eq_true rfl, Nat.le_of_ble_eq_true rfl, Nat.le_of_ble_eq_true rfl⟩ (xv_small fm hr) ?_
        show xe fm 247 (37, [(3, xi j), (2, xi 1), (1, xi lb), (0, .ref m)], [xi (xd_sml (xd_at s ar (s 3 + c))), .ref m], (xo m (xd_hS s c) (xd_hA s ar c) h0, n, 0, 0)) _
        refine xe_mcv xt_g247 rfl (q := 40) rfl xk_13_188 rfl (by omega) xt_g253 (by decide) ⟨Nat.le_of_ble_eq_true rfl, Nat.le_of_ble_eq_true rfl, Nat.le_of_ble_eq_true rfl⟩ (xv_addHH fm hmn c1 (by omega) (by omega) rfl) ?_
        show xe fm 247 (40, [(3, xi j), (2, xi 1), (1, xi lb), (0, .ref m)], [], (xo m (xo_u (xd_hS s c) 10 (s 10 + (c + 1))) (xd_hA s ar (c + 1)) h0, n, 0, 0)) _
        refine xe_s (f := (41, _, _, _)) xt_g247 rfl rfl rfl rfl rfl ?_
        refine xe_s (f := (42, _, _, _)) xt_g247 rfl rfl rfl rfl rfl ?_
        refine xe_mgs xt_g247 rfl (q := 45) rfl (xf_13_152 fm) (by decide) rfl (by omega) ?_
        rw [xo_uN (by decide), xd_hS_3]
        refine xe_s (f := (46, _, xi 1 :: _, _)) xt_g247 rfl rfl rfl rfl rfl ?_
        refine xe_iadd xt_g247 rfl (q := 47) rfl ?_
        refine xe_mps xt_g247 rfl (q := 50) rfl (xf_13_152 fm) (by decide) rfl (by omega) (by omega) xi_int (Or.inl rfl) ?_
        rw [xd_hS_s]
        refine xe_iinc xt_g247 rfl (q := 53) rfl rfl (by decide) (L1 := [(3, _), (2, _), (1, _), (0, _)]) rfl ?_
        refine xe_s (f := (10, _, _, _)) xt_g247 rfl rfl rfl rfl rfl ?_
        refine ih (c + 1) (j + 1) lb Q (by omega) (by omega) (by omega) (by omega) (by omega) (by omega) ?_
        rw [show s 3 + (c + 1) = s 3 + c + 1 by omega, show j + 1 + xd_cnt xd_lbl (xd_at s ar) N (s 3 + c + 1) = j + (1 + xd_cnt xd_lbl (xd_at s ar) N (s 3 + c + 1)) by omega, show c + 1 + xd_cnt xd_lbl (xd_at s ar) N (s 3 + c + 1) = c + (1 + xd_cnt xd_lbl (xd_at s ar) N (s 3 + c + 1)) by omega]
        exact kk
      refine xe_s (f := (11, _, _, _)) xt_g247 rfl rfl rfl rfl rfl ?_
      refine xe_mcv xt_g247 rfl (q := 14) rfl xk_13_196 rfl (by omega) xt_g248 (by decide) ⟨Nat.le_of_ble_eq_true rfl, Nat.le_of_ble_eq_true rfl, Nat.le_of_ble_eq_true rfl⟩ (xv_hereH fm hmn h2 (by omega)) ?_
      show xe fm 247 (14, [(3, xi j), (2, xi 1), (1, xi lb), (0, .ref m)], [xi (xd_at s ar (s 3 + c))], (xo m (xd_hS s c) (xd_hA s ar c) h0, n, 0, 0)) _
      refine xe_mcs xt_g247 rfl (q := 17) rfl xk_13_166 (Nat.le_of_ble_eq_true rfl) xt_g250 (by decide) ⟨Nat.le_of_ble_eq_true rfl, Nat.le_of_ble_eq_true rfl, Nat.le_of_ble_eq_true rfl⟩ (xv_isPlain fm hr) ?_
      show xe fm 247 (17, [(3, xi j), (2, xi 1), (1, xi lb), (0, .ref m)], [xi (xb (xd_pln (xd_at s ar (s 3 + c))))], (xo m (xd_hS s c) (xd_hA s ar c) h0, n, 0, 0)) _
      have hx := xb_or (xd_pln (xd_at s ar (s 3 + c)))
      refine xe_if_ne xt_g247 rfl (t := 29) rfl (q := 20) rfl (by first | omega | exact hw.1 _ | exact hw.2 _ _) (fun hb => ?_) (fun hb => ?_)
      · exact body (by unfold xd_lbl; cases h : xd_pln (xd_at s ar (s 3 + c)) <;> simp_all [xb])
      · refine xe_s (f := (21, _, _, _)) xt_g247 rfl rfl rfl rfl rfl ?_
        refine xe_mcv xt_g247 rfl (q := 24) rfl xk_13_196 rfl (by omega) xt_g248 (by decide) ⟨Nat.le_of_ble_eq_true rfl, Nat.le_of_ble_eq_true rfl, Nat.le_of_ble_eq_true rfl⟩ (xv_hereH fm hmn h2 (by omega)) ?_
        show xe fm 247 (24, [(3, xi j), (2, xi 1), (1, xi lb), (0, .ref m)], [xi (xd_at s ar (s 3 + c))], (xo m (xd_hS s c) (xd_hA s ar c) h0, n, 0, 0)) _
        refine xe_bipush xt_g247 rfl (q := 26) rfl (by decide) (by decide) ?_
        refine xe_ic_ne xt_g247 rfl (t := 56) rfl (q := 29) rfl (by first | omega | exact hw.1 _ | exact hw.2 _ _) (by first | omega | exact hw.1 _ | exact hw.2 _ _) (fun hb2 => ?_) (fun hb2 => ?_)
        · rw [xd_cnt, if_neg (by unfold xd_lbl; rw [decide_eq_false hb2, Bool.or_false]; cases h : xd_pln (xd_at s ar (s 3 + c)) <;> simp_all [xb]), Int.add_zero, Int.add_zero] at kk
          exact kk
        · exact body (by unfold xd_lbl; rw [decide_eq_true (Decidable.not_not.mp hb2), Bool.or_true])
  have outer : ∀ (F : Nat) (c lb : Int), 0 ≤ c → s 3 + c ≤ s 2 → 0 ≤ lb → lb + F = 7 → lb ≤ 6 → xe fm 247 (4, [(2, xi 1), (1, xi lb), (0, .ref m)], [], (xo m (xd_hS s c) (xd_hA s ar c) h0, n, 0, 0)) (fun r M => r = .inl (some (xi (xb (xd_hs (xd_at s ar) (s 2) F lb (s 3 + c)).2))) ∧ M = (xo m (xd_hS s ((xd_hs (xd_at s ar) (s 2) F lb (s 3 + c)).1 - s 3)) (xd_hA s ar ((xd_hs (xd_at s ar) (s 2) F lb (s 3 + c)).1 - s 3)) h0, n, 0, 0)) := by
    intro F
    induction F with
    | zero => intro c lb c1 c2 l1 l2 l3; omega
    | succ F ih =>
      intro c lb c1 c2 l1 l2 l3
      refine xe_s (f := (5, _, _, _)) xt_g247 rfl rfl rfl rfl rfl ?_
      refine xe_if_eq xt_g247 rfl (t := 119) rfl (q := 8) rfl (by first | omega | exact hw.1 _ | exact hw.2 _ _) (fun hb => ?_) (fun hb => ?_)
      · exact absurd hb (by omega)
      · refine xe_s (f := (9, _, xi 0 :: _, _)) xt_g247 rfl rfl rfl rfl rfl ?_
        refine xe_s (f := (10, [(3, _), (2, _), (1, _), (0, _)], _, _)) xt_g247 rfl rfl rfl rfl rfl ?_
        refine inner (s 2 - (s 3 + c)).toNat c 0 lb _ c1 (by omega) (by omega) c2 rfl (by omega) ?_
        have hlr := xd_cnt_r (p := xd_lbl) (t := xd_at s ar) (s 2 - (s 3 + c)).toNat (s 3 + c)
        rw [xd_hs]
        generalize xd_cnt xd_lbl (xd_at s ar) (s 2 - (s 3 + c)).toNat (s 3 + c) = l at hlr ⊢
        rw [Int.zero_add]
        have hr := xd_at_r hw (s 3 + (c + l))
        have fail : (l < 1 ∨ 12 < l ∨ 6 < lb + 1) → xe fm 247 (76, [(1, xi (lb + 1)), (3, xi l), (2, xi 1), (0, .ref m)], [], (xo m (xd_hS s (c + l)) (xd_hA s ar (c + l)) h0, n, 0, 0)) (fun r M => r = .inl (some (xi (xb (if l < 1 ∨ 12 < l ∨ 6 < lb + 1 then (s 3 + c + l, false) else if xd_at s ar (s 3 + c + l) = 46 then xd_hs (xd_at s ar) (s 2) F (lb + 1) (s 3 + c + l + 1) else (s 3 + c + l, true)).2))) ∧ M = (xo m (xd_hS s ((if l < 1 ∨ 12 < l ∨ 6 < lb + 1 then (s 3 + c + l, false) else if xd_at s ar (s 3 + c + l) = 46 then xd_hs (xd_at s ar) (s 2) F (lb + 1) (s 3 + c + l + 1) else (s 3 + c + l, true)).1 - s 3)) (xd_hA s ar ((if l < 1 ∨ 12 < l ∨ 6 < lb + 1 then (s 3 + c + l, false) else if xd_at s ar (s 3 + c + l) = 46 then xd_hs (xd_at s ar) (s 2) F (lb + 1) (s 3 + c + l + 1) else (s 3 + c + l, true)).1 - s 3)) h0, n, 0, 0)) := by
          intro h
          rw [if_pos h]
          refine xe_s (f := (77, _, xi 0 :: _, _)) xt_g247 rfl rfl rfl rfl rfl ?_
          refine xe_iret xt_g247 rfl rfl (xi_bool (by first | omega | exact xb_or _)).1 ?_
          rw [show s 3 + c + l - s 3 = c + l by omega]
          exact ⟨rfl, rfl⟩
        refine xe_iinc xt_g247 rfl (q := 59) rfl rfl (by decide) (L1 := [(1, _), (3, _), (2, _), (0, _)]) rfl ?_
        refine xe_s (f := (60, _, _, _)) xt_g247 rfl rfl rfl rfl rfl ?_
        refine xe_s (f := (61, _, xi 1 :: _, _)) xt_g247 rfl rfl rfl rfl rfl ?_
        refine xe_ic_lt xt_g247 rfl (t := 76) rfl (q := 64) rfl (by first | omega | exact hw.1 _ | exact hw.2 _ _) (by first | omega | exact hw.1 _ | exact hw.2 _ _) (fun g1 => ?_) (fun g1 => ?_)
        · exact fail (by omega)
        · refine xe_s (f := (65, _, _, _)) xt_g247 rfl rfl rfl rfl rfl ?_
          refine xe_bipush xt_g247 rfl (q := 67) rfl (by decide) (by decide) ?_
          refine xe_ic_gt xt_g247 rfl (t := 76) rfl (q := 70) rfl (by first | omega | exact hw.1 _ | exact hw.2 _ _) (by first | omega | exact hw.1 _ | exact hw.2 _ _) (fun g2 => ?_) (fun g2 => ?_)
          · exact fail (by omega)
          · refine xe_s (f := (71, _, _, _)) xt_g247 rfl rfl rfl rfl rfl ?_
            refine xe_bipush xt_g247 rfl (q := 73) rfl (by decide) (by decide) ?_
            refine xe_ic_le xt_g247 rfl (t := 78) rfl (q := 76) rfl (by first | omega | exact hw.1 _ | exact hw.2 _ _) (by first | omega | exact hw.1 _ | exact hw.2 _ _) (fun g3 => ?_) (fun g3 => ?_)
            · rw [if_neg (by omega)]
              refine xe_s (f := (79, _, _, _)) xt_g247 rfl rfl rfl rfl rfl ?_
              refine xe_mcv xt_g247 rfl (q := 82) rfl xk_13_196 rfl (by omega) xt_g248 (by decide) ⟨Nat.le_of_ble_eq_true rfl, Nat.le_of_ble_eq_true rfl, Nat.le_of_ble_eq_true rfl⟩ (xv_hereH fm hmn h2 (by omega)) ?_
              show xe fm 247 (82, [(1, xi (lb + 1)), (3, xi l), (2, xi 1), (0, .ref m)], [xi (xd_at s ar (s 3 + (c + l)))], (xo m (xd_hS s (c + l)) (xd_hA s ar (c + l)) h0, n, 0, 0)) _
              refine xe_bipush xt_g247 rfl (q := 84) rfl (by decide) (by decide) ?_
              refine xe_ic_ne xt_g247 rfl (t := 91) rfl (q := 87) rfl (by first | omega | exact hw.1 _ | exact hw.2 _ _) (by first | omega | exact hw.1 _ | exact hw.2 _ _) (fun g4 => ?_) (fun g4 => ?_)
              · rw [if_neg (by rw [show s 3 + c + l = s 3 + (c + l) by omega]; exact g4)]
                refine xe_s (f := (92, _, xi 0 :: _, _)) xt_g247 rfl rfl rfl rfl rfl ?_
                refine xe_s (f := (93, [(2, _), (1, _), (3, _), (0, _)], _, _)) xt_g247 rfl rfl rfl rfl rfl ?_
                refine xe_s (f := (94, _, _, _)) xt_g247 rfl rfl rfl rfl rfl ?_
                refine xe_if_ne xt_g247 rfl (t := 100) rfl (q := 97) rfl (by first | omega | exact hw.1 _ | exact hw.2 _ _) (fun g5 => ?_) (fun g5 => ?_)
                · exact absurd g5 (by omega)
                · refine xe_s (f := (4, _, _, _)) xt_g247 rfl rfl rfl rfl rfl ?_
                  refine xe_s (f := (5, _, _, _)) xt_g247 rfl rfl rfl rfl rfl ?_
                  refine xe_if_eq xt_g247 rfl (t := 119) rfl (q := 8) rfl (by first | omega | exact hw.1 _ | exact hw.2 _ _) (fun g6 => ?_) (fun g6 => ?_)
                  · refine xe_s (f := (120, _, xi 1 :: _, _)) xt_g247 rfl rfl rfl rfl rfl ?_
                    refine xe_iret xt_g247 rfl rfl (xi_bool (by first | omega | exact xb_or _)).1 ?_
                    rw [show s 3 + c + l - s 3 = c + l by omega]
                    exact ⟨rfl, rfl⟩
                  · exact absurd g6 (by omega)
              · have g4' : xd_at s ar (s 3 + (c + l)) = 46 := Decidable.not_not.mp g4
                have hin : s 3 + (c + l) < s 2 := by
                  apply Decidable.byContradiction
                  intro h
                  rw [xd_at_0 (by omega)] at g4'
                  exact absurd g4' (by decide)
                rw [if_pos (by rw [show s 3 + c + l = s 3 + (c + l) by omega]; exact g4')]
                refine xe_s (f := (88, _, xi 1 :: _, _)) xt_g247 rfl rfl rfl rfl rfl ?_
                refine xe_s (f := (92, _, _, _)) xt_g247 rfl rfl rfl rfl rfl ?_
                refine xe_s (f := (93, [(2, _), (1, _), (3, _), (0, _)], _, _)) xt_g247 rfl rfl rfl rfl rfl ?_
                refine xe_s (f := (94, _, _, _)) xt_g247 rfl rfl rfl rfl rfl ?_
                refine xe_if_ne xt_g247 rfl (t := 100) rfl (q := 97) rfl (by first | omega | exact hw.1 _ | exact hw.2 _ _) (fun g5 => ?_) (fun g5 => ?_)
                · refine xe_s (f := (101, _, _, _)) xt_g247 rfl rfl rfl rfl rfl ?_
                  refine xe_bipush xt_g247 rfl (q := 103) rfl (by decide) (by decide) ?_
                  refine xe_mcv xt_g247 rfl (q := 106) rfl xk_13_188 rfl (by omega) xt_g253 (by decide) ⟨Nat.le_of_ble_eq_true rfl, Nat.le_of_ble_eq_true rfl, Nat.le_of_ble_eq_true rfl⟩ (xv_addHH fm hmn (by omega) (by omega) (by omega) (by unfold xd_hg; rw [xd_sml_dot g4'])) ?_
                  show xe fm 247 (106, [(2, xi 1), (1, xi (lb + 1)), (3, xi l), (0, .ref m)], [], (xo m (xo_u (xd_hS s (c + l)) 10 (s 10 + (c + l + 1))) (xd_hA s ar (c + l + 1)) h0, n, 0, 0)) _
                  refine xe_s (f := (107, _, _, _)) xt_g247 rfl rfl rfl rfl rfl ?_
                  refine xe_s (f := (108, _, _, _)) xt_g247 rfl rfl rfl rfl rfl ?_
                  refine xe_mgs xt_g247 rfl (q := 111) rfl (xf_13_152 fm) (by decide) rfl (by omega) ?_
                  rw [xo_uN (by decide), xd_hS_3]
                  refine xe_s (f := (112, _, xi 1 :: _, _)) xt_g247 rfl rfl rfl rfl rfl ?_
                  refine xe_iadd xt_g247 rfl (q := 113) rfl ?_
                  refine xe_mps xt_g247 rfl (q := 116) rfl (xf_13_152 fm) (by decide) rfl (by omega) (by omega) xi_int (Or.inl rfl) ?_
                  refine xe_s (f := (4, _, _, _)) xt_g247 rfl rfl rfl rfl rfl ?_
                  rw [xd_hS_s, show s 3 + c + l + 1 = s 3 + (c + l + 1) by omega]
                  exact xe_loc (by intro q hq; simp only [List.mem_cons, List.not_mem_nil, or_false] at hq; rcases hq with rfl | rfl | rfl <;> rfl) (ih (c + l + 1) (lb + 1) (by omega) (by omega) (by omega) (by omega) (by omega))
                · exact absurd g5 (by omega)
            · exact fail (by omega)
  have e1 : xd_hS s 0 = s := by
    unfold xd_hS
    rw [Int.add_zero, Int.add_zero, xo_ui (s := s) (k := 10) rfl, xo_ui (s := s) (k := 3) rfl]
  have e2 : xd_hA s ar 0 = ar := xd_ap_0
  have h := outer 7 0 0 (by omega) (by omega) (by omega) (by omega) (by omega)
  rw [e1, e2, Int.add_zero] at h
  refine xe_s (f := (1, _, xi 0 :: _, _)) xt_g247 rfl rfl rfl rfl rfl ?_
  refine xe_s (f := (2, [(1, _), (0, _)], _, _)) xt_g247 rfl rfl rfl rfl rfl ?_
  refine xe_s (f := (3, _, xi 1 :: _, _)) xt_g247 rfl rfl rfl rfl rfl ?_
  refine xe_s (f := (4, [(2, _), (1, _), (0, _)], _, _)) xt_g247 rfl rfl rfl rfl rfl ?_
  exact h
end XMA
