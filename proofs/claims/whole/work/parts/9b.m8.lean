/-! the reference: characters of paths and queries; readPath -/
def xd_pth (c : Int) : Bool := xd_pln c || decide (c = 45 ∨ c = 46 ∨ c = 95 ∨ c = 126 ∨ c = 47)
def xd_qry (c : Int) : Bool := xd_pth c || decide (c = 61 ∨ c = 38)
section XM8
variable (fm : Value) {m n : Nat} {h0 : xm_H} {s : Nat → Int} {ar : Nat → Nat → Int}
theorem xv_isOfPath {c : Int} (hc : xr c) : xw fm 263 [xi c] (some (xi (xb (xd_pth c)))) := by
  intro M
  show xe fm 263 (0, [(0, xi c)], [], M) _
  have yes : xd_pth c = true → xe fm 263 (37, [(0, xi c)], [], M) (fun r m => r = .inl (some (xi (xb (xd_pth c)))) ∧ m = M) := by
    intro h
    rw [h]
    refine xe_s (f := (38, _, xi 1 :: _, _)) xt_g263 rfl rfl rfl rfl rfl ?_
    refine xe_s (f := (42, _, _, _)) xt_g263 rfl rfl rfl rfl rfl ?_
    refine xe_iret xt_g263 rfl rfl (xi_bool (by first | omega | exact xb_or _)).1 ?_
    exact ⟨rfl, rfl⟩
  refine xe_s (f := (1, _, _, _)) xt_g263 rfl rfl rfl rfl rfl ?_
  refine xe_mcs xt_g263 rfl (q := 4) rfl xk_13_166 (Nat.le_of_ble_eq_true rfl) xt_g250 (by decide) ⟨Nat.le_of_ble_eq_true rfl, Nat.le_of_ble_eq_true rfl, Nat.le_of_ble_eq_true rfl⟩ (xv_isPlain fm hc) ?_
  show xe fm 263 (4, [(0, xi c)], [xi (xb (xd_pln c))], M) _
  have hx := xb_or (xd_pln c)
  refine xe_if_ne xt_g263 rfl (t := 37) rfl (q := 7) rfl (by first | omega | exact hw.1 _ | exact hw.2 _ _) (fun hb => ?_) (fun hb => ?_)
  · exact yes (by unfold xd_pth; cases h : xd_pln c <;> simp_all [xb])
  · refine xe_s (f := (8, _, _, _)) xt_g263 rfl rfl rfl rfl rfl ?_
    refine xe_bipush xt_g263 rfl (q := 10) rfl (by decide) (by decide) ?_
    refine xe_ic_eq xt_g263 rfl (t := 37) rfl (q := 13) rfl (by first | omega | exact hw.1 _ | exact hw.2 _ _) (by first | omega | exact hw.1 _ | exact hw.2 _ _) (fun hb1 => ?_) (fun hb1 => ?_)
    · exact yes (by unfold xd_pth; rw [decide_eq_true (by omega), Bool.or_true])
    · refine xe_s (f := (14, _, _, _)) xt_g263 rfl rfl rfl rfl rfl ?_
      refine xe_bipush xt_g263 rfl (q := 16) rfl (by decide) (by decide) ?_
      refine xe_ic_eq xt_g263 rfl (t := 37) rfl (q := 19) rfl (by first | omega | exact hw.1 _ | exact hw.2 _ _) (by first | omega | exact hw.1 _ | exact hw.2 _ _) (fun hb2 => ?_) (fun hb2 => ?_)
      · exact yes (by unfold xd_pth; rw [decide_eq_true (by omega), Bool.or_true])
      · refine xe_s (f := (20, _, _, _)) xt_g263 rfl rfl rfl rfl rfl ?_
        refine xe_bipush xt_g263 rfl (q := 22) rfl (by decide) (by decide) ?_
        refine xe_ic_eq xt_g263 rfl (t := 37) rfl (q := 25) rfl (by first | omega | exact hw.1 _ | exact hw.2 _ _) (by first | omega | exact hw.1 _ | exact hw.2 _ _) (fun hb3 => ?_) (fun hb3 => ?_)
        · exact yes (by unfold xd_pth; rw [decide_eq_true (by omega), Bool.or_true])
        · refine xe_s (f := (26, _, _, _)) xt_g263 rfl rfl rfl rfl rfl ?_
          refine xe_bipush xt_g263 rfl (q := 28) rfl (by decide) (by decide) ?_
          refine xe_ic_eq xt_g263 rfl (t := 37) rfl (q := 31) rfl (by first | omega | exact hw.1 _ | exact hw.2 _ _) (by first | omega | exact hw.1 _ | exact hw.2 _ _) (fun hb4 => ?_) (fun hb4 => ?_)
          · exact yes (by unfold xd_pth; rw [decide_eq_true (by omega), Bool.or_true])
          · refine xe_s (f := (32, _, _, _)) xt_g263 rfl rfl rfl rfl rfl ?_
            refine xe_bipush xt_g263 rfl (q := 34) rfl (by decide) (by decide) ?_
            refine xe_ic_ne xt_g263 rfl (t := 41) rfl (q := 37) rfl (by first | omega | exact hw.1 _ | exact hw.2 _ _) (by first | omega | exact hw.1 _ | exact hw.2 _ _) (fun hb5 => ?_) (fun hb5 => ?_)
            · rw [show xd_pth c = false by unfold xd_pth; rw [decide_eq_false (by omega), Bool.or_false]; cases h : xd_pln c <;> simp_all [xb]]
              refine xe_s (f := (42, _, xi 0 :: _, _)) xt_g263 rfl rfl rfl rfl rfl ?_
              refine xe_iret xt_g263 rfl rfl (xi_bool (by first | omega | exact xb_or _)).1 ?_
              exact ⟨rfl, rfl⟩
            · exact yes (by unfold xd_pth; rw [decide_eq_true (by omega), Bool.or_true])
theorem xv_isOfQuery {c : Int} (hc : xr c) : xw fm 265 [xi c] (some (xi (xb (xd_qry c)))) := by
  intro M
  show xe fm 265 (0, [(0, xi c)], [], M) _
  have yes : xd_qry c = true → xe fm 265 (19, [(0, xi c)], [], M) (fun r m => r = .inl (some (xi (xb (xd_qry c)))) ∧ m = M) := by
    intro h
    rw [h]
    refine xe_s (f := (20, _, xi 1 :: _, _)) xt_g265 rfl rfl rfl rfl rfl ?_
    refine xe_s (f := (24, _, _, _)) xt_g265 rfl rfl rfl rfl rfl ?_
    refine xe_iret xt_g265 rfl rfl (xi_bool (by first | omega | exact xb_or _)).1 ?_
    exact ⟨rfl, rfl⟩
  refine xe_s (f := (1, _, _, _)) xt_g265 rfl rfl rfl rfl rfl ?_
  refine xe_mcs xt_g265 rfl (q := 4) rfl xk_13_169 (Nat.le_of_ble_eq_true rfl) xt_g263 (by decide) ⟨Nat.le_of_ble_eq_true rfl, Nat.le_of_ble_eq_true rfl, Nat.le_of_ble_eq_true rfl⟩ (xv_isOfPath fm hc) ?_
  show xe fm 265 (4, [(0, xi c)], [xi (xb (xd_pth c))], M) _
  have hx := xb_or (xd_pth c)
  refine xe_if_ne xt_g265 rfl (t := 19) rfl (q := 7) rfl (by first | omega | exact hw.1 _ | exact hw.2 _ _) (fun hb => ?_) (fun hb => ?_)
  · exact yes (by unfold xd_qry; cases h : xd_pth c <;> simp_all [xb])
  · refine xe_s (f := (8, _, _, _)) xt_g265 rfl rfl rfl rfl rfl ?_
    refine xe_bipush xt_g265 rfl (q := 10) rfl (by decide) (by decide) ?_
    refine xe_ic_eq xt_g265 rfl (t := 19) rfl (q := 13) rfl (by first | omega | exact hw.1 _ | exact hw.2 _ _) (by first | omega | exact hw.1 _ | exact hw.2 _ _) (fun hb1 => ?_) (fun hb1 => ?_)
    · exact yes (by unfold xd_qry; rw [decide_eq_true (by omega), Bool.or_true])
    · refine xe_s (f := (14, _, _, _)) xt_g265 rfl rfl rfl rfl rfl ?_
      refine xe_bipush xt_g265 rfl (q := 16) rfl (by decide) (by decide) ?_
      refine xe_ic_ne xt_g265 rfl (t := 23) rfl (q := 19) rfl (by first | omega | exact hw.1 _ | exact hw.2 _ _) (by first | omega | exact hw.1 _ | exact hw.2 _ _) (fun hb2 => ?_) (fun hb2 => ?_)
      · rw [show xd_qry c = false by unfold xd_qry; rw [decide_eq_false (by omega), Bool.or_false]; cases h : xd_pth c <;> simp_all [xb]]
        refine xe_s (f := (24, _, xi 0 :: _, _)) xt_g265 rfl rfl rfl rfl rfl ?_
        refine xe_iret xt_g265 rfl rfl (xi_bool (by first | omega | exact xb_or _)).1 ?_
        exact ⟨rfl, rfl⟩
      · exact yes (by unfold xd_qry; rw [decide_eq_true (by omega), Bool.or_true])
/-- how many from k on are of a kind -/
def xd_cnt (p : Int → Bool) (t : Int → Int) : Nat → Int → Int
  | 0, _ => 0
  | n + 1, k => if p (t k) = true then 1 + xd_cnt p t n (k + 1) else 0
theorem xd_cnt_r {p : Int → Bool} {t : Int → Int} : ∀ (N : Nat) (k : Int), 0 ≤ xd_cnt p t N k ∧ xd_cnt p t N k ≤ N
  | 0, k => by simp [xd_cnt]
  | N + 1, k => by
    unfold xd_cnt
    have h := xd_cnt_r (p := p) (t := t) N (k + 1)
    split <;> omega
theorem xo_u2 {s : Nat → Int} {a b : Nat} {x z x' z' : Int} (h : a ≠ b) : xo_u (xo_u (xo_u (xo_u s a x) b z) a x') b z' = xo_u (xo_u s a x') b z' := by
  funext j
  unfold xo_u
  by_cases h1 : j = b
  · simp [h1]
  · by_cases h2 : j = a
    · simp [h1, h2]
    · simp [h1, h2]
theorem xd_at_r (hw : xo_wf s ar) (k : Int) : xr (xd_at s ar k) := by
  unfold xd_at
  split
  · exact hw.2 _ _
  · exact ⟨by decide, by decide⟩
theorem xv_readPath (hmn : xo_in m n) (hw : xo_wf s ar) (h2 : 0 ≤ s 2 ∧ s 2 ≤ 160) (h3 : 0 ≤ s 3 ∧ s 3 ≤ 200) (h11 : 0 ≤ s 11 ∧ s 11 + 160 ≤ 300) :
    xv fm 262 m n h0 s ar [.ref m] none (xo_u (xo_u s 11 (s 11 + xd_cnt xd_pth (xd_at s ar) (s 2 - s 3).toNat (s 3))) 3 (s 3 + xd_cnt xd_pth (xd_at s ar) (s 2 - s 3).toNat (s 3))) (xd_ap ar 7 (s 11) (fun i => xd_at s ar (s 3 + i)) (xd_cnt xd_pth (xd_at s ar) (s 2 - s 3).toNat (s 3))) := by
  show xe fm 262 (0, [(0, .ref m)], [], (xo m s ar h0, n, 0, 0)) _
  have loop : ∀ (N : Nat) (c : Int), 0 ≤ c → c ≤ 160 → (s 2 - (s 3 + c)).toNat = N → (c = 0 ∨ s 3 + c ≤ s 2) → xe fm 262 (0, [(0, .ref m)], [], (xo m (xo_u (xo_u s 11 (s 11 + c)) 3 (s 3 + c)) (xd_ap ar 7 (s 11) (fun i => xd_at s ar (s 3 + i)) c) h0, n, 0, 0)) (fun r M => r = .inl none ∧ M = (xo m (xo_u (xo_u s 11 (s 11 + (c + xd_cnt xd_pth (xd_at s ar) N (s 3 + c)))) 3 (s 3 + (c + xd_cnt xd_pth (xd_at s ar) N (s 3 + c)))) (xd_ap ar 7 (s 11) (fun i => xd_at s ar (s 3 + i)) (c + xd_cnt xd_pth (xd_at s ar) N (s 3 + c))) h0, n, 0, 0)) := by
    intro N
    induction N with
    | zero =>
      intro c c1 c2 c3 c4
      have eat : xd_at (xo_u (xo_u s 11 (s 11 + c)) 3 (s 3 + c)) (xd_ap ar 7 (s 11) (fun i => xd_at s ar (s 3 + i)) c) (xo_u (xo_u s 11 (s 11 + c)) 3 (s 3 + c) 3) = 0 := by
        unfold xd_at
        rw [xo_uS, xo_uN (by decide), xo_uN (by decide), if_neg (by omega)]
      refine xe_s (f := (1, _, _, _)) xt_g262 rfl rfl rfl rfl rfl ?_
      refine xe_mcv xt_g262 rfl (q := 4) rfl xk_13_196 rfl (by omega) xt_g248 (by decide) ⟨Nat.le_of_ble_eq_true rfl, Nat.le_of_ble_eq_true rfl, Nat.le_of_ble_eq_true rfl⟩ (xv_here fm hmn (by rw [xo_uN (by decide), xo_uN (by decide)]; omega) (by rw [xo_uS]; omega)) ?_
      rw [eat]
      show xe fm 262 (4, [(0, .ref m)], [xi 0], (xo m (xo_u (xo_u s 11 (s 11 + c)) 3 (s 3 + c)) (xd_ap ar 7 (s 11) (fun i => xd_at s ar (s 3 + i)) c) h0, n, 0, 0)) _
      refine xe_mcs xt_g262 rfl (q := 7) rfl xk_13_169 (Nat.le_of_ble_eq_true rfl) xt_g263 (by decide) ⟨Nat.le_of_ble_eq_true rfl, Nat.le_of_ble_eq_true rfl, Nat.le_of_ble_eq_true rfl⟩ (xv_isOfPath fm ⟨by decide, by decide⟩) ?_
      show xe fm 262 (7, [(0, .ref m)], [xi 0], (xo m (xo_u (xo_u s 11 (s 11 + c)) 3 (s 3 + c)) (xd_ap ar 7 (s 11) (fun i => xd_at s ar (s 3 + i)) c) h0, n, 0, 0)) _
      refine xe_if_eq xt_g262 rfl (t := 46) rfl (q := 10) rfl (by first | omega | exact hw.1 _ | exact hw.2 _ _) (fun hb => ?_) (fun hb => ?_)
      · refine xe_ret xt_g262 rfl rfl ?_
        rw [xd_cnt, Int.add_zero]
        exact ⟨rfl, rfl⟩
      · exact absurd hb (by omega)
    | succ N ih =>
      intro c c1 c2 c3 c4
      have eat : xd_at (xo_u (xo_u s 11 (s 11 + c)) 3 (s 3 + c)) (xd_ap ar 7 (s 11) (fun i => xd_at s ar (s 3 + i)) c) (xo_u (xo_u s 11 (s 11 + c)) 3 (s 3 + c) 3) = xd_at s ar (s 3 + c) := by
        unfold xd_at
        rw [xo_uS, xo_uN (by decide), xo_uN (by decide), xd_ap_N (by decide)]
      refine xe_s (f := (1, _, _, _)) xt_g262 rfl rfl rfl rfl rfl ?_
      refine xe_mcv xt_g262 rfl (q := 4) rfl xk_13_196 rfl (by omega) xt_g248 (by decide) ⟨Nat.le_of_ble_eq_true rfl, Nat.le_of_ble_eq_true rfl, Nat.le_of_ble_eq_true rfl⟩ (xv_here fm hmn (by rw [xo_uN (by decide), xo_uN (by decide)]; omega) (by rw [xo_uS]; omega)) ?_
      rw [eat]
      show xe fm 262 (4, [(0, .ref m)], [xi (xd_at s ar (s 3 + c))], (xo m (xo_u (xo_u s 11 (s 11 + c)) 3 (s 3 + c)) (xd_ap ar 7 (s 11) (fun i => xd_at s ar (s 3 + i)) c) h0, n, 0, 0)) _
      refine xe_mcs xt_g262 rfl (q := 7) rfl xk_13_169 (Nat.le_of_ble_eq_true rfl) xt_g263 (by decide) ⟨Nat.le_of_ble_eq_true rfl, Nat.le_of_ble_eq_true rfl, Nat.le_of_ble_eq_true rfl⟩ (xv_isOfPath fm (xd_at_r hw _)) ?_
      show xe fm 262 (7, [(0, .ref m)], [xi (xb (xd_pth (xd_at s ar (s 3 + c))))], (xo m (xo_u (xo_u s 11 (s 11 + c)) 3 (s 3 + c)) (xd_ap ar 7 (s 11) (fun i => xd_at s ar (s 3 + i)) c) h0, n, 0, 0)) _
      have hx := xb_or (xd_pth (xd_at s ar (s 3 + c)))
      refine xe_if_eq xt_g262 rfl (t := 46) rfl (q := 10) rfl (by first | omega | exact hw.1 _ | exact hw.2 _ _) (fun hb => ?_) (fun hb => ?_)
      · refine xe_ret xt_g262 rfl rfl ?_
        rw [xd_cnt, if_neg (by intro e; rw [e] at hb; exact absurd hb (by decide)), Int.add_zero]
        exact ⟨rfl, rfl⟩
      · have hp : xd_pth (xd_at s ar (s 3 + c)) = true := by cases h : xd_pth (xd_at s ar (s 3 + c)) <;> simp_all [xb]
        refine xe_s (f := (11, _, _, _)) xt_g262 rfl rfl rfl rfl rfl ?_
        refine xe_mga xt_g262 rfl (q := 14) rfl (xf_13_22 fm) (by decide) rfl (by omega) ?_
        refine xe_s (f := (15, _, _, _)) xt_g262 rfl rfl rfl rfl rfl ?_
        refine xe_mgs xt_g262 rfl (q := 18) rfl (xf_13_201 fm) (by decide) rfl (by omega) ?_
        rw [show xo_u (xo_u s 11 (s 11 + c)) 3 (s 3 + c) 11 = s 11 + c by rw [xo_uN (by decide), xo_uS]]
        refine xe_s (f := (19, _, _, _)) xt_g262 rfl rfl rfl rfl rfl ?_
        refine xe_mcv xt_g262 rfl (q := 22) rfl xk_13_196 rfl (by omega) xt_g248 (by decide) ⟨Nat.le_of_ble_eq_true rfl, Nat.le_of_ble_eq_true rfl, Nat.le_of_ble_eq_true rfl⟩ (xv_here fm hmn (by rw [xo_uN (by decide), xo_uN (by decide)]; omega) (by rw [xo_uS]; omega)) ?_
        rw [eat]
        show xe fm 262 (22, [(0, .ref m)], [xi (xd_at s ar (s 3 + c)), xi (s 11 + c), .ref (m + 1 + 4)], (xo m (xo_u (xo_u s 11 (s 11 + c)) 3 (s 3 + c)) (xd_ap ar 7 (s 11) (fun i => xd_at s ar (s 3 + i)) c) h0, n, 0, 0)) _
        refine xe_mas (ok := xm_isN) (ty := .int) xt_g262 rfl (q := 23) rfl (fun _ _ => ⟨rfl, rfl, rfl, rfl⟩) rfl rfl rfl (by omega) (by omega) (by omega) (by omega) (by omega) rfl ?_
        refine xe_s (f := (24, _, _, _)) xt_g262 rfl rfl rfl rfl rfl ?_
        refine xe_s (f := (25, _, _, _)) xt_g262 rfl rfl rfl rfl rfl ?_
        refine xe_mgs xt_g262 rfl (q := 28) rfl (xf_13_201 fm) (by decide) rfl (by omega) ?_
        rw [show xo_u (xo_u s 11 (s 11 + c)) 3 (s 3 + c) 11 = s 11 + c by rw [xo_uN (by decide), xo_uS]]
        refine xe_s (f := (29, _, xi 1 :: _, _)) xt_g262 rfl rfl rfl rfl rfl ?_
        refine xe_iadd xt_g262 rfl (q := 30) rfl ?_
        refine xe_mps xt_g262 rfl (q := 33) rfl (xf_13_201 fm) (by decide) rfl (by omega) (by omega) xi_int (Or.inl rfl) ?_
        refine xe_s (f := (34, _, _, _)) xt_g262 rfl rfl rfl rfl rfl ?_
        refine xe_s (f := (35, _, _, _)) xt_g262 rfl rfl rfl rfl rfl ?_
        refine xe_mgs xt_g262 rfl (q := 38) rfl (xf_13_152 fm) (by decide) rfl (by omega) ?_
        rw [xo_uN (by decide), xo_uS]
        refine xe_s (f := (39, _, xi 1 :: _, _)) xt_g262 rfl rfl rfl rfl rfl ?_
        refine xe_iadd xt_g262 rfl (q := 40) rfl ?_
        refine xe_mps xt_g262 rfl (q := 43) rfl (xf_13_152 fm) (by decide) rfl (by omega) (by omega) xi_int (Or.inl rfl) ?_
        refine xe_s (f := (0, _, _, _)) xt_g262 rfl rfl rfl rfl rfl ?_
        rw [xo_u2 (by decide), xd_ap_s (g := fun i => xd_at s ar (s 3 + i)) (z := xd_at s ar (s 3 + c)) (by omega) c1 rfl rfl, show s 11 + c + 1 = s 11 + (c + 1) by omega, show s 3 + c + 1 = s 3 + (c + 1) by omega]
        rw [xd_cnt, if_pos hp, show c + (1 + xd_cnt xd_pth (xd_at s ar) N (s 3 + c + 1)) = c + 1 + xd_cnt xd_pth (xd_at s ar) N (s 3 + (c + 1)) by rw [show s 3 + c + 1 = s 3 + (c + 1) by omega]; omega]
        exact ih (c + 1) (by omega) (by omega) (by omega) (by omega)
  have h := loop (s 2 - s 3).toNat 0 (by omega) (by omega) (by rw [Int.add_zero]) (Or.inl rfl)
  rw [xd_ap_0, Int.add_zero, Int.add_zero, Int.zero_add, xo_ui (s := s) (k := 11) rfl, xo_ui (s := s) (k := 3) rfl] at h
  exact h
end XM8
