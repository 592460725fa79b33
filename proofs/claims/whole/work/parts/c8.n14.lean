/-! the class's constructors -/
theorem va_u2 {T : Type} {f : Nat → T} {a : Nat} {e e' : T} : va_up (va_up f a e) a e' = va_up f a e' := by
  funext b
  by_cases g : b = a
  · rw [g, va_up_s, va_up_s]
  · rw [va_up_n g, va_up_n g, va_up_n g]
/-- the quota as the class takes it -/
def qm (q : Int) : Int := if q < 40 then q else 40
def qc (q : Int) : Int := if 1 < qm q then qm q else 1
def k_w : kW := (fun j => if j = 0 then 46 else if j = 1 then 48 else 51, fun _ => 0, fun _ => 0)
def k_s (q : Int) : Nat → Int := xo_u (xo_u (fun _ => 0) 7 (-1)) 12 (qc q)
section XC8
variable {fm : Value} {h : xm_H} {n a : Nat}
theorem k7 {a b : Int} (ha : xr a) (hb : xr b) : xR fm 7 h n [xi a, xi b] (some (xi (if b < a then b else a))) := by
  unfold xR
  refine xe_s (f := (1, _, _, _)) xt_g7 rfl rfl rfl rfl rfl ?_
  refine xe_s (f := (2, _, _, _)) xt_g7 rfl rfl rfl rfl rfl ?_
  refine xe_ic_gt xt_g7 rfl (t := 9) rfl (q := 5) rfl (by first | omega | exact xb_r _) (by first | omega | exact xb_r _) (fun b2 => ?_) (fun b2 => ?_)
  · try simp only [xb_0, xb_1, ne_eq, Decidable.not_not, Bool.not_eq_false, Bool.not_eq_true, decide_eq_true_eq, decide_eq_false_iff_not] at b2
    rw [if_pos (by omega)]
    refine xe_s (f := (10, _, _, _)) xt_g7 rfl rfl rfl rfl rfl ?_
    refine xe_iret xt_g7 rfl rfl xi_int.1 ?_
    exact ⟨rfl, rfl⟩
  · try simp only [xb_0, xb_1, ne_eq, Decidable.not_not, Bool.not_eq_false, Bool.not_eq_true, decide_eq_true_eq, decide_eq_false_iff_not] at b2
    rw [if_neg (by omega)]
    refine xe_s (f := (6, _, _, _)) xt_g7 rfl rfl rfl rfl rfl ?_
    refine xe_s (f := (10, _, _, _)) xt_g7 rfl rfl rfl rfl rfl ?_
    refine xe_iret xt_g7 rfl rfl xi_int.1 ?_
    exact ⟨rfl, rfl⟩
theorem k8 {a b : Int} (ha : xr a) (hb : xr b) : xR fm 8 h n [xi a, xi b] (some (xi (if a < b then b else a))) := by
  unfold xR
  refine xe_s (f := (1, _, _, _)) xt_g8 rfl rfl rfl rfl rfl ?_
  refine xe_s (f := (2, _, _, _)) xt_g8 rfl rfl rfl rfl rfl ?_
  refine xe_ic_lt xt_g8 rfl (t := 9) rfl (q := 5) rfl (by first | omega | exact xb_r _) (by first | omega | exact xb_r _) (fun b2 => ?_) (fun b2 => ?_)
  · try simp only [xb_0, xb_1, ne_eq, Decidable.not_not, Bool.not_eq_false, Bool.not_eq_true, decide_eq_true_eq, decide_eq_false_iff_not] at b2
    rw [if_pos (by omega)]
    refine xe_s (f := (10, _, _, _)) xt_g8 rfl rfl rfl rfl rfl ?_
    refine xe_iret xt_g8 rfl rfl xi_int.1 ?_
    exact ⟨rfl, rfl⟩
  · try simp only [xb_0, xb_1, ne_eq, Decidable.not_not, Bool.not_eq_false, Bool.not_eq_true, decide_eq_true_eq, decide_eq_false_iff_not] at b2
    rw [if_neg (by omega)]
    refine xe_s (f := (6, _, _, _)) xt_g8 rfl rfl rfl rfl rfl ?_
    refine xe_s (f := (10, _, _, _)) xt_g8 rfl rfl rfl rfl rfl ?_
    refine xe_iret xt_g8 rfl rfl xi_int.1 ?_
    exact ⟨rfl, rfl⟩
theorem k2 (ha : h a = .inr (1, [.null, xi 0, xi 0, xi 0])) (h44 : 44 ≤ a) (hn : a < n) : xN fm 2 h n [.ref a, xi 16] (fun h' n' u' => h' = va_up (va_up h n (.inl (1, 16, .inl (fun _ => 0)))) a (.inr (1, [.ref n, xi 0, xi 0, xi 0])) ∧ n' = n + 1 ∧ u' = 16) := by
  unfold xN
  refine xe_s (f := (1, _, _, _)) xt_g2 rfl rfl rfl rfl rfl ?_
  refine xe_obj xt_g2 rfl (q := 4) rfl xz0_14_3 (xp_14_3 fm) (Nat.le_of_ble_eq_true rfl) ?_
  refine xe_s (f := (7, _, xi 1 :: _, _)) xt_g2 rfl rfl rfl rfl rfl ?_
  refine xe_s (f := (10, _, _, _)) xt_g2 rfl rfl rfl rfl rfl ?_
  refine xe_s (f := (11, _, _, _)) xt_g2 rfl rfl rfl rfl rfl ?_
  refine xe_s (f := (12, _, _, _)) xt_g2 rfl rfl rfl rfl rfl ?_
  refine xe_nwa (t := 1) (ty := .byte) xt_g2 rfl (q := 14) rfl rfl rfl rfl rfl (by omega) (by decide) ?_
  refine xe_pf xt_g2 rfl (q := 17) rfl (xf_14_15 fm) ((va_up_n (by omega)).trans ha) (by omega) (by omega) rfl (Nat.le_of_ble_eq_true rfl) (Nat.le_of_ble_eq_true rfl) ⟨rfl, rfl⟩ (Or.inl rfl) ?_
  refine xe_s (f := (18, _, _, _)) xt_g2 rfl rfl rfl rfl rfl ?_
  refine xe_s (f := (19, _, xi 0 :: _, _)) xt_g2 rfl rfl rfl rfl rfl ?_
  refine xe_pf xt_g2 rfl (q := 22) rfl (xf_14_22 fm) (va_up_s) (by omega) (by omega) rfl (Nat.le_of_ble_eq_true rfl) (Nat.le_of_ble_eq_true rfl) ⟨rfl, rfl⟩ (Or.inl rfl) ?_
  refine xe_s (f := (38, _, _, _)) xt_g2 rfl rfl rfl rfl rfl ?_
  refine xe_ret xt_g2 rfl rfl ?_
  try dsimp only
  exact ⟨rfl, va_u2, rfl, rfl⟩
theorem k1 (ha : h a = .inr (1, [.null, xi 0, xi 0, xi 0])) (h44 : 44 ≤ a) (hn : a < n) : xN fm 1 h n [.ref a] (fun h' n' u' => h' = va_up (va_up h n (.inl (1, 16, .inl (fun _ => 0)))) a (.inr (1, [.ref n, xi 0, xi 0, xi 0])) ∧ n' = n + 1 ∧ u' = 16) := by
  unfold xN
  refine xe_s (f := (1, _, _, _)) xt_g1 rfl rfl rfl rfl rfl ?_
  refine xe_bipush xt_g1 rfl (q := 3) rfl (by decide) (by decide) ?_
  refine xe_cN xt_g1 rfl rfl rfl (q := 6) rfl (kc_P xk_16_1 rfl) xt_g2 (by decide) ⟨Nat.le_of_ble_eq_true rfl, Nat.le_of_ble_eq_true rfl, Nat.le_of_ble_eq_true rfl⟩ (k2 ha h44 hn) (fun h1 n1 c1 u1 hp => ?_)
  refine xe_ret xt_g1 rfl rfl ?_
  try dsimp only
  obtain ⟨e1, e2, e3⟩ := hp
  exact ⟨rfl, e1, e2, by omega⟩
theorem k5 (ha : h 49 = .inr (2, [.null, .null, xi 0, xi 0, .null, xi 0, .null, .null])) : xN fm 5 h 50 [.ref 49] (fun h' n' u' => h' = va_up (va_up (va_up (va_up h 50 (.inr (1, [.null, xi 0, xi 0, xi 0]))) 51 (.inl (1, 16, .inl (fun _ => 0)))) 50 (.inr (1, [.ref 51, xi 0, xi 0, xi 0]))) 49 (.inr (2, [.ref 50, .ref 1, xi 0, xi 0, .ref 1, xi 0, .ref 1, .ref 1])) ∧ n' = 52 ∧ u' = 20) := by
  unfold xN
  refine xe_s (f := (1, _, _, _)) xt_g5 rfl rfl rfl rfl rfl ?_
  refine xe_obj xt_g5 rfl (q := 4) rfl xz0_2_3 (xp_2_3 fm) (Nat.le_of_ble_eq_true rfl) ?_
  refine xe_s (f := (5, _, _, _)) xt_g5 rfl rfl rfl rfl rfl ?_
  refine xe_new (k := 4) (fs := [.null, xi 0, xi 0, xi 0]) xt_g5 rfl rfl (q := 8) rfl (xn_2_9 fm) rfl rfl rfl ?_
  show xe fm 5 (_, _, _, (_, 51, _, _)) _
  refine xe_s (f := (9, _, _, _)) xt_g5 rfl rfl rfl rfl rfl ?_
  refine xe_cN xt_g5 rfl rfl rfl (q := 12) rfl (kc_P xk_2_11 rfl) xt_g1 (by decide) ⟨Nat.le_of_ble_eq_true rfl, Nat.le_of_ble_eq_true rfl, Nat.le_of_ble_eq_true rfl⟩ (k1 va_up_s (by omega) (by omega)) (fun h1 n1 c1 u1 hp => ?_)
  obtain ⟨e1, e2, e3⟩ := hp
  subst e1
  subst e2
  subst e3
  show xe fm 5 (_, _, _, (_, 52, _, _)) _
  refine xe_pf xt_g5 rfl (q := 15) rfl (xf_2_12 fm) (ha) (by omega) (by omega) rfl (Nat.le_of_ble_eq_true rfl) (Nat.le_of_ble_eq_true rfl) ⟨rfl, rfl⟩ (Or.inr ⟨by decide, rfl⟩) ?_
  refine xe_s (f := (16, _, _, _)) xt_g5 rfl rfl rfl rfl rfl ?_
  refine xe_s (f := (18, _, .ref 1 :: _, _)) xt_g5 rfl rfl rfl rfl rfl ?_
  refine xe_pf xt_g5 rfl (q := 21) rfl (xf_2_20 fm) (va_up_s) (by omega) (by omega) rfl (Nat.le_of_ble_eq_true rfl) (Nat.le_of_ble_eq_true rfl) ⟨rfl, rfl⟩ (Or.inl rfl) ?_
  refine xe_s (f := (22, _, _, _)) xt_g5 rfl rfl rfl rfl rfl ?_
  refine xe_s (f := (24, _, .ref 1 :: _, _)) xt_g5 rfl rfl rfl rfl rfl ?_
  refine xe_pf xt_g5 rfl (q := 27) rfl (xf_2_24 fm) (va_up_s) (by omega) (by omega) rfl (Nat.le_of_ble_eq_true rfl) (Nat.le_of_ble_eq_true rfl) ⟨rfl, rfl⟩ (Or.inl rfl) ?_
  refine xe_s (f := (28, _, _, _)) xt_g5 rfl rfl rfl rfl rfl ?_
  refine xe_s (f := (30, _, .ref 1 :: _, _)) xt_g5 rfl rfl rfl rfl rfl ?_
  refine xe_pf xt_g5 rfl (q := 33) rfl (xf_2_27 fm) (va_up_s) (by omega) (by omega) rfl (Nat.le_of_ble_eq_true rfl) (Nat.le_of_ble_eq_true rfl) ⟨rfl, rfl⟩ (Or.inl rfl) ?_
  refine xe_s (f := (34, _, _, _)) xt_g5 rfl rfl rfl rfl rfl ?_
  refine xe_s (f := (36, _, .ref 1 :: _, _)) xt_g5 rfl rfl rfl rfl rfl ?_
  refine xe_pf xt_g5 rfl (q := 39) rfl (xf_2_30 fm) (va_up_s) (by omega) (by omega) rfl (Nat.le_of_ble_eq_true rfl) (Nat.le_of_ble_eq_true rfl) ⟨rfl, rfl⟩ (Or.inl rfl) ?_
  refine xe_ret xt_g5 rfl rfl ?_
  try dsimp only
  exact ⟨rfl, by rw [va_u2, va_u2, va_u2, va_u2] <;> rfl, rfl, rfl⟩
theorem k6 (ha : h 52 = .inr (3, [.null, .null, xi 0])) : xN fm 6 h 53 [.ref 52] (fun h' n' u' => h' = va_up (va_up (va_up (va_up h 53 (.inl (5, 8, .inr (.inr (.inr (.inr (fun _ => none))))))) 52 (.inr (3, [.ref 53, .null, xi 0]))) 54 (.inl (0, 64, .inl (fun _ => 0)))) 52 (.inr (3, [.ref 53, .ref 54, xi 0])) ∧ n' = 55 ∧ u' = 72) := by
  unfold xN
  refine xe_s (f := (1, _, _, _)) xt_g6 rfl rfl rfl rfl rfl ?_
  refine xe_obj xt_g6 rfl (q := 4) rfl xz0_9_3 (xp_9_3 fm) (Nat.le_of_ble_eq_true rfl) ?_
  refine xe_s (f := (5, _, _, _)) xt_g6 rfl rfl rfl rfl rfl ?_
  refine xe_bipush xt_g6 rfl (q := 7) rfl (by decide) (by decide) ?_
  refine xe_nwq xt_g6 rfl (q := 10) rfl (xa_9_9 fm) (by omega) ?_
  show xe fm 6 (_, _, _, (_, 54, _, _)) _
  refine xe_pf xt_g6 rfl (q := 13) rfl (xf_9_11 fm) (ha) (by omega) (by omega) rfl (Nat.le_of_ble_eq_true rfl) (Nat.le_of_ble_eq_true rfl) ⟨rfl, rfl⟩ (Or.inr ⟨by decide, rfl⟩) ?_
  refine xe_s (f := (14, _, _, _)) xt_g6 rfl rfl rfl rfl rfl ?_
  refine xe_bipush xt_g6 rfl (q := 16) rfl (by decide) (by decide) ?_
  refine xe_nwa (t := 0) (ty := .int) xt_g6 rfl (q := 18) rfl rfl rfl rfl rfl (by omega) (by decide) ?_
  show xe fm 6 (_, _, _, (_, 55, _, _)) _
  refine xe_pf xt_g6 rfl (q := 21) rfl (xf_9_17 fm) (rfl) (by omega) (by omega) rfl (Nat.le_of_ble_eq_true rfl) (Nat.le_of_ble_eq_true rfl) ⟨rfl, rfl⟩ (Or.inr ⟨by decide, rfl⟩) ?_
  refine xe_ret xt_g6 rfl rfl ?_
  try dsimp only
  exact ⟨rfl, rfl, rfl, rfl⟩
theorem k10 (ha : h 60 = .inr (5, [.null, xi 0])) : xN fm 10 h 61 [.ref 60] (fun h' n' u' => h' = va_up (va_up h 61 (.inl (9, 8, .inr (.inr (.inr (.inr (fun _ => none))))))) 60 (.inr (5, [.ref 61, xi 0])) ∧ n' = 62 ∧ u' = 8) := by
  unfold xN
  refine xe_s (f := (1, _, _, _)) xt_g10 rfl rfl rfl rfl rfl ?_
  refine xe_obj xt_g10 rfl (q := 4) rfl xz0_11_3 (xp_11_3 fm) (Nat.le_of_ble_eq_true rfl) ?_
  refine xe_s (f := (5, _, _, _)) xt_g10 rfl rfl rfl rfl rfl ?_
  refine xe_bipush xt_g10 rfl (q := 7) rfl (by decide) (by decide) ?_
  refine xe_nwq xt_g10 rfl (q := 10) rfl (xa_11_9 fm) (by omega) ?_
  show xe fm 10 (_, _, _, (_, 62, _, _)) _
  refine xe_pf xt_g10 rfl (q := 13) rfl (xf_11_11 fm) (ha) (by omega) (by omega) rfl (Nat.le_of_ble_eq_true rfl) (Nat.le_of_ble_eq_true rfl) ⟨rfl, rfl⟩ (Or.inr ⟨by decide, rfl⟩) ?_
  refine xe_ret xt_g10 rfl rfl ?_
  try dsimp only
  exact ⟨rfl, rfl, rfl, rfl⟩
theorem k9 {q : Int} (ha : h 59 = .inr (4, [xi 0, .null, .null, xi 0, .null, xi 0])) : xN fm 9 h 60 [.ref 59, xi q] (fun h' n' u' => h' = va_up (va_up (va_up (va_up (va_up (va_up (va_up (va_up (va_up h 60 (.inr (5, [.null, xi 0]))) 61 (.inl (9, 8, .inr (.inr (.inr (.inr (fun _ => none))))))) 60 (.inr (5, [.ref 61, xi 0]))) 59 (.inr (4, [xi 0, .ref 60, .null, xi 0, .null, xi 0]))) 62 (.inl (10, 41, .inr (.inr (.inr (.inr (fun _ => none))))))) 59 (.inr (4, [xi 0, .ref 60, .ref 62, xi 0, .null, xi 0]))) 63 (.inl (10, 40, .inr (.inr (.inr (.inr (fun _ => none))))))) 59 (.inr (4, [xi 0, .ref 60, .ref 62, xi 0, .ref 63, xi 0]))) 59 (.inr (4, [xi q, .ref 60, .ref 62, xi 0, .ref 63, xi 0])) ∧ n' = 64 ∧ u' = 91) := by
  unfold xN
  refine xe_s (f := (1, _, _, _)) xt_g9 rfl rfl rfl rfl rfl ?_
  refine xe_obj xt_g9 rfl (q := 4) rfl xz0_6_3 (xp_6_3 fm) (Nat.le_of_ble_eq_true rfl) ?_
  refine xe_s (f := (5, _, _, _)) xt_g9 rfl rfl rfl rfl rfl ?_
  refine xe_new (k := 2) (fs := [.null, xi 0]) xt_g9 rfl rfl (q := 8) rfl (xn_6_9 fm) rfl rfl rfl ?_
  show xe fm 9 (_, _, _, (_, 61, _, _)) _
  refine xe_s (f := (9, _, _, _)) xt_g9 rfl rfl rfl rfl rfl ?_
  refine xe_cN xt_g9 rfl rfl rfl (q := 12) rfl (kc_P xk_6_11 rfl) xt_g10 (by decide) ⟨Nat.le_of_ble_eq_true rfl, Nat.le_of_ble_eq_true rfl, Nat.le_of_ble_eq_true rfl⟩ (k10 va_up_s) (fun h1 n1 c1 u1 hp => ?_)
  obtain ⟨e1, e2, e3⟩ := hp
  subst e1
  subst e2
  subst e3
  refine xe_pf xt_g9 rfl (q := 15) rfl (xf_6_12 fm) (ha) (by omega) (by omega) rfl (Nat.le_of_ble_eq_true rfl) (Nat.le_of_ble_eq_true rfl) ⟨rfl, rfl⟩ (Or.inr ⟨by decide, rfl⟩) ?_
  refine xe_s (f := (16, _, _, _)) xt_g9 rfl rfl rfl rfl rfl ?_
  refine xe_bipush xt_g9 rfl (q := 18) rfl (by decide) (by decide) ?_
  refine xe_nwq xt_g9 rfl (q := 21) rfl (xa_6_18 fm) (by omega) ?_
  show xe fm 9 (_, _, _, (_, 63, _, _)) _
  refine xe_pf xt_g9 rfl (q := 24) rfl (xf_6_20 fm) (rfl) (by omega) (by omega) rfl (Nat.le_of_ble_eq_true rfl) (Nat.le_of_ble_eq_true rfl) ⟨rfl, rfl⟩ (Or.inr ⟨by decide, rfl⟩) ?_
  refine xe_s (f := (25, _, _, _)) xt_g9 rfl rfl rfl rfl rfl ?_
  refine xe_bipush xt_g9 rfl (q := 27) rfl (by decide) (by decide) ?_
  refine xe_nwq xt_g9 rfl (q := 30) rfl (xa_6_18 fm) (by omega) ?_
  show xe fm 9 (_, _, _, (_, 64, _, _)) _
  refine xe_pf xt_g9 rfl (q := 33) rfl (xf_6_24 fm) (rfl) (by omega) (by omega) rfl (Nat.le_of_ble_eq_true rfl) (Nat.le_of_ble_eq_true rfl) ⟨rfl, rfl⟩ (Or.inr ⟨by decide, rfl⟩) ?_
  refine xe_s (f := (34, _, _, _)) xt_g9 rfl rfl rfl rfl rfl ?_
  refine xe_s (f := (35, _, _, _)) xt_g9 rfl rfl rfl rfl rfl ?_
  refine xe_pf xt_g9 rfl (q := 38) rfl (xf_6_27 fm) (rfl) (by omega) (by omega) rfl (Nat.le_of_ble_eq_true rfl) (Nat.le_of_ble_eq_true rfl) xi_int (Or.inr ⟨by decide, rfl⟩) ?_
  refine xe_ret xt_g9 rfl rfl ?_
  try dsimp only
  exact ⟨rfl, rfl, rfl, rfl⟩
theorem k0 {q : Int} (hq : xr q) (ha : h 44 = .inr (0, [.null, .null, .null, .null, .null, .null, xi 0, .null, .null, .null, xi 0, .null])) : xN fm 0 h 45 [.ref 44, xi q] (fun h' n' u' => n' = 64 ∧ u' ≤ 1000 ∧ h' = ko k_w (k_s q) (fun _ => 1) (fun _ _ => none) (fun _ => 0) h' ∧ (∀ a, a < 44 → h' a = h a) ∧ h' 46 = .inl (1, 16, .inl (fun _ => 0)) ∧ h' 48 = .inl (1, 16, .inl (fun _ => 0)) ∧ h' 51 = .inl (1, 16, .inl (fun _ => 0))) := by
  unfold xN
  refine xe_s (f := (1, _, _, _)) xt_g0 rfl rfl rfl rfl rfl ?_
  refine xe_obj xt_g0 rfl (q := 4) rfl xz0_0_1 (xp_0_1 fm) (Nat.le_of_ble_eq_true rfl) ?_
  refine xe_s (f := (5, _, _, _)) xt_g0 rfl rfl rfl rfl rfl ?_
  refine xe_new (k := 4) (fs := [.null, xi 0, xi 0, xi 0]) xt_g0 rfl rfl (q := 8) rfl (xn_0_7 fm) rfl rfl rfl ?_
  show xe fm 0 (_, _, _, (_, 46, _, _)) _
  refine xe_s (f := (9, _, _, _)) xt_g0 rfl rfl rfl rfl rfl ?_
  refine xe_cN xt_g0 rfl rfl rfl (q := 12) rfl (kc_P xk_0_9 rfl) xt_g1 (by decide) ⟨Nat.le_of_ble_eq_true rfl, Nat.le_of_ble_eq_true rfl, Nat.le_of_ble_eq_true rfl⟩ (k1 va_up_s (by omega) (by omega)) (fun h9' n9' c9' u9' hp => ?_)
  obtain ⟨e1, e2, e3⟩ := hp
  subst e1
  subst e2
  subst e3
  show xe fm 0 (_, _, _, (_, 47, _, _)) _
  refine xe_pf xt_g0 rfl (q := 15) rfl (xf_0_10 fm) (ha) (by omega) (by omega) rfl (Nat.le_of_ble_eq_true rfl) (Nat.le_of_ble_eq_true rfl) ⟨rfl, rfl⟩ (Or.inr ⟨by decide, rfl⟩) ?_
  refine xe_s (f := (16, _, _, _)) xt_g0 rfl rfl rfl rfl rfl ?_
  refine xe_new (k := 4) (fs := [.null, xi 0, xi 0, xi 0]) xt_g0 rfl rfl (q := 19) rfl (xn_0_7 fm) rfl rfl rfl ?_
  show xe fm 0 (_, _, _, (_, 48, _, _)) _
  refine xe_s (f := (20, _, _, _)) xt_g0 rfl rfl rfl rfl rfl ?_
  refine xe_cN xt_g0 rfl rfl rfl (q := 23) rfl (kc_P xk_0_9 rfl) xt_g1 (by decide) ⟨Nat.le_of_ble_eq_true rfl, Nat.le_of_ble_eq_true rfl, Nat.le_of_ble_eq_true rfl⟩ (k1 va_up_s (by omega) (by omega)) (fun h20' n20' c20' u20' hp => ?_)
  obtain ⟨e1, e2, e3⟩ := hp
  subst e1
  subst e2
  subst e3
  show xe fm 0 (_, _, _, (_, 49, _, _)) _
  refine xe_pf xt_g0 rfl (q := 26) rfl (xf_0_16 fm) (rfl) (by omega) (by omega) rfl (Nat.le_of_ble_eq_true rfl) (Nat.le_of_ble_eq_true rfl) ⟨rfl, rfl⟩ (Or.inr ⟨by decide, rfl⟩) ?_
  refine xe_s (f := (27, _, _, _)) xt_g0 rfl rfl rfl rfl rfl ?_
  refine xe_new (k := 8) (fs := [.null, .null, xi 0, xi 0, .null, xi 0, .null, .null]) xt_g0 rfl rfl (q := 30) rfl (xn_0_19 fm) rfl rfl rfl ?_
  show xe fm 0 (_, _, _, (_, 50, _, _)) _
  refine xe_s (f := (31, _, _, _)) xt_g0 rfl rfl rfl rfl rfl ?_
  refine xe_cN xt_g0 rfl rfl rfl (q := 34) rfl (kc_P xk_0_21 rfl) xt_g5 (by decide) ⟨Nat.le_of_ble_eq_true rfl, Nat.le_of_ble_eq_true rfl, Nat.le_of_ble_eq_true rfl⟩ (k5 va_up_s) (fun h31' n31' c31' u31' hp => ?_)
  obtain ⟨e1, e2, e3⟩ := hp
  subst e1
  subst e2
  subst e3
  refine xe_pf xt_g0 rfl (q := 37) rfl (xf_0_22 fm) (rfl) (by omega) (by omega) rfl (Nat.le_of_ble_eq_true rfl) (Nat.le_of_ble_eq_true rfl) ⟨rfl, rfl⟩ (Or.inr ⟨by decide, rfl⟩) ?_
  refine xe_s (f := (38, _, _, _)) xt_g0 rfl rfl rfl rfl rfl ?_
  refine xe_new (k := 3) (fs := [.null, .null, xi 0]) xt_g0 rfl rfl (q := 41) rfl (xn_0_26 fm) rfl rfl rfl ?_
  show xe fm 0 (_, _, _, (_, 53, _, _)) _
  refine xe_s (f := (42, _, _, _)) xt_g0 rfl rfl rfl rfl rfl ?_
  refine xe_cN xt_g0 rfl rfl rfl (q := 45) rfl (kc_P xk_0_28 rfl) xt_g6 (by decide) ⟨Nat.le_of_ble_eq_true rfl, Nat.le_of_ble_eq_true rfl, Nat.le_of_ble_eq_true rfl⟩ (k6 va_up_s) (fun h42' n42' c42' u42' hp => ?_)
  obtain ⟨e1, e2, e3⟩ := hp
  subst e1
  subst e2
  subst e3
  refine xe_pf xt_g0 rfl (q := 48) rfl (xf_0_29 fm) (rfl) (by omega) (by omega) rfl (Nat.le_of_ble_eq_true rfl) (Nat.le_of_ble_eq_true rfl) ⟨rfl, rfl⟩ (Or.inr ⟨by decide, rfl⟩) ?_
  refine xe_s (f := (49, _, _, _)) xt_g0 rfl rfl rfl rfl rfl ?_
  refine xe_sipush xt_g0 rfl (q := 52) rfl (by decide) (by decide) ?_
  refine xe_nwq xt_g0 rfl (q := 55) rfl (xa_0_33 fm) (by omega) ?_
  show xe fm 0 (_, _, _, (_, 56, _, _)) _
  refine xe_pf xt_g0 rfl (q := 58) rfl (xf_0_35 fm) (rfl) (by omega) (by omega) rfl (Nat.le_of_ble_eq_true rfl) (Nat.le_of_ble_eq_true rfl) ⟨rfl, rfl⟩ (Or.inr ⟨by decide, rfl⟩) ?_
  refine xe_s (f := (59, _, _, _)) xt_g0 rfl rfl rfl rfl rfl ?_
  refine xe_s (f := (60, _, xi 4 :: _, _)) xt_g0 rfl rfl rfl rfl rfl ?_
  refine xe_nwq xt_g0 rfl (q := 63) rfl (xa_0_39 fm) (by omega) ?_
  show xe fm 0 (_, _, _, (_, 57, _, _)) _
  refine xe_pf xt_g0 rfl (q := 66) rfl (xf_0_41 fm) (rfl) (by omega) (by omega) rfl (Nat.le_of_ble_eq_true rfl) (Nat.le_of_ble_eq_true rfl) ⟨rfl, rfl⟩ (Or.inr ⟨by decide, rfl⟩) ?_
  refine xe_s (f := (67, _, _, _)) xt_g0 rfl rfl rfl rfl rfl ?_
  refine xe_bipush xt_g0 rfl (q := 69) rfl (by decide) (by decide) ?_
  refine xe_nwq xt_g0 rfl (q := 72) rfl (xa_0_39 fm) (by omega) ?_
  show xe fm 0 (_, _, _, (_, 58, _, _)) _
  refine xe_pf xt_g0 rfl (q := 75) rfl (xf_0_45 fm) (rfl) (by omega) (by omega) rfl (Nat.le_of_ble_eq_true rfl) (Nat.le_of_ble_eq_true rfl) ⟨rfl, rfl⟩ (Or.inr ⟨by decide, rfl⟩) ?_
  refine xe_s (f := (76, _, _, _)) xt_g0 rfl rfl rfl rfl rfl ?_
  refine xe_bipush xt_g0 rfl (q := 78) rfl (by decide) (by decide) ?_
  refine xe_nwq xt_g0 rfl (q := 81) rfl (xa_0_48 fm) (by omega) ?_
  show xe fm 0 (_, _, _, (_, 59, _, _)) _
  refine xe_pf xt_g0 rfl (q := 84) rfl (xf_0_50 fm) (rfl) (by omega) (by omega) rfl (Nat.le_of_ble_eq_true rfl) (Nat.le_of_ble_eq_true rfl) ⟨rfl, rfl⟩ (Or.inr ⟨by decide, rfl⟩) ?_
  refine xe_s (f := (85, _, _, _)) xt_g0 rfl rfl rfl rfl rfl ?_
  refine xe_s (f := (86, _, xi (-1) :: _, _)) xt_g0 rfl rfl rfl rfl rfl ?_
  refine xe_pf xt_g0 rfl (q := 89) rfl (xf_0_54 fm) (rfl) (by omega) (by omega) rfl (Nat.le_of_ble_eq_true rfl) (Nat.le_of_ble_eq_true rfl) xi_int (Or.inl rfl) ?_
  refine xe_s (f := (90, _, _, _)) xt_g0 rfl rfl rfl rfl rfl ?_
  refine xe_s (f := (92, _, .ref 1 :: _, _)) xt_g0 rfl rfl rfl rfl rfl ?_
  refine xe_pf xt_g0 rfl (q := 95) rfl (xf_0_60 fm) (rfl) (by omega) (by omega) rfl (Nat.le_of_ble_eq_true rfl) (Nat.le_of_ble_eq_true rfl) ⟨rfl, rfl⟩ (Or.inl rfl) ?_
  refine xe_s (f := (96, _, _, _)) xt_g0 rfl rfl rfl rfl rfl ?_
  refine xe_new (k := 6) (fs := [xi 0, .null, .null, xi 0, .null, xi 0]) xt_g0 rfl rfl (q := 99) rfl (xn_0_64 fm) rfl rfl rfl ?_
  show xe fm 0 (_, _, _, (_, 60, _, _)) _
  refine xe_s (f := (100, _, _, _)) xt_g0 rfl rfl rfl rfl rfl ?_
  refine xe_s (f := (101, _, xi 1 :: _, _)) xt_g0 rfl rfl rfl rfl rfl ?_
  refine xe_bipush xt_g0 rfl (q := 103) rfl (by decide) (by decide) ?_
  refine xe_s (f := (104, _, _, _)) xt_g0 rfl rfl rfl rfl rfl ?_
  refine xe_cR xt_g0 rfl rfl rfl (q := 107) rfl (kc_S xk_0_66 (Nat.le_of_ble_eq_true rfl)) xt_g7 (by decide) ⟨Nat.le_of_ble_eq_true rfl, Nat.le_of_ble_eq_true rfl, Nat.le_of_ble_eq_true rfl⟩ (k7 (by omega) hq) ?_
  refine xe_cR xt_g0 rfl rfl rfl (q := 110) rfl (kc_S xk_0_72 (Nat.le_of_ble_eq_true rfl)) xt_g8 (by decide) ⟨Nat.le_of_ble_eq_true rfl, Nat.le_of_ble_eq_true rfl, Nat.le_of_ble_eq_true rfl⟩ (k8 (by omega) (by split <;> omega)) ?_
  refine xe_cN xt_g0 rfl rfl rfl (q := 113) rfl (kc_P xk_0_75 rfl) xt_g9 (by decide) ⟨Nat.le_of_ble_eq_true rfl, Nat.le_of_ble_eq_true rfl, Nat.le_of_ble_eq_true rfl⟩ (k9 va_up_s) (fun h110' n110' c110' u110' hp => ?_)
  obtain ⟨e1, e2, e3⟩ := hp
  subst e1
  subst e2
  subst e3
  refine xe_pf xt_g0 rfl (q := 116) rfl (xf_0_78 fm) (rfl) (by omega) (by omega) rfl (Nat.le_of_ble_eq_true rfl) (Nat.le_of_ble_eq_true rfl) ⟨rfl, rfl⟩ (Or.inr ⟨by decide, rfl⟩) ?_
  refine xe_ret xt_g0 rfl rfl ?_
  try dsimp only
  refine ⟨rfl, rfl, by decide, ko_fix (h0 := h) (fun b d => ?_), fun b hb => ?_, rfl, rfl, rfl⟩
  · rcases dy_cases d with g | g | g | g | g | g | g | g | g | g | g | g | g | g | g | g | g <;> (subst g; rfl)
  · repeat rw [va_up_n (by omega)]
end XC8
