/-! indexOf -/
section XIX
variable {fm : Value} {F F' : Nat → Prop} {h : xm_H} {n r r' : Nat} {l w : List Int}
theorem s206 {b : Nat} {c : Int} (H : sA h b l.length l) (hb : b < n) (ha : asc l) (hl : l.length < 10000) (hc : 0 ≤ c ∧ c < 128) : xI fm 206 h n [.ref b, xi c, xi 0, xi l.length] (fun z h' n' u' => -1 ≤ z ∧ z ≤ l.length ∧ (z < 0 ↔ c ∉ l) ∧ h' = h ∧ n' = n ∧ u' = 0) := by
  have g := s206_loop (fm := fm) (e := 0) H hb ha hl hc _ 0 rfl (Nat.zero_le _) (fun j hj => absurd hj (Nat.not_lt_zero j))
  unfold xI
  refine xe_s (f := (1, _, _, _)) xt_g206 rfl rfl rfl rfl rfl ?_
  refine xe_i2b xt_g206 rfl (q := 2) rfl (by omega) ?_
  refine xe_s (f := (4, [(4, _), (0, _), (1, _), (2, _), (3, _)], _, _)) xt_g206 rfl rfl rfl rfl rfl ?_
  refine xe_s (f := (5, _, _, _)) xt_g206 rfl rfl rfl rfl rfl ?_
  refine xe_s (f := (7, [(5, _), (4, _), (0, _), (1, _), (2, _), (3, _)], _, _)) xt_g206 rfl rfl rfl rfl rfl ?_
  refine xe_mono (xe_loc (by intro q hq; simp only [List.mem_cons, List.not_mem_nil, or_false] at hq; rcases hq with rfl | rfl | rfl | rfl <;> rfl) (g)) (fun r M hM => ?_)
  obtain ⟨z, q1, q2, q3, q4, q5⟩ := hM
  subst q5
  exact ⟨z, q1, q2, q3, q4, rfl, rfl, rfl⟩
theorem s205 {c : Int} (hc : 0 ≤ c ∧ c < 128) : xR fm 205 h n [xi c] (some (xi 1)) := by
  unfold xR
  refine xe_s (f := (1, _, _, _)) xt_g205 rfl rfl rfl rfl rfl ?_
  refine xe_if_lt xt_g205 rfl (t := 15) rfl (q := 4) rfl (by first | omega | exact xb_r _) (fun b1 => ?_) (fun b1 => ?_)
  · exact absurd b1 (by omega)
  · try simp only [xb_0, xb_1, ne_eq, Decidable.not_not, Bool.not_eq_false, Bool.not_eq_true, decide_eq_true_eq, decide_eq_false_iff_not] at b1
    refine xe_s (f := (5, _, _, _)) xt_g205 rfl rfl rfl rfl rfl ?_
    refine xe_sipush xt_g205 rfl (q := 8) rfl (by decide) (by decide) ?_
    refine xe_ic_gt xt_g205 rfl (t := 15) rfl (q := 11) rfl (by first | omega | exact xb_r _) (by first | omega | exact xb_r _) (fun b8 => ?_) (fun b8 => ?_)
    · exact absurd b8 (by omega)
    · try simp only [xb_0, xb_1, ne_eq, Decidable.not_not, Bool.not_eq_false, Bool.not_eq_true, decide_eq_true_eq, decide_eq_false_iff_not] at b8
      refine xe_s (f := (12, _, xi 1 :: _, _)) xt_g205 rfl rfl rfl rfl rfl ?_
      refine xe_s (f := (16, _, _, _)) xt_g205 rfl rfl rfl rfl rfl ?_
      refine xe_iret xt_g205 rfl rfl (xi_bool (by first | omega | exact xb_or _)).1 ?_
      exact ⟨rfl, rfl⟩
theorem s204 {b : Nat} {c : Int} (H : sA h b l.length l) (hb : b < n) (ha : asc l) (hl : l.length < 10000) (hc : 0 ≤ c ∧ c < 128) : xI fm 204 h n [.ref b, xi c, xi 0, xi l.length] (fun z h' n' u' => -1 ≤ z ∧ z ≤ l.length ∧ (z < 0 ↔ c ∉ l) ∧ h' = h ∧ n' = n ∧ u' = 0) := by
  have G := H
  obtain ⟨f, h2, h8, h9⟩ := H
  unfold xI
  refine xe_s (f := (1, _, _, _)) xt_g204 rfl rfl rfl rfl rfl ?_
  refine xe_cR xt_g204 rfl rfl rfl (q := 4) rfl (kc_S xk_17_88 (Nat.le_of_ble_eq_true rfl)) xt_g205 (by decide) ⟨Nat.le_of_ble_eq_true rfl, Nat.le_of_ble_eq_true rfl, Nat.le_of_ble_eq_true rfl⟩ (s205 hc) ?_
  refine xe_s (f := (9, _, _, _)) xt_g204 rfl rfl rfl rfl rfl ?_
  refine xe_s (f := (10, _, _, _)) xt_g204 rfl rfl rfl rfl rfl ?_
  refine xe_s (f := (11, _, xi 0 :: _, _)) xt_g204 rfl rfl rfl rfl rfl ?_
  refine xe_cR xt_g204 rfl rfl rfl (q := 14) rfl (kc_S xk_17_92 (Nat.le_of_ble_eq_true rfl)) xt_g8 (by decide) ⟨Nat.le_of_ble_eq_true rfl, Nat.le_of_ble_eq_true rfl, Nat.le_of_ble_eq_true rfl⟩ (s8 ⟨by decide, by decide⟩ ⟨by decide, by decide⟩) ?_
  rw [show max (0 : Int) 0 = 0 from rfl]
  refine xe_s (f := (15, [(2, _), (0, _), (1, _), (3, _)], _, _)) xt_g204 rfl rfl rfl rfl rfl ?_
  refine xe_s (f := (16, _, _, _)) xt_g204 rfl rfl rfl rfl rfl ?_
  refine xe_s (f := (17, _, _, _)) xt_g204 rfl rfl rfl rfl rfl ?_
  refine xe_alen xt_g204 rfl (q := 18) rfl (h2) (by decide) (by omega) ?_
  refine xe_cR xt_g204 rfl rfl rfl (q := 21) rfl (kc_S xk_17_38 (Nat.le_of_ble_eq_true rfl)) xt_g7 (by decide) ⟨Nat.le_of_ble_eq_true rfl, Nat.le_of_ble_eq_true rfl, Nat.le_of_ble_eq_true rfl⟩ (s7 ⟨by omega, by omega⟩ ⟨by omega, by omega⟩) ?_
  rw [show min (l.length : Int) l.length = l.length by omega]
  refine xe_s (f := (22, [(3, _), (2, _), (0, _), (1, _)], _, _)) xt_g204 rfl rfl rfl rfl rfl ?_
  refine xe_s (f := (23, _, _, _)) xt_g204 rfl rfl rfl rfl rfl ?_
  refine xe_s (f := (24, _, _, _)) xt_g204 rfl rfl rfl rfl rfl ?_
  refine xe_ic_lt xt_g204 rfl (t := 29) rfl (q := 27) rfl (by first | omega | exact xb_r _) (by first | omega | exact xb_r _) (fun b24 => ?_) (fun b24 => ?_)
  · try simp only [xb_0, xb_1, ne_eq, Decidable.not_not, Bool.not_eq_false, Bool.not_eq_true, decide_eq_true_eq, decide_eq_false_iff_not] at b24
    refine xe_s (f := (30, _, _, _)) xt_g204 rfl rfl rfl rfl rfl ?_
    refine xe_s (f := (31, _, _, _)) xt_g204 rfl rfl rfl rfl rfl ?_
    refine xe_s (f := (32, _, _, _)) xt_g204 rfl rfl rfl rfl rfl ?_
    refine xe_s (f := (33, _, _, _)) xt_g204 rfl rfl rfl rfl rfl ?_
    refine xe_cI xt_g204 rfl rfl rfl (q := 36) rfl (kc_S xk_17_95 (Nat.le_of_ble_eq_true rfl)) xt_g206 (by decide) ⟨Nat.le_of_ble_eq_true rfl, Nat.le_of_ble_eq_true rfl, Nat.le_of_ble_eq_true rfl⟩ (s206 G hb ha hl hc) (fun z h' n' c' u' hp => ?_)
    refine xe_iret xt_g204 rfl rfl xi_int.1 ?_
    try dsimp only
    exact ⟨z, rfl, hp.1, hp.2.1, hp.2.2.1, hp.2.2.2.1, hp.2.2.2.2.1, by have := hp.2.2.2.2.2; omega⟩
  · try simp only [xb_0, xb_1, ne_eq, Decidable.not_not, Bool.not_eq_false, Bool.not_eq_true, decide_eq_true_eq, decide_eq_false_iff_not] at b24
    refine xe_s (f := (28, _, xi (-1) :: _, _)) xt_g204 rfl rfl rfl rfl rfl ?_
    refine xe_iret xt_g204 rfl rfl xi_int.1 ?_
    try dsimp only
    have e : l = [] := List.length_eq_zero_iff.mp (by omega)
    subst e
    exact ⟨-1, rfl, by omega, by omega, ⟨fun _ => List.not_mem_nil, fun _ => by omega⟩, rfl, rfl, rfl⟩
theorem s203 {c : Int} (H : sS F h n r l) (hc : 0 ≤ c ∧ c < 128) : xI fm 203 h n [.ref r, xi c, xi 0] (fun z h' n' u' => -1 ≤ z ∧ z ≤ l.length ∧ (z < 0 ↔ c ∉ l) ∧ h' = h ∧ n' = n ∧ u' = 0) := by
  have G := H
  obtain ⟨b, x, y, h1, h2, h3, h4, h5, h6, h7, h8⟩ := H
  unfold xI
  refine xe_s (f := (1, _, _, _)) xt_g203 rfl rfl rfl rfl rfl ?_
  refine xe_cR xt_g203 rfl rfl rfl (q := 4) rfl (kc_V xk_15_492 rfl (h1) (by omega) rfl rfl) xt_g74 (by decide) ⟨Nat.le_of_ble_eq_true rfl, Nat.le_of_ble_eq_true rfl, Nat.le_of_ble_eq_true rfl⟩ (s74 G) ?_
  refine xe_s (f := (7, _, _, _)) xt_g203 rfl rfl rfl rfl rfl ?_
  refine xe_s (f := (8, _, _, _)) xt_g203 rfl rfl rfl rfl rfl ?_
  refine xe_gf xt_g203 rfl (q := 11) rfl (xf_15_9 fm) (h1) (by omega) rfl rfl ?_
  refine xe_s (f := (12, _, _, _)) xt_g203 rfl rfl rfl rfl rfl ?_
  refine xe_s (f := (13, _, _, _)) xt_g203 rfl rfl rfl rfl rfl ?_
  refine xe_s (f := (14, _, _, _)) xt_g203 rfl rfl rfl rfl rfl ?_
  refine xe_cR xt_g203 rfl rfl rfl (q := 17) rfl (kc_V xk_15_505 rfl (h1) (by omega) rfl rfl) xt_g31 (by decide) ⟨Nat.le_of_ble_eq_true rfl, Nat.le_of_ble_eq_true rfl, Nat.le_of_ble_eq_true rfl⟩ (s31 G) ?_
  refine xe_cI xt_g203 rfl rfl rfl (q := 20) rfl (kc_S xk_15_637 (Nat.le_of_ble_eq_true rfl)) xt_g204 (by decide) ⟨Nat.le_of_ble_eq_true rfl, Nat.le_of_ble_eq_true rfl, Nat.le_of_ble_eq_true rfl⟩ (s204 h2 h6 h7 h8 hc) (fun z h' n' c' u' hp => ?_)
  refine xe_s (f := (36, _, _, _)) xt_g203 rfl rfl rfl rfl rfl ?_
  refine xe_iret xt_g203 rfl rfl xi_int.1 ?_
  try dsimp only
  exact ⟨z, rfl, hp.1, hp.2.1, hp.2.2.1, hp.2.2.2.1, hp.2.2.2.2.1, by have := hp.2.2.2.2.2; omega⟩
theorem s202 {c : Int} (H : sS F h n r l) (hc : 0 ≤ c ∧ c < 128) : xI fm 202 h n [.ref r, xi c] (fun z h' n' u' => -1 ≤ z ∧ z ≤ l.length ∧ (z < 0 ↔ c ∉ l) ∧ h' = h ∧ n' = n ∧ u' = 0) := by
  have G := H
  obtain ⟨b, x, y, h1, h2, h3, h4, h5, h6, h7, h8⟩ := H
  unfold xI
  refine xe_s (f := (1, _, _, _)) xt_g202 rfl rfl rfl rfl rfl ?_
  refine xe_s (f := (2, _, _, _)) xt_g202 rfl rfl rfl rfl rfl ?_
  refine xe_s (f := (3, _, xi 0 :: _, _)) xt_g202 rfl rfl rfl rfl rfl ?_
  refine xe_cI xt_g202 rfl rfl rfl (q := 6) rfl (kc_V xk_15_633 rfl (h1) (by omega) rfl rfl) xt_g203 (by decide) ⟨Nat.le_of_ble_eq_true rfl, Nat.le_of_ble_eq_true rfl, Nat.le_of_ble_eq_true rfl⟩ (s203 G hc) (fun z h' n' c' u' hp => ?_)
  refine xe_iret xt_g202 rfl rfl xi_int.1 ?_
  try dsimp only
  exact ⟨z, rfl, hp.1, hp.2.1, hp.2.2.1, hp.2.2.2.1, hp.2.2.2.2.1, by have := hp.2.2.2.2.2; omega⟩
end XIX
