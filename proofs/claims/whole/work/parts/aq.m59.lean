/-! StringBuilders -/
def sB (h : xm_H) (n s b k : Nat) (l : List Int) : Prop := ∃ m : Int, h s = .inr (1, [.ref b, xi 0, xi m, xi l.length]) ∧ (m = 0 ∨ m = 1) ∧ sA h b k l ∧ 44 ≤ s ∧ s < n ∧ 44 ≤ b ∧ b < n ∧ asc l ∧ k < 20000
/-- what an operation on a StringBuilder does to the cells -/
def sbR (h : xm_H) (n s b k : Nat) (l : List Int) (h' : xm_H) (n' u' : Nat) : Prop := ∃ b' k', sB h' n' s b' k' l ∧ (b' = b ∨ b' = n) ∧ n ≤ n' ∧ n' ≤ n + (k' - k) ∧ (∀ a, a < n → a ≠ s → a ≠ b → h' a = h a) ∧ k ≤ k' ∧ u' ≤ 2 * (k' - k) ∧ k' ≤ max k (2 * l.length + 2)
section XBL
variable {fm : Value} {F F' : Nat → Prop} {h : xm_H} {n r s b k : Nat} {l t : List Int}
theorem sB_ne (H : sB h n s b k l) : s ≠ b := by
  obtain ⟨m, h1, h2, ⟨f, h3, h4⟩, h5⟩ := H
  intro e
  rw [e, h3] at h1
  cases h1
theorem s13 (H : sB h n s b k l) : xR fm 13 h n [.ref s] (some (xi l.length)) := by
  obtain ⟨m, h1, h2, h3, h4, h5, h6, h7, h8⟩ := H
  unfold xR
  refine xe_s (f := (1, _, _, _)) xt_g13 rfl rfl rfl rfl rfl ?_
  refine xe_gf xt_g13 rfl (q := 4) rfl (xf_14_79 fm) (h1) (by omega) rfl rfl ?_
  refine xe_iret xt_g13 rfl rfl xi_int.1 ?_
  exact ⟨rfl, rfl⟩
theorem s12 (H : sB h n s b k l) : xR fm 12 h n [.ref s] (some (xi l.length)) := by
  have G := H
  obtain ⟨m, h1, h2, h3, h4, h5, h6, h7, h8⟩ := H
  unfold xR
  refine xe_s (f := (1, _, _, _)) xt_g12 rfl rfl rfl rfl rfl ?_
  refine xe_cR xt_g12 rfl rfl rfl (q := 4) rfl (kc_Q xk_16_343 rfl (h1) (by omega) rfl rfl) xt_g13 (by decide) ⟨Nat.le_of_ble_eq_true rfl, Nat.le_of_ble_eq_true rfl, Nat.le_of_ble_eq_true rfl⟩ (s13 G) ?_
  refine xe_iret xt_g12 rfl rfl xi_int.1 ?_
  exact ⟨rfl, rfl⟩
theorem s51 (H : sB h n s b k l) : xR fm 51 h n [.ref s] (some (.ref b)) := by
  obtain ⟨m, h1, h2, h3, h4, h5, h6, h7, h8⟩ := H
  unfold xR
  refine xe_s (f := (1, _, _, _)) xt_g51 rfl rfl rfl rfl rfl ?_
  refine xe_gf xt_g51 rfl (q := 4) rfl (xf_14_15 fm) (h1) (by omega) rfl rfl ?_
  refine xe_aret xt_g51 rfl (Or.inr ⟨_, rfl⟩) rfl ?_
  exact ⟨rfl, rfl⟩
theorem s24 (H : sB h n s b k l) : xR fm 24 h n [.ref s] (some (xi 1)) := by
  obtain ⟨m, h1, h2, h3, h4, h5, h6, h7, h8⟩ := H
  unfold xR
  refine xe_s (f := (3, _, xi 1 :: _, _)) xt_g24 rfl rfl rfl rfl rfl ?_
  refine xe_s (f := (6, _, _, _)) xt_g24 rfl rfl rfl rfl rfl ?_
  refine xe_s (f := (7, _, _, _)) xt_g24 rfl rfl rfl rfl rfl ?_
  refine xe_gf xt_g24 rfl (q := 10) rfl (xf_14_22 fm) (h1) (by omega) rfl rfl ?_
  refine xe_s (f := (13, _, _, _)) xt_g24 rfl rfl rfl rfl rfl ?_
  refine xe_s (f := (14, _, xi 1 :: _, _)) xt_g24 rfl rfl rfl rfl rfl ?_
  refine xe_s (f := (18, _, _, _)) xt_g24 rfl rfl rfl rfl rfl ?_
  refine xe_iret xt_g24 rfl rfl (xi_bool (by first | omega | exact xb_or _)).1 ?_
  exact ⟨rfl, rfl⟩
theorem s21 {i j m : Int} (hi : 0 ≤ i) (hm : 0 ≤ m) (hj : 0 ≤ j) (h1 : i + max m j < 1000000) (h2 : 0 < i + max m j) : xR fm 21 h n [xi i, xi m, xi j] (some (xi (i + max m j))) := by
  unfold xR
  refine xe_s (f := (1, _, _, _)) xt_g21 rfl rfl rfl rfl rfl ?_
  refine xe_s (f := (2, _, _, _)) xt_g21 rfl rfl rfl rfl rfl ?_
  refine xe_s (f := (3, _, _, _)) xt_g21 rfl rfl rfl rfl rfl ?_
  refine xe_cR xt_g21 rfl rfl rfl (q := 6) rfl (kc_S xk_20_194 (Nat.le_of_ble_eq_true rfl)) xt_g8 (by decide) ⟨Nat.le_of_ble_eq_true rfl, Nat.le_of_ble_eq_true rfl, Nat.le_of_ble_eq_true rfl⟩ (s8 ⟨by omega, by omega⟩ ⟨by omega, by omega⟩) ?_
  refine xe_iadd xt_g21 rfl (q := 7) rfl ?_
  refine xe_s (f := (8, [(3, _), (0, _), (1, _), (2, _)], _, _)) xt_g21 rfl rfl rfl rfl rfl ?_
  refine xe_s (f := (9, _, xi 0 :: _, _)) xt_g21 rfl rfl rfl rfl rfl ?_
  refine xe_s (f := (10, _, _, _)) xt_g21 rfl rfl rfl rfl rfl ?_
  refine xe_ic_ge xt_g21 rfl (t := 21) rfl (q := 13) rfl (by first | omega | exact xb_r _) (by first | omega | exact xb_r _) (fun b10 => ?_) (fun b10 => ?_)
  · exact absurd b10 (by omega)
  · try simp only [xb_0, xb_1, ne_eq, Decidable.not_not, Bool.not_eq_false, Bool.not_eq_true, decide_eq_true_eq, decide_eq_false_iff_not] at b10
    refine xe_s (f := (14, _, _, _)) xt_g21 rfl rfl rfl rfl rfl ?_
    refine xe_ldci (z := 2147483639) xt_g21 rfl (q := 16) rfl rfl (by decide) ?_
    refine xe_ic_gt xt_g21 rfl (t := 21) rfl (q := 19) rfl (by first | omega | exact xb_r _) (by first | omega | exact xb_r _) (fun b16 => ?_) (fun b16 => ?_)
    · exact absurd b16 (by omega)
    · try simp only [xb_0, xb_1, ne_eq, Decidable.not_not, Bool.not_eq_false, Bool.not_eq_true, decide_eq_true_eq, decide_eq_false_iff_not] at b16
      refine xe_s (f := (20, _, _, _)) xt_g21 rfl rfl rfl rfl rfl ?_
      refine xe_iret xt_g21 rfl rfl xi_int.1 ?_
      exact ⟨rfl, rfl⟩
theorem s20 {m : Int} (H : sB h n s b k l) (hm : (k : Int) < m) (hm2 : m < 9000) : xR fm 20 h n [.ref s, xi m] (some (xi (k + max (m - k) (k + 2)))) := by
  obtain ⟨mm, h1, h2, ⟨f, h3, h9⟩, h4, h5, h6, h7, h8, h10⟩ := H
  unfold xR
  refine xe_s (f := (1, _, _, _)) xt_g20 rfl rfl rfl rfl rfl ?_
  refine xe_gf xt_g20 rfl (q := 4) rfl (xf_14_15 fm) (h1) (by omega) rfl rfl ?_
  refine xe_alen xt_g20 rfl (q := 5) rfl (h3) (by decide) (by omega) ?_
  refine xe_s (f := (6, [(2, _), (0, _), (1, _)], _, _)) xt_g20 rfl rfl rfl rfl rfl ?_
  refine xe_s (f := (7, _, _, _)) xt_g20 rfl rfl rfl rfl rfl ?_
  refine xe_s (f := (8, _, _, _)) xt_g20 rfl rfl rfl rfl rfl ?_
  refine xe_gf xt_g20 rfl (q := 11) rfl (xf_14_22 fm) (h1) (by omega) rfl rfl ?_
  refine xe_ishl0 xt_g20 rfl (q := 12) rfl ?_
  refine xe_s (f := (13, [(3, _), (2, _), (0, _), (1, _)], _, _)) xt_g20 rfl rfl rfl rfl rfl ?_
  refine xe_s (f := (14, _, _, _)) xt_g20 rfl rfl rfl rfl rfl ?_
  refine xe_s (f := (15, _, _, _)) xt_g20 rfl rfl rfl rfl rfl ?_
  refine xe_isub xt_g20 rfl (q := 16) rfl ?_
  refine xe_s (f := (18, [(4, _), (3, _), (2, _), (0, _), (1, _)], _, _)) xt_g20 rfl rfl rfl rfl rfl ?_
  refine xe_s (f := (19, _, _, _)) xt_g20 rfl rfl rfl rfl rfl ?_
  refine xe_s (f := (21, _, _, _)) xt_g20 rfl rfl rfl rfl rfl ?_
  refine xe_s (f := (22, _, _, _)) xt_g20 rfl rfl rfl rfl rfl ?_
  refine xe_s (f := (23, _, xi 2 :: _, _)) xt_g20 rfl rfl rfl rfl rfl ?_
  refine xe_s (f := (24, _, _, _)) xt_g20 rfl rfl rfl rfl rfl ?_
  refine xe_gf xt_g20 rfl (q := 27) rfl (xf_14_22 fm) (h1) (by omega) rfl rfl ?_
  refine xe_ishl0 xt_g20 rfl (q := 28) rfl ?_
  refine xe_iadd xt_g20 rfl (q := 29) rfl ?_
  refine xe_cR xt_g20 rfl rfl rfl (q := 32) rfl (kc_S xk_14_114 (Nat.le_of_ble_eq_true rfl)) xt_g21 (by decide) ⟨Nat.le_of_ble_eq_true rfl, Nat.le_of_ble_eq_true rfl, Nat.le_of_ble_eq_true rfl⟩ (s21 (by omega) (by omega) (by omega) (by omega) (by omega)) ?_
  refine xe_s (f := (34, [(5, _), (4, _), (3, _), (2, _), (0, _), (1, _)], _, _)) xt_g20 rfl rfl rfl rfl rfl ?_
  refine xe_s (f := (36, _, _, _)) xt_g20 rfl rfl rfl rfl rfl ?_
  refine xe_ldci (z := 2147483647) xt_g20 rfl (q := 38) rfl rfl (by decide) ?_
  refine xe_ic_ne xt_g20 rfl (t := 51) rfl (q := 41) rfl (by first | omega | exact xb_r _) (by first | omega | exact xb_r _) (fun b38 => ?_) (fun b38 => ?_)
  · try simp only [xb_0, xb_1, ne_eq, Decidable.not_not, Bool.not_eq_false, Bool.not_eq_true, decide_eq_true_eq, decide_eq_false_iff_not] at b38
    refine xe_s (f := (53, _, _, _)) xt_g20 rfl rfl rfl rfl rfl ?_
    refine xe_s (f := (54, _, _, _)) xt_g20 rfl rfl rfl rfl rfl ?_
    refine xe_gf xt_g20 rfl (q := 57) rfl (xf_14_22 fm) (h1) (by omega) rfl rfl ?_
    refine xe_ishr0 xt_g20 rfl (q := 58) rfl ?_
    refine xe_iret xt_g20 rfl rfl xi_int.1 ?_
    exact ⟨rfl, rfl⟩
  · exact absurd b38 (by omega)
theorem s23 {m : Int} (h44 : 44 ≤ n) (H : sA h b k l) (hb : b < n) (hk : (k : Int) < m) (hm : m < 20000) : xA fm 23 h n [.ref b, xi m] (fun x h' n' u' => x = n ∧ n' = n + 1 ∧ u' = m.toNat ∧ ex h n h' n' ∧ sA h' n m.toNat l) := by
  obtain ⟨f, h1, h2, h3⟩ := H
  unfold xA
  refine xe_s (f := (1, _, _, _)) xt_g23 rfl rfl rfl rfl rfl ?_
  refine xe_s (f := (2, _, _, _)) xt_g23 rfl rfl rfl rfl rfl ?_
  refine xe_alen xt_g23 rfl (q := 3) rfl (h1) (by decide) (by omega) ?_
  refine xe_ic_ne xt_g23 rfl (t := 14) rfl (q := 6) rfl (by first | omega | exact xb_r _) (by first | omega | exact xb_r _) (fun b3 => ?_) (fun b3 => ?_)
  · try simp only [xb_0, xb_1, ne_eq, Decidable.not_not, Bool.not_eq_false, Bool.not_eq_true, decide_eq_true_eq, decide_eq_false_iff_not] at b3
    refine xe_s (f := (15, _, _, _)) xt_g23 rfl rfl rfl rfl rfl ?_
    refine xe_nwa (t := 1) (ty := .byte) xt_g23 rfl (q := 17) rfl rfl rfl rfl rfl (by omega) (by decide) ?_
    refine xe_s (f := (18, [(2, _), (0, _), (1, _)], _, _)) xt_g23 rfl rfl rfl rfl rfl ?_
    refine xe_s (f := (19, _, _, _)) xt_g23 rfl rfl rfl rfl rfl ?_
    refine xe_s (f := (20, _, xi 0 :: _, _)) xt_g23 rfl rfl rfl rfl rfl ?_
    refine xe_s (f := (21, _, _, _)) xt_g23 rfl rfl rfl rfl rfl ?_
    refine xe_s (f := (22, _, xi 0 :: _, _)) xt_g23 rfl rfl rfl rfl rfl ?_
    refine xe_s (f := (23, _, _, _)) xt_g23 rfl rfl rfl rfl rfl ?_
    refine xe_alen xt_g23 rfl (q := 24) rfl ((va_up_n (by omega)).trans h1) (by decide) (by omega) ?_
    refine xe_s (f := (25, _, _, _)) xt_g23 rfl rfl rfl rfl rfl ?_
    refine xe_cR xt_g23 rfl rfl rfl (q := 28) rfl (kc_S xk_19_304 (Nat.le_of_ble_eq_true rfl)) xt_g7 (by decide) ⟨Nat.le_of_ble_eq_true rfl, Nat.le_of_ble_eq_true rfl, Nat.le_of_ble_eq_true rfl⟩ (s7 ⟨by omega, by omega⟩ ⟨by omega, by omega⟩) ?_
    rw [show min (k : Int) m = k by omega]
    refine xe_acp (ty := .byte) xt_g23 rfl (q := 31) rfl xz0_19_150 (xp_19_150 fm) ((va_up_n (by omega)).trans h1) (va_up_s) rfl rfl (by omega) (by omega) (by omega) (by omega) (by omega) (by omega) (by omega) (by omega) (Nat.le_of_ble_eq_true rfl) ?_
    refine xe_s (f := (32, _, _, _)) xt_g23 rfl rfl rfl rfl rfl ?_
    refine xe_aret xt_g23 rfl (Or.inr ⟨_, rfl⟩) rfl ?_
    try dsimp only
    refine ⟨n, rfl, rfl, rfl, by simp, ex_up2 ex_up (Nat.le_refl _), ?_⟩
    refine ⟨_, va_up_s, by omega, fun t ht => ?_⟩
    rw [show (0 : Int).toNat = 0 from rfl, cpy_lo (by omega), Nat.zero_add]
    exact h3 _ ht
  · exact absurd b3 (by omega)
/-- ensureCapacityInternal -/
theorem s19 {m : Int} (h44 : 44 ≤ n) (H : sB h n s b k l) (h0 : 0 ≤ m) (hm : m < 9000) : xN fm 19 h n [.ref s, xi m] (fun h' n' u' => ∃ b' k', sB h' n' s b' k' l ∧ (b' = b ∨ b' = n) ∧ n ≤ n' ∧ n' ≤ n + (k' - k) ∧ (∀ a, a < n → a ≠ s → a ≠ b → h' a = h a) ∧ k ≤ k' ∧ m ≤ k' ∧ u' ≤ 2 * (k' - k) ∧ k' ≤ max k (2 * m.toNat + 2)) := by
  have G := H
  have Gn := sB_ne H
  obtain ⟨mm, h1, h2, h3, h4, h5, h6, h7, h8, h9⟩ := H
  have ⟨f, h10, h11⟩ := h3
  unfold xN
  refine xe_s (f := (1, _, _, _)) xt_g19 rfl rfl rfl rfl rfl ?_
  refine xe_gf xt_g19 rfl (q := 4) rfl (xf_14_15 fm) (h1) (by omega) rfl rfl ?_
  refine xe_alen xt_g19 rfl (q := 5) rfl (h10) (by decide) (by omega) ?_
  refine xe_s (f := (6, _, _, _)) xt_g19 rfl rfl rfl rfl rfl ?_
  refine xe_gf xt_g19 rfl (q := 9) rfl (xf_14_22 fm) (h1) (by omega) rfl rfl ?_
  refine xe_ishr0 xt_g19 rfl (q := 10) rfl ?_
  refine xe_s (f := (11, [(2, _), (0, _), (1, _)], _, _)) xt_g19 rfl rfl rfl rfl rfl ?_
  refine xe_s (f := (12, _, _, _)) xt_g19 rfl rfl rfl rfl rfl ?_
  refine xe_s (f := (13, _, _, _)) xt_g19 rfl rfl rfl rfl rfl ?_
  refine xe_isub xt_g19 rfl (q := 14) rfl ?_
  refine xe_if_le xt_g19 rfl (t := 38) rfl (q := 17) rfl (by first | omega | exact xb_r _) (fun b14 => ?_) (fun b14 => ?_)
  · try simp only [xb_0, xb_1, ne_eq, Decidable.not_not, Bool.not_eq_false, Bool.not_eq_true, decide_eq_true_eq, decide_eq_false_iff_not] at b14
    refine xe_ret xt_g19 rfl rfl ?_
    try dsimp only
    exact ⟨rfl, b, k, G, Or.inl rfl, by omega, by omega, fun a _ _ _ => rfl, by omega, by omega, by omega, by omega⟩
  · try simp only [xb_0, xb_1, ne_eq, Decidable.not_not, Bool.not_eq_false, Bool.not_eq_true, decide_eq_true_eq, decide_eq_false_iff_not] at b14
    refine xe_s (f := (18, _, _, _)) xt_g19 rfl rfl rfl rfl rfl ?_
    refine xe_s (f := (19, _, _, _)) xt_g19 rfl rfl rfl rfl rfl ?_
    refine xe_gf xt_g19 rfl (q := 22) rfl (xf_14_15 fm) (h1) (by omega) rfl rfl ?_
    refine xe_s (f := (23, _, _, _)) xt_g19 rfl rfl rfl rfl rfl ?_
    refine xe_s (f := (24, _, _, _)) xt_g19 rfl rfl rfl rfl rfl ?_
    refine xe_cR xt_g19 rfl rfl rfl (q := 27) rfl (kc_V xk_14_104 rfl (h1) (by omega) rfl rfl) xt_g20 (by decide) ⟨Nat.le_of_ble_eq_true rfl, Nat.le_of_ble_eq_true rfl, Nat.le_of_ble_eq_true rfl⟩ (s20 G (by omega) hm) ?_
    refine xe_s (f := (28, _, _, _)) xt_g19 rfl rfl rfl rfl rfl ?_
    refine xe_gf xt_g19 rfl (q := 31) rfl (xf_14_22 fm) (h1) (by omega) rfl rfl ?_
    refine xe_ishl0 xt_g19 rfl (q := 32) rfl ?_
    refine xe_cA xt_g19 rfl rfl rfl (q := 35) rfl (kc_S xk_14_108 (Nat.le_of_ble_eq_true rfl)) xt_g23 (by decide) ⟨Nat.le_of_ble_eq_true rfl, Nat.le_of_ble_eq_true rfl, Nat.le_of_ble_eq_true rfl⟩ (s23 h44 h3 h7 (by omega) (by omega)) (fun x h1' n1 c1 u1 hp => ?_)
    obtain ⟨p1, p2, p3, p4, p5⟩ := hp
    replace p1 := p1.symm
    subst p1 p2
    refine xe_pf xt_g19 rfl (q := 38) rfl (xf_14_15 fm) ((p4.2 s h5).trans h1) (by omega) (by omega) rfl (Nat.le_of_ble_eq_true rfl) (Nat.le_of_ble_eq_true rfl) ⟨rfl, rfl⟩ (Or.inl rfl) ?_
    refine xe_ret xt_g19 rfl rfl ?_
    try dsimp only
    refine ⟨rfl, n, ((k : Int) + max (m - k) (k + 2)).toNat, ?_, Or.inr rfl, by omega, by omega, fun a ha hs hb => (va_up_n hs).trans (p4.2 a ha), by omega, by omega, by omega, by omega⟩
    exact ⟨mm, va_up_s, h2, sA_h p5 (va_up_n (by omega)), h4, by omega, by omega, by omega, h8, by omega⟩
theorem s19r {m : Int} (H : sB h n s b k l) (h0 : 0 ≤ m) (hm : m ≤ k) : xR fm 19 h n [.ref s, xi m] none := by
  obtain ⟨mm, h1, h2, h3, h4, h5, h6, h7, h8, h9⟩ := H
  have ⟨f, h10, h11⟩ := h3
  unfold xR
  refine xe_s (f := (1, _, _, _)) xt_g19 rfl rfl rfl rfl rfl ?_
  refine xe_gf xt_g19 rfl (q := 4) rfl (xf_14_15 fm) (h1) (by omega) rfl rfl ?_
  refine xe_alen xt_g19 rfl (q := 5) rfl (h10) (by decide) (by omega) ?_
  refine xe_s (f := (6, _, _, _)) xt_g19 rfl rfl rfl rfl rfl ?_
  refine xe_gf xt_g19 rfl (q := 9) rfl (xf_14_22 fm) (h1) (by omega) rfl rfl ?_
  refine xe_ishr0 xt_g19 rfl (q := 10) rfl ?_
  refine xe_s (f := (11, [(2, _), (0, _), (1, _)], _, _)) xt_g19 rfl rfl rfl rfl rfl ?_
  refine xe_s (f := (12, _, _, _)) xt_g19 rfl rfl rfl rfl rfl ?_
  refine xe_s (f := (13, _, _, _)) xt_g19 rfl rfl rfl rfl rfl ?_
  refine xe_isub xt_g19 rfl (q := 14) rfl ?_
  refine xe_if_le xt_g19 rfl (t := 38) rfl (q := 17) rfl (by first | omega | exact xb_r _) (fun b14 => ?_) (fun b14 => ?_)
  · try simp only [xb_0, xb_1, ne_eq, Decidable.not_not, Bool.not_eq_false, Bool.not_eq_true, decide_eq_true_eq, decide_eq_false_iff_not] at b14
    refine xe_ret xt_g19 rfl rfl ?_
    exact ⟨rfl, rfl⟩
  · exact absurd b14 (by omega)
/-- setLength, to no more than there is -/
theorem s15 {m : Int} (h44 : 44 ≤ n) (H : sB h n s b k l) (h0 : 0 ≤ m) (hm : m ≤ l.length) (hl : l.length < 9000) : xN fm 15 h n [.ref s, xi m] (fun h' n' u' => sB h' n s b k (l.take m.toNat) ∧ n' = n ∧ u' = 0 ∧ ∀ a, a ≠ s → h' a = h a) := by
  have G := H
  have Gn := sB_ne H
  obtain ⟨mm, h1, h2, h3, h4, h5, h6, h7, h8, h9⟩ := H
  have ⟨f, h10, h11, h12⟩ := h3
  have tl : (l.take m.toNat).length = m.toNat := by rw [List.length_take]; omega
  have tg : ∀ i, i < m.toNat → (l.take m.toNat).getD i 0 = l.getD i 0 := by
    intro i hi
    rw [List.getD_eq_getElem?_getD, List.getElem?_take, if_pos hi, ← List.getD_eq_getElem?_getD]
  have ta : asc (l.take m.toNat) := by
    refine asc_get (fun i hi => ?_)
    rw [tl] at hi
    rw [tg i hi]
    exact h8 i
  have tA : sA h b k (l.take m.toNat) := by
    refine ⟨f, h10, by omega, fun i hi => ?_⟩
    rw [tl] at hi
    rw [tg i hi]
    exact h12 i (by omega)
  unfold xN
  refine xe_s (f := (1, _, _, _)) xt_g15 rfl rfl rfl rfl rfl ?_
  refine xe_if_ge xt_g15 rfl (t := 13) rfl (q := 4) rfl (by first | omega | exact xb_r _) (fun b1 => ?_) (fun b1 => ?_)
  · try simp only [xb_0, xb_1, ne_eq, Decidable.not_not, Bool.not_eq_false, Bool.not_eq_true, decide_eq_true_eq, decide_eq_false_iff_not] at b1
    refine xe_s (f := (14, _, _, _)) xt_g15 rfl rfl rfl rfl rfl ?_
    refine xe_s (f := (15, _, _, _)) xt_g15 rfl rfl rfl rfl rfl ?_
    refine xe_cRn xt_g15 rfl rfl rfl (q := 18) rfl (kc_V xk_14_100 rfl (h1) (by omega) rfl rfl) xt_g19 (by decide) ⟨Nat.le_of_ble_eq_true rfl, Nat.le_of_ble_eq_true rfl, Nat.le_of_ble_eq_true rfl⟩ (s19r G h0 (by omega)) ?_
    refine xe_s (f := (19, _, _, _)) xt_g15 rfl rfl rfl rfl rfl ?_
    refine xe_gf xt_g15 rfl (q := 22) rfl (xf_14_79 fm) (h1) (by omega) rfl rfl ?_
    refine xe_s (f := (23, _, _, _)) xt_g15 rfl rfl rfl rfl rfl ?_
    refine xe_ic_ge xt_g15 rfl (t := 63) rfl (q := 26) rfl (by first | omega | exact xb_r _) (by first | omega | exact xb_r _) (fun b23 => ?_) (fun b23 => ?_)
    · try simp only [xb_0, xb_1, ne_eq, Decidable.not_not, Bool.not_eq_false, Bool.not_eq_true, decide_eq_true_eq, decide_eq_false_iff_not] at b23
      refine xe_s (f := (64, _, _, _)) xt_g15 rfl rfl rfl rfl rfl ?_
      refine xe_gf xt_g15 rfl (q := 67) rfl (xf_14_79 fm) (h1) (by omega) rfl rfl ?_
      refine xe_s (f := (68, _, _, _)) xt_g15 rfl rfl rfl rfl rfl ?_
      refine xe_ic_le xt_g15 rfl (t := 76) rfl (q := 71) rfl (by first | omega | exact xb_r _) (by first | omega | exact xb_r _) (fun b68 => ?_) (fun b68 => ?_)
      · try simp only [xb_0, xb_1, ne_eq, Decidable.not_not, Bool.not_eq_false, Bool.not_eq_true, decide_eq_true_eq, decide_eq_false_iff_not] at b68
        refine xe_s (f := (77, _, _, _)) xt_g15 rfl rfl rfl rfl rfl ?_
        refine xe_s (f := (78, _, _, _)) xt_g15 rfl rfl rfl rfl rfl ?_
        refine xe_pf xt_g15 rfl (q := 81) rfl (xf_14_79 fm) (h1) (by omega) (by omega) rfl (Nat.le_of_ble_eq_true rfl) (Nat.le_of_ble_eq_true rfl) xi_int (Or.inl rfl) ?_
        refine xe_ret xt_g15 rfl rfl ?_
        try dsimp only
        refine ⟨rfl, ⟨mm, va_up_s.trans (by rw [tl, Int.toNat_of_nonneg h0]; rfl), h2, sA_h tA (va_up_n (by omega)), h4, h5, h6, h7, ta, h9⟩, rfl, rfl, fun a ha => va_up_n ha⟩
      · try simp only [xb_0, xb_1, ne_eq, Decidable.not_not, Bool.not_eq_false, Bool.not_eq_true, decide_eq_true_eq, decide_eq_false_iff_not] at b68
        refine xe_s (f := (72, _, _, _)) xt_g15 rfl rfl rfl rfl rfl ?_
        refine xe_s (f := (73, _, xi 1 :: _, _)) xt_g15 rfl rfl rfl rfl rfl ?_
        refine xe_pf xt_g15 rfl (q := 76) rfl (xf_14_73 fm) (h1) (by omega) (by omega) rfl (Nat.le_of_ble_eq_true rfl) (Nat.le_of_ble_eq_true rfl) (xi_bool (by first | omega | exact xb_or _)) (Or.inl rfl) ?_
        refine xe_s (f := (77, _, _, _)) xt_g15 rfl rfl rfl rfl rfl ?_
        refine xe_s (f := (78, _, _, _)) xt_g15 rfl rfl rfl rfl rfl ?_
        refine xe_pf xt_g15 rfl (q := 81) rfl (xf_14_79 fm) (va_up_s) (by omega) (by omega) rfl (Nat.le_of_ble_eq_true rfl) (Nat.le_of_ble_eq_true rfl) xi_int (Or.inl rfl) ?_
        refine xe_ret xt_g15 rfl rfl ?_
        try dsimp only
        refine ⟨rfl, ⟨1, va_up_s.trans (by rw [tl, Int.toNat_of_nonneg h0]; rfl), Or.inr rfl, sA_h tA ((va_up_n (by omega)).trans (va_up_n (by omega))), h4, h5, h6, h7, ta, h9⟩, rfl, rfl, fun a ha => (va_up_n ha).trans (va_up_n ha)⟩
    · exact absurd b23 (by omega)
  · exact absurd b1 (by omega)
theorem s14 {m : Int} (h44 : 44 ≤ n) (H : sB h n s b k l) (h0 : 0 ≤ m) (hm : m ≤ l.length) (hl : l.length < 9000) : xN fm 14 h n [.ref s, xi m] (fun h' n' u' => sB h' n s b k (l.take m.toNat) ∧ n' = n ∧ u' = 0 ∧ ∀ a, a ≠ s → h' a = h a) := by
  have G := H
  obtain ⟨mm, h1, h2, h3, h4, h5, h6, h7, h8, h9⟩ := H
  unfold xN
  refine xe_s (f := (1, _, _, _)) xt_g14 rfl rfl rfl rfl rfl ?_
  refine xe_s (f := (2, _, _, _)) xt_g14 rfl rfl rfl rfl rfl ?_
  refine xe_cN xt_g14 rfl rfl rfl (q := 5) rfl (kc_Q xk_16_333 rfl (h1) (by omega) rfl rfl) xt_g15 (by decide) ⟨Nat.le_of_ble_eq_true rfl, Nat.le_of_ble_eq_true rfl, Nat.le_of_ble_eq_true rfl⟩ (s15 h44 G h0 hm hl) (fun h' n' c' u' hp => ?_)
  refine xe_ret xt_g14 rfl rfl ?_
  try dsimp only
  exact ⟨rfl, hp.1, hp.2.1, by omega, hp.2.2.2⟩
theorem sB_h {h' : xm_H} {n' : Nat} (H : sB h n s b k l) (hn : n ≤ n') (e1 : h' s = h s) (e2 : h' b = h b) : sB h' n' s b k l := by
  obtain ⟨mm, h1, h2, h3, h4, h5, h6, h7, h8, h9⟩ := H
  exact ⟨mm, e1.trans h1, h2, sA_h h3 e2, h4, by omega, h6, by omega, h8, h9⟩
/-- append of a character -/
theorem asc_app {l t : List Int} (h : asc l) (h' : asc t) : asc (l ++ t) := by
  refine asc_get (fun i hi => ?_)
  by_cases g : i < l.length
  · rw [xg_l g]
    exact h i
  · rw [xg_r (by omega)]
    exact h' _
theorem s65 {c : Int} (hc : 0 ≤ c ∧ c < 256) : xR fm 65 h n [xi c] (some (xi 1)) := by
  unfold xR
  refine xe_s (f := (1, _, _, _)) xt_g65 rfl rfl rfl rfl rfl ?_
  refine xe_sipush xt_g65 rfl (q := 4) rfl (by decide) (by decide) ?_
  refine xe_ic_gt xt_g65 rfl (t := 11) rfl (q := 7) rfl (by first | omega | exact xb_r _) (by first | omega | exact xb_r _) (fun b4 => ?_) (fun b4 => ?_)
  · exact absurd b4 (by omega)
  · try simp only [xb_0, xb_1, ne_eq, Decidable.not_not, Bool.not_eq_false, Bool.not_eq_true, decide_eq_true_eq, decide_eq_false_iff_not] at b4
    refine xe_s (f := (8, _, xi 1 :: _, _)) xt_g65 rfl rfl rfl rfl rfl ?_
    refine xe_s (f := (12, _, _, _)) xt_g65 rfl rfl rfl rfl rfl ?_
    refine xe_iret xt_g65 rfl rfl (xi_bool (by first | omega | exact xb_or _)).1 ?_
    exact ⟨rfl, rfl⟩
theorem sA_up {f : Nat → Int32} {c : Int} (h1 : h b = .inl (1, k, .inl f)) (h2 : l.length + 1 ≤ k) (h3 : ∀ i, i < l.length → f i = Int32.ofInt (l.getD i 0)) : sA (va_up h b (.inl (1, k, .inl (upd f l.length (Int32.ofInt c))))) b k (l ++ [c]) := by
  refine ⟨_, va_up_s, by rw [List.length_append, List.length_singleton]; exact h2, fun i hi => ?_⟩
  rw [List.length_append, List.length_singleton] at hi
  by_cases g : i < l.length
  · rw [xg_l g, ← h3 i g]
    unfold upd
    rw [if_neg (by omega)]
  · rw [xg_r (by omega), show i = l.length by omega, Nat.sub_self]
    unfold upd
    rw [if_pos rfl]
    rfl
theorem s64 {c : Int} (h44 : 44 ≤ n) (H : sB h n s b k l) (hc : 0 ≤ c ∧ c < 128) (hl : l.length < 8000) : xA fm 64 h n [.ref s, xi c] (fun x h' n' u' => x = s ∧ sbR h n s b k (l ++ [c]) h' n' u') := by
  have G := H
  have Gn := sB_ne H
  obtain ⟨mm, h1, h2, h3, h4, h5, h6, h7, h8, h9⟩ := H
  unfold xA
  refine xe_s (f := (1, _, _, _)) xt_g64 rfl rfl rfl rfl rfl ?_
  refine xe_s (f := (2, _, _, _)) xt_g64 rfl rfl rfl rfl rfl ?_
  refine xe_gf xt_g64 rfl (q := 5) rfl (xf_14_79 fm) (h1) (by omega) rfl rfl ?_
  refine xe_s (f := (6, _, xi 1 :: _, _)) xt_g64 rfl rfl rfl rfl rfl ?_
  refine xe_iadd xt_g64 rfl (q := 7) rfl ?_
  refine xe_cN xt_g64 rfl rfl rfl (q := 10) rfl (kc_V xk_14_100 rfl (h1) (by omega) rfl rfl) xt_g19 (by decide) ⟨Nat.le_of_ble_eq_true rfl, Nat.le_of_ble_eq_true rfl, Nat.le_of_ble_eq_true rfl⟩ (s19 h44 G (by omega) (by omega)) (fun h' n' c' u' hp => ?_)
  obtain ⟨b', k', p1, p2, p3, p4, p5, p6, p7, p8, p9⟩ := hp
  have Pn := sB_ne p1
  have ⟨mm', g1, g2, g3, g4, g5, g6, g7, g8, g9⟩ := p1
  have ⟨f, g10, g11, g12⟩ := g3
  refine xe_s (f := (11, _, _, _)) xt_g64 rfl rfl rfl rfl rfl ?_
  refine xe_cR xt_g64 rfl rfl rfl (q := 14) rfl (kc_V xk_14_83 rfl (g1) (by omega) rfl rfl) xt_g24 (by decide) ⟨Nat.le_of_ble_eq_true rfl, Nat.le_of_ble_eq_true rfl, Nat.le_of_ble_eq_true rfl⟩ (s24 p1) ?_
  refine xe_s (f := (17, _, _, _)) xt_g64 rfl rfl rfl rfl rfl ?_
  refine xe_s (f := (18, _, _, _)) xt_g64 rfl rfl rfl rfl rfl ?_
  refine xe_cR xt_g64 rfl rfl rfl (q := 21) rfl (kc_S xk_14_191 (Nat.le_of_ble_eq_true rfl)) xt_g65 (by decide) ⟨Nat.le_of_ble_eq_true rfl, Nat.le_of_ble_eq_true rfl, Nat.le_of_ble_eq_true rfl⟩ (s65 (by omega)) ?_
  refine xe_s (f := (24, _, _, _)) xt_g64 rfl rfl rfl rfl rfl ?_
  refine xe_s (f := (25, _, _, _)) xt_g64 rfl rfl rfl rfl rfl ?_
  refine xe_gf xt_g64 rfl (q := 28) rfl (xf_14_15 fm) (g1) (by omega) rfl rfl ?_
  refine xe_s (f := (29, _, _, _)) xt_g64 rfl rfl rfl rfl rfl ?_
  refine xe_s (f := (30, _, _, _)) xt_g64 rfl rfl rfl rfl rfl ?_
  refine xe_gf xt_g64 rfl (q := 33) rfl (xf_14_79 fm) (g1) (by omega) rfl rfl ?_
  refine xe_s (f := (34, _, _, _)) xt_g64 rfl rfl rfl rfl rfl ?_
  refine xe_s (f := (35, _, xi 1 :: _, _)) xt_g64 rfl rfl rfl rfl rfl ?_
  refine xe_iadd xt_g64 rfl (q := 36) rfl ?_
  refine xe_pf xt_g64 rfl (q := 39) rfl (xf_14_79 fm) (g1) (by omega) (by omega) rfl (Nat.le_of_ble_eq_true rfl) (Nat.le_of_ble_eq_true rfl) xi_int (Or.inl rfl) ?_
  refine xe_s (f := (40, _, _, _)) xt_g64 rfl rfl rfl rfl rfl ?_
  refine xe_i2b xt_g64 rfl (q := 41) rfl (by omega) ?_
  refine xe_as (ok := xm_isB) (ty := .byte) xt_g64 rfl (q := 42) rfl (fun _ _ => ⟨rfl, rfl, rfl, rfl⟩) ((va_up_n (by omega)).trans g10) rfl rfl (by omega) (by omega) (by omega) (by omega) (by omega) (xi_ny (by omega)) ?_
  refine xe_s (f := (75, _, _, _)) xt_g64 rfl rfl rfl rfl rfl ?_
  refine xe_s (f := (76, _, _, _)) xt_g64 rfl rfl rfl rfl rfl ?_
  refine xe_aret xt_g64 rfl (Or.inl ⟨_, rfl⟩) rfl ?_
  try dsimp only
  have ll : (l ++ [c]).length = l.length + 1 := by simp
  refine ⟨s, rfl, rfl, b', k', ⟨mm', ?_, g2, ?_, g4, g5, g6, g7, asc_app g8 (asc_get (fun i hi => ?_)), g9⟩, p2, p3, p4, ?_, p6, by omega, by omega⟩
  · refine (va_up_n (by omega)).trans (va_up_s.trans ?_)
    rw [ll]
    rfl
  · rw [Int.toNat_natCast]
    exact sA_up ((va_up_n (by omega)).trans g10) (by omega) g12
  · rw [show i = 0 by simpa using hi]
    exact hc
  · intro a ha hs hb
    refine (va_up_n ?_).trans ((va_up_n hs).trans (p5 a ha hs hb))
    rcases p2 with e | e
    · rw [e]; exact hb
    · omega
theorem s63 {c : Int} (h44 : 44 ≤ n) (H : sB h n s b k l) (hc : 0 ≤ c ∧ c < 128) (hl : l.length < 8000) : xA fm 63 h n [.ref s, xi c] (fun x h' n' u' => x = s ∧ sbR h n s b k (l ++ [c]) h' n' u') := by
  have G := H
  obtain ⟨mm, h1, h2, h3, h4, h5, h6, h7, h8, h9⟩ := H
  unfold xA
  refine xe_s (f := (1, _, _, _)) xt_g63 rfl rfl rfl rfl rfl ?_
  refine xe_s (f := (2, _, _, _)) xt_g63 rfl rfl rfl rfl rfl ?_
  refine xe_cA xt_g63 rfl rfl rfl (q := 5) rfl (kc_Q xk_16_50 rfl (h1) (by omega) rfl rfl) xt_g64 (by decide) ⟨Nat.le_of_ble_eq_true rfl, Nat.le_of_ble_eq_true rfl, Nat.le_of_ble_eq_true rfl⟩ (s64 h44 G hc hl) (fun x h' n' c' u' hp => ?_)
  refine xe_s (f := (6, _, _, _)) xt_g63 rfl rfl rfl rfl rfl ?_
  refine xe_s (f := (7, _, _, _)) xt_g63 rfl rfl rfl rfl rfl ?_
  refine xe_aret xt_g63 rfl (Or.inl ⟨_, rfl⟩) rfl ?_
  try dsimp only
  exact ⟨s, rfl, rfl, by simpa using hp.2⟩
end XBL
