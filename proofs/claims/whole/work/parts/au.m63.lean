/-! characters: toCharArray, String of characters, small -/
def cA (h : xm_H) (b : Nat) (l : List Int) : Prop := ∃ f : Nat → Int32, h b = .inl (2, l.length, .inl f) ∧ ∀ i, i < l.length → f i = Int32.ofInt (l.getD i 0)
theorem upd_s {f : Nat → Int32} {i : Nat} {v : Int32} : upd f i v i = v := by
  unfold upd
  rw [if_pos rfl]
theorem upd_n {f : Nat → Int32} {i j : Nat} {v : Int32} (h : j ≠ i) : upd f i v j = f j := by
  unfold upd
  rw [if_neg h]
section XCH
variable {fm : Value} {F F' : Nat → Prop} {h : xm_H} {n r s b d k : Nat} {l t : List Int}
theorem s76_loop (H : sA h b l.length l) (hb : b < n) (ha : asc l) (hl : l.length < 10000) (hd : d ≠ b) (hd4 : 44 ≤ d) (hdn : d < n) : ∀ (k i : Nat), l.length - i = k → i ≤ l.length → ∀ (hh : xm_H) (g : Nat → Int32), hh d = .inl (2, l.length, .inl g) → (∀ a, a ≠ d → hh a = h a) → (∀ j, j < i → g j = Int32.ofInt (l.getD j 0)) →
    xe fm 76 (3, [(5, xi i), (1, xi i), (3, xi i), (0, .ref b), (2, .ref d), (4, xi l.length)], [], (hh, n, 0, 0)) (fun r M => r = .inl none ∧ cA M.1 d l ∧ (∀ a, a ≠ d → M.1 a = h a) ∧ M.2.1 = n ∧ M.2.2.2 = 0) := by
  obtain ⟨f, h2, h8, h9⟩ := H
  intro k
  induction k with
  | zero =>
    intro i hk hi hh g e1 e2 e3
    refine xe_s (f := (5, _, _, _)) xt_g76 rfl rfl rfl rfl rfl ?_
    refine xe_s (f := (7, _, _, _)) xt_g76 rfl rfl rfl rfl rfl ?_
    refine xe_ic_ge xt_g76 rfl (t := 33) rfl (q := 10) rfl (by first | omega | exact xb_r _) (by first | omega | exact xb_r _) (fun b7 => ?_) (fun b7 => ?_)
    · try simp only [xb_0, xb_1, ne_eq, Decidable.not_not, Bool.not_eq_false, Bool.not_eq_true, decide_eq_true_eq, decide_eq_false_iff_not] at b7
      refine xe_ret xt_g76 rfl rfl ?_
      try dsimp only
      exact ⟨rfl, ⟨g, e1, fun j hj => e3 j (by omega)⟩, e2, rfl, rfl⟩
    · exact absurd b7 (by omega)
  | succ k ih =>
    intro i hk hi hh g e1 e2 e3
    have a1 := ha (i : Int).toNat
    refine xe_s (f := (5, _, _, _)) xt_g76 rfl rfl rfl rfl rfl ?_
    refine xe_s (f := (7, _, _, _)) xt_g76 rfl rfl rfl rfl rfl ?_
    refine xe_ic_ge xt_g76 rfl (t := 33) rfl (q := 10) rfl (by first | omega | exact xb_r _) (by first | omega | exact xb_r _) (fun b7 => ?_) (fun b7 => ?_)
    · exact absurd b7 (by omega)
    · try simp only [xb_0, xb_1, ne_eq, Decidable.not_not, Bool.not_eq_false, Bool.not_eq_true, decide_eq_true_eq, decide_eq_false_iff_not] at b7
      refine xe_s (f := (11, _, _, _)) xt_g76 rfl rfl rfl rfl rfl ?_
      refine xe_s (f := (12, _, _, _)) xt_g76 rfl rfl rfl rfl rfl ?_
      refine xe_iinc xt_g76 rfl (q := 15) rfl rfl (by decide) (L1 := [(3, _), (5, _), (1, _), (0, _), (2, _), (4, _)]) rfl ?_
      refine xe_s (f := (16, _, _, _)) xt_g76 rfl rfl rfl rfl rfl ?_
      refine xe_s (f := (17, _, _, _)) xt_g76 rfl rfl rfl rfl rfl ?_
      refine xe_iinc xt_g76 rfl (q := 20) rfl rfl (by decide) (L1 := [(1, _), (3, _), (5, _), (0, _), (2, _), (4, _)]) rfl ?_
      refine xe_al (ok := xm_isB) (ty := .byte) xt_g76 rfl (q := 21) rfl (fun _ _ => ⟨rfl, rfl, rfl, rfl⟩) ((e2 b hd.symm).trans h2) rfl rfl (by omega) (by omega) (by omega) (by omega) (h9 _ (by omega)) ?_
      refine xe_sipush xt_g76 rfl (q := 24) rfl (by decide) (by decide) ?_
      refine xe_and255 xt_g76 rfl (q := 25) rfl (by omega) ?_
      refine xe_i2c xt_g76 rfl (q := 26) rfl (by omega) ?_
      refine xe_as (ok := xm_isC) (ty := .char) xt_g76 rfl (q := 27) rfl (fun _ _ => ⟨rfl, rfl, rfl, rfl⟩) (e1) rfl rfl (by omega) (by omega) (by omega) (by omega) (by omega) (xi_nc (by omega)) ?_
      refine xe_iinc xt_g76 rfl (q := 30) rfl rfl (by decide) (L1 := [(5, _), (1, _), (3, _), (0, _), (2, _), (4, _)]) rfl ?_
      refine xe_s (f := (3, _, _, _)) xt_g76 rfl rfl rfl rfl rfl ?_
      have g0 := ih (i + 1) (by omega) (by omega) (va_up hh d (.inl (2, l.length, .inl (upd g (i : Int).toNat (Int32.ofInt (l.getD (i : Int).toNat 0)))))) (upd g (i : Int).toNat (Int32.ofInt (l.getD (i : Int).toNat 0))) va_up_s (fun a ha => (va_up_n ha).trans (e2 a ha)) (fun j hj => by
        by_cases e : j = i
        · rw [e, Int.toNat_natCast, upd_s]
        · rw [Int.toNat_natCast, upd_n e]; exact e3 j (by omega))
      exact xe_loc (by intro q hq; simp only [List.mem_cons, List.not_mem_nil, or_false] at hq; rcases hq with rfl | rfl | rfl | rfl | rfl | rfl <;> rfl) (g0)
theorem s76 (H : sA h b l.length l) (hb : b < n) (ha : asc l) (hl : l.length < 10000) (hd : d ≠ b) (hd4 : 44 ≤ d) (hdn : d < n) {g : Nat → Int32} (hg : h d = .inl (2, l.length, .inl g)) : xN fm 76 h n [.ref b, xi 0, .ref d, xi 0, xi l.length] (fun h' n' u' => cA h' d l ∧ (∀ a, a ≠ d → h' a = h a) ∧ n' = n ∧ u' = 0) := by
  unfold xN
  refine xe_s (f := (1, _, xi 0 :: _, _)) xt_g76 rfl rfl rfl rfl rfl ?_
  refine xe_s (f := (3, [(5, _), (0, _), (1, _), (2, _), (3, _), (4, _)], _, _)) xt_g76 rfl rfl rfl rfl rfl ?_
  have g0 := s76_loop (fm := fm) H hb ha hl hd hd4 hdn _ 0 rfl (Nat.zero_le _) h g hg (fun _ _ => rfl) (fun j hj => absurd hj (Nat.not_lt_zero j))
  exact xe_loc (by intro q hq; simp only [List.mem_cons, List.not_mem_nil, or_false] at hq; rcases hq with rfl | rfl | rfl | rfl | rfl | rfl <;> rfl) (g0)
theorem s75 (h44 : 44 ≤ n) (H : sA h b l.length l) (hb : b < n) (ha : asc l) (hl : l.length < 10000) : xA fm 75 h n [.ref b] (fun x h' n' u' => x = n ∧ cA h' n l ∧ ex h n h' n' ∧ n' = n + 1 ∧ u' = l.length) := by
  have ⟨f, h2, h8, h9⟩ := H
  unfold xA
  refine xe_s (f := (1, _, _, _)) xt_g75 rfl rfl rfl rfl rfl ?_
  refine xe_alen xt_g75 rfl (q := 2) rfl (h2) (by decide) (by omega) ?_
  refine xe_nwa (t := 2) (ty := .char) xt_g75 rfl (q := 4) rfl rfl rfl rfl rfl (by omega) (by decide) ?_
  rw [Int.toNat_natCast]
  refine xe_s (f := (5, [(1, _), (0, _)], _, _)) xt_g75 rfl rfl rfl rfl rfl ?_
  refine xe_s (f := (6, _, _, _)) xt_g75 rfl rfl rfl rfl rfl ?_
  refine xe_s (f := (7, _, xi 0 :: _, _)) xt_g75 rfl rfl rfl rfl rfl ?_
  refine xe_s (f := (8, _, _, _)) xt_g75 rfl rfl rfl rfl rfl ?_
  refine xe_s (f := (9, _, xi 0 :: _, _)) xt_g75 rfl rfl rfl rfl rfl ?_
  refine xe_s (f := (10, _, _, _)) xt_g75 rfl rfl rfl rfl rfl ?_
  refine xe_alen xt_g75 rfl (q := 11) rfl ((va_up_n (by omega)).trans h2) (by decide) (by omega) ?_
  refine xe_cN xt_g75 rfl rfl rfl (q := 14) rfl (kc_S xk_17_13 (Nat.le_of_ble_eq_true rfl)) xt_g76 (by decide) ⟨Nat.le_of_ble_eq_true rfl, Nat.le_of_ble_eq_true rfl, Nat.le_of_ble_eq_true rfl⟩ (s76 (sA_h H (va_up_n (by omega))) (by omega) ha hl (by omega) (by omega) (by omega) va_up_s) (fun h' n' c' u' hp => ?_)
  refine xe_s (f := (15, _, _, _)) xt_g75 rfl rfl rfl rfl rfl ?_
  refine xe_aret xt_g75 rfl (Or.inr ⟨_, rfl⟩) rfl ?_
  try dsimp only
  obtain ⟨p1, p2, p3, p4⟩ := hp
  subst p3 p4
  exact ⟨n, rfl, rfl, p1, ⟨by omega, fun a ha => (p2 a (by omega)).trans (va_up_n (by omega))⟩, rfl, by omega⟩
theorem s73 (h44 : 44 ≤ n) (H : sS F h n r l) : xA fm 73 h n [.ref r] (fun x h' n' u' => x = n ∧ cA h' n l ∧ ex h n h' n' ∧ n' = n + 1 ∧ u' = l.length) := by
  have G := H
  obtain ⟨b, x, y, h1, h2, h3, h4, h5, h6, h7, h8⟩ := H
  unfold xA
  refine xe_s (f := (1, _, _, _)) xt_g73 rfl rfl rfl rfl rfl ?_
  refine xe_cR xt_g73 rfl rfl rfl (q := 4) rfl (kc_V xk_15_492 rfl (h1) (by omega) rfl rfl) xt_g74 (by decide) ⟨Nat.le_of_ble_eq_true rfl, Nat.le_of_ble_eq_true rfl, Nat.le_of_ble_eq_true rfl⟩ (s74 G) ?_
  refine xe_s (f := (7, _, _, _)) xt_g73 rfl rfl rfl rfl rfl ?_
  refine xe_s (f := (8, _, _, _)) xt_g73 rfl rfl rfl rfl rfl ?_
  refine xe_gf xt_g73 rfl (q := 11) rfl (xf_15_9 fm) (h1) (by omega) rfl rfl ?_
  refine xe_cA xt_g73 rfl rfl rfl (q := 14) rfl (kc_S xk_15_299 (Nat.le_of_ble_eq_true rfl)) xt_g75 (by decide) ⟨Nat.le_of_ble_eq_true rfl, Nat.le_of_ble_eq_true rfl, Nat.le_of_ble_eq_true rfl⟩ (s75 h44 h2 h6 h7 h8) (fun x' h' n' c' u' hp => ?_)
  refine xe_s (f := (24, _, _, _)) xt_g73 rfl rfl rfl rfl rfl ?_
  refine xe_aret xt_g73 rfl (Or.inr ⟨_, rfl⟩) rfl ?_
  try dsimp only
  exact ⟨x', rfl, hp.1, hp.2.1, hp.2.2.1, hp.2.2.2.1, by omega⟩
/-- the bytes of characters -/
theorem s82_loop (H : cA h b l) (hb : b < n) (ha : asc l) (hl : l.length < 10000) (hd : d ≠ b) (hd4 : 44 ≤ d) (hdn : d < n) : ∀ (k i : Nat), l.length - i = k → i ≤ l.length → ∀ (hh : xm_H) (g : Nat → Int32), hh d = .inl (1, l.length, .inl g) → (∀ a, a ≠ d → hh a = h a) → (∀ j, j < i → g j = Int32.ofInt (l.getD j 0)) →
    xe fm 82 (3, [(5, xi i), (1, xi i), (3, xi i), (0, .ref b), (2, .ref d), (4, xi l.length)], [], (hh, n, 0, 0)) (fun r M => ∃ z : Int, r = .inl (some (xi z)) ∧ z = l.length ∧ sA M.1 d l.length l ∧ (∀ a, a ≠ d → M.1 a = h a) ∧ M.2.1 = n ∧ M.2.2.2 = 0) := by
  obtain ⟨f, h2, h9⟩ := H
  intro k
  induction k with
  | zero =>
    intro i hk hi hh g e1 e2 e3
    refine xe_s (f := (5, _, _, _)) xt_g82 rfl rfl rfl rfl rfl ?_
    refine xe_s (f := (7, _, _, _)) xt_g82 rfl rfl rfl rfl rfl ?_
    refine xe_ic_ge xt_g82 rfl (t := 44) rfl (q := 10) rfl (by first | omega | exact xb_r _) (by first | omega | exact xb_r _) (fun b7 => ?_) (fun b7 => ?_)
    · try simp only [xb_0, xb_1, ne_eq, Decidable.not_not, Bool.not_eq_false, Bool.not_eq_true, decide_eq_true_eq, decide_eq_false_iff_not] at b7
      refine xe_s (f := (46, _, _, _)) xt_g82 rfl rfl rfl rfl rfl ?_
      refine xe_iret xt_g82 rfl rfl xi_int.1 ?_
      try dsimp only
      exact ⟨_, rfl, rfl, ⟨g, e1, Nat.le_refl _, fun j hj => e3 j (by omega)⟩, e2, rfl, rfl⟩
    · exact absurd b7 (by omega)
  | succ k ih =>
    intro i hk hi hh g e1 e2 e3
    have a1 := ha (i : Int).toNat
    refine xe_s (f := (5, _, _, _)) xt_g82 rfl rfl rfl rfl rfl ?_
    refine xe_s (f := (7, _, _, _)) xt_g82 rfl rfl rfl rfl rfl ?_
    refine xe_ic_ge xt_g82 rfl (t := 44) rfl (q := 10) rfl (by first | omega | exact xb_r _) (by first | omega | exact xb_r _) (fun b7 => ?_) (fun b7 => ?_)
    · exact absurd b7 (by omega)
    · try simp only [xb_0, xb_1, ne_eq, Decidable.not_not, Bool.not_eq_false, Bool.not_eq_true, decide_eq_true_eq, decide_eq_false_iff_not] at b7
      refine xe_s (f := (11, _, _, _)) xt_g82 rfl rfl rfl rfl rfl ?_
      refine xe_s (f := (12, _, _, _)) xt_g82 rfl rfl rfl rfl rfl ?_
      refine xe_al (ok := xm_isC) (ty := .char) xt_g82 rfl (q := 13) rfl (fun _ _ => ⟨rfl, rfl, rfl, rfl⟩) ((e2 b hd.symm).trans h2) rfl rfl (by omega) (by omega) (by omega) (by omega) (h9 _ (by omega)) ?_
      refine xe_s (f := (15, [(6, _), (5, _), (1, _), (3, _), (0, _), (2, _), (4, _)], _, _)) xt_g82 rfl rfl rfl rfl rfl ?_
      refine xe_s (f := (17, _, _, _)) xt_g82 rfl rfl rfl rfl rfl ?_
      refine xe_sipush xt_g82 rfl (q := 20) rfl (by decide) (by decide) ?_
      refine xe_ic_le xt_g82 rfl (t := 26) rfl (q := 23) rfl (by first | omega | exact xb_r _) (by first | omega | exact xb_r _) (fun b20 => ?_) (fun b20 => ?_)
      · try simp only [xb_0, xb_1, ne_eq, Decidable.not_not, Bool.not_eq_false, Bool.not_eq_true, decide_eq_true_eq, decide_eq_false_iff_not] at b20
        refine xe_s (f := (27, _, _, _)) xt_g82 rfl rfl rfl rfl rfl ?_
        refine xe_s (f := (28, _, _, _)) xt_g82 rfl rfl rfl rfl rfl ?_
        refine xe_s (f := (30, _, _, _)) xt_g82 rfl rfl rfl rfl rfl ?_
        refine xe_i2b xt_g82 rfl (q := 31) rfl (by omega) ?_
        refine xe_as (ok := xm_isB) (ty := .byte) xt_g82 rfl (q := 32) rfl (fun _ _ => ⟨rfl, rfl, rfl, rfl⟩) (e1) rfl rfl (by omega) (by omega) (by omega) (by omega) (by omega) (xi_ny (by omega)) ?_
        refine xe_iinc xt_g82 rfl (q := 35) rfl rfl (by decide) (L1 := [(1, _), (6, _), (5, _), (3, _), (0, _), (2, _), (4, _)]) rfl ?_
        refine xe_iinc xt_g82 rfl (q := 38) rfl rfl (by decide) (L1 := [(3, _), (1, _), (6, _), (5, _), (0, _), (2, _), (4, _)]) rfl ?_
        refine xe_iinc xt_g82 rfl (q := 41) rfl rfl (by decide) (L1 := [(5, _), (3, _), (1, _), (6, _), (0, _), (2, _), (4, _)]) rfl ?_
        refine xe_s (f := (3, _, _, _)) xt_g82 rfl rfl rfl rfl rfl ?_
        have g0 := ih (i + 1) (by omega) (by omega) (va_up hh d (.inl (1, l.length, .inl (upd g (i : Int).toNat (Int32.ofInt (l.getD (i : Int).toNat 0)))))) (upd g (i : Int).toNat (Int32.ofInt (l.getD (i : Int).toNat 0))) va_up_s (fun a ha => (va_up_n ha).trans (e2 a ha)) (fun j hj => by
          by_cases e : j = i
          · rw [e, Int.toNat_natCast, upd_s]
          · rw [Int.toNat_natCast, upd_n e]; exact e3 j (by omega))
        exact xe_loc (by intro q hq; simp only [List.mem_cons, List.not_mem_nil, or_false] at hq; rcases hq with rfl | rfl | rfl | rfl | rfl | rfl <;> rfl) (g0)
      · exact absurd b20 (by omega)
theorem s82 (H : cA h b l) (hb : b < n) (ha : asc l) (hl : l.length < 10000) (hd : d ≠ b) (hd4 : 44 ≤ d) (hdn : d < n) {g : Nat → Int32} (hg : h d = .inl (1, l.length, .inl g)) : xI fm 82 h n [.ref b, xi 0, .ref d, xi 0, xi l.length] (fun z h' n' u' => z = l.length ∧ sA h' d l.length l ∧ (∀ a, a ≠ d → h' a = h a) ∧ n' = n ∧ u' = 0) := by
  unfold xI
  refine xe_s (f := (1, _, xi 0 :: _, _)) xt_g82 rfl rfl rfl rfl rfl ?_
  refine xe_s (f := (3, [(5, _), (0, _), (1, _), (2, _), (3, _), (4, _)], _, _)) xt_g82 rfl rfl rfl rfl rfl ?_
  have g0 := s82_loop (fm := fm) H hb ha hl hd hd4 hdn _ 0 rfl (Nat.zero_le _) h g hg (fun _ _ => rfl) (fun j hj => absurd hj (Nat.not_lt_zero j))
  exact xe_loc (by intro q hq; simp only [List.mem_cons, List.not_mem_nil, or_false] at hq; rcases hq with rfl | rfl | rfl | rfl | rfl | rfl <;> rfl) (g0)
theorem cA_h {h' : xm_H} (H : cA h b l) (e : h' b = h b) : cA h' b l := by
  obtain ⟨f, h1, h2⟩ := H
  exact ⟨f, e.trans h1, h2⟩
theorem s81 (h44 : 44 ≤ n) (H : cA h b l) (hb : b < n) (ha : asc l) (hl : l.length < 10000) : xA fm 81 h n [.ref b, xi 0, xi l.length] (fun x h' n' u' => x = n ∧ sA h' n l.length l ∧ ex h n h' n' ∧ n' = n + 1 ∧ u' = l.length) := by
  unfold xA
  refine xe_s (f := (1, _, _, _)) xt_g81 rfl rfl rfl rfl rfl ?_
  refine xe_nwa (t := 1) (ty := .byte) xt_g81 rfl (q := 3) rfl rfl rfl rfl rfl (by omega) (by decide) ?_
  rw [Int.toNat_natCast]
  refine xe_s (f := (4, [(3, _), (0, _), (1, _), (2, _)], _, _)) xt_g81 rfl rfl rfl rfl rfl ?_
  refine xe_s (f := (5, _, _, _)) xt_g81 rfl rfl rfl rfl rfl ?_
  refine xe_s (f := (6, _, _, _)) xt_g81 rfl rfl rfl rfl rfl ?_
  refine xe_s (f := (7, _, _, _)) xt_g81 rfl rfl rfl rfl rfl ?_
  refine xe_s (f := (8, _, xi 0 :: _, _)) xt_g81 rfl rfl rfl rfl rfl ?_
  refine xe_s (f := (9, _, _, _)) xt_g81 rfl rfl rfl rfl rfl ?_
  refine xe_cI xt_g81 rfl rfl rfl (q := 12) rfl (kc_S xk_18_115 (Nat.le_of_ble_eq_true rfl)) xt_g82 (by decide) ⟨Nat.le_of_ble_eq_true rfl, Nat.le_of_ble_eq_true rfl, Nat.le_of_ble_eq_true rfl⟩ (s82 (cA_h H (va_up_n (by omega))) (by omega) ha hl (by omega) (by omega) (by omega) va_up_s) (fun z h' n' c' u' hp => ?_)
  obtain ⟨p0, p1, p2, p3, p4⟩ := hp
  subst p0 p3 p4
  refine xe_s (f := (14, [(4, _), (3, _), (0, _), (1, _), (2, _)], _, _)) xt_g81 rfl rfl rfl rfl rfl ?_
  refine xe_s (f := (16, _, _, _)) xt_g81 rfl rfl rfl rfl rfl ?_
  refine xe_s (f := (17, _, _, _)) xt_g81 rfl rfl rfl rfl rfl ?_
  refine xe_ic_eq xt_g81 rfl (t := 57) rfl (q := 20) rfl (by first | omega | exact xb_r _) (by first | omega | exact xb_r _) (fun b17 => ?_) (fun b17 => ?_)
  · try simp only [xb_0, xb_1, ne_eq, Decidable.not_not, Bool.not_eq_false, Bool.not_eq_true, decide_eq_true_eq, decide_eq_false_iff_not] at b17
    refine xe_s (f := (58, _, _, _)) xt_g81 rfl rfl rfl rfl rfl ?_
    refine xe_aret xt_g81 rfl (Or.inr ⟨_, rfl⟩) rfl ?_
    try dsimp only
    exact ⟨n, rfl, rfl, p1, ⟨by omega, fun a ha => (p2 a (by omega)).trans (va_up_n (by omega))⟩, rfl, by omega⟩
  · exact absurd rfl b17
theorem s58 (H : sA h b l.length l) (hb : b < n) (hl : l.length < 10000) : xR fm 58 h n [.ref b, xi l.length] (some (xi 0)) := by
  obtain ⟨f, h2, h8, h9⟩ := H
  unfold xR
  refine xe_s (f := (1, _, _, _)) xt_g58 rfl rfl rfl rfl rfl ?_
  refine xe_s (f := (2, _, _, _)) xt_g58 rfl rfl rfl rfl rfl ?_
  refine xe_alen xt_g58 rfl (q := 3) rfl (h2) (by decide) (by omega) ?_
  refine xe_isub xt_g58 rfl (q := 4) rfl ?_
  rw [Int.sub_self]
  refine xe_bipush xt_g58 rfl (q := 6) rfl (by decide) (by decide) ?_
  refine xe_s (f := (7, _, xi 0 :: _, _)) xt_g58 rfl rfl rfl rfl rfl ?_
  refine xe_i2b xt_g58 rfl (q := 8) rfl (by omega) ?_
  refine xe_iret xt_g58 rfl rfl rfl ?_
  exact ⟨rfl, rfl⟩
/-- a String of characters -/
theorem s80 {x y : Value} {z w : Value} (h44 : 44 ≤ n) (HE : sS F h n 1 []) (H : cA h b l) (hb : b < n) (ha : asc l) (hl : l.length < 10000) (hr : 44 ≤ r) (hn : r < n) (hF : ¬ F r) (hbr : b ≠ r) (R : h r = .inr (6, [z, w, x, y])) : xN fm 80 h n [.ref r, .ref b, xi 0, xi l.length, .null] (fun h' n' u' => sS (fun a => nf F n a ∨ a = r) h' n' r l ∧ n ≤ n' ∧ n' ≤ n + 1 ∧ u' ≤ l.length ∧ ∀ a, a < n → a ≠ r → h' a = h a) := by
  obtain ⟨eb, ex', ey, E1, E2, E3, E4, E5, E6, E7, E8⟩ := HE
  have n1 : 1 ≠ r := by omega
  have n2 : eb ≠ r := fun e => hF (e ▸ E4)
  unfold xN
  refine xe_s (f := (1, _, _, _)) xt_g80 rfl rfl rfl rfl rfl ?_
  refine xe_obj xt_g80 rfl (q := 4) rfl xz0_15_1 (xp_15_1 fm) (Nat.le_of_ble_eq_true rfl) ?_
  refine xe_s (f := (5, _, _, _)) xt_g80 rfl rfl rfl rfl rfl ?_
  refine xe_if_ne xt_g80 rfl (t := 27) rfl (q := 8) rfl (by first | omega | exact xb_r _) (fun b5 => ?_) (fun b5 => ?_)
  · try simp only [xb_0, xb_1, ne_eq, Decidable.not_not, Bool.not_eq_false, Bool.not_eq_true, decide_eq_true_eq, decide_eq_false_iff_not] at b5
    refine xe_s (f := (30, _, xi 1 :: _, _)) xt_g80 rfl rfl rfl rfl rfl ?_
    refine xe_s (f := (33, _, _, _)) xt_g80 rfl rfl rfl rfl rfl ?_
    refine xe_s (f := (34, _, _, _)) xt_g80 rfl rfl rfl rfl rfl ?_
    refine xe_s (f := (35, _, _, _)) xt_g80 rfl rfl rfl rfl rfl ?_
    refine xe_s (f := (36, _, _, _)) xt_g80 rfl rfl rfl rfl rfl ?_
    refine xe_cA xt_g80 rfl rfl rfl (q := 39) rfl (kc_S xk_15_177 (Nat.le_of_ble_eq_true rfl)) xt_g81 (by decide) ⟨Nat.le_of_ble_eq_true rfl, Nat.le_of_ble_eq_true rfl, Nat.le_of_ble_eq_true rfl⟩ (s81 h44 H hb ha hl) (fun q h' n' c' u' hp => ?_)
    obtain ⟨p1, p2, p3, p4, p5⟩ := hp
    replace p1 := p1.symm
    subst p1 p4 p5
    refine xe_s (f := (41, [(5, _), (0, _), (1, _), (2, _), (3, _), (4, _)], _, _)) xt_g80 rfl rfl rfl rfl rfl ?_
    refine xe_s (f := (42, _, _, _)) xt_g80 rfl rfl rfl rfl rfl ?_
    refine xe_s (f := (44, _, _, _)) xt_g80 rfl rfl rfl rfl rfl ?_
    refine xe_s (f := (45, _, _, _)) xt_g80 rfl rfl rfl rfl rfl ?_
    refine xe_cR xt_g80 rfl rfl rfl (q := 48) rfl (kc_S xk_15_47 (Nat.le_of_ble_eq_true rfl)) xt_g58 (by decide) ⟨Nat.le_of_ble_eq_true rfl, Nat.le_of_ble_eq_true rfl, Nat.le_of_ble_eq_true rfl⟩ (s58 p2 (by omega) hl) ?_
    refine xe_pf xt_g80 rfl (q := 51) rfl (xf_15_15 fm) ((p3.2 r hn).trans R) (by omega) (by omega) rfl (Nat.le_of_ble_eq_true rfl) (Nat.le_of_ble_eq_true rfl) ⟨rfl, rfl⟩ (Or.inr ⟨by decide, rfl⟩) ?_
    refine xe_s (f := (52, _, _, _)) xt_g80 rfl rfl rfl rfl rfl ?_
    refine xe_s (f := (54, _, _, _)) xt_g80 rfl rfl rfl rfl rfl ?_
    refine xe_pf xt_g80 rfl (q := 57) rfl (xf_15_9 fm) (va_up_s) (by omega) (by omega) rfl (Nat.le_of_ble_eq_true rfl) (Nat.le_of_ble_eq_true rfl) ⟨rfl, rfl⟩ (Or.inr ⟨by decide, rfl⟩) ?_
    refine xe_ret xt_g80 rfl rfl ?_
    try dsimp only
    refine ⟨rfl, ⟨n, x, y, va_up_s, sA_h p2 ((va_up_n (by omega)).trans (va_up_n (by omega))), Or.inr rfl, Or.inl (Or.inr (Nat.le_refl _)), by omega, by omega, ha, hl⟩, by omega, by omega, by omega, fun a ha har => (va_up_n har).trans ((va_up_n har).trans (p3.2 a ha))⟩
  · try simp only [xb_0, xb_1, ne_eq, Decidable.not_not, Bool.not_eq_false, Bool.not_eq_true, decide_eq_true_eq, decide_eq_false_iff_not] at b5
    refine xe_s (f := (9, _, _, _)) xt_g80 rfl rfl rfl rfl rfl ?_
    refine xe_s (f := (11, _, .ref 1 :: _, _)) xt_g80 rfl rfl rfl rfl rfl ?_
    refine xe_gf xt_g80 rfl (q := 14) rfl (xf_15_9 fm) (E1) (by omega) rfl rfl ?_
    refine xe_pf xt_g80 rfl (q := 17) rfl (xf_15_9 fm) (R) (by omega) (by omega) rfl (Nat.le_of_ble_eq_true rfl) (Nat.le_of_ble_eq_true rfl) ⟨rfl, rfl⟩ (Or.inr ⟨by decide, rfl⟩) ?_
    refine xe_s (f := (18, _, _, _)) xt_g80 rfl rfl rfl rfl rfl ?_
    refine xe_s (f := (20, _, .ref 1 :: _, _)) xt_g80 rfl rfl rfl rfl rfl ?_
    refine xe_gf xt_g80 rfl (q := 23) rfl (xf_15_15 fm) ((va_up_n n1).trans E1) (by omega) rfl rfl ?_
    refine xe_pf xt_g80 rfl (q := 26) rfl (xf_15_15 fm) (va_up_s) (by omega) (by omega) rfl (Nat.le_of_ble_eq_true rfl) (Nat.le_of_ble_eq_true rfl) ⟨rfl, rfl⟩ (Or.inr ⟨by decide, rfl⟩) ?_
    refine xe_ret xt_g80 rfl rfl ?_
    try dsimp only
    have el : l = [] := List.length_eq_zero_iff.mp (by omega)
    subst el
    refine ⟨rfl, ⟨eb, x, y, va_up_s, ?_, Or.inr rfl, Or.inl (Or.inl E4), hn, E6, E7, E8⟩, Nat.le_refl _, by omega, by omega, fun a ha har => (va_up_n har).trans (va_up_n har)⟩
    exact sA_h E2 ((va_up_n n2).trans (va_up_n n2))
theorem s79 {x y : Value} {z w : Value} (h44 : 44 ≤ n) (HE : sS F h n 1 []) (H : cA h b l) (hb : b < n) (ha : asc l) (hl : l.length < 10000) (hr : 44 ≤ r) (hn : r < n) (hF : ¬ F r) (hbr : b ≠ r) (R : h r = .inr (6, [z, w, x, y])) : xN fm 79 h n [.ref r, .ref b] (fun h' n' u' => sS (fun a => nf F n a ∨ a = r) h' n' r l ∧ n ≤ n' ∧ n' ≤ n + 1 ∧ u' ≤ l.length ∧ ∀ a, a < n → a ≠ r → h' a = h a) := by
  have ⟨f, h2, h9⟩ := H
  unfold xN
  refine xe_s (f := (1, _, _, _)) xt_g79 rfl rfl rfl rfl rfl ?_
  refine xe_s (f := (2, _, _, _)) xt_g79 rfl rfl rfl rfl rfl ?_
  refine xe_s (f := (3, _, xi 0 :: _, _)) xt_g79 rfl rfl rfl rfl rfl ?_
  refine xe_s (f := (4, _, _, _)) xt_g79 rfl rfl rfl rfl rfl ?_
  refine xe_alen xt_g79 rfl (q := 5) rfl (h2) (by decide) (by omega) ?_
  refine xe_s (f := (6, _, _, _)) xt_g79 rfl rfl rfl rfl rfl ?_
  refine xe_cN xt_g79 rfl rfl rfl (q := 9) rfl (kc_P xk_15_27 rfl) xt_g80 (by decide) ⟨Nat.le_of_ble_eq_true rfl, Nat.le_of_ble_eq_true rfl, Nat.le_of_ble_eq_true rfl⟩ (s80 h44 HE H hb ha hl hr hn hF hbr R) (fun h' n' c' u' hp => ?_)
  refine xe_ret xt_g79 rfl rfl ?_
  try dsimp only
  exact ⟨rfl, hp.1, hp.2.1, hp.2.2.1, by omega, hp.2.2.2.2⟩
/-- small -/
theorem asc_map {l : List Int} (ha : asc l) : asc (l.map xd_sml) := by
  refine asc_get (fun i hi => ?_)
  rw [List.length_map] at hi
  have := ha i
  rw [gd_e (by rw [List.length_map]; exact hi), List.getElem_map]
  rw [gd_e hi] at this
  unfold xd_sml
  split <;> omega
theorem map_gd {l : List Int} {i : Nat} (hi : i < l.length) : (l.map xd_sml).getD i 0 = xd_sml (l.getD i 0) := by
  rw [gd_e (by rw [List.length_map]; exact hi), List.getElem_map, gd_e hi]
theorem s72_loop (h44 : 44 ≤ n) (HE : sS F h n 1 []) (ha : asc l) (hl : l.length < 10000) (hd4 : 44 ≤ d) (hdn : d < n) (hF : ∀ a, F a → a < d) : ∀ (k i : Nat), l.length - i = k → i ≤ l.length → ∀ (hh : xm_H) (g : Nat → Int32) (c u : Nat), hh d = .inl (2, l.length, .inl g) → (∀ a, a ≠ d → hh a = h a) → (∀ j, j < i → g j = Int32.ofInt (xd_sml (l.getD j 0))) → (∀ j, i ≤ j → j < l.length → g j = Int32.ofInt (l.getD j 0)) →
    xe fm 72 (7, [(2, xi i), (1, .ref d)], [], (hh, n, c, u)) (fun r M => ∃ x : Nat, r = .inl (some (.ref x)) ∧ sS (nf F n) M.1 M.2.1 x (l.map xd_sml) ∧ M.2.1 ≤ n + 2 ∧ n ≤ M.2.1 ∧ M.2.2.2 ≤ u + 4 + l.length ∧ ∀ a, a < n → a ≠ d → M.1 a = h a) := by
  intro k
  induction k with
  | zero =>
    intro i hk hi hh g c u e1 e2 e3 e4
    have hE : sS F hh n 1 [] := sS_h HE (Nat.le_refl _) (fun j hj _ => e2 j (by have := hF j hj; omega))
    have hc : cA (va_up hh n (.inr (6, [.null, xi 0, xi 0, xi 0]))) d (l.map xd_sml) := ⟨g, by rw [va_up_n (by omega), e1, List.length_map], fun j hj => by rw [List.length_map] at hj; rw [map_gd hj]; exact e3 j (by omega)⟩
    refine xe_s (f := (8, _, _, _)) xt_g72 rfl rfl rfl rfl rfl ?_
    refine xe_s (f := (9, _, _, _)) xt_g72 rfl rfl rfl rfl rfl ?_
    refine xe_alen xt_g72 rfl (q := 10) rfl (e1) (by decide) (by omega) ?_
    refine xe_ic_ge xt_g72 rfl (t := 44) rfl (q := 13) rfl (by first | omega | exact xb_r _) (by first | omega | exact xb_r _) (fun b10 => ?_) (fun b10 => ?_)
    · try simp only [xb_0, xb_1, ne_eq, Decidable.not_not, Bool.not_eq_false, Bool.not_eq_true, decide_eq_true_eq, decide_eq_false_iff_not] at b10
      refine xe_new (k := 4) (fs := [.null, xi 0, xi 0, xi 0]) xt_g72 rfl rfl (q := 47) rfl (xn_0_106 fm) rfl rfl rfl ?_
      refine xe_s (f := (48, _, _, _)) xt_g72 rfl rfl rfl rfl rfl ?_
      refine xe_s (f := (49, _, _, _)) xt_g72 rfl rfl rfl rfl rfl ?_
      refine xe_cN xt_g72 rfl rfl rfl (q := 52) rfl (kc_P xk_0_357 rfl) xt_g79 (by decide) ⟨Nat.le_of_ble_eq_true rfl, Nat.le_of_ble_eq_true rfl, Nat.le_of_ble_eq_true rfl⟩ (s79 (n := n + 1) (F := F) (by omega) (sS_ex hE ex_up) hc (by omega) (asc_map ha) (by rw [List.length_map]; exact hl) (by omega) (by omega) (fun h => by have := hF _ h; omega) (by omega) va_up_s) (fun h' n' c' u' hp => ?_)
      refine xe_aret xt_g72 rfl (Or.inl ⟨_, rfl⟩) rfl ?_
      try dsimp only
      obtain ⟨p1, p2, p3, p4, p5⟩ := hp
      rw [List.length_map] at p4
      refine ⟨n, rfl, sS_F p1 (fun a h => ?_), by omega, by omega, by omega, fun a ha hd => (p5 a (by omega) (by omega)).trans ((va_up_n (by omega)).trans (e2 a hd))⟩
      rcases h with (h | h) | h
      · exact Or.inl h
      · exact Or.inr (by omega)
      · exact Or.inr (by omega)
    · exact absurd b10 (by omega)
  | succ k ih =>
    intro i hk hi hh g c u e1 e2 e3 e4
    have a1 := ha (i : Int).toNat
    have s1 : ∀ z, xd_sml (l.getD i 0) = z → ∀ j, j < i + 1 → upd g (i : Int).toNat (Int32.ofInt z) j = Int32.ofInt (xd_sml (l.getD j 0)) := by
      intro z hz j hj
      rw [Int.toNat_natCast]
      by_cases e : j = i
      · rw [e, upd_s, hz]
      · rw [upd_n e]
        exact e3 j (by omega)
    have s2 : ∀ z, ∀ j, i + 1 ≤ j → j < l.length → upd g (i : Int).toNat z j = Int32.ofInt (l.getD j 0) := by
      intro z j h1 h2
      rw [Int.toNat_natCast, upd_n (by omega)]
      exact e4 j (by omega) h2
    have s3 : xd_sml (l.getD i 0) = l.getD i 0 → ∀ j, j < i + 1 → g j = Int32.ofInt (xd_sml (l.getD j 0)) := by
      intro hz j hj
      by_cases e : j = i
      · rw [e, hz]
        exact e4 i (Nat.le_refl _) (by omega)
      · exact e3 j (by omega)
    refine xe_s (f := (8, _, _, _)) xt_g72 rfl rfl rfl rfl rfl ?_
    refine xe_s (f := (9, _, _, _)) xt_g72 rfl rfl rfl rfl rfl ?_
    refine xe_alen xt_g72 rfl (q := 10) rfl (e1) (by decide) (by omega) ?_
    refine xe_ic_ge xt_g72 rfl (t := 44) rfl (q := 13) rfl (by first | omega | exact xb_r _) (by first | omega | exact xb_r _) (fun b10 => ?_) (fun b10 => ?_)
    · exact absurd b10 (by omega)
    · try simp only [xb_0, xb_1, ne_eq, Decidable.not_not, Bool.not_eq_false, Bool.not_eq_true, decide_eq_true_eq, decide_eq_false_iff_not] at b10
      refine xe_s (f := (14, _, _, _)) xt_g72 rfl rfl rfl rfl rfl ?_
      refine xe_s (f := (15, _, _, _)) xt_g72 rfl rfl rfl rfl rfl ?_
      refine xe_al (ok := xm_isC) (ty := .char) xt_g72 rfl (q := 16) rfl (fun _ _ => ⟨rfl, rfl, rfl, rfl⟩) (e1) rfl rfl (by omega) (by omega) (by omega) (by omega) (e4 _ (by omega) (by omega)) ?_
      refine xe_bipush xt_g72 rfl (q := 18) rfl (by decide) (by decide) ?_
      refine xe_ic_lt xt_g72 rfl (t := 38) rfl (q := 21) rfl (by first | omega | exact xb_r _) (by first | omega | exact xb_r _) (fun b18 => ?_) (fun b18 => ?_)
      · try simp only [xb_0, xb_1, ne_eq, Decidable.not_not, Bool.not_eq_false, Bool.not_eq_true, decide_eq_true_eq, decide_eq_false_iff_not] at b18
        refine xe_iinc xt_g72 rfl (q := 41) rfl rfl (by decide) (L1 := [(2, _), (1, _)]) rfl ?_
        refine xe_s (f := (7, _, _, _)) xt_g72 rfl rfl rfl rfl rfl ?_
        rw [Int.toNat_natCast] at b18
        have g0 := ih (i + 1) (by omega) (by omega) hh g c u e1 e2 (s3 (by unfold xd_sml; rw [if_neg (by omega)])) (fun j h1 h2 => e4 j (by omega) h2)
        exact xe_loc (by intro q hq; simp only [List.mem_cons, List.not_mem_nil, or_false] at hq; rcases hq with rfl | rfl <;> rfl) (g0)
      · try simp only [xb_0, xb_1, ne_eq, Decidable.not_not, Bool.not_eq_false, Bool.not_eq_true, decide_eq_true_eq, decide_eq_false_iff_not] at b18
        refine xe_s (f := (22, _, _, _)) xt_g72 rfl rfl rfl rfl rfl ?_
        refine xe_s (f := (23, _, _, _)) xt_g72 rfl rfl rfl rfl rfl ?_
        refine xe_al (ok := xm_isC) (ty := .char) xt_g72 rfl (q := 24) rfl (fun _ _ => ⟨rfl, rfl, rfl, rfl⟩) (e1) rfl rfl (by omega) (by omega) (by omega) (by omega) (e4 _ (by omega) (by omega)) ?_
        refine xe_bipush xt_g72 rfl (q := 26) rfl (by decide) (by decide) ?_
        refine xe_ic_gt xt_g72 rfl (t := 38) rfl (q := 29) rfl (by first | omega | exact xb_r _) (by first | omega | exact xb_r _) (fun b26 => ?_) (fun b26 => ?_)
        · try simp only [xb_0, xb_1, ne_eq, Decidable.not_not, Bool.not_eq_false, Bool.not_eq_true, decide_eq_true_eq, decide_eq_false_iff_not] at b26
          refine xe_iinc xt_g72 rfl (q := 41) rfl rfl (by decide) (L1 := [(2, _), (1, _)]) rfl ?_
          refine xe_s (f := (7, _, _, _)) xt_g72 rfl rfl rfl rfl rfl ?_
          rw [Int.toNat_natCast] at b18 b26
          have g0 := ih (i + 1) (by omega) (by omega) hh g c u e1 e2 (s3 (by unfold xd_sml; rw [if_neg (by omega)])) (fun j h1 h2 => e4 j (by omega) h2)
          exact xe_loc (by intro q hq; simp only [List.mem_cons, List.not_mem_nil, or_false] at hq; rcases hq with rfl | rfl <;> rfl) (g0)
        · try simp only [xb_0, xb_1, ne_eq, Decidable.not_not, Bool.not_eq_false, Bool.not_eq_true, decide_eq_true_eq, decide_eq_false_iff_not] at b26
          refine xe_s (f := (30, _, _, _)) xt_g72 rfl rfl rfl rfl rfl ?_
          refine xe_s (f := (31, _, _, _)) xt_g72 rfl rfl rfl rfl rfl ?_
          refine xe_s (f := (32, _, _, _)) xt_g72 rfl rfl rfl rfl rfl ?_
          refine xe_al (ok := xm_isC) (ty := .char) xt_g72 rfl (q := 33) rfl (fun _ _ => ⟨rfl, rfl, rfl, rfl⟩) (e1) rfl rfl (by omega) (by omega) (by omega) (by omega) (e4 _ (by omega) (by omega)) ?_
          refine xe_bipush xt_g72 rfl (q := 35) rfl (by decide) (by decide) ?_
          refine xe_iadd xt_g72 rfl (q := 36) rfl ?_
          refine xe_i2c xt_g72 rfl (q := 37) rfl (by omega) ?_
          refine xe_as (ok := xm_isC) (ty := .char) xt_g72 rfl (q := 38) rfl (fun _ _ => ⟨rfl, rfl, rfl, rfl⟩) (e1) rfl rfl (by omega) (by omega) (by omega) (by omega) (by omega) (xi_nc (by omega)) ?_
          refine xe_iinc xt_g72 rfl (q := 41) rfl rfl (by decide) (L1 := [(2, _), (1, _)]) rfl ?_
          refine xe_s (f := (7, _, _, _)) xt_g72 rfl rfl rfl rfl rfl ?_
          have g0 := ih (i + 1) (by omega) (by omega) (va_up hh d (.inl (2, l.length, .inl (upd g (i : Int).toNat (Int32.ofInt (l.getD (i : Int).toNat 0 + 32)))))) (upd g (i : Int).toNat (Int32.ofInt (l.getD (i : Int).toNat 0 + 32))) c u va_up_s (fun a ha => (va_up_n ha).trans (e2 a ha)) (s1 _ (by rw [Int.toNat_natCast] at b18 b26 ⊢; unfold xd_sml; rw [if_pos (by omega)])) (s2 _)
          exact xe_loc (by intro q hq; simp only [List.mem_cons, List.not_mem_nil, or_false] at hq; rcases hq with rfl | rfl <;> rfl) (g0)
theorem s72 (h44 : 44 ≤ n) (HE : sS F h n 1 []) (H : sS F h n r l) (hF : ∀ a, F a → a < n) : xA fm 72 h n [.ref r] (fun x h' n' u' => sS (nf F n) h' n' x (l.map xd_sml) ∧ ex h n h' n' ∧ n' ≤ n + 3 ∧ u' ≤ 4 + 2 * l.length) := by
  have G := H
  obtain ⟨b, x, y, h1, h2, h3, h4, h5, h6, h7, h8⟩ := H
  unfold xA
  refine xe_s (f := (1, _, _, _)) xt_g72 rfl rfl rfl rfl rfl ?_
  refine xe_cA xt_g72 rfl rfl rfl (q := 4) rfl (kc_V xk_0_353 rfl (h1) (by omega) rfl rfl) xt_g73 (by decide) ⟨Nat.le_of_ble_eq_true rfl, Nat.le_of_ble_eq_true rfl, Nat.le_of_ble_eq_true rfl⟩ (s73 h44 G) (fun x' h' n' c' u' hp => ?_)
  obtain ⟨p1, ⟨g, p2, p3⟩, p4, p5, p6⟩ := hp
  replace p1 := p1.symm
  subst p1 p5 p6
  refine xe_s (f := (5, [(1, _), (0, _)], _, _)) xt_g72 rfl rfl rfl rfl rfl ?_
  refine xe_s (f := (6, _, xi 0 :: _, _)) xt_g72 rfl rfl rfl rfl rfl ?_
  refine xe_s (f := (7, [(2, _), (1, _), (0, _)], _, _)) xt_g72 rfl rfl rfl rfl rfl ?_
  have g0 := s72_loop (fm := fm) (F := F) (n := n + 1) (d := n) (by omega) (sS_ex HE p4) h7 h8 h44 (by omega) hF _ 0 rfl (Nat.zero_le _) h' g (0 + c') (0 + l.length) p2 (fun _ _ => rfl) (fun j hj => absurd hj (Nat.not_lt_zero j)) (fun j _ hj => p3 j hj)
  refine xe_mono (xe_loc (by intro q hq; simp only [List.mem_cons, List.not_mem_nil, or_false] at hq; rcases hq with rfl | rfl <;> rfl) (g0)) (fun r M hM => ?_)
  obtain ⟨x, q1, q2, q3, q4, q5, q6⟩ := hM
  refine ⟨x, q1, sS_F q2 (fun a h => ?_), ⟨by omega, fun a ha => (q6 a (by omega) (by omega)).trans (p4.2 a ha)⟩, by omega, by omega⟩
  rcases h with h | h
  · exact Or.inl h
  · exact Or.inr (by omega)
theorem sS_lt (H : sS F h n r l) : sS (fun a => F a ∧ a < n) h n r l := by
  obtain ⟨b, x, y, h1, h2, h3, h4, h5, h6, h7⟩ := H
  exact ⟨b, x, y, h1, h2, ⟨h3, h5⟩, ⟨h4, h6⟩, h5, h6, h7⟩
theorem s72x (h44 : 44 ≤ n) (HE : sS F h n 1 []) (H : sS F h n r l) : xA fm 72 h n [.ref r] (fun x h' n' u' => sS (nf F n) h' n' x (l.map xd_sml) ∧ ex h n h' n' ∧ n' ≤ n + 3 ∧ u' ≤ 4 + 2 * l.length) := by
  refine xe_mono (s72 h44 (sS_lt HE) (sS_lt H) (fun a g => g.2)) (fun q M hM => ?_)
  obtain ⟨x, e1, e2, e3⟩ := hM
  refine ⟨x, e1, sS_F e2 (fun a g => ?_), e3⟩
  rcases g with g | g
  · exact Or.inl g.1
  · exact Or.inr g
end XCH
