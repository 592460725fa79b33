/-! standsAt, isOrEndsWith, hostEnd, trimmed, folders, indexOf -/
def stA (l : List Int) (at_ : Int) (w : List Int) : Bool := decide (0 ≤ at_ ∧ at_ + w.length ≤ l.length ∧ sl l at_ (at_ + w.length) = w)
section XTS
variable {fm : Value} {F F' : Nat → Prop} {h : xm_H} {n r r' : Nat} {l w : List Int}
theorem s140_loop {i : Int} (hfm : fm = .null ∨ ∃ j, fm = .ref j) (H : sS F h n r l) (H' : sS F' h n r' w) (h0 : 0 ≤ i) (hi : i + w.length ≤ l.length) : ∀ (k j : Nat), w.length - j = k → j ≤ w.length → (∀ t, t < j → l.getD (i.toNat + t) 0 = w.getD t 0) →
    xe fm 140 (21, [(3, xi j), (0, .ref r), (1, xi i), (2, .ref r')], [], (h, n, 0, 0)) (fun r M => r = .inl (some (xi (xb (stA l i w)))) ∧ M = (h, n, 0, 0)) := by
  have G := H
  have G' := H'
  obtain ⟨b, x, y, h1, h2, h3, h4, h5, h6, h7, h8⟩ := H
  obtain ⟨b', x', y', g1, g2, g3, g4, g5, g6, g7, g8⟩ := H'
  intro k
  induction k with
  | zero =>
    intro j hk hj hp
    have e : stA l i w = true := by
      unfold stA
      refine decide_eq_true ⟨h0, hi, gd_ext (by rw [sl_len h0 (by omega) hi]; omega) (fun t ht => ?_)⟩
      rw [sl_len h0 (by omega) hi] at ht
      rw [sl_get h0 (by omega) hi ht]
      exact hp t (by omega)
    rw [e]
    refine xe_s (f := (22, _, _, _)) xt_g140 rfl rfl rfl rfl rfl ?_
    refine xe_s (f := (23, _, _, _)) xt_g140 rfl rfl rfl rfl rfl ?_
    refine xe_cR xt_g140 rfl rfl rfl (q := 26) rfl (kc_V xk_0_105 rfl (g1) (by omega) rfl rfl) xt_g31 (by decide) ⟨Nat.le_of_ble_eq_true rfl, Nat.le_of_ble_eq_true rfl, Nat.le_of_ble_eq_true rfl⟩ (s31 G') ?_
    refine xe_ic_ge xt_g140 rfl (t := 52) rfl (q := 29) rfl (by first | omega | exact xb_r _) (by first | omega | exact xb_r _) (fun b26 => ?_) (fun b26 => ?_)
    · try simp only [xb_0, xb_1, ne_eq, Decidable.not_not, Bool.not_eq_false, Bool.not_eq_true, decide_eq_true_eq, decide_eq_false_iff_not] at b26
      refine xe_s (f := (53, _, xi 1 :: _, _)) xt_g140 rfl rfl rfl rfl rfl ?_
      refine xe_iret xt_g140 rfl rfl (xi_bool (by first | omega | exact xb_or _)).1 ?_
      exact ⟨rfl, rfl⟩
    · exact absurd b26 (by omega)
  | succ k ih =>
    intro j hk hj hp
    have a1 := h7 (i + j).toNat
    have a2 := g7 ((j : Nat) : Int).toNat
    have e1 : (i + j).toNat = i.toNat + j := by omega
    refine xe_s (f := (22, _, _, _)) xt_g140 rfl rfl rfl rfl rfl ?_
    refine xe_s (f := (23, _, _, _)) xt_g140 rfl rfl rfl rfl rfl ?_
    refine xe_cR xt_g140 rfl rfl rfl (q := 26) rfl (kc_V xk_0_105 rfl (g1) (by omega) rfl rfl) xt_g31 (by decide) ⟨Nat.le_of_ble_eq_true rfl, Nat.le_of_ble_eq_true rfl, Nat.le_of_ble_eq_true rfl⟩ (s31 G') ?_
    refine xe_ic_ge xt_g140 rfl (t := 52) rfl (q := 29) rfl (by first | omega | exact xb_r _) (by first | omega | exact xb_r _) (fun b26 => ?_) (fun b26 => ?_)
    · exact absurd b26 (by omega)
    · try simp only [xb_0, xb_1, ne_eq, Decidable.not_not, Bool.not_eq_false, Bool.not_eq_true, decide_eq_true_eq, decide_eq_false_iff_not] at b26
      refine xe_s (f := (30, _, _, _)) xt_g140 rfl rfl rfl rfl rfl ?_
      refine xe_s (f := (31, _, _, _)) xt_g140 rfl rfl rfl rfl rfl ?_
      refine xe_s (f := (32, _, _, _)) xt_g140 rfl rfl rfl rfl rfl ?_
      refine xe_iadd xt_g140 rfl (q := 33) rfl ?_
      refine xe_cR xt_g140 rfl rfl rfl (q := 36) rfl (kc_V xk_0_349 rfl (h1) (by omega) rfl rfl) xt_g85 (by decide) ⟨Nat.le_of_ble_eq_true rfl, Nat.le_of_ble_eq_true rfl, Nat.le_of_ble_eq_true rfl⟩ (s85 hfm G (by omega) (by omega)) ?_
      refine xe_s (f := (37, _, _, _)) xt_g140 rfl rfl rfl rfl rfl ?_
      refine xe_s (f := (38, _, _, _)) xt_g140 rfl rfl rfl rfl rfl ?_
      refine xe_cR xt_g140 rfl rfl rfl (q := 41) rfl (kc_V xk_0_349 rfl (g1) (by omega) rfl rfl) xt_g85 (by decide) ⟨Nat.le_of_ble_eq_true rfl, Nat.le_of_ble_eq_true rfl, Nat.le_of_ble_eq_true rfl⟩ (s85 hfm G' (by omega) (by omega)) ?_
      refine xe_ic_eq xt_g140 rfl (t := 46) rfl (q := 44) rfl (by first | omega | exact xb_r _) (by first | omega | exact xb_r _) (fun b41 => ?_) (fun b41 => ?_)
      · try simp only [xb_0, xb_1, ne_eq, Decidable.not_not, Bool.not_eq_false, Bool.not_eq_true, decide_eq_true_eq, decide_eq_false_iff_not] at b41
        rw [e1, Int.toNat_natCast] at b41
        refine xe_iinc xt_g140 rfl (q := 49) rfl rfl (by decide) (L1 := [(3, _), (0, _), (1, _), (2, _)]) rfl ?_
        refine xe_s (f := (21, _, _, _)) xt_g140 rfl rfl rfl rfl rfl ?_
        refine ih (j + 1) (by omega) (by omega) (fun t ht => ?_)
        by_cases e : t = j
        · rw [e]; exact b41
        · exact hp t (by omega)
      · try simp only [xb_0, xb_1, ne_eq, Decidable.not_not, Bool.not_eq_false, Bool.not_eq_true, decide_eq_true_eq, decide_eq_false_iff_not] at b41
        rw [e1, Int.toNat_natCast] at b41
        refine xe_s (f := (45, _, xi 0 :: _, _)) xt_g140 rfl rfl rfl rfl rfl ?_
        refine xe_iret xt_g140 rfl rfl (xi_bool (by first | omega | exact xb_or _)).1 ?_
        try dsimp only
        have e : stA l i w = false := by
          unfold stA
          refine decide_eq_false (fun hh => b41 ?_)
          rw [← hh.2.2, sl_get h0 (by omega) hi (by omega)]
        rw [e]
        exact ⟨rfl, rfl⟩
theorem s140 {i : Int} (hfm : fm = .null ∨ ∃ j, fm = .ref j) (H : sS F h n r l) (H' : sS F' h n r' w) (hi : -100000 < i ∧ i < 100000) : xR fm 140 h n [.ref r, xi i, .ref r'] (some (xi (xb (stA l i w)))) := by
  have G := H
  have G' := H'
  obtain ⟨b, x, y, h1, h2, h3, h4, h5, h6, h7, h8⟩ := H
  obtain ⟨b', x', y', g1, g2, g3, g4, g5, g6, g7, g8⟩ := H'
  have no : ¬ (0 ≤ i ∧ i + w.length ≤ l.length) → stA l i w = false := by
    intro hh
    unfold stA
    exact decide_eq_false (fun e => hh ⟨e.1, e.2.1⟩)
  unfold xR
  refine xe_s (f := (1, _, _, _)) xt_g140 rfl rfl rfl rfl rfl ?_
  refine xe_if_lt xt_g140 rfl (t := 17) rfl (q := 4) rfl (by first | omega | exact xb_r _) (fun b1 => ?_) (fun b1 => ?_)
  · try simp only [xb_0, xb_1, ne_eq, Decidable.not_not, Bool.not_eq_false, Bool.not_eq_true, decide_eq_true_eq, decide_eq_false_iff_not] at b1
    refine xe_s (f := (18, _, xi 0 :: _, _)) xt_g140 rfl rfl rfl rfl rfl ?_
    refine xe_iret xt_g140 rfl rfl (xi_bool (by first | omega | exact xb_or _)).1 ?_
    try dsimp only
    rw [no (by omega)]
    exact ⟨rfl, rfl⟩
  · try simp only [xb_0, xb_1, ne_eq, Decidable.not_not, Bool.not_eq_false, Bool.not_eq_true, decide_eq_true_eq, decide_eq_false_iff_not] at b1
    refine xe_s (f := (5, _, _, _)) xt_g140 rfl rfl rfl rfl rfl ?_
    refine xe_s (f := (6, _, _, _)) xt_g140 rfl rfl rfl rfl rfl ?_
    refine xe_cR xt_g140 rfl rfl rfl (q := 9) rfl (kc_V xk_0_105 rfl (h1) (by omega) rfl rfl) xt_g31 (by decide) ⟨Nat.le_of_ble_eq_true rfl, Nat.le_of_ble_eq_true rfl, Nat.le_of_ble_eq_true rfl⟩ (s31 G) ?_
    refine xe_s (f := (10, _, _, _)) xt_g140 rfl rfl rfl rfl rfl ?_
    refine xe_cR xt_g140 rfl rfl rfl (q := 13) rfl (kc_V xk_0_105 rfl (g1) (by omega) rfl rfl) xt_g31 (by decide) ⟨Nat.le_of_ble_eq_true rfl, Nat.le_of_ble_eq_true rfl, Nat.le_of_ble_eq_true rfl⟩ (s31 G') ?_
    refine xe_isub xt_g140 rfl (q := 14) rfl ?_
    refine xe_ic_le xt_g140 rfl (t := 19) rfl (q := 17) rfl (by first | omega | exact xb_r _) (by first | omega | exact xb_r _) (fun b14 => ?_) (fun b14 => ?_)
    · try simp only [xb_0, xb_1, ne_eq, Decidable.not_not, Bool.not_eq_false, Bool.not_eq_true, decide_eq_true_eq, decide_eq_false_iff_not] at b14
      refine xe_s (f := (20, _, xi 0 :: _, _)) xt_g140 rfl rfl rfl rfl rfl ?_
      refine xe_s (f := (21, [(3, _), (0, _), (1, _), (2, _)], _, _)) xt_g140 rfl rfl rfl rfl rfl ?_
      exact xe_loc (by intro q hq; simp only [List.mem_cons, List.not_mem_nil, or_false] at hq; rcases hq with rfl | rfl | rfl | rfl <;> rfl) ((s140_loop hfm G G' (by omega) (by omega) _ 0 rfl (Nat.zero_le _) (fun t ht => absurd ht (Nat.not_lt_zero t))))
    · try simp only [xb_0, xb_1, ne_eq, Decidable.not_not, Bool.not_eq_false, Bool.not_eq_true, decide_eq_true_eq, decide_eq_false_iff_not] at b14
      refine xe_s (f := (18, _, xi 0 :: _, _)) xt_g140 rfl rfl rfl rfl rfl ?_
      refine xe_iret xt_g140 rfl rfl (xi_bool (by first | omega | exact xb_or _)).1 ?_
      try dsimp only
      rw [no (by omega)]
      exact ⟨rfl, rfl⟩
theorem sl_end {i : Int} (h0 : 0 ≤ i) (h1 : i ≤ l.length) : sl l i l.length = l.drop i.toNat := by
  unfold sl
  refine List.take_of_length_le ?_
  rw [List.length_drop]
  omega
/-- isOrEndsWith -/
theorem s139 (hfm : fm = .null ∨ ∃ j, fm = .ref j) (H : sS F h n r l) (H' : sS F' h n r' w) : xR fm 139 h n [.ref r, .ref r'] (some (xi (xb (st_ends l w)))) := by
  have G := H
  have G' := H'
  obtain ⟨b, x, y, h1, h2, h3, h4, h5, h6, h7, h8⟩ := H
  obtain ⟨b', x', y', g1, g2, g3, g4, g5, g6, g7, g8⟩ := H'
  have a1 := h7 (((l.length : Int) - w.length) - 1).toNat
  have st : stA l ((l.length : Int) - w.length) w = decide (w.length ≤ l.length ∧ l.drop (l.length - w.length) = w) := by
    unfold stA
    refine decide_eq_decide.mpr ?_
    rw [show (l.length : Int) - w.length + w.length = l.length by omega]
    constructor
    · rintro ⟨e1, e2, e3⟩
      rw [sl_end e1 (by omega), show ((l.length : Int) - w.length).toNat = l.length - w.length by omega] at e3
      exact ⟨by omega, e3⟩
    · rintro ⟨e1, e2⟩
      refine ⟨by omega, by omega, ?_⟩
      rw [sl_end (by omega) (by omega), show ((l.length : Int) - w.length).toNat = l.length - w.length by omega]
      exact e2
  have e0 : (((l.length : Int) - w.length) - 1).toNat = l.length - w.length - 1 := by omega
  unfold xR
  refine xe_s (f := (1, _, _, _)) xt_g139 rfl rfl rfl rfl rfl ?_
  refine xe_cR xt_g139 rfl rfl rfl (q := 4) rfl (kc_V xk_0_105 rfl (h1) (by omega) rfl rfl) xt_g31 (by decide) ⟨Nat.le_of_ble_eq_true rfl, Nat.le_of_ble_eq_true rfl, Nat.le_of_ble_eq_true rfl⟩ (s31 G) ?_
  refine xe_s (f := (5, _, _, _)) xt_g139 rfl rfl rfl rfl rfl ?_
  refine xe_cR xt_g139 rfl rfl rfl (q := 8) rfl (kc_V xk_0_105 rfl (g1) (by omega) rfl rfl) xt_g31 (by decide) ⟨Nat.le_of_ble_eq_true rfl, Nat.le_of_ble_eq_true rfl, Nat.le_of_ble_eq_true rfl⟩ (s31 G') ?_
  refine xe_isub xt_g139 rfl (q := 9) rfl ?_
  refine xe_s (f := (10, [(2, _), (0, _), (1, _)], _, _)) xt_g139 rfl rfl rfl rfl rfl ?_
  refine xe_s (f := (11, _, _, _)) xt_g139 rfl rfl rfl rfl rfl ?_
  refine xe_s (f := (12, _, _, _)) xt_g139 rfl rfl rfl rfl rfl ?_
  refine xe_s (f := (13, _, _, _)) xt_g139 rfl rfl rfl rfl rfl ?_
  refine xe_cR xt_g139 rfl rfl rfl (q := 16) rfl (kc_S xk_0_360 (Nat.le_of_ble_eq_true rfl)) xt_g140 (by decide) ⟨Nat.le_of_ble_eq_true rfl, Nat.le_of_ble_eq_true rfl, Nat.le_of_ble_eq_true rfl⟩ (s140 hfm G G' (by omega)) ?_
  rw [st]
  refine xe_if_eq xt_g139 rfl (t := 39) rfl (q := 19) rfl (by first | omega | exact xb_r _) (fun b16 => ?_) (fun b16 => ?_)
  · try simp only [xb_0, xb_1, ne_eq, Decidable.not_not, Bool.not_eq_false, Bool.not_eq_true, decide_eq_true_eq, decide_eq_false_iff_not] at b16
    refine xe_s (f := (40, _, xi 0 :: _, _)) xt_g139 rfl rfl rfl rfl rfl ?_
    refine xe_iret xt_g139 rfl rfl (xi_bool (by first | omega | exact xb_or _)).1 ?_
    try dsimp only
    have e : st_ends l w = false := by
      unfold st_ends st_ed
      rw [Bool.and_eq_false_iff]
      by_cases g : w.length ≤ l.length
      · exact Or.inr (decide_eq_false (fun e => b16 ⟨g, e⟩))
      · exact Or.inl (decide_eq_false (by omega))
    rw [e]
    exact ⟨rfl, rfl⟩
  · try simp only [xb_0, xb_1, ne_eq, Decidable.not_not, Bool.not_eq_false, Bool.not_eq_true, decide_eq_true_eq, decide_eq_false_iff_not] at b16
    refine xe_s (f := (20, _, _, _)) xt_g139 rfl rfl rfl rfl rfl ?_
    refine xe_if_eq xt_g139 rfl (t := 35) rfl (q := 23) rfl (by first | omega | exact xb_r _) (fun b20 => ?_) (fun b20 => ?_)
    · try simp only [xb_0, xb_1, ne_eq, Decidable.not_not, Bool.not_eq_false, Bool.not_eq_true, decide_eq_true_eq, decide_eq_false_iff_not] at b20
      refine xe_s (f := (36, _, xi 1 :: _, _)) xt_g139 rfl rfl rfl rfl rfl ?_
      refine xe_s (f := (40, _, _, _)) xt_g139 rfl rfl rfl rfl rfl ?_
      refine xe_iret xt_g139 rfl rfl (xi_bool (by first | omega | exact xb_or _)).1 ?_
      try dsimp only
      have e : st_ends l w = true := by
        unfold st_ends st_ed
        rw [Bool.and_eq_true]
        exact ⟨decide_eq_true (Or.inl (by omega)), decide_eq_true b16.2⟩
      rw [e]
      exact ⟨rfl, rfl⟩
    · try simp only [xb_0, xb_1, ne_eq, Decidable.not_not, Bool.not_eq_false, Bool.not_eq_true, decide_eq_true_eq, decide_eq_false_iff_not] at b20
      refine xe_s (f := (24, _, _, _)) xt_g139 rfl rfl rfl rfl rfl ?_
      refine xe_s (f := (25, _, _, _)) xt_g139 rfl rfl rfl rfl rfl ?_
      refine xe_s (f := (26, _, xi 1 :: _, _)) xt_g139 rfl rfl rfl rfl rfl ?_
      refine xe_isub xt_g139 rfl (q := 27) rfl ?_
      refine xe_cR xt_g139 rfl rfl rfl (q := 30) rfl (kc_V xk_0_349 rfl (h1) (by omega) rfl rfl) xt_g85 (by decide) ⟨Nat.le_of_ble_eq_true rfl, Nat.le_of_ble_eq_true rfl, Nat.le_of_ble_eq_true rfl⟩ (s85 hfm G (by omega) (by omega)) ?_
      refine xe_bipush xt_g139 rfl (q := 32) rfl (by decide) (by decide) ?_
      refine xe_ic_ne xt_g139 rfl (t := 39) rfl (q := 35) rfl (by first | omega | exact xb_r _) (by first | omega | exact xb_r _) (fun b32 => ?_) (fun b32 => ?_)
      · try simp only [xb_0, xb_1, ne_eq, Decidable.not_not, Bool.not_eq_false, Bool.not_eq_true, decide_eq_true_eq, decide_eq_false_iff_not] at b32
        rw [e0] at b32
        refine xe_s (f := (40, _, xi 0 :: _, _)) xt_g139 rfl rfl rfl rfl rfl ?_
        refine xe_iret xt_g139 rfl rfl (xi_bool (by first | omega | exact xb_or _)).1 ?_
        try dsimp only
        have e : st_ends l w = false := by
          unfold st_ends st_ed
          rw [Bool.and_eq_false_iff]
          refine Or.inl (decide_eq_false ?_)
          rintro (e | e)
          · omega
          · exact b32 e.2
        rw [e]
        exact ⟨rfl, rfl⟩
      · try simp only [xb_0, xb_1, ne_eq, Decidable.not_not, Bool.not_eq_false, Bool.not_eq_true, decide_eq_true_eq, decide_eq_false_iff_not] at b32
        rw [e0] at b32
        refine xe_s (f := (36, _, xi 1 :: _, _)) xt_g139 rfl rfl rfl rfl rfl ?_
        refine xe_s (f := (40, _, _, _)) xt_g139 rfl rfl rfl rfl rfl ?_
        refine xe_iret xt_g139 rfl rfl (xi_bool (by first | omega | exact xb_or _)).1 ?_
        try dsimp only
        have e : st_ends l w = true := by
          unfold st_ends st_ed
          rw [Bool.and_eq_true]
          exact ⟨decide_eq_true (Or.inr ⟨by omega, b32⟩), decide_eq_true b16.2⟩
        rw [e]
        exact ⟨rfl, rfl⟩
/-- hostEnd -/
def hE (t : Int → Int) (E : Int) (F : Nat) (lb k : Int) : Int := if (xd_hs t E F lb k).2 = true then (xd_hs t E F lb k).1 else -1
theorem cnt_add {p : Int → Bool} {t : Int → Int} {E : Int} : ∀ (c : Nat) (k : Int), k + c ≤ E → (∀ j : Int, k ≤ j → j < k + c → p (t j) = true) → xd_cnt p t (E - k).toNat k = c + xd_cnt p t (E - (k + c)).toNat (k + c)
  | 0, k, h, hp => by
    simp
  | c + 1, k, h, hp => by
    rw [show (E - k).toNat = (E - (k + 1)).toNat + 1 by omega]
    show (if p (t k) = true then 1 + xd_cnt p t (E - (k + 1)).toNat (k + 1) else 0) = _
    rw [if_pos (hp k (by omega) (by omega)), cnt_add c (k + 1) (by omega) (fun j h1 h2 => hp j (by omega) (by omega)), show k + 1 + (c : Int) = k + ((c + 1 : Nat) : Int) by omega]
    omega
theorem cnt_0 {p : Int → Bool} {t : Int → Int} {N : Nat} {k : Int} (h : p (t k) = false) : xd_cnt p t N k = 0 := by
  cases N with
  | zero => rfl
  | succ N =>
    show (if p (t k) = true then 1 + xd_cnt p t N (k + 1) else 0) = 0
    rw [if_neg (by rw [h]; decide)]
theorem hE_s {t : Int → Int} {E : Int} {F : Nat} {lb k : Int} : hE t E (F + 1) lb k = if xd_cnt xd_lbl t (E - k).toNat k < 1 ∨ 12 < xd_cnt xd_lbl t (E - k).toNat k ∨ 6 < lb + 1 then -1 else if t (k + xd_cnt xd_lbl t (E - k).toNat k) = 46 then hE t E F (lb + 1) (k + xd_cnt xd_lbl t (E - k).toNat k + 1) else k + xd_cnt xd_lbl t (E - k).toNat k := by
  unfold hE
  rw [show xd_hs t E (F + 1) lb k = if xd_cnt xd_lbl t (E - k).toNat k < 1 ∨ 12 < xd_cnt xd_lbl t (E - k).toNat k ∨ 6 < lb + 1 then (k + xd_cnt xd_lbl t (E - k).toNat k, false) else if t (k + xd_cnt xd_lbl t (E - k).toNat k) = 46 then xd_hs t E F (lb + 1) (k + xd_cnt xd_lbl t (E - k).toNat k + 1) else (k + xd_cnt xd_lbl t (E - k).toNat k, true) from rfl]
  by_cases a : xd_cnt xd_lbl t (E - k).toNat k < 1 ∨ 12 < xd_cnt xd_lbl t (E - k).toNat k ∨ 6 < lb + 1
  · rw [if_pos a, if_pos a]
    rfl
  · rw [if_neg a, if_neg a]
    by_cases b : t (k + xd_cnt xd_lbl t (E - k).toNat k) = 46
    · rw [if_pos b, if_pos b]
    · rw [if_neg b, if_neg b]
      rfl
theorem xd_lbl_e {c : Int} : xd_lbl c = (ltr c || (xd_dig c || decide (c = 45))) := by
  unfold xd_lbl
  rw [xd_pln_e, Bool.or_assoc]
theorem s84_loop (hfm : fm = .null ∨ ∃ j, fm = .ref j) (H : sS F h n r l) {f0 : Int} : ∀ (N : Nat) (D c : Nat) (k : Int), ((l.length : Int) - (k + c)).toNat = N → 0 ≤ k → k + c ≤ l.length → D ≤ 5 → c ≤ 12 → (∀ j : Int, k ≤ j → j < k + c → xd_lbl (lt l j) = true) →
    xe fm 84 (7, [(4, xi (k + c)), (3, xi c), (2, xi D), (0, .ref r), (1, xi f0)], [], (h, n, 0, 0)) (fun r M => r = .inl (some (xi (hE (lt l) l.length (7 - D) D k))) ∧ M = (h, n, 0, 0)) := by
  have G := H
  obtain ⟨b, x, y, h1, h2, h3, h4, h5, h6, h7, h8⟩ := H
  intro N
  induction N with
  | zero =>
    intro D c k hN h0 hk hD hc hp
    have e1 : k + c = l.length := by omega
    have e2 := cnt_add c k hk hp
    have e3 : xd_cnt xd_lbl (lt l) ((l.length : Int) - (k + c)).toNat (k + c) = 0 := by rw [hN]; rfl
    have e4 : lt l (k + c) = 0 := lt_out (by omega)
    obtain ⟨F, hF⟩ : ∃ F, 7 - D = F + 1 := ⟨6 - D, by omega⟩
    rw [hF, hE_s, e2, e3, Int.add_zero, e4]
    refine xe_s (f := (9, _, _, _)) xt_g84 rfl rfl rfl rfl rfl ?_
    refine xe_s (f := (10, _, _, _)) xt_g84 rfl rfl rfl rfl rfl ?_
    refine xe_cR xt_g84 rfl rfl rfl (q := 13) rfl (kc_V xk_0_105 rfl (h1) (by omega) rfl rfl) xt_g31 (by decide) ⟨Nat.le_of_ble_eq_true rfl, Nat.le_of_ble_eq_true rfl, Nat.le_of_ble_eq_true rfl⟩ (s31 G) ?_
    refine xe_ic_ge xt_g84 rfl (t := 89) rfl (q := 16) rfl (by first | omega | exact xb_r _) (by first | omega | exact xb_r _) (fun b13 => ?_) (fun b13 => ?_)
    · try simp only [xb_0, xb_1, ne_eq, Decidable.not_not, Bool.not_eq_false, Bool.not_eq_true, decide_eq_true_eq, decide_eq_false_iff_not] at b13
      refine xe_s (f := (90, _, _, _)) xt_g84 rfl rfl rfl rfl rfl ?_
      refine xe_if_ne xt_g84 rfl (t := 97) rfl (q := 93) rfl (by first | omega | exact xb_r _) (fun b90 => ?_) (fun b90 => ?_)
      · try simp only [xb_0, xb_1, ne_eq, Decidable.not_not, Bool.not_eq_false, Bool.not_eq_true, decide_eq_true_eq, decide_eq_false_iff_not] at b90
        refine xe_s (f := (99, _, _, _)) xt_g84 rfl rfl rfl rfl rfl ?_
        refine xe_iret xt_g84 rfl rfl xi_int.1 ?_
        try dsimp only
        rw [if_neg (by omega), if_neg (by decide)]
        exact ⟨rfl, rfl⟩
      · try simp only [xb_0, xb_1, ne_eq, Decidable.not_not, Bool.not_eq_false, Bool.not_eq_true, decide_eq_true_eq, decide_eq_false_iff_not] at b90
        refine xe_s (f := (94, _, xi (-1) :: _, _)) xt_g84 rfl rfl rfl rfl rfl ?_
        refine xe_s (f := (99, _, _, _)) xt_g84 rfl rfl rfl rfl rfl ?_
        refine xe_iret xt_g84 rfl rfl xi_int.1 ?_
        try dsimp only
        rw [if_pos (by omega)]
        exact ⟨rfl, rfl⟩
    · exact absurd b13 (by omega)
  | succ N ih =>
    intro D c k hN h0 hk hD hc hp
    have a1 := lt_r h7 (k + c)
    have e2 := cnt_add c k hk hp
    have lab : xd_lbl (lt l (k + c)) = true → ∀ j : Int, k ≤ j → j < k + ((c + 1 : Nat) : Int) → xd_lbl (lt l j) = true := by
      intro hl j g1 g2
      by_cases e : j = k + c
      · rw [e]; exact hl
      · exact hp j g1 (by omega)
    have big : c = 12 → xd_lbl (lt l (k + c)) = true → hE (lt l) l.length (7 - D) D k = -1 := by
      intro ec el
      have e3 := cnt_add (E := l.length) (c + 1) k (by omega) (lab el)
      have e4 := (xd_cnt_r (p := xd_lbl) (t := lt l) ((l.length : Int) - (k + ((c + 1 : Nat) : Int))).toNat (k + ((c + 1 : Nat) : Int))).1
      obtain ⟨F, hF⟩ : ∃ F, 7 - D = F + 1 := ⟨6 - D, by omega⟩
      rw [hF, hE_s, if_pos (by omega)]
    have go : xd_lbl (lt l (k + c)) = true → c < 12 → xe fm 84 (7, [(4, xi (k + c + 1)), (3, xi ((c : Int) + 1)), (2, xi D), (0, .ref r), (1, xi f0)], [], (h, n, 0, 0)) (fun r M => r = .inl (some (xi (hE (lt l) l.length (7 - D) D k))) ∧ M = (h, n, 0, 0)) := by
      intro el ec
      have g := ih D (c + 1) k (by omega) h0 (by omega) hD (by omega) (lab el)
      rw [show k + ((c + 1 : Nat) : Int) = k + c + 1 by omega, show ((c + 1 : Nat) : Int) = (c : Int) + 1 by omega] at g
      exact g
    have stop : xd_lbl (lt l (k + c)) = false → (lt l (k + c) ≠ 46 ∨ c = 0) → (c = 0 → hE (lt l) l.length (7 - D) D k = -1) ∧ (c ≠ 0 → hE (lt l) l.length (7 - D) D k = k + c) := by
      intro el eh
      have e3 : xd_cnt xd_lbl (lt l) ((l.length : Int) - (k + c)).toNat (k + c) = 0 := cnt_0 el
      obtain ⟨F, hF⟩ : ∃ F, 7 - D = F + 1 := ⟨6 - D, by omega⟩
      rw [hF, hE_s, e2, e3, Int.add_zero]
      constructor
      · intro hc0
        rw [if_pos (by omega)]
      · intro hc0
        rw [if_neg (by omega), if_neg (by rcases eh with e | e; exact e; exact absurd e hc0)]
    have dot : lt l (k + c) = 46 → c ≠ 0 → hE (lt l) l.length (7 - D) D k = hE (lt l) l.length (6 - D) ((D : Int) + 1) (k + c + 1) := by
      intro eh hc0
      have el : xd_lbl (lt l (k + c)) = false := by rw [eh]; decide
      have e3 : xd_cnt xd_lbl (lt l) ((l.length : Int) - (k + c)).toNat (k + c) = 0 := cnt_0 el
      rw [show 7 - D = (6 - D) + 1 by omega, hE_s, e2, e3, Int.add_zero, if_neg (by omega), if_pos eh]
    have nodot : D = 5 → hE (lt l) l.length (6 - D) ((D : Int) + 1) (k + c + 1) = -1 := by
      intro e
      rw [show 6 - D = 0 + 1 by omega, hE_s, if_pos (by omega)]
    refine xe_s (f := (9, _, _, _)) xt_g84 rfl rfl rfl rfl rfl ?_
    refine xe_s (f := (10, _, _, _)) xt_g84 rfl rfl rfl rfl rfl ?_
    refine xe_cR xt_g84 rfl rfl rfl (q := 13) rfl (kc_V xk_0_105 rfl (h1) (by omega) rfl rfl) xt_g31 (by decide) ⟨Nat.le_of_ble_eq_true rfl, Nat.le_of_ble_eq_true rfl, Nat.le_of_ble_eq_true rfl⟩ (s31 G) ?_
    refine xe_ic_ge xt_g84 rfl (t := 89) rfl (q := 16) rfl (by first | omega | exact xb_r _) (by first | omega | exact xb_r _) (fun b13 => ?_) (fun b13 => ?_)
    · exact absurd b13 (by omega)
    · try simp only [xb_0, xb_1, ne_eq, Decidable.not_not, Bool.not_eq_false, Bool.not_eq_true, decide_eq_true_eq, decide_eq_false_iff_not] at b13
      refine xe_s (f := (17, _, _, _)) xt_g84 rfl rfl rfl rfl rfl ?_
      refine xe_s (f := (19, _, _, _)) xt_g84 rfl rfl rfl rfl rfl ?_
      refine xe_cR xt_g84 rfl rfl rfl (q := 22) rfl (kc_V xk_0_349 rfl (h1) (by omega) rfl rfl) xt_g85 (by decide) ⟨Nat.le_of_ble_eq_true rfl, Nat.le_of_ble_eq_true rfl, Nat.le_of_ble_eq_true rfl⟩ (s85t hfm G (by omega) (by omega)) ?_
      refine xe_s (f := (24, [(5, _), (4, _), (3, _), (2, _), (0, _), (1, _)], _, _)) xt_g84 rfl rfl rfl rfl rfl ?_
      refine xe_s (f := (26, _, _, _)) xt_g84 rfl rfl rfl rfl rfl ?_
      refine xe_cR xt_g84 rfl rfl rfl (q := 29) rfl (kc_S xk_0_364 (Nat.le_of_ble_eq_true rfl)) xt_g88 (by decide) ⟨Nat.le_of_ble_eq_true rfl, Nat.le_of_ble_eq_true rfl, Nat.le_of_ble_eq_true rfl⟩ (s88 a1) ?_
      refine xe_if_ne xt_g84 rfl (t := 47) rfl (q := 32) rfl (by first | omega | exact xb_r _) (fun b29 => ?_) (fun b29 => ?_)
      · try simp only [xb_0, xb_1, ne_eq, Decidable.not_not, Bool.not_eq_false, Bool.not_eq_true, decide_eq_true_eq, decide_eq_false_iff_not] at b29
        have el : xd_lbl (lt l (k + c)) = true := by rw [xd_lbl_e, b29]; rfl
        refine xe_iinc xt_g84 rfl (q := 50) rfl rfl (by decide) (L1 := [(3, _), (5, _), (4, _), (2, _), (0, _), (1, _)]) rfl ?_
        refine xe_s (f := (69, _, _, _)) xt_g84 rfl rfl rfl rfl rfl ?_
        refine xe_s (f := (70, _, _, _)) xt_g84 rfl rfl rfl rfl rfl ?_
        refine xe_bipush xt_g84 rfl (q := 72) rfl (by decide) (by decide) ?_
        refine xe_ic_gt xt_g84 rfl (t := 81) rfl (q := 75) rfl (by first | omega | exact xb_r _) (by first | omega | exact xb_r _) (fun b72 => ?_) (fun b72 => ?_)
        · try simp only [xb_0, xb_1, ne_eq, Decidable.not_not, Bool.not_eq_false, Bool.not_eq_true, decide_eq_true_eq, decide_eq_false_iff_not] at b72
          refine xe_s (f := (82, _, xi (-1) :: _, _)) xt_g84 rfl rfl rfl rfl rfl ?_
          refine xe_iret xt_g84 rfl rfl xi_int.1 ?_
          try dsimp only
          rw [big (by omega) el]
          exact ⟨rfl, rfl⟩
        · try simp only [xb_0, xb_1, ne_eq, Decidable.not_not, Bool.not_eq_false, Bool.not_eq_true, decide_eq_true_eq, decide_eq_false_iff_not] at b72
          refine xe_s (f := (76, _, _, _)) xt_g84 rfl rfl rfl rfl rfl ?_
          refine xe_bipush xt_g84 rfl (q := 78) rfl (by decide) (by decide) ?_
          refine xe_ic_lt xt_g84 rfl (t := 83) rfl (q := 81) rfl (by first | omega | exact xb_r _) (by first | omega | exact xb_r _) (fun b78 => ?_) (fun b78 => ?_)
          · try simp only [xb_0, xb_1, ne_eq, Decidable.not_not, Bool.not_eq_false, Bool.not_eq_true, decide_eq_true_eq, decide_eq_false_iff_not] at b78
            refine xe_iinc xt_g84 rfl (q := 86) rfl rfl (by decide) (L1 := [(4, _), (3, _), (5, _), (2, _), (0, _), (1, _)]) rfl ?_
            refine xe_s (f := (7, _, _, _)) xt_g84 rfl rfl rfl rfl rfl ?_
            exact xe_loc (by intro q hq; simp only [List.mem_cons, List.not_mem_nil, or_false] at hq; rcases hq with rfl | rfl | rfl | rfl | rfl <;> rfl) ((go el (by omega)))
          · exact absurd b78 (by omega)
      · try simp only [xb_0, xb_1, ne_eq, Decidable.not_not, Bool.not_eq_false, Bool.not_eq_true, decide_eq_true_eq, decide_eq_false_iff_not] at b29
        refine xe_s (f := (34, _, _, _)) xt_g84 rfl rfl rfl rfl rfl ?_
        refine xe_cR xt_g84 rfl rfl rfl (q := 37) rfl (kc_S xk_0_368 (Nat.le_of_ble_eq_true rfl)) xt_g89 (by decide) ⟨Nat.le_of_ble_eq_true rfl, Nat.le_of_ble_eq_true rfl, Nat.le_of_ble_eq_true rfl⟩ (s89 a1) ?_
        refine xe_if_ne xt_g84 rfl (t := 47) rfl (q := 40) rfl (by first | omega | exact xb_r _) (fun b37 => ?_) (fun b37 => ?_)
        · try simp only [xb_0, xb_1, ne_eq, Decidable.not_not, Bool.not_eq_false, Bool.not_eq_true, decide_eq_true_eq, decide_eq_false_iff_not] at b37
          have el : xd_lbl (lt l (k + c)) = true := by rw [xd_lbl_e, b37]; simp
          refine xe_iinc xt_g84 rfl (q := 50) rfl rfl (by decide) (L1 := [(3, _), (5, _), (4, _), (2, _), (0, _), (1, _)]) rfl ?_
          refine xe_s (f := (69, _, _, _)) xt_g84 rfl rfl rfl rfl rfl ?_
          refine xe_s (f := (70, _, _, _)) xt_g84 rfl rfl rfl rfl rfl ?_
          refine xe_bipush xt_g84 rfl (q := 72) rfl (by decide) (by decide) ?_
          refine xe_ic_gt xt_g84 rfl (t := 81) rfl (q := 75) rfl (by first | omega | exact xb_r _) (by first | omega | exact xb_r _) (fun b72 => ?_) (fun b72 => ?_)
          · try simp only [xb_0, xb_1, ne_eq, Decidable.not_not, Bool.not_eq_false, Bool.not_eq_true, decide_eq_true_eq, decide_eq_false_iff_not] at b72
            refine xe_s (f := (82, _, xi (-1) :: _, _)) xt_g84 rfl rfl rfl rfl rfl ?_
            refine xe_iret xt_g84 rfl rfl xi_int.1 ?_
            try dsimp only
            rw [big (by omega) el]
            exact ⟨rfl, rfl⟩
          · try simp only [xb_0, xb_1, ne_eq, Decidable.not_not, Bool.not_eq_false, Bool.not_eq_true, decide_eq_true_eq, decide_eq_false_iff_not] at b72
            refine xe_s (f := (76, _, _, _)) xt_g84 rfl rfl rfl rfl rfl ?_
            refine xe_bipush xt_g84 rfl (q := 78) rfl (by decide) (by decide) ?_
            refine xe_ic_lt xt_g84 rfl (t := 83) rfl (q := 81) rfl (by first | omega | exact xb_r _) (by first | omega | exact xb_r _) (fun b78 => ?_) (fun b78 => ?_)
            · try simp only [xb_0, xb_1, ne_eq, Decidable.not_not, Bool.not_eq_false, Bool.not_eq_true, decide_eq_true_eq, decide_eq_false_iff_not] at b78
              refine xe_iinc xt_g84 rfl (q := 86) rfl rfl (by decide) (L1 := [(4, _), (3, _), (5, _), (2, _), (0, _), (1, _)]) rfl ?_
              refine xe_s (f := (7, _, _, _)) xt_g84 rfl rfl rfl rfl rfl ?_
              exact xe_loc (by intro q hq; simp only [List.mem_cons, List.not_mem_nil, or_false] at hq; rcases hq with rfl | rfl | rfl | rfl | rfl <;> rfl) ((go el (by omega)))
            · exact absurd b78 (by omega)
        · try simp only [xb_0, xb_1, ne_eq, Decidable.not_not, Bool.not_eq_false, Bool.not_eq_true, decide_eq_true_eq, decide_eq_false_iff_not] at b37
          refine xe_s (f := (42, _, _, _)) xt_g84 rfl rfl rfl rfl rfl ?_
          refine xe_bipush xt_g84 rfl (q := 44) rfl (by decide) (by decide) ?_
          refine xe_ic_ne xt_g84 rfl (t := 53) rfl (q := 47) rfl (by first | omega | exact xb_r _) (by first | omega | exact xb_r _) (fun b44 => ?_) (fun b44 => ?_)
          · try simp only [xb_0, xb_1, ne_eq, Decidable.not_not, Bool.not_eq_false, Bool.not_eq_true, decide_eq_true_eq, decide_eq_false_iff_not] at b44
            have el : xd_lbl (lt l (k + c)) = false := by rw [xd_lbl_e, b29, b37, decide_eq_false b44]; rfl
            refine xe_s (f := (55, _, _, _)) xt_g84 rfl rfl rfl rfl rfl ?_
            refine xe_bipush xt_g84 rfl (q := 57) rfl (by decide) (by decide) ?_
            refine xe_ic_ne xt_g84 rfl (t := 89) rfl (q := 60) rfl (by first | omega | exact xb_r _) (by first | omega | exact xb_r _) (fun b57 => ?_) (fun b57 => ?_)
            · try simp only [xb_0, xb_1, ne_eq, Decidable.not_not, Bool.not_eq_false, Bool.not_eq_true, decide_eq_true_eq, decide_eq_false_iff_not] at b57
              refine xe_s (f := (90, _, _, _)) xt_g84 rfl rfl rfl rfl rfl ?_
              refine xe_if_ne xt_g84 rfl (t := 97) rfl (q := 93) rfl (by first | omega | exact xb_r _) (fun b90 => ?_) (fun b90 => ?_)
              · try simp only [xb_0, xb_1, ne_eq, Decidable.not_not, Bool.not_eq_false, Bool.not_eq_true, decide_eq_true_eq, decide_eq_false_iff_not] at b90
                refine xe_s (f := (99, _, _, _)) xt_g84 rfl rfl rfl rfl rfl ?_
                refine xe_iret xt_g84 rfl rfl xi_int.1 ?_
                try dsimp only
                rw [(stop el (by omega)).2 (by omega)]
                exact ⟨rfl, rfl⟩
              · try simp only [xb_0, xb_1, ne_eq, Decidable.not_not, Bool.not_eq_false, Bool.not_eq_true, decide_eq_true_eq, decide_eq_false_iff_not] at b90
                refine xe_s (f := (94, _, xi (-1) :: _, _)) xt_g84 rfl rfl rfl rfl rfl ?_
                refine xe_s (f := (99, _, _, _)) xt_g84 rfl rfl rfl rfl rfl ?_
                refine xe_iret xt_g84 rfl rfl xi_int.1 ?_
                try dsimp only
                rw [(stop el (by omega)).1 (by omega)]
                exact ⟨rfl, rfl⟩
            · try simp only [xb_0, xb_1, ne_eq, Decidable.not_not, Bool.not_eq_false, Bool.not_eq_true, decide_eq_true_eq, decide_eq_false_iff_not] at b57
              refine xe_s (f := (61, _, _, _)) xt_g84 rfl rfl rfl rfl rfl ?_
              refine xe_if_le xt_g84 rfl (t := 89) rfl (q := 64) rfl (by first | omega | exact xb_r _) (fun b61 => ?_) (fun b61 => ?_)
              · try simp only [xb_0, xb_1, ne_eq, Decidable.not_not, Bool.not_eq_false, Bool.not_eq_true, decide_eq_true_eq, decide_eq_false_iff_not] at b61
                refine xe_s (f := (90, _, _, _)) xt_g84 rfl rfl rfl rfl rfl ?_
                refine xe_if_ne xt_g84 rfl (t := 97) rfl (q := 93) rfl (by first | omega | exact xb_r _) (fun b90 => ?_) (fun b90 => ?_)
                · try simp only [xb_0, xb_1, ne_eq, Decidable.not_not, Bool.not_eq_false, Bool.not_eq_true, decide_eq_true_eq, decide_eq_false_iff_not] at b90
                  refine xe_s (f := (99, _, _, _)) xt_g84 rfl rfl rfl rfl rfl ?_
                  refine xe_iret xt_g84 rfl rfl xi_int.1 ?_
                  try dsimp only
                  rw [(stop el (by omega)).2 (by omega)]
                  exact ⟨rfl, rfl⟩
                · try simp only [xb_0, xb_1, ne_eq, Decidable.not_not, Bool.not_eq_false, Bool.not_eq_true, decide_eq_true_eq, decide_eq_false_iff_not] at b90
                  refine xe_s (f := (94, _, xi (-1) :: _, _)) xt_g84 rfl rfl rfl rfl rfl ?_
                  refine xe_s (f := (99, _, _, _)) xt_g84 rfl rfl rfl rfl rfl ?_
                  refine xe_iret xt_g84 rfl rfl xi_int.1 ?_
                  try dsimp only
                  rw [(stop el (by omega)).1 (by omega)]
                  exact ⟨rfl, rfl⟩
              · try simp only [xb_0, xb_1, ne_eq, Decidable.not_not, Bool.not_eq_false, Bool.not_eq_true, decide_eq_true_eq, decide_eq_false_iff_not] at b61
                have nd := dot b57 (by omega)
                refine xe_iinc xt_g84 rfl (q := 67) rfl rfl (by decide) (L1 := [(2, _), (5, _), (4, _), (3, _), (0, _), (1, _)]) rfl ?_
                refine xe_s (f := (68, _, xi 0 :: _, _)) xt_g84 rfl rfl rfl rfl rfl ?_
                refine xe_s (f := (69, [(3, _), (2, _), (5, _), (4, _), (0, _), (1, _)], _, _)) xt_g84 rfl rfl rfl rfl rfl ?_
                refine xe_s (f := (70, _, _, _)) xt_g84 rfl rfl rfl rfl rfl ?_
                refine xe_bipush xt_g84 rfl (q := 72) rfl (by decide) (by decide) ?_
                refine xe_ic_gt xt_g84 rfl (t := 81) rfl (q := 75) rfl (by first | omega | exact xb_r _) (by first | omega | exact xb_r _) (fun b72 => ?_) (fun b72 => ?_)
                · exact absurd b72 (by omega)
                · try simp only [xb_0, xb_1, ne_eq, Decidable.not_not, Bool.not_eq_false, Bool.not_eq_true, decide_eq_true_eq, decide_eq_false_iff_not] at b72
                  refine xe_s (f := (76, _, _, _)) xt_g84 rfl rfl rfl rfl rfl ?_
                  refine xe_bipush xt_g84 rfl (q := 78) rfl (by decide) (by decide) ?_
                  refine xe_ic_lt xt_g84 rfl (t := 83) rfl (q := 81) rfl (by first | omega | exact xb_r _) (by first | omega | exact xb_r _) (fun b78 => ?_) (fun b78 => ?_)
                  · try simp only [xb_0, xb_1, ne_eq, Decidable.not_not, Bool.not_eq_false, Bool.not_eq_true, decide_eq_true_eq, decide_eq_false_iff_not] at b78
                    refine xe_iinc xt_g84 rfl (q := 86) rfl rfl (by decide) (L1 := [(4, _), (3, _), (2, _), (5, _), (0, _), (1, _)]) rfl ?_
                    refine xe_s (f := (7, _, _, _)) xt_g84 rfl rfl rfl rfl rfl ?_
                    rw [nd]
                    have g := ih (D + 1) 0 (k + c + 1) (by omega) (by omega) (by omega) (by omega) (by omega) (fun j g1 g2 => by omega)
                    rw [show 7 - (D + 1) = 6 - D by omega, show ((D + 1 : Nat) : Int) = (D : Int) + 1 by omega, show k + c + 1 + ((0 : Nat) : Int) = k + c + 1 by omega] at g
                    exact xe_loc (by intro q hq; simp only [List.mem_cons, List.not_mem_nil, or_false] at hq; rcases hq with rfl | rfl | rfl | rfl | rfl <;> rfl) (g)
                  · try simp only [xb_0, xb_1, ne_eq, Decidable.not_not, Bool.not_eq_false, Bool.not_eq_true, decide_eq_true_eq, decide_eq_false_iff_not] at b78
                    refine xe_s (f := (82, _, xi (-1) :: _, _)) xt_g84 rfl rfl rfl rfl rfl ?_
                    refine xe_iret xt_g84 rfl rfl xi_int.1 ?_
                    try dsimp only
                    rw [nd, nodot (by omega)]
                    exact ⟨rfl, rfl⟩
          · try simp only [xb_0, xb_1, ne_eq, Decidable.not_not, Bool.not_eq_false, Bool.not_eq_true, decide_eq_true_eq, decide_eq_false_iff_not] at b44
            have el : xd_lbl (lt l (k + c)) = true := by rw [xd_lbl_e, decide_eq_true b44]; simp
            refine xe_iinc xt_g84 rfl (q := 50) rfl rfl (by decide) (L1 := [(3, _), (5, _), (4, _), (2, _), (0, _), (1, _)]) rfl ?_
            refine xe_s (f := (69, _, _, _)) xt_g84 rfl rfl rfl rfl rfl ?_
            refine xe_s (f := (70, _, _, _)) xt_g84 rfl rfl rfl rfl rfl ?_
            refine xe_bipush xt_g84 rfl (q := 72) rfl (by decide) (by decide) ?_
            refine xe_ic_gt xt_g84 rfl (t := 81) rfl (q := 75) rfl (by first | omega | exact xb_r _) (by first | omega | exact xb_r _) (fun b72 => ?_) (fun b72 => ?_)
            · try simp only [xb_0, xb_1, ne_eq, Decidable.not_not, Bool.not_eq_false, Bool.not_eq_true, decide_eq_true_eq, decide_eq_false_iff_not] at b72
              refine xe_s (f := (82, _, xi (-1) :: _, _)) xt_g84 rfl rfl rfl rfl rfl ?_
              refine xe_iret xt_g84 rfl rfl xi_int.1 ?_
              try dsimp only
              rw [big (by omega) el]
              exact ⟨rfl, rfl⟩
            · try simp only [xb_0, xb_1, ne_eq, Decidable.not_not, Bool.not_eq_false, Bool.not_eq_true, decide_eq_true_eq, decide_eq_false_iff_not] at b72
              refine xe_s (f := (76, _, _, _)) xt_g84 rfl rfl rfl rfl rfl ?_
              refine xe_bipush xt_g84 rfl (q := 78) rfl (by decide) (by decide) ?_
              refine xe_ic_lt xt_g84 rfl (t := 83) rfl (q := 81) rfl (by first | omega | exact xb_r _) (by first | omega | exact xb_r _) (fun b78 => ?_) (fun b78 => ?_)
              · try simp only [xb_0, xb_1, ne_eq, Decidable.not_not, Bool.not_eq_false, Bool.not_eq_true, decide_eq_true_eq, decide_eq_false_iff_not] at b78
                refine xe_iinc xt_g84 rfl (q := 86) rfl rfl (by decide) (L1 := [(4, _), (3, _), (5, _), (2, _), (0, _), (1, _)]) rfl ?_
                refine xe_s (f := (7, _, _, _)) xt_g84 rfl rfl rfl rfl rfl ?_
                exact xe_loc (by intro q hq; simp only [List.mem_cons, List.not_mem_nil, or_false] at hq; rcases hq with rfl | rfl | rfl | rfl | rfl <;> rfl) ((go el (by omega)))
              · exact absurd b78 (by omega)
theorem s84 {k : Int} (hfm : fm = .null ∨ ∃ j, fm = .ref j) (H : sS F h n r l) (h0 : 0 ≤ k) (hk : k ≤ l.length) : xR fm 84 h n [.ref r, xi k] (some (xi (hE (lt l) l.length 7 0 k))) := by
  have g := s84_loop (f0 := k) hfm H _ 0 0 k rfl h0 (by omega) (by omega) (by omega) (fun j g1 g2 => by omega)
  rw [show k + ((0 : Nat) : Int) = k by omega] at g
  unfold xR
  refine xe_s (f := (1, _, xi 0 :: _, _)) xt_g84 rfl rfl rfl rfl rfl ?_
  refine xe_s (f := (2, [(2, _), (0, _), (1, _)], _, _)) xt_g84 rfl rfl rfl rfl rfl ?_
  refine xe_s (f := (3, _, xi 0 :: _, _)) xt_g84 rfl rfl rfl rfl rfl ?_
  refine xe_s (f := (4, [(3, _), (2, _), (0, _), (1, _)], _, _)) xt_g84 rfl rfl rfl rfl rfl ?_
  refine xe_s (f := (5, _, _, _)) xt_g84 rfl rfl rfl rfl rfl ?_
  refine xe_s (f := (7, [(4, _), (3, _), (2, _), (0, _), (1, _)], _, _)) xt_g84 rfl rfl rfl rfl rfl ?_
  exact xe_loc (by intro q hq; simp only [List.mem_cons, List.not_mem_nil, or_false] at hq; rcases hq with rfl | rfl | rfl | rfl | rfl <;> rfl) (g)
/-- trimmed -/
theorem trw_r {t : Int → Int} : ∀ (N : Nat) (k : Int), k ≤ tr_fw t N k ∧ tr_fw t N k ≤ k + N
  | 0, k => by unfold tr_fw; omega
  | N + 1, k => by
    unfold tr_fw
    have := trw_r (t := t) N (k + 1)
    split <;> omega
theorem trb_r {t : Int → Int} : ∀ (N : Nat) (k : Int), k - N ≤ tr_bk t N k ∧ tr_bk t N k ≤ k
  | 0, k => by unfold tr_bk; omega
  | N + 1, k => by
    unfold tr_bk
    have := trb_r (t := t) N (k - 1)
    split <;> omega
theorem sl_pa {i j : Int} (h0 : 0 ≤ i) (h1 : i ≤ j) (h2 : j ≤ l.length) : sl l i j = pa_sl (lt l) i j := by
  refine gd_ext (by rw [sl_len h0 h1 h2, pa_sl_len]) (fun t ht => ?_)
  rw [sl_len h0 h1 h2] at ht
  rw [sl_get h0 h1 h2 ht, pa_sl_get ht, lt_in (by omega) (by omega)]
  congr 1
  omega
theorem s193_bk (hfm : fm = .null ∨ ∃ j, fm = .ref j) (h44 : 44 ≤ n) (HE : sS F h n 1 []) (H : sS F h n r l) {a i0 j0 : Int} (h0 : 0 ≤ a) : ∀ (N : Nat) (e : Int), (e - a).toNat = N → a ≤ e → e ≤ l.length →
    xe fm 193 (27, [(4, xi e), (3, xi a), (0, .ref r)], [], (h, n, 0, 0)) (fun q M => ∃ x : Nat, q = .inl (some (.ref x)) ∧ sS (nf F n) M.1 M.2.1 x (sl l a (tr_bk (lt l) N e)) ∧ ex h n M.1 M.2.1 ∧ M.2.1 ≤ n + 2 ∧ M.2.2.2 ≤ 4 + (tr_bk (lt l) N e - a).toNat) := by
  have G := H
  obtain ⟨b, x, y, h1, h2, h3, h4, h5, h6, h7, h8⟩ := H
  intro N
  induction N with
  | zero =>
    intro e hN he hl
    refine xe_s (f := (29, _, _, _)) xt_g193 rfl rfl rfl rfl rfl ?_
    refine xe_s (f := (30, _, _, _)) xt_g193 rfl rfl rfl rfl rfl ?_
    refine xe_ic_le xt_g193 rfl (t := 52) rfl (q := 33) rfl (by first | omega | exact xb_r _) (by first | omega | exact xb_r _) (fun b30 => ?_) (fun b30 => ?_)
    · try simp only [xb_0, xb_1, ne_eq, Decidable.not_not, Bool.not_eq_false, Bool.not_eq_true, decide_eq_true_eq, decide_eq_false_iff_not] at b30
      refine xe_s (f := (53, _, _, _)) xt_g193 rfl rfl rfl rfl rfl ?_
      refine xe_s (f := (54, _, _, _)) xt_g193 rfl rfl rfl rfl rfl ?_
      refine xe_s (f := (56, _, _, _)) xt_g193 rfl rfl rfl rfl rfl ?_
      refine xe_cA xt_g193 rfl rfl rfl (q := 59) rfl (kc_V xk_4_106 rfl (h1) (by omega) rfl rfl) xt_g103 (by decide) ⟨Nat.le_of_ble_eq_true rfl, Nat.le_of_ble_eq_true rfl, Nat.le_of_ble_eq_true rfl⟩ (s103 hfm h44 HE G h0 he hl) (fun x h' n' c' u' hp => ?_)
      refine xe_aret xt_g193 rfl (Or.inl ⟨_, rfl⟩) rfl ?_
      try dsimp only
      exact ⟨x, rfl, hp.1, hp.2.1, hp.2.2.1, by have := hp.2.2.2; unfold tr_bk; omega⟩
    · exact absurd b30 (by omega)
  | succ N ih =>
    intro e hN he hl
    have a1 := lt_r h7 (e - 1)
    rw [show tr_bk (lt l) (N + 1) e = if lt l (e - 1) = 32 then tr_bk (lt l) N (e - 1) else e from rfl]
    refine xe_s (f := (29, _, _, _)) xt_g193 rfl rfl rfl rfl rfl ?_
    refine xe_s (f := (30, _, _, _)) xt_g193 rfl rfl rfl rfl rfl ?_
    refine xe_ic_le xt_g193 rfl (t := 52) rfl (q := 33) rfl (by first | omega | exact xb_r _) (by first | omega | exact xb_r _) (fun b30 => ?_) (fun b30 => ?_)
    · exact absurd b30 (by omega)
    · try simp only [xb_0, xb_1, ne_eq, Decidable.not_not, Bool.not_eq_false, Bool.not_eq_true, decide_eq_true_eq, decide_eq_false_iff_not] at b30
      refine xe_s (f := (34, _, _, _)) xt_g193 rfl rfl rfl rfl rfl ?_
      refine xe_s (f := (36, _, _, _)) xt_g193 rfl rfl rfl rfl rfl ?_
      refine xe_s (f := (37, _, xi 1 :: _, _)) xt_g193 rfl rfl rfl rfl rfl ?_
      refine xe_isub xt_g193 rfl (q := 38) rfl ?_
      refine xe_cR xt_g193 rfl rfl rfl (q := 41) rfl (kc_V xk_4_51 rfl (h1) (by omega) rfl rfl) xt_g85 (by decide) ⟨Nat.le_of_ble_eq_true rfl, Nat.le_of_ble_eq_true rfl, Nat.le_of_ble_eq_true rfl⟩ (s85t hfm G (by omega) (by omega)) ?_
      refine xe_bipush xt_g193 rfl (q := 43) rfl (by decide) (by decide) ?_
      refine xe_ic_ne xt_g193 rfl (t := 52) rfl (q := 46) rfl (by first | omega | exact xb_r _) (by first | omega | exact xb_r _) (fun b43 => ?_) (fun b43 => ?_)
      · try simp only [xb_0, xb_1, ne_eq, Decidable.not_not, Bool.not_eq_false, Bool.not_eq_true, decide_eq_true_eq, decide_eq_false_iff_not] at b43
        refine xe_s (f := (53, _, _, _)) xt_g193 rfl rfl rfl rfl rfl ?_
        refine xe_s (f := (54, _, _, _)) xt_g193 rfl rfl rfl rfl rfl ?_
        refine xe_s (f := (56, _, _, _)) xt_g193 rfl rfl rfl rfl rfl ?_
        refine xe_cA xt_g193 rfl rfl rfl (q := 59) rfl (kc_V xk_4_106 rfl (h1) (by omega) rfl rfl) xt_g103 (by decide) ⟨Nat.le_of_ble_eq_true rfl, Nat.le_of_ble_eq_true rfl, Nat.le_of_ble_eq_true rfl⟩ (s103 hfm h44 HE G h0 he hl) (fun x h' n' c' u' hp => ?_)
        refine xe_aret xt_g193 rfl (Or.inl ⟨_, rfl⟩) rfl ?_
        try dsimp only
        rw [if_neg b43]
        exact ⟨x, rfl, hp.1, hp.2.1, hp.2.2.1, by have := hp.2.2.2; omega⟩
      · try simp only [xb_0, xb_1, ne_eq, Decidable.not_not, Bool.not_eq_false, Bool.not_eq_true, decide_eq_true_eq, decide_eq_false_iff_not] at b43
        refine xe_iinc xt_g193 rfl (q := 49) rfl rfl (by decide) (L1 := [(4, _), (3, _), (0, _)]) rfl ?_
        refine xe_s (f := (27, _, _, _)) xt_g193 rfl rfl rfl rfl rfl ?_
        rw [if_pos b43]
        exact ih (e - 1) (by omega) (by omega) (by omega)
theorem s193_fw (hfm : fm = .null ∨ ∃ j, fm = .ref j) (h44 : 44 ≤ n) (HE : sS F h n 1 []) (H : sS F h n r l) {e : Int} (he : e ≤ l.length) : ∀ (N : Nat) (a : Int), (e - a).toNat = N → 0 ≤ a → a ≤ e →
    xe fm 193 (5, [(4, xi e), (3, xi a), (0, .ref r)], [], (h, n, 0, 0)) (fun q M => ∃ x : Nat, q = .inl (some (.ref x)) ∧ sS (nf F n) M.1 M.2.1 x (sl l (tr_fw (lt l) N a) (tr_bk (lt l) (e - tr_fw (lt l) N a).toNat e)) ∧ ex h n M.1 M.2.1 ∧ M.2.1 ≤ n + 2 ∧ M.2.2.2 ≤ 4 + (tr_bk (lt l) (e - tr_fw (lt l) N a).toNat e - tr_fw (lt l) N a).toNat) := by
  have G := H
  obtain ⟨b, x, y, h1, h2, h3, h4, h5, h6, h7, h8⟩ := H
  intro N
  induction N with
  | zero =>
    intro a hN h0 ha
    refine xe_s (f := (6, _, _, _)) xt_g193 rfl rfl rfl rfl rfl ?_
    refine xe_s (f := (8, _, _, _)) xt_g193 rfl rfl rfl rfl rfl ?_
    refine xe_ic_ge xt_g193 rfl (t := 27) rfl (q := 11) rfl (by first | omega | exact xb_r _) (by first | omega | exact xb_r _) (fun b8 => ?_) (fun b8 => ?_)
    · try simp only [xb_0, xb_1, ne_eq, Decidable.not_not, Bool.not_eq_false, Bool.not_eq_true, decide_eq_true_eq, decide_eq_false_iff_not] at b8
      exact s193_bk hfm h44 HE G (i0 := 0) (j0 := 0) h0 _ e rfl ha he
    · exact absurd b8 (by omega)
  | succ N ih =>
    intro a hN h0 ha
    have a1 := lt_r h7 a
    rw [show tr_fw (lt l) (N + 1) a = if lt l a = 32 then tr_fw (lt l) N (a + 1) else a from rfl]
    refine xe_s (f := (6, _, _, _)) xt_g193 rfl rfl rfl rfl rfl ?_
    refine xe_s (f := (8, _, _, _)) xt_g193 rfl rfl rfl rfl rfl ?_
    refine xe_ic_ge xt_g193 rfl (t := 27) rfl (q := 11) rfl (by first | omega | exact xb_r _) (by first | omega | exact xb_r _) (fun b8 => ?_) (fun b8 => ?_)
    · exact absurd b8 (by omega)
    · try simp only [xb_0, xb_1, ne_eq, Decidable.not_not, Bool.not_eq_false, Bool.not_eq_true, decide_eq_true_eq, decide_eq_false_iff_not] at b8
      refine xe_s (f := (12, _, _, _)) xt_g193 rfl rfl rfl rfl rfl ?_
      refine xe_s (f := (13, _, _, _)) xt_g193 rfl rfl rfl rfl rfl ?_
      refine xe_cR xt_g193 rfl rfl rfl (q := 16) rfl (kc_V xk_4_51 rfl (h1) (by omega) rfl rfl) xt_g85 (by decide) ⟨Nat.le_of_ble_eq_true rfl, Nat.le_of_ble_eq_true rfl, Nat.le_of_ble_eq_true rfl⟩ (s85t hfm G (by omega) (by omega)) ?_
      refine xe_bipush xt_g193 rfl (q := 18) rfl (by decide) (by decide) ?_
      refine xe_ic_ne xt_g193 rfl (t := 27) rfl (q := 21) rfl (by first | omega | exact xb_r _) (by first | omega | exact xb_r _) (fun b18 => ?_) (fun b18 => ?_)
      · try simp only [xb_0, xb_1, ne_eq, Decidable.not_not, Bool.not_eq_false, Bool.not_eq_true, decide_eq_true_eq, decide_eq_false_iff_not] at b18
        rw [if_neg b18]
        exact s193_bk hfm h44 HE G (i0 := 0) (j0 := 0) h0 _ e rfl ha he
      · try simp only [xb_0, xb_1, ne_eq, Decidable.not_not, Bool.not_eq_false, Bool.not_eq_true, decide_eq_true_eq, decide_eq_false_iff_not] at b18
        refine xe_iinc xt_g193 rfl (q := 24) rfl rfl (by decide) (L1 := [(3, _), (4, _), (0, _)]) rfl ?_
        refine xe_s (f := (5, _, _, _)) xt_g193 rfl rfl rfl rfl rfl ?_
        rw [if_pos b18]
        exact xe_loc (by intro q hq; simp only [List.mem_cons, List.not_mem_nil, or_false] at hq; rcases hq with rfl | rfl | rfl <;> rfl) ((ih (a + 1) (by omega) (by omega) (by omega)))
theorem s193 {a e : Int} (hfm : fm = .null ∨ ∃ j, fm = .ref j) (h44 : 44 ≤ n) (HE : sS F h n 1 []) (H : sS F h n r l) (h0 : 0 ≤ a) (ha : a ≤ e) (he : e ≤ l.length) : xA fm 193 h n [.ref r, xi a, xi e] (fun x h' n' u' => sS (nf F n) h' n' x (tr_m (lt l) a e) ∧ ex h n h' n' ∧ n' ≤ n + 2 ∧ u' ≤ 4 + (e - a).toNat) := by
  have g := s193_fw hfm h44 HE H he _ a rfl h0 ha
  have r1 := trw_r (t := lt l) (e - a).toNat a
  have r2 := trb_r (t := lt l) (e - tr_f (lt l) a e).toNat e
  unfold xA
  refine xe_s (f := (1, _, _, _)) xt_g193 rfl rfl rfl rfl rfl ?_
  refine xe_s (f := (2, [(3, _), (0, _), (1, _), (2, _)], _, _)) xt_g193 rfl rfl rfl rfl rfl ?_
  refine xe_s (f := (3, _, _, _)) xt_g193 rfl rfl rfl rfl rfl ?_
  refine xe_s (f := (5, [(4, _), (3, _), (0, _), (1, _), (2, _)], _, _)) xt_g193 rfl rfl rfl rfl rfl ?_
  refine xe_mono (xe_loc (by intro q hq; simp only [List.mem_cons, List.not_mem_nil, or_false] at hq; rcases hq with rfl | rfl | rfl <;> rfl) (g)) (fun r M hM => ?_)
  obtain ⟨x, q1, q2, q3, q4, q5⟩ := hM
  refine ⟨x, q1, ?_, q3, q4, ?_⟩
  · unfold tr_m tr_t tr_f
    unfold tr_f at r2
    rw [← sl_pa (by omega) (by omega) (by omega)]
    exact q2
  · unfold tr_f at r2
    omega
/-- folders -/
theorem pa_bl_r {c : Int} : ∀ (k : Nat), pa_bl l c k ≤ k
  | 0 => Nat.le_refl _
  | k + 1 => by
    unfold pa_bl
    have := pa_bl_r (c := c) k
    split <;> omega
theorem s117 (hfm : fm = .null ∨ ∃ j, fm = .ref j) (h44 : 44 ≤ n) (HE : sS F h n 1 []) (H : sS F h n r l) : xA fm 117 h n [.ref r] (fun x h' n' u' => sS (nf F n) h' n' x (pa_fold l) ∧ ex h n h' n' ∧ n' ≤ n + 2 ∧ u' ≤ 4 + l.length) := by
  have G := H
  obtain ⟨b, x, y, h1, h2, h3, h4, h5, h6, h7, h8⟩ := H
  have r1 := pa_bl_r (l := l) (c := 47) l.length
  unfold xA
  refine xe_s (f := (1, _, _, _)) xt_g117 rfl rfl rfl rfl rfl ?_
  refine xe_s (f := (2, _, xi 0 :: _, _)) xt_g117 rfl rfl rfl rfl rfl ?_
  refine xe_s (f := (3, _, _, _)) xt_g117 rfl rfl rfl rfl rfl ?_
  refine xe_bipush xt_g117 rfl (q := 5) rfl (by decide) (by decide) ?_
  refine xe_s (f := (6, _, _, _)) xt_g117 rfl rfl rfl rfl rfl ?_
  refine xe_cR xt_g117 rfl rfl rfl (q := 9) rfl (kc_V xk_2_64 rfl (h1) (by omega) rfl rfl) xt_g31 (by decide) ⟨Nat.le_of_ble_eq_true rfl, Nat.le_of_ble_eq_true rfl, Nat.le_of_ble_eq_true rfl⟩ (s31 G) ?_
  refine xe_cR xt_g117 rfl rfl rfl (q := 12) rfl (kc_S xk_2_121 (Nat.le_of_ble_eq_true rfl)) xt_g118 (by decide) ⟨Nat.le_of_ble_eq_true rfl, Nat.le_of_ble_eq_true rfl, Nat.le_of_ble_eq_true rfl⟩ (s118 hfm G (by omega) (by omega) (Int.le_refl _)) ?_
  rw [Int.toNat_natCast]
  refine xe_cA xt_g117 rfl rfl rfl (q := 15) rfl (kc_V xk_2_70 rfl (h1) (by omega) rfl rfl) xt_g103 (by decide) ⟨Nat.le_of_ble_eq_true rfl, Nat.le_of_ble_eq_true rfl, Nat.le_of_ble_eq_true rfl⟩ (s103 hfm h44 HE G (Int.le_refl 0) (by omega) (by omega)) (fun x h' n' c' u' hp => ?_)
  refine xe_aret xt_g117 rfl (Or.inl ⟨_, rfl⟩) rfl ?_
  try dsimp only
  refine ⟨x, rfl, ?_, hp.2.1, hp.2.2.1, by have := hp.2.2.2; omega⟩
  unfold pa_fold
  have := hp.1
  unfold sl at this
  simpa using this
theorem s214 (hfm : fm = .null ∨ ∃ j, fm = .ref j) (h44 : 44 ≤ n) (HE : sS F h n 1 []) (HS : sS F h n 11 [47]) (H : sS F h n r l) : xA fm 214 h n [.ref r] (fun x h' n' u' => sS (nf F n) h' n' x (if pa_bl l 47 l.length ≤ 1 then [47] else l.take (pa_bl l 47 l.length - 1)) ∧ ex h n h' n' ∧ n' ≤ n + 2 ∧ u' ≤ 4 + l.length) := by
  have G := H
  obtain ⟨b, x, y, h1, h2, h3, h4, h5, h6, h7, h8⟩ := H
  have r1 := pa_bl_r (l := l) (c := 47) l.length
  unfold xA
  refine xe_s (f := (1, _, _, _)) xt_g214 rfl rfl rfl rfl rfl ?_
  refine xe_bipush xt_g214 rfl (q := 3) rfl (by decide) (by decide) ?_
  refine xe_s (f := (4, _, _, _)) xt_g214 rfl rfl rfl rfl rfl ?_
  refine xe_cR xt_g214 rfl rfl rfl (q := 7) rfl (kc_V xk_6_117 rfl (h1) (by omega) rfl rfl) xt_g31 (by decide) ⟨Nat.le_of_ble_eq_true rfl, Nat.le_of_ble_eq_true rfl, Nat.le_of_ble_eq_true rfl⟩ (s31 G) ?_
  refine xe_cR xt_g214 rfl rfl rfl (q := 10) rfl (kc_S xk_6_127 (Nat.le_of_ble_eq_true rfl)) xt_g118 (by decide) ⟨Nat.le_of_ble_eq_true rfl, Nat.le_of_ble_eq_true rfl, Nat.le_of_ble_eq_true rfl⟩ (s118 hfm G (by omega) (by omega) (Int.le_refl _)) ?_
  rw [Int.toNat_natCast]
  refine xe_s (f := (11, _, xi 1 :: _, _)) xt_g214 rfl rfl rfl rfl rfl ?_
  refine xe_isub xt_g214 rfl (q := 12) rfl ?_
  refine xe_s (f := (13, [(1, _), (0, _)], _, _)) xt_g214 rfl rfl rfl rfl rfl ?_
  refine xe_s (f := (14, _, _, _)) xt_g214 rfl rfl rfl rfl rfl ?_
  refine xe_if_gt xt_g214 rfl (t := 22) rfl (q := 17) rfl (by first | omega | exact xb_r _) (fun b14 => ?_) (fun b14 => ?_)
  · try simp only [xb_0, xb_1, ne_eq, Decidable.not_not, Bool.not_eq_false, Bool.not_eq_true, decide_eq_true_eq, decide_eq_false_iff_not] at b14
    refine xe_s (f := (23, _, _, _)) xt_g214 rfl rfl rfl rfl rfl ?_
    refine xe_s (f := (24, _, xi 0 :: _, _)) xt_g214 rfl rfl rfl rfl rfl ?_
    refine xe_s (f := (25, _, _, _)) xt_g214 rfl rfl rfl rfl rfl ?_
    refine xe_cA xt_g214 rfl rfl rfl (q := 28) rfl (kc_V xk_6_133 rfl (h1) (by omega) rfl rfl) xt_g103 (by decide) ⟨Nat.le_of_ble_eq_true rfl, Nat.le_of_ble_eq_true rfl, Nat.le_of_ble_eq_true rfl⟩ (s103 hfm h44 HE G (Int.le_refl 0) (by omega) (by omega)) (fun x h' n' c' u' hp => ?_)
    refine xe_aret xt_g214 rfl (Or.inl ⟨_, rfl⟩) rfl ?_
    try dsimp only
    rw [if_neg (by omega)]
    refine ⟨x, rfl, ?_, hp.2.1, hp.2.2.1, by have := hp.2.2.2; omega⟩
    have := hp.1
    unfold sl at this
    rw [show ((pa_bl l 47 l.length : Int) - 1 - 0).toNat = pa_bl l 47 l.length - 1 by omega] at this
    simpa using this
  · try simp only [xb_0, xb_1, ne_eq, Decidable.not_not, Bool.not_eq_false, Bool.not_eq_true, decide_eq_true_eq, decide_eq_false_iff_not] at b14
    refine xe_s (f := (19, _, .ref 11 :: _, _)) xt_g214 rfl rfl rfl rfl rfl ?_
    refine xe_s (f := (28, _, _, _)) xt_g214 rfl rfl rfl rfl rfl ?_
    refine xe_aret xt_g214 rfl (Or.inl ⟨_, rfl⟩) rfl ?_
    try dsimp only
    rw [if_pos (by omega)]
    exact ⟨11, rfl, sS_F HS (fun a h => Or.inl h), ex_refl, by omega, by omega⟩
/-- indexOf of a character -/
theorem s206_loop {b : Nat} {c e : Int} (H : sA h b l.length l) (hb : b < n) (ha : asc l) (hl : l.length < 10000) (hc : 0 ≤ c ∧ c < 128) : ∀ (N i : Nat), l.length - i = N → i ≤ l.length → (∀ j, j < i → l.getD j 0 ≠ c) →
    xe fm 206 (7, [(5, xi i), (4, xi c), (0, .ref b), (3, xi l.length)], [], (h, n, 0, 0)) (fun r M => ∃ z : Int, r = .inl (some (xi z)) ∧ -1 ≤ z ∧ z ≤ l.length ∧ (z < 0 ↔ c ∉ l) ∧ M = (h, n, 0, 0)) := by
  obtain ⟨f, h2, h8, h9⟩ := H
  intro N
  induction N with
  | zero =>
    intro i hN hi hp
    refine xe_s (f := (9, _, _, _)) xt_g206 rfl rfl rfl rfl rfl ?_
    refine xe_s (f := (10, _, _, _)) xt_g206 rfl rfl rfl rfl rfl ?_
    refine xe_ic_ge xt_g206 rfl (t := 31) rfl (q := 13) rfl (by first | omega | exact xb_r _) (by first | omega | exact xb_r _) (fun b10 => ?_) (fun b10 => ?_)
    · try simp only [xb_0, xb_1, ne_eq, Decidable.not_not, Bool.not_eq_false, Bool.not_eq_true, decide_eq_true_eq, decide_eq_false_iff_not] at b10
      refine xe_s (f := (32, _, xi (-1) :: _, _)) xt_g206 rfl rfl rfl rfl rfl ?_
      refine xe_iret xt_g206 rfl rfl xi_int.1 ?_
      try dsimp only
      refine ⟨-1, rfl, by omega, by omega, ⟨fun _ hm => ?_, fun _ => by omega⟩, rfl⟩
      obtain ⟨j, hj, e⟩ := List.mem_iff_getElem.mp hm
      exact hp j (by omega) (by rw [gd_e hj]; exact e)
    · exact absurd b10 (by omega)
  | succ N ih =>
    intro i hN hi hp
    have a1 := ha ((i : Nat) : Int).toNat
    refine xe_s (f := (9, _, _, _)) xt_g206 rfl rfl rfl rfl rfl ?_
    refine xe_s (f := (10, _, _, _)) xt_g206 rfl rfl rfl rfl rfl ?_
    refine xe_ic_ge xt_g206 rfl (t := 31) rfl (q := 13) rfl (by first | omega | exact xb_r _) (by first | omega | exact xb_r _) (fun b10 => ?_) (fun b10 => ?_)
    · exact absurd b10 (by omega)
    · try simp only [xb_0, xb_1, ne_eq, Decidable.not_not, Bool.not_eq_false, Bool.not_eq_true, decide_eq_true_eq, decide_eq_false_iff_not] at b10
      refine xe_s (f := (14, _, _, _)) xt_g206 rfl rfl rfl rfl rfl ?_
      refine xe_s (f := (16, _, _, _)) xt_g206 rfl rfl rfl rfl rfl ?_
      refine xe_al (ok := xm_isB) (ty := .byte) xt_g206 rfl (q := 17) rfl (fun _ _ => ⟨rfl, rfl, rfl, rfl⟩) (h2) rfl rfl (by omega) (by omega) (by omega) (by omega) (h9 _ (by omega)) ?_
      refine xe_s (f := (19, _, _, _)) xt_g206 rfl rfl rfl rfl rfl ?_
      refine xe_ic_ne xt_g206 rfl (t := 25) rfl (q := 22) rfl (by first | omega | exact xb_r _) (by first | omega | exact xb_r _) (fun b19 => ?_) (fun b19 => ?_)
      · try simp only [xb_0, xb_1, ne_eq, Decidable.not_not, Bool.not_eq_false, Bool.not_eq_true, decide_eq_true_eq, decide_eq_false_iff_not] at b19
        refine xe_iinc xt_g206 rfl (q := 28) rfl rfl (by decide) (L1 := [(5, _), (4, _), (0, _), (3, _)]) rfl ?_
        refine xe_s (f := (7, _, _, _)) xt_g206 rfl rfl rfl rfl rfl ?_
        rw [Int.toNat_natCast] at b19
        refine ih (i + 1) (by omega) (by omega) (fun j hj => ?_)
        by_cases e : j = i
        · rw [e]; exact b19
        · exact hp j (by omega)
      · try simp only [xb_0, xb_1, ne_eq, Decidable.not_not, Bool.not_eq_false, Bool.not_eq_true, decide_eq_true_eq, decide_eq_false_iff_not] at b19
        refine xe_s (f := (24, _, _, _)) xt_g206 rfl rfl rfl rfl rfl ?_
        refine xe_iret xt_g206 rfl rfl xi_int.1 ?_
        try dsimp only
        rw [Int.toNat_natCast] at b19
        refine ⟨i, rfl, by omega, by omega, ⟨fun _ => by omega, fun hm => absurd ?_ hm⟩, rfl⟩
        rw [← b19, gd_e (by omega)]
        exact List.getElem_mem _
end XTS
