/-! substring -/
def sl (l : List Int) (i j : Int) : List Int := (l.drop i.toNat).take (j - i).toNat
theorem sl_len {l : List Int} {i j : Int} (h0 : 0 ≤ i) (h1 : i ≤ j) (h2 : j ≤ l.length) : (sl l i j).length = (j - i).toNat := by
  unfold sl
  rw [List.length_take, List.length_drop]
  omega
theorem sl_get {l : List Int} {i j : Int} {k : Nat} (h0 : 0 ≤ i) (h1 : i ≤ j) (h2 : j ≤ l.length) (hk : k < (j - i).toNat) : (sl l i j).getD k 0 = l.getD (i.toNat + k) 0 := by
  unfold sl
  rw [List.getD_eq_getElem?_getD, List.getElem?_take, if_pos hk, List.getElem?_drop, ← List.getD_eq_getElem?_getD]
theorem asc_get {l : List Int} (h : ∀ i, i < l.length → 0 ≤ l.getD i 0 ∧ l.getD i 0 < 128) : asc l := by
  intro i
  by_cases hi : i < l.length
  · exact h i hi
  · rw [List.getD_eq_getElem?_getD, List.getElem?_eq_none (by omega), Option.getD_none]
    omega
theorem asc_sl {l : List Int} {i j : Int} (h0 : 0 ≤ i) (h1 : i ≤ j) (h2 : j ≤ l.length) (ha : asc l) : asc (sl l i j) := by
  refine asc_get (fun k hk => ?_)
  rw [sl_len h0 h1 h2] at hk
  rw [sl_get h0 h1 h2 hk]
  exact ha _
theorem asc_nil : asc [] := asc_get (fun i hi => absurd hi (Nat.not_lt_zero i))
theorem sl_all {l : List Int} : sl l 0 l.length = l := by
  unfold sl
  simp
theorem sl_nil {l : List Int} {i : Int} : sl l i i = [] := by
  unfold sl
  simp
/-- good cells with those that are new -/
def nf (F : Nat → Prop) (n : Nat) : Nat → Prop := fun a => F a ∨ n ≤ a
section XSB
variable {fm : Value} {F F' : Nat → Prop} {h : xm_H} {n r r' b k : Nat} {l l' : List Int}
theorem s54 {i j : Int} (hi : 0 ≤ i) (hj : i ≤ j) (hr : j < 2147483648) : xR fm 54 h n [xi i, xi j] none := by
  unfold xR
  refine xe_s (f := (1, _, _, _)) xt_g54 rfl rfl rfl rfl rfl ?_
  refine xe_s (f := (2, _, _, _)) xt_g54 rfl rfl rfl rfl rfl ?_
  refine xe_ic_ge xt_g54 rfl (t := 37) rfl (q := 5) rfl (by first | omega | exact xb_r _) (by first | omega | exact xb_r _) (fun b2 => ?_) (fun b2 => ?_)
  · try simp only [xb_0, xb_1, ne_eq, Decidable.not_not, decide_eq_true_eq, decide_eq_false_iff_not] at b2
    refine xe_ret xt_g54 rfl rfl ?_
    exact ⟨rfl, rfl⟩
  · exact absurd b2 (by omega)
theorem s7 {i j : Int} (hi : xr i) (hj : xr j) : xR fm 7 h n [xi i, xi j] (some (xi (min i j))) := by
  unfold xR
  refine xe_s (f := (1, _, _, _)) xt_g7 rfl rfl rfl rfl rfl ?_
  refine xe_s (f := (2, _, _, _)) xt_g7 rfl rfl rfl rfl rfl ?_
  refine xe_ic_gt xt_g7 rfl (t := 9) rfl (q := 5) rfl (by first | omega | exact xb_r _) (by first | omega | exact xb_r _) (fun b2 => ?_) (fun b2 => ?_)
  · try simp only [xb_0, xb_1, ne_eq, Decidable.not_not, decide_eq_true_eq, decide_eq_false_iff_not] at b2
    rw [show min i j = j by omega]
    refine xe_s (f := (10, _, _, _)) xt_g7 rfl rfl rfl rfl rfl ?_
    refine xe_iret xt_g7 rfl rfl xi_int.1 ?_
    exact ⟨rfl, rfl⟩
  · try simp only [xb_0, xb_1, ne_eq, Decidable.not_not, decide_eq_true_eq, decide_eq_false_iff_not] at b2
    rw [show min i j = i by omega]
    refine xe_s (f := (6, _, _, _)) xt_g7 rfl rfl rfl rfl rfl ?_
    refine xe_s (f := (10, _, _, _)) xt_g7 rfl rfl rfl rfl rfl ?_
    refine xe_iret xt_g7 rfl rfl xi_int.1 ?_
    exact ⟨rfl, rfl⟩
theorem s8 {i j : Int} (hi : xr i) (hj : xr j) : xR fm 8 h n [xi i, xi j] (some (xi (max i j))) := by
  unfold xR
  refine xe_s (f := (1, _, _, _)) xt_g8 rfl rfl rfl rfl rfl ?_
  refine xe_s (f := (2, _, _, _)) xt_g8 rfl rfl rfl rfl rfl ?_
  refine xe_ic_lt xt_g8 rfl (t := 9) rfl (q := 5) rfl (by first | omega | exact xb_r _) (by first | omega | exact xb_r _) (fun b2 => ?_) (fun b2 => ?_)
  · try simp only [xb_0, xb_1, ne_eq, Decidable.not_not, decide_eq_true_eq, decide_eq_false_iff_not] at b2
    rw [show max i j = j by omega]
    refine xe_s (f := (10, _, _, _)) xt_g8 rfl rfl rfl rfl rfl ?_
    refine xe_iret xt_g8 rfl rfl xi_int.1 ?_
    exact ⟨rfl, rfl⟩
  · try simp only [xb_0, xb_1, ne_eq, Decidable.not_not, decide_eq_true_eq, decide_eq_false_iff_not] at b2
    rw [show max i j = i by omega]
    refine xe_s (f := (6, _, _, _)) xt_g8 rfl rfl rfl rfl rfl ?_
    refine xe_s (f := (10, _, _, _)) xt_g8 rfl rfl rfl rfl rfl ?_
    refine xe_iret xt_g8 rfl rfl xi_int.1 ?_
    exact ⟨rfl, rfl⟩
theorem cpy_lo {f g : Nat → Int32} {i c t : Nat} (ht : t < c) : va_cpy f g i 0 c t = f (i + t) := by
  unfold va_cpy
  rw [if_pos ⟨Nat.zero_le _, by omega⟩]
  congr 1
theorem s53 {i j : Int} (h44 : 44 ≤ n) (H : sA h b k l) (hb : b < n) (hk : k < 50000) (hi : 0 ≤ i) (hj : i ≤ j) (hl : j ≤ l.length) : xA fm 53 h n [.ref b, xi i, xi j] (fun x h' n' u' => x = n ∧ n' = n + 1 ∧ u' = (j - i).toNat ∧ ex h n h' n' ∧ sA h' n (sl l i j).length (sl l i j)) := by
  obtain ⟨f, h1, h2, h3⟩ := H
  unfold xA
  refine xe_s (f := (1, _, _, _)) xt_g53 rfl rfl rfl rfl rfl ?_
  refine xe_s (f := (2, _, _, _)) xt_g53 rfl rfl rfl rfl rfl ?_
  refine xe_cRn xt_g53 rfl rfl rfl (q := 5) rfl (kc_S xk_19_343 (Nat.le_of_ble_eq_true rfl)) xt_g54 (by decide) ⟨Nat.le_of_ble_eq_true rfl, Nat.le_of_ble_eq_true rfl, Nat.le_of_ble_eq_true rfl⟩ (s54 hi hj (by omega)) ?_
  refine xe_s (f := (6, _, _, _)) xt_g53 rfl rfl rfl rfl rfl ?_
  refine xe_s (f := (7, _, _, _)) xt_g53 rfl rfl rfl rfl rfl ?_
  refine xe_isub xt_g53 rfl (q := 8) rfl ?_
  refine xe_s (f := (9, [(3, _), (0, _), (1, _), (2, _)], _, _)) xt_g53 rfl rfl rfl rfl rfl ?_
  refine xe_s (f := (10, _, _, _)) xt_g53 rfl rfl rfl rfl rfl ?_
  refine xe_nwa (t := 1) (ty := .byte) xt_g53 rfl (q := 12) rfl rfl rfl rfl rfl (by omega) (by decide) ?_
  refine xe_s (f := (14, [(4, _), (3, _), (0, _), (1, _), (2, _)], _, _)) xt_g53 rfl rfl rfl rfl rfl ?_
  refine xe_s (f := (15, _, _, _)) xt_g53 rfl rfl rfl rfl rfl ?_
  refine xe_s (f := (16, _, _, _)) xt_g53 rfl rfl rfl rfl rfl ?_
  refine xe_s (f := (18, _, _, _)) xt_g53 rfl rfl rfl rfl rfl ?_
  refine xe_s (f := (19, _, xi 0 :: _, _)) xt_g53 rfl rfl rfl rfl rfl ?_
  refine xe_s (f := (20, _, _, _)) xt_g53 rfl rfl rfl rfl rfl ?_
  refine xe_alen xt_g53 rfl (q := 21) rfl ((va_up_n (by omega)).trans h1) (by decide) (by omega) ?_
  refine xe_s (f := (22, _, _, _)) xt_g53 rfl rfl rfl rfl rfl ?_
  refine xe_isub xt_g53 rfl (q := 23) rfl ?_
  refine xe_s (f := (24, _, _, _)) xt_g53 rfl rfl rfl rfl rfl ?_
  refine xe_cR xt_g53 rfl rfl rfl (q := 27) rfl (kc_S xk_19_304 (Nat.le_of_ble_eq_true rfl)) xt_g7 (by decide) ⟨Nat.le_of_ble_eq_true rfl, Nat.le_of_ble_eq_true rfl, Nat.le_of_ble_eq_true rfl⟩ (s7 ⟨by omega, by omega⟩ ⟨by omega, by omega⟩) ?_
  rw [show min ((k : Int) - i) (j - i) = j - i by omega]
  refine xe_acp (ty := .byte) xt_g53 rfl (q := 30) rfl xz0_19_150 (xp_19_150 fm) ((va_up_n (by omega)).trans h1) (va_up_s) rfl rfl (by omega) (by omega) (by omega) (by omega) (by omega) (by omega) (by omega) (by omega) (Nat.le_of_ble_eq_true rfl) ?_
  refine xe_s (f := (32, _, _, _)) xt_g53 rfl rfl rfl rfl rfl ?_
  refine xe_aret xt_g53 rfl (Or.inr ⟨_, rfl⟩) rfl ?_
  try dsimp only
  refine ⟨n, rfl, rfl, rfl, by simp, ex_up2 ex_up (Nat.le_refl _), ?_⟩
  refine ⟨_, va_up_s.trans (by rw [sl_len hi hj hl]), Nat.le_refl _, fun t ht => ?_⟩
  rw [sl_len hi hj hl] at ht
  rw [sl_get hi hj hl ht]
  rw [show (0 : Int).toNat = 0 from rfl, cpy_lo ht]
  exact h3 _ (by omega)
theorem s52 {i j : Int} (h44 : 44 ≤ n) (H : sA h b k l) (hb : b < n) (hk : k < 50000) (hi : 0 ≤ i) (hj : i ≤ j) (hl : j ≤ l.length) (hc : 44 ≤ b ∨ i ≠ 0 ∨ j ≠ k) : xA fm 52 h n [.ref b, xi i, xi j] (fun x h' n' u' => x = n ∧ n' = n + 1 ∧ u' = (j - i).toNat ∧ ex h n h' n' ∧ sA h' n (sl l i j).length (sl l i j)) := by
  have H' := H
  obtain ⟨f, h1, h2, h3⟩ := H
  unfold xA
  refine xe_s (f := (1, _, _, _)) xt_g52 rfl rfl rfl rfl rfl ?_
  refine xe_if_ne xt_g52 rfl (t := 10) rfl (q := 4) rfl (by first | omega | exact xb_r _) (fun b1 => ?_) (fun b1 => ?_)
  · try simp only [xb_0, xb_1, ne_eq, Decidable.not_not, decide_eq_true_eq, decide_eq_false_iff_not] at b1
    refine xe_s (f := (11, _, _, _)) xt_g52 rfl rfl rfl rfl rfl ?_
    refine xe_s (f := (12, _, _, _)) xt_g52 rfl rfl rfl rfl rfl ?_
    refine xe_s (f := (13, _, _, _)) xt_g52 rfl rfl rfl rfl rfl ?_
    refine xe_cA xt_g52 rfl rfl rfl (q := 16) rfl (kc_S xk_19_339 (Nat.le_of_ble_eq_true rfl)) xt_g53 (by decide) ⟨Nat.le_of_ble_eq_true rfl, Nat.le_of_ble_eq_true rfl, Nat.le_of_ble_eq_true rfl⟩ (s53 h44 H' hb hk hi hj hl) (fun x h1 n1 c1 u1 hp => ?_)
    refine xe_aret xt_g52 rfl (Or.inr ⟨_, rfl⟩) rfl ?_
    try dsimp only
    obtain ⟨p1, p2, p3, p4, p5⟩ := hp
    exact ⟨x, rfl, p1, p2, by omega, p4, p5⟩
  · try simp only [xb_0, xb_1, ne_eq, Decidable.not_not, decide_eq_true_eq, decide_eq_false_iff_not] at b1
    refine xe_s (f := (5, _, _, _)) xt_g52 rfl rfl rfl rfl rfl ?_
    refine xe_s (f := (6, _, _, _)) xt_g52 rfl rfl rfl rfl rfl ?_
    refine xe_alen xt_g52 rfl (q := 7) rfl (h1) (by decide) (by omega) ?_
    refine xe_ic_eq xt_g52 rfl (t := 17) rfl (q := 10) rfl (by first | omega | exact xb_r _) (by first | omega | exact xb_r _) (fun b7 => ?_) (fun b7 => ?_)
    · try simp only [xb_0, xb_1, ne_eq, Decidable.not_not, decide_eq_true_eq, decide_eq_false_iff_not] at b7
      refine xe_s (f := (18, _, _, _)) xt_g52 rfl rfl rfl rfl rfl ?_
      refine xe_cln xt_g52 rfl (q := 21) rfl xz0_19_310 (xp_19_310 fm) (h1) (by omega) (by omega) (Nat.le_of_ble_eq_true rfl) ?_
      refine xe_csa xt_g52 rfl (q := 24) rfl (xp_19_311 fm) (va_up_s) (by omega) (by omega) ?_
      refine xe_aret xt_g52 rfl (Or.inr ⟨_, rfl⟩) rfl ?_
      try dsimp only
      refine ⟨n, rfl, rfl, rfl, by omega, ex_up, ?_⟩
      rw [b1, show j = (l.length : Int) by omega, sl_all]
      exact ⟨f, va_up_s.trans (by rw [show k = l.length by omega]), Nat.le_refl _, h3⟩
    · try simp only [xb_0, xb_1, ne_eq, Decidable.not_not, decide_eq_true_eq, decide_eq_false_iff_not] at b7
      refine xe_s (f := (11, _, _, _)) xt_g52 rfl rfl rfl rfl rfl ?_
      refine xe_s (f := (12, _, _, _)) xt_g52 rfl rfl rfl rfl rfl ?_
      refine xe_s (f := (13, _, _, _)) xt_g52 rfl rfl rfl rfl rfl ?_
      refine xe_cA xt_g52 rfl rfl rfl (q := 16) rfl (kc_S xk_19_339 (Nat.le_of_ble_eq_true rfl)) xt_g53 (by decide) ⟨Nat.le_of_ble_eq_true rfl, Nat.le_of_ble_eq_true rfl, Nat.le_of_ble_eq_true rfl⟩ (s53 h44 H' hb hk hi hj hl) (fun x h1 n1 c1 u1 hp => ?_)
      refine xe_aret xt_g52 rfl (Or.inr ⟨_, rfl⟩) rfl ?_
      try dsimp only
      obtain ⟨p1, p2, p3, p4, p5⟩ := hp
      exact ⟨x, rfl, p1, p2, by omega, p4, p5⟩
/-- a fresh String -/
theorem s105 {x y : Value} {z w : Value} (hr : 44 ≤ r) (hn : r < n) (H : h r = .inr (6, [z, w, x, y])) : xN fm 105 h n [.ref r, .ref b, xi 0] (fun h' n' u' => h' = va_up h r (.inr (6, [.ref b, xi 0, x, y])) ∧ n' = n ∧ u' = 0) := by
  unfold xN
  refine xe_s (f := (1, _, _, _)) xt_g105 rfl rfl rfl rfl rfl ?_
  refine xe_obj xt_g105 rfl (q := 4) rfl xz0_15_1 (xp_15_1 fm) (Nat.le_of_ble_eq_true rfl) ?_
  refine xe_s (f := (5, _, _, _)) xt_g105 rfl rfl rfl rfl rfl ?_
  refine xe_s (f := (6, _, _, _)) xt_g105 rfl rfl rfl rfl rfl ?_
  refine xe_pf xt_g105 rfl (q := 9) rfl (xf_15_9 fm) (H) (by omega) (by omega) rfl (Nat.le_of_ble_eq_true rfl) (Nat.le_of_ble_eq_true rfl) ⟨rfl, rfl⟩ (Or.inr ⟨by decide, rfl⟩) ?_
  refine xe_s (f := (10, _, _, _)) xt_g105 rfl rfl rfl rfl rfl ?_
  refine xe_s (f := (11, _, _, _)) xt_g105 rfl rfl rfl rfl rfl ?_
  refine xe_pf xt_g105 rfl (q := 14) rfl (xf_15_15 fm) (va_up_s) (by omega) (by omega) rfl (Nat.le_of_ble_eq_true rfl) (Nat.le_of_ble_eq_true rfl) ⟨rfl, rfl⟩ (Or.inr ⟨by decide, rfl⟩) ?_
  refine xe_ret xt_g105 rfl rfl ?_
  try dsimp only
  refine ⟨rfl, ?_, rfl, rfl⟩
  funext a
  unfold va_up
  dsimp only [List.set]
  split <;> rfl
theorem sS_new {h' : xm_H} {n' : Nat} {x y : Value} (he : h' r = .inr (6, [.ref b, xi 0, x, y])) (hA : sA h' b l.length l) (hr : F r) (hb : F b) (hn : r < n') (hbn : b < n') (ha : asc l) (hl : l.length < 10000) : sS F h' n' r l := ⟨b, x, y, he, hA, hr, hb, hn, hbn, ha, hl⟩
theorem sA_h {h' : xm_H} (H : sA h b k l) (e : h' b = h b) : sA h' b k l := by
  obtain ⟨f, h1, h2⟩ := H
  exact ⟨f, e.trans h1, h2⟩
theorem s104 {i j : Int} (h44 : 44 ≤ n) (HE : sS F h n 1 []) (H : sA h b l.length l) (hb : b < n) (ha : asc l) (hl : l.length < 10000) (hi : 0 ≤ i) (hj : 0 ≤ j) (hij : i + j ≤ l.length) (hc : i ≠ 0 ∨ j ≠ l.length) : xA fm 104 h n [.ref b, xi i, xi j] (fun x h' n' u' => sS (nf F n) h' n' x (sl l i (i + j)) ∧ ex h n h' n' ∧ n' ≤ n + 2 ∧ u' ≤ 4 + j.toNat) := by
  unfold xA
  refine xe_s (f := (1, _, _, _)) xt_g104 rfl rfl rfl rfl rfl ?_
  refine xe_if_ne xt_g104 rfl (t := 7) rfl (q := 4) rfl (by first | omega | exact xb_r _) (fun b1 => ?_) (fun b1 => ?_)
  · try simp only [xb_0, xb_1, ne_eq, Decidable.not_not, decide_eq_true_eq, decide_eq_false_iff_not] at b1
    refine xe_new (k := 4) (fs := [.null, xi 0, xi 0, xi 0]) xt_g104 rfl rfl (q := 10) rfl (xn_17_1 fm) rfl rfl rfl ?_
    refine xe_s (f := (11, _, _, _)) xt_g104 rfl rfl rfl rfl rfl ?_
    refine xe_s (f := (12, _, _, _)) xt_g104 rfl rfl rfl rfl rfl ?_
    refine xe_s (f := (13, _, _, _)) xt_g104 rfl rfl rfl rfl rfl ?_
    refine xe_s (f := (14, _, _, _)) xt_g104 rfl rfl rfl rfl rfl ?_
    refine xe_s (f := (15, _, _, _)) xt_g104 rfl rfl rfl rfl rfl ?_
    refine xe_iadd xt_g104 rfl (q := 16) rfl ?_
    refine xe_cA xt_g104 rfl rfl rfl (q := 19) rfl (kc_S xk_17_232 (Nat.le_of_ble_eq_true rfl)) xt_g52 (by decide) ⟨Nat.le_of_ble_eq_true rfl, Nat.le_of_ble_eq_true rfl, Nat.le_of_ble_eq_true rfl⟩ (s52 (by omega) (sA_h H (va_up_n (by omega))) (by omega) (by omega) hi (by omega) hij (by omega)) (fun x h1 n1 c1 u1 hp => ?_)
    obtain ⟨p1, p2, p3, p4, p5⟩ := hp
    subst p1 p2
    refine xe_s (f := (20, _, xi 0 :: _, _)) xt_g104 rfl rfl rfl rfl rfl ?_
    refine xe_cN xt_g104 rfl rfl rfl (q := 23) rfl (kc_P xk_17_112 rfl) xt_g105 (by decide) ⟨Nat.le_of_ble_eq_true rfl, Nat.le_of_ble_eq_true rfl, Nat.le_of_ble_eq_true rfl⟩ (s105 (by omega) (by omega) ((p4.2 n (by omega)).trans va_up_s)) (fun h2 n2 c2 u2 hq => ?_)
    refine xe_aret xt_g104 rfl (Or.inl ⟨_, rfl⟩) rfl ?_
    try dsimp only
    obtain ⟨q1, q2, q3⟩ := hq
    subst q1 q2 q3
    have e := sl_len hi (show i ≤ i + j by omega) hij
    refine ⟨n, rfl, ?_, ex_up2 (ex_trans ex_up p4) (Nat.le_refl _), by omega, by omega⟩
    exact sS_new va_up_s (sA_h p5 (va_up_n (by omega))) (Or.inr (Nat.le_refl _)) (Or.inr (by omega)) (by omega) (by omega) (asc_sl hi (by omega) hij ha) (by omega)
  · try simp only [xb_0, xb_1, ne_eq, Decidable.not_not, decide_eq_true_eq, decide_eq_false_iff_not] at b1
    refine xe_s (f := (6, _, .ref 1 :: _, _)) xt_g104 rfl rfl rfl rfl rfl ?_
    refine xe_aret xt_g104 rfl (Or.inl ⟨_, rfl⟩) rfl ?_
    try dsimp only
    refine ⟨1, rfl, ?_, ex_refl, by omega, by omega⟩
    rw [b1, show i + 0 = i by omega, sl_nil]
    exact sS_F HE (fun a h => Or.inl h)
theorem s103 {i j : Int} (hfm : fm = .null ∨ ∃ j, fm = .ref j) (h44 : 44 ≤ n) (HE : sS F h n 1 []) (H : sS F h n r l) (hi : 0 ≤ i) (hj : i ≤ j) (hl : j ≤ l.length) : xA fm 103 h n [.ref r, xi i, xi j] (fun x h' n' u' => sS (nf F n) h' n' x (sl l i j) ∧ ex h n h' n' ∧ n' ≤ n + 2 ∧ u' ≤ 4 + (j - i).toNat) := by
  have G := H
  obtain ⟨b, x, y, h1, h2, h3, h4, h5, h6, h7, h8⟩ := H
  unfold xA
  refine xe_s (f := (1, _, _, _)) xt_g103 rfl rfl rfl rfl rfl ?_
  refine xe_cR xt_g103 rfl rfl rfl (q := 4) rfl (kc_V xk_15_505 rfl (h1) (by omega) rfl rfl) xt_g31 (by decide) ⟨Nat.le_of_ble_eq_true rfl, Nat.le_of_ble_eq_true rfl, Nat.le_of_ble_eq_true rfl⟩ (s31 G) ?_
  refine xe_s (f := (5, [(3, _), (0, _), (1, _), (2, _)], _, _)) xt_g103 rfl rfl rfl rfl rfl ?_
  refine xe_s (f := (6, _, _, _)) xt_g103 rfl rfl rfl rfl rfl ?_
  refine xe_s (f := (7, _, _, _)) xt_g103 rfl rfl rfl rfl rfl ?_
  refine xe_s (f := (8, _, _, _)) xt_g103 rfl rfl rfl rfl rfl ?_
  refine xe_cRn xt_g103 rfl rfl rfl (q := 11) rfl (kc_S xk_15_521 (Nat.le_of_ble_eq_true rfl)) xt_g28 (by decide) ⟨Nat.le_of_ble_eq_true rfl, Nat.le_of_ble_eq_true rfl, Nat.le_of_ble_eq_true rfl⟩ (s28 hfm hi hj hl (by omega)) ?_
  refine xe_s (f := (12, _, _, _)) xt_g103 rfl rfl rfl rfl rfl ?_
  refine xe_if_ne xt_g103 rfl (t := 22) rfl (q := 15) rfl (by first | omega | exact xb_r _) (fun b12 => ?_) (fun b12 => ?_)
  · try simp only [xb_0, xb_1, ne_eq, Decidable.not_not, decide_eq_true_eq, decide_eq_false_iff_not] at b12
    refine xe_s (f := (23, _, _, _)) xt_g103 rfl rfl rfl rfl rfl ?_
    refine xe_s (f := (24, _, _, _)) xt_g103 rfl rfl rfl rfl rfl ?_
    refine xe_isub xt_g103 rfl (q := 25) rfl ?_
    refine xe_s (f := (27, [(4, _), (3, _), (0, _), (1, _), (2, _)], _, _)) xt_g103 rfl rfl rfl rfl rfl ?_
    refine xe_s (f := (28, _, _, _)) xt_g103 rfl rfl rfl rfl rfl ?_
    refine xe_cR xt_g103 rfl rfl rfl (q := 31) rfl (kc_V xk_15_492 rfl (h1) (by omega) rfl rfl) xt_g74 (by decide) ⟨Nat.le_of_ble_eq_true rfl, Nat.le_of_ble_eq_true rfl, Nat.le_of_ble_eq_true rfl⟩ (s74 G) ?_
    refine xe_s (f := (34, _, _, _)) xt_g103 rfl rfl rfl rfl rfl ?_
    refine xe_s (f := (35, _, _, _)) xt_g103 rfl rfl rfl rfl rfl ?_
    refine xe_gf xt_g103 rfl (q := 38) rfl (xf_15_9 fm) (h1) (by omega) rfl rfl ?_
    refine xe_s (f := (39, _, _, _)) xt_g103 rfl rfl rfl rfl rfl ?_
    refine xe_s (f := (41, _, _, _)) xt_g103 rfl rfl rfl rfl rfl ?_
    refine xe_cA xt_g103 rfl rfl rfl (q := 44) rfl (kc_S xk_15_685 (Nat.le_of_ble_eq_true rfl)) xt_g104 (by decide) ⟨Nat.le_of_ble_eq_true rfl, Nat.le_of_ble_eq_true rfl, Nat.le_of_ble_eq_true rfl⟩ (s104 h44 HE h2 h6 h7 h8 hi (show 0 ≤ j - i by omega) (by omega) (by omega)) (fun x' h1' n1 c1 u1 hp => ?_)
    refine xe_s (f := (57, _, _, _)) xt_g103 rfl rfl rfl rfl rfl ?_
    refine xe_aret xt_g103 rfl (Or.inl ⟨_, rfl⟩) rfl ?_
    try dsimp only
    rw [show i + (j - i) = j by omega] at hp
    exact ⟨x', rfl, hp.1, hp.2.1, hp.2.2.1, by have := hp.2.2.2; omega⟩
  · try simp only [xb_0, xb_1, ne_eq, Decidable.not_not, decide_eq_true_eq, decide_eq_false_iff_not] at b12
    refine xe_s (f := (16, _, _, _)) xt_g103 rfl rfl rfl rfl rfl ?_
    refine xe_s (f := (17, _, _, _)) xt_g103 rfl rfl rfl rfl rfl ?_
    refine xe_ic_ne xt_g103 rfl (t := 22) rfl (q := 20) rfl (by first | omega | exact xb_r _) (by first | omega | exact xb_r _) (fun b17 => ?_) (fun b17 => ?_)
    · try simp only [xb_0, xb_1, ne_eq, Decidable.not_not, decide_eq_true_eq, decide_eq_false_iff_not] at b17
      refine xe_s (f := (23, _, _, _)) xt_g103 rfl rfl rfl rfl rfl ?_
      refine xe_s (f := (24, _, _, _)) xt_g103 rfl rfl rfl rfl rfl ?_
      refine xe_isub xt_g103 rfl (q := 25) rfl ?_
      refine xe_s (f := (27, [(4, _), (3, _), (0, _), (1, _), (2, _)], _, _)) xt_g103 rfl rfl rfl rfl rfl ?_
      refine xe_s (f := (28, _, _, _)) xt_g103 rfl rfl rfl rfl rfl ?_
      refine xe_cR xt_g103 rfl rfl rfl (q := 31) rfl (kc_V xk_15_492 rfl (h1) (by omega) rfl rfl) xt_g74 (by decide) ⟨Nat.le_of_ble_eq_true rfl, Nat.le_of_ble_eq_true rfl, Nat.le_of_ble_eq_true rfl⟩ (s74 G) ?_
      refine xe_s (f := (34, _, _, _)) xt_g103 rfl rfl rfl rfl rfl ?_
      refine xe_s (f := (35, _, _, _)) xt_g103 rfl rfl rfl rfl rfl ?_
      refine xe_gf xt_g103 rfl (q := 38) rfl (xf_15_9 fm) (h1) (by omega) rfl rfl ?_
      refine xe_s (f := (39, _, _, _)) xt_g103 rfl rfl rfl rfl rfl ?_
      refine xe_s (f := (41, _, _, _)) xt_g103 rfl rfl rfl rfl rfl ?_
      refine xe_cA xt_g103 rfl rfl rfl (q := 44) rfl (kc_S xk_15_685 (Nat.le_of_ble_eq_true rfl)) xt_g104 (by decide) ⟨Nat.le_of_ble_eq_true rfl, Nat.le_of_ble_eq_true rfl, Nat.le_of_ble_eq_true rfl⟩ (s104 h44 HE h2 h6 h7 h8 hi (show 0 ≤ j - i by omega) (by omega) (by omega)) (fun x' h1' n1 c1 u1 hp => ?_)
      refine xe_s (f := (57, _, _, _)) xt_g103 rfl rfl rfl rfl rfl ?_
      refine xe_aret xt_g103 rfl (Or.inl ⟨_, rfl⟩) rfl ?_
      try dsimp only
      rw [show i + (j - i) = j by omega] at hp
      exact ⟨x', rfl, hp.1, hp.2.1, hp.2.2.1, by have := hp.2.2.2; omega⟩
    · try simp only [xb_0, xb_1, ne_eq, Decidable.not_not, decide_eq_true_eq, decide_eq_false_iff_not] at b17
      refine xe_s (f := (21, _, _, _)) xt_g103 rfl rfl rfl rfl rfl ?_
      refine xe_aret xt_g103 rfl (Or.inl ⟨_, rfl⟩) rfl ?_
      try dsimp only
      refine ⟨r, rfl, ?_, ex_refl, by omega, by omega⟩
      rw [b12, b17, sl_all]
      exact sS_F G (fun a h => Or.inl h)
theorem s198 {i : Int} (hfm : fm = .null ∨ ∃ j, fm = .ref j) (h44 : 44 ≤ n) (HE : sS F h n 1 []) (H : sS F h n r l) (hi : 0 ≤ i) (hl : i ≤ l.length) : xA fm 198 h n [.ref r, xi i] (fun x h' n' u' => sS (nf F n) h' n' x (sl l i l.length) ∧ ex h n h' n' ∧ n' ≤ n + 2 ∧ u' ≤ 4 + (l.length - i).toNat) := by
  have G := H
  obtain ⟨b, x, y, h1, h2, h3, h4, h5, h6, h7, h8⟩ := H
  unfold xA
  refine xe_s (f := (1, _, _, _)) xt_g198 rfl rfl rfl rfl rfl ?_
  refine xe_s (f := (2, _, _, _)) xt_g198 rfl rfl rfl rfl rfl ?_
  refine xe_s (f := (3, _, _, _)) xt_g198 rfl rfl rfl rfl rfl ?_
  refine xe_cR xt_g198 rfl rfl rfl (q := 6) rfl (kc_V xk_15_505 rfl (h1) (by omega) rfl rfl) xt_g31 (by decide) ⟨Nat.le_of_ble_eq_true rfl, Nat.le_of_ble_eq_true rfl, Nat.le_of_ble_eq_true rfl⟩ (s31 G) ?_
  refine xe_cA xt_g198 rfl rfl rfl (q := 9) rfl (kc_V xk_15_681 rfl (h1) (by omega) rfl rfl) xt_g103 (by decide) ⟨Nat.le_of_ble_eq_true rfl, Nat.le_of_ble_eq_true rfl, Nat.le_of_ble_eq_true rfl⟩ (s103 hfm h44 HE G hi hl (by omega)) (fun x' h1' n1 c1 u1 hp => ?_)
  refine xe_aret xt_g198 rfl (Or.inl ⟨_, rfl⟩) rfl ?_
  try dsimp only
  exact ⟨x', rfl, hp.1, hp.2.1, hp.2.2.1, by have := hp.2.2.2; omega⟩
end XSB
