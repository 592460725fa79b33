/-! append of a String, toString, charAt -/
section XBM
variable {fm : Value} {F F' : Nat → Prop} {h : xm_H} {n r s b k : Nat} {l t : List Int}
theorem sA_app {f g : Nat → Int32} (h2 : l.length + t.length ≤ k) (h3 : ∀ i, i < l.length → f i = Int32.ofInt (l.getD i 0)) (h4 : ∀ i, i < t.length → g i = Int32.ofInt (t.getD i 0)) : sA (va_up h b (.inl (1, k, .inl (va_cpy g f 0 l.length t.length)))) b k (l ++ t) := by
  refine ⟨_, va_up_s, by rw [List.length_append]; exact h2, fun i hi => ?_⟩
  rw [List.length_append] at hi
  unfold va_cpy
  by_cases e : i < l.length
  · rw [if_neg (by omega), xg_l e]
    exact h3 i e
  · rw [if_pos (by omega), xg_r (by omega), Nat.zero_add]
    exact h4 _ (by omega)
theorem s41 {f : Nat → Int32} {i : Int} (H : sS F h n r t) (hb : h b = .inl (1, k, .inl f)) (h44 : 44 ≤ b) (hn : b < n) (h0 : 0 ≤ i) (hi : i + t.length ≤ k) (hk : k < 20000) (hl : i = l.length) (h3 : ∀ i, i < l.length → f i = Int32.ofInt (l.getD i 0)) : xN fm 41 h n [.ref r, .ref b, xi i, xi 0] (fun h' n' u' => n' = n ∧ u' = 0 ∧ sA h' b k (l ++ t) ∧ ∀ a, a ≠ b → h' a = h a) := by
  have G := H
  obtain ⟨b0, x, y, h1, ⟨g, h2, h8, h9⟩, h3', h4, h5, h6, h7⟩ := H
  unfold xN
  refine xe_s (f := (1, _, _, _)) xt_g41 rfl rfl rfl rfl rfl ?_
  refine xe_cR xt_g41 rfl rfl rfl (q := 4) rfl (kc_V xk_15_335 rfl (h1) (by omega) rfl rfl) xt_g32 (by decide) ⟨Nat.le_of_ble_eq_true rfl, Nat.le_of_ble_eq_true rfl, Nat.le_of_ble_eq_true rfl⟩ (s32 G) ?_
  refine xe_s (f := (5, _, _, _)) xt_g41 rfl rfl rfl rfl rfl ?_
  refine xe_s (f := (8, _, _, _)) xt_g41 rfl rfl rfl rfl rfl ?_
  refine xe_s (f := (9, _, _, _)) xt_g41 rfl rfl rfl rfl rfl ?_
  refine xe_gf xt_g41 rfl (q := 12) rfl (xf_15_9 fm) (h1) (by omega) rfl rfl ?_
  refine xe_s (f := (13, _, xi 0 :: _, _)) xt_g41 rfl rfl rfl rfl rfl ?_
  refine xe_s (f := (14, _, _, _)) xt_g41 rfl rfl rfl rfl rfl ?_
  refine xe_s (f := (15, _, _, _)) xt_g41 rfl rfl rfl rfl rfl ?_
  refine xe_s (f := (16, _, _, _)) xt_g41 rfl rfl rfl rfl rfl ?_
  refine xe_ishl0 xt_g41 rfl (q := 17) rfl ?_
  refine xe_s (f := (18, _, _, _)) xt_g41 rfl rfl rfl rfl rfl ?_
  refine xe_gf xt_g41 rfl (q := 21) rfl (xf_15_9 fm) (h1) (by omega) rfl rfl ?_
  refine xe_alen xt_g41 rfl (q := 22) rfl (h2) (by decide) (by omega) ?_
  refine xe_acp (ty := .byte) xt_g41 rfl (q := 25) rfl xz0_15_212 (xp_15_212 fm) (h2) (hb) rfl rfl (by omega) (by omega) (by omega) (by omega) (by omega) (by omega) (by omega) (by omega) (Nat.le_of_ble_eq_true rfl) ?_
  refine xe_s (f := (43, _, _, _)) xt_g41 rfl rfl rfl rfl rfl ?_
  refine xe_ret xt_g41 rfl rfl ?_
  try dsimp only
  refine ⟨rfl, rfl, rfl, ?_, fun a ha => va_up_n ha⟩
  rw [show (0 : Int).toNat = 0 from rfl, show i.toNat = l.length by omega, Int.toNat_natCast]
  exact sA_app (by omega) h3 h9
theorem s34 (H : sB h n s b k l) (H' : sS F h n r t) : xR fm 34 h n [.ref s, .ref r] none := by
  have G' := H'
  obtain ⟨mm, h1, h2, h3, h4, h5, h6, h7, h8, h9⟩ := H
  obtain ⟨b0, x, y, g1, g2, g3, g4, g5, g6, g7⟩ := H'
  unfold xR
  refine xe_s (f := (3, _, xi 1 :: _, _)) xt_g34 rfl rfl rfl rfl rfl ?_
  refine xe_s (f := (6, _, _, _)) xt_g34 rfl rfl rfl rfl rfl ?_
  refine xe_s (f := (7, _, _, _)) xt_g34 rfl rfl rfl rfl rfl ?_
  refine xe_gf xt_g34 rfl (q := 10) rfl (xf_14_22 fm) (h1) (by omega) rfl rfl ?_
  refine xe_s (f := (11, _, _, _)) xt_g34 rfl rfl rfl rfl rfl ?_
  refine xe_cR xt_g34 rfl rfl rfl (q := 14) rfl (kc_V xk_14_40 rfl (g1) (by omega) rfl rfl) xt_g32 (by decide) ⟨Nat.le_of_ble_eq_true rfl, Nat.le_of_ble_eq_true rfl, Nat.le_of_ble_eq_true rfl⟩ (s32 G') ?_
  refine xe_s (f := (21, _, _, _)) xt_g34 rfl rfl rfl rfl rfl ?_
  refine xe_ret xt_g34 rfl rfl ?_
  exact ⟨rfl, rfl⟩
theorem s33 (H : sB h n s b k l) (H' : sS F h n r t) (hk : l.length + t.length ≤ k) : xN fm 33 h n [.ref s, xi l.length, .ref r] (fun h' n' u' => n' = n ∧ u' = 0 ∧ sA h' b k (l ++ t) ∧ ∀ a, a ≠ b → h' a = h a) := by
  have G := H
  have G' := H'
  obtain ⟨mm, h1, h2, ⟨f, e1, e2, e3⟩, h4, h5, h6, h7, h8, h9⟩ := H
  obtain ⟨b0, x, y, g1, g2, g3, g4, g5, g6, g7⟩ := H'
  unfold xN
  refine xe_s (f := (1, _, _, _)) xt_g33 rfl rfl rfl rfl rfl ?_
  refine xe_s (f := (2, _, _, _)) xt_g33 rfl rfl rfl rfl rfl ?_
  refine xe_cRn xt_g33 rfl rfl rfl (q := 5) rfl (kc_V xk_14_397 rfl (h1) (by omega) rfl rfl) xt_g34 (by decide) ⟨Nat.le_of_ble_eq_true rfl, Nat.le_of_ble_eq_true rfl, Nat.le_of_ble_eq_true rfl⟩ (s34 G G') ?_
  refine xe_s (f := (6, _, _, _)) xt_g33 rfl rfl rfl rfl rfl ?_
  refine xe_s (f := (7, _, _, _)) xt_g33 rfl rfl rfl rfl rfl ?_
  refine xe_gf xt_g33 rfl (q := 10) rfl (xf_14_15 fm) (h1) (by omega) rfl rfl ?_
  refine xe_s (f := (11, _, _, _)) xt_g33 rfl rfl rfl rfl rfl ?_
  refine xe_s (f := (12, _, _, _)) xt_g33 rfl rfl rfl rfl rfl ?_
  refine xe_gf xt_g33 rfl (q := 15) rfl (xf_14_22 fm) (h1) (by omega) rfl rfl ?_
  refine xe_cN xt_g33 rfl rfl rfl (q := 18) rfl (kc_V xk_14_399 rfl (g1) (by omega) rfl rfl) xt_g41 (by decide) ⟨Nat.le_of_ble_eq_true rfl, Nat.le_of_ble_eq_true rfl, Nat.le_of_ble_eq_true rfl⟩ (s41 G' e1 h6 h7 (by omega) (by omega) h9 rfl e3) (fun h' n' c' u' hp => ?_)
  refine xe_ret xt_g33 rfl rfl ?_
  try dsimp only
  exact ⟨rfl, hp.1, by omega, hp.2.2⟩
theorem s17 (h44 : 44 ≤ n) (H : sB h n s b k l) (H' : sS F h n r t) (hb : ¬ F b) (hs : ¬ F s) (hl : l.length + t.length < 8000) : xA fm 17 h n [.ref s, .ref r] (fun x h' n' u' => x = s ∧ sbR h n s b k (l ++ t) h' n' u') := by
  have G := H
  have G' := H'
  have Gn := sB_ne H
  obtain ⟨mm, h1, h2, h3, h4, h5, h6, h7, h8, h9⟩ := H
  obtain ⟨b0, x, y, g1, g2, g3, g4, g5, g6, g7, g8⟩ := H'
  unfold xA
  refine xe_s (f := (1, _, _, _)) xt_g17 rfl rfl rfl rfl rfl ?_
  refine xe_s (f := (9, _, _, _)) xt_g17 rfl rfl rfl rfl rfl ?_
  refine xe_s (f := (10, _, _, _)) xt_g17 rfl rfl rfl rfl rfl ?_
  refine xe_cR xt_g17 rfl rfl rfl (q := 13) rfl (kc_V xk_14_32 rfl (g1) (by omega) rfl rfl) xt_g31 (by decide) ⟨Nat.le_of_ble_eq_true rfl, Nat.le_of_ble_eq_true rfl, Nat.le_of_ble_eq_true rfl⟩ (s31 G') ?_
  refine xe_s (f := (14, [(2, _), (0, _), (1, _)], _, _)) xt_g17 rfl rfl rfl rfl rfl ?_
  refine xe_s (f := (15, _, _, _)) xt_g17 rfl rfl rfl rfl rfl ?_
  refine xe_s (f := (16, _, _, _)) xt_g17 rfl rfl rfl rfl rfl ?_
  refine xe_gf xt_g17 rfl (q := 19) rfl (xf_14_79 fm) (h1) (by omega) rfl rfl ?_
  refine xe_s (f := (20, _, _, _)) xt_g17 rfl rfl rfl rfl rfl ?_
  refine xe_iadd xt_g17 rfl (q := 21) rfl ?_
  refine xe_cN xt_g17 rfl rfl rfl (q := 24) rfl (kc_V xk_14_100 rfl (h1) (by omega) rfl rfl) xt_g19 (by decide) ⟨Nat.le_of_ble_eq_true rfl, Nat.le_of_ble_eq_true rfl, Nat.le_of_ble_eq_true rfl⟩ (s19 h44 G (by omega) (by omega)) (fun h' n' c' u' hp => ?_)
  obtain ⟨b', k', p1, p2, p3, p4, p5, p6, p7, p8, p9⟩ := hp
  have Pn := sB_ne p1
  have ⟨mm', f1, f2, f3, f4, f5, f6, f7, f8, f9⟩ := p1
  have G'' : sS F h' n' r t := sS_h G' p3 (fun i hi hin => p5 i hin (fun e => hs (e ▸ hi)) (fun e => hb (e ▸ hi)))
  refine xe_s (f := (25, _, _, _)) xt_g17 rfl rfl rfl rfl rfl ?_
  refine xe_s (f := (26, _, _, _)) xt_g17 rfl rfl rfl rfl rfl ?_
  refine xe_gf xt_g17 rfl (q := 29) rfl (xf_14_79 fm) (f1) (by omega) rfl rfl ?_
  refine xe_s (f := (30, _, _, _)) xt_g17 rfl rfl rfl rfl rfl ?_
  refine xe_cN xt_g17 rfl rfl rfl (q := 33) rfl (kc_V xk_14_208 rfl (f1) (by omega) rfl rfl) xt_g33 (by decide) ⟨Nat.le_of_ble_eq_true rfl, Nat.le_of_ble_eq_true rfl, Nat.le_of_ble_eq_true rfl⟩ (s33 p1 G'' (by omega)) (fun h2' n2 c2 u2 hq => ?_)
  obtain ⟨q1, q2, q3, q4⟩ := hq
  subst q1 q2
  refine xe_s (f := (34, _, _, _)) xt_g17 rfl rfl rfl rfl rfl ?_
  refine xe_s (f := (35, _, _, _)) xt_g17 rfl rfl rfl rfl rfl ?_
  refine xe_gf xt_g17 rfl (q := 38) rfl (xf_14_79 fm) ((q4 s Pn).trans f1) (by omega) rfl rfl ?_
  refine xe_s (f := (39, _, _, _)) xt_g17 rfl rfl rfl rfl rfl ?_
  refine xe_iadd xt_g17 rfl (q := 40) rfl ?_
  refine xe_pf xt_g17 rfl (q := 43) rfl (xf_14_79 fm) ((q4 s Pn).trans f1) (by omega) (by omega) rfl (Nat.le_of_ble_eq_true rfl) (Nat.le_of_ble_eq_true rfl) xi_int (Or.inl rfl) ?_
  refine xe_s (f := (44, _, _, _)) xt_g17 rfl rfl rfl rfl rfl ?_
  refine xe_aret xt_g17 rfl (Or.inl ⟨_, rfl⟩) rfl ?_
  try dsimp only
  have ll : (l ++ t).length = l.length + t.length := by simp
  refine ⟨s, rfl, rfl, b', k', ⟨mm', ?_, f2, sA_h q3 (va_up_n (by omega)), f4, f5, f6, f7, asc_app f8 g7, f9⟩, p2, p3, p4, ?_, p6, by omega, by omega⟩
  · refine va_up_s.trans ?_
    rw [ll]
    rfl
  · intro a ha hs hb
    refine (va_up_n hs).trans ((q4 a ?_).trans (p5 a ha hs hb))
    rcases p2 with e | e
    · rw [e]; exact hb
    · omega
theorem s16 (h44 : 44 ≤ n) (H : sB h n s b k l) (H' : sS F h n r t) (hb : ¬ F b) (hs : ¬ F s) (hl : l.length + t.length < 8000) : xA fm 16 h n [.ref s, .ref r] (fun x h' n' u' => x = s ∧ sbR h n s b k (l ++ t) h' n' u') := by
  have G := H
  obtain ⟨mm, h1, h2, h3, h4, h5, h6, h7, h8, h9⟩ := H
  unfold xA
  refine xe_s (f := (1, _, _, _)) xt_g16 rfl rfl rfl rfl rfl ?_
  refine xe_s (f := (2, _, _, _)) xt_g16 rfl rfl rfl rfl rfl ?_
  refine xe_cA xt_g16 rfl rfl rfl (q := 5) rfl (kc_Q xk_16_29 rfl (h1) (by omega) rfl rfl) xt_g17 (by decide) ⟨Nat.le_of_ble_eq_true rfl, Nat.le_of_ble_eq_true rfl, Nat.le_of_ble_eq_true rfl⟩ (s17 h44 G H' hb hs hl) (fun x h' n' c' u' hp => ?_)
  refine xe_s (f := (6, _, _, _)) xt_g16 rfl rfl rfl rfl rfl ?_
  refine xe_s (f := (7, _, _, _)) xt_g16 rfl rfl rfl rfl rfl ?_
  refine xe_aret xt_g16 rfl (Or.inl ⟨_, rfl⟩) rfl ?_
  try dsimp only
  exact ⟨s, rfl, rfl, by simpa using hp.2⟩
/-- charAt -/
theorem s124 {i : Int} (hfm : fm = .null ∨ ∃ j, fm = .ref j) (H : sB h n s b k l) (hi : 0 ≤ i) (hk : i < l.length) : xR fm 124 h n [.ref s, xi i] (some (xi (l.getD i.toNat 0))) := by
  obtain ⟨mm, h1, h2, ⟨f, e1, e2, e3⟩, h4, h5, h6, h7, h8, h9⟩ := H
  have h10 := h8 i.toNat
  unfold xR
  refine xe_s (f := (1, _, _, _)) xt_g124 rfl rfl rfl rfl rfl ?_
  refine xe_gf xt_g124 rfl (q := 4) rfl (xf_14_22 fm) (h1) (by omega) rfl rfl ?_
  refine xe_s (f := (5, [(2, _), (0, _), (1, _)], _, _)) xt_g124 rfl rfl rfl rfl rfl ?_
  refine xe_s (f := (6, _, _, _)) xt_g124 rfl rfl rfl rfl rfl ?_
  refine xe_gf xt_g124 rfl (q := 9) rfl (xf_14_15 fm) (h1) (by omega) rfl rfl ?_
  refine xe_s (f := (10, [(3, _), (2, _), (0, _), (1, _)], _, _)) xt_g124 rfl rfl rfl rfl rfl ?_
  refine xe_s (f := (11, _, _, _)) xt_g124 rfl rfl rfl rfl rfl ?_
  refine xe_gf xt_g124 rfl (q := 14) rfl (xf_14_79 fm) (h1) (by omega) rfl rfl ?_
  refine xe_s (f := (15, _, _, _)) xt_g124 rfl rfl rfl rfl rfl ?_
  refine xe_alen xt_g124 rfl (q := 16) rfl (e1) (by decide) (by omega) ?_
  refine xe_s (f := (17, _, _, _)) xt_g124 rfl rfl rfl rfl rfl ?_
  refine xe_ishr0 xt_g124 rfl (q := 18) rfl ?_
  refine xe_cR xt_g124 rfl rfl rfl (q := 21) rfl (kc_S xk_14_138 (Nat.le_of_ble_eq_true rfl)) xt_g7 (by decide) ⟨Nat.le_of_ble_eq_true rfl, Nat.le_of_ble_eq_true rfl, Nat.le_of_ble_eq_true rfl⟩ (s7 ⟨by omega, by omega⟩ ⟨by omega, by omega⟩) ?_
  refine xe_s (f := (23, [(4, _), (3, _), (2, _), (0, _), (1, _)], _, _)) xt_g124 rfl rfl rfl rfl rfl ?_
  refine xe_s (f := (24, _, _, _)) xt_g124 rfl rfl rfl rfl rfl ?_
  refine xe_s (f := (26, _, _, _)) xt_g124 rfl rfl rfl rfl rfl ?_
  refine xe_cRn xt_g124 rfl rfl rfl (q := 29) rfl (kc_S xk_14_144 (Nat.le_of_ble_eq_true rfl)) xt_g68 (by decide) ⟨Nat.le_of_ble_eq_true rfl, Nat.le_of_ble_eq_true rfl, Nat.le_of_ble_eq_true rfl⟩ (s68 hfm hi (by omega) (by omega)) ?_
  refine xe_s (f := (30, _, _, _)) xt_g124 rfl rfl rfl rfl rfl ?_
  refine xe_s (f := (33, _, _, _)) xt_g124 rfl rfl rfl rfl rfl ?_
  refine xe_s (f := (34, _, _, _)) xt_g124 rfl rfl rfl rfl rfl ?_
  refine xe_s (f := (35, _, _, _)) xt_g124 rfl rfl rfl rfl rfl ?_
  refine xe_al (ok := xm_isB) (ty := .byte) xt_g124 rfl (q := 36) rfl (fun _ _ => ⟨rfl, rfl, rfl, rfl⟩) (e1) rfl rfl (by omega) (by omega) (by omega) (by omega) (e3 _ (by omega)) ?_
  refine xe_sipush xt_g124 rfl (q := 39) rfl (by decide) (by decide) ?_
  refine xe_and255 xt_g124 rfl (q := 40) rfl (by omega) ?_
  refine xe_i2c xt_g124 rfl (q := 41) rfl (by omega) ?_
  refine xe_iret xt_g124 rfl rfl (xi_chr (by omega)) ?_
  exact ⟨rfl, rfl⟩
theorem s123 {i : Int} (hfm : fm = .null ∨ ∃ j, fm = .ref j) (H : sB h n s b k l) (hi : 0 ≤ i) (hk : i < l.length) : xR fm 123 h n [.ref s, xi i] (some (xi (l.getD i.toNat 0))) := by
  have G := H
  obtain ⟨mm, h1, h2, h3, h4, h5, h6, h7, h8, h9⟩ := H
  have h10 := h8 i.toNat
  unfold xR
  refine xe_s (f := (1, _, _, _)) xt_g123 rfl rfl rfl rfl rfl ?_
  refine xe_s (f := (2, _, _, _)) xt_g123 rfl rfl rfl rfl rfl ?_
  refine xe_cR xt_g123 rfl rfl rfl (q := 5) rfl (kc_Q xk_16_329 rfl (h1) (by omega) rfl rfl) xt_g124 (by decide) ⟨Nat.le_of_ble_eq_true rfl, Nat.le_of_ble_eq_true rfl, Nat.le_of_ble_eq_true rfl⟩ (s124 hfm G hi hk) ?_
  refine xe_iret xt_g123 rfl rfl (xi_chr (by omega)) ?_
  exact ⟨rfl, rfl⟩
/-- toString -/
theorem s50 {z w x y : Value} (h44 : 44 ≤ n) (H : sB h n s b k l) (hr : 44 ≤ r) (hn : r < n) (hl : l.length < 9000) (R : h r = .inr (6, [z, w, x, y])) : xN fm 50 h n [.ref r, .ref s, .null] (fun h' n' u' => n' = n + 1 ∧ u' = l.length ∧ h' r = .inr (6, [.ref n, xi 0, x, y]) ∧ sA h' n l.length l ∧ ∀ a, a < n → a ≠ r → h' a = h a) := by
  have G := H
  obtain ⟨mm, h1, h2, h3, h4, h5, h6, h7, h8, h9⟩ := H
  have hsr : s ≠ r := by
    intro e
    rw [e, R] at h1
    cases h1
  have hbr : b ≠ r := by
    intro e
    obtain ⟨f, e1, e2⟩ := h3
    rw [e, R] at e1
    cases e1
  unfold xN
  refine xe_s (f := (1, _, _, _)) xt_g50 rfl rfl rfl rfl rfl ?_
  refine xe_obj xt_g50 rfl (q := 4) rfl xz0_15_1 (xp_15_1 fm) (Nat.le_of_ble_eq_true rfl) ?_
  refine xe_s (f := (5, _, _, _)) xt_g50 rfl rfl rfl rfl rfl ?_
  refine xe_cR xt_g50 rfl rfl rfl (q := 8) rfl (kc_V xk_15_552 rfl (h1) (by omega) rfl rfl) xt_g51 (by decide) ⟨Nat.le_of_ble_eq_true rfl, Nat.le_of_ble_eq_true rfl, Nat.le_of_ble_eq_true rfl⟩ (s51 G) ?_
  refine xe_s (f := (9, [(3, _), (0, _), (1, _), (2, _)], _, _)) xt_g50 rfl rfl rfl rfl rfl ?_
  refine xe_s (f := (10, _, _, _)) xt_g50 rfl rfl rfl rfl rfl ?_
  refine xe_cR xt_g50 rfl rfl rfl (q := 13) rfl (kc_W xk_15_549 rfl (h1) (by omega) rfl rfl) xt_g12 (by decide) ⟨Nat.le_of_ble_eq_true rfl, Nat.le_of_ble_eq_true rfl, Nat.le_of_ble_eq_true rfl⟩ (s12 G) ?_
  refine xe_s (f := (15, [(4, _), (3, _), (0, _), (1, _), (2, _)], _, _)) xt_g50 rfl rfl rfl rfl rfl ?_
  refine xe_s (f := (16, _, _, _)) xt_g50 rfl rfl rfl rfl rfl ?_
  refine xe_cR xt_g50 rfl rfl rfl (q := 19) rfl (kc_V xk_15_1047 rfl (h1) (by omega) rfl rfl) xt_g24 (by decide) ⟨Nat.le_of_ble_eq_true rfl, Nat.le_of_ble_eq_true rfl, Nat.le_of_ble_eq_true rfl⟩ (s24 G) ?_
  refine xe_s (f := (22, _, _, _)) xt_g50 rfl rfl rfl rfl rfl ?_
  refine xe_s (f := (23, _, _, _)) xt_g50 rfl rfl rfl rfl rfl ?_
  refine xe_s (f := (24, _, xi 0 :: _, _)) xt_g50 rfl rfl rfl rfl rfl ?_
  refine xe_pf xt_g50 rfl (q := 27) rfl (xf_15_15 fm) (R) (by omega) (by omega) rfl (Nat.le_of_ble_eq_true rfl) (Nat.le_of_ble_eq_true rfl) ⟨rfl, rfl⟩ (Or.inr ⟨by decide, rfl⟩) ?_
  refine xe_s (f := (28, _, _, _)) xt_g50 rfl rfl rfl rfl rfl ?_
  refine xe_s (f := (29, _, _, _)) xt_g50 rfl rfl rfl rfl rfl ?_
  refine xe_s (f := (30, _, xi 0 :: _, _)) xt_g50 rfl rfl rfl rfl rfl ?_
  refine xe_s (f := (32, _, _, _)) xt_g50 rfl rfl rfl rfl rfl ?_
  refine xe_cA xt_g50 rfl rfl rfl (q := 35) rfl (kc_S xk_15_54 (Nat.le_of_ble_eq_true rfl)) xt_g52 (by decide) ⟨Nat.le_of_ble_eq_true rfl, Nat.le_of_ble_eq_true rfl, Nat.le_of_ble_eq_true rfl⟩ (s52 h44 (sA_h h3 (va_up_n hbr)) h7 (by omega) (Int.le_refl 0) (by omega) (by omega) (Or.inl h6)) (fun x' h' n' c' u' hp => ?_)
  obtain ⟨p1, p2, p3, p4, p5⟩ := hp
  replace p1 := p1.symm
  subst p1 p2
  rw [sl_all] at p5
  refine xe_pf xt_g50 rfl (q := 38) rfl (xf_15_9 fm) ((p4.2 r hn).trans va_up_s) (by omega) (by omega) rfl (Nat.le_of_ble_eq_true rfl) (Nat.le_of_ble_eq_true rfl) ⟨rfl, rfl⟩ (Or.inr ⟨by decide, rfl⟩) ?_
  refine xe_s (f := (97, _, _, _)) xt_g50 rfl rfl rfl rfl rfl ?_
  refine xe_ret xt_g50 rfl rfl ?_
  try dsimp only
  refine ⟨rfl, rfl, by omega, va_up_s, sA_h p5 (va_up_n (by omega)), fun a ha har => (va_up_n har).trans ((p4.2 a ha).trans (va_up_n har))⟩
theorem s49 {z w x y : Value} (h44 : 44 ≤ n) (H : sB h n s b k l) (hr : 44 ≤ r) (hn : r < n) (hl : l.length < 9000) (R : h r = .inr (6, [z, w, x, y])) : xN fm 49 h n [.ref r, .ref s] (fun h' n' u' => n' = n + 1 ∧ u' = l.length ∧ h' r = .inr (6, [.ref n, xi 0, x, y]) ∧ sA h' n l.length l ∧ ∀ a, a < n → a ≠ r → h' a = h a) := by
  unfold xN
  refine xe_s (f := (1, _, _, _)) xt_g49 rfl rfl rfl rfl rfl ?_
  refine xe_s (f := (2, _, _, _)) xt_g49 rfl rfl rfl rfl rfl ?_
  refine xe_s (f := (3, _, _, _)) xt_g49 rfl rfl rfl rfl rfl ?_
  refine xe_cN xt_g49 rfl rfl rfl (q := 6) rfl (kc_P xk_15_489 rfl) xt_g50 (by decide) ⟨Nat.le_of_ble_eq_true rfl, Nat.le_of_ble_eq_true rfl, Nat.le_of_ble_eq_true rfl⟩ (s50 h44 H hr hn hl R) (fun h' n' c' u' hp => ?_)
  refine xe_ret xt_g49 rfl rfl ?_
  try dsimp only
  exact ⟨rfl, hp.1, by omega, hp.2.2⟩
theorem s48 (h44 : 44 ≤ n) (H : sB h n s b k l) (hl : l.length < 9000) : xA fm 48 h n [.ref s] (fun x h' n' u' => sS (nf F n) h' n' x l ∧ n ≤ x ∧ ex h n h' n' ∧ n' ≤ n + 2 ∧ u' ≤ 4 + l.length) := by
  have ⟨mm, h1, h2, h3, h4, h5, h6, h7, h8, h9⟩ := H
  unfold xA
  refine xe_new (k := 4) (fs := [.null, xi 0, xi 0, xi 0]) xt_g48 rfl rfl (q := 3) rfl (xn_16_18 fm) rfl rfl rfl ?_
  refine xe_s (f := (4, _, _, _)) xt_g48 rfl rfl rfl rfl rfl ?_
  refine xe_s (f := (5, _, _, _)) xt_g48 rfl rfl rfl rfl rfl ?_
  refine xe_cN xt_g48 rfl rfl rfl (q := 8) rfl (kc_P xk_16_137 rfl) xt_g49 (by decide) ⟨Nat.le_of_ble_eq_true rfl, Nat.le_of_ble_eq_true rfl, Nat.le_of_ble_eq_true rfl⟩ (s49 (by omega) (sB_h H (Nat.le_succ n) (va_up_n (by omega)) (va_up_n (by omega))) (by omega) (by omega) hl va_up_s) (fun h' n' c' u' hp => ?_)
  refine xe_aret xt_g48 rfl (Or.inl ⟨_, rfl⟩) rfl ?_
  try dsimp only
  obtain ⟨p1, p2, p3, p4, p5⟩ := hp
  subst p1 p2
  refine ⟨n, rfl, sS_new p3 p4 (Or.inr (Nat.le_refl _)) (Or.inr (by omega)) (by omega) (by omega) h8 (by omega), Nat.le_refl _, ⟨by omega, fun a ha => (p5 a (by omega) (by omega)).trans (va_up_n (by omega))⟩, by omega, by omega⟩
/-- a new StringBuilder -/
theorem s2 {z w x : Value} {i : Int} (h44 : 44 ≤ s) (hn : s < n) (hi : i = 16) (R : h s = .inr (1, [z, w, x, xi 0])) (hx : x = xi 0) : xN fm 2 h n [.ref s, xi i] (fun h' n' u' => n' = n + 1 ∧ u' = 16 ∧ h' = va_up (va_up h n (.inl (1, 16, .inl (fun _ => 0)))) s (.inr (1, [.ref n, xi 0, xi 0, xi 0]))) := by
  subst hi hx
  unfold xN
  refine xe_s (f := (1, _, _, _)) xt_g2 rfl rfl rfl rfl rfl ?_
  refine xe_obj xt_g2 rfl (q := 4) rfl xz0_14_3 (xp_14_3 fm) (Nat.le_of_ble_eq_true rfl) ?_
  refine xe_s (f := (7, _, xi 1 :: _, _)) xt_g2 rfl rfl rfl rfl rfl ?_
  refine xe_s (f := (10, _, _, _)) xt_g2 rfl rfl rfl rfl rfl ?_
  refine xe_s (f := (11, _, _, _)) xt_g2 rfl rfl rfl rfl rfl ?_
  refine xe_s (f := (12, _, _, _)) xt_g2 rfl rfl rfl rfl rfl ?_
  refine xe_nwa (t := 1) (ty := .byte) xt_g2 rfl (q := 14) rfl rfl rfl rfl rfl (by omega) (by decide) ?_
  refine xe_pf xt_g2 rfl (q := 17) rfl (xf_14_15 fm) ((va_up_n (by omega)).trans R) (by omega) (by omega) rfl (Nat.le_of_ble_eq_true rfl) (Nat.le_of_ble_eq_true rfl) ⟨rfl, rfl⟩ (Or.inl rfl) ?_
  refine xe_s (f := (18, _, _, _)) xt_g2 rfl rfl rfl rfl rfl ?_
  refine xe_s (f := (19, _, xi 0 :: _, _)) xt_g2 rfl rfl rfl rfl rfl ?_
  refine xe_pf xt_g2 rfl (q := 22) rfl (xf_14_22 fm) (va_up_s) (by omega) (by omega) rfl (Nat.le_of_ble_eq_true rfl) (Nat.le_of_ble_eq_true rfl) ⟨rfl, rfl⟩ (Or.inl rfl) ?_
  refine xe_s (f := (38, _, _, _)) xt_g2 rfl rfl rfl rfl rfl ?_
  refine xe_ret xt_g2 rfl rfl ?_
  try dsimp only
  refine ⟨rfl, rfl, rfl, ?_⟩
  funext a
  unfold va_up
  dsimp only [List.set]
  split <;> rfl
theorem s1 {z w x : Value} (h44 : 44 ≤ s) (hn : s < n) (R : h s = .inr (1, [z, w, x, xi 0])) (hx : x = xi 0) : xN fm 1 h n [.ref s] (fun h' n' u' => n' = n + 1 ∧ u' = 16 ∧ h' = va_up (va_up h n (.inl (1, 16, .inl (fun _ => 0)))) s (.inr (1, [.ref n, xi 0, xi 0, xi 0]))) := by
  unfold xN
  refine xe_s (f := (1, _, _, _)) xt_g1 rfl rfl rfl rfl rfl ?_
  refine xe_bipush xt_g1 rfl (q := 3) rfl (by decide) (by decide) ?_
  refine xe_cN xt_g1 rfl rfl rfl (q := 6) rfl (kc_P xk_16_1 rfl) xt_g2 (by decide) ⟨Nat.le_of_ble_eq_true rfl, Nat.le_of_ble_eq_true rfl, Nat.le_of_ble_eq_true rfl⟩ (s2 h44 hn rfl R hx) (fun h' n' c' u' hp => ?_)
  refine xe_ret xt_g1 rfl rfl ?_
  try dsimp only
  exact ⟨rfl, hp.1, by omega, hp.2.2⟩
end XBM
