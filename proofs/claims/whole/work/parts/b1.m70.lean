/-! the reader of addresses: scheme, port, tail -/
theorem skM_iff {l W : List Int} {k : Int} (h0 : 0 ≤ k) (hk : k ≤ l.length) (hW : ∀ i, i < W.length → W.getD i 0 ≠ 0) : skM l k W = true ↔ ∀ i, i < W.length → xd_sml (lt l (k + i)) = W.getD i 0 := by
  unfold skM
  rw [decide_eq_true_eq]
  constructor
  · rintro ⟨h1, h2⟩ i hi
    have e := sl_len h0 (show k ≤ k + W.length by omega) h1
    rw [← h2, map_gd (by omega), sl_get h0 (by omega) h1 (by omega), lt_in (by omega) (by omega)]
    congr 2
    omega
  · intro hh
    have hl : k + W.length ≤ l.length := by
      by_cases e : W.length = 0
      · omega
      · have := hh (W.length - 1) (by omega)
        by_cases g : k + W.length ≤ l.length
        · exact g
        · exfalso
          rw [lt_out (by omega)] at this
          exact hW _ (by omega) this.symm
    have e := sl_len h0 (show k ≤ k + W.length by omega) hl
    refine ⟨hl, gd_ext (by rw [List.length_map]; omega) (fun j hj => ?_)⟩
    rw [List.length_map] at hj
    rw [map_gd hj, sl_get h0 (by omega) hl (by omega), ← hh j (by omega), lt_in (by omega) (by omega)]
    congr 2
    omega
theorem sml_e {z c : Int} (h : c < 97 ∨ 122 < c) (h2 : c < 65 ∨ 90 < c) : xd_sml z = c ↔ z = c := by
  unfold xd_sml
  split <;> omega
theorem sml_r {z : Int} (h : 0 ≤ z ∧ z < 128) : 0 ≤ xd_sml z ∧ xd_sml z < 128 := by
  unfold xd_sml
  split <;> omega
/-- which scheme -/
theorem sk_https {l : List Int} : skM l 0 [104, 116, 116, 112, 115, 58, 47, 47] = (xd_hsc (lt l) && xd_ss (lt l)) := by
  rw [Bool.eq_iff_iff, skM_iff (Int.le_refl 0) (by omega) (by decide)]
  unfold xd_hsc xd_sc xd_sk xd_ss
  simp only [Bool.and_eq_true, decide_eq_true_eq]
  constructor
  · intro hh
    have e0 := hh 0 (by decide)
    have e1 := hh 1 (by decide)
    have e2 := hh 2 (by decide)
    have e3 := hh 3 (by decide)
    have e4 := hh 4 (by decide)
    have e5 := hh 5 (by decide)
    have e6 := hh 6 (by decide)
    have e7 := hh 7 (by decide)
    have e4' : xd_sml (lt l 4) = 115 := e4
    refine ⟨⟨⟨e0, e1, e2, e3⟩, ?_⟩, e4⟩
    rw [if_pos e4']
    exact ⟨(sml_e (by omega) (by omega)).mp e5, (sml_e (by omega) (by omega)).mp e6, (sml_e (by omega) (by omega)).mp e7⟩
  · rintro ⟨⟨⟨e0, e1, e2, e3⟩, hs⟩, e4⟩
    rw [if_pos e4] at hs
    obtain ⟨e5, e6, e7⟩ := hs
    intro i hi
    match i, hi with
    | 0, _ => exact e0
    | 1, _ => exact e1
    | 2, _ => exact e2
    | 3, _ => exact e3
    | 4, _ => exact e4
    | 5, _ => exact (sml_e (by decide) (by decide)).mpr e5
    | 6, _ => exact (sml_e (by decide) (by decide)).mpr e6
    | 7, _ => exact (sml_e (by decide) (by decide)).mpr e7
    | i + 8, h => exact absurd h (by simp)
theorem sk_http {l : List Int} (h : (xd_hsc (lt l) && xd_ss (lt l)) = false) : skM l 0 [104, 116, 116, 112, 58, 47, 47] = xd_hsc (lt l) ∧ (xd_hsc (lt l) = true → xd_ss (lt l) = false) := by
  have hn : xd_hsc (lt l) = true → xd_ss (lt l) = false := by
    intro e
    rw [e, Bool.true_and] at h
    exact h
  refine ⟨?_, hn⟩
  rw [Bool.eq_iff_iff, skM_iff (Int.le_refl 0) (by omega) (by decide)]
  constructor
  · intro hh
    have e0 := hh 0 (by decide)
    have e1 := hh 1 (by decide)
    have e2 := hh 2 (by decide)
    have e3 := hh 3 (by decide)
    have e4 := hh 4 (by decide)
    have e5 := hh 5 (by decide)
    have e6 := hh 6 (by decide)
    have e4' : xd_sml (lt l 4) = 58 := e4
    unfold xd_hsc xd_sc xd_sk xd_ss
    simp only [Bool.and_eq_true, decide_eq_true_eq]
    refine ⟨⟨e0, e1, e2, e3⟩, ?_⟩
    rw [if_neg (by omega)]
    exact ⟨(sml_e (by omega) (by omega)).mp e4, (sml_e (by omega) (by omega)).mp e5, (sml_e (by omega) (by omega)).mp e6⟩
  · intro e
    have e4 := hn e
    unfold xd_hsc xd_sc xd_sk at e
    rw [if_neg (by rw [e4]; decide)] at e
    simp only [Bool.and_eq_true, decide_eq_true_eq] at e
    obtain ⟨⟨e0, e1, e2, e3⟩, e5, e6, e7⟩ := e
    intro i hi
    match i, hi with
    | 0, _ => exact e0
    | 1, _ => exact e1
    | 2, _ => exact e2
    | 3, _ => exact e3
    | 4, _ => exact (sml_e (by decide) (by decide)).mpr e5
    | 5, _ => exact (sml_e (by decide) (by decide)).mpr e6
    | 6, _ => exact (sml_e (by decide) (by decide)).mpr e7
    | i + 7, h => exact absurd h (by simp)
section XB1
variable {fm : Value} {w w' w1 w2 : kW} {s s' s1 s2 : Nat → Int} {p p' p1 p2 : Nat → Nat} {ar : Nat → Nat → Option Nat} {v : Nat → Int} {h h' h1 h2 : xm_H} {n n' n1 n2 r k u' u1 u2 : Nat} {l L W : List Int} {t t' t1 t2 : Nat → List Int} {kc kc' kc1 kc2 : Nat → Nat}
theorem k101 (hfm : fm = .null ∨ ∃ j, fm = .ref j) (K : KW w h n t kc) (C : cst w h n) (H : sS (gd w) h n (p 4) l) (h8 : s 8 = 0) : xI fm 101 (ko w s p ar v h) n [.ref 49] (fun z h' n' u' => ∃ h1 s', h' = ko w s' p ar v h1 ∧ RR [8, 9] [] 64 10 w s p h n t kc w s' p h1 n' t kc u' ∧ z = xb (xd_hsc (lt l)) ∧ (xd_hsc (lt l) = true → s' 9 = xb (xd_ss (lt l)) ∧ s' 8 = xd_sk (lt l) + 3) ∧ (xd_hsc (lt l) = false → s' 8 = 0)) := by
  have W0 := K.1.1
  have hl : l.length < 10000 := H.choose_spec.choose_spec.choose_spec.2.2.2.2.2.2.2
  unfold xI
  refine xe_s (f := (1, _, _, _)) xt_g101 rfl rfl rfl rfl rfl ?_
  refine xe_s (f := (2, _, _, _)) xt_g101 rfl rfl rfl rfl rfl ?_
  refine xe_s (f := (4, _, .ref 7 :: _, _)) xt_g101 rfl rfl rfl rfl rfl ?_
  refine xe_cI xt_g101 rfl rfl rfl (q := 7) rfl (kc_V xk_2_54 rfl (ko_49) (by omega) rfl rfl) xt_g102 (by decide) ⟨Nat.le_of_ble_eq_true rfl, Nat.le_of_ble_eq_true rfl, Nat.le_of_ble_eq_true rfl⟩ (k102 hfm K C H (C.1 (7, [104, 116, 116, 112, 115, 58, 47, 47]) (by decide)) (by omega)) (fun z h1 n1 c1 u1 hp => ?_)
  obtain ⟨h2, s1, rfl, R1, z1, e1⟩ := hp
  rw [h8, sk_https] at z1 e1
  rw [z1]
  have N1 := R1.2.1.1
  refine xe_kp_2_3 xt_g101 rfl (q := 10) rfl (xf_2_58 fm) (by omega) (by first | omega | exact xb_or _) ?_
  refine xe_s (f := (11, _, _, _)) xt_g101 rfl rfl rfl rfl rfl ?_
  refine xe_gf xt_g101 rfl (q := 14) rfl (xf_2_58 fm) (ko_49) (by omega) rfl rfl ?_
  try simp only [xo_u, pu, Nat.reduceEqDiff, reduceIte]
  refine xe_if_ne xt_g101 rfl (t := 26) rfl (q := 17) rfl (by first | omega | exact xb_r _) (fun b14 => ?_) (fun b14 => ?_)
  · try simp only [xb_0, xb_1, ne_eq, Decidable.not_not, Bool.not_eq_false, Bool.not_eq_true, decide_eq_true_eq, decide_eq_false_iff_not] at b14
    refine xe_s (f := (27, _, xi 1 :: _, _)) xt_g101 rfl rfl rfl rfl rfl ?_
    refine xe_s (f := (31, _, _, _)) xt_g101 rfl rfl rfl rfl rfl ?_
    refine xe_iret xt_g101 rfl rfl (xi_bool (by first | omega | exact xb_or _)).1 ?_
    try dsimp only
    have b1 := (Bool.and_eq_true_iff).mp b14
    refine ⟨1, rfl, h2, _, rfl, ⟨R1.1, R1.2.1, fun k hk => ?_, R1.2.2.2.1, ⟨rfl, rfl⟩, ⟨rfl, rfl⟩, Nat.le_refl _, ?_, ?_⟩, by rw [b1.1]; rfl, fun _ => ⟨by rw [xo_uS, b14, b1.2], ?_⟩, fun g => ?_⟩
    · rw [xo_uN (fun e => hk (by rw [e]; decide))]
      exact R1.2.2.1 k (fun e => hk (by rw [List.mem_singleton.mp e]; decide))
    · have := R1.2.2.2.2.2.2.2.1; omega
    · have := R1.2.2.2.2.2.2.2.2; simp at this; omega
    · rw [xo_uN (by decide), e1, b14, if_pos rfl]
      unfold xd_sk
      rw [if_pos b1.2]
      rfl
    · rw [b1.1] at g; cases g
  · try simp only [xb_0, xb_1, ne_eq, Decidable.not_not, Bool.not_eq_false, Bool.not_eq_true, decide_eq_true_eq, decide_eq_false_iff_not] at b14
    refine xe_s (f := (18, _, _, _)) xt_g101 rfl rfl rfl rfl rfl ?_
    refine xe_s (f := (20, _, .ref 9 :: _, _)) xt_g101 rfl rfl rfl rfl rfl ?_
    refine xe_cI xt_g101 rfl rfl rfl (q := 23) rfl (kc_V xk_2_54 rfl (ko_49) (by omega) rfl rfl) xt_g102 (by decide) ⟨Nat.le_of_ble_eq_true rfl, Nat.le_of_ble_eq_true rfl, Nat.le_of_ble_eq_true rfl⟩ (k102 (t := t) (kc := kc) (W := [104, 116, 116, 112, 58, 47, 47]) (l := l) hfm R1.1 (cst_kp C K.1 R1.2.1) (sS_kp H R1.2.1) ((cst_kp C K.1 R1.2.1).1 (9, [104, 116, 116, 112, 58, 47, 47]) (by decide)) (by rw [xo_uN (by decide), e1, b14]; simp)) (fun z2 h3 n3 c3 u3 hq => ?_)
    obtain ⟨h4, s2, rfl, R2, z3, e2⟩ := hq
    have e1' : s1 8 = 0 := by rw [e1, b14]; rfl
    rw [xo_uN (by decide), e1'] at z3 e2
    rw [(sk_http b14).1] at z3 e2
    rw [z3]
    refine xe_if_eq xt_g101 rfl (t := 30) rfl (q := 26) rfl (by first | omega | exact xb_r _) (fun b23 => ?_) (fun b23 => ?_)
    · try simp only [xb_0, xb_1, ne_eq, Decidable.not_not, Bool.not_eq_false, Bool.not_eq_true, decide_eq_true_eq, decide_eq_false_iff_not] at b23
      refine xe_s (f := (31, _, xi 0 :: _, _)) xt_g101 rfl rfl rfl rfl rfl ?_
      refine xe_iret xt_g101 rfl rfl (xi_bool (by first | omega | exact xb_or _)).1 ?_
      try dsimp only
      have n1' := R1.2.2.2.2.2.2.2.1
      have n2' := R2.2.2.2.2.2.2.2.1
      have u1' := R1.2.2.2.2.2.2.2.2
      have u2' := R2.2.2.2.2.2.2.2.2
      simp only [List.length_cons, List.length_nil] at u1' u2'
      refine ⟨_, rfl, h4, s2, rfl, ⟨R2.1, kp_trans R1.2.1 R2.2.1, fun k hk => ?_, fun k hk => (R2.2.2.2.1 k hk).trans (R1.2.2.2.1 k hk), ⟨rfl, rfl⟩, ⟨rfl, rfl⟩, Nat.le_refl _, by omega, by omega⟩, by rw [b23]; rfl, fun g => ⟨?_, ?_⟩, fun g => ?_⟩
      · rw [R2.2.2.1 k (fun e => hk (by rw [List.mem_singleton.mp e]; decide)), xo_uN (fun e => hk (by rw [e]; decide))]
        exact R1.2.2.1 k (fun e => hk (by rw [List.mem_singleton.mp e]; decide))
      · rw [R2.2.2.1 9 (by decide), xo_uS, b14, (sk_http b14).2 g]
      · rw [e2, g, if_pos rfl]
        unfold xd_sk
        rw [(sk_http b14).2 g, if_neg (by decide)]
        rfl
      · rw [e2, g, if_neg (by decide)]
    · try simp only [xb_0, xb_1, ne_eq, Decidable.not_not, Bool.not_eq_false, Bool.not_eq_true, decide_eq_true_eq, decide_eq_false_iff_not] at b23
      refine xe_s (f := (27, _, xi 1 :: _, _)) xt_g101 rfl rfl rfl rfl rfl ?_
      refine xe_s (f := (31, _, _, _)) xt_g101 rfl rfl rfl rfl rfl ?_
      refine xe_iret xt_g101 rfl rfl (xi_bool (by first | omega | exact xb_or _)).1 ?_
      try dsimp only
      have n1' := R1.2.2.2.2.2.2.2.1
      have n2' := R2.2.2.2.2.2.2.2.1
      have u1' := R1.2.2.2.2.2.2.2.2
      have u2' := R2.2.2.2.2.2.2.2.2
      simp only [List.length_cons, List.length_nil] at u1' u2'
      refine ⟨_, rfl, h4, s2, rfl, ⟨R2.1, kp_trans R1.2.1 R2.2.1, fun k hk => ?_, fun k hk => (R2.2.2.2.1 k hk).trans (R1.2.2.2.1 k hk), ⟨rfl, rfl⟩, ⟨rfl, rfl⟩, Nat.le_refl _, by omega, by omega⟩, by rw [b23]; rfl, fun g => ⟨?_, ?_⟩, fun g => ?_⟩
      · rw [R2.2.2.1 k (fun e => hk (by rw [List.mem_singleton.mp e]; decide)), xo_uN (fun e => hk (by rw [e]; decide))]
        exact R1.2.2.1 k (fun e => hk (by rw [List.mem_singleton.mp e]; decide))
      · rw [R2.2.2.1 9 (by decide), xo_uS, b14, (sk_http b14).2 g]
      · rw [e2, g, if_pos rfl]
        unfold xd_sk
        rw [(sk_http b14).2 g, if_neg (by decide)]
        rfl
      · rw [e2, g, if_neg (by decide)]
end XB1
