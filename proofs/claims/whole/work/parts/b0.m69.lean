/-! the reader of addresses: small steps -/
def cstL : List (Nat × List Int) := [(1, []), (7, [104, 116, 116, 112, 115, 58, 47, 47]), (9, [104, 116, 116, 112, 58, 47, 47]), (11, [47]), (13, [47, 47]), (15, [46, 46]), (17, [46]), (19, [59, 32]), (27, [100, 111, 109, 97, 105, 110]), (29, [112, 97, 116, 104]), (31, [109, 97, 120, 45, 97, 103, 101]), (33, [45]), (35, [115, 101, 99, 117, 114, 101]), (37, [104, 116, 116, 112, 111, 110, 108, 121]), (39, [42])]
def cst (w : kW) (h : xm_H) (n : Nat) : Prop := (∀ q, q ∈ cstL → sS (gd w) h n q.1 q.2) ∧ dgT h
section XB0
variable {fm : Value} {w w' w1 w2 : kW} {s s' s1 s2 : Nat → Int} {p p' p1 p2 : Nat → Nat} {ar : Nat → Nat → Option Nat} {v : Nat → Int} {h h' h1 h2 : xm_H} {n n' n1 n2 r k u' u1 u2 : Nat} {l L W : List Int} {t t' t1 t2 : Nat → List Int} {kc kc' kc1 kc2 : Nat → Nat}
theorem cst_kp (C : cst w h n) (W : kw w n) (e : kp w h n w' h' n') : cst w' h' n' := by
  obtain ⟨W0, ⟨a1, a2, a3, a4⟩, ⟨b1, b2, b3, b4⟩, ⟨c1, c2, c3, c4⟩, W4⟩ := W
  refine ⟨fun q hq => sS_kp (C.1 q hq) e, ?_⟩
  obtain ⟨⟨f1, d1, d2⟩, f2, d3, d4⟩ := C.2
  have g : ∀ a, a < 44 → gd w a := fun a ha => ⟨Or.inl ha, by omega, by omega, by omega, by omega⟩
  exact ⟨⟨f1, (e.2.1 41 (by omega) (g 41 (by omega))).1.trans d1, d2⟩, f2, (e.2.1 42 (by omega) (g 42 (by omega))).1.trans d3, d4⟩
/-- a step of the reader: ints S, references Q, at most B slots and C cells -/
def RR (S Q : List Nat) (B C : Nat) (w : kW) (s : Nat → Int) (p : Nat → Nat) (h : xm_H) (n : Nat) (t : Nat → List Int) (kc : Nat → Nat) (w' : kW) (s' : Nat → Int) (p' : Nat → Nat) (h' : xm_H) (n' : Nat) (t' : Nat → List Int) (kc' : Nat → Nat) (u' : Nat) : Prop := KW w' h' n' t' kc' ∧ kp w h n w' h' n' ∧ (∀ k, k ∉ S → s' k = s k) ∧ (∀ k, k ∉ Q → p' k = p k) ∧ (t' 0 = t 0 ∧ t' 1 = t 1) ∧ (kc' 0 = kc 0 ∧ kc' 1 = kc 1) ∧ kc 2 ≤ kc' 2 ∧ n' ≤ n + C + (kc' 2 - kc 2) ∧ u' ≤ B + 2 * (kc' 2 - kc 2)
theorem RR_trans {S Q : List Nat} {B C B' C' : Nat} (a : RR S Q B C w s p h n t kc w1 s1 p1 h1 n1 t1 kc1 u1) (b : RR S Q B' C' w1 s1 p1 h1 n1 t1 kc1 w2 s2 p2 h2 n2 t2 kc2 u2) : RR S Q (B + B') (C + C') w s p h n t kc w2 s2 p2 h2 n2 t2 kc2 (u1 + u2) := by
  obtain ⟨a1, a2, a3, a4, a5, a6, a7, a8, a9⟩ := a
  obtain ⟨b1, b2, b3, b4, b5, b6, b7, b8, b9⟩ := b
  exact ⟨b1, kp_trans a2 b2, fun k hk => (b3 k hk).trans (a3 k hk), fun k hk => (b4 k hk).trans (a4 k hk), ⟨b5.1.trans a5.1, b5.2.trans a5.2⟩, ⟨b6.1.trans a6.1, b6.2.trans a6.2⟩, by omega, by omega, by omega⟩
theorem RR_mono {S Q S' Q' : List Nat} {B C B' C' : Nat} (a : RR S Q B C w s p h n t kc w1 s1 p1 h1 n1 t1 kc1 u1) (hS : S.all (fun k => decide (k ∈ S')) = true) (hQ : Q.all (fun k => decide (k ∈ Q')) = true) (hB : B ≤ B') (hC : C ≤ C') (hu : u2 ≤ u1) : RR S' Q' B' C' w s p h n t kc w1 s1 p1 h1 n1 t1 kc1 u2 := by
  obtain ⟨a1, a2, a3, a4, a5, a6, a7, a8, a9⟩ := a
  exact ⟨a1, a2, fun k hk => a3 k (fun g => hk (of_decide_eq_true (List.all_eq_true.mp hS k g))), fun k hk => a4 k (fun g => hk (of_decide_eq_true (List.all_eq_true.mp hQ k g))), a5, a6, a7, by omega, by omega⟩
theorem RR_ke {S Q : List Nat} {B C : Nat} (K : KW w h n t kc) (e : ke h n h' n') (hs : ∀ k, k ∉ S → s' k = s k) (hp : ∀ k, k ∉ Q → p' k = p k) (hn : n' ≤ n + C) (hu : u' ≤ B) : RR S Q B C w s p h n t kc w s' p' h' n' t kc u' := ⟨KW_ke K e, ke_kp e, hs, hp, ⟨rfl, rfl⟩, ⟨rfl, rfl⟩, Nat.le_refl _, by omega, by omega⟩
/-- next -/
theorem k110 (hfm : fm = .null ∨ ∃ j, fm = .ref j) (hn : 64 ≤ n) (H : sS (gd w) h n (p 4) l) (h8 : 0 ≤ s 8 ∧ s 8 ≤ 2147483647) : xR fm 110 (ko w s p ar v h) n [.ref 49] (some (xi (lt l (s 8)))) := by
  have G := sS_ko (s := s) (p := p) (ar := ar) (v := v) H
  obtain ⟨b, x, y, e1, e2, e3, e4, e5, e6, e7, e8⟩ := G
  have G := sS_ko (s := s) (p := p) (ar := ar) (v := v) H
  have a1 := lt_r e7 (s 8)
  unfold xR
  refine xe_s (f := (1, _, _, _)) xt_g110 rfl rfl rfl rfl rfl ?_
  refine xe_gf xt_g110 rfl (q := 4) rfl (xf_2_33 fm) (ko_49) (by omega) rfl rfl ?_
  refine xe_s (f := (5, _, _, _)) xt_g110 rfl rfl rfl rfl rfl ?_
  refine xe_gf xt_g110 rfl (q := 8) rfl (xf_2_20 fm) (ko_49) (by omega) rfl rfl ?_
  refine xe_cR xt_g110 rfl rfl rfl (q := 11) rfl (kc_V xk_2_64 rfl (e1) (by omega) rfl rfl) xt_g31 (by decide) ⟨Nat.le_of_ble_eq_true rfl, Nat.le_of_ble_eq_true rfl, Nat.le_of_ble_eq_true rfl⟩ (s31 G) ?_
  refine xe_ic_ge xt_g110 rfl (t := 28) rfl (q := 14) rfl (by first | omega | exact xb_r _) (by first | omega | exact xb_r _) (fun b11 => ?_) (fun b11 => ?_)
  · try simp only [xb_0, xb_1, ne_eq, Decidable.not_not, Bool.not_eq_false, Bool.not_eq_true, decide_eq_true_eq, decide_eq_false_iff_not] at b11
    rw [lt_out b11]
    refine xe_s (f := (29, _, xi 0 :: _, _)) xt_g110 rfl rfl rfl rfl rfl ?_
    refine xe_iret xt_g110 rfl rfl (xi_chr (by omega)) ?_
    exact ⟨rfl, rfl⟩
  · try simp only [xb_0, xb_1, ne_eq, Decidable.not_not, Bool.not_eq_false, Bool.not_eq_true, decide_eq_true_eq, decide_eq_false_iff_not] at b11
    refine xe_s (f := (15, _, _, _)) xt_g110 rfl rfl rfl rfl rfl ?_
    refine xe_gf xt_g110 rfl (q := 18) rfl (xf_2_20 fm) (ko_49) (by omega) rfl rfl ?_
    refine xe_s (f := (19, _, _, _)) xt_g110 rfl rfl rfl rfl rfl ?_
    refine xe_gf xt_g110 rfl (q := 22) rfl (xf_2_33 fm) (ko_49) (by omega) rfl rfl ?_
    refine xe_cR xt_g110 rfl rfl rfl (q := 25) rfl (kc_V xk_2_82 rfl (e1) (by omega) rfl rfl) xt_g85 (by decide) ⟨Nat.le_of_ble_eq_true rfl, Nat.le_of_ble_eq_true rfl, Nat.le_of_ble_eq_true rfl⟩ (s85t hfm G (by omega) (by omega)) ?_
    refine xe_s (f := (29, _, _, _)) xt_g110 rfl rfl rfl rfl rfl ?_
    refine xe_iret xt_g110 rfl rfl (xi_chr (by omega)) ?_
    exact ⟨rfl, rfl⟩
theorem k109 (hn : 64 ≤ n) {b : Bool} (h9 : s 9 = xb b) : xR fm 109 (ko w s p ar v h) n [.ref 49] (some (xi (pa_df b))) := by
  unfold pa_df xR
  refine xe_s (f := (1, _, _, _)) xt_g109 rfl rfl rfl rfl rfl ?_
  refine xe_gf xt_g109 rfl (q := 4) rfl (xf_2_58 fm) (ko_49) (by omega) rfl rfl ?_
  rw [h9]
  refine xe_if_eq xt_g109 rfl (t := 13) rfl (q := 7) rfl (by first | omega | exact xb_r _) (fun b4 => ?_) (fun b4 => ?_)
  · try simp only [xb_0, xb_1, ne_eq, Decidable.not_not, Bool.not_eq_false, Bool.not_eq_true, decide_eq_true_eq, decide_eq_false_iff_not] at b4
    rw [b4]
    refine xe_bipush xt_g109 rfl (q := 15) rfl (by decide) (by decide) ?_
    refine xe_iret xt_g109 rfl rfl xi_int.1 ?_
    exact ⟨rfl, rfl⟩
  · try simp only [xb_0, xb_1, ne_eq, Decidable.not_not, Bool.not_eq_false, Bool.not_eq_true, decide_eq_true_eq, decide_eq_false_iff_not] at b4
    rw [b4]
    refine xe_sipush xt_g109 rfl (q := 10) rfl (by decide) (by decide) ?_
    refine xe_s (f := (15, _, _, _)) xt_g109 rfl rfl rfl rfl rfl ?_
    refine xe_iret xt_g109 rfl rfl xi_int.1 ?_
    exact ⟨rfl, rfl⟩
/-- skip -/
def skM (l : List Int) (k : Int) (W : List Int) : Bool := decide (k + W.length ≤ l.length ∧ (sl l k (k + W.length)).map xd_sml = W)
theorem k102 (hfm : fm = .null ∨ ∃ j, fm = .ref j) (K : KW w h n t kc) (C : cst w h n) (H : sS (gd w) h n (p 4) l) (HW : sS (gd w) h n r W) (h8 : 0 ≤ s 8 ∧ s 8 ≤ l.length) : xI fm 102 (ko w s p ar v h) n [.ref 49, .ref r] (fun z h' n' u' => ∃ h1 s', h' = ko w s' p ar v h1 ∧ RR [8] [] (8 + 3 * W.length) 5 w s p h n t kc w s' p h1 n' t kc u' ∧ z = xb (skM l (s 8) W) ∧ s' 8 = if skM l (s 8) W = true then s 8 + W.length else s 8) := by
  have HE := sS_ko (s := s) (p := p) (ar := ar) (v := v) (C.1 (1, []) (by decide))
  have G := sS_ko (s := s) (p := p) (ar := ar) (v := v) H
  have GW := sS_ko (s := s) (p := p) (ar := ar) (v := v) HW
  have W0 := K.1.1
  obtain ⟨b, x, y, e1, e2, e3, e4, e5, e6, e7, e8⟩ := G
  obtain ⟨b', x', y', g1, g2, g3, g4, g5, g6, g7, g8⟩ := GW
  have G := sS_ko (s := s) (p := p) (ar := ar) (v := v) H
  have GW := sS_ko (s := s) (p := p) (ar := ar) (v := v) HW
  unfold xI
  refine xe_s (f := (1, _, _, _)) xt_g102 rfl rfl rfl rfl rfl ?_
  refine xe_gf xt_g102 rfl (q := 4) rfl (xf_2_33 fm) (ko_49) (by omega) rfl rfl ?_
  refine xe_s (f := (5, _, _, _)) xt_g102 rfl rfl rfl rfl rfl ?_
  refine xe_cR xt_g102 rfl rfl rfl (q := 8) rfl (kc_V xk_2_64 rfl (g1) (by omega) rfl rfl) xt_g31 (by decide) ⟨Nat.le_of_ble_eq_true rfl, Nat.le_of_ble_eq_true rfl, Nat.le_of_ble_eq_true rfl⟩ (s31 GW) ?_
  refine xe_iadd xt_g102 rfl (q := 9) rfl ?_
  refine xe_s (f := (10, [(2, _), (0, _), (1, _)], _, _)) xt_g102 rfl rfl rfl rfl rfl ?_
  refine xe_s (f := (11, _, _, _)) xt_g102 rfl rfl rfl rfl rfl ?_
  refine xe_s (f := (12, _, _, _)) xt_g102 rfl rfl rfl rfl rfl ?_
  refine xe_gf xt_g102 rfl (q := 15) rfl (xf_2_20 fm) (ko_49) (by omega) rfl rfl ?_
  refine xe_cR xt_g102 rfl rfl rfl (q := 18) rfl (kc_V xk_2_64 rfl (e1) (by omega) rfl rfl) xt_g31 (by decide) ⟨Nat.le_of_ble_eq_true rfl, Nat.le_of_ble_eq_true rfl, Nat.le_of_ble_eq_true rfl⟩ (s31 G) ?_
  refine xe_ic_gt xt_g102 rfl (t := 43) rfl (q := 21) rfl (by first | omega | exact xb_r _) (by first | omega | exact xb_r _) (fun b18 => ?_) (fun b18 => ?_)
  · try simp only [xb_0, xb_1, ne_eq, Decidable.not_not, Bool.not_eq_false, Bool.not_eq_true, decide_eq_true_eq, decide_eq_false_iff_not] at b18
    refine xe_s (f := (44, _, xi 0 :: _, _)) xt_g102 rfl rfl rfl rfl rfl ?_
    refine xe_iret xt_g102 rfl rfl (xi_bool (by first | omega | exact xb_or _)).1 ?_
    try dsimp only
    have e : skM l (s 8) W = false := decide_eq_false (fun g => by omega)
    rw [e]
    exact ⟨0, rfl, h, s, rfl, RR_ke K ke_refl (fun _ _ => rfl) (fun _ _ => rfl) (by omega) (by omega), rfl, rfl⟩
  · try simp only [xb_0, xb_1, ne_eq, Decidable.not_not, Bool.not_eq_false, Bool.not_eq_true, decide_eq_true_eq, decide_eq_false_iff_not] at b18
    refine xe_s (f := (22, _, _, _)) xt_g102 rfl rfl rfl rfl rfl ?_
    refine xe_gf xt_g102 rfl (q := 25) rfl (xf_2_20 fm) (ko_49) (by omega) rfl rfl ?_
    refine xe_s (f := (26, _, _, _)) xt_g102 rfl rfl rfl rfl rfl ?_
    refine xe_gf xt_g102 rfl (q := 29) rfl (xf_2_33 fm) (ko_49) (by omega) rfl rfl ?_
    refine xe_s (f := (30, _, _, _)) xt_g102 rfl rfl rfl rfl rfl ?_
    refine xe_cA xt_g102 rfl rfl rfl (q := 33) rfl (kc_V xk_2_70 rfl (e1) (by omega) rfl rfl) xt_g103 (by decide) ⟨Nat.le_of_ble_eq_true rfl, Nat.le_of_ble_eq_true rfl, Nat.le_of_ble_eq_true rfl⟩ (s103 hfm (by omega) HE G h8.1 (by omega) (by omega)) (fun x1 h1 n1 c1 u1 hp => ?_)
    obtain ⟨h2, rfl, k1, S1⟩ := ko_lift K.1 hp.2.1
    have N1 := k1.1
    have S2 := S1 _ _ hp.1
    have K1 := KW_ke K k1
    have C1 := cst_kp C K.1 (ke_kp k1)
    have HE1 := sS_ko (s := s) (p := p) (ar := ar) (v := v) (C1.1 (1, []) (by decide))
    refine xe_cA xt_g102 rfl rfl rfl (q := 36) rfl (kc_S xk_2_74 (Nat.le_of_ble_eq_true rfl)) xt_g72 (by decide) ⟨Nat.le_of_ble_eq_true rfl, Nat.le_of_ble_eq_true rfl, Nat.le_of_ble_eq_true rfl⟩ (s72x (by omega) HE1 (sS_ko S2)) (fun x2 h3 n3 c3 u3 hq => ?_)
    obtain ⟨h4, rfl, k2, S3⟩ := ko_lift K1.1 hq.2.1
    have N2 := k2.1
    have S4 := S3 _ _ hq.1
    have GW1 := sS_ko (s := s) (p := p) (ar := ar) (v := v) (sS_ke (sS_ke HW k1) k2)
    have G4 := sS_ko (s := s) (p := p) (ar := ar) (v := v) S4
    have sn := sl_len h8.1 (show s 8 ≤ s 8 + W.length by omega) (show s 8 + (W.length : Int) ≤ l.length by omega)
    obtain ⟨bb, xx, yy, f1, f2, f3, f4, f5, f6, f7, f8⟩ := G4
    have G4 := sS_ko (s := s) (p := p) (ar := ar) (v := v) S4
    refine xe_s (f := (37, _, _, _)) xt_g102 rfl rfl rfl rfl rfl ?_
    refine xe_cR xt_g102 rfl rfl rfl (q := 40) rfl (kc_V xk_2_78 rfl (f1) (by omega) rfl rfl) xt_g92 (by decide) ⟨Nat.le_of_ble_eq_true rfl, Nat.le_of_ble_eq_true rfl, Nat.le_of_ble_eq_true rfl⟩ (s92 G4 GW1) ?_
    refine xe_if_ne xt_g102 rfl (t := 45) rfl (q := 43) rfl (by first | omega | exact xb_r _) (fun b40 => ?_) (fun b40 => ?_)
    · try simp only [xb_0, xb_1, ne_eq, Decidable.not_not, Bool.not_eq_false, Bool.not_eq_true, decide_eq_true_eq, decide_eq_false_iff_not] at b40
      refine xe_s (f := (46, _, _, _)) xt_g102 rfl rfl rfl rfl rfl ?_
      refine xe_s (f := (47, _, _, _)) xt_g102 rfl rfl rfl rfl rfl ?_
      refine xe_kp_2_2 xt_g102 rfl (q := 50) rfl (xf_2_33 fm) (by omega) ?_
      refine xe_s (f := (51, _, xi 1 :: _, _)) xt_g102 rfl rfl rfl rfl rfl ?_
      refine xe_iret xt_g102 rfl rfl (xi_bool (by first | omega | exact xb_or _)).1 ?_
      try dsimp only
      have e : skM l (s 8) W = true := decide_eq_true ⟨by omega, b40⟩
      rw [e]
      refine ⟨1, rfl, h4, xo_u s 8 (s 8 + W.length), rfl, RR_ke K (ke_trans k1 k2) (fun k hk => xo_uN (fun e => hk (by rw [e]; decide))) (fun _ _ => rfl) ?_ ?_, rfl, rfl⟩
      · have := hp.2.2.1
        have := hq.2.2.1
        omega
      · have := hp.2.2.2
        have := hq.2.2.2
        omega
    · try simp only [xb_0, xb_1, ne_eq, Decidable.not_not, Bool.not_eq_false, Bool.not_eq_true, decide_eq_true_eq, decide_eq_false_iff_not] at b40
      refine xe_s (f := (44, _, xi 0 :: _, _)) xt_g102 rfl rfl rfl rfl rfl ?_
      refine xe_iret xt_g102 rfl rfl (xi_bool (by first | omega | exact xb_or _)).1 ?_
      try dsimp only
      have e : skM l (s 8) W = false := decide_eq_false (fun g => b40 g.2)
      rw [e]
      refine ⟨0, rfl, h4, s, rfl, RR_ke K (ke_trans k1 k2) (fun _ _ => rfl) (fun _ _ => rfl) ?_ ?_, rfl, rfl⟩
      · have := hp.2.2.1
        have := hq.2.2.1
        omega
      · have := hp.2.2.2
        have := hq.2.2.2
        omega
end XB0
