/-! navigations begin -/
section XBL
variable {fm : Value} {w w' w1 w2 : kW} {s s' s1 s2 : Nat → Int} {p p' p1 p2 : Nat → Nat} {ar ar' : Nat → Nat → Option Nat} {v : Nat → Int} {h h' h1 h2 : xm_H} {n n' n1 n2 r k k' u' u1 u2 x y a R : Nat} {l D W P N V : List Int} {L : List (List Int)} {A B : pa_A} {q : mq_T} {f : ck_T} {C : List ck_T} {t t' t1 t2 : Nat → List Int} {kc kc' kc1 kc2 : Nat → Nat} {u : mu_T} {dp : Nat → Nat} {fx : Nat → Option Nat} {m : ms_T} {M : List ms_T} {O : List pa_A} {fr : Nat → Option mf_T} {rq : Nat → Option mq_T}
theorem fq_eq (H : cB w s p ar v h n u dp 24) : xd_first (fun j => (ar 4 j.toNat).isNone) 24 0 = mu_fq u := by
  obtain ⟨a1, a2, a3, a4, a5, a6, a7, a8, a9, a10, a11, a12, a13⟩ := H
  refine xd_first_c 24 0 (fun j h0 h1 => ?_)
  cases e : mu_rq u j.toNat with
  | none => rw [(a11 j.toNat (by omega) (by omega)).1 e]; rfl
  | some q =>
    obtain ⟨y, b1, _⟩ := (a11 j.toNat (by omega) (by omega)).2 q e
    rw [b1]
    rfl
theorem ff_eq (H : cB w s p ar v h n u dp R) : xd_first (fun j => (ar 3 j.toNat).isNone) 16 0 = mu_ff u := by
  obtain ⟨a1, a2, a3, a4, a5, a6, a7, a8, a9, a10, a11, a12, a13⟩ := H
  refine xd_first_c 16 0 (fun j h0 h1 => ?_)
  cases e : mu_fr u j.toNat with
  | none => rw [(a10 j.toNat (by omega)).1 e]; rfl
  | some q =>
    obtain ⟨y, b1, _⟩ := (a10 j.toNat (by omega)).2 q e
    rw [b1]
    rfl
/-- after the old navigation is gone -/
theorem k131_b (hfm : fm = .null ∨ ∃ j, fm = .ref j) (K : KW w h n t kc) (H : cB w s p ar v h n u dp 24) {F fo d : Nat} {X : mf_T} (hF : F < 16) (hfo : ar 3 F = some fo) (HO : frO w h n (ar 3) F X d fo) (HA : aO w h n a A) (hC : (mu_ck u).length ≤ 40) (ht : 0 ≤ mu_tm u ∧ mu_tm u ≤ 1000000000) (lt1 : (t 1).length ≤ 2000) {c : Nat} : xe fm 131 (20, [(0, .ref 44), (1, .ref fo), (2, .ref a)], [], (ko w s p ar v h, n, c, 0)) (fun q' M => ∃ z : Int, q' = .inl (some (xi z)) ∧ z = (if mu_fq u < 0 then (-1, u) else (mu_fq u, mu_send u (mu_fq u).toNat (F, none, 0, A, none))).1 ∧ ∃ w' s' ar' h1 t' kc', M.1 = ko w' s' p ar' v h1 ∧ RT 220 4 w h n kc w' h1 M.2.1 t' kc' M.2.2.2 ∧ (t' 0 = t 0 ∧ t' 2 = t 2 ∧ (t' 1).length ≤ 2000) ∧ (∀ k, k ≠ 6 → s' k = s k) ∧ (∀ k, k ≠ 1 → k ≠ 4 → k ≠ 7 → ar' k = ar k) ∧ cB w' s' p ar' v h1 M.2.1 (if mu_fq u < 0 then (-1, u) else (mu_fq u, mu_send u (mu_fq u).toNat (F, none, 0, A, none))).2 dp 24) := by
  have W0 := K.1.1
  have fr1 := xd_first_r (p := fun j => (mu_rq u j.toNat).isNone) 24 0
  have fr2 : xd_first (fun j => (mu_rq u j.toNat).isNone) 24 0 = mu_fq u := rfl
  rw [fr2] at fr1
  have HO' := HO
  obtain ⟨fad, b1, b2, b3, b4, b5⟩ := HO
  refine xe_s (f := (21, _, _, _)) xt_g131 rfl rfl rfl rfl rfl ?_
  refine xe_cR xt_g131 rfl rfl rfl (q := 24) rfl (kc_V xk_0_138 rfl (ko_44) (by omega) rfl rfl) xt_g128 (by decide) ⟨Nat.le_of_ble_eq_true rfl, Nat.le_of_ble_eq_true rfl, Nat.le_of_ble_eq_true rfl⟩ (k128 (by omega)) ?_
  rw [fq_eq H]
  refine xe_s (f := (26, [(4, _), (0, _), (1, _), (2, _)], _, _)) xt_g131 rfl rfl rfl rfl rfl ?_
  refine xe_s (f := (28, _, _, _)) xt_g131 rfl rfl rfl rfl rfl ?_
  refine xe_s (f := (29, _, xi (-1) :: _, _)) xt_g131 rfl rfl rfl rfl rfl ?_
  refine xe_ic_ne xt_g131 rfl (t := 36) rfl (q := 32) rfl (by first | omega | exact xb_r _) (by first | omega | exact xb_r _) (fun b29 => ?_) (fun b29 => ?_)
  · try simp only [xb_0, xb_1, ne_eq, Decidable.not_not, Bool.not_eq_false, Bool.not_eq_true, decide_eq_true_eq, decide_eq_false_iff_not] at b29
    rw [if_neg (show ¬ mu_fq u < 0 by omega)]
    have hR : (mu_fq u).toNat < 24 := by omega
    refine xe_s (f := (37, _, _, _)) xt_g131 rfl rfl rfl rfl rfl ?_
    refine xe_new (k := 10) (fs := [xi 0, .null, xi 0, xi 0, .null, .null, xi 0, xi 0, .null, xi 0]) xt_g131 rfl rfl (q := 40) rfl (xn_0_48 fm) rfl rfl rfl ?_
    rw [ko_new (by omega)]
    refine xe_s (f := (41, _, _, _)) xt_g131 rfl rfl rfl rfl rfl ?_
    refine xe_s (f := (43, _, _, _)) xt_g131 rfl rfl rfl rfl rfl ?_
    refine xe_s (f := (44, _, _, _)) xt_g131 rfl rfl rfl rfl rfl ?_
    refine xe_s (f := (45, _, _, _)) xt_g131 rfl rfl rfl rfl rfl ?_
    refine xe_s (f := (46, _, xi (-1) :: _, _)) xt_g131 rfl rfl rfl rfl rfl ?_
    refine xe_s (f := (47, _, xi 1 :: _, _)) xt_g131 rfl rfl rfl rfl rfl ?_
    refine xe_cN xt_g131 rfl rfl rfl (q := 50) rfl (kc_P xk_0_190 rfl) xt_g134 (by decide) ⟨Nat.le_of_ble_eq_true rfl, Nat.le_of_ble_eq_true rfl, Nat.le_of_ble_eq_true rfl⟩ (k134 (ak := fad) (b := true) ((ko_d (Or.inr (Or.inr (Or.inr (Or.inr (by omega)))))).trans va_up_s) (by omega) (by omega) ((ko_d b2.1).trans ((va_up_n (by omega)).trans b1)) (by omega) (by omega)) (fun h3' n3 c3 u3 hs => ?_)
    obtain ⟨e1, e2, e3⟩ := hs
    subst e1
    rw [ko_new (by omega), va_uu, e2, e3]
    have kE : ke h n (va_up h n (.inr (10, [xi (mu_fq u), .ref fo, xi (-1), xi (xb true), va_rf fad, .ref a, xi 0, xi 0, .null, xi 0]))) (n + 1) := ke_up (Nat.le_refl _) (by omega)
    have HQ : rqO w (va_up h n (.inr (10, [xi (mu_fq u), .ref fo, xi (-1), xi (xb true), va_rf fad, .ref a, xi 0, xi 0, .null, xi 0]))) (n + 1) (ar 3) (mu_fq u).toNat ((F : Int), none, 0, A, none) n := by
      refine ⟨fo, a, fad, none, false, false, ?_, gd_n K.1 (Nat.le_refl _), by omega, by omega, by rw [show ((F : Int)).toNat = F from Int.toNat_natCast F]; exact hfo, aO_kp HA (ke_kp kE), fun y e => (by cases e), ⟨rfl, rfl⟩, by dsimp only; omega, by dsimp only; omega⟩
      rw [show (((mu_fq u).toNat : Nat) : Int) = mu_fq u by omega]
      exact va_up_s
    have H1 := cB_x (R := (mu_fq u).toNat) (cB_kp (s' := s) (p' := p) (ar' := ar) H K.1 (ke_kp kE) (fun _ _ _ _ => rfl) rfl (fun _ _ => rfl))
    refine xe_cI xt_g131 rfl rfl rfl (q := 53) rfl (kc_V xk_0_193 rfl (ko_44) (by omega) rfl rfl) xt_g135 (by decide) ⟨Nat.le_of_ble_eq_true rfl, Nat.le_of_ble_eq_true rfl, Nat.le_of_ble_eq_true rfl⟩ (k135 (q := ((F : Int), none, 0, A, none)) (X := X) (d := d) (fo := fo) hfm (KW_ke K kE) H1 hR HQ (by rw [show ((F : Int)).toNat = F from Int.toNat_natCast F]; exact frO_kp HO' (ke_kp kE)) (by rw [show ((F : Int)).toNat = F from Int.toNat_natCast F]; exact hfo) (by show (0 : Int) ≤ (F : Int); omega) hC ht lt1) (fun z4 h4' n4 c4 u4 hp => ?_)
    refine xe_iret xt_g131 rfl rfl xi_int.1 ?_
    try dsimp only
    obtain ⟨ez, w5, s5, ar5, h5, t5, kc5, g1, g2, g3, g4, g5, g6⟩ := hp
    refine ⟨z4, rfl, by rw [ez]; show ((mu_fq u).toNat : Int) = mu_fq u; omega, w5, s5, ar5, h5, t5, kc5, g1, RT_mono (RT_trans (RT_ke (B := 10) (C := 1) (u' := 10) K kE (Nat.le_refl _) (Nat.le_refl _)) g2) (by omega) (by omega) (by omega), g3, g4, g5, g6⟩
  · try simp only [xb_0, xb_1, ne_eq, Decidable.not_not, Bool.not_eq_false, Bool.not_eq_true, decide_eq_true_eq, decide_eq_false_iff_not] at b29
    rw [if_pos (show mu_fq u < 0 by omega)]
    refine xe_s (f := (33, _, xi (-1) :: _, _)) xt_g131 rfl rfl rfl rfl rfl ?_
    refine xe_s (f := (53, _, _, _)) xt_g131 rfl rfl rfl rfl rfl ?_
    refine xe_iret xt_g131 rfl rfl xi_int.1 ?_
    try dsimp only
    exact ⟨-1, rfl, rfl, w, s, ar, h, t, kc, rfl, RT_ke K ke_refl (by omega) (by omega), ⟨rfl, rfl, lt1⟩, fun _ _ => rfl, fun _ _ _ _ => rfl, H⟩
/-- beginNavigation -/
theorem k131 (hfm : fm = .null ∨ ∃ j, fm = .ref j) (K : KW w h n t kc) (H : cB w s p ar v h n u dp 24) (I : mI u dp) {F fo d : Nat} {X : mf_T} (hF : F < 16) (hfo : ar 3 F = some fo) (HO : frO w h n (ar 3) F X d fo) (HA : aO w h n a A) (hC : (mu_ck u).length ≤ 40) (ht : 0 ≤ mu_tm u ∧ mu_tm u ≤ 1000000000) (lt1 : (t 1).length ≤ 2000) : xI fm 131 (ko w s p ar v h) n [.ref 44, .ref fo, .ref a] (fun z h' n' u' => z = (mu_go u F A).1 ∧ ∃ w' s' ar' h1 t' kc', h' = ko w' s' p ar' v h1 ∧ RT 220 4 w h n kc w' h1 n' t' kc' u' ∧ (t' 0 = t 0 ∧ t' 2 = t 2 ∧ (t' 1).length ≤ 2000) ∧ (∀ k, k ≠ 6 → s' k = s k) ∧ (∀ k, k ≠ 1 → k ≠ 4 → k ≠ 7 → ar' k = ar k) ∧ cB w' s' p ar' v h1 n' (mu_go u F A).2 dp 24) := by
  have W0 := K.1.1
  have H' := H
  obtain ⟨a1, a2, a3, a4, a5, a6, a7, a8, a9, a10, a11, a12, a13⟩ := H
  have nv1 := xd_first_r (p := fun j => mq_nv F (mu_rq u j.toNat)) 24 0
  have nv2 : xd_first (fun j => mq_nv F (mu_rq u j.toNat)) 24 0 = mu_nv u F := rfl
  rw [nv2] at nv1
  have k132' := k132 (fm := fm) (s := s) (p := p) (v := v) (by omega) a10 a11 I hF hfo HO
  unfold xI mu_go
  rcases nv1 with e | ⟨e1, e2, e3⟩
  · rw [e, if_neg (by omega)] at k132'
    have eg : mu_go1 u F = u := by unfold mu_go1; rw [if_neg (by omega)]
    rw [eg]
    refine xe_s (f := (1, _, _, _)) xt_g131 rfl rfl rfl rfl rfl ?_
    refine xe_s (f := (2, _, _, _)) xt_g131 rfl rfl rfl rfl rfl ?_
    refine xe_cR xt_g131 rfl rfl rfl (q := 5) rfl (kc_V xk_0_336 rfl (ko_44) (by omega) rfl rfl) xt_g132 (by decide) ⟨Nat.le_of_ble_eq_true rfl, Nat.le_of_ble_eq_true rfl, Nat.le_of_ble_eq_true rfl⟩ (k132') ?_
    refine xe_s (f := (6, [(3, _), (0, _), (1, _), (2, _)], _, _)) xt_g131 rfl rfl rfl rfl rfl ?_
    refine xe_s (f := (7, _, _, _)) xt_g131 rfl rfl rfl rfl rfl ?_
    refine xe_s (f := (20, _, _, _)) xt_g131 rfl rfl rfl rfl rfl ?_
    exact xe_loc (by intro q hq; simp only [List.mem_cons, List.not_mem_nil, or_false] at hq; rcases hq with rfl | rfl | rfl <;> rfl) ((k131_b hfm K H' hF hfo HO HA hC ht lt1))
  · obtain ⟨q, eq⟩ : ∃ q, mu_rq u (mu_nv u F).toNat = some q := by
      cases g : mu_rq u (mu_nv u F).toNat with
      | none => rw [g] at e3; cases e3
      | some q => exact ⟨q, rfl⟩
    obtain ⟨yy, e4, HR⟩ := (a11 (mu_nv u F).toNat (by omega) (by omega)).2 q eq
    obtain ⟨fo', ad, ak, lf, la, lw, b1, b2, b3, b4, _⟩ := HR
    have X1 := (ko_d (w := w) (s := s) (p := p) (ar := ar) (v := v) b2.1).trans b1
    rw [if_pos (by omega), e4] at k132'
    have eg : mu_go1 u F = mu_srq u (mu_up (mu_rq u) (mu_nv u F).toNat none) := if_pos (by omega)
    rw [eg]
    have H1 := cB_rq (R := (mu_nv u F).toNat) (o := none) (oq := none) (cB_x H') (fun _ => rfl) (fun q g => by cases g)
    refine xe_s (f := (1, _, _, _)) xt_g131 rfl rfl rfl rfl rfl ?_
    refine xe_s (f := (2, _, _, _)) xt_g131 rfl rfl rfl rfl rfl ?_
    refine xe_cR xt_g131 rfl rfl rfl (q := 5) rfl (kc_V xk_0_336 rfl (ko_44) (by omega) rfl rfl) xt_g132 (by decide) ⟨Nat.le_of_ble_eq_true rfl, Nat.le_of_ble_eq_true rfl, Nat.le_of_ble_eq_true rfl⟩ (k132') ?_
    refine xe_s (f := (6, [(3, _), (0, _), (1, _), (2, _)], _, _)) xt_g131 rfl rfl rfl rfl rfl ?_
    refine xe_s (f := (7, _, _, _)) xt_g131 rfl rfl rfl rfl rfl ?_
    refine xe_s (f := (10, _, _, _)) xt_g131 rfl rfl rfl rfl rfl ?_
    refine xe_s (f := (11, _, _, _)) xt_g131 rfl rfl rfl rfl rfl ?_
    refine xe_gf xt_g131 rfl (q := 14) rfl (xf_0_50 fm) (ko_44) (by omega) rfl rfl ?_
    refine xe_s (f := (15, _, _, _)) xt_g131 rfl rfl rfl rfl rfl ?_
    refine xe_gf xt_g131 rfl (q := 18) rfl (xf_0_340 fm) (X1) (by omega) rfl rfl ?_
    refine xe_s (f := (19, _, _, _)) xt_g131 rfl rfl rfl rfl rfl ?_
    refine xe_kn_58 xt_g131 rfl (q := 20) rfl (by omega) (by omega) (by omega) ?_
    refine xe_mono (xe_loc (by intro q hq; simp only [List.mem_cons, List.not_mem_nil, or_false] at hq; rcases hq with rfl | rfl | rfl <;> rfl) ((k131_b hfm K H1 hF (by rw [aw_n (by decide)]; exact hfo) (by rw [aw_n (by decide)]; exact HO) HA hC ht lt1))) (fun r M hM => ?_)
    obtain ⟨z, g1, g2, w5, s5, ar5, h5, t5, kc5, g3, g4, g5, g6, g7, g8⟩ := hM
    exact ⟨z, g1, g2, w5, s5, ar5, h5, t5, kc5, g3, g4, g5, g6, fun k h1 h4 h7 => (g7 k h1 h4 h7).trans (aw_n h4), g8⟩
end XBL
