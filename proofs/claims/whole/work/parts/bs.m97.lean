/-! calls: about, bar, focus, storage -/
section XBS
variable {fm : Value} {w w' w1 w2 : kW} {s s' s1 s2 : Nat → Int} {p p' p1 p2 : Nat → Nat} {ar ar' : Nat → Nat → Option Nat} {v : Nat → Int} {h h' h1 h2 : xm_H} {n n' n1 n2 r k k' u' u1 u2 x y a b R : Nat} {l D : List Int} {L : List (List Int)} {A B : pa_A} {q : mq_T} {t t' t1 t2 : Nat → List Int} {kc kc' kc1 kc2 : Nat → Nat} {u : mu_T} {dp : Nat → Nat} {fx : Nat → Option Nat} {m : ms_T} {M : List ms_T} {O : List pa_A} {fr : Nat → Option mf_T} {rq : Nat → Option mq_T} {F fo G go d : Nat} {X Y : mf_T}
/-- aboutRequest -/
theorem k153 (H : cB w s p ar v h n u dp 24) (I : mI u dp) {f z : Int} (e : mu_ir u f = true) (hz : xr z) (e4 : ar 4 f.toNat = some y) : xR fm 153 (ko w s p ar v h) n [.ref y, xi z] (some (xi (mu_abr u f z))) := by
  obtain ⟨q, y', f0, f1, eq, e4', HR⟩ := at_rq H e
  rw [e4] at e4'
  cases e4'
  obtain ⟨i1, i2, i3⟩ := I.2.1 f.toNat (by omega) q eq
  obtain ⟨X, eX⟩ := Option.isSome_iff_exists.mp i3
  obtain ⟨a1, a2, a3, a4, a5, a6, a7, a8, a9, a10, a11, a12, a13⟩ := H
  obtain ⟨fo, e3, HO⟩ := (a10 q.1.toNat (by omega)).2 X eX
  have HR' := HR
  obtain ⟨fo', ad, ak, lf, la, lw, b1, b2, b3, b4, b5, _⟩ := HR
  rw [e3] at b5
  cases b5
  have X1 := (ko_d (w := w) (s := s) (p := p) (ar := ar) (v := v) b2.1).trans b1
  obtain ⟨fad, c1, c2, c3, c4, c5⟩ := HO
  have X2 := (ko_d (w := w) (s := s) (p := p) (ar := ar) (v := v) c2.1).trans c1
  have eb : mu_abr u f z = if z = 5 then q.1 else xb q.2.1.isSome := by
    unfold mu_abr
    rw [eq]
    dsimp only
    rw [if_pos e]
  unfold xR
  rw [eb]
  refine xe_s (f := (1, _, _, _)) xt_g153 rfl rfl rfl rfl rfl ?_
  refine xe_s (f := (6, _, _, _)) xt_g153 rfl rfl rfl rfl rfl ?_
  refine xe_s (f := (7, _, _, _)) xt_g153 rfl rfl rfl rfl rfl ?_
  refine xe_s (f := (8, _, xi 5 :: _, _)) xt_g153 rfl rfl rfl rfl rfl ?_
  refine xe_ic_ne xt_g153 rfl (t := 19) rfl (q := 11) rfl (by first | omega | exact xb_r _) (by first | omega | exact xb_r _) (fun b8 => ?_) (fun b8 => ?_)
  · try simp only [xb_0, xb_1, ne_eq, Decidable.not_not, Bool.not_eq_false, Bool.not_eq_true, decide_eq_true_eq, decide_eq_false_iff_not] at b8
    rw [if_neg b8]
    refine xe_s (f := (20, _, _, _)) xt_g153 rfl rfl rfl rfl rfl ?_
    refine xe_cR xt_g153 rfl rfl rfl (q := 23) rfl (kc_V xk_0_201 rfl (X1) (by omega) rfl rfl) xt_g133 (by decide) ⟨Nat.le_of_ble_eq_true rfl, Nat.le_of_ble_eq_true rfl, Nat.le_of_ble_eq_true rfl⟩ (k133 HR') ?_
    refine xe_if_eq xt_g153 rfl (t := 30) rfl (q := 26) rfl (by first | omega | exact xb_r _) (fun b23 => ?_) (fun b23 => ?_)
    · try simp only [xb_0, xb_1, ne_eq, Decidable.not_not, Bool.not_eq_false, Bool.not_eq_true, decide_eq_true_eq, decide_eq_false_iff_not] at b23
      rw [b23]
      refine xe_s (f := (31, _, xi 0 :: _, _)) xt_g153 rfl rfl rfl rfl rfl ?_
      refine xe_iret xt_g153 rfl rfl xi_int.1 ?_
      exact ⟨rfl, rfl⟩
    · try simp only [xb_0, xb_1, ne_eq, Decidable.not_not, Bool.not_eq_false, Bool.not_eq_true, decide_eq_true_eq, decide_eq_false_iff_not] at b23
      rw [b23]
      refine xe_s (f := (27, _, xi 1 :: _, _)) xt_g153 rfl rfl rfl rfl rfl ?_
      refine xe_s (f := (31, _, _, _)) xt_g153 rfl rfl rfl rfl rfl ?_
      refine xe_iret xt_g153 rfl rfl xi_int.1 ?_
      exact ⟨rfl, rfl⟩
  · try simp only [xb_0, xb_1, ne_eq, Decidable.not_not, Bool.not_eq_false, Bool.not_eq_true, decide_eq_true_eq, decide_eq_false_iff_not] at b8
    rw [if_pos b8]
    refine xe_s (f := (12, _, _, _)) xt_g153 rfl rfl rfl rfl rfl ?_
    refine xe_gf xt_g153 rfl (q := 15) rfl (xf_0_212 fm) (X1) (by omega) rfl rfl ?_
    refine xe_gf xt_g153 rfl (q := 18) rfl (xf_0_216 fm) (X2) (by omega) rfl rfl ?_
    refine xe_iret xt_g153 rfl rfl xi_int.1 ?_
    try dsimp only
    rw [show ((q.1.toNat : Nat) : Int) = q.1 by omega]
    exact ⟨rfl, rfl⟩
theorem k153n {z : Int} : xR fm 153 (ko w s p ar v h) n [.null, xi z] (some (xi (-1))) := by
  unfold xR
  refine xe_s (f := (1, _, _, _)) xt_g153 rfl rfl rfl rfl rfl ?_
  refine xe_s (f := (4, _, _, _)) xt_g153 rfl rfl rfl rfl rfl ?_
  refine xe_s (f := (5, _, xi (-1) :: _, _)) xt_g153 rfl rfl rfl rfl rfl ?_
  refine xe_iret xt_g153 rfl rfl xi_int.1 ?_
  exact ⟨rfl, rfl⟩
/-- about -/
theorem c149 (S : cS w s p ar v h n t kc u dp) (I : mI u dp) (G : mG u) {z y : Int} (hz : xr z) (hy : xr y) : xR fm 149 (ko w s p ar v h) n [.ref 44, xi z, xi y] (some (xi (mu_about u z y))) := by
  obtain ⟨K, H, S1, S2, S3⟩ := S
  have W0 := K.1.1
  have H' := H
  obtain ⟨a1, a2, a3, a4, a5, a6, a7, a8, a9, a10, a11, a12, a13⟩ := H
  have tm := G.2.2.2.1
  rw [← a7] at tm
  unfold xR mu_about
  by_cases y0 : y = 0
  · subst y0
    rw [if_pos rfl]
    have k := k146 (fm := fm) (w := w) (s := s) (p := p) (ar := ar) (v := v) (h := h) (show 64 ≤ n by omega) hz
    cases e : mu_ht u z with
    | false =>
      rw [no_tp H' e] at k
      refine xe_s (f := (1, _, _, _)) xt_g149 rfl rfl rfl rfl rfl ?_
      refine xe_tsw xt_g149 rfl (t := 60) (by omega) (rfl) rfl ?_
      refine xe_s (f := (61, _, _, _)) xt_g149 rfl rfl rfl rfl rfl ?_
      refine xe_s (f := (62, _, _, _)) xt_g149 rfl rfl rfl rfl rfl ?_
      refine xe_cR xt_g149 rfl rfl rfl (q := 65) rfl (kc_V xk_0_160 rfl (ko_44) (by omega) rfl rfl) xt_g146 (by decide) ⟨Nat.le_of_ble_eq_true rfl, Nat.le_of_ble_eq_true rfl, Nat.le_of_ble_eq_true rfl⟩ (k) ?_
      refine xe_s (f := (66, [(3, _), (0, _), (1, _), (2, _)], _, _)) xt_g149 rfl rfl rfl rfl rfl ?_
      refine xe_s (f := (67, _, _, _)) xt_g149 rfl rfl rfl rfl rfl ?_
      refine xe_s (f := (70, _, _, _)) xt_g149 rfl rfl rfl rfl rfl ?_
      refine xe_s (f := (71, _, xi (-1) :: _, _)) xt_g149 rfl rfl rfl rfl rfl ?_
      refine xe_s (f := (78, _, _, _)) xt_g149 rfl rfl rfl rfl rfl ?_
      refine xe_iret xt_g149 rfl rfl xi_int.1 ?_
      exact ⟨rfl, rfl⟩
    | true =>
      obtain ⟨X, fo, z0, z1, t0, t1', eX, e2, e3, HO⟩ := at_tp H' I e
      obtain ⟨ad, b1, b2, b3, b4, b5⟩ := HO
      have X1 := (ko_d (w := w) (s := s) (p := p) (ar := ar) (v := v) b2.1).trans b1
      rw [if_pos ⟨z0, z1⟩, e2] at k
      refine xe_s (f := (1, _, _, _)) xt_g149 rfl rfl rfl rfl rfl ?_
      refine xe_tsw xt_g149 rfl (t := 60) (by omega) (rfl) rfl ?_
      refine xe_s (f := (61, _, _, _)) xt_g149 rfl rfl rfl rfl rfl ?_
      refine xe_s (f := (62, _, _, _)) xt_g149 rfl rfl rfl rfl rfl ?_
      refine xe_cR xt_g149 rfl rfl rfl (q := 65) rfl (kc_V xk_0_160 rfl (ko_44) (by omega) rfl rfl) xt_g146 (by decide) ⟨Nat.le_of_ble_eq_true rfl, Nat.le_of_ble_eq_true rfl, Nat.le_of_ble_eq_true rfl⟩ (k) ?_
      refine xe_s (f := (66, [(3, _), (0, _), (1, _), (2, _)], _, _)) xt_g149 rfl rfl rfl rfl rfl ?_
      refine xe_s (f := (67, _, _, _)) xt_g149 rfl rfl rfl rfl rfl ?_
      refine xe_s (f := (74, _, _, _)) xt_g149 rfl rfl rfl rfl rfl ?_
      refine xe_s (f := (75, _, _, _)) xt_g149 rfl rfl rfl rfl rfl ?_
      refine xe_gf xt_g149 rfl (q := 78) rfl (xf_0_216 fm) (X1) (by omega) rfl rfl ?_
      refine xe_iret xt_g149 rfl rfl xi_int.1 ?_
      try dsimp only
      rw [show (((mu_tp u z).toNat : Nat) : Int) = mu_tp u z by omega]
      exact ⟨rfl, rfl⟩
  · rw [if_neg y0]
    by_cases y1 : 0 < y ∧ y < 5
    · rw [if_pos y1]
      have k := k150 (fm := fm) (w := w) (s := s) (p := p) (ar := ar) (v := v) (h := h) (show 64 ≤ n by omega) hz
      have sw : (if y < 0 ∨ 10 < y then some (128 : Int) else (#[59, 78, 78, 78, 78, 89, 89, 99, 104, 112, 117] : Array Int)[(y - 0).toNat]?) = some 78 := by
        rcases (show y = 1 ∨ y = 2 ∨ y = 3 ∨ y = 4 by omega) with g | g | g | g <;> (subst g; rfl)
      cases e : mu_if u z with
      | false =>
        rw [no_fr H' e] at k
        have em : mu_abf u z y = -1 := by unfold mu_abf; rw [e]; rfl
        rw [em]
        refine xe_s (f := (1, _, _, _)) xt_g149 rfl rfl rfl rfl rfl ?_
        refine xe_tsw xt_g149 rfl (t := 79) (by omega) (sw) rfl ?_
        refine xe_s (f := (80, _, _, _)) xt_g149 rfl rfl rfl rfl rfl ?_
        refine xe_s (f := (81, _, _, _)) xt_g149 rfl rfl rfl rfl rfl ?_
        refine xe_s (f := (82, _, _, _)) xt_g149 rfl rfl rfl rfl rfl ?_
        refine xe_cR xt_g149 rfl rfl rfl (q := 85) rfl (kc_V xk_0_277 rfl (ko_44) (by omega) rfl rfl) xt_g150 (by decide) ⟨Nat.le_of_ble_eq_true rfl, Nat.le_of_ble_eq_true rfl, Nat.le_of_ble_eq_true rfl⟩ (k) ?_
        refine xe_s (f := (86, _, _, _)) xt_g149 rfl rfl rfl rfl rfl ?_
        refine xe_cR xt_g149 rfl rfl rfl (q := 89) rfl (kc_V xk_0_280 rfl (ko_44) (by omega) rfl rfl) xt_g151 (by decide) ⟨Nat.le_of_ble_eq_true rfl, Nat.le_of_ble_eq_true rfl, Nat.le_of_ble_eq_true rfl⟩ (k151n) ?_
        refine xe_iret xt_g149 rfl rfl xi_int.1 ?_
        exact ⟨rfl, rfl⟩
      | true =>
        obtain ⟨X, fo, f0, f1, eX, e3, HO⟩ := at_fr H' e
        rw [if_pos ⟨f0, f1⟩, e3] at k
        refine xe_s (f := (1, _, _, _)) xt_g149 rfl rfl rfl rfl rfl ?_
        refine xe_tsw xt_g149 rfl (t := 79) (by omega) (sw) rfl ?_
        refine xe_s (f := (80, _, _, _)) xt_g149 rfl rfl rfl rfl rfl ?_
        refine xe_s (f := (81, _, _, _)) xt_g149 rfl rfl rfl rfl rfl ?_
        refine xe_s (f := (82, _, _, _)) xt_g149 rfl rfl rfl rfl rfl ?_
        refine xe_cR xt_g149 rfl rfl rfl (q := 85) rfl (kc_V xk_0_277 rfl (ko_44) (by omega) rfl rfl) xt_g150 (by decide) ⟨Nat.le_of_ble_eq_true rfl, Nat.le_of_ble_eq_true rfl, Nat.le_of_ble_eq_true rfl⟩ (k) ?_
        refine xe_s (f := (86, _, _, _)) xt_g149 rfl rfl rfl rfl rfl ?_
        refine xe_cR xt_g149 rfl rfl rfl (q := 89) rfl (kc_V xk_0_280 rfl (ko_44) (by omega) rfl rfl) xt_g151 (by decide) ⟨Nat.le_of_ble_eq_true rfl, Nat.le_of_ble_eq_true rfl, Nat.le_of_ble_eq_true rfl⟩ (k151 (o := some fo) (by omega) H' I e (by omega) e3.symm) ?_
        refine xe_iret xt_g149 rfl rfl xi_int.1 ?_
        exact ⟨rfl, rfl⟩
    · rw [if_neg y1]
      by_cases y2 : y = 5 ∨ y = 6
      · rw [if_pos y2]
        have k := k152 (fm := fm) (w := w) (s := s) (p := p) (ar := ar) (v := v) (h := h) (show 64 ≤ n by omega) hz
        have sw : (if y < 0 ∨ 10 < y then some (128 : Int) else (#[59, 78, 78, 78, 78, 89, 89, 99, 104, 112, 117] : Array Int)[(y - 0).toNat]?) = some 89 := by
          rcases y2 with g | g <;> (subst g; rfl)
        cases e : mu_ir u z with
        | false =>
          rw [no_rq H' e] at k
          have em : mu_abr u z y = -1 := by
            unfold mu_abr
            cases mu_rq u z.toNat with
            | none => rfl
            | some q => dsimp only; rw [e]; rfl
          rw [em]
          refine xe_s (f := (1, _, _, _)) xt_g149 rfl rfl rfl rfl rfl ?_
          refine xe_tsw xt_g149 rfl (t := 90) (by omega) (sw) rfl ?_
          refine xe_s (f := (91, _, _, _)) xt_g149 rfl rfl rfl rfl rfl ?_
          refine xe_s (f := (92, _, _, _)) xt_g149 rfl rfl rfl rfl rfl ?_
          refine xe_cR xt_g149 rfl rfl rfl (q := 95) rfl (kc_V xk_0_283 rfl (ko_44) (by omega) rfl rfl) xt_g152 (by decide) ⟨Nat.le_of_ble_eq_true rfl, Nat.le_of_ble_eq_true rfl, Nat.le_of_ble_eq_true rfl⟩ (k) ?_
          refine xe_s (f := (96, _, _, _)) xt_g149 rfl rfl rfl rfl rfl ?_
          refine xe_cR xt_g149 rfl rfl rfl (q := 99) rfl (kc_S xk_0_286 (Nat.le_of_ble_eq_true rfl)) xt_g153 (by decide) ⟨Nat.le_of_ble_eq_true rfl, Nat.le_of_ble_eq_true rfl, Nat.le_of_ble_eq_true rfl⟩ (k153n) ?_
          refine xe_iret xt_g149 rfl rfl xi_int.1 ?_
          exact ⟨rfl, rfl⟩
        | true =>
          obtain ⟨q, yy, f0, f1, eq, e4, HR⟩ := at_rq H' e
          rw [if_pos ⟨f0, f1⟩, e4] at k
          refine xe_s (f := (1, _, _, _)) xt_g149 rfl rfl rfl rfl rfl ?_
          refine xe_tsw xt_g149 rfl (t := 90) (by omega) (sw) rfl ?_
          refine xe_s (f := (91, _, _, _)) xt_g149 rfl rfl rfl rfl rfl ?_
          refine xe_s (f := (92, _, _, _)) xt_g149 rfl rfl rfl rfl rfl ?_
          refine xe_cR xt_g149 rfl rfl rfl (q := 95) rfl (kc_V xk_0_283 rfl (ko_44) (by omega) rfl rfl) xt_g152 (by decide) ⟨Nat.le_of_ble_eq_true rfl, Nat.le_of_ble_eq_true rfl, Nat.le_of_ble_eq_true rfl⟩ (k) ?_
          refine xe_s (f := (96, _, _, _)) xt_g149 rfl rfl rfl rfl rfl ?_
          refine xe_cR xt_g149 rfl rfl rfl (q := 99) rfl (kc_S xk_0_286 (Nat.le_of_ble_eq_true rfl)) xt_g153 (by decide) ⟨Nat.le_of_ble_eq_true rfl, Nat.le_of_ble_eq_true rfl, Nat.le_of_ble_eq_true rfl⟩ (k153 H' I e hy e4) ?_
          refine xe_iret xt_g149 rfl rfl xi_int.1 ?_
          exact ⟨rfl, rfl⟩
      · rw [if_neg y2]
        by_cases y7 : y = 7
        · subst y7
          rw [if_pos rfl, ← a4]
          refine xe_s (f := (1, _, _, _)) xt_g149 rfl rfl rfl rfl rfl ?_
          refine xe_tsw xt_g149 rfl (t := 100) (by omega) (rfl) rfl ?_
          refine xe_s (f := (101, _, _, _)) xt_g149 rfl rfl rfl rfl rfl ?_
          refine xe_gf xt_g149 rfl (q := 104) rfl (xf_0_54 fm) (ko_44) (by omega) rfl rfl ?_
          refine xe_iret xt_g149 rfl rfl xi_int.1 ?_
          exact ⟨rfl, rfl⟩
        · rw [if_neg y7]
          by_cases y8 : y = 8
          · subst y8
            rw [if_pos rfl, ← a7]
            refine xe_s (f := (1, _, _, _)) xt_g149 rfl rfl rfl rfl rfl ?_
            refine xe_tsw xt_g149 rfl (t := 105) (by omega) (rfl) rfl ?_
            refine xe_s (f := (106, _, _, _)) xt_g149 rfl rfl rfl rfl rfl ?_
            refine xe_gf xt_g149 rfl (q := 109) rfl (xf_0_78 fm) (ko_44) (by omega) rfl rfl ?_
            refine xe_cR xt_g149 rfl rfl rfl (q := 112) rfl (kc_V xk_0_290 rfl (ko_59) (by omega) rfl rfl) xt_g154 (by decide) ⟨Nat.le_of_ble_eq_true rfl, Nat.le_of_ble_eq_true rfl, Nat.le_of_ble_eq_true rfl⟩ (k154 (by omega) a8 tm) ?_
            refine xe_iret xt_g149 rfl rfl xi_int.1 ?_
            exact ⟨rfl, rfl⟩
          · rw [if_neg y8]
            by_cases y9 : y = 9
            · subst y9
              rw [if_pos rfl, ← a3.1]
              refine xe_s (f := (1, _, _, _)) xt_g149 rfl rfl rfl rfl rfl ?_
              refine xe_tsw xt_g149 rfl (t := 113) (by omega) (rfl) rfl ?_
              refine xe_s (f := (114, _, _, _)) xt_g149 rfl rfl rfl rfl rfl ?_
              refine xe_gf xt_g149 rfl (q := 117) rfl (xf_0_293 fm) (ko_44) (by omega) rfl rfl ?_
              refine xe_iret xt_g149 rfl rfl xi_int.1 ?_
              exact ⟨rfl, rfl⟩
            · rw [if_neg y9]
              by_cases ya : y = 10
              · subst ya
                rw [if_pos rfl, ← a5.1]
                refine xe_s (f := (1, _, _, _)) xt_g149 rfl rfl rfl rfl rfl ?_
                refine xe_tsw xt_g149 rfl (t := 118) (by omega) (rfl) rfl ?_
                refine xe_s (f := (119, _, _, _)) xt_g149 rfl rfl rfl rfl rfl ?_
                refine xe_gf xt_g149 rfl (q := 122) rfl (xf_0_78 fm) (ko_44) (by omega) rfl rfl ?_
                refine xe_gf xt_g149 rfl (q := 125) rfl (xf_0_108 fm) (ko_59) (by omega) rfl rfl ?_
                refine xe_cR xt_g149 rfl rfl rfl (q := 128) rfl (kc_V xk_0_118 rfl (ko_60) (by omega) rfl rfl) xt_g95 (by decide) ⟨Nat.le_of_ble_eq_true rfl, Nat.le_of_ble_eq_true rfl, Nat.le_of_ble_eq_true rfl⟩ (k95 (by omega)) ?_
                refine xe_iret xt_g149 rfl rfl xi_int.1 ?_
                exact ⟨rfl, rfl⟩
              · rw [if_neg ya]
                refine xe_s (f := (1, _, _, _)) xt_g149 rfl rfl rfl rfl rfl ?_
                refine xe_tsw xt_g149 rfl (t := 129) (by omega) (if_pos (by omega)) rfl ?_
                refine xe_s (f := (130, _, xi (-1) :: _, _)) xt_g149 rfl rfl rfl rfl rfl ?_
                refine xe_iret xt_g149 rfl rfl xi_int.1 ?_
                exact ⟨rfl, rfl⟩
/-- focus -/
theorem c170 (S : cS w s p ar v h n t kc u dp) (I : mI u dp) {z : Int} (e : mu_ht u z = true) : xN fm 170 (ko w s p ar v h) n [.ref 44, xi z] (fun h' n' u' => cR 0 0 h n kc h' n' u' (mu_sfo u z) dp) := by
  obtain ⟨K, H, S1, S2, S3⟩ := S
  have W0 := K.1.1
  obtain ⟨X, fo, z0, z1, t0, t1', eX, e2, e3, HO⟩ := at_tp H I e
  obtain ⟨a1, a2, a3, a4, a5, a6, a7, a8, a9, a10, a11, a12, a13⟩ := H
  unfold xN
  refine xe_s (f := (1, _, _, _)) xt_g170 rfl rfl rfl rfl rfl ?_
  refine xe_s (f := (2, _, _, _)) xt_g170 rfl rfl rfl rfl rfl ?_
  refine xe_cR xt_g170 rfl rfl rfl (q := 5) rfl (kc_V xk_0_149 rfl (ko_44) (by omega) rfl rfl) xt_g164 (by decide) ⟨Nat.le_of_ble_eq_true rfl, Nat.le_of_ble_eq_true rfl, Nat.le_of_ble_eq_true rfl⟩ (k164 (by omega) ⟨z0, z1⟩ e2) ?_
  refine xe_s (f := (6, _, _, _)) xt_g170 rfl rfl rfl rfl rfl ?_
  refine xe_s (f := (7, _, _, _)) xt_g170 rfl rfl rfl rfl rfl ?_
  refine xe_s (f := (8, _, _, _)) xt_g170 rfl rfl rfl rfl rfl ?_
  refine xe_kp_0_10 xt_g170 rfl (q := 11) rfl (xf_0_54 fm) (by omega) ?_
  refine xe_ret xt_g170 rfl rfl ?_
  try dsimp only
  exact ⟨rfl, w, _, p, ar, v, h, t, kc, rfl, RU_0, K, ⟨a1, a2, msL_kp a3 kp_refl (xo_uN (by decide)) rfl, xo_uS, sfL_kp a5 kp_refl (xo_uN (by decide)) rfl, (xo_uN (by decide)).trans a6, (xo_uN (by decide)).trans a7, ckL_kp a8 kp_refl (xo_uN (by decide)) rfl, a9, a10, a11, orL_kp a12 kp_refl (xo_uN (by decide)) rfl, a13⟩, S1, S2, S3⟩
theorem c170x (S : cS w s p ar v h n t kc u dp) {z : Int} (hz : xr z) (e : mu_ht u z = false) : xX fm 170 (ko w s p ar v h) n [.ref 44, xi z] := by
  obtain ⟨K, H, S1, S2, S3⟩ := S
  have W0 := K.1.1
  unfold xX
  refine xe_s (f := (1, _, _, _)) xt_g170 rfl rfl rfl rfl rfl ?_
  refine xe_s (f := (2, _, _, _)) xt_g170 rfl rfl rfl rfl rfl ?_
  refine xe_cX xt_g170 rfl rfl rfl (q := 5) rfl (kc_V xk_0_149 rfl (ko_44) (by omega) rfl rfl) xt_g164 (by decide) ⟨Nat.le_of_ble_eq_true rfl, Nat.le_of_ble_eq_true rfl, Nat.le_of_ble_eq_true rfl⟩ (k164x (by omega) H hz e) rfl ?_
  exact ⟨rfl, rfl⟩
theorem c163x (S : cS w s p ar v h n t kc u dp) {z : Int} (hz : xr z) (e : mu_ht u z = false) : xX fm 163 (ko w s p ar v h) n [.ref 44, xi z] := by
  obtain ⟨K, H, S1, S2, S3⟩ := S
  have W0 := K.1.1
  unfold xX
  refine xe_s (f := (1, _, _, _)) xt_g163 rfl rfl rfl rfl rfl ?_
  refine xe_s (f := (2, _, _, _)) xt_g163 rfl rfl rfl rfl rfl ?_
  refine xe_cX xt_g163 rfl rfl rfl (q := 5) rfl (kc_V xk_0_149 rfl (ko_44) (by omega) rfl rfl) xt_g164 (by decide) ⟨Nat.le_of_ble_eq_true rfl, Nat.le_of_ble_eq_true rfl, Nat.le_of_ble_eq_true rfl⟩ (k164x (by omega) H hz e) rfl ?_
  exact ⟨rfl, rfl⟩
/-- what is shown changes -/
theorem cS_sh (S : cS w s p ar v h n t kc u dp) (HT : sS (gd w) h n r l) : cS w s (pu p 3 r) ar v h n t kc (mu_ssh u l) dp := by
  obtain ⟨K, ⟨a1, a2, a3⟩, S1, S2, S3⟩ := S
  exact ⟨K, ⟨a1, by rw [pu_s]; exact HT, a3⟩, S1, S2, S3⟩
/-- bar -/
theorem c147 (S : cS w s p ar v h n t kc u dp) (I : mI u dp) (G : mG u) : xI fm 147 (ko w s p ar v h) n [.ref 44] (fun z h' n' u' => z = (mu_bar u).1 ∧ cR 0 0 h n kc h' n' u' (mu_bar u).2 dp) := by
  have S' := S
  obtain ⟨K, H, S1, S2, S3⟩ := S
  have W0 := K.1.1
  have H' := H
  obtain ⟨a1, a2, a3, a4, a5, a6, a7, a8, a9, a10, a11, a12, a13⟩ := H
  have k := k146 (fm := fm) (w := w) (s := s) (p := p) (ar := ar) (v := v) (h := h) (k := s 7) (show 64 ≤ n by omega) (by have := G.2.2.2.2; omega)
  rw [a4] at k
  have done : ∀ (rr : Nat) (T : List Int), sS (gd w) h n rr T → mu_bart u = T → ∃ z : Int, (.inl (some (xi ((T.length : Nat) : Int))) : Option Value ⊕ Nat) = .inl (some (xi z)) ∧ z = (mu_bar u).1 ∧ cR 0 0 h n kc (ko w s (pu p 3 rr) ar v h) n 0 (mu_bar u).2 dp := by
    intro rr T HT eT
    refine ⟨_, rfl, ?_, w, s, _, ar, v, h, t, kc, rfl, RU_0, ?_⟩
    · show ((T.length : Nat) : Int) = (((mu_bart u).length : Nat) : Int)
      rw [eT]
    · show cS w s (pu p 3 rr) ar v h n t kc (mu_ssh u (mu_bart u)) dp
      rw [eT]
      exact cS_sh S' HT
  unfold xI
  by_cases f0 : 0 ≤ mu_fo u
  · obtain ⟨i1, i2⟩ := I.2.2.2.2.2.2 f0
    have eh : mu_ht u (mu_fo u) = true := by
      unfold mu_ht
      rw [decide_eq_true ⟨f0, i1⟩, i2]
      rfl
    obtain ⟨X, fo, z0, z1, t0, t1', eX, e2, e3, HO⟩ := at_tp H' I eh
    obtain ⟨ad, b1, b2, b3, b4, b5⟩ := HO
    have X1 := (ko_d (w := w) (s := s) (p := p) (ar := ar) (v := v) b2.1).trans b1
    rw [if_pos ⟨z0, z1⟩, e2] at k
    have ea : mu_ad u (mu_tp u (mu_fo u)) = X.2.2 := by unfold mu_ad; rw [eX]
    have et : mu_bart u = (match X.2.2 with | none => [] | some a => pa_text a) := by
      unfold mu_bart
      rw [if_pos ⟨f0, t0⟩, ea]
      rfl
    cases e : X.2.2 with
    | none =>
      rw [e] at b5 et
      have b5 : ad = none := b5
      subst b5
      refine xe_s (f := (1, _, _, _)) xt_g147 rfl rfl rfl rfl rfl ?_
      refine xe_s (f := (2, _, _, _)) xt_g147 rfl rfl rfl rfl rfl ?_
      refine xe_gf xt_g147 rfl (q := 5) rfl (xf_0_54 fm) (ko_44) (by omega) rfl rfl ?_
      rw [a4]
      refine xe_cR xt_g147 rfl rfl rfl (q := 8) rfl (kc_V xk_0_160 rfl (ko_44) (by omega) rfl rfl) xt_g146 (by decide) ⟨Nat.le_of_ble_eq_true rfl, Nat.le_of_ble_eq_true rfl, Nat.le_of_ble_eq_true rfl⟩ (k) ?_
      refine xe_s (f := (9, [(1, _), (0, _)], _, _)) xt_g147 rfl rfl rfl rfl rfl ?_
      refine xe_s (f := (10, _, _, _)) xt_g147 rfl rfl rfl rfl rfl ?_
      refine xe_s (f := (11, _, _, _)) xt_g147 rfl rfl rfl rfl rfl ?_
      refine xe_s (f := (14, _, _, _)) xt_g147 rfl rfl rfl rfl rfl ?_
      refine xe_s (f := (15, _, _, _)) xt_g147 rfl rfl rfl rfl rfl ?_
      refine xe_gf xt_g147 rfl (q := 18) rfl (xf_0_166 fm) (X1) (by omega) rfl rfl ?_
      refine xe_s (f := (21, _, _, _)) xt_g147 rfl rfl rfl rfl rfl ?_
      refine xe_s (f := (23, _, .ref 1 :: _, _)) xt_g147 rfl rfl rfl rfl rfl ?_
      refine xe_s (f := (33, _, _, _)) xt_g147 rfl rfl rfl rfl rfl ?_
      refine xe_cI xt_g147 rfl rfl rfl (q := 36) rfl (kc_V xk_0_256 rfl (ko_44) (by omega) rfl rfl) xt_g148 (by decide) ⟨Nat.le_of_ble_eq_true rfl, Nat.le_of_ble_eq_true rfl, Nat.le_of_ble_eq_true rfl⟩ (k148 (by omega) (a1.1 (1, []) (by decide))) (fun z1 h1' n1 c1 u1 hp => ?_)
      refine xe_iret xt_g147 rfl rfl xi_int.1 ?_
      try dsimp only
      obtain ⟨g1, g2, g3, g4⟩ := hp
      rw [g1, g2, g3, g4]
      exact done 1 [] (a1.1 (1, []) (by decide)) et
    | some A =>
      rw [e] at b5 et
      obtain ⟨xa, eq, HA⟩ := b5
      subst eq
      obtain ⟨ho, pp, qu, te, d1, d2, d3, d4, d5, d6, d7, d8, d9⟩ := HA
      have X2 := (ko_d (w := w) (s := s) (p := p) (ar := ar) (v := v) d2.1).trans d1
      refine xe_s (f := (1, _, _, _)) xt_g147 rfl rfl rfl rfl rfl ?_
      refine xe_s (f := (2, _, _, _)) xt_g147 rfl rfl rfl rfl rfl ?_
      refine xe_gf xt_g147 rfl (q := 5) rfl (xf_0_54 fm) (ko_44) (by omega) rfl rfl ?_
      rw [a4]
      refine xe_cR xt_g147 rfl rfl rfl (q := 8) rfl (kc_V xk_0_160 rfl (ko_44) (by omega) rfl rfl) xt_g146 (by decide) ⟨Nat.le_of_ble_eq_true rfl, Nat.le_of_ble_eq_true rfl, Nat.le_of_ble_eq_true rfl⟩ (k) ?_
      refine xe_s (f := (9, [(1, _), (0, _)], _, _)) xt_g147 rfl rfl rfl rfl rfl ?_
      refine xe_s (f := (10, _, _, _)) xt_g147 rfl rfl rfl rfl rfl ?_
      refine xe_s (f := (11, _, _, _)) xt_g147 rfl rfl rfl rfl rfl ?_
      refine xe_s (f := (14, _, _, _)) xt_g147 rfl rfl rfl rfl rfl ?_
      refine xe_s (f := (15, _, _, _)) xt_g147 rfl rfl rfl rfl rfl ?_
      refine xe_gf xt_g147 rfl (q := 18) rfl (xf_0_166 fm) (X1) (by omega) rfl rfl ?_
      refine xe_s (f := (26, _, _, _)) xt_g147 rfl rfl rfl rfl rfl ?_
      refine xe_s (f := (27, _, _, _)) xt_g147 rfl rfl rfl rfl rfl ?_
      refine xe_gf xt_g147 rfl (q := 30) rfl (xf_0_166 fm) (X1) (by omega) rfl rfl ?_
      refine xe_gf xt_g147 rfl (q := 33) rfl (xf_0_274 fm) (X2) (by omega) rfl rfl ?_
      refine xe_cI xt_g147 rfl rfl rfl (q := 36) rfl (kc_V xk_0_256 rfl (ko_44) (by omega) rfl rfl) xt_g148 (by decide) ⟨Nat.le_of_ble_eq_true rfl, Nat.le_of_ble_eq_true rfl, Nat.le_of_ble_eq_true rfl⟩ (k148 (by omega) d8) (fun z1 h1' n1 c1 u1 hp => ?_)
      refine xe_iret xt_g147 rfl rfl xi_int.1 ?_
      try dsimp only
      obtain ⟨g1, g2, g3, g4⟩ := hp
      rw [g1, g2, g3, g4]
      exact done te (pa_text A) d8 et
  · rw [if_neg (fun g => f0 g.1)] at k
    have et : mu_bart u = [] := by unfold mu_bart; rw [if_neg (fun g => f0 g.1)]
    refine xe_s (f := (1, _, _, _)) xt_g147 rfl rfl rfl rfl rfl ?_
    refine xe_s (f := (2, _, _, _)) xt_g147 rfl rfl rfl rfl rfl ?_
    refine xe_gf xt_g147 rfl (q := 5) rfl (xf_0_54 fm) (ko_44) (by omega) rfl rfl ?_
    rw [a4]
    refine xe_cR xt_g147 rfl rfl rfl (q := 8) rfl (kc_V xk_0_160 rfl (ko_44) (by omega) rfl rfl) xt_g146 (by decide) ⟨Nat.le_of_ble_eq_true rfl, Nat.le_of_ble_eq_true rfl, Nat.le_of_ble_eq_true rfl⟩ (k) ?_
    refine xe_s (f := (9, [(1, _), (0, _)], _, _)) xt_g147 rfl rfl rfl rfl rfl ?_
    refine xe_s (f := (10, _, _, _)) xt_g147 rfl rfl rfl rfl rfl ?_
    refine xe_s (f := (11, _, _, _)) xt_g147 rfl rfl rfl rfl rfl ?_
    refine xe_s (f := (21, _, _, _)) xt_g147 rfl rfl rfl rfl rfl ?_
    refine xe_s (f := (23, _, .ref 1 :: _, _)) xt_g147 rfl rfl rfl rfl rfl ?_
    refine xe_s (f := (33, _, _, _)) xt_g147 rfl rfl rfl rfl rfl ?_
    refine xe_cI xt_g147 rfl rfl rfl (q := 36) rfl (kc_V xk_0_256 rfl (ko_44) (by omega) rfl rfl) xt_g148 (by decide) ⟨Nat.le_of_ble_eq_true rfl, Nat.le_of_ble_eq_true rfl, Nat.le_of_ble_eq_true rfl⟩ (k148 (by omega) (a1.1 (1, []) (by decide))) (fun z1 h1' n1 c1 u1 hp => ?_)
    refine xe_iret xt_g147 rfl rfl xi_int.1 ?_
    try dsimp only
    obtain ⟨g1, g2, g3, g4⟩ := hp
    rw [g1, g2, g3, g4]
    exact done 1 [] (a1.1 (1, []) (by decide)) et
/-- stored -/
theorem c238 (S : cS w s p ar v h n t kc u dp) (I : mI u dp) {f z : Int} (e : mu_if u f = true) (hz : xr z) : xR fm 238 (ko w s p ar v h) n [.ref 44, xi f, xi z] (some (xi (mu_stored u f z))) := by
  obtain ⟨K, H, S1, S2, S3⟩ := S
  have W0 := K.1.1
  have H' := H
  obtain ⟨X, fo, f0, f1, eX, e3, HO⟩ := at_fr H e
  obtain ⟨a1, a2, a3, a4, a5, a6, a7, a8, a9, a10, a11, a12, a13⟩ := H
  obtain ⟨ad, b1, b2, b3, b4, b5⟩ := HO
  have X1 := (ko_d (w := w) (s := s) (p := p) (ar := ar) (v := v) b2.1).trans b1
  have ea : mu_ad u f = X.2.2 := by unfold mu_ad; rw [eX]
  unfold xR mu_stored
  rw [if_pos e, ea]
  cases ec : X.2.2 with
  | none =>
    rw [ec] at b5
    have b5 : ad = none := b5
    subst b5
    refine xe_s (f := (1, _, _, _)) xt_g238 rfl rfl rfl rfl rfl ?_
    refine xe_s (f := (2, _, _, _)) xt_g238 rfl rfl rfl rfl rfl ?_
    refine xe_cR xt_g238 rfl rfl rfl (q := 5) rfl (kc_V xk_0_163 rfl (ko_44) (by omega) rfl rfl) xt_g173 (by decide) ⟨Nat.le_of_ble_eq_true rfl, Nat.le_of_ble_eq_true rfl, Nat.le_of_ble_eq_true rfl⟩ (k173 (by omega) H' ⟨f0, f1⟩ e3) ?_
    refine xe_s (f := (6, [(3, _), (0, _), (1, _), (2, _)], _, _)) xt_g238 rfl rfl rfl rfl rfl ?_
    refine xe_s (f := (7, _, _, _)) xt_g238 rfl rfl rfl rfl rfl ?_
    refine xe_gf xt_g238 rfl (q := 10) rfl (xf_0_166 fm) (X1) (by omega) rfl rfl ?_
    refine xe_s (f := (13, _, _, _)) xt_g238 rfl rfl rfl rfl rfl ?_
    refine xe_s (f := (14, _, xi 0 :: _, _)) xt_g238 rfl rfl rfl rfl rfl ?_
    refine xe_s (f := (29, _, _, _)) xt_g238 rfl rfl rfl rfl rfl ?_
    refine xe_iret xt_g238 rfl rfl xi_int.1 ?_
    exact ⟨rfl, rfl⟩
  | some A =>
    rw [ec] at b5
    obtain ⟨xa, eq, HA⟩ := b5
    subst eq
    have k := k239 (fm := fm) (s := s) (p := p) (v := v) (show 64 ≤ n by omega) a12 HA hz
    have fr := so_fi_r (hd := pa_hd A) (mu_or u) 0
    have l8 := a12.2.1
    dsimp only
    have ev : (if z < 0 ∨ 7 < z ∨ so_fi (pa_hd A) (mu_or u) 0 < 0 then 0 else v (8 * so_fi (pa_hd A) (mu_or u) 0 + z).toNat) = (if z < 0 ∨ 7 < z ∨ so_fi (pa_hd A) (mu_or u) 0 < 0 then 0 else mu_st u (8 * so_fi (pa_hd A) (mu_or u) 0 + z).toNat) := by
      split
      · rfl
      · exact a13 _ (by omega)
    rw [ev] at k
    refine xe_s (f := (1, _, _, _)) xt_g238 rfl rfl rfl rfl rfl ?_
    refine xe_s (f := (2, _, _, _)) xt_g238 rfl rfl rfl rfl rfl ?_
    refine xe_cR xt_g238 rfl rfl rfl (q := 5) rfl (kc_V xk_0_163 rfl (ko_44) (by omega) rfl rfl) xt_g173 (by decide) ⟨Nat.le_of_ble_eq_true rfl, Nat.le_of_ble_eq_true rfl, Nat.le_of_ble_eq_true rfl⟩ (k173 (by omega) H' ⟨f0, f1⟩ e3) ?_
    refine xe_s (f := (6, [(3, _), (0, _), (1, _), (2, _)], _, _)) xt_g238 rfl rfl rfl rfl rfl ?_
    refine xe_s (f := (7, _, _, _)) xt_g238 rfl rfl rfl rfl rfl ?_
    refine xe_gf xt_g238 rfl (q := 10) rfl (xf_0_166 fm) (X1) (by omega) rfl rfl ?_
    refine xe_s (f := (17, _, _, _)) xt_g238 rfl rfl rfl rfl rfl ?_
    refine xe_s (f := (18, _, _, _)) xt_g238 rfl rfl rfl rfl rfl ?_
    refine xe_gf xt_g238 rfl (q := 21) rfl (xf_0_29 fm) (ko_44) (by omega) rfl rfl ?_
    refine xe_s (f := (22, _, _, _)) xt_g238 rfl rfl rfl rfl rfl ?_
    refine xe_gf xt_g238 rfl (q := 25) rfl (xf_0_166 fm) (X1) (by omega) rfl rfl ?_
    refine xe_s (f := (26, _, _, _)) xt_g238 rfl rfl rfl rfl rfl ?_
    refine xe_cR xt_g238 rfl rfl rfl (q := 29) rfl (kc_V xk_0_263 rfl (ko_52) (by omega) rfl rfl) xt_g239 (by decide) ⟨Nat.le_of_ble_eq_true rfl, Nat.le_of_ble_eq_true rfl, Nat.le_of_ble_eq_true rfl⟩ (k) ?_
    refine xe_iret xt_g238 rfl rfl xi_int.1 ?_
    exact ⟨rfl, rfl⟩
theorem c238x (S : cS w s p ar v h n t kc u dp) {f z : Int} (hf : xr f) (e : mu_if u f = false) : xX fm 238 (ko w s p ar v h) n [.ref 44, xi f, xi z] := by
  obtain ⟨K, H, S1, S2, S3⟩ := S
  have W0 := K.1.1
  unfold xX
  refine xe_s (f := (1, _, _, _)) xt_g238 rfl rfl rfl rfl rfl ?_
  refine xe_s (f := (2, _, _, _)) xt_g238 rfl rfl rfl rfl rfl ?_
  refine xe_cX xt_g238 rfl rfl rfl (q := 5) rfl (kc_V xk_0_163 rfl (ko_44) (by omega) rfl rfl) xt_g173 (by decide) ⟨Nat.le_of_ble_eq_true rfl, Nat.le_of_ble_eq_true rfl, Nat.le_of_ble_eq_true rfl⟩ (k173x (by omega) H hf e) rfl ?_
  exact ⟨rfl, rfl⟩
/-- store -/
theorem c233 (S : cS w s p ar v h n t kc u dp) (I : mI u dp) {f z y : Int} (e : mu_if u f = true) (hz : xr z) (hy : xr y) : xI fm 233 (ko w s p ar v h) n [.ref 44, xi f, xi z, xi y] (fun q h' n' u' => q = (mu_store u f z y).1 ∧ cR 0 0 h n kc h' n' u' (mu_store u f z y).2 dp) := by
  have S' := S
  obtain ⟨K, H, S1, S2, S3⟩ := S
  have W0 := K.1.1
  have H' := H
  obtain ⟨X, fo, f0, f1, eX, e3, HO⟩ := at_fr H e
  obtain ⟨a1, a2, a3, a4, a5, a6, a7, a8, a9, a10, a11, a12, a13⟩ := H
  obtain ⟨ad, b1, b2, b3, b4, b5⟩ := HO
  have X1 := (ko_d (w := w) (s := s) (p := p) (ar := ar) (v := v) b2.1).trans b1
  have ea : mu_ad u f = X.2.2 := by unfold mu_ad; rw [eX]
  unfold xI mu_store
  rw [if_pos e, ea]
  cases ec : X.2.2 with
  | none =>
    rw [ec] at b5
    have b5 : ad = none := b5
    subst b5
    refine xe_s (f := (1, _, _, _)) xt_g233 rfl rfl rfl rfl rfl ?_
    refine xe_s (f := (2, _, _, _)) xt_g233 rfl rfl rfl rfl rfl ?_
    refine xe_cR xt_g233 rfl rfl rfl (q := 5) rfl (kc_V xk_0_163 rfl (ko_44) (by omega) rfl rfl) xt_g173 (by decide) ⟨Nat.le_of_ble_eq_true rfl, Nat.le_of_ble_eq_true rfl, Nat.le_of_ble_eq_true rfl⟩ (k173 (by omega) H' ⟨f0, f1⟩ e3) ?_
    refine xe_s (f := (7, [(4, _), (0, _), (1, _), (2, _), (3, _)], _, _)) xt_g233 rfl rfl rfl rfl rfl ?_
    refine xe_s (f := (9, _, _, _)) xt_g233 rfl rfl rfl rfl rfl ?_
    refine xe_gf xt_g233 rfl (q := 12) rfl (xf_0_166 fm) (X1) (by omega) rfl rfl ?_
    refine xe_s (f := (36, _, _, _)) xt_g233 rfl rfl rfl rfl rfl ?_
    refine xe_s (f := (37, _, xi 0 :: _, _)) xt_g233 rfl rfl rfl rfl rfl ?_
    refine xe_iret xt_g233 rfl rfl (xi_bool (by first | omega | exact xb_or _)).1 ?_
    try dsimp only
    exact ⟨0, rfl, rfl, w, s, p, ar, v, h, t, kc, rfl, RU_0, S'⟩
  | some A =>
    rw [ec] at b5
    obtain ⟨xa, eq, HA⟩ := b5
    subst eq
    have fr := so_fi_r (hd := pa_hd A) (mu_or u) 0
    have l8 := a12.2.1
    dsimp only
    refine xe_s (f := (1, _, _, _)) xt_g233 rfl rfl rfl rfl rfl ?_
    refine xe_s (f := (2, _, _, _)) xt_g233 rfl rfl rfl rfl rfl ?_
    refine xe_cR xt_g233 rfl rfl rfl (q := 5) rfl (kc_V xk_0_163 rfl (ko_44) (by omega) rfl rfl) xt_g173 (by decide) ⟨Nat.le_of_ble_eq_true rfl, Nat.le_of_ble_eq_true rfl, Nat.le_of_ble_eq_true rfl⟩ (k173 (by omega) H' ⟨f0, f1⟩ e3) ?_
    refine xe_s (f := (7, [(4, _), (0, _), (1, _), (2, _), (3, _)], _, _)) xt_g233 rfl rfl rfl rfl rfl ?_
    refine xe_s (f := (9, _, _, _)) xt_g233 rfl rfl rfl rfl rfl ?_
    refine xe_gf xt_g233 rfl (q := 12) rfl (xf_0_166 fm) (X1) (by omega) rfl rfl ?_
    refine xe_s (f := (15, _, _, _)) xt_g233 rfl rfl rfl rfl rfl ?_
    refine xe_s (f := (16, _, _, _)) xt_g233 rfl rfl rfl rfl rfl ?_
    refine xe_gf xt_g233 rfl (q := 19) rfl (xf_0_29 fm) (ko_44) (by omega) rfl rfl ?_
    refine xe_s (f := (21, _, _, _)) xt_g233 rfl rfl rfl rfl rfl ?_
    refine xe_gf xt_g233 rfl (q := 24) rfl (xf_0_166 fm) (X1) (by omega) rfl rfl ?_
    refine xe_s (f := (25, _, _, _)) xt_g233 rfl rfl rfl rfl rfl ?_
    refine xe_s (f := (26, _, _, _)) xt_g233 rfl rfl rfl rfl rfl ?_
    refine xe_cI xt_g233 rfl rfl rfl (q := 29) rfl (kc_V xk_0_260 rfl (ko_52) (by omega) rfl rfl) xt_g234 (by decide) ⟨Nat.le_of_ble_eq_true rfl, Nat.le_of_ble_eq_true rfl, Nat.le_of_ble_eq_true rfl⟩ (k234 (by omega) a12 HA hz hy) (fun q1 h1' n1 c1 u1 hp => ?_)
    obtain ⟨g1, g2, s5, ar5, v5, rfl, g3, g4, g5, g6⟩ := hp
    rw [g1, g2]
    have qr : q1 = 0 ∨ q1 = 1 := by
      by_cases g : z < 0 ∨ 7 < z ∨ (so_fi (pa_hd A) (mu_or u) 0 < 0 ∧ (mu_or u).length = 8)
      · exact Or.inl (g5 g).1
      · exact Or.inr (g6 g).1
    refine xe_if_eq xt_g233 rfl (t := 36) rfl (q := 32) rfl (by first | omega | exact xb_r _) (fun b29 => ?_) (fun b29 => ?_)
    · try simp only [xb_0, xb_1, ne_eq, Decidable.not_not, Bool.not_eq_false, Bool.not_eq_true, decide_eq_true_eq, decide_eq_false_iff_not] at b29
      refine xe_s (f := (37, _, xi 0 :: _, _)) xt_g233 rfl rfl rfl rfl rfl ?_
      refine xe_iret xt_g233 rfl rfl (xi_bool (by first | omega | exact xb_or _)).1 ?_
      try dsimp only
      have g : z < 0 ∨ 7 < z ∨ (so_fi (pa_hd A) (mu_or u) 0 < 0 ∧ (mu_or u).length = 8) := by
        by_cases g : z < 0 ∨ 7 < z ∨ (so_fi (pa_hd A) (mu_or u) 0 < 0 ∧ (mu_or u).length = 8)
        · exact g
        · have := (g6 g).1; omega
      obtain ⟨_, q2, q3, q4⟩ := g5 g
      rw [q2, q3, q4, if_pos g]
      exact ⟨0, rfl, rfl, w, s, p, ar, v, h, t, kc, rfl, RU_0, S'⟩
    · try simp only [xb_0, xb_1, ne_eq, Decidable.not_not, Bool.not_eq_false, Bool.not_eq_true, decide_eq_true_eq, decide_eq_false_iff_not] at b29
      refine xe_s (f := (33, _, xi 1 :: _, _)) xt_g233 rfl rfl rfl rfl rfl ?_
      refine xe_s (f := (37, _, _, _)) xt_g233 rfl rfl rfl rfl rfl ?_
      refine xe_iret xt_g233 rfl rfl (xi_bool (by first | omega | exact xb_or _)).1 ?_
      try dsimp only
      have g : ¬ (z < 0 ∨ 7 < z ∨ (so_fi (pa_hd A) (mu_or u) 0 < 0 ∧ (mu_or u).length = 8)) := by
        intro g
        have := (g5 g).1
        omega
      obtain ⟨_, q2, q3⟩ := g6 g
      rw [if_neg g]
      have kb : ∀ (u2 : mu_T), mu_sh u2 = mu_sh u → mu_ms u2 = mu_ms u → mu_fo u2 = mu_fo u → mu_sf u2 = mu_sf u → mu_qt u2 = mu_qt u → mu_tm u2 = mu_tm u → mu_ck u2 = mu_ck u → mu_tb u2 = mu_tb u → mu_fr u2 = mu_fr u → mu_rq u2 = mu_rq u → mu_ln u2 = mu_ln u → orL w s5 ar5 h n (mu_or u2) → (∀ i, i < 64 → v5 i = mu_st u2 i) → cR 0 0 h n kc (ko w s5 p ar5 v5 h) n 0 u2 dp := by
        intro u2 e1 e2 e4 e5 e6 e7 e8 e9 ea eb el eo ev
        have e33 : ar5 3 = ar 3 := g4 3 (by decide)
        refine ⟨w, s5, p, ar5, v5, h, t, kc, rfl, RU_0, K, ⟨a1, by rw [e1]; exact a2, by rw [e2]; exact msL_kp a3 kp_refl (g3 6 (by decide)) (g4 1 (by decide)), by rw [e4]; exact (g3 7 (by decide)).trans a4, by rw [e5]; exact sfL_kp a5 kp_refl (g3 15 (by decide)) (g4 5 (by decide)), by rw [e6]; exact (g3 12 (by decide)).trans a6, by rw [e7]; exact (g3 14 (by decide)).trans a7, by rw [e8]; exact ckL_kp a8 kp_refl (g3 13 (by decide)) (g4 6 (by decide)), fun i hi => ?_, by rw [ea, e33]; exact frL_kp a10 kp_refl e33, by rw [eb, e33]; exact rqL_kp a11 kp_refl (g4 4 (by decide)), eo, ev⟩, by rw [el]; exact S1, S2, S3⟩
        have et : mu_tp u2 i = mu_tp u i := by unfold mu_tp; rw [ea]
        rw [g4 2 (by decide), e33, e9, et]
        exact a9 i hi
      refine ⟨1, rfl, ?_, ?_⟩
      · split <;> rfl
      · by_cases gn : so_fi (pa_hd A) (mu_or u) 0 < 0
        · rw [if_pos gn] at q2 q3 ⊢
          refine kb _ rfl rfl rfl rfl rfl rfl rfl rfl rfl rfl rfl q2 (fun i hi => ?_)
          rw [q3]
          show vu v _ y i = mu_up (mu_st u) _ y i
          unfold vu mu_up
          split
          · rfl
          · exact a13 i hi
        · rw [if_neg gn] at q2 q3 ⊢
          refine kb _ rfl rfl rfl rfl rfl rfl rfl rfl rfl rfl rfl q2 (fun i hi => ?_)
          rw [q3]
          show vu v _ y i = mu_up (mu_st u) _ y i
          unfold vu mu_up
          split
          · rfl
          · exact a13 i hi
theorem c233x (S : cS w s p ar v h n t kc u dp) {f z y : Int} (hf : xr f) (e : mu_if u f = false) : xX fm 233 (ko w s p ar v h) n [.ref 44, xi f, xi z, xi y] := by
  obtain ⟨K, H, S1, S2, S3⟩ := S
  have W0 := K.1.1
  unfold xX
  refine xe_s (f := (1, _, _, _)) xt_g233 rfl rfl rfl rfl rfl ?_
  refine xe_s (f := (2, _, _, _)) xt_g233 rfl rfl rfl rfl rfl ?_
  refine xe_cX xt_g233 rfl rfl rfl (q := 5) rfl (kc_V xk_0_163 rfl (ko_44) (by omega) rfl rfl) xt_g173 (by decide) ⟨Nat.le_of_ble_eq_true rfl, Nat.le_of_ble_eq_true rfl, Nat.le_of_ble_eq_true rfl⟩ (k173x (by omega) H hf e) rfl ?_
  exact ⟨rfl, rfl⟩
end XBS
