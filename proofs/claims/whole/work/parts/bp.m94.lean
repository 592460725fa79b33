/-! calls: rules, and those that ask -/
/-- a method that throws at once -/
def xX (fm : Value) (y : Nat) (h : xm_H) (n : Nat) (As : List Value) : Prop := xe fm y (0, lv_args 0 As, [], (h, n, 0, 0)) (fun r M => r = .inr n ∧ M = (va_up h n (.inr (15, [])), n + 1, 1, 6))
section XBP0
variable {fm : Value} {y pc q n c u a ci k : Nat} {L : xm_L} {Q : xe_Q} {D : xt_D} {r : List Value} {h : xm_H} {fs : List Value} {v : Value}
theorem xe_tsw {d lo hi o : Int} {os : Array Int} {t ln : Nat} {z : Int} (hy : xt_md[y]? = some D) (hi' : xt_lk D.2.2.2.2.2 pc = some (.tableswitch d lo hi os, ln)) (hz : xr z) (hl : (if z < lo ∨ hi < z then some d else os[(z - lo).toNat]?) = some o) (hj : xm_j pc o = some t) (kk : xe fm y (t, L, r, (h, n, c, u)) Q) : xe fm y (pc, L, xi z :: r, (h, n, c, u)) Q := by
  refine xe_s hy hi' rfl rfl rfl (f := (t, L, r, (h, n, c, u))) ?_ kk
  show xm_tsw d lo hi os pc L (xi z :: r) (h, n, c, u) = _
  unfold xm_tsw
  dsimp only
  rw [xi_toInt hz, hl]
  dsimp only
  rw [hj]
theorem xe_cX {ins : Instr} {ln y' : Nat} {S As r0 : List Value} {D' : xt_D} (hy : xt_md[y]? = some D) (hi : xt_lk D.2.2.2.2.2 pc = some (ins, ln)) (he : xm_end (xt_y D) ins S = none) (ht : xm_thr (xt_P fm) (xt_y D) ins pc S (h, n, c, u) = none) (hq : pc + 3 = q) (hc : xm_call (xt_P fm) D.1.cls ins S (h, n, c, u) = some (y', As, r0)) (hy' : xt_md[y']? = some D') (hd : xt_dp y' < xt_dp y) (hsl : (lg_sl As).length ≤ D'.2.2.1 ∧ D'.2.2.1 ≤ 41 ∧ (r0.map fun v => v.category).sum ≤ 8) (hf : xX fm y' h n As) (hH : D.2.2.2.2.1 = []) (hQ : Q (.inr n) (va_up h n (.inr (15, [])), n + 1, c + 1, u + 6)) : xe fm y (pc, L, S, (h, n, c, u)) Q := by
  refine xe_call hy hi he ht hc hy' hd hsl hf (fun v m1 hm => ?_) (fun x m1 hm => ?_)
  · cases hm.1
  · obtain ⟨e1, e2⟩ := hm
    cases e1
    subst e2
    have e : xm_hnd (xt_P fm) (xt_y D) pc n (va_up h n (.inr (15, [])), n + 1, 1, 6) = some none := by
      show (match D.2.2.2.2.1 with
        | [] => some none
        | [(a, b, hh, ct)] => if a ≤ pc ∧ pc < b then match xm_ct (xt_P fm) (xt_y D).1.cls ct, va_up h n (.inr (15, [])) n with
            | some ci, .inr (cj, _) => if ci = cj ∧ n < n + 1 ∧ ct ≠ 0 then some (some hh) else none
            | _, _ => none
          else some none
        | _ => none) = some none
      rw [hH]
    unfold xe_x
    rw [e]
    exact hQ
end XBP0
/-- what a call may take beyond what StringBuilders grow by -/
def RU (B C : Nat) (h : xm_H) (n : Nat) (kc : Nat → Nat) (h' : xm_H) (n' : Nat) (kc' : Nat → Nat) (u' : Nat) : Prop := n ≤ n' ∧ kt kc ≤ kt kc' ∧ n' ≤ n + C + (kt kc' - kt kc) ∧ u' ≤ B + 2 * (kt kc' - kt kc) ∧ kf h n h'
def cS (w : kW) (s : Nat → Int) (p : Nat → Nat) (ar : Nat → Nat → Option Nat) (v : Nat → Int) (h : xm_H) (n : Nat) (t : Nat → List Int) (kc : Nat → Nat) (u : mu_T) (dp : Nat → Nat) : Prop := KW w h n t kc ∧ cB w s p ar v h n u dp 24 ∧ t 0 = mu_ln u ∧ (t 1).length ≤ 2000 ∧ (t 2).length < 8000
/-- the class after a call -/
def cR (B C : Nat) (h : xm_H) (n : Nat) (kc : Nat → Nat) (h' : xm_H) (n' u' : Nat) (u : mu_T) (dp : Nat → Nat) : Prop := ∃ w' s' p' ar' v' h1 t' kc', h' = ko w' s' p' ar' v' h1 ∧ RU B C h n kc h1 n' kc' u' ∧ cS w' s' p' ar' v' h1 n' t' kc' u dp
/-- what is known of u by itself -/
def mG (u : mu_T) : Prop := (mu_ln u).length ≤ 160 ∧ (mu_ck u).length ≤ 40 ∧ (1 ≤ mu_qt u ∧ mu_qt u ≤ 40) ∧ (0 ≤ mu_tm u ∧ mu_tm u ≤ 1000000000) ∧ (-1 ≤ mu_fo u ∧ mu_fo u < 4)
section XBP
variable {fm : Value} {w w' w1 w2 : kW} {s s' s1 s2 : Nat → Int} {p p' p1 p2 : Nat → Nat} {ar ar' : Nat → Nat → Option Nat} {v : Nat → Int} {h h' h1 h2 : xm_H} {n n' n1 n2 r k k' u' u1 u2 x y a b R : Nat} {l D : List Int} {L : List (List Int)} {A B : pa_A} {q : mq_T} {c : ck_T} {C : List ck_T} {t t' t1 t2 : Nat → List Int} {kc kc' kc1 kc2 : Nat → Nat} {u : mu_T} {dp : Nat → Nat} {fx : Nat → Option Nat} {m : ms_T} {M : List ms_T} {O : List pa_A} {fr : Nat → Option mf_T} {rq : Nat → Option mq_T} {F fo G go d : Nat} {X Y : mf_T}
theorem RU_RT {BB CC : Nat} (R0 : RT BB CC w h n kc w' h' n' t' kc' u') : RU BB CC h n kc h' n' kc' u' := ⟨R0.2.1.1, R0.2.2.1, R0.2.2.2.1, R0.2.2.2.2, R0.2.1.2.2⟩
theorem RU_m {BB CC BB' CC' : Nat} (R0 : RU BB CC h n kc h' n' kc' u') (h1 : BB ≤ BB') (h2 : CC ≤ CC') : RU BB' CC' h n kc h' n' kc' u' := ⟨R0.1, R0.2.1, by have := R0.2.2.1; omega, by have := R0.2.2.2.1; omega, R0.2.2.2.2⟩
theorem RU_0 : RU 0 0 h n kc h n kc 0 := ⟨Nat.le_refl _, Nat.le_refl _, by omega, by omega, fun _ _ _ _ => rfl⟩
theorem RU_t {BB CC BB' CC' : Nat} (R0 : RU BB CC h n kc h1 n1 kc1 u1) (R1 : RU BB' CC' h1 n1 kc1 h2 n2 kc2 u2) : RU (BB + BB') (CC + CC') h n kc h2 n2 kc2 (u1 + u2) := by
  obtain ⟨a1, a2, a3, a4, a5⟩ := R0
  obtain ⟨b1, b2, b3, b4, b5⟩ := R1
  exact ⟨by omega, by omega, by omega, by omega, fun a g0 g1 g2 => (b5 a (by omega) g1 g2).trans (a5 a g0 g1 g2)⟩
theorem RU_x {BB CC : Nat} {e : va_E} (R0 : RU BB CC h n kc h1 n1 kc1 u1) (hn : n2 = n1 + 1) (hu : u2 ≤ u1 + 6) : RU (BB + 6) (CC + 1) h n kc (va_up h1 n1 e) n2 kc1 u2 := by
  obtain ⟨a1, a2, a3, a4, a5⟩ := R0
  exact ⟨by omega, a2, by omega, by omega, fun a g0 g1 g2 => (va_up_n (by omega)).trans (a5 a g0 g1 g2)⟩
theorem RU_z {BB CC : Nat} {e : va_E} (R0 : RU BB CC h n kc h1 n1 kc1 u1) (hy : gd w y) (y0 : 108 ≤ y) : RU BB CC h n kc (va_up h1 y e) n1 kc1 u1 := by
  obtain ⟨a1, a2, a3, a4, a5⟩ := R0
  have := hy.2.2.2.2
  exact ⟨a1, a2, a3, a4, fun a g0 g1 g2 => (va_up_n (by omega)).trans (a5 a g0 g1 g2)⟩
/-- clear -/
theorem c159 (S : cS w s p ar v h n t kc u dp) : xN fm 159 (ko w s p ar v h) n [.ref 44] (fun h' n' u' => cR 0 0 h n kc h' n' u' (mu_sms u []) dp) := by
  obtain ⟨K, H, S1, S2, S3⟩ := S
  have W0 := K.1.1
  obtain ⟨a1, a2, a3, a4, a5, a6, a7, a8, a9, a10, a11, a12, a13⟩ := H
  unfold xN
  refine xe_s (f := (1, _, _, _)) xt_g159 rfl rfl rfl rfl rfl ?_
  refine xe_s (f := (2, _, xi 0 :: _, _)) xt_g159 rfl rfl rfl rfl rfl ?_
  refine xe_kp_0_6 xt_g159 rfl (q := 5) rfl (xf_0_293 fm) (by omega) ?_
  refine xe_ret xt_g159 rfl rfl ?_
  try dsimp only
  refine ⟨rfl, w, _, p, ar, v, h, t, kc, rfl, RU_0, K, ⟨a1, a2, ⟨xo_uS, Nat.zero_le _, fun i hi => absurd hi (Nat.not_lt_zero i)⟩, (xo_uN (by decide)).trans a4, sfL_kp a5 kp_refl (xo_uN (by decide)) rfl, (xo_uN (by decide)).trans a6, (xo_uN (by decide)).trans a7, ckL_kp a8 kp_refl (xo_uN (by decide)) rfl, a9, a10, a11, orL_kp a12 kp_refl (xo_uN (by decide)) rfl, a13⟩, S1, S2, S3⟩
/-- shown -/
theorem c160 (hfm : fm = .null ∨ ∃ j, fm = .ref j) (S : cS w s p ar v h n t kc u dp) {z : Int} (hz : xr z) : xR fm 160 (ko w s p ar v h) n [.ref 44, xi z] (some (xi (mu_shown u z))) := by
  obtain ⟨K, H, S1, S2, S3⟩ := S
  have W0 := K.1.1
  unfold xR mu_shown
  refine xe_s (f := (1, _, _, _)) xt_g160 rfl rfl rfl rfl rfl ?_
  refine xe_gf xt_g160 rfl (q := 4) rfl (xf_0_60 fm) (ko_44) (by omega) rfl rfl ?_
  refine xe_s (f := (5, _, _, _)) xt_g160 rfl rfl rfl rfl rfl ?_
  refine xe_cR xt_g160 rfl rfl rfl (q := 8) rfl (kc_S xk_0_310 (Nat.le_of_ble_eq_true rfl)) xt_g158 (by decide) ⟨Nat.le_of_ble_eq_true rfl, Nat.le_of_ble_eq_true rfl, Nat.le_of_ble_eq_true rfl⟩ (s158 hfm (sS_ko H.2.1) hz) ?_
  refine xe_iret xt_g160 rfl rfl xi_int.1 ?_
  exact ⟨rfl, rfl⟩
/-- letter -/
theorem c157 (hfm : fm = .null ∨ ∃ j, fm = .ref j) (S : cS w s p ar v h n t kc u dp) {z y : Int} (hz : xr z) (hy : xr y) : xR fm 157 (ko w s p ar v h) n [.ref 44, xi z, xi y] (some (xi (mu_letter u z y))) := by
  obtain ⟨K, H, S1, S2, S3⟩ := S
  have W0 := K.1.1
  have HM := H.2.2.1
  have k156' := k156 (fm := fm) (p := p) (v := v) (by omega) HM hz
  unfold xR mu_letter
  by_cases g : 0 ≤ z ∧ z < ((mu_ms u).length : Int)
  · obtain ⟨x, e1, te, d1, d2, d3, d4, d5⟩ := HM.2.2 z.toNat (by omega)
    have X1 := (ko_d (w := w) (s := s) (p := p) (ar := ar) (v := v) d2.1).trans d1
    rw [if_pos g, e1] at k156'
    have e9 : (0 ≤ z ∧ z < ((mu_ms u).length : Int) ∧ 0 ≤ y ∧ y < (((mu_ms u).getD z.toNat ms_0).2.2.2.length : Int)) ↔ (0 ≤ y ∧ y < (((mu_ms u).getD z.toNat ms_0).2.2.2.length : Int)) := ⟨fun q => q.2.2, fun q => ⟨g.1, g.2, q⟩⟩
    refine xe_s (f := (1, _, _, _)) xt_g157 rfl rfl rfl rfl rfl ?_
    refine xe_s (f := (2, _, _, _)) xt_g157 rfl rfl rfl rfl rfl ?_
    refine xe_cR xt_g157 rfl rfl rfl (q := 5) rfl (kc_V xk_0_296 rfl (ko_44) (by omega) rfl rfl) xt_g156 (by decide) ⟨Nat.le_of_ble_eq_true rfl, Nat.le_of_ble_eq_true rfl, Nat.le_of_ble_eq_true rfl⟩ (k156') ?_
    refine xe_s (f := (6, [(3, _), (0, _), (1, _), (2, _)], _, _)) xt_g157 rfl rfl rfl rfl rfl ?_
    refine xe_s (f := (7, _, _, _)) xt_g157 rfl rfl rfl rfl rfl ?_
    refine xe_s (f := (14, _, _, _)) xt_g157 rfl rfl rfl rfl rfl ?_
    refine xe_s (f := (15, _, _, _)) xt_g157 rfl rfl rfl rfl rfl ?_
    refine xe_gf xt_g157 rfl (q := 18) rfl (xf_0_309 fm) (X1) (by omega) rfl rfl ?_
    refine xe_s (f := (19, _, _, _)) xt_g157 rfl rfl rfl rfl rfl ?_
    refine xe_cR xt_g157 rfl rfl rfl (q := 22) rfl (kc_S xk_0_310 (Nat.le_of_ble_eq_true rfl)) xt_g158 (by decide) ⟨Nat.le_of_ble_eq_true rfl, Nat.le_of_ble_eq_true rfl, Nat.le_of_ble_eq_true rfl⟩ (s158 hfm (sS_ko d5) hy) ?_
    refine xe_iret xt_g157 rfl rfl xi_int.1 ?_
    try dsimp only
    by_cases q : 0 ≤ y ∧ y < (((mu_ms u).getD z.toNat ms_0).2.2.2.length : Int)
    · rw [if_pos q, if_pos (e9.mpr q)]; exact ⟨rfl, rfl⟩
    · rw [if_neg q, if_neg (fun r => q (e9.mp r))]; exact ⟨rfl, rfl⟩
  · rw [if_neg g] at k156'
    rw [if_neg (fun q => g ⟨q.1, q.2.1⟩)]
    refine xe_s (f := (1, _, _, _)) xt_g157 rfl rfl rfl rfl rfl ?_
    refine xe_s (f := (2, _, _, _)) xt_g157 rfl rfl rfl rfl rfl ?_
    refine xe_cR xt_g157 rfl rfl rfl (q := 5) rfl (kc_V xk_0_296 rfl (ko_44) (by omega) rfl rfl) xt_g156 (by decide) ⟨Nat.le_of_ble_eq_true rfl, Nat.le_of_ble_eq_true rfl, Nat.le_of_ble_eq_true rfl⟩ (k156') ?_
    refine xe_s (f := (6, [(3, _), (0, _), (1, _), (2, _)], _, _)) xt_g157 rfl rfl rfl rfl rfl ?_
    refine xe_s (f := (7, _, _, _)) xt_g157 rfl rfl rfl rfl rfl ?_
    refine xe_s (f := (10, _, _, _)) xt_g157 rfl rfl rfl rfl rfl ?_
    refine xe_s (f := (11, _, xi (-1) :: _, _)) xt_g157 rfl rfl rfl rfl rfl ?_
    refine xe_s (f := (22, _, _, _)) xt_g157 rfl rfl rfl rfl rfl ?_
    refine xe_iret xt_g157 rfl rfl xi_int.1 ?_
    exact ⟨rfl, rfl⟩
/-- message -/
theorem c155 (S : cS w s p ar v h n t kc u dp) {z y : Int} (hz : xr z) (hy : xr y) : xR fm 155 (ko w s p ar v h) n [.ref 44, xi z, xi y] (some (xi (mu_msg u z y))) := by
  obtain ⟨K, H, S1, S2, S3⟩ := S
  have W0 := K.1.1
  have HM := H.2.2.1
  have k156' := k156 (fm := fm) (p := p) (v := v) (by omega) HM hz
  unfold xR mu_msg
  by_cases g : 0 ≤ z ∧ z < ((mu_ms u).length : Int)
  · obtain ⟨x, e1, te, d1, d2, d3, d4, d5⟩ := HM.2.2 z.toNat (by omega)
    have X1 := (ko_d (w := w) (s := s) (p := p) (ar := ar) (v := v) d2.1).trans d1
    obtain ⟨fs, F1, _, _, _⟩ := sS_at d5
    rw [if_pos g, e1] at k156'
    by_cases q0 : y = 0
    · subst q0
      rw [if_neg (by omega)]
      refine xe_s (f := (1, _, _, _)) xt_g155 rfl rfl rfl rfl rfl ?_
      refine xe_s (f := (2, _, _, _)) xt_g155 rfl rfl rfl rfl rfl ?_
      refine xe_cR xt_g155 rfl rfl rfl (q := 5) rfl (kc_V xk_0_296 rfl (ko_44) (by omega) rfl rfl) xt_g156 (by decide) ⟨Nat.le_of_ble_eq_true rfl, Nat.le_of_ble_eq_true rfl, Nat.le_of_ble_eq_true rfl⟩ (k156') ?_
      refine xe_s (f := (6, [(3, _), (0, _), (1, _), (2, _)], _, _)) xt_g155 rfl rfl rfl rfl rfl ?_
      refine xe_s (f := (7, _, _, _)) xt_g155 rfl rfl rfl rfl rfl ?_
      refine xe_s (f := (12, _, _, _)) xt_g155 rfl rfl rfl rfl rfl ?_
      refine xe_s (f := (13, _, _, _)) xt_g155 rfl rfl rfl rfl rfl ?_
      refine xe_tsw xt_g155 rfl (t := 44) (by omega) (rfl) rfl ?_
      refine xe_s (f := (45, _, _, _)) xt_g155 rfl rfl rfl rfl rfl ?_
      refine xe_gf xt_g155 rfl (q := 48) rfl (xf_0_300 fm) (X1) (by omega) rfl rfl ?_
      refine xe_iret xt_g155 rfl rfl xi_int.1 ?_
      exact ⟨rfl, rfl⟩
    · by_cases q1 : y = 1
      · subst q1
        rw [if_neg (by omega)]
        refine xe_s (f := (1, _, _, _)) xt_g155 rfl rfl rfl rfl rfl ?_
        refine xe_s (f := (2, _, _, _)) xt_g155 rfl rfl rfl rfl rfl ?_
        refine xe_cR xt_g155 rfl rfl rfl (q := 5) rfl (kc_V xk_0_296 rfl (ko_44) (by omega) rfl rfl) xt_g156 (by decide) ⟨Nat.le_of_ble_eq_true rfl, Nat.le_of_ble_eq_true rfl, Nat.le_of_ble_eq_true rfl⟩ (k156') ?_
        refine xe_s (f := (6, [(3, _), (0, _), (1, _), (2, _)], _, _)) xt_g155 rfl rfl rfl rfl rfl ?_
        refine xe_s (f := (7, _, _, _)) xt_g155 rfl rfl rfl rfl rfl ?_
        refine xe_s (f := (12, _, _, _)) xt_g155 rfl rfl rfl rfl rfl ?_
        refine xe_s (f := (13, _, _, _)) xt_g155 rfl rfl rfl rfl rfl ?_
        refine xe_tsw xt_g155 rfl (t := 49) (by omega) (rfl) rfl ?_
        refine xe_s (f := (50, _, _, _)) xt_g155 rfl rfl rfl rfl rfl ?_
        refine xe_gf xt_g155 rfl (q := 53) rfl (xf_0_303 fm) (X1) (by omega) rfl rfl ?_
        refine xe_iret xt_g155 rfl rfl xi_int.1 ?_
        exact ⟨rfl, rfl⟩
      · by_cases q2 : y = 2
        · subst q2
          rw [if_neg (by omega)]
          refine xe_s (f := (1, _, _, _)) xt_g155 rfl rfl rfl rfl rfl ?_
          refine xe_s (f := (2, _, _, _)) xt_g155 rfl rfl rfl rfl rfl ?_
          refine xe_cR xt_g155 rfl rfl rfl (q := 5) rfl (kc_V xk_0_296 rfl (ko_44) (by omega) rfl rfl) xt_g156 (by decide) ⟨Nat.le_of_ble_eq_true rfl, Nat.le_of_ble_eq_true rfl, Nat.le_of_ble_eq_true rfl⟩ (k156') ?_
          refine xe_s (f := (6, [(3, _), (0, _), (1, _), (2, _)], _, _)) xt_g155 rfl rfl rfl rfl rfl ?_
          refine xe_s (f := (7, _, _, _)) xt_g155 rfl rfl rfl rfl rfl ?_
          refine xe_s (f := (12, _, _, _)) xt_g155 rfl rfl rfl rfl rfl ?_
          refine xe_s (f := (13, _, _, _)) xt_g155 rfl rfl rfl rfl rfl ?_
          refine xe_tsw xt_g155 rfl (t := 54) (by omega) (rfl) rfl ?_
          refine xe_s (f := (55, _, _, _)) xt_g155 rfl rfl rfl rfl rfl ?_
          refine xe_gf xt_g155 rfl (q := 58) rfl (xf_0_306 fm) (X1) (by omega) rfl rfl ?_
          refine xe_iret xt_g155 rfl rfl xi_int.1 ?_
          exact ⟨rfl, rfl⟩
        · by_cases q3 : y = 3
          · subst q3
            rw [if_neg (by omega)]
            refine xe_s (f := (1, _, _, _)) xt_g155 rfl rfl rfl rfl rfl ?_
            refine xe_s (f := (2, _, _, _)) xt_g155 rfl rfl rfl rfl rfl ?_
            refine xe_cR xt_g155 rfl rfl rfl (q := 5) rfl (kc_V xk_0_296 rfl (ko_44) (by omega) rfl rfl) xt_g156 (by decide) ⟨Nat.le_of_ble_eq_true rfl, Nat.le_of_ble_eq_true rfl, Nat.le_of_ble_eq_true rfl⟩ (k156') ?_
            refine xe_s (f := (6, [(3, _), (0, _), (1, _), (2, _)], _, _)) xt_g155 rfl rfl rfl rfl rfl ?_
            refine xe_s (f := (7, _, _, _)) xt_g155 rfl rfl rfl rfl rfl ?_
            refine xe_s (f := (12, _, _, _)) xt_g155 rfl rfl rfl rfl rfl ?_
            refine xe_s (f := (13, _, _, _)) xt_g155 rfl rfl rfl rfl rfl ?_
            refine xe_tsw xt_g155 rfl (t := 59) (by omega) (rfl) rfl ?_
            refine xe_s (f := (60, _, _, _)) xt_g155 rfl rfl rfl rfl rfl ?_
            refine xe_gf xt_g155 rfl (q := 63) rfl (xf_0_309 fm) (X1) (by omega) rfl rfl ?_
            refine xe_cR xt_g155 rfl rfl rfl (q := 66) rfl (kc_V xk_0_105 rfl (F1 _ _ _ _ _) (by omega) rfl rfl) xt_g31 (by decide) ⟨Nat.le_of_ble_eq_true rfl, Nat.le_of_ble_eq_true rfl, Nat.le_of_ble_eq_true rfl⟩ (s31 (sS_ko d5)) ?_
            refine xe_iret xt_g155 rfl rfl xi_int.1 ?_
            exact ⟨rfl, rfl⟩
          · rw [if_pos (by omega)]
            refine xe_s (f := (1, _, _, _)) xt_g155 rfl rfl rfl rfl rfl ?_
            refine xe_s (f := (2, _, _, _)) xt_g155 rfl rfl rfl rfl rfl ?_
            refine xe_cR xt_g155 rfl rfl rfl (q := 5) rfl (kc_V xk_0_296 rfl (ko_44) (by omega) rfl rfl) xt_g156 (by decide) ⟨Nat.le_of_ble_eq_true rfl, Nat.le_of_ble_eq_true rfl, Nat.le_of_ble_eq_true rfl⟩ (k156') ?_
            refine xe_s (f := (6, [(3, _), (0, _), (1, _), (2, _)], _, _)) xt_g155 rfl rfl rfl rfl rfl ?_
            refine xe_s (f := (7, _, _, _)) xt_g155 rfl rfl rfl rfl rfl ?_
            refine xe_s (f := (12, _, _, _)) xt_g155 rfl rfl rfl rfl rfl ?_
            refine xe_s (f := (13, _, _, _)) xt_g155 rfl rfl rfl rfl rfl ?_
            refine xe_tsw xt_g155 rfl (t := 67) (by omega) (if_pos (by omega)) rfl ?_
            refine xe_s (f := (68, _, xi (-1) :: _, _)) xt_g155 rfl rfl rfl rfl rfl ?_
            refine xe_iret xt_g155 rfl rfl xi_int.1 ?_
            exact ⟨rfl, rfl⟩
  · rw [if_neg g] at k156'
    rw [if_pos (by omega)]
    refine xe_s (f := (1, _, _, _)) xt_g155 rfl rfl rfl rfl rfl ?_
    refine xe_s (f := (2, _, _, _)) xt_g155 rfl rfl rfl rfl rfl ?_
    refine xe_cR xt_g155 rfl rfl rfl (q := 5) rfl (kc_V xk_0_296 rfl (ko_44) (by omega) rfl rfl) xt_g156 (by decide) ⟨Nat.le_of_ble_eq_true rfl, Nat.le_of_ble_eq_true rfl, Nat.le_of_ble_eq_true rfl⟩ (k156') ?_
    refine xe_s (f := (6, [(3, _), (0, _), (1, _), (2, _)], _, _)) xt_g155 rfl rfl rfl rfl rfl ?_
    refine xe_s (f := (7, _, _, _)) xt_g155 rfl rfl rfl rfl rfl ?_
    refine xe_s (f := (10, _, _, _)) xt_g155 rfl rfl rfl rfl rfl ?_
    refine xe_s (f := (11, _, xi (-1) :: _, _)) xt_g155 rfl rfl rfl rfl rfl ?_
    refine xe_iret xt_g155 rfl rfl xi_int.1 ?_
    exact ⟨rfl, rfl⟩
/-- pass -/
theorem k98 (hn : 64 ≤ n) : xR fm 98 (ko w s p ar v h) n [.ref 59] (some (xi (s 14))) := by
  unfold xR
  refine xe_s (f := (1, _, _, _)) xt_g98 rfl rfl rfl rfl rfl ?_
  refine xe_gf xt_g98 rfl (q := 4) rfl (xf_6_31 fm) (ko_59) (by omega) rfl rfl ?_
  refine xe_iret xt_g98 rfl rfl xi_int.1 ?_
  exact ⟨rfl, rfl⟩
theorem k97 (hn : 64 ≤ n) (ht : 0 ≤ s 14 ∧ s 14 ≤ 1000000000) {z : Int} (hz : xr z) : xI fm 97 (ko w s p ar v h) n [.ref 59, xi z] (fun q h' n' u' => n' = n ∧ u' = 0 ∧ ((z < 0 ∨ 1000000000 < s 14 + z) → q = 0 ∧ h' = ko w s p ar v h) ∧ (¬ (z < 0 ∨ 1000000000 < s 14 + z) → q = 1 ∧ h' = ko w (xo_u s 14 (s 14 + z)) p ar v h)) := by
  unfold xI
  refine xe_s (f := (1, _, _, _)) xt_g97 rfl rfl rfl rfl rfl ?_
  refine xe_if_lt xt_g97 rfl (t := 15) rfl (q := 4) rfl (by first | omega | exact xb_r _) (fun b1 => ?_) (fun b1 => ?_)
  · try simp only [xb_0, xb_1, ne_eq, Decidable.not_not, Bool.not_eq_false, Bool.not_eq_true, decide_eq_true_eq, decide_eq_false_iff_not] at b1
    refine xe_s (f := (16, _, xi 0 :: _, _)) xt_g97 rfl rfl rfl rfl rfl ?_
    refine xe_iret xt_g97 rfl rfl (xi_bool (by first | omega | exact xb_or _)).1 ?_
    try dsimp only
    exact ⟨0, rfl, rfl, rfl, fun _ => ⟨rfl, rfl⟩, fun g => absurd g (by omega)⟩
  · try simp only [xb_0, xb_1, ne_eq, Decidable.not_not, Bool.not_eq_false, Bool.not_eq_true, decide_eq_true_eq, decide_eq_false_iff_not] at b1
    refine xe_s (f := (5, _, _, _)) xt_g97 rfl rfl rfl rfl rfl ?_
    refine xe_ldci (z := 1000000000) xt_g97 rfl (q := 7) rfl rfl (by decide) ?_
    refine xe_s (f := (8, _, _, _)) xt_g97 rfl rfl rfl rfl rfl ?_
    refine xe_gf xt_g97 rfl (q := 11) rfl (xf_6_31 fm) (ko_59) (by omega) rfl rfl ?_
    refine xe_isub xt_g97 rfl (q := 12) rfl ?_
    refine xe_ic_le xt_g97 rfl (t := 17) rfl (q := 15) rfl (by first | omega | exact xb_r _) (by first | omega | exact xb_r _) (fun b12 => ?_) (fun b12 => ?_)
    · try simp only [xb_0, xb_1, ne_eq, Decidable.not_not, Bool.not_eq_false, Bool.not_eq_true, decide_eq_true_eq, decide_eq_false_iff_not] at b12
      refine xe_s (f := (18, _, _, _)) xt_g97 rfl rfl rfl rfl rfl ?_
      refine xe_s (f := (19, _, _, _)) xt_g97 rfl rfl rfl rfl rfl ?_
      refine xe_gf xt_g97 rfl (q := 22) rfl (xf_6_31 fm) (ko_59) (by omega) rfl rfl ?_
      refine xe_s (f := (23, _, _, _)) xt_g97 rfl rfl rfl rfl rfl ?_
      refine xe_iadd xt_g97 rfl (q := 24) rfl ?_
      refine xe_kp_4_5 xt_g97 rfl (q := 27) rfl (xf_6_31 fm) (by omega) ?_
      refine xe_s (f := (28, _, xi 1 :: _, _)) xt_g97 rfl rfl rfl rfl rfl ?_
      refine xe_iret xt_g97 rfl rfl (xi_bool (by first | omega | exact xb_or _)).1 ?_
      try dsimp only
      exact ⟨1, rfl, rfl, rfl, fun g => absurd g (by omega), fun _ => ⟨rfl, rfl⟩⟩
    · try simp only [xb_0, xb_1, ne_eq, Decidable.not_not, Bool.not_eq_false, Bool.not_eq_true, decide_eq_true_eq, decide_eq_false_iff_not] at b12
      refine xe_s (f := (16, _, xi 0 :: _, _)) xt_g97 rfl rfl rfl rfl rfl ?_
      refine xe_iret xt_g97 rfl rfl (xi_bool (by first | omega | exact xb_or _)).1 ?_
      try dsimp only
      exact ⟨0, rfl, rfl, rfl, fun _ => ⟨rfl, rfl⟩, fun g => absurd g (by omega)⟩
theorem c96 (S : cS w s p ar v h n t kc u dp) (G : mG u) {z : Int} (hz : xr z) : xI fm 96 (ko w s p ar v h) n [.ref 44, xi z] (fun q h' n' u' => q = (mu_pass u z).1 ∧ cR 0 0 h n kc h' n' u' (mu_pass u z).2 dp) := by
  obtain ⟨K, H, S1, S2, S3⟩ := S
  have W0 := K.1.1
  have H' := H
  obtain ⟨a1, a2, a3, a4, a5, a6, a7, a8, a9, a10, a11, a12, a13⟩ := H
  have ht := G.2.2.2.1
  rw [← a7] at ht
  unfold xI mu_pass
  rw [← a7]
  refine xe_s (f := (1, _, _, _)) xt_g96 rfl rfl rfl rfl rfl ?_
  refine xe_gf xt_g96 rfl (q := 4) rfl (xf_0_78 fm) (ko_44) (by omega) rfl rfl ?_
  refine xe_s (f := (5, _, _, _)) xt_g96 rfl rfl rfl rfl rfl ?_
  refine xe_cI xt_g96 rfl rfl rfl (q := 8) rfl (kc_V xk_0_121 rfl (ko_59) (by omega) rfl rfl) xt_g97 (by decide) ⟨Nat.le_of_ble_eq_true rfl, Nat.le_of_ble_eq_true rfl, Nat.le_of_ble_eq_true rfl⟩ (k97 (by omega) ht hz) (fun z1 h1' n1 c1 u1 hp => ?_)
  obtain ⟨e1, e2, e3, e4⟩ := hp
  rw [e1, e2]
  have zr : z1 = 0 ∨ z1 = 1 := by
    by_cases g : z < 0 ∨ 1000000000 < s 14 + z
    · exact Or.inl (e3 g).1
    · exact Or.inr (e4 g).1
  refine xe_if_eq xt_g96 rfl (t := 21) rfl (q := 11) rfl (by first | omega | exact xb_r _) (fun b8 => ?_) (fun b8 => ?_)
  · try simp only [xb_0, xb_1, ne_eq, Decidable.not_not, Bool.not_eq_false, Bool.not_eq_true, decide_eq_true_eq, decide_eq_false_iff_not] at b8
    have g : z < 0 ∨ 1000000000 < s 14 + z := by
      by_cases g : z < 0 ∨ 1000000000 < s 14 + z
      · exact g
      · have := (e4 g).1; omega
    rw [if_pos g, (e3 g).2]
    refine xe_s (f := (22, _, xi (-1) :: _, _)) xt_g96 rfl rfl rfl rfl rfl ?_
    refine xe_iret xt_g96 rfl rfl xi_int.1 ?_
    try dsimp only
    exact ⟨-1, rfl, rfl, w, s, p, ar, v, h, t, kc, rfl, RU_0, K, H', S1, S2, S3⟩
  · try simp only [xb_0, xb_1, ne_eq, Decidable.not_not, Bool.not_eq_false, Bool.not_eq_true, decide_eq_true_eq, decide_eq_false_iff_not] at b8
    have g : ¬ (z < 0 ∨ 1000000000 < s 14 + z) := by
      intro g
      have := (e3 g).1
      omega
    rw [if_neg g, (e4 g).2]
    refine xe_s (f := (12, _, _, _)) xt_g96 rfl rfl rfl rfl rfl ?_
    refine xe_gf xt_g96 rfl (q := 15) rfl (xf_0_78 fm) (ko_44) (by omega) rfl rfl ?_
    refine xe_cR xt_g96 rfl rfl rfl (q := 18) rfl (kc_V xk_0_125 rfl (ko_59) (by omega) rfl rfl) xt_g98 (by decide) ⟨Nat.le_of_ble_eq_true rfl, Nat.le_of_ble_eq_true rfl, Nat.le_of_ble_eq_true rfl⟩ (k98 (by omega)) ?_
    rw [xo_uS]
    refine xe_s (f := (22, _, _, _)) xt_g96 rfl rfl rfl rfl rfl ?_
    refine xe_iret xt_g96 rfl rfl xi_int.1 ?_
    try dsimp only
    exact ⟨_, rfl, rfl, w, _, p, ar, v, h, t, kc, rfl, RU_0, K, ⟨a1, a2, msL_kp a3 kp_refl (xo_uN (by decide)) rfl, (xo_uN (by decide)).trans a4, sfL_kp a5 kp_refl (xo_uN (by decide)) rfl, (xo_uN (by decide)).trans a6, xo_uS, ckL_kp a8 kp_refl (xo_uN (by decide)) rfl, a9, a10, a11, orL_kp a12 kp_refl (xo_uN (by decide)) rfl, a13⟩, S1, S2, S3⟩
end XBP
