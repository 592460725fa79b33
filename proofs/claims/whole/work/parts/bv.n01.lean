/-! calls: leave, lead, post, enter, navigate, fetch -/
section XBV
variable {fm : Value} {w w' w1 w2 : kW} {s s' s1 s2 : Nat → Int} {p p' p1 p2 : Nat → Nat} {ar ar' : Nat → Nat → Option Nat} {v : Nat → Int} {h h' h1 h2 : xm_H} {n n' n1 n2 r k k' u' u1 u2 x y a b R : Nat} {l D : List Int} {L : List (List Int)} {A B : pa_A} {q : mq_T} {t t' t1 t2 : Nat → List Int} {kc kc' kc1 kc2 : Nat → Nat} {u : mu_T} {dp : Nat → Nat} {F fo G go d : Nat} {X Y : mf_T}
theorem aw_id {i : Nat} {o : Option Nat} (e : ar k i = o) : aw ar k i o = ar := by
  funext j
  by_cases g : j = k
  · subst g
    funext i'
    rw [aw_s]
    by_cases g2 : i' = i
    · rw [g2, va_up_s, e]
    · rw [va_up_n g2]
  · rw [aw_n g]
/-- a request is told something: its object changes -/
theorem cS_rq (S : cS w s p ar v h n t kc u dp) (hR : R < 24) (e4 : ar 4 R = some y) {fs : List Value} (hy : h y = .inr (10, xi (R : Int) :: fs)) {e : va_E} {q' : mq_T} (HQ : rqO w (va_up h y e) n (ar 3) R q' y) : cS w s p ar v (va_up h y e) n t kc (mu_srq u (mu_up (mu_rq u) R (some q'))) dp := by
  obtain ⟨K, H, S1, S2, S3⟩ := S
  have g := cB_rq (o := some y) (oq := some q') (cB_rup (e := e) (cB_x H) hR hy) (fun g => by cases g) (fun q g => by cases g; exact ⟨y, rfl, HQ⟩)
  rw [aw_id e4] at g
  exact ⟨KW_kz K (kz_up hy (Or.inr rfl)), g, S1, S2, S3⟩
/-- leave -/
theorem c222 (hfm : fm = .null ∨ ∃ j, fm = .ref j) (S : cS w s p ar v h n t kc u dp) (G : mG u) {f : Int} (e : mu_ir u f = true) {wi : Bool} : xN fm 222 (ko w s p ar v h) n [.ref 44, xi f, xi (xb wi)] (fun h' n' u' => cR 4800 850 h n kc h' n' u' (mu_leave u f wi) dp) := by
  have W0 := S.1.1.1
  have l160 := G.1
  have y1 := xb_or wi
  unfold xN
  refine xe_s (f := (1, _, _, _)) xt_g222 rfl rfl rfl rfl rfl ?_
  refine xe_cA xt_g222 rfl rfl rfl (q := 4) rfl (kc_V xk_0_93 rfl (ko_44) (by omega) rfl rfl) xt_g71 (by decide) ⟨Nat.le_of_ble_eq_true rfl, Nat.le_of_ble_eq_true rfl, Nat.le_of_ble_eq_true rfl⟩ (c71 S G) (fun x1 h1' n1 c1 u1 hp => ?_)
  obtain ⟨w1, h2, kc1, rfl, R1, H1, S1⟩ := hp
  have N1 := R1.2.1.1
  obtain ⟨q, yy, f0, f1, eq, e4, HR⟩ := at_rq S1.2.1 (f := f) e
  have eq : mu_rq u f.toNat = some q := eq
  have y108 : 108 ≤ yy := by
    obtain ⟨_, _, _, _, _, _, _, _, b3, _⟩ := HR
    exact b3
  obtain ⟨fs, F1, _, _, _⟩ := sS_at H1
  have em : mu_leave u f wi = mu_sln (mu_srq u (mu_up (mu_rq u) f.toNat (some (q.1, q.2.1, q.2.2.1, q.2.2.2.1, mu_lv u wi)))) [] := by
    unfold mu_leave
    rw [eq]
    dsimp only
    rw [if_pos e]
    rfl
  rw [em]
  have fin : ∀ (w5 : kW) (s5 : Nat → Int) (p5 : Nat → Nat) (h5 : xm_H) (n5 : Nat) (t5 : Nat → List Int) (kc5 : Nat → Nat) (u5 : Nat) (la : Bool) (lf : Option Nat), RT 4764 842 w h n kc w5 h5 n5 t5 kc5 u5 → kp w1 h2 n1 w5 h5 n5 → cS w5 s5 p5 ar v h5 n5 t5 kc5 (mu_sln u []) dp → lvO w5 h5 n5 la lf wi (mu_lv u wi) → ∃ fs0 : List Value, ko w5 s5 p5 ar v h5 yy = .inr (10, fs0) ∧ yy < n5 ∧ ∀ h', h' = va_up (ko w5 s5 p5 ar v h5) yy (.inr (10, (((fs0.set 7 (xi (xb la))).set 8 (va_rf lf)).set 9 (xi (xb wi))))) → fs0.length = 10 ∧ cR 4800 850 h n kc h' n5 u5 (mu_sln (mu_srq u (mu_up (mu_rq u) f.toNat (some (q.1, q.2.1, q.2.2.1, q.2.2.2.1, mu_lv u wi)))) []) dp := by
    intro w5 s5 p5 h5 n5 t5 kc5 u5 la lf R5 kP S5 HL
    have N5 := R5.2.1.1
    have HR5 := rqO_kp HR kP
    obtain ⟨fo', ad, ak, lf', la', lw', b1, b2, b3, b4, b5, b6, b7, b8, b9, b10⟩ := HR5
    refine ⟨_, (ko_d b2.1).trans b1, b4, fun h' eh => ⟨rfl, ?_⟩⟩
    rw [eh, ko_new (by omega)]
    refine ⟨w5, s5, p5, ar, v, _, t5, kc5, rfl, RU_m (RU_z (RU_RT R5) b2 b3) (by omega) (by omega), ?_⟩
    have Z := kz_up (e := (.inr (10, [xi ((f.toNat : Nat) : Int), .ref fo', xi (mq_mo q), xi (xb (mq_wi q)), va_rf ak, .ref ad, xi q.2.2.1, xi (xb la), va_rf lf, xi (xb wi)]) : va_E)) b1 (Or.inr rfl)
    exact cS_rq S5 (by omega) e4 b1 ⟨fo', ad, ak, lf, la, wi, va_up_s, b2, b3, b4, b5, aO_kz b6 Z, akO_kz b7 Z, lvO_kz HL Z, b9, b10⟩
  refine xe_s (f := (5, [(3, _), (0, _), (1, _), (2, _)], _, _)) xt_g222 rfl rfl rfl rfl rfl ?_
  refine xe_s (f := (6, _, _, _)) xt_g222 rfl rfl rfl rfl rfl ?_
  refine xe_s (f := (7, _, _, _)) xt_g222 rfl rfl rfl rfl rfl ?_
  refine xe_cR xt_g222 rfl rfl rfl (q := 10) rfl (kc_V xk_0_197 rfl (ko_44) (by omega) rfl rfl) xt_g183 (by decide) ⟨Nat.le_of_ble_eq_true rfl, Nat.le_of_ble_eq_true rfl, Nat.le_of_ble_eq_true rfl⟩ (k183 (by omega) ⟨f0, f1⟩ e4) ?_
  refine xe_s (f := (12, [(4, _), (3, _), (0, _), (1, _), (2, _)], _, _)) xt_g222 rfl rfl rfl rfl rfl ?_
  refine xe_s (f := (13, _, _, _)) xt_g222 rfl rfl rfl rfl rfl ?_
  refine xe_s (f := (15, _, .ref 39 :: _, _)) xt_g222 rfl rfl rfl rfl rfl ?_
  refine xe_cR xt_g222 rfl rfl rfl (q := 18) rfl (kc_V xk_0_234 rfl (F1 _ _ _ _ _) (by omega) rfl rfl) xt_g92 (by decide) ⟨Nat.le_of_ble_eq_true rfl, Nat.le_of_ble_eq_true rfl, Nat.le_of_ble_eq_true rfl⟩ (s92 (sS_ko H1) (sS_ko (S1.2.1.1.1 (39, [42]) (by decide)))) ?_
  refine xe_s (f := (20, [(5, _), (4, _), (3, _), (0, _), (1, _), (2, _)], _, _)) xt_g222 rfl rfl rfl rfl rfl ?_
  refine xe_s (f := (22, _, _, _)) xt_g222 rfl rfl rfl rfl rfl ?_
  refine xe_s (f := (24, _, _, _)) xt_g222 rfl rfl rfl rfl rfl ?_
  refine xe_s (f := (26, _, _, _)) xt_g222 rfl rfl rfl rfl rfl ?_
  refine xe_if_eq xt_g222 rfl (t := 33) rfl (q := 29) rfl (by first | omega | exact xb_r _) (fun b26 => ?_) (fun b26 => ?_)
  · try simp only [xb_0, xb_1, ne_eq, Decidable.not_not, Bool.not_eq_false, Bool.not_eq_true, decide_eq_true_eq, decide_eq_false_iff_not] at b26
    have el : mu_lv u wi = (match mu_res u none with | none => none | some a => some (some (a, wi))) := if_neg b26
    rw [decide_eq_false b26]
    refine xe_s (f := (34, _, _, _)) xt_g222 rfl rfl rfl rfl rfl ?_
    refine xe_gf xt_g222 rfl (q := 37) rfl (xf_0_22 fm) (ko_44) (by omega) rfl rfl ?_
    refine xe_s (f := (38, _, _, _)) xt_g222 rfl rfl rfl rfl rfl ?_
    refine xe_s (f := (39, _, _, _)) xt_g222 rfl rfl rfl rfl rfl ?_
    refine xe_cO xt_g222 rfl rfl rfl (q := 42) rfl (kc_V xk_0_128 rfl (ko_49) (by omega) rfl rfl) xt_g100 (by decide) ⟨Nat.le_of_ble_eq_true rfl, Nat.le_of_ble_eq_true rfl, Nat.le_of_ble_eq_true rfl⟩ (c100 (ob := none) (Bo := none) hfm S1 H1 l160 rfl) (fun o5 h5' n5 c5 u5 hr => ?_)
    obtain ⟨w5, s5, p5, h6, t5, kc5, rfl, R5, S5, HO5⟩ := hr
    have N5 := R5.2.1.1
    have em2 : mu_res u none = pa_res (lt (mu_ln u)) (mu_ln u).length none := rfl
    have HL : lvO w5 h6 n5 false o5 wi (mu_lv u wi) := by
      rw [el, em2]
      cases er : pa_res (lt (mu_ln u)) (mu_ln u).length none with
      | none => rw [er] at HO5; exact ⟨rfl, HO5⟩
      | some A9 =>
        rw [er] at HO5
        exact ⟨rfl, rfl, HO5⟩
    obtain ⟨fs0, g1, g2, g3⟩ := fin w5 s5 p5 h6 n5 t5 kc5 (u1 + u5) false o5 (RT_mono (RT_trans R1 R5) (by omega) (by omega) (Nat.le_refl _)) R5.2.1 S5 HL
    obtain ⟨g4, _⟩ := g3 _ rfl
    obtain ⟨c0, c1x, c2, c3, c4, c5x, c6, c7, c8, c9, rfl⟩ : ∃ c0 c1x c2 c3 c4 c5x c6 c7 c8 c9, fs0 = [c0, c1x, c2, c3, c4, c5x, c6, c7, c8, c9] := by
      match fs0, g4 with
      | [c0, c1x, c2, c3, c4, c5x, c6, c7, c8, c9], _ => exact ⟨_, _, _, _, _, _, _, _, _, _, rfl⟩
    cases o5 with
    | none =>
      refine xe_s (f := (43, _, _, _)) xt_g222 rfl rfl rfl rfl rfl ?_
      refine xe_cN xt_g222 rfl rfl rfl (q := 46) rfl (kc_V xk_0_238 rfl (g1) (by omega) rfl rfl) xt_g223 (by decide) ⟨Nat.le_of_ble_eq_true rfl, Nat.le_of_ble_eq_true rfl, Nat.le_of_ble_eq_true rfl⟩ (k223 (la := false) (lf := none) (lw := wi) g1 (by omega) g2) (fun h3' n3 c3' u3 hq => ?_)
      refine xe_ret xt_g222 rfl rfl ?_
      try dsimp only
      obtain ⟨i1, i2, i3⟩ := hq
      rw [i2, i3]
      have := (g3 h3' i1).2
      rw [show 0 + u1 + u5 + 0 = u1 + u5 by omega]
      exact ⟨rfl, this⟩
    | some j5 =>
      refine xe_s (f := (43, _, _, _)) xt_g222 rfl rfl rfl rfl rfl ?_
      refine xe_cN xt_g222 rfl rfl rfl (q := 46) rfl (kc_V xk_0_238 rfl (g1) (by omega) rfl rfl) xt_g223 (by decide) ⟨Nat.le_of_ble_eq_true rfl, Nat.le_of_ble_eq_true rfl, Nat.le_of_ble_eq_true rfl⟩ (k223 (la := false) (lf := some j5) (lw := wi) g1 (by omega) g2) (fun h3' n3 c3' u3 hq => ?_)
      refine xe_ret xt_g222 rfl rfl ?_
      try dsimp only
      obtain ⟨i1, i2, i3⟩ := hq
      rw [i2, i3]
      have := (g3 h3' i1).2
      rw [show 0 + u1 + u5 + 0 = u1 + u5 by omega]
      exact ⟨rfl, this⟩
  · try simp only [xb_0, xb_1, ne_eq, Decidable.not_not, Bool.not_eq_false, Bool.not_eq_true, decide_eq_true_eq, decide_eq_false_iff_not] at b26
    have el : mu_lv u wi = some none := if_pos b26
    obtain ⟨fs0, g1, g2, g3⟩ := fin w1 s p h2 n1 _ kc1 u1 true none (RT_mono R1 (by omega) (by omega) (Nat.le_refl _)) kp_refl S1 (by rw [el]; exact rfl)
    obtain ⟨g4, _⟩ := g3 _ rfl
    obtain ⟨c0, c1x, c2, c3, c4, c5, c6, c7, c8, c9, rfl⟩ : ∃ c0 c1x c2 c3 c4 c5 c6 c7 c8 c9, fs0 = [c0, c1x, c2, c3, c4, c5, c6, c7, c8, c9] := by
      match fs0, g4 with
      | [c0, c1x, c2, c3, c4, c5, c6, c7, c8, c9], _ => exact ⟨_, _, _, _, _, _, _, _, _, _, rfl⟩
    rw [decide_eq_true b26]
    refine xe_s (f := (30, _, _, _)) xt_g222 rfl rfl rfl rfl rfl ?_
    refine xe_s (f := (42, _, _, _)) xt_g222 rfl rfl rfl rfl rfl ?_
    refine xe_s (f := (43, _, _, _)) xt_g222 rfl rfl rfl rfl rfl ?_
    refine xe_cN xt_g222 rfl rfl rfl (q := 46) rfl (kc_V xk_0_238 rfl (g1) (by omega) rfl rfl) xt_g223 (by decide) ⟨Nat.le_of_ble_eq_true rfl, Nat.le_of_ble_eq_true rfl, Nat.le_of_ble_eq_true rfl⟩ (k223 (la := true) (lf := none) (lw := wi) g1 (by omega) g2) (fun h3' n3 c3' u3 hq => ?_)
    refine xe_ret xt_g222 rfl rfl ?_
    try dsimp only
    obtain ⟨i1, i2, i3⟩ := hq
    rw [i2, i3]
    have := (g3 h3' i1).2
    rw [show 0 + u1 + 0 = u1 by omega]
    exact ⟨rfl, this⟩
theorem c222x (S : cS w s p ar v h n t kc u dp) (G : mG u) {f z : Int} (hf : xr f) (e : mu_ir u f = false) : xY fm 222 (ko w s p ar v h) n [.ref 44, xi f, xi z] (fun h' n' u' => cR 200 5 h n kc h' n' u' (mu_sln u []) dp) := by
  have W0 := S.1.1.1
  unfold xY
  refine xe_s (f := (1, _, _, _)) xt_g222 rfl rfl rfl rfl rfl ?_
  refine xe_cA xt_g222 rfl rfl rfl (q := 4) rfl (kc_V xk_0_93 rfl (ko_44) (by omega) rfl rfl) xt_g71 (by decide) ⟨Nat.le_of_ble_eq_true rfl, Nat.le_of_ble_eq_true rfl, Nat.le_of_ble_eq_true rfl⟩ (c71 S G) (fun x1 h1' n1 c1 u1 hp => ?_)
  obtain ⟨w1, h2, kc1, rfl, R1, H1, S1⟩ := hp
  have N1 := R1.2.1.1
  refine xe_s (f := (5, [(3, _), (0, _), (1, _), (2, _)], _, _)) xt_g222 rfl rfl rfl rfl rfl ?_
  refine xe_s (f := (6, _, _, _)) xt_g222 rfl rfl rfl rfl rfl ?_
  refine xe_s (f := (7, _, _, _)) xt_g222 rfl rfl rfl rfl rfl ?_
  refine xe_cX xt_g222 rfl rfl rfl (q := 10) rfl (kc_V xk_0_197 rfl (ko_44) (by omega) rfl rfl) xt_g183 (by decide) ⟨Nat.le_of_ble_eq_true rfl, Nat.le_of_ble_eq_true rfl, Nat.le_of_ble_eq_true rfl⟩ (k183x (by omega) S1.2.1 hf e) rfl ?_
  refine ⟨n1, rfl, va_up_s, Nat.lt_succ_self n1, w1, s, p, ar, v, _, _, kc1, ko_new (by omega), ?_, cS_x S1⟩
  exact RU_m (RU_x (RU_RT R1) (by first | rfl | (dsimp only; omega)) (by dsimp only; omega)) (by omega) (by omega)
theorem c225x (S : cS w s p ar v h n t kc u dp) (G : mG u) {f : Int} (hf : xr f) (e : mu_ir u f = false) : xY fm 225 (ko w s p ar v h) n [.ref 44, xi f] (fun h' n' u' => cR 200 5 h n kc h' n' u' (mu_sln u []) dp) := by
  have W0 := S.1.1.1
  unfold xY
  refine xe_s (f := (1, _, _, _)) xt_g225 rfl rfl rfl rfl rfl ?_
  refine xe_cA xt_g225 rfl rfl rfl (q := 4) rfl (kc_V xk_0_93 rfl (ko_44) (by omega) rfl rfl) xt_g71 (by decide) ⟨Nat.le_of_ble_eq_true rfl, Nat.le_of_ble_eq_true rfl, Nat.le_of_ble_eq_true rfl⟩ (c71 S G) (fun x1 h1' n1 c1 u1 hp => ?_)
  obtain ⟨w1, h2, kc1, rfl, R1, H1, S1⟩ := hp
  have N1 := R1.2.1.1
  refine xe_s (f := (5, [(2, _), (0, _), (1, _)], _, _)) xt_g225 rfl rfl rfl rfl rfl ?_
  refine xe_s (f := (6, _, _, _)) xt_g225 rfl rfl rfl rfl rfl ?_
  refine xe_s (f := (7, _, _, _)) xt_g225 rfl rfl rfl rfl rfl ?_
  refine xe_cX xt_g225 rfl rfl rfl (q := 10) rfl (kc_V xk_0_197 rfl (ko_44) (by omega) rfl rfl) xt_g183 (by decide) ⟨Nat.le_of_ble_eq_true rfl, Nat.le_of_ble_eq_true rfl, Nat.le_of_ble_eq_true rfl⟩ (k183x (by omega) S1.2.1 hf e) rfl ?_
  refine ⟨n1, rfl, va_up_s, Nat.lt_succ_self n1, w1, s, p, ar, v, _, _, kc1, ko_new (by omega), ?_, cS_x S1⟩
  exact RU_m (RU_x (RU_RT R1) (by first | rfl | (dsimp only; omega)) (by dsimp only; omega)) (by omega) (by omega)
theorem c182x (S : cS w s p ar v h n t kc u dp) (G : mG u) {f : Int} (hf : xr f) (e : mu_ir u f = false) : xY fm 182 (ko w s p ar v h) n [.ref 44, xi f] (fun h' n' u' => cR 200 5 h n kc h' n' u' (mu_sln u []) dp) := by
  have W0 := S.1.1.1
  unfold xY
  refine xe_s (f := (1, _, _, _)) xt_g182 rfl rfl rfl rfl rfl ?_
  refine xe_cA xt_g182 rfl rfl rfl (q := 4) rfl (kc_V xk_0_93 rfl (ko_44) (by omega) rfl rfl) xt_g71 (by decide) ⟨Nat.le_of_ble_eq_true rfl, Nat.le_of_ble_eq_true rfl, Nat.le_of_ble_eq_true rfl⟩ (c71 S G) (fun x1 h1' n1 c1 u1 hp => ?_)
  obtain ⟨w1, h2, kc1, rfl, R1, H1, S1⟩ := hp
  have N1 := R1.2.1.1
  refine xe_s (f := (5, [(2, _), (0, _), (1, _)], _, _)) xt_g182 rfl rfl rfl rfl rfl ?_
  refine xe_s (f := (6, _, _, _)) xt_g182 rfl rfl rfl rfl rfl ?_
  refine xe_s (f := (7, _, _, _)) xt_g182 rfl rfl rfl rfl rfl ?_
  refine xe_cX xt_g182 rfl rfl rfl (q := 10) rfl (kc_V xk_0_197 rfl (ko_44) (by omega) rfl rfl) xt_g183 (by decide) ⟨Nat.le_of_ble_eq_true rfl, Nat.le_of_ble_eq_true rfl, Nat.le_of_ble_eq_true rfl⟩ (k183x (by omega) S1.2.1 hf e) rfl ?_
  refine ⟨n1, rfl, va_up_s, Nat.lt_succ_self n1, w1, s, p, ar, v, _, _, kc1, ko_new (by omega), ?_, cS_x S1⟩
  exact RU_m (RU_x (RU_RT R1) (by first | rfl | (dsimp only; omega)) (by dsimp only; omega)) (by omega) (by omega)
theorem c172x (S : cS w s p ar v h n t kc u dp) (G : mG u) {f : Int} (hf : xr f) (e : mu_if u f = false) : xY fm 172 (ko w s p ar v h) n [.ref 44, xi f] (fun h' n' u' => cR 200 5 h n kc h' n' u' (mu_sln u []) dp) := by
  have W0 := S.1.1.1
  unfold xY
  refine xe_s (f := (1, _, _, _)) xt_g172 rfl rfl rfl rfl rfl ?_
  refine xe_cA xt_g172 rfl rfl rfl (q := 4) rfl (kc_V xk_0_93 rfl (ko_44) (by omega) rfl rfl) xt_g71 (by decide) ⟨Nat.le_of_ble_eq_true rfl, Nat.le_of_ble_eq_true rfl, Nat.le_of_ble_eq_true rfl⟩ (c71 S G) (fun x1 h1' n1 c1 u1 hp => ?_)
  obtain ⟨w1, h2, kc1, rfl, R1, H1, S1⟩ := hp
  have N1 := R1.2.1.1
  refine xe_s (f := (5, [(2, _), (0, _), (1, _)], _, _)) xt_g172 rfl rfl rfl rfl rfl ?_
  refine xe_s (f := (6, _, _, _)) xt_g172 rfl rfl rfl rfl rfl ?_
  refine xe_s (f := (7, _, _, _)) xt_g172 rfl rfl rfl rfl rfl ?_
  refine xe_cX xt_g172 rfl rfl rfl (q := 10) rfl (kc_V xk_0_163 rfl (ko_44) (by omega) rfl rfl) xt_g173 (by decide) ⟨Nat.le_of_ble_eq_true rfl, Nat.le_of_ble_eq_true rfl, Nat.le_of_ble_eq_true rfl⟩ (k173x (by omega) S1.2.1 hf e) rfl ?_
  refine ⟨n1, rfl, va_up_s, Nat.lt_succ_self n1, w1, s, p, ar, v, _, _, kc1, ko_new (by omega), ?_, cS_x S1⟩
  exact RU_m (RU_x (RU_RT R1) (by first | rfl | (dsimp only; omega)) (by dsimp only; omega)) (by omega) (by omega)
theorem c176x (S : cS w s p ar v h n t kc u dp) (G : mG u) {f z : Int} (hf : xr f) (e : mu_if u f = false) : xY fm 176 (ko w s p ar v h) n [.ref 44, xi f, xi z] (fun h' n' u' => cR 200 5 h n kc h' n' u' (mu_sln u []) dp) := by
  have W0 := S.1.1.1
  unfold xY
  refine xe_s (f := (1, _, _, _)) xt_g176 rfl rfl rfl rfl rfl ?_
  refine xe_cA xt_g176 rfl rfl rfl (q := 4) rfl (kc_V xk_0_93 rfl (ko_44) (by omega) rfl rfl) xt_g71 (by decide) ⟨Nat.le_of_ble_eq_true rfl, Nat.le_of_ble_eq_true rfl, Nat.le_of_ble_eq_true rfl⟩ (c71 S G) (fun x1 h1' n1 c1 u1 hp => ?_)
  obtain ⟨w1, h2, kc1, rfl, R1, H1, S1⟩ := hp
  have N1 := R1.2.1.1
  refine xe_s (f := (5, [(3, _), (0, _), (1, _), (2, _)], _, _)) xt_g176 rfl rfl rfl rfl rfl ?_
  refine xe_s (f := (6, _, _, _)) xt_g176 rfl rfl rfl rfl rfl ?_
  refine xe_s (f := (7, _, _, _)) xt_g176 rfl rfl rfl rfl rfl ?_
  refine xe_cX xt_g176 rfl rfl rfl (q := 10) rfl (kc_V xk_0_163 rfl (ko_44) (by omega) rfl rfl) xt_g173 (by decide) ⟨Nat.le_of_ble_eq_true rfl, Nat.le_of_ble_eq_true rfl, Nat.le_of_ble_eq_true rfl⟩ (k173x (by omega) S1.2.1 hf e) rfl ?_
  refine ⟨n1, rfl, va_up_s, Nat.lt_succ_self n1, w1, s, p, ar, v, _, _, kc1, ko_new (by omega), ?_, cS_x S1⟩
  exact RU_m (RU_x (RU_RT R1) (by first | rfl | (dsimp only; omega)) (by dsimp only; omega)) (by omega) (by omega)
theorem c180x (S : cS w s p ar v h n t kc u dp) (G : mG u) {f z y : Int} (hf : xr f) (e : mu_if u f = false) : xY fm 180 (ko w s p ar v h) n [.ref 44, xi f, xi z, xi y] (fun h' n' u' => cR 200 5 h n kc h' n' u' (mu_sln u []) dp) := by
  have W0 := S.1.1.1
  unfold xY
  refine xe_s (f := (1, _, _, _)) xt_g180 rfl rfl rfl rfl rfl ?_
  refine xe_cA xt_g180 rfl rfl rfl (q := 4) rfl (kc_V xk_0_93 rfl (ko_44) (by omega) rfl rfl) xt_g71 (by decide) ⟨Nat.le_of_ble_eq_true rfl, Nat.le_of_ble_eq_true rfl, Nat.le_of_ble_eq_true rfl⟩ (c71 S G) (fun x1 h1' n1 c1 u1 hp => ?_)
  obtain ⟨w1, h2, kc1, rfl, R1, H1, S1⟩ := hp
  have N1 := R1.2.1.1
  refine xe_s (f := (6, [(4, _), (0, _), (1, _), (2, _), (3, _)], _, _)) xt_g180 rfl rfl rfl rfl rfl ?_
  refine xe_s (f := (7, _, _, _)) xt_g180 rfl rfl rfl rfl rfl ?_
  refine xe_s (f := (8, _, _, _)) xt_g180 rfl rfl rfl rfl rfl ?_
  refine xe_cX xt_g180 rfl rfl rfl (q := 11) rfl (kc_V xk_0_163 rfl (ko_44) (by omega) rfl rfl) xt_g173 (by decide) ⟨Nat.le_of_ble_eq_true rfl, Nat.le_of_ble_eq_true rfl, Nat.le_of_ble_eq_true rfl⟩ (k173x (by omega) S1.2.1 hf e) rfl ?_
  refine ⟨n1, rfl, va_up_s, Nat.lt_succ_self n1, w1, s, p, ar, v, _, _, kc1, ko_new (by omega), ?_, cS_x S1⟩
  exact RU_m (RU_x (RU_RT R1) (by first | rfl | (dsimp only; omega)) (by dsimp only; omega)) (by omega) (by omega)
theorem c241x (S : cS w s p ar v h n t kc u dp) (G : mG u) {f z y : Int} (hf : xr f) (e : mu_if u f = false) : xY fm 241 (ko w s p ar v h) n [.ref 44, xi f, xi z, xi y] (fun h' n' u' => cR 200 5 h n kc h' n' u' (mu_sln u []) dp) := by
  have W0 := S.1.1.1
  unfold xY
  refine xe_s (f := (1, _, _, _)) xt_g241 rfl rfl rfl rfl rfl ?_
  refine xe_cA xt_g241 rfl rfl rfl (q := 4) rfl (kc_V xk_0_93 rfl (ko_44) (by omega) rfl rfl) xt_g71 (by decide) ⟨Nat.le_of_ble_eq_true rfl, Nat.le_of_ble_eq_true rfl, Nat.le_of_ble_eq_true rfl⟩ (c71 S G) (fun x1 h1' n1 c1 u1 hp => ?_)
  obtain ⟨w1, h2, kc1, rfl, R1, H1, S1⟩ := hp
  have N1 := R1.2.1.1
  refine xe_s (f := (6, [(4, _), (0, _), (1, _), (2, _), (3, _)], _, _)) xt_g241 rfl rfl rfl rfl rfl ?_
  refine xe_s (f := (7, _, _, _)) xt_g241 rfl rfl rfl rfl rfl ?_
  refine xe_s (f := (8, _, _, _)) xt_g241 rfl rfl rfl rfl rfl ?_
  refine xe_cX xt_g241 rfl rfl rfl (q := 11) rfl (kc_V xk_0_163 rfl (ko_44) (by omega) rfl rfl) xt_g173 (by decide) ⟨Nat.le_of_ble_eq_true rfl, Nat.le_of_ble_eq_true rfl, Nat.le_of_ble_eq_true rfl⟩ (k173x (by omega) S1.2.1 hf e) rfl ?_
  refine ⟨n1, rfl, va_up_s, Nat.lt_succ_self n1, w1, s, p, ar, v, _, _, kc1, ko_new (by omega), ?_, cS_x S1⟩
  exact RU_m (RU_x (RU_RT R1) (by first | rfl | (dsimp only; omega)) (by dsimp only; omega)) (by omega) (by omega)
end XBV
