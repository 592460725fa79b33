/-! calls: cookies, cookie, set, post, enter -/
/-- a call that throws -/
def xY (fm : Value) (y : Nat) (h : xm_H) (n : Nat) (As : List Value) (P : xm_H → Nat → Nat → Prop) : Prop := xe fm y (0, lv_args 0 As, [], (h, n, 0, 0)) (fun r M => ∃ x, r = .inr x ∧ M.1 x = .inr (15, []) ∧ x < M.2.1 ∧ P M.1 M.2.1 M.2.2.2)
section XBU
variable {fm : Value} {w w' w1 w2 : kW} {s s' s1 s2 : Nat → Int} {p p' p1 p2 : Nat → Nat} {ar ar' : Nat → Nat → Option Nat} {v : Nat → Int} {h h' h1 h2 : xm_H} {n n' n1 n2 r k k' u' u1 u2 x y a b R : Nat} {l D : List Int} {L : List (List Int)} {A B : pa_A} {q : mq_T} {t t' t1 t2 : Nat → List Int} {kc kc' kc1 kc2 : Nat → Nat} {u : mu_T} {dp : Nat → Nat} {F fo G go d : Nat} {X Y : mf_T}
theorem note_sln {k a b : Int} {T ln : List Int} : mu_note (mu_sln u ln) k a b T = mu_sln (mu_note u k a b T) ln := by
  unfold mu_note
  split
  · rename_i h
    have h : (mu_ms u).length < 200 := h
    rw [if_pos h]
    rfl
  · rename_i h
    have h : ¬ (mu_ms u).length < 200 := h
    rw [if_neg h]
theorem note_ln {k a b : Int} {T : List Int} : mu_ln (mu_note u k a b T) = mu_ln u := by
  unfold mu_note
  split <;> rfl
/-- an exception is made -/
theorem cS_x (S : cS w s p ar v h n t kc u dp) : cS w s p ar v (va_up h n (.inr (15, []))) (n + 1) t kc u dp := cS_RT (s' := s) (p' := p) (ar' := ar) S (RT_ke (B := 0) (C := 1) (u' := 0) S.1 (ke_up (Nat.le_refl _) (by omega)) (Nat.le_refl _) (Nat.le_refl _)) rfl S.2.2.2.1 S.2.2.2.2 (fun _ _ _ _ => rfl) rfl (fun _ _ => rfl)
theorem xY_m {y : Nat} {As : List Value} {P Q : xm_H → Nat → Nat → Prop} (H : xY fm y h n As P) (e : ∀ a b c, P a b c → Q a b c) : xY fm y h n As Q := by
  refine xe_mono H (fun r M hM => ?_)
  obtain ⟨x, e1, e2, e3, e4⟩ := hM
  exact ⟨x, e1, e2, e3, e _ _ _ e4⟩
/-- a call that throws at once -/
theorem xY_X {y : Nat} {As : List Value} (S : cS w s p ar v h n t kc u dp) (H : xX fm y (ko w s p ar v h) n As) : xY fm y (ko w s p ar v h) n As (fun h' n' u' => cR 6 1 h n kc h' n' u' u dp) := by
  have W0 := S.1.1.1
  refine xe_mono H (fun r M hM => ?_)
  obtain ⟨e1, e2⟩ := hM
  subst e2
  refine ⟨n, e1, va_up_s, Nat.lt_succ_self n, w, s, p, ar, v, _, t, kc, ko_new (by omega), ?_, cS_x S⟩
  exact RU_m (RU_x RU_0 rfl (by dsimp only; omega)) (by omega) (by omega)
/-- refuse -/
theorem c174 (S : cS w s p ar v h n t kc u dp) (HO : frO w h n (ar 3) F X d fo) {z : Int} : xI fm 174 (ko w s p ar v h) n [.ref 44, .ref fo, xi z] (fun q h' n' u' => q = -1 ∧ ∃ s' ar' h1, h' = ko w s' p ar' v h1 ∧ RT 4 1 w h n kc w h1 n' t kc u' ∧ cS w s' p ar' v h1 n' t kc (mu_note u 6 F z []) dp) := by
  obtain ⟨K, H, S1, S2, S3⟩ := S
  have W0 := K.1.1
  obtain ⟨ad, b1, b2, b3, b4, b5⟩ := HO
  have X1 := (ko_d (w := w) (s := s) (p := p) (ar := ar) (v := v) b2.1).trans b1
  unfold xI
  refine xe_s (f := (1, _, _, _)) xt_g174 rfl rfl rfl rfl rfl ?_
  refine xe_bipush xt_g174 rfl (q := 3) rfl (by decide) (by decide) ?_
  refine xe_s (f := (4, _, _, _)) xt_g174 rfl rfl rfl rfl rfl ?_
  refine xe_gf xt_g174 rfl (q := 7) rfl (xf_0_216 fm) (X1) (by omega) rfl rfl ?_
  refine xe_s (f := (8, _, _, _)) xt_g174 rfl rfl rfl rfl rfl ?_
  refine xe_s (f := (10, _, .ref 1 :: _, _)) xt_g174 rfl rfl rfl rfl rfl ?_
  refine xe_cN xt_g174 rfl rfl rfl (q := 13) rfl (kc_V xk_0_219 rfl (ko_44) (by omega) rfl rfl) xt_g143 (by decide) ⟨Nat.le_of_ble_eq_true rfl, Nat.le_of_ble_eq_true rfl, Nat.le_of_ble_eq_true rfl⟩ (k143 K H (H.1.1 (1, []) (by decide))) (fun h2' n2 c2 u2 hp => ?_)
  refine xe_s (f := (14, _, xi (-1) :: _, _)) xt_g174 rfl rfl rfl rfl rfl ?_
  refine xe_iret xt_g174 rfl rfl xi_int.1 ?_
  try dsimp only
  obtain ⟨s6, ar6, h7, e1, ke6, n6', u6', f6, g6, H6⟩ := hp
  rw [e1]
  exact ⟨-1, rfl, rfl, s6, ar6, h7, rfl, RT_mono (RT_ke (B := 4) (C := 1) (u' := u2) K ke6 n6' u6') (Nat.le_refl _) (Nat.le_refl _) (by omega), KW_ke K ke6, H6, by rw [note_ln]; exact S1, S2, S3⟩
/-- the jar changes -/
theorem cB_ck {C : List ck_T} (H : cB w s p ar v h n u dp 24) (W : kw w n) (e : ke h n h' n') (hs : ∀ k, k ≠ 13 → s' k = s k) (ha : ∀ k, k ≠ 6 → ar' k = ar k) (HC : ckL w s' ar' h' n' C) : cB w s' p ar' v h' n' (mu_sck u C) dp 24 := by
  have kP : kp w h n w h' n' := ke_kp e
  obtain ⟨a1, a2, a3, a4, a5, a6, a7, a8, a9, a10, a11, a12, a13⟩ := H
  have e33 : ar' 3 = ar 3 := ha 3 (by decide)
  refine ⟨cst_kp a1 W kP, sS_kp a2 kP, msL_kp a3 kP (hs 6 (by decide)) (ha 1 (by decide)), (hs 7 (by decide)).trans a4, sfL_kp a5 kP (hs 15 (by decide)) (ha 5 (by decide)), (hs 12 (by decide)).trans a6, (hs 14 (by decide)).trans a7, HC, fun i hi => ?_, ?_, ?_, orL_kp a12 kP (hs 11 (by decide)) (ha 0 (by decide)), a13⟩
  · rw [ha 2 (by decide), e33]; exact a9 i hi
  · rw [e33]; exact frL_kp a10 kP e33
  · rw [e33]; exact rqL_kp a11 kP (ha 4 (by decide))
/-- put, on the state -/
theorem c188 (hfm : fm = .null ∨ ∃ j, fm = .ref j) (S : cS w s p ar v h n t kc (mu_sln u []) dp) (G : mG u) (H : sS (gd w) h n r (mu_ln u)) (HA : aO w h n a A) {net : Bool} : xN fm 188 (ko w s p ar v h) n [.ref 59, .ref r, .ref a, xi (xb net)] (fun h' n' u' => ∃ s' ar' h1, h' = ko w s' p ar' v h1 ∧ RT 3500 650 w h n kc w h1 n' t kc u' ∧ cS w s' p ar' v h1 n' t kc (mu_cs u A net) dp) := by
  obtain ⟨K, HB, S1, S2, S3⟩ := S
  have l160 := G.1
  have q1 := G.2.2.1
  have tm := G.2.2.2.1
  have HB' := HB
  obtain ⟨a1, a2, a3, a4, a5, a6, a7, a8, _⟩ := HB
  have e12 : s 12 = (((mu_qt u).toNat : Nat) : Int) := by rw [a6]; show mu_qt u = _; omega
  have e14 : s 14 = mu_tm u := a7
  refine xe_mono (k188 (Q := (mu_qt u).toNat) hfm K a1 a5 a8 G.2.1 H (by omega) HA (by rw [e14]; exact tm) e12 (by omega) (by omega)) (fun q M hM => ?_)
  obtain ⟨e1, s5, ar5, h5, e2, e3, e4, e5, e6, e7, e8⟩ := hM
  rw [e14, show (((mu_qt u).toNat : Nat) : Int) = mu_qt u by omega] at e8
  refine ⟨e1, s5, ar5, h5, e2, RT_ke K e3 (by omega) (by omega), KW_ke K e3, ?_, S1, S2, S3⟩
  exact cB_ck HB' K.1 e3 e6 e7 e8
/-- cookie -/
theorem c231 (hfm : fm = .null ∨ ∃ j, fm = .ref j) (S : cS w s p ar v h n t kc u dp) (G : mG u) {f : Int} (e : mu_if u f = true) : xI fm 231 (ko w s p ar v h) n [.ref 44, xi f] (fun z h' n' u' => z = (mu_cookie u f).1 ∧ cR 3700 660 h n kc h' n' u' (mu_cookie u f).2 dp) := by
  have W0 := S.1.1.1
  unfold xI mu_cookie
  rw [if_pos e]
  refine xe_s (f := (1, _, _, _)) xt_g231 rfl rfl rfl rfl rfl ?_
  refine xe_cA xt_g231 rfl rfl rfl (q := 4) rfl (kc_V xk_0_93 rfl (ko_44) (by omega) rfl rfl) xt_g71 (by decide) ⟨Nat.le_of_ble_eq_true rfl, Nat.le_of_ble_eq_true rfl, Nat.le_of_ble_eq_true rfl⟩ (c71 S G) (fun x1 h1' n1 c1 u1 hp => ?_)
  obtain ⟨w1, h2, kc1, rfl, R1, H1, S1⟩ := hp
  have N1 := R1.2.1.1
  obtain ⟨X, fo, f0, f1, eX, e3, HO⟩ := at_fr S1.2.1 (f := f) e
  obtain ⟨ad, b1, b2, b3, b4, b5⟩ := HO
  have X1 := (ko_d (w := w1) (s := s) (p := p) (ar := ar) (v := v) b2.1).trans b1
  have ea : mu_ad u f = X.2.2 := by unfold mu_ad; rw [show mu_fr u f.toNat = some X from eX]
  refine xe_s (f := (5, [(2, _), (0, _), (1, _)], _, _)) xt_g231 rfl rfl rfl rfl rfl ?_
  refine xe_s (f := (6, _, _, _)) xt_g231 rfl rfl rfl rfl rfl ?_
  refine xe_s (f := (7, _, _, _)) xt_g231 rfl rfl rfl rfl rfl ?_
  refine xe_cR xt_g231 rfl rfl rfl (q := 10) rfl (kc_V xk_0_163 rfl (ko_44) (by omega) rfl rfl) xt_g173 (by decide) ⟨Nat.le_of_ble_eq_true rfl, Nat.le_of_ble_eq_true rfl, Nat.le_of_ble_eq_true rfl⟩ (k173 (by omega) S1.2.1 ⟨f0, f1⟩ e3) ?_
  refine xe_s (f := (11, [(3, _), (2, _), (0, _), (1, _)], _, _)) xt_g231 rfl rfl rfl rfl rfl ?_
  rw [ea]
  cases ec : X.2.2 with
  | none =>
    rw [ec] at b5
    have b5 : ad = none := b5
    subst b5
    refine xe_s (f := (12, _, _, _)) xt_g231 rfl rfl rfl rfl rfl ?_
    refine xe_gf xt_g231 rfl (q := 15) rfl (xf_0_166 fm) (X1) (by omega) rfl rfl ?_
    refine xe_s (f := (18, _, _, _)) xt_g231 rfl rfl rfl rfl rfl ?_
    refine xe_s (f := (19, _, xi 0 :: _, _)) xt_g231 rfl rfl rfl rfl rfl ?_
    refine xe_iret xt_g231 rfl rfl (xi_bool (by first | omega | exact xb_or _)).1 ?_
    try dsimp only
    exact ⟨0, rfl, rfl, w1, s, p, ar, v, h2, _, kc1, rfl, RU_m (RU_RT (RT_mono R1 (Nat.le_refl _) (Nat.le_refl _) (by omega))) (by omega) (by omega), S1⟩
  | some A =>
    rw [ec] at b5
    obtain ⟨xa, eq, HA⟩ := b5
    subst eq
    refine xe_s (f := (12, _, _, _)) xt_g231 rfl rfl rfl rfl rfl ?_
    refine xe_gf xt_g231 rfl (q := 15) rfl (xf_0_166 fm) (X1) (by omega) rfl rfl ?_
    refine xe_s (f := (20, _, _, _)) xt_g231 rfl rfl rfl rfl rfl ?_
    refine xe_s (f := (21, _, _, _)) xt_g231 rfl rfl rfl rfl rfl ?_
    refine xe_gf xt_g231 rfl (q := 24) rfl (xf_0_78 fm) (ko_44) (by omega) rfl rfl ?_
    refine xe_s (f := (25, _, _, _)) xt_g231 rfl rfl rfl rfl rfl ?_
    refine xe_s (f := (26, _, _, _)) xt_g231 rfl rfl rfl rfl rfl ?_
    refine xe_gf xt_g231 rfl (q := 29) rfl (xf_0_166 fm) (X1) (by omega) rfl rfl ?_
    refine xe_s (f := (30, _, xi 0 :: _, _)) xt_g231 rfl rfl rfl rfl rfl ?_
    refine xe_cN xt_g231 rfl rfl rfl (q := 33) rfl (kc_V xk_0_228 rfl (ko_59) (by omega) rfl rfl) xt_g188 (by decide) ⟨Nat.le_of_ble_eq_true rfl, Nat.le_of_ble_eq_true rfl, Nat.le_of_ble_eq_true rfl⟩ (c188 (net := false) hfm S1 G H1 HA) (fun h3' n3 c3 u3 hq => ?_)
    refine xe_s (f := (34, _, xi 1 :: _, _)) xt_g231 rfl rfl rfl rfl rfl ?_
    refine xe_iret xt_g231 rfl rfl (xi_bool (by first | omega | exact xb_or _)).1 ?_
    try dsimp only
    obtain ⟨s5, ar5, h5, g1, g2, g3⟩ := hq
    exact ⟨1, rfl, rfl, w1, s5, p, ar5, v, h5, _, kc1, g1, RU_m (RU_RT (RT_mono (RT_trans R1 g2) (Nat.le_refl _) (Nat.le_refl _) (by omega))) (by omega) (by omega), g3⟩
/-- the line is taken, then it throws -/
theorem c231x (S : cS w s p ar v h n t kc u dp) (G : mG u) {f : Int} (hf : xr f) (e : mu_if u f = false) : xY fm 231 (ko w s p ar v h) n [.ref 44, xi f] (fun h' n' u' => cR 200 5 h n kc h' n' u' (mu_sln u []) dp) := by
  have W0 := S.1.1.1
  unfold xY
  refine xe_s (f := (1, _, _, _)) xt_g231 rfl rfl rfl rfl rfl ?_
  refine xe_cA xt_g231 rfl rfl rfl (q := 4) rfl (kc_V xk_0_93 rfl (ko_44) (by omega) rfl rfl) xt_g71 (by decide) ⟨Nat.le_of_ble_eq_true rfl, Nat.le_of_ble_eq_true rfl, Nat.le_of_ble_eq_true rfl⟩ (c71 S G) (fun x1 h1' n1 c1 u1 hp => ?_)
  obtain ⟨w1, h2, kc1, rfl, R1, H1, S1⟩ := hp
  have N1 := R1.2.1.1
  refine xe_s (f := (5, [(2, _), (0, _), (1, _)], _, _)) xt_g231 rfl rfl rfl rfl rfl ?_
  refine xe_s (f := (6, _, _, _)) xt_g231 rfl rfl rfl rfl rfl ?_
  refine xe_s (f := (7, _, _, _)) xt_g231 rfl rfl rfl rfl rfl ?_
  refine xe_cX xt_g231 rfl rfl rfl (q := 10) rfl (kc_V xk_0_163 rfl (ko_44) (by omega) rfl rfl) xt_g173 (by decide) ⟨Nat.le_of_ble_eq_true rfl, Nat.le_of_ble_eq_true rfl, Nat.le_of_ble_eq_true rfl⟩ (k173x (by omega) S1.2.1 hf e) rfl ?_
  refine ⟨n1, rfl, va_up_s, Nat.lt_succ_self n1, w1, s, p, ar, v, _, _, kc1, ko_new (by omega), ?_, cS_x S1⟩
  exact RU_m (RU_x (RU_RT R1) (by first | rfl | (dsimp only; omega)) (by dsimp only; omega)) (by omega) (by omega)
/-- set -/
theorem c187 (hfm : fm = .null ∨ ∃ j, fm = .ref j) (S : cS w s p ar v h n t kc u dp) (G : mG u) {f : Int} (e : mu_ir u f = true) : xN fm 187 (ko w s p ar v h) n [.ref 44, xi f] (fun h' n' u' => cR 3700 660 h n kc h' n' u' (mu_set u f) dp) := by
  have W0 := S.1.1.1
  unfold xN
  refine xe_s (f := (1, _, _, _)) xt_g187 rfl rfl rfl rfl rfl ?_
  refine xe_cA xt_g187 rfl rfl rfl (q := 4) rfl (kc_V xk_0_93 rfl (ko_44) (by omega) rfl rfl) xt_g71 (by decide) ⟨Nat.le_of_ble_eq_true rfl, Nat.le_of_ble_eq_true rfl, Nat.le_of_ble_eq_true rfl⟩ (c71 S G) (fun x1 h1' n1 c1 u1 hp => ?_)
  obtain ⟨w1, h2, kc1, rfl, R1, H1, S1⟩ := hp
  have N1 := R1.2.1.1
  obtain ⟨q, yy, f0, f1, eq, e4, HR⟩ := at_rq S1.2.1 (f := f) e
  have eq : mu_rq u f.toNat = some q := eq
  obtain ⟨fo', ad, ak, lf, la, lw, b1, b2, b3, b4, b5, b6, b7⟩ := HR
  have X1 := (ko_d (w := w1) (s := s) (p := p) (ar := ar) (v := v) b2.1).trans b1
  have y1 := xb_or (mq_wi q)
  have em : mu_set u f = if mq_wi q = true then mu_cs u q.2.2.2.1 true else mu_sln u [] := by
    unfold mu_set
    rw [eq]
    dsimp only
    by_cases g : mq_wi q = true
    · rw [if_pos ⟨e, g⟩, if_pos g]
    · rw [if_neg (fun q => g q.2), if_neg g]
  rw [em]
  refine xe_s (f := (5, [(2, _), (0, _), (1, _)], _, _)) xt_g187 rfl rfl rfl rfl rfl ?_
  refine xe_s (f := (6, _, _, _)) xt_g187 rfl rfl rfl rfl rfl ?_
  refine xe_s (f := (7, _, _, _)) xt_g187 rfl rfl rfl rfl rfl ?_
  refine xe_cR xt_g187 rfl rfl rfl (q := 10) rfl (kc_V xk_0_197 rfl (ko_44) (by omega) rfl rfl) xt_g183 (by decide) ⟨Nat.le_of_ble_eq_true rfl, Nat.le_of_ble_eq_true rfl, Nat.le_of_ble_eq_true rfl⟩ (k183 (by omega) ⟨f0, f1⟩ e4) ?_
  refine xe_s (f := (11, [(3, _), (2, _), (0, _), (1, _)], _, _)) xt_g187 rfl rfl rfl rfl rfl ?_
  refine xe_s (f := (12, _, _, _)) xt_g187 rfl rfl rfl rfl rfl ?_
  refine xe_gf xt_g187 rfl (q := 15) rfl (xf_0_223 fm) (X1) (by omega) rfl rfl ?_
  refine xe_if_eq xt_g187 rfl (t := 31) rfl (q := 18) rfl (by first | omega | exact xb_r _) (fun b15 => ?_) (fun b15 => ?_)
  · try simp only [xb_0, xb_1, ne_eq, Decidable.not_not, Bool.not_eq_false, Bool.not_eq_true, decide_eq_true_eq, decide_eq_false_iff_not] at b15
    rw [if_neg (by rw [b15]; decide)]
    refine xe_ret xt_g187 rfl rfl ?_
    try dsimp only
    exact ⟨rfl, w1, s, p, ar, v, h2, _, kc1, rfl, RU_m (RU_RT (RT_mono R1 (Nat.le_refl _) (Nat.le_refl _) (by omega))) (by omega) (by omega), S1⟩
  · try simp only [xb_0, xb_1, ne_eq, Decidable.not_not, Bool.not_eq_false, Bool.not_eq_true, decide_eq_true_eq, decide_eq_false_iff_not] at b15
    rw [if_pos b15]
    refine xe_s (f := (19, _, _, _)) xt_g187 rfl rfl rfl rfl rfl ?_
    refine xe_gf xt_g187 rfl (q := 22) rfl (xf_0_78 fm) (ko_44) (by omega) rfl rfl ?_
    refine xe_s (f := (23, _, _, _)) xt_g187 rfl rfl rfl rfl rfl ?_
    refine xe_s (f := (24, _, _, _)) xt_g187 rfl rfl rfl rfl rfl ?_
    refine xe_gf xt_g187 rfl (q := 27) rfl (xf_0_227 fm) (X1) (by omega) rfl rfl ?_
    refine xe_s (f := (28, _, xi 1 :: _, _)) xt_g187 rfl rfl rfl rfl rfl ?_
    refine xe_cN xt_g187 rfl rfl rfl (q := 31) rfl (kc_V xk_0_228 rfl (ko_59) (by omega) rfl rfl) xt_g188 (by decide) ⟨Nat.le_of_ble_eq_true rfl, Nat.le_of_ble_eq_true rfl, Nat.le_of_ble_eq_true rfl⟩ (c188 (net := true) hfm S1 G H1 b6) (fun h3' n3 c3 u3 hq => ?_)
    refine xe_ret xt_g187 rfl rfl ?_
    try dsimp only
    obtain ⟨s5, ar5, h5, g1, g2, g3⟩ := hq
    exact ⟨rfl, w1, s5, p, ar5, v, h5, _, kc1, g1, RU_m (RU_RT (RT_mono (RT_trans R1 g2) (Nat.le_refl _) (Nat.le_refl _) (by omega))) (by omega) (by omega), g3⟩
theorem c187x (S : cS w s p ar v h n t kc u dp) (G : mG u) {f : Int} (hf : xr f) (e : mu_ir u f = false) : xY fm 187 (ko w s p ar v h) n [.ref 44, xi f] (fun h' n' u' => cR 200 5 h n kc h' n' u' (mu_sln u []) dp) := by
  have W0 := S.1.1.1
  unfold xY
  refine xe_s (f := (1, _, _, _)) xt_g187 rfl rfl rfl rfl rfl ?_
  refine xe_cA xt_g187 rfl rfl rfl (q := 4) rfl (kc_V xk_0_93 rfl (ko_44) (by omega) rfl rfl) xt_g71 (by decide) ⟨Nat.le_of_ble_eq_true rfl, Nat.le_of_ble_eq_true rfl, Nat.le_of_ble_eq_true rfl⟩ (c71 S G) (fun x1 h1' n1 c1 u1 hp => ?_)
  obtain ⟨w1, h2, kc1, rfl, R1, H1, S1⟩ := hp
  have N1 := R1.2.1.1
  refine xe_s (f := (5, [(2, _), (0, _), (1, _)], _, _)) xt_g187 rfl rfl rfl rfl rfl ?_
  refine xe_s (f := (6, _, _, _)) xt_g187 rfl rfl rfl rfl rfl ?_
  refine xe_s (f := (7, _, _, _)) xt_g187 rfl rfl rfl rfl rfl ?_
  refine xe_cX xt_g187 rfl rfl rfl (q := 10) rfl (kc_V xk_0_197 rfl (ko_44) (by omega) rfl rfl) xt_g183 (by decide) ⟨Nat.le_of_ble_eq_true rfl, Nat.le_of_ble_eq_true rfl, Nat.le_of_ble_eq_true rfl⟩ (k183x (by omega) S1.2.1 hf e) rfl ?_
  refine ⟨n1, rfl, va_up_s, Nat.lt_succ_self n1, w1, s, p, ar, v, _, _, kc1, ko_new (by omega), ?_, cS_x S1⟩
  exact RU_m (RU_x (RU_RT R1) (by first | rfl | (dsimp only; omega)) (by dsimp only; omega)) (by omega) (by omega)
/-- cookies -/
theorem c229 (hfm : fm = .null ∨ ∃ j, fm = .ref j) (S : cS w s p ar v h n t kc u dp) (G : mG u) {f : Int} (e : mu_if u f = true) : xI fm 229 (ko w s p ar v h) n [.ref 44, xi f] (fun z h' n' u' => z = (mu_cookies u f).1 ∧ cR 2500 2 h n kc h' n' u' (mu_cookies u f).2 dp) := by
  have S' := S
  obtain ⟨K, H, S1, S2, S3⟩ := S
  have W0 := K.1.1
  obtain ⟨X, fo, f0, f1, eX, e3, HO⟩ := at_fr H e
  have HO' := HO
  obtain ⟨ad, b1, b2, b3, b4, b5⟩ := HO
  have X1 := (ko_d (w := w) (s := s) (p := p) (ar := ar) (v := v) b2.1).trans b1
  have ea : mu_ad u f = X.2.2 := by unfold mu_ad; rw [eX]
  have H' := H
  obtain ⟨a1, a2, a3, a4, a5, a6, a7, a8, a9, a10, a11, a12, a13⟩ := H
  unfold xI mu_cookies
  rw [if_pos e, ea]
  cases ec : X.2.2 with
  | none =>
    rw [ec] at b5
    have b5 : ad = none := b5
    subst b5
    refine xe_s (f := (1, _, _, _)) xt_g229 rfl rfl rfl rfl rfl ?_
    refine xe_s (f := (2, _, _, _)) xt_g229 rfl rfl rfl rfl rfl ?_
    refine xe_cR xt_g229 rfl rfl rfl (q := 5) rfl (kc_V xk_0_163 rfl (ko_44) (by omega) rfl rfl) xt_g173 (by decide) ⟨Nat.le_of_ble_eq_true rfl, Nat.le_of_ble_eq_true rfl, Nat.le_of_ble_eq_true rfl⟩ (k173 (by omega) H' ⟨f0, f1⟩ e3) ?_
    refine xe_s (f := (6, [(2, _), (0, _), (1, _)], _, _)) xt_g229 rfl rfl rfl rfl rfl ?_
    refine xe_s (f := (7, _, _, _)) xt_g229 rfl rfl rfl rfl rfl ?_
    refine xe_gf xt_g229 rfl (q := 10) rfl (xf_0_166 fm) (X1) (by omega) rfl rfl ?_
    refine xe_s (f := (13, _, _, _)) xt_g229 rfl rfl rfl rfl rfl ?_
    refine xe_s (f := (14, _, xi (-1) :: _, _)) xt_g229 rfl rfl rfl rfl rfl ?_
    refine xe_iret xt_g229 rfl rfl xi_int.1 ?_
    try dsimp only
    exact ⟨-1, rfl, rfl, w, s, p, ar, v, h, t, kc, rfl, RU_m RU_0 (by omega) (by omega), S'⟩
  | some A =>
    rw [ec] at b5
    obtain ⟨xa, eq, HA⟩ := b5
    subst eq
    dsimp only
    have tg := mk_txt_len (b := false) (mk_going (mu_tm u) (mu_ck u) A false) (going_p (ckL_n a8))
    have gl := going_le (t := mu_tm u) (a := A) (net := false) (C := mu_ck u) (ckL_p a8)
    have c40 := G.2.1
    refine xe_s (f := (1, _, _, _)) xt_g229 rfl rfl rfl rfl rfl ?_
    refine xe_s (f := (2, _, _, _)) xt_g229 rfl rfl rfl rfl rfl ?_
    refine xe_cR xt_g229 rfl rfl rfl (q := 5) rfl (kc_V xk_0_163 rfl (ko_44) (by omega) rfl rfl) xt_g173 (by decide) ⟨Nat.le_of_ble_eq_true rfl, Nat.le_of_ble_eq_true rfl, Nat.le_of_ble_eq_true rfl⟩ (k173 (by omega) H' ⟨f0, f1⟩ e3) ?_
    refine xe_s (f := (6, [(2, _), (0, _), (1, _)], _, _)) xt_g229 rfl rfl rfl rfl rfl ?_
    refine xe_s (f := (7, _, _, _)) xt_g229 rfl rfl rfl rfl rfl ?_
    refine xe_gf xt_g229 rfl (q := 10) rfl (xf_0_166 fm) (X1) (by omega) rfl rfl ?_
    refine xe_s (f := (15, _, _, _)) xt_g229 rfl rfl rfl rfl rfl ?_
    refine xe_s (f := (16, _, _, _)) xt_g229 rfl rfl rfl rfl rfl ?_
    refine xe_gf xt_g229 rfl (q := 19) rfl (xf_0_16 fm) (ko_44) (by omega) rfl rfl ?_
    refine xe_s (f := (20, _, xi 0 :: _, _)) xt_g229 rfl rfl rfl rfl rfl ?_
    refine xe_cN xt_g229 rfl rfl rfl (q := 23) rfl (kc_V xk_0_86 rfl (ko_47) (by omega) rfl rfl) xt_g14 (by decide) ⟨Nat.le_of_ble_eq_true rfl, Nat.le_of_ble_eq_true rfl, Nat.le_of_ble_eq_true rfl⟩ (k14_1 (m := 0) K (by omega) (by omega) (by omega)) (fun h2' n2 c2 u2 hp => ?_)
    obtain ⟨w2, h3, k2, rfl, R2⟩ := hp
    rw [show (0 : Int).toNat = 0 from rfl, List.take_zero] at R2
    have N2 := R2.2.1.1
    have HO2 := frO_kp HO' R2.2.1
    have HA2 := aO_kp HA R2.2.1
    have X2 : ko w2 s p ar v h3 fo = _ := (ko_d b2.1).trans ((R2.2.1.2.1 fo b4 b2).1.trans b1)
    refine xe_s (f := (24, _, _, _)) xt_g229 rfl rfl rfl rfl rfl ?_
    refine xe_gf xt_g229 rfl (q := 27) rfl (xf_0_78 fm) (ko_44) (by omega) rfl rfl ?_
    refine xe_s (f := (28, _, _, _)) xt_g229 rfl rfl rfl rfl rfl ?_
    refine xe_gf xt_g229 rfl (q := 31) rfl (xf_0_16 fm) (ko_44) (by omega) rfl rfl ?_
    refine xe_s (f := (32, _, _, _)) xt_g229 rfl rfl rfl rfl rfl ?_
    refine xe_gf xt_g229 rfl (q := 35) rfl (xf_0_166 fm) (X2) (by omega) rfl rfl ?_
    refine xe_s (f := (36, _, xi 0 :: _, _)) xt_g229 rfl rfl rfl rfl rfl ?_
    refine xe_cI xt_g229 rfl rfl rfl (q := 39) rfl (kc_V xk_0_249 rfl (ko_59) (by omega) rfl rfl) xt_g136 (by decide) ⟨Nat.le_of_ble_eq_true rfl, Nat.le_of_ble_eq_true rfl, Nat.le_of_ble_eq_true rfl⟩ (k136 (net := false) (C := mu_ck u) hfm (cst_kp a1 K.1 R2.2.1) R2.1 (ckL_kp a8 R2.2.1 rfl rfl) c40 HA2 (by rw [a7]; exact G.2.2.2.1) (by rw [tu_s]; decide)) (fun z6 h6' n6 c6 u6 hs => ?_)
    obtain ⟨ez, w6, ar6, h7, kc6, rfl, f6, R6⟩ := hs
    rw [tu_s, tu_tu, a7, List.nil_append] at R6
    have N6 := R6.2.1.1
    have R6' := RT_trans (RT_1 R2) R6
    refine xe_s (f := (40, _, _, _)) xt_g229 rfl rfl rfl rfl rfl ?_
    refine xe_s (f := (41, _, _, _)) xt_g229 rfl rfl rfl rfl rfl ?_
    refine xe_s (f := (42, _, _, _)) xt_g229 rfl rfl rfl rfl rfl ?_
    refine xe_gf xt_g229 rfl (q := 45) rfl (xf_0_16 fm) (ko_44) (by omega) rfl rfl ?_
    refine xe_cA xt_g229 rfl rfl rfl (q := 48) rfl (kc_V xk_0_253 rfl (ko_47) (by omega) rfl rfl) xt_g48 (by decide) ⟨Nat.le_of_ble_eq_true rfl, Nat.le_of_ble_eq_true rfl, Nat.le_of_ble_eq_true rfl⟩ (k48_1 R6'.1 (by rw [tu_s]; omega)) (fun x8 h8' n8 c8 u8 ht => ?_)
    obtain ⟨h9, rfl, ke8, H8, n8', u8'⟩ := ht
    rw [tu_s] at H8 u8'
    have N8 := ke8.1
    have R8 := RT_trans R6' (RT_ke (B := 1100) (C := 2) (u' := u8) R6'.1 ke8 n8' (by omega))
    have S8 := cS_RT (s' := s) (p' := p) (ar' := ar6) S' R8 (tu_n (by decide)) (by rw [tu_s]; omega) (by rw [tu_n (by decide)]; exact S3) (fun _ _ _ _ => rfl) rfl f6
    refine xe_cI xt_g229 rfl rfl rfl (q := 51) rfl (kc_V xk_0_256 rfl (ko_44) (by omega) rfl rfl) xt_g148 (by decide) ⟨Nat.le_of_ble_eq_true rfl, Nat.le_of_ble_eq_true rfl, Nat.le_of_ble_eq_true rfl⟩ (k148 (by omega) H8) (fun z9 h9' n9 c9 u9 hu => ?_)
    refine xe_iret xt_g229 rfl rfl xi_int.1 ?_
    try dsimp only
    obtain ⟨g1, g2, g3, g4⟩ := hu
    rw [g1, g2, g3, g4]
    exact ⟨_, rfl, rfl, w6, s, _, ar6, v, h9, _, kc6, rfl, RU_m (RU_RT (RT_mono R8 (Nat.le_refl _) (Nat.le_refl _) (by omega))) (by omega) (by omega), cS_sh S8 H8⟩
theorem c229x (S : cS w s p ar v h n t kc u dp) {f : Int} (hf : xr f) (e : mu_if u f = false) : xX fm 229 (ko w s p ar v h) n [.ref 44, xi f] := by
  obtain ⟨K, H, S1, S2, S3⟩ := S
  have W0 := K.1.1
  unfold xX
  refine xe_s (f := (1, _, _, _)) xt_g229 rfl rfl rfl rfl rfl ?_
  refine xe_s (f := (2, _, _, _)) xt_g229 rfl rfl rfl rfl rfl ?_
  refine xe_cX xt_g229 rfl rfl rfl (q := 5) rfl (kc_V xk_0_163 rfl (ko_44) (by omega) rfl rfl) xt_g173 (by decide) ⟨Nat.le_of_ble_eq_true rfl, Nat.le_of_ble_eq_true rfl, Nat.le_of_ble_eq_true rfl⟩ (k173x (by omega) H hf e) rfl ?_
  exact ⟨rfl, rfl⟩
end XBU
