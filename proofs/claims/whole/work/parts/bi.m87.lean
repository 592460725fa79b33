/-! the class's state -/
def mO (w : kW) (h : xm_H) (n x : Nat) (m : ms_T) : Prop := ∃ te, h x = .inr (12, [xi m.1, xi m.2.1, xi m.2.2.1, .ref te]) ∧ gd w x ∧ 44 ≤ x ∧ x < n ∧ sS (gd w) h n te m.2.2.2
def msL (w : kW) (s : Nat → Int) (ar : Nat → Nat → Option Nat) (h : xm_H) (n : Nat) (M : List ms_T) : Prop := s 6 = M.length ∧ M.length ≤ 200 ∧ ∀ i, i < M.length → ∃ x, ar 1 i = some x ∧ mO w h n x (M.getD i ms_0)
def orL (w : kW) (s : Nat → Int) (ar : Nat → Nat → Option Nat) (h : xm_H) (n : Nat) (O : List pa_A) : Prop := s 11 = O.length ∧ O.length ≤ 8 ∧ ∀ i, i < O.length → ∃ x, ar 0 i = some x ∧ aO w h n x (O.getD i pa_0)
/-- a Frame: fx says where the frames are -/
def frO (w : kW) (h : xm_H) (n : Nat) (fx : Nat → Option Nat) (f : Nat) (x : mf_T) (d r : Nat) : Prop := ∃ ad, h r = .inr (9, [xi (f : Int), xi x.1, va_rf (if x.2.1 < 0 then none else fx x.2.1.toNat), xi (d : Int), va_rf ad]) ∧ gd w r ∧ 108 ≤ r ∧ r < n ∧ adO w h n ad x.2.2
def frL (w : kW) (ar : Nat → Nat → Option Nat) (fx : Nat → Option Nat) (h : xm_H) (n : Nat) (fr : Nat → Option mf_T) (dp : Nat → Nat) : Prop := ∀ f, f < 16 → (fr f = none → ar 3 f = none) ∧ ∀ x, fr f = some x → ∃ r, ar 3 f = some r ∧ frO w h n fx f x (dp f) r
def mq_mo (q : mq_T) : Int := match q.2.1 with
  | none => -1
  | some y => y.1
def akO (w : kW) (h : xm_H) (n : Nat) (ak : Option Nat) (o : Option (Int × Bool × pa_A)) : Prop := ∀ y, o = some y → (0 ≤ y.1 ∧ y.1 ≤ 2) ∧ ∃ k, ak = some k ∧ aO w h n k y.2.2
def lvO (w : kW) (h : xm_H) (n : Nat) (la : Bool) (lf : Option Nat) (lw : Bool) : Option (Option (pa_A × Bool)) → Prop
  | none => la = false ∧ lf = none
  | some none => la = true
  | some (some y) => la = false ∧ lw = y.2 ∧ ∃ k, lf = some k ∧ aO w h n k y.1
def rqO (w : kW) (h : xm_H) (n : Nat) (fx : Nat → Option Nat) (r : Nat) (q : mq_T) (y : Nat) : Prop := ∃ (fo ad : Nat) (ak lf : Option Nat) (la lw : Bool), h y = .inr (10, [xi (r : Int), .ref fo, xi (mq_mo q), xi (xb (mq_wi q)), va_rf ak, .ref ad, xi q.2.2.1, xi (xb la), va_rf lf, xi (xb lw)]) ∧ gd w y ∧ 108 ≤ y ∧ y < n ∧ fx q.1.toNat = some fo ∧ aO w h n ad q.2.2.2.1 ∧ akO w h n ak q.2.1 ∧ lvO w h n la lf lw q.2.2.2.2 ∧ 0 ≤ q.2.2.1 ∧ q.2.2.1 ≤ 5
/-- requests, but for the place R -/
def rqL (w : kW) (ar : Nat → Nat → Option Nat) (fx : Nat → Option Nat) (h : xm_H) (n : Nat) (rq : Nat → Option mq_T) (R : Nat) : Prop := ∀ r, r < 24 → r ≠ R → (rq r = none → ar 4 r = none) ∧ ∀ q, rq r = some q → ∃ y, ar 4 r = some y ∧ rqO w h n fx r q y
def tpL (ar : Nat → Nat → Option Nat) (u : mu_T) : Prop := ∀ i, i < 4 → ar 2 i = if mu_tb u i = true then ar 3 (mu_tp u i).toNat else none
/-- the class holds u; dp: depths of frames -/
def cB (w : kW) (s : Nat → Int) (p : Nat → Nat) (ar : Nat → Nat → Option Nat) (v : Nat → Int) (h : xm_H) (n : Nat) (u : mu_T) (dp : Nat → Nat) (R : Nat) : Prop := cst w h n ∧ sS (gd w) h n (p 3) (mu_sh u) ∧ msL w s ar h n (mu_ms u) ∧ s 7 = mu_fo u ∧ sfL w s ar h n (mu_sf u) ∧ s 12 = mu_qt u ∧ s 14 = mu_tm u ∧ ckL w s ar h n (mu_ck u) ∧ tpL ar u ∧ frL w ar (ar 3) h n (mu_fr u) dp ∧ rqL w ar (ar 3) h n (mu_rq u) R ∧ orL w s ar h n (mu_or u) ∧ ∀ i, i < 64 → v i = mu_st u i
section XBI
variable {fm : Value} {w w' w1 w2 : kW} {s s' s1 s2 : Nat → Int} {p p' p1 p2 : Nat → Nat} {ar ar' : Nat → Nat → Option Nat} {v : Nat → Int} {h h' h1 h2 : xm_H} {n n' n1 n2 r k k' u' u1 u2 x y a : Nat} {l D W P N V : List Int} {L : List (List Int)} {A B : pa_A} {q : mq_T} {f : ck_T} {C : List ck_T} {t t' t1 t2 : Nat → List Int} {kc kc' kc1 kc2 : Nat → Nat} {u : mu_T} {dp : Nat → Nat} {fx : Nat → Option Nat} {m : ms_T} {M : List ms_T} {O : List pa_A} {fr : Nat → Option mf_T} {rq : Nat → Option mq_T}
theorem mO_kp (H : mO w h n x m) (e : kp w h n w' h' n') : mO w' h' n' x m := by
  obtain ⟨te, a1, a2, a3, a4, a5⟩ := H
  have e1 := e.2.1 x a4 a2
  exact ⟨te, e1.1.trans a1, e1.2, a3, Nat.lt_of_lt_of_le a4 e.1, sS_kp a5 e⟩
theorem msL_kp (H : msL w s ar h n M) (e : kp w h n w' h' n') (hs : s' 6 = s 6) (ha : ar' 1 = ar 1) : msL w' s' ar' h' n' M := by
  obtain ⟨a1, a2, a3⟩ := H
  refine ⟨hs.trans a1, a2, fun i hi => ?_⟩
  obtain ⟨x, b1, b2⟩ := a3 i hi
  exact ⟨x, by rw [ha]; exact b1, mO_kp b2 e⟩
theorem orL_kp (H : orL w s ar h n O) (e : kp w h n w' h' n') (hs : s' 11 = s 11) (ha : ar' 0 = ar 0) : orL w' s' ar' h' n' O := by
  obtain ⟨a1, a2, a3⟩ := H
  refine ⟨hs.trans a1, a2, fun i hi => ?_⟩
  obtain ⟨x, b1, b2⟩ := a3 i hi
  exact ⟨x, by rw [ha]; exact b1, aO_kp b2 e⟩
theorem frO_kp {F d : Nat} {X : mf_T} (H : frO w h n fx F X d r) (e : kp w h n w' h' n') : frO w' h' n' fx F X d r := by
  obtain ⟨ad, a1, a2, a3, a4, a5⟩ := H
  have e1 := e.2.1 r a4 a2
  exact ⟨ad, e1.1.trans a1, e1.2, a3, Nat.lt_of_lt_of_le a4 e.1, adO_kp a5 e⟩
theorem frL_kp (H : frL w ar fx h n fr dp) (e : kp w h n w' h' n') (ha : ar' 3 = ar 3) : frL w' ar' fx h' n' fr dp := by
  intro f hf
  refine ⟨fun g => by rw [ha]; exact (H f hf).1 g, fun x g => ?_⟩
  obtain ⟨r, b1, b2⟩ := (H f hf).2 x g
  exact ⟨r, by rw [ha]; exact b1, frO_kp b2 e⟩
theorem lvO_kp {la lw : Bool} {lf : Option Nat} {o : Option (Option (pa_A × Bool))} (H : lvO w h n la lf lw o) (e : kp w h n w' h' n') : lvO w' h' n' la lf lw o := by
  match o with
  | none => exact H
  | some none => exact H
  | some (some y) =>
    obtain ⟨a1, a2, k, a3, a4⟩ := H
    exact ⟨a1, a2, k, a3, aO_kp a4 e⟩
theorem rqO_kp {R : Nat} (H : rqO w h n fx R q y) (e : kp w h n w' h' n') : rqO w' h' n' fx R q y := by
  obtain ⟨fo, ad, ak, lf, la, lw, a1, a2, a3, a4, a5, a6, a7, a8, a9⟩ := H
  have e1 := e.2.1 y a4 a2
  exact ⟨fo, ad, ak, lf, la, lw, e1.1.trans a1, e1.2, a3, Nat.lt_of_lt_of_le a4 e.1, a5, aO_kp a6 e, fun z g => ⟨(a7 z g).1, by obtain ⟨k, b1, b2⟩ := (a7 z g).2; exact ⟨k, b1, aO_kp b2 e⟩⟩, lvO_kp a8 e, a9⟩
theorem rqL_kp {R : Nat} (H : rqL w ar fx h n rq R) (e : kp w h n w' h' n') (ha : ar' 4 = ar 4) : rqL w' ar' fx h' n' rq R := by
  intro f hf hR
  refine ⟨fun g => by rw [ha]; exact (H f hf hR).1 g, fun x g => ?_⟩
  obtain ⟨r, b1, b2⟩ := (H f hf hR).2 x g
  exact ⟨r, by rw [ha]; exact b1, rqO_kp b2 e⟩
/-- what the reader and the StringBuilders do leaves the rest as it is -/
theorem cB_kp {R : Nat} (H : cB w s p ar v h n u dp R) (W : kw w n) (e : kp w h n w' h' n') (hs : ∀ k, k ≠ 8 → k ≠ 9 → k ≠ 10 → s' k = s k) (hp : p' 3 = p 3) (ha : ∀ k, k ≠ 7 → ar' k = ar k) : cB w' s' p' ar' v h' n' u dp R := by
  obtain ⟨a1, a2, a3, a4, a5, a6, a7, a8, a9, a10, a11, a12, a13⟩ := H
  have e3 : ar' 3 = ar 3 := ha 3 (by decide)
  refine ⟨cst_kp a1 W e, by rw [hp]; exact sS_kp a2 e, msL_kp a3 e (hs 6 (by decide) (by decide) (by decide)) (ha 1 (by decide)), (hs 7 (by decide) (by decide) (by decide)).trans a4, sfL_kp a5 e (hs 15 (by decide) (by decide) (by decide)) (ha 5 (by decide)), (hs 12 (by decide) (by decide) (by decide)).trans a6, (hs 14 (by decide) (by decide) (by decide)).trans a7, ckL_kp a8 e (hs 13 (by decide) (by decide) (by decide)) (ha 6 (by decide)), fun i hi => by rw [ha 2 (by decide), e3]; exact a9 i hi, ?_, ?_, orL_kp a12 e (hs 11 (by decide) (by decide) (by decide)) (ha 0 (by decide)), a13⟩
  · rw [e3]; exact frL_kp a10 e e3
  · rw [e3]; exact rqL_kp a11 e (ha 4 (by decide))
/-- takeLine -/
theorem k71 (K : KW w h n t kc) (hl : (t 0).length ≤ 1000) : xA fm 71 (ko w s p ar v h) n [.ref 44] (fun x h' n' u' => ∃ w' h1 kc', h' = ko w' s p ar v h1 ∧ RT (4 + (t 0).length) 2 w h n kc w' h1 n' (tu t 0 []) kc' u' ∧ sS (gd w') h1 n' x (t 0)) := by
  have W0 := K.1.1
  unfold xA
  refine xe_s (f := (1, _, _, _)) xt_g71 rfl rfl rfl rfl rfl ?_
  refine xe_gf xt_g71 rfl (q := 4) rfl (xf_0_10 fm) (ko_44) (by omega) rfl rfl ?_
  refine xe_cA xt_g71 rfl rfl rfl (q := 7) rfl (kc_V xk_0_253 rfl (ko_45) (by omega) rfl rfl) xt_g48 (by decide) ⟨Nat.le_of_ble_eq_true rfl, Nat.le_of_ble_eq_true rfl, Nat.le_of_ble_eq_true rfl⟩ (k48_0 K (by omega)) (fun x1 h1' n1 c1 u1 hp => ?_)
  obtain ⟨h2, rfl, ke1, S1, n1', u1'⟩ := hp
  have N1 := ke1.1
  have K1 := KW_ke K ke1
  refine xe_s (f := (8, [(1, _), (0, _)], _, _)) xt_g71 rfl rfl rfl rfl rfl ?_
  refine xe_s (f := (9, _, _, _)) xt_g71 rfl rfl rfl rfl rfl ?_
  refine xe_gf xt_g71 rfl (q := 12) rfl (xf_0_10 fm) (ko_44) (by omega) rfl rfl ?_
  refine xe_s (f := (13, _, xi 0 :: _, _)) xt_g71 rfl rfl rfl rfl rfl ?_
  refine xe_cN xt_g71 rfl rfl rfl (q := 16) rfl (kc_V xk_0_86 rfl (ko_45) (by omega) rfl rfl) xt_g14 (by decide) ⟨Nat.le_of_ble_eq_true rfl, Nat.le_of_ble_eq_true rfl, Nat.le_of_ble_eq_true rfl⟩ (k14_0 (m := 0) K1 (by omega) (by omega) (by omega)) (fun h2' n2 c2 u2 hq => ?_)
  obtain ⟨w2, h3, k2, rfl, R2⟩ := hq
  rw [show (0 : Int).toNat = 0 from rfl, List.take_zero] at R2
  refine xe_s (f := (17, _, _, _)) xt_g71 rfl rfl rfl rfl rfl ?_
  refine xe_aret xt_g71 rfl (Or.inl ⟨_, rfl⟩) rfl ?_
  try dsimp only
  exact ⟨x1, rfl, w2, h3, _, rfl, RT_mono (RT_trans (RT_ke (B := 4 + (t 0).length) (C := 2) K ke1 n1' u1') (RT_0 R2)) (by omega) (by omega) (by omega), sS_kp S1 R2.2.1⟩
/-- new Message -/
theorem k144 {f0 f1 f2 f3 : Value} {z1 z2 z3 : Int} {te : Nat} (ha : h x = .inr (12, [f0, f1, f2, f3])) (h44 : 44 ≤ x) (hx : x < n) : xN fm 144 h n [.ref x, xi z1, xi z2, xi z3, .ref te] (fun h' n' u' => h' = va_up h x (.inr (12, [xi z1, xi z2, xi z3, .ref te])) ∧ n' = n ∧ u' = 0) := by
  unfold xN
  refine xe_s (f := (1, _, _, _)) xt_g144 rfl rfl rfl rfl rfl ?_
  refine xe_obj xt_g144 rfl (q := 4) rfl xz0_7_1 (xp_7_1 fm) (Nat.le_of_ble_eq_true rfl) ?_
  refine xe_s (f := (5, _, _, _)) xt_g144 rfl rfl rfl rfl rfl ?_
  refine xe_s (f := (6, _, _, _)) xt_g144 rfl rfl rfl rfl rfl ?_
  refine xe_pf xt_g144 rfl (q := 9) rfl (xf_7_7 fm) (ha) (by omega) (by omega) rfl (Nat.le_of_ble_eq_true rfl) (Nat.le_of_ble_eq_true rfl) xi_int (Or.inr ⟨by decide, rfl⟩) ?_
  refine xe_s (f := (10, _, _, _)) xt_g144 rfl rfl rfl rfl rfl ?_
  refine xe_s (f := (11, _, _, _)) xt_g144 rfl rfl rfl rfl rfl ?_
  refine xe_pf xt_g144 rfl (q := 14) rfl (xf_7_13 fm) (va_up_s) (by omega) (by omega) rfl (Nat.le_of_ble_eq_true rfl) (Nat.le_of_ble_eq_true rfl) xi_int (Or.inr ⟨by decide, rfl⟩) ?_
  refine xe_s (f := (15, _, _, _)) xt_g144 rfl rfl rfl rfl rfl ?_
  refine xe_s (f := (16, _, _, _)) xt_g144 rfl rfl rfl rfl rfl ?_
  refine xe_pf xt_g144 rfl (q := 19) rfl (xf_7_16 fm) (va_up_s) (by omega) (by omega) rfl (Nat.le_of_ble_eq_true rfl) (Nat.le_of_ble_eq_true rfl) xi_int (Or.inr ⟨by decide, rfl⟩) ?_
  refine xe_s (f := (20, _, _, _)) xt_g144 rfl rfl rfl rfl rfl ?_
  refine xe_s (f := (22, _, _, _)) xt_g144 rfl rfl rfl rfl rfl ?_
  refine xe_pf xt_g144 rfl (q := 25) rfl (xf_7_19 fm) (va_up_s) (by omega) (by omega) rfl (Nat.le_of_ble_eq_true rfl) (Nat.le_of_ble_eq_true rfl) ⟨rfl, rfl⟩ (Or.inr ⟨by decide, rfl⟩) ?_
  refine xe_ret xt_g144 rfl rfl ?_
  try dsimp only
  rw [va_uu, va_uu, va_uu]
  exact ⟨rfl, rfl, rfl, rfl⟩
/-- note -/
theorem k143 {R : Nat} (K : KW w h n t kc) (H : cB w s p ar v h n u dp R) {z1 z2 z3 : Int} {te : Nat} (HT : sS (gd w) h n te l) : xN fm 143 (ko w s p ar v h) n [.ref 44, xi z1, xi z2, xi z3, .ref te] (fun h' n' u' => ∃ s' ar' h1, h' = ko w s' p ar' v h1 ∧ ke h n h1 n' ∧ n' ≤ n + 1 ∧ u' ≤ 4 ∧ (∀ k, k ≠ 6 → s' k = s k) ∧ (∀ k, k ≠ 1 → ar' k = ar k) ∧ cB w s' p ar' v h1 n' (mu_note u z1 z2 z3 l) dp R) := by
  have W0 := K.1.1
  have H' := H
  obtain ⟨a1, a2, a3, a4, a5, a6, a7, a8, a9, a10, a11, a12, a13⟩ := H
  have m200 := a3.2.1
  have h6 := a3.1
  unfold xN mu_note
  refine xe_s (f := (1, _, _, _)) xt_g143 rfl rfl rfl rfl rfl ?_
  refine xe_gf xt_g143 rfl (q := 4) rfl (xf_0_293 fm) (ko_44) (by omega) rfl rfl ?_
  rw [h6]
  refine xe_sipush xt_g143 rfl (q := 7) rfl (by decide) (by decide) ?_
  refine xe_ic_ge xt_g143 rfl (t := 41) rfl (q := 10) rfl (by first | omega | exact xb_r _) (by first | omega | exact xb_r _) (fun b7 => ?_) (fun b7 => ?_)
  · try simp only [xb_0, xb_1, ne_eq, Decidable.not_not, Bool.not_eq_false, Bool.not_eq_true, decide_eq_true_eq, decide_eq_false_iff_not] at b7
    rw [if_neg (by omega)]
    refine xe_ret xt_g143 rfl rfl ?_
    try dsimp only
    exact ⟨rfl, s, ar, h, rfl, ke_refl, by omega, by omega, fun _ _ => rfl, fun _ _ => rfl, H'⟩
  · try simp only [xb_0, xb_1, ne_eq, Decidable.not_not, Bool.not_eq_false, Bool.not_eq_true, decide_eq_true_eq, decide_eq_false_iff_not] at b7
    rw [if_pos (by omega)]
    refine xe_s (f := (11, _, _, _)) xt_g143 rfl rfl rfl rfl rfl ?_
    refine xe_gf xt_g143 rfl (q := 14) rfl (xf_0_35 fm) (ko_44) (by omega) rfl rfl ?_
    refine xe_s (f := (15, _, _, _)) xt_g143 rfl rfl rfl rfl rfl ?_
    refine xe_gf xt_g143 rfl (q := 18) rfl (xf_0_293 fm) (ko_44) (by omega) rfl rfl ?_
    refine xe_new (k := 4) (fs := [xi 0, xi 0, xi 0, .null]) xt_g143 rfl rfl (q := 21) rfl (xn_0_33 fm) rfl rfl rfl ?_
    rw [ko_new (by omega)]
    refine xe_s (f := (22, _, _, _)) xt_g143 rfl rfl rfl rfl rfl ?_
    refine xe_s (f := (23, _, _, _)) xt_g143 rfl rfl rfl rfl rfl ?_
    refine xe_s (f := (24, _, _, _)) xt_g143 rfl rfl rfl rfl rfl ?_
    refine xe_s (f := (25, _, _, _)) xt_g143 rfl rfl rfl rfl rfl ?_
    refine xe_s (f := (27, _, _, _)) xt_g143 rfl rfl rfl rfl rfl ?_
    refine xe_cN xt_g143 rfl rfl rfl (q := 30) rfl (kc_P xk_0_313 rfl) xt_g144 (by decide) ⟨Nat.le_of_ble_eq_true rfl, Nat.le_of_ble_eq_true rfl, Nat.le_of_ble_eq_true rfl⟩ (k144 ((ko_d (Or.inr (Or.inr (Or.inr (Or.inr (by omega)))))).trans va_up_s) (by omega) (by omega)) (fun h3' n3 c3 u3 hs => ?_)
    obtain ⟨e1, e2, e3⟩ := hs
    subst e1
    rw [ko_new (by omega), va_uu, e2, e3]
    refine xe_ks_55 xt_g143 rfl (q := 31) rfl (by omega) (by omega) (by omega) ((ko_d (Or.inr (Or.inr (Or.inr (Or.inr (by omega)))))).trans va_up_s) (by omega) (by omega) ?_
    refine xe_s (f := (32, _, _, _)) xt_g143 rfl rfl rfl rfl rfl ?_
    refine xe_s (f := (33, _, _, _)) xt_g143 rfl rfl rfl rfl rfl ?_
    refine xe_gf xt_g143 rfl (q := 36) rfl (xf_0_293 fm) (ko_44) (by omega) rfl rfl ?_
    refine xe_s (f := (37, _, xi 1 :: _, _)) xt_g143 rfl rfl rfl rfl rfl ?_
    refine xe_iadd xt_g143 rfl (q := 38) rfl ?_
    refine xe_kp_0_6 xt_g143 rfl (q := 41) rfl (xf_0_293 fm) (by omega) ?_
    refine xe_ret xt_g143 rfl rfl ?_
    try dsimp only
    have kE : ke h n (va_up h n (.inr (12, [xi z1, xi z2, xi z3, .ref te]))) (n + 1) := ke_up (Nat.le_refl _) (by omega)
    have kP : kp w h n w _ (n + 1) := ke_kp kE
    refine ⟨rfl, _, _, _, rfl, kE, by omega, by omega, fun k hk => xo_uN hk, fun k hk => aw_n hk, ?_⟩
    refine ⟨cst_kp a1 K.1 kP, sS_kp a2 kP, ⟨?_, ?_, fun i hi => ?_⟩, (xo_uN (by decide)).trans a4, sfL_kp a5 kP (xo_uN (by decide)) (aw_n (by decide)), (xo_uN (by decide)).trans a6, (xo_uN (by decide)).trans a7, ckL_kp a8 kP (xo_uN (by decide)) (aw_n (by decide)), fun i hi => ?_, ?_, ?_, orL_kp a12 kP (xo_uN (by decide)) (aw_n (by decide)), a13⟩
    · show xo_u s 6 _ 6 = (((mu_ms u ++ [(z1, z2, z3, l)]).length : Nat) : Int)
      rw [xo_uS, h6, List.length_append, List.length_singleton]
      omega
    · show (mu_ms u ++ [(z1, z2, z3, l)]).length ≤ 200
      rw [List.length_append, List.length_singleton]
      omega
    · have hi : i < (mu_ms u ++ [(z1, z2, z3, l)]).length := hi
      show ∃ x, _ ∧ mO w _ (n + 1) x ((mu_ms u ++ [(z1, z2, z3, l)]).getD i ms_0)
      rw [List.length_append, List.length_singleton] at hi
      rw [aw_s, h6, Int.toNat_natCast]
      by_cases e : i = (mu_ms u).length
      · rw [e, va_up_s, gd_app]
        exact ⟨n, rfl, te, va_up_s, gd_n K.1 (Nat.le_refl _), by omega, by omega, sS_ke HT kE⟩
      · rw [va_up_n e, gd_lt (by omega)]
        obtain ⟨x, b1, b2⟩ := a3.2.2 i (by omega)
        exact ⟨x, b1, mO_kp b2 kP⟩
    · rw [aw_n (by decide), aw_n (by decide)]
      exact a9 i hi
    · rw [aw_n (k := 1) (j := 3) (by decide)]
      exact frL_kp a10 kP (aw_n (by decide))
    · rw [aw_n (k := 1) (j := 3) (by decide)]
      exact rqL_kp a11 kP (aw_n (by decide))
/-- messageAt -/
theorem k156 (hn : 64 ≤ n) (H : msL w s ar h n M) {k : Int} (hk : xr k) : xR fm 156 (ko w s p ar v h) n [.ref 44, xi k] (some (va_rf (if 0 ≤ k ∧ k < M.length then ar 1 k.toNat else none))) := by
  have m200 := H.2.1
  unfold xR
  refine xe_s (f := (1, _, _, _)) xt_g156 rfl rfl rfl rfl rfl ?_
  refine xe_if_lt xt_g156 rfl (t := 12) rfl (q := 4) rfl (by first | omega | exact xb_r _) (fun b1 => ?_) (fun b1 => ?_)
  · try simp only [xb_0, xb_1, ne_eq, Decidable.not_not, Bool.not_eq_false, Bool.not_eq_true, decide_eq_true_eq, decide_eq_false_iff_not] at b1
    rw [if_neg (fun g => by omega)]
    refine xe_s (f := (13, _, _, _)) xt_g156 rfl rfl rfl rfl rfl ?_
    refine xe_s (f := (22, _, _, _)) xt_g156 rfl rfl rfl rfl rfl ?_
    refine xe_aret xt_g156 rfl (Or.inl ⟨_, rfl⟩) (by first | rfl | exact xm_isA_va) ?_
    exact ⟨rfl, rfl⟩
  · try simp only [xb_0, xb_1, ne_eq, Decidable.not_not, Bool.not_eq_false, Bool.not_eq_true, decide_eq_true_eq, decide_eq_false_iff_not] at b1
    refine xe_s (f := (5, _, _, _)) xt_g156 rfl rfl rfl rfl rfl ?_
    refine xe_s (f := (6, _, _, _)) xt_g156 rfl rfl rfl rfl rfl ?_
    refine xe_gf xt_g156 rfl (q := 9) rfl (xf_0_293 fm) (ko_44) (by omega) rfl rfl ?_
    rw [H.1]
    refine xe_ic_lt xt_g156 rfl (t := 16) rfl (q := 12) rfl (by first | omega | exact xb_r _) (by first | omega | exact xb_r _) (fun b9 => ?_) (fun b9 => ?_)
    · try simp only [xb_0, xb_1, ne_eq, Decidable.not_not, Bool.not_eq_false, Bool.not_eq_true, decide_eq_true_eq, decide_eq_false_iff_not] at b9
      rw [if_pos ⟨by omega, by omega⟩]
      refine xe_s (f := (17, _, _, _)) xt_g156 rfl rfl rfl rfl rfl ?_
      refine xe_gf xt_g156 rfl (q := 20) rfl (xf_0_35 fm) (ko_44) (by omega) rfl rfl ?_
      refine xe_s (f := (21, _, _, _)) xt_g156 rfl rfl rfl rfl rfl ?_
      refine xe_ka_55 xt_g156 rfl (q := 22) rfl (by omega) (by omega) (by omega) ?_
      refine xe_aret xt_g156 rfl (Or.inl ⟨_, rfl⟩) (by first | rfl | exact xm_isA_va) ?_
      exact ⟨rfl, rfl⟩
    · try simp only [xb_0, xb_1, ne_eq, Decidable.not_not, Bool.not_eq_false, Bool.not_eq_true, decide_eq_true_eq, decide_eq_false_iff_not] at b9
      rw [if_neg (fun g => by omega)]
      refine xe_s (f := (13, _, _, _)) xt_g156 rfl rfl rfl rfl rfl ?_
      refine xe_s (f := (22, _, _, _)) xt_g156 rfl rfl rfl rfl rfl ?_
      refine xe_aret xt_g156 rfl (Or.inl ⟨_, rfl⟩) (by first | rfl | exact xm_isA_va) ?_
      exact ⟨rfl, rfl⟩
/-- topAt, frameAt, requestAt -/
theorem k146 (hn : 64 ≤ n) {k : Int} (hk : xr k) : xR fm 146 (ko w s p ar v h) n [.ref 44, xi k] (some (va_rf (if 0 ≤ k ∧ k < 4 then ar 2 k.toNat else none))) := by
  unfold xR
  refine xe_s (f := (1, _, _, _)) xt_g146 rfl rfl rfl rfl rfl ?_
  refine xe_if_lt xt_g146 rfl (t := 9) rfl (q := 4) rfl (by first | omega | exact xb_r _) (fun b1 => ?_) (fun b1 => ?_)
  · try simp only [xb_0, xb_1, ne_eq, Decidable.not_not, Bool.not_eq_false, Bool.not_eq_true, decide_eq_true_eq, decide_eq_false_iff_not] at b1
    rw [if_neg (fun g => by omega)]
    refine xe_s (f := (10, _, _, _)) xt_g146 rfl rfl rfl rfl rfl ?_
    refine xe_s (f := (19, _, _, _)) xt_g146 rfl rfl rfl rfl rfl ?_
    refine xe_aret xt_g146 rfl (Or.inl ⟨_, rfl⟩) (by first | rfl | exact xm_isA_va) ?_
    exact ⟨rfl, rfl⟩
  · try simp only [xb_0, xb_1, ne_eq, Decidable.not_not, Bool.not_eq_false, Bool.not_eq_true, decide_eq_true_eq, decide_eq_false_iff_not] at b1
    refine xe_s (f := (5, _, _, _)) xt_g146 rfl rfl rfl rfl rfl ?_
    refine xe_s (f := (6, _, xi 4 :: _, _)) xt_g146 rfl rfl rfl rfl rfl ?_
    refine xe_ic_lt xt_g146 rfl (t := 13) rfl (q := 9) rfl (by first | omega | exact xb_r _) (by first | omega | exact xb_r _) (fun b6 => ?_) (fun b6 => ?_)
    · try simp only [xb_0, xb_1, ne_eq, Decidable.not_not, Bool.not_eq_false, Bool.not_eq_true, decide_eq_true_eq, decide_eq_false_iff_not] at b6
      rw [if_pos ⟨by omega, by omega⟩]
      refine xe_s (f := (14, _, _, _)) xt_g146 rfl rfl rfl rfl rfl ?_
      refine xe_gf xt_g146 rfl (q := 17) rfl (xf_0_41 fm) (ko_44) (by omega) rfl rfl ?_
      refine xe_s (f := (18, _, _, _)) xt_g146 rfl rfl rfl rfl rfl ?_
      refine xe_ka_56 xt_g146 rfl (q := 19) rfl (by omega) (by omega) (by omega) ?_
      refine xe_aret xt_g146 rfl (Or.inl ⟨_, rfl⟩) (by first | rfl | exact xm_isA_va) ?_
      exact ⟨rfl, rfl⟩
    · try simp only [xb_0, xb_1, ne_eq, Decidable.not_not, Bool.not_eq_false, Bool.not_eq_true, decide_eq_true_eq, decide_eq_false_iff_not] at b6
      rw [if_neg (fun g => by omega)]
      refine xe_s (f := (10, _, _, _)) xt_g146 rfl rfl rfl rfl rfl ?_
      refine xe_s (f := (19, _, _, _)) xt_g146 rfl rfl rfl rfl rfl ?_
      refine xe_aret xt_g146 rfl (Or.inl ⟨_, rfl⟩) (by first | rfl | exact xm_isA_va) ?_
      exact ⟨rfl, rfl⟩
theorem k150 (hn : 64 ≤ n) {k : Int} (hk : xr k) : xR fm 150 (ko w s p ar v h) n [.ref 44, xi k] (some (va_rf (if 0 ≤ k ∧ k < 16 then ar 3 k.toNat else none))) := by
  unfold xR
  refine xe_s (f := (1, _, _, _)) xt_g150 rfl rfl rfl rfl rfl ?_
  refine xe_if_lt xt_g150 rfl (t := 10) rfl (q := 4) rfl (by first | omega | exact xb_r _) (fun b1 => ?_) (fun b1 => ?_)
  · try simp only [xb_0, xb_1, ne_eq, Decidable.not_not, Bool.not_eq_false, Bool.not_eq_true, decide_eq_true_eq, decide_eq_false_iff_not] at b1
    rw [if_neg (fun g => by omega)]
    refine xe_s (f := (11, _, _, _)) xt_g150 rfl rfl rfl rfl rfl ?_
    refine xe_s (f := (20, _, _, _)) xt_g150 rfl rfl rfl rfl rfl ?_
    refine xe_aret xt_g150 rfl (Or.inl ⟨_, rfl⟩) (by first | rfl | exact xm_isA_va) ?_
    exact ⟨rfl, rfl⟩
  · try simp only [xb_0, xb_1, ne_eq, Decidable.not_not, Bool.not_eq_false, Bool.not_eq_true, decide_eq_true_eq, decide_eq_false_iff_not] at b1
    refine xe_s (f := (5, _, _, _)) xt_g150 rfl rfl rfl rfl rfl ?_
    refine xe_bipush xt_g150 rfl (q := 7) rfl (by decide) (by decide) ?_
    refine xe_ic_lt xt_g150 rfl (t := 14) rfl (q := 10) rfl (by first | omega | exact xb_r _) (by first | omega | exact xb_r _) (fun b7 => ?_) (fun b7 => ?_)
    · try simp only [xb_0, xb_1, ne_eq, Decidable.not_not, Bool.not_eq_false, Bool.not_eq_true, decide_eq_true_eq, decide_eq_false_iff_not] at b7
      rw [if_pos ⟨by omega, by omega⟩]
      refine xe_s (f := (15, _, _, _)) xt_g150 rfl rfl rfl rfl rfl ?_
      refine xe_gf xt_g150 rfl (q := 18) rfl (xf_0_45 fm) (ko_44) (by omega) rfl rfl ?_
      refine xe_s (f := (19, _, _, _)) xt_g150 rfl rfl rfl rfl rfl ?_
      refine xe_ka_57 xt_g150 rfl (q := 20) rfl (by omega) (by omega) (by omega) ?_
      refine xe_aret xt_g150 rfl (Or.inl ⟨_, rfl⟩) (by first | rfl | exact xm_isA_va) ?_
      exact ⟨rfl, rfl⟩
    · try simp only [xb_0, xb_1, ne_eq, Decidable.not_not, Bool.not_eq_false, Bool.not_eq_true, decide_eq_true_eq, decide_eq_false_iff_not] at b7
      rw [if_neg (fun g => by omega)]
      refine xe_s (f := (11, _, _, _)) xt_g150 rfl rfl rfl rfl rfl ?_
      refine xe_s (f := (20, _, _, _)) xt_g150 rfl rfl rfl rfl rfl ?_
      refine xe_aret xt_g150 rfl (Or.inl ⟨_, rfl⟩) (by first | rfl | exact xm_isA_va) ?_
      exact ⟨rfl, rfl⟩
theorem k152 (hn : 64 ≤ n) {k : Int} (hk : xr k) : xR fm 152 (ko w s p ar v h) n [.ref 44, xi k] (some (va_rf (if 0 ≤ k ∧ k < 24 then ar 4 k.toNat else none))) := by
  unfold xR
  refine xe_s (f := (1, _, _, _)) xt_g152 rfl rfl rfl rfl rfl ?_
  refine xe_if_lt xt_g152 rfl (t := 10) rfl (q := 4) rfl (by first | omega | exact xb_r _) (fun b1 => ?_) (fun b1 => ?_)
  · try simp only [xb_0, xb_1, ne_eq, Decidable.not_not, Bool.not_eq_false, Bool.not_eq_true, decide_eq_true_eq, decide_eq_false_iff_not] at b1
    rw [if_neg (fun g => by omega)]
    refine xe_s (f := (11, _, _, _)) xt_g152 rfl rfl rfl rfl rfl ?_
    refine xe_s (f := (20, _, _, _)) xt_g152 rfl rfl rfl rfl rfl ?_
    refine xe_aret xt_g152 rfl (Or.inl ⟨_, rfl⟩) (by first | rfl | exact xm_isA_va) ?_
    exact ⟨rfl, rfl⟩
  · try simp only [xb_0, xb_1, ne_eq, Decidable.not_not, Bool.not_eq_false, Bool.not_eq_true, decide_eq_true_eq, decide_eq_false_iff_not] at b1
    refine xe_s (f := (5, _, _, _)) xt_g152 rfl rfl rfl rfl rfl ?_
    refine xe_bipush xt_g152 rfl (q := 7) rfl (by decide) (by decide) ?_
    refine xe_ic_lt xt_g152 rfl (t := 14) rfl (q := 10) rfl (by first | omega | exact xb_r _) (by first | omega | exact xb_r _) (fun b7 => ?_) (fun b7 => ?_)
    · try simp only [xb_0, xb_1, ne_eq, Decidable.not_not, Bool.not_eq_false, Bool.not_eq_true, decide_eq_true_eq, decide_eq_false_iff_not] at b7
      rw [if_pos ⟨by omega, by omega⟩]
      refine xe_s (f := (15, _, _, _)) xt_g152 rfl rfl rfl rfl rfl ?_
      refine xe_gf xt_g152 rfl (q := 18) rfl (xf_0_50 fm) (ko_44) (by omega) rfl rfl ?_
      refine xe_s (f := (19, _, _, _)) xt_g152 rfl rfl rfl rfl rfl ?_
      refine xe_ka_58 xt_g152 rfl (q := 20) rfl (by omega) (by omega) (by omega) ?_
      refine xe_aret xt_g152 rfl (Or.inl ⟨_, rfl⟩) (by first | rfl | exact xm_isA_va) ?_
      exact ⟨rfl, rfl⟩
    · try simp only [xb_0, xb_1, ne_eq, Decidable.not_not, Bool.not_eq_false, Bool.not_eq_true, decide_eq_true_eq, decide_eq_false_iff_not] at b7
      rw [if_neg (fun g => by omega)]
      refine xe_s (f := (11, _, _, _)) xt_g152 rfl rfl rfl rfl rfl ?_
      refine xe_s (f := (20, _, _, _)) xt_g152 rfl rfl rfl rfl rfl ?_
      refine xe_aret xt_g152 rfl (Or.inl ⟨_, rfl⟩) (by first | rfl | exact xm_isA_va) ?_
      exact ⟨rfl, rfl⟩
/-- free places -/
theorem k126_l (hn : 64 ≤ n) : ∀ (m i : Nat), i + m = 4 → xe fm 126 (2, [(1, xi (i : Int)), (0, .ref 44)], [], (ko w s p ar v h, n, 0, 0)) (fun q M => q = .inl (some (xi (xd_first (fun j => (ar 2 j.toNat).isNone) m i))) ∧ M = (ko w s p ar v h, n, 0, 0)) := by
  intro m
  induction m with
  | zero =>
    intro i hi
    refine xe_s (f := (3, _, _, _)) xt_g126 rfl rfl rfl rfl rfl ?_
    refine xe_s (f := (4, _, xi 4 :: _, _)) xt_g126 rfl rfl rfl rfl rfl ?_
    refine xe_ic_ge xt_g126 rfl (t := 24) rfl (q := 7) rfl (by first | omega | exact xb_r _) (by first | omega | exact xb_r _) (fun b4 => ?_) (fun b4 => ?_)
    · try simp only [xb_0, xb_1, ne_eq, Decidable.not_not, Bool.not_eq_false, Bool.not_eq_true, decide_eq_true_eq, decide_eq_false_iff_not] at b4
      refine xe_s (f := (25, _, xi (-1) :: _, _)) xt_g126 rfl rfl rfl rfl rfl ?_
      refine xe_iret xt_g126 rfl rfl xi_int.1 ?_
      exact ⟨rfl, rfl⟩
    · exact absurd b4 (by omega)
  | succ m ih =>
    intro i hi
    unfold xd_first
    rw [Int.toNat_natCast]
    refine xe_s (f := (3, _, _, _)) xt_g126 rfl rfl rfl rfl rfl ?_
    refine xe_s (f := (4, _, xi 4 :: _, _)) xt_g126 rfl rfl rfl rfl rfl ?_
    refine xe_ic_ge xt_g126 rfl (t := 24) rfl (q := 7) rfl (by first | omega | exact xb_r _) (by first | omega | exact xb_r _) (fun b4 => ?_) (fun b4 => ?_)
    · exact absurd b4 (by omega)
    · try simp only [xb_0, xb_1, ne_eq, Decidable.not_not, Bool.not_eq_false, Bool.not_eq_true, decide_eq_true_eq, decide_eq_false_iff_not] at b4
      refine xe_s (f := (8, _, _, _)) xt_g126 rfl rfl rfl rfl rfl ?_
      refine xe_gf xt_g126 rfl (q := 11) rfl (xf_0_41 fm) (ko_44) (by omega) rfl rfl ?_
      refine xe_s (f := (12, _, _, _)) xt_g126 rfl rfl rfl rfl rfl ?_
      refine xe_ka_56 xt_g126 rfl (q := 13) rfl (by omega) (by omega) (by omega) ?_
      rw [Int.toNat_natCast]
      refine xe_ifno xt_g126 rfl (t := 18) rfl (q := 16) rfl (fun x13 b13 => ?_) (fun b13 => ?_)
      · rw [b13, show (some x13 : Option Nat).isNone = false from rfl, if_neg (by decide)]
        refine xe_iinc xt_g126 rfl (q := 21) rfl rfl (by decide) (L1 := [(1, _), (0, _)]) rfl ?_
        refine xe_s (f := (2, _, _, _)) xt_g126 rfl rfl rfl rfl rfl ?_
        have g := ih (i + 1) (by omega)
        rw [show ((i + 1 : Nat) : Int) = (i : Int) + 1 by omega] at g
        exact xe_loc (by intro q hq; simp only [List.mem_cons, List.not_mem_nil, or_false] at hq; rcases hq with rfl | rfl <;> rfl) (g)
      · rw [b13, show (none : Option Nat).isNone = true from rfl, if_pos rfl]
        refine xe_s (f := (17, _, _, _)) xt_g126 rfl rfl rfl rfl rfl ?_
        refine xe_iret xt_g126 rfl rfl xi_int.1 ?_
        exact ⟨rfl, rfl⟩
theorem k126 (hn : 64 ≤ n) : xR fm 126 (ko w s p ar v h) n [.ref 44] (some (xi (xd_first (fun j => (ar 2 j.toNat).isNone) 4 0))) := by
  unfold xR
  refine xe_s (f := (1, _, xi 0 :: _, _)) xt_g126 rfl rfl rfl rfl rfl ?_
  refine xe_s (f := (2, [(1, _), (0, _)], _, _)) xt_g126 rfl rfl rfl rfl rfl ?_
  exact xe_loc (by intro q hq; simp only [List.mem_cons, List.not_mem_nil, or_false] at hq; rcases hq with rfl | rfl <;> rfl) ((k126_l hn 4 0 rfl))
theorem k127_l (hn : 64 ≤ n) : ∀ (m i : Nat), i + m = 16 → xe fm 127 (2, [(1, xi (i : Int)), (0, .ref 44)], [], (ko w s p ar v h, n, 0, 0)) (fun q M => q = .inl (some (xi (xd_first (fun j => (ar 3 j.toNat).isNone) m i))) ∧ M = (ko w s p ar v h, n, 0, 0)) := by
  intro m
  induction m with
  | zero =>
    intro i hi
    refine xe_s (f := (3, _, _, _)) xt_g127 rfl rfl rfl rfl rfl ?_
    refine xe_bipush xt_g127 rfl (q := 5) rfl (by decide) (by decide) ?_
    refine xe_ic_ge xt_g127 rfl (t := 25) rfl (q := 8) rfl (by first | omega | exact xb_r _) (by first | omega | exact xb_r _) (fun b5 => ?_) (fun b5 => ?_)
    · try simp only [xb_0, xb_1, ne_eq, Decidable.not_not, Bool.not_eq_false, Bool.not_eq_true, decide_eq_true_eq, decide_eq_false_iff_not] at b5
      refine xe_s (f := (26, _, xi (-1) :: _, _)) xt_g127 rfl rfl rfl rfl rfl ?_
      refine xe_iret xt_g127 rfl rfl xi_int.1 ?_
      exact ⟨rfl, rfl⟩
    · exact absurd b5 (by omega)
  | succ m ih =>
    intro i hi
    unfold xd_first
    rw [Int.toNat_natCast]
    refine xe_s (f := (3, _, _, _)) xt_g127 rfl rfl rfl rfl rfl ?_
    refine xe_bipush xt_g127 rfl (q := 5) rfl (by decide) (by decide) ?_
    refine xe_ic_ge xt_g127 rfl (t := 25) rfl (q := 8) rfl (by first | omega | exact xb_r _) (by first | omega | exact xb_r _) (fun b5 => ?_) (fun b5 => ?_)
    · exact absurd b5 (by omega)
    · try simp only [xb_0, xb_1, ne_eq, Decidable.not_not, Bool.not_eq_false, Bool.not_eq_true, decide_eq_true_eq, decide_eq_false_iff_not] at b5
      refine xe_s (f := (9, _, _, _)) xt_g127 rfl rfl rfl rfl rfl ?_
      refine xe_gf xt_g127 rfl (q := 12) rfl (xf_0_45 fm) (ko_44) (by omega) rfl rfl ?_
      refine xe_s (f := (13, _, _, _)) xt_g127 rfl rfl rfl rfl rfl ?_
      refine xe_ka_57 xt_g127 rfl (q := 14) rfl (by omega) (by omega) (by omega) ?_
      rw [Int.toNat_natCast]
      refine xe_ifno xt_g127 rfl (t := 19) rfl (q := 17) rfl (fun x14 b14 => ?_) (fun b14 => ?_)
      · rw [b14, show (some x14 : Option Nat).isNone = false from rfl, if_neg (by decide)]
        refine xe_iinc xt_g127 rfl (q := 22) rfl rfl (by decide) (L1 := [(1, _), (0, _)]) rfl ?_
        refine xe_s (f := (2, _, _, _)) xt_g127 rfl rfl rfl rfl rfl ?_
        have g := ih (i + 1) (by omega)
        rw [show ((i + 1 : Nat) : Int) = (i : Int) + 1 by omega] at g
        exact xe_loc (by intro q hq; simp only [List.mem_cons, List.not_mem_nil, or_false] at hq; rcases hq with rfl | rfl <;> rfl) (g)
      · rw [b14, show (none : Option Nat).isNone = true from rfl, if_pos rfl]
        refine xe_s (f := (18, _, _, _)) xt_g127 rfl rfl rfl rfl rfl ?_
        refine xe_iret xt_g127 rfl rfl xi_int.1 ?_
        exact ⟨rfl, rfl⟩
theorem k127 (hn : 64 ≤ n) : xR fm 127 (ko w s p ar v h) n [.ref 44] (some (xi (xd_first (fun j => (ar 3 j.toNat).isNone) 16 0))) := by
  unfold xR
  refine xe_s (f := (1, _, xi 0 :: _, _)) xt_g127 rfl rfl rfl rfl rfl ?_
  refine xe_s (f := (2, [(1, _), (0, _)], _, _)) xt_g127 rfl rfl rfl rfl rfl ?_
  exact xe_loc (by intro q hq; simp only [List.mem_cons, List.not_mem_nil, or_false] at hq; rcases hq with rfl | rfl <;> rfl) ((k127_l hn 16 0 rfl))
theorem k128_l (hn : 64 ≤ n) : ∀ (m i : Nat), i + m = 24 → xe fm 128 (2, [(1, xi (i : Int)), (0, .ref 44)], [], (ko w s p ar v h, n, 0, 0)) (fun q M => q = .inl (some (xi (xd_first (fun j => (ar 4 j.toNat).isNone) m i))) ∧ M = (ko w s p ar v h, n, 0, 0)) := by
  intro m
  induction m with
  | zero =>
    intro i hi
    refine xe_s (f := (3, _, _, _)) xt_g128 rfl rfl rfl rfl rfl ?_
    refine xe_bipush xt_g128 rfl (q := 5) rfl (by decide) (by decide) ?_
    refine xe_ic_ge xt_g128 rfl (t := 25) rfl (q := 8) rfl (by first | omega | exact xb_r _) (by first | omega | exact xb_r _) (fun b5 => ?_) (fun b5 => ?_)
    · try simp only [xb_0, xb_1, ne_eq, Decidable.not_not, Bool.not_eq_false, Bool.not_eq_true, decide_eq_true_eq, decide_eq_false_iff_not] at b5
      refine xe_s (f := (26, _, xi (-1) :: _, _)) xt_g128 rfl rfl rfl rfl rfl ?_
      refine xe_iret xt_g128 rfl rfl xi_int.1 ?_
      exact ⟨rfl, rfl⟩
    · exact absurd b5 (by omega)
  | succ m ih =>
    intro i hi
    unfold xd_first
    rw [Int.toNat_natCast]
    refine xe_s (f := (3, _, _, _)) xt_g128 rfl rfl rfl rfl rfl ?_
    refine xe_bipush xt_g128 rfl (q := 5) rfl (by decide) (by decide) ?_
    refine xe_ic_ge xt_g128 rfl (t := 25) rfl (q := 8) rfl (by first | omega | exact xb_r _) (by first | omega | exact xb_r _) (fun b5 => ?_) (fun b5 => ?_)
    · exact absurd b5 (by omega)
    · try simp only [xb_0, xb_1, ne_eq, Decidable.not_not, Bool.not_eq_false, Bool.not_eq_true, decide_eq_true_eq, decide_eq_false_iff_not] at b5
      refine xe_s (f := (9, _, _, _)) xt_g128 rfl rfl rfl rfl rfl ?_
      refine xe_gf xt_g128 rfl (q := 12) rfl (xf_0_50 fm) (ko_44) (by omega) rfl rfl ?_
      refine xe_s (f := (13, _, _, _)) xt_g128 rfl rfl rfl rfl rfl ?_
      refine xe_ka_58 xt_g128 rfl (q := 14) rfl (by omega) (by omega) (by omega) ?_
      rw [Int.toNat_natCast]
      refine xe_ifno xt_g128 rfl (t := 19) rfl (q := 17) rfl (fun x14 b14 => ?_) (fun b14 => ?_)
      · rw [b14, show (some x14 : Option Nat).isNone = false from rfl, if_neg (by decide)]
        refine xe_iinc xt_g128 rfl (q := 22) rfl rfl (by decide) (L1 := [(1, _), (0, _)]) rfl ?_
        refine xe_s (f := (2, _, _, _)) xt_g128 rfl rfl rfl rfl rfl ?_
        have g := ih (i + 1) (by omega)
        rw [show ((i + 1 : Nat) : Int) = (i : Int) + 1 by omega] at g
        exact xe_loc (by intro q hq; simp only [List.mem_cons, List.not_mem_nil, or_false] at hq; rcases hq with rfl | rfl <;> rfl) (g)
      · rw [b14, show (none : Option Nat).isNone = true from rfl, if_pos rfl]
        refine xe_s (f := (18, _, _, _)) xt_g128 rfl rfl rfl rfl rfl ?_
        refine xe_iret xt_g128 rfl rfl xi_int.1 ?_
        exact ⟨rfl, rfl⟩
theorem k128 (hn : 64 ≤ n) : xR fm 128 (ko w s p ar v h) n [.ref 44] (some (xi (xd_first (fun j => (ar 4 j.toNat).isNone) 24 0))) := by
  unfold xR
  refine xe_s (f := (1, _, xi 0 :: _, _)) xt_g128 rfl rfl rfl rfl rfl ?_
  refine xe_s (f := (2, [(1, _), (0, _)], _, _)) xt_g128 rfl rfl rfl rfl rfl ?_
  exact xe_loc (by intro q hq; simp only [List.mem_cons, List.not_mem_nil, or_false] at hq; rcases hq with rfl | rfl <;> rfl) ((k128_l hn 24 0 rfl))
/-- sameOrigin -/
theorem k178 (HA : aO w h n x A) (HB : aO w h n y B) : xR fm 178 (ko w s p ar v h) n [.ref x, .ref y] (some (xi (xb (decide (pa_hd A = pa_hd B))))) := by
  obtain ⟨ho, pp, qu, te, d1, d2, d3, d4, d5, d6, d7, d8, d9⟩ := HA
  obtain ⟨ho', pp', qu', te', d1', d2', d3', d4', d5', d6', d7', d8', d9'⟩ := HB
  have X1 := (ko_d (w := w) (s := s) (p := p) (ar := ar) (v := v) d2.1).trans d1
  have X2 := (ko_d (w := w) (s := s) (p := p) (ar := ar) (v := v) d2'.1).trans d1'
  obtain ⟨fs, F1, _, _, _⟩ := sS_at d5
  have inj := pa_hd_inj d9 d9'
  have y1 := xb_or A.1
  have y2 := xb_or B.1
  have pr1 := d9.2.2.2.2.2.1
  have pr2 := d9.2.2.2.2.2.2.1
  have pr3 := d9'.2.2.2.2.2.1
  have pr4 := d9'.2.2.2.2.2.2.1
  have bi : ∀ a b : Bool, xb a = xb b → a = b := by decide
  unfold xR
  refine xe_s (f := (1, _, _, _)) xt_g178 rfl rfl rfl rfl rfl ?_
  refine xe_s (f := (4, _, _, _)) xt_g178 rfl rfl rfl rfl rfl ?_
  refine xe_s (f := (5, _, _, _)) xt_g178 rfl rfl rfl rfl rfl ?_
  refine xe_gf xt_g178 rfl (q := 8) rfl (xf_1_7 fm) (X1) (by omega) rfl rfl ?_
  refine xe_s (f := (9, _, _, _)) xt_g178 rfl rfl rfl rfl rfl ?_
  refine xe_gf xt_g178 rfl (q := 12) rfl (xf_1_7 fm) (X2) (by omega) rfl rfl ?_
  refine xe_ic_ne xt_g178 rfl (t := 44) rfl (q := 15) rfl (by first | omega | exact xb_r _) (by first | omega | exact xb_r _) (fun b12 => ?_) (fun b12 => ?_)
  · try simp only [xb_0, xb_1, ne_eq, Decidable.not_not, Bool.not_eq_false, Bool.not_eq_true, decide_eq_true_eq, decide_eq_false_iff_not] at b12
    rw [decide_eq_false (fun g => b12 (by rw [(inj.mp g).1]))]
    refine xe_s (f := (45, _, xi 0 :: _, _)) xt_g178 rfl rfl rfl rfl rfl ?_
    refine xe_iret xt_g178 rfl rfl (xi_bool (by first | omega | exact xb_or _)).1 ?_
    exact ⟨rfl, rfl⟩
  · try simp only [xb_0, xb_1, ne_eq, Decidable.not_not, Bool.not_eq_false, Bool.not_eq_true, decide_eq_true_eq, decide_eq_false_iff_not] at b12
    refine xe_s (f := (16, _, _, _)) xt_g178 rfl rfl rfl rfl rfl ?_
    refine xe_gf xt_g178 rfl (q := 19) rfl (xf_1_17 fm) (X1) (by omega) rfl rfl ?_
    refine xe_s (f := (20, _, _, _)) xt_g178 rfl rfl rfl rfl rfl ?_
    refine xe_gf xt_g178 rfl (q := 23) rfl (xf_1_17 fm) (X2) (by omega) rfl rfl ?_
    refine xe_ic_ne xt_g178 rfl (t := 44) rfl (q := 26) rfl (by first | omega | exact xb_r _) (by first | omega | exact xb_r _) (fun b23 => ?_) (fun b23 => ?_)
    · try simp only [xb_0, xb_1, ne_eq, Decidable.not_not, Bool.not_eq_false, Bool.not_eq_true, decide_eq_true_eq, decide_eq_false_iff_not] at b23
      rw [decide_eq_false (fun g => b23 (inj.mp g).2.1)]
      refine xe_s (f := (45, _, xi 0 :: _, _)) xt_g178 rfl rfl rfl rfl rfl ?_
      refine xe_iret xt_g178 rfl rfl (xi_bool (by first | omega | exact xb_or _)).1 ?_
      exact ⟨rfl, rfl⟩
    · try simp only [xb_0, xb_1, ne_eq, Decidable.not_not, Bool.not_eq_false, Bool.not_eq_true, decide_eq_true_eq, decide_eq_false_iff_not] at b23
      refine xe_s (f := (27, _, _, _)) xt_g178 rfl rfl rfl rfl rfl ?_
      refine xe_gf xt_g178 rfl (q := 30) rfl (xf_1_13 fm) (X1) (by omega) rfl rfl ?_
      refine xe_s (f := (31, _, _, _)) xt_g178 rfl rfl rfl rfl rfl ?_
      refine xe_gf xt_g178 rfl (q := 34) rfl (xf_1_13 fm) (X2) (by omega) rfl rfl ?_
      refine xe_cR xt_g178 rfl rfl rfl (q := 37) rfl (kc_V xk_1_30 rfl (F1 _ _ _ _ _) (by omega) rfl rfl) xt_g92 (by decide) ⟨Nat.le_of_ble_eq_true rfl, Nat.le_of_ble_eq_true rfl, Nat.le_of_ble_eq_true rfl⟩ (s92 (sS_ko d5) (sS_ko d5')) ?_
      refine xe_if_eq xt_g178 rfl (t := 44) rfl (q := 40) rfl (by first | omega | exact xb_r _) (fun b37 => ?_) (fun b37 => ?_)
      · try simp only [xb_0, xb_1, ne_eq, Decidable.not_not, Bool.not_eq_false, Bool.not_eq_true, decide_eq_true_eq, decide_eq_false_iff_not] at b37
        rw [decide_eq_false (fun g => b37 (inj.mp g).2.2)]
        refine xe_s (f := (45, _, xi 0 :: _, _)) xt_g178 rfl rfl rfl rfl rfl ?_
        refine xe_iret xt_g178 rfl rfl (xi_bool (by first | omega | exact xb_or _)).1 ?_
        exact ⟨rfl, rfl⟩
      · try simp only [xb_0, xb_1, ne_eq, Decidable.not_not, Bool.not_eq_false, Bool.not_eq_true, decide_eq_true_eq, decide_eq_false_iff_not] at b37
        rw [decide_eq_true (inj.mpr ⟨bi _ _ b12, b23, b37⟩)]
        refine xe_s (f := (41, _, xi 1 :: _, _)) xt_g178 rfl rfl rfl rfl rfl ?_
        refine xe_s (f := (45, _, _, _)) xt_g178 rfl rfl rfl rfl rfl ?_
        refine xe_iret xt_g178 rfl rfl (xi_bool (by first | omega | exact xb_or _)).1 ?_
        exact ⟨rfl, rfl⟩
theorem k178n : xR fm 178 (ko w s p ar v h) n [.ref x, .null] (some (xi 0)) := by
  unfold xR
  refine xe_s (f := (1, _, _, _)) xt_g178 rfl rfl rfl rfl rfl ?_
  refine xe_s (f := (44, _, _, _)) xt_g178 rfl rfl rfl rfl rfl ?_
  refine xe_s (f := (45, _, xi 0 :: _, _)) xt_g178 rfl rfl rfl rfl rfl ?_
  refine xe_iret xt_g178 rfl rfl (xi_bool (by first | omega | exact xb_or _)).1 ?_
  exact ⟨rfl, rfl⟩
/-- isFetch -/
theorem k133 {R : Nat} (H : rqO w h n fx R q y) : xR fm 133 (ko w s p ar v h) n [.ref y] (some (xi (xb q.2.1.isSome))) := by
  obtain ⟨fo, ad, ak, lf, la, lw, a1, a2, a3, a4, a5, a6, a7, a8, a9⟩ := H
  have X1 := (ko_d (w := w) (s := s) (p := p) (ar := ar) (v := v) a2.1).trans a1
  have mo : (q.2.1 = none ∧ mq_mo q = -1) ∨ (∃ z, q.2.1 = some z ∧ mq_mo q = z.1 ∧ 0 ≤ z.1 ∧ z.1 ≤ 2) := by
    unfold mq_mo
    cases e : q.2.1 with
    | none => exact Or.inl ⟨rfl, rfl⟩
    | some z => exact Or.inr ⟨z, rfl, rfl, (a7 z e).1⟩
  have mr : xr (mq_mo q) := by
    rcases mo with ⟨_, e⟩ | ⟨z, _, e, e1, e2⟩ <;> omega
  unfold xR
  refine xe_s (f := (1, _, _, _)) xt_g133 rfl rfl rfl rfl rfl ?_
  refine xe_gf xt_g133 rfl (q := 4) rfl (xf_8_23 fm) (X1) (by omega) rfl rfl ?_
  refine xe_s (f := (5, _, xi (-1) :: _, _)) xt_g133 rfl rfl rfl rfl rfl ?_
  refine xe_ic_eq xt_g133 rfl (t := 12) rfl (q := 8) rfl (by first | omega | exact xb_r _) (by first | omega | exact xb_r _) (fun b5 => ?_) (fun b5 => ?_)
  · try simp only [xb_0, xb_1, ne_eq, Decidable.not_not, Bool.not_eq_false, Bool.not_eq_true, decide_eq_true_eq, decide_eq_false_iff_not] at b5
    have e : q.2.1.isSome = false := by
      rcases mo with ⟨e, _⟩ | ⟨z, e, e0, e1, e2⟩
      · rw [e]; rfl
      · omega
    rw [e]
    refine xe_s (f := (13, _, xi 0 :: _, _)) xt_g133 rfl rfl rfl rfl rfl ?_
    refine xe_iret xt_g133 rfl rfl (xi_bool (by first | omega | exact xb_or _)).1 ?_
    exact ⟨rfl, rfl⟩
  · try simp only [xb_0, xb_1, ne_eq, Decidable.not_not, Bool.not_eq_false, Bool.not_eq_true, decide_eq_true_eq, decide_eq_false_iff_not] at b5
    have e : q.2.1.isSome = true := by
      rcases mo with ⟨_, e⟩ | ⟨z, e, e0, e1, e2⟩
      · omega
      · rw [e]; rfl
    rw [e]
    refine xe_s (f := (9, _, xi 1 :: _, _)) xt_g133 rfl rfl rfl rfl rfl ?_
    refine xe_s (f := (13, _, _, _)) xt_g133 rfl rfl rfl rfl rfl ?_
    refine xe_iret xt_g133 rfl rfl (xi_bool (by first | omega | exact xb_or _)).1 ?_
    exact ⟨rfl, rfl⟩
/-- show -/
theorem k148 (hn : 64 ≤ n) (H : sS (gd w) h n r l) : xI fm 148 (ko w s p ar v h) n [.ref 44, .ref r] (fun z h' n' u' => z = l.length ∧ h' = ko w s (pu p 3 r) ar v h ∧ n' = n ∧ u' = 0) := by
  obtain ⟨fs, F1, _, _, _⟩ := sS_at H
  unfold xI
  refine xe_s (f := (1, _, _, _)) xt_g148 rfl rfl rfl rfl rfl ?_
  refine xe_s (f := (2, _, _, _)) xt_g148 rfl rfl rfl rfl rfl ?_
  refine xe_kp_0_11 xt_g148 rfl (q := 5) rfl (xf_0_60 fm) (by omega) ?_
  refine xe_s (f := (6, _, _, _)) xt_g148 rfl rfl rfl rfl rfl ?_
  refine xe_cR xt_g148 rfl rfl rfl (q := 9) rfl (kc_V xk_0_105 rfl (F1 _ _ _ _ _) (by omega) rfl rfl) xt_g31 (by decide) ⟨Nat.le_of_ble_eq_true rfl, Nat.le_of_ble_eq_true rfl, Nat.le_of_ble_eq_true rfl⟩ (s31 (sS_ko H)) ?_
  refine xe_iret xt_g148 rfl rfl xi_int.1 ?_
  try dsimp only
  exact ⟨_, rfl, rfl, rfl, rfl, rfl⟩
end XBI
