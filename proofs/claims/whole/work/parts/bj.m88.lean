/-! frames and requests -/
theorem mk_txt_t {b : Bool} : ∀ (G : List ck_T), mk_txt G true b = mk_txt G true false
  | [] => rfl
  | c :: G => by
    rw [mk_txt, mk_txt, mk_txt_t G]
    rfl
theorem mk_txt_b {G : List ck_T} : mk_txt G false true = if G.isEmpty = true then [] else 32 :: mk_txt G false false := by
  cases G with
  | nil => rfl
  | cons c G =>
    rw [if_neg (by simp), mk_txt, mk_txt, mk_txt_t G]
    unfold mk_one
    simp
/-- what holds of frames, tabs and requests -/
def mI (u : mu_T) (dp : Nat → Nat) : Prop := mi_tr (mu_fr u) dp ∧ (∀ r, r < 24 → ∀ q, mu_rq u r = some q → 0 ≤ q.1 ∧ q.1 < 16 ∧ (mu_fr u q.1.toNat).isSome = true) ∧ (∀ r r' q q', r < 24 → r' < 24 → mu_rq u r = some q → mu_rq u r' = some q' → q.2.1 = none → q'.2.1 = none → q.1 = q'.1 → r = r') ∧ (∀ f, f < 16 → ∀ x, mu_fr u f = some x → 0 ≤ x.1 ∧ x.1 < 4 ∧ -1 ≤ x.2.1 ∧ mu_tb u x.1.toNat = true) ∧ (∀ i, i < 4 → mu_tb u i = true → ∃ f x, f < 16 ∧ mu_fr u f = some x ∧ x.1 = (i : Int) ∧ x.2.1 < 0) ∧ (∀ f g x y, f < 16 → g < 16 → mu_fr u f = some x → mu_fr u g = some y → x.2.1 < 0 → y.2.1 < 0 → x.1 = y.1 → f = g) ∧ (0 ≤ mu_fo u → mu_fo u < 4 ∧ mu_tb u (mu_fo u).toNat = true)
theorem note_srq {u : mu_T} {X : Nat → Option mq_T} {k a b : Int} {t : List Int} : mu_note (mu_srq u X) k a b t = mu_srq (mu_note u k a b t) X := by
  unfold mu_note
  split
  · rename_i h
    have h : (mu_ms u).length < 200 := h
    rw [if_pos h]
    rfl
  · rename_i h
    have h : ¬ (mu_ms u).length < 200 := h
    rw [if_neg h]
theorem fit_va {C : String} {o : Option Nat} : narrow (.object C) (va_rf o) = va_rf o ∧ fits (.object C) (va_rf o) = true := by
  cases o <;> exact ⟨rfl, rfl⟩
theorem xd_first_t {p : Int → Bool} {N : Nat} {k : Int} (h : p k = true) : xd_first p (N + 1) k = k := by
  unfold xd_first
  rw [if_pos h]
theorem xd_first_f {p : Int → Bool} {N : Nat} {k : Int} (h : p k = false) : xd_first p (N + 1) k = xd_first p N (k + 1) := by
  rw [xd_first, if_neg (by rw [h]; decide)]
section XBJ
variable {fm : Value} {w w' w1 w2 : kW} {s s' s1 s2 : Nat → Int} {p p' p1 p2 : Nat → Nat} {ar ar' : Nat → Nat → Option Nat} {v : Nat → Int} {h h' h1 h2 : xm_H} {n n' n1 n2 r k k' u' u1 u2 x y a R : Nat} {l D W P N V : List Int} {L : List (List Int)} {A B : pa_A} {q : mq_T} {f : ck_T} {C : List ck_T} {t t' t1 t2 : Nat → List Int} {kc kc' kc1 kc2 : Nat → Nat} {u : mu_T} {dp : Nat → Nat} {fx : Nat → Option Nat} {m : ms_T} {M : List ms_T} {O : List pa_A} {fr : Nat → Option mf_T} {rq : Nat → Option mq_T}
theorem xi_n16 : ∀ f g : Fin 16, (xi (f.val : Int)) = xi (g.val : Int) → f = g := by decide
theorem xi_nat16 {f g : Nat} (hf : f < 16) (hg : g < 16) (e : xi (f : Int) = xi (g : Int)) : f = g := congrArg Fin.val (xi_n16 ⟨f, hf⟩ ⟨g, hg⟩ e)
theorem fr_inj {F G : Nat} {X Y : mf_T} {d d' : Nat} (hF : F < 16) (hG : G < 16) (a : frO w h n fx F X d r) (b : frO w h n fx G Y d' r) : F = G := by
  obtain ⟨ad, a1, _⟩ := a
  obtain ⟨ad', b1, _⟩ := b
  rw [a1] at b1
  injection b1 with b1
  injection b1 with _ b1
  injection b1 with b1 _
  exact xi_nat16 hF hG b1
/-- new Frame -/
theorem k130 {f0 f1 f2 f3 : Value} {z1 z2 d : Int} {pa : Option Nat} (ha : h x = .inr (9, [f0, f1, f2, f3, .null])) (h44 : 44 ≤ x) (hx : x < n) (hp : ∀ q, pa = some q → q < n ∧ q ≠ x ∧ ∃ g0 g1 g2 g4, h q = .inr (9, [g0, g1, g2, xi d, g4])) : xN fm 130 h n [.ref x, xi z1, xi z2, va_rf pa] (fun h' n' u' => h' = va_up h x (.inr (9, [xi z1, xi z2, va_rf pa, xi (if pa.isNone = true then 1 else d + 1), .null])) ∧ n' = n ∧ u' = 0) := by
  unfold xN
  cases pa with
  | none =>
    refine xe_s (f := (1, _, _, _)) xt_g130 rfl rfl rfl rfl rfl ?_
    refine xe_obj xt_g130 rfl (q := 4) rfl xz0_5_1 (xp_5_1 fm) (Nat.le_of_ble_eq_true rfl) ?_
    refine xe_s (f := (5, _, _, _)) xt_g130 rfl rfl rfl rfl rfl ?_
    refine xe_s (f := (6, _, _, _)) xt_g130 rfl rfl rfl rfl rfl ?_
    refine xe_pf xt_g130 rfl (q := 9) rfl (xf_5_7 fm) (ha) (by omega) (by omega) rfl (Nat.le_of_ble_eq_true rfl) (Nat.le_of_ble_eq_true rfl) xi_int (Or.inr ⟨by decide, rfl⟩) ?_
    refine xe_s (f := (10, _, _, _)) xt_g130 rfl rfl rfl rfl rfl ?_
    refine xe_s (f := (11, _, _, _)) xt_g130 rfl rfl rfl rfl rfl ?_
    refine xe_pf xt_g130 rfl (q := 14) rfl (xf_5_13 fm) (va_up_s) (by omega) (by omega) rfl (Nat.le_of_ble_eq_true rfl) (Nat.le_of_ble_eq_true rfl) xi_int (Or.inr ⟨by decide, rfl⟩) ?_
    refine xe_s (f := (15, _, _, _)) xt_g130 rfl rfl rfl rfl rfl ?_
    refine xe_s (f := (16, _, _, _)) xt_g130 rfl rfl rfl rfl rfl ?_
    refine xe_pf xt_g130 rfl (q := 19) rfl (xf_5_16 fm) (va_up_s) (by omega) (by omega) rfl (Nat.le_of_ble_eq_true rfl) (Nat.le_of_ble_eq_true rfl) ⟨rfl, rfl⟩ (Or.inr ⟨by decide, rfl⟩) ?_
    refine xe_s (f := (20, _, _, _)) xt_g130 rfl rfl rfl rfl rfl ?_
    refine xe_s (f := (21, _, _, _)) xt_g130 rfl rfl rfl rfl rfl ?_
    refine xe_s (f := (24, _, _, _)) xt_g130 rfl rfl rfl rfl rfl ?_
    refine xe_s (f := (25, _, xi 1 :: _, _)) xt_g130 rfl rfl rfl rfl rfl ?_
    refine xe_s (f := (34, _, _, _)) xt_g130 rfl rfl rfl rfl rfl ?_
    refine xe_pf xt_g130 rfl (q := 37) rfl (xf_5_20 fm) (va_up_s) (by omega) (by omega) rfl (Nat.le_of_ble_eq_true rfl) (Nat.le_of_ble_eq_true rfl) xi_int (Or.inr ⟨by decide, rfl⟩) ?_
    refine xe_ret xt_g130 rfl rfl ?_
    try dsimp only
    rw [va_uu, va_uu, va_uu]
    exact ⟨rfl, rfl, rfl, rfl⟩
  | some x21 =>
    obtain ⟨q1, q2, g0, g1, g2, g4, q3⟩ := hp x21 rfl
    refine xe_s (f := (1, _, _, _)) xt_g130 rfl rfl rfl rfl rfl ?_
    refine xe_obj xt_g130 rfl (q := 4) rfl xz0_5_1 (xp_5_1 fm) (Nat.le_of_ble_eq_true rfl) ?_
    refine xe_s (f := (5, _, _, _)) xt_g130 rfl rfl rfl rfl rfl ?_
    refine xe_s (f := (6, _, _, _)) xt_g130 rfl rfl rfl rfl rfl ?_
    refine xe_pf xt_g130 rfl (q := 9) rfl (xf_5_7 fm) (ha) (by omega) (by omega) rfl (Nat.le_of_ble_eq_true rfl) (Nat.le_of_ble_eq_true rfl) xi_int (Or.inr ⟨by decide, rfl⟩) ?_
    refine xe_s (f := (10, _, _, _)) xt_g130 rfl rfl rfl rfl rfl ?_
    refine xe_s (f := (11, _, _, _)) xt_g130 rfl rfl rfl rfl rfl ?_
    refine xe_pf xt_g130 rfl (q := 14) rfl (xf_5_13 fm) (va_up_s) (by omega) (by omega) rfl (Nat.le_of_ble_eq_true rfl) (Nat.le_of_ble_eq_true rfl) xi_int (Or.inr ⟨by decide, rfl⟩) ?_
    refine xe_s (f := (15, _, _, _)) xt_g130 rfl rfl rfl rfl rfl ?_
    refine xe_s (f := (16, _, _, _)) xt_g130 rfl rfl rfl rfl rfl ?_
    refine xe_pf xt_g130 rfl (q := 19) rfl (xf_5_16 fm) (va_up_s) (by omega) (by omega) rfl (Nat.le_of_ble_eq_true rfl) (Nat.le_of_ble_eq_true rfl) ⟨rfl, rfl⟩ (Or.inr ⟨by decide, rfl⟩) ?_
    refine xe_s (f := (20, _, _, _)) xt_g130 rfl rfl rfl rfl rfl ?_
    refine xe_s (f := (21, _, _, _)) xt_g130 rfl rfl rfl rfl rfl ?_
    refine xe_s (f := (28, _, _, _)) xt_g130 rfl rfl rfl rfl rfl ?_
    refine xe_s (f := (29, _, _, _)) xt_g130 rfl rfl rfl rfl rfl ?_
    refine xe_gf xt_g130 rfl (q := 32) rfl (xf_5_20 fm) ((va_up_n q2).trans ((va_up_n q2).trans ((va_up_n q2).trans q3))) (by omega) rfl rfl ?_
    refine xe_s (f := (33, _, xi 1 :: _, _)) xt_g130 rfl rfl rfl rfl rfl ?_
    refine xe_iadd xt_g130 rfl (q := 34) rfl ?_
    refine xe_pf xt_g130 rfl (q := 37) rfl (xf_5_20 fm) (va_up_s) (by omega) (by omega) rfl (Nat.le_of_ble_eq_true rfl) (Nat.le_of_ble_eq_true rfl) xi_int (Or.inr ⟨by decide, rfl⟩) ?_
    refine xe_ret xt_g130 rfl rfl ?_
    try dsimp only
    rw [va_uu, va_uu, va_uu]
    exact ⟨rfl, rfl, rfl, rfl⟩
/-- addFrame -/
theorem k129 (hn : 108 ≤ n) {z1 z2 d : Int} {pa : Option Nat} (h1 : 0 ≤ z1 ∧ z1 < 16) (hp : ∀ q, pa = some q → q < n ∧ 64 ≤ q ∧ ∃ g0 g1 g2 g4, h q = .inr (9, [g0, g1, g2, xi d, g4])) : xA fm 129 (ko w s p ar v h) n [.ref 44, xi z1, xi z2, va_rf pa] (fun x h' n' u' => x = n ∧ h' = ko w s p (aw ar 3 z1.toNat (some n)) v (va_up h n (.inr (9, [xi z1, xi z2, va_rf pa, xi (if pa.isNone = true then 1 else d + 1), .null]))) ∧ n' = n + 1 ∧ u' = 5) := by
  unfold xA
  cases pa with
  | none =>
    refine xe_new (k := 5) (fs := [xi 0, xi 0, .null, xi 0, .null]) xt_g129 rfl rfl (q := 3) rfl (xn_0_39 fm) rfl rfl rfl ?_
    rw [ko_new (by omega)]
    refine xe_s (f := (4, _, _, _)) xt_g129 rfl rfl rfl rfl rfl ?_
    refine xe_s (f := (5, _, _, _)) xt_g129 rfl rfl rfl rfl rfl ?_
    refine xe_s (f := (6, _, _, _)) xt_g129 rfl rfl rfl rfl rfl ?_
    refine xe_s (f := (7, _, _, _)) xt_g129 rfl rfl rfl rfl rfl ?_
    refine xe_cN xt_g129 rfl rfl rfl (q := 10) rfl (kc_P xk_0_326 rfl) xt_g130 (by decide) ⟨Nat.le_of_ble_eq_true rfl, Nat.le_of_ble_eq_true rfl, Nat.le_of_ble_eq_true rfl⟩ (k130 (pa := none) (d := d) ((ko_d (Or.inr (Or.inr (Or.inr (Or.inr (by omega)))))).trans va_up_s) (by omega) (by omega) (fun q e => by obtain ⟨q1, q2, g0, g1, g2, g4, q3⟩ := hp q e; exact ⟨by omega, by omega, g0, g1, g2, g4, (ko_d (Or.inr (Or.inr (Or.inr (Or.inr q2))))).trans ((va_up_n (by omega)).trans q3)⟩)) (fun h3' n3 c3 u3 hs => ?_)
    obtain ⟨e1, e2, e3⟩ := hs
    subst e1
    rw [ko_new (by omega), va_uu, e2, e3]
    refine xe_s (f := (12, [(4, _), (0, _), (1, _), (2, _), (3, _)], _, _)) xt_g129 rfl rfl rfl rfl rfl ?_
    refine xe_s (f := (13, _, _, _)) xt_g129 rfl rfl rfl rfl rfl ?_
    refine xe_gf xt_g129 rfl (q := 16) rfl (xf_0_45 fm) (ko_44) (by omega) rfl rfl ?_
    refine xe_s (f := (17, _, _, _)) xt_g129 rfl rfl rfl rfl rfl ?_
    refine xe_s (f := (19, _, _, _)) xt_g129 rfl rfl rfl rfl rfl ?_
    refine xe_ks_57 xt_g129 rfl (q := 20) rfl (by omega) (by omega) (by omega) ((ko_d (Or.inr (Or.inr (Or.inr (Or.inr (by omega)))))).trans va_up_s) (by omega) (by omega) ?_
    refine xe_s (f := (22, _, _, _)) xt_g129 rfl rfl rfl rfl rfl ?_
    refine xe_aret xt_g129 rfl (Or.inl ⟨_, rfl⟩) rfl ?_
    try dsimp only
    exact ⟨n, rfl, rfl, rfl, rfl, rfl⟩
  | some x9 =>
    refine xe_new (k := 5) (fs := [xi 0, xi 0, .null, xi 0, .null]) xt_g129 rfl rfl (q := 3) rfl (xn_0_39 fm) rfl rfl rfl ?_
    rw [ko_new (by omega)]
    refine xe_s (f := (4, _, _, _)) xt_g129 rfl rfl rfl rfl rfl ?_
    refine xe_s (f := (5, _, _, _)) xt_g129 rfl rfl rfl rfl rfl ?_
    refine xe_s (f := (6, _, _, _)) xt_g129 rfl rfl rfl rfl rfl ?_
    refine xe_s (f := (7, _, _, _)) xt_g129 rfl rfl rfl rfl rfl ?_
    refine xe_cN xt_g129 rfl rfl rfl (q := 10) rfl (kc_P xk_0_326 rfl) xt_g130 (by decide) ⟨Nat.le_of_ble_eq_true rfl, Nat.le_of_ble_eq_true rfl, Nat.le_of_ble_eq_true rfl⟩ (k130 (pa := some x9) (d := d) ((ko_d (Or.inr (Or.inr (Or.inr (Or.inr (by omega)))))).trans va_up_s) (by omega) (by omega) (fun q e => by obtain ⟨q1, q2, g0, g1, g2, g4, q3⟩ := hp q e; exact ⟨by omega, by omega, g0, g1, g2, g4, (ko_d (Or.inr (Or.inr (Or.inr (Or.inr q2))))).trans ((va_up_n (by omega)).trans q3)⟩)) (fun h3' n3 c3 u3 hs => ?_)
    obtain ⟨e1, e2, e3⟩ := hs
    subst e1
    rw [ko_new (by omega), va_uu, e2, e3]
    refine xe_s (f := (12, [(4, _), (0, _), (1, _), (2, _), (3, _)], _, _)) xt_g129 rfl rfl rfl rfl rfl ?_
    refine xe_s (f := (13, _, _, _)) xt_g129 rfl rfl rfl rfl rfl ?_
    refine xe_gf xt_g129 rfl (q := 16) rfl (xf_0_45 fm) (ko_44) (by omega) rfl rfl ?_
    refine xe_s (f := (17, _, _, _)) xt_g129 rfl rfl rfl rfl rfl ?_
    refine xe_s (f := (19, _, _, _)) xt_g129 rfl rfl rfl rfl rfl ?_
    refine xe_ks_57 xt_g129 rfl (q := 20) rfl (by omega) (by omega) (by omega) ((ko_d (Or.inr (Or.inr (Or.inr (Or.inr (by omega)))))).trans va_up_s) (by omega) (by omega) ?_
    refine xe_s (f := (22, _, _, _)) xt_g129 rfl rfl rfl rfl rfl ?_
    refine xe_aret xt_g129 rfl (Or.inl ⟨_, rfl⟩) rfl ?_
    try dsimp only
    exact ⟨n, rfl, rfl, rfl, rfl, rfl⟩
/-- new Request -/
theorem k134 {f0 f1 f2 f3 f4 f5 f6 f7 f8 f9 g0 g1 g2 g3 : Value} {z1 z2 : Int} {fo ad : Nat} {ak : Option Nat} {b : Bool} (ha : h y = .inr (10, [f0, f1, f2, f3, f4, f5, f6, f7, f8, f9])) (h44 : 44 ≤ y) (hy : y < n) (hF : h fo = .inr (9, [g0, g1, g2, g3, va_rf ak])) (hfo : fo < n) (hne : fo ≠ y) : xN fm 134 h n [.ref y, xi z1, .ref fo, .ref ad, xi z2, xi (xb b)] (fun h' n' u' => h' = va_up h y (.inr (10, [xi z1, .ref fo, xi z2, xi (xb b), va_rf ak, .ref ad, f6, f7, f8, f9])) ∧ n' = n ∧ u' = 0) := by
  have y1 := xb_or b
  unfold xN
  refine xe_s (f := (1, _, _, _)) xt_g134 rfl rfl rfl rfl rfl ?_
  refine xe_obj xt_g134 rfl (q := 4) rfl xz0_8_3 (xp_8_3 fm) (Nat.le_of_ble_eq_true rfl) ?_
  refine xe_s (f := (5, _, _, _)) xt_g134 rfl rfl rfl rfl rfl ?_
  refine xe_s (f := (6, _, _, _)) xt_g134 rfl rfl rfl rfl rfl ?_
  refine xe_pf xt_g134 rfl (q := 9) rfl (xf_8_9 fm) (ha) (by omega) (by omega) rfl (Nat.le_of_ble_eq_true rfl) (Nat.le_of_ble_eq_true rfl) xi_int (Or.inr ⟨by decide, rfl⟩) ?_
  refine xe_s (f := (10, _, _, _)) xt_g134 rfl rfl rfl rfl rfl ?_
  refine xe_s (f := (11, _, _, _)) xt_g134 rfl rfl rfl rfl rfl ?_
  refine xe_pf xt_g134 rfl (q := 14) rfl (xf_8_15 fm) (va_up_s) (by omega) (by omega) rfl (Nat.le_of_ble_eq_true rfl) (Nat.le_of_ble_eq_true rfl) ⟨rfl, rfl⟩ (Or.inr ⟨by decide, rfl⟩) ?_
  refine xe_s (f := (15, _, _, _)) xt_g134 rfl rfl rfl rfl rfl ?_
  refine xe_s (f := (16, _, _, _)) xt_g134 rfl rfl rfl rfl rfl ?_
  refine xe_pf xt_g134 rfl (q := 19) rfl (xf_8_19 fm) (va_up_s) (by omega) (by omega) rfl (Nat.le_of_ble_eq_true rfl) (Nat.le_of_ble_eq_true rfl) ⟨rfl, rfl⟩ (Or.inl rfl) ?_
  refine xe_s (f := (20, _, _, _)) xt_g134 rfl rfl rfl rfl rfl ?_
  refine xe_s (f := (22, _, _, _)) xt_g134 rfl rfl rfl rfl rfl ?_
  refine xe_pf xt_g134 rfl (q := 25) rfl (xf_8_23 fm) (va_up_s) (by omega) (by omega) rfl (Nat.le_of_ble_eq_true rfl) (Nat.le_of_ble_eq_true rfl) xi_int (Or.inr ⟨by decide, rfl⟩) ?_
  refine xe_s (f := (26, _, _, _)) xt_g134 rfl rfl rfl rfl rfl ?_
  refine xe_s (f := (28, _, _, _)) xt_g134 rfl rfl rfl rfl rfl ?_
  refine xe_pf xt_g134 rfl (q := 31) rfl (xf_8_26 fm) (va_up_s) (by omega) (by omega) rfl (Nat.le_of_ble_eq_true rfl) (Nat.le_of_ble_eq_true rfl) (xi_bool (by first | omega | exact xb_or _)) (Or.inr ⟨by decide, rfl⟩) ?_
  refine xe_s (f := (32, _, _, _)) xt_g134 rfl rfl rfl rfl rfl ?_
  refine xe_s (f := (33, _, _, _)) xt_g134 rfl rfl rfl rfl rfl ?_
  refine xe_gf xt_g134 rfl (q := 36) rfl (xf_8_30 fm) ((va_up_n hne).trans ((va_up_n hne).trans ((va_up_n hne).trans ((va_up_n hne).trans ((va_up_n hne).trans hF))))) (by omega) rfl xm_kn_va ?_
  refine xe_pf xt_g134 rfl (q := 39) rfl (xf_8_33 fm) (va_up_s) (by omega) (by omega) rfl (Nat.le_of_ble_eq_true rfl) (Nat.le_of_ble_eq_true rfl) fit_va (Or.inr ⟨by decide, rfl⟩) ?_
  refine xe_ret xt_g134 rfl rfl ?_
  try dsimp only
  rw [va_uu, va_uu, va_uu, va_uu, va_uu]
  exact ⟨rfl, rfl, rfl, rfl⟩
theorem k132_l (hn : 64 ≤ n) (HF : frL w ar (ar 3) h n (mu_fr u) dp) (HQ : rqL w ar (ar 3) h n (mu_rq u) 24) (I : mI u dp) {F fo d : Nat} {X : mf_T} (hF : F < 16) (hfo : ar 3 F = some fo) (HO : frO w h n (ar 3) F X d fo) : ∀ (m i : Nat), i + m = 24 → xe fm 132 (2, [(2, xi (i : Int)), (0, .ref 44), (1, .ref fo)], [], (ko w s p ar v h, n, 0, 0)) (fun q M => q = .inl (some (va_rf (if 0 ≤ xd_first (fun j => mq_nv F (mu_rq u j.toNat)) m i then ar 4 (xd_first (fun j => mq_nv F (mu_rq u j.toNat)) m i).toNat else none))) ∧ M = (ko w s p ar v h, n, 0, 0)) := by
  intro m
  induction m with
  | zero =>
    intro i hi
    refine xe_s (f := (3, _, _, _)) xt_g132 rfl rfl rfl rfl rfl ?_
    refine xe_bipush xt_g132 rfl (q := 5) rfl (by decide) (by decide) ?_
    refine xe_ic_ge xt_g132 rfl (t := 42) rfl (q := 8) rfl (by first | omega | exact xb_r _) (by first | omega | exact xb_r _) (fun b5 => ?_) (fun b5 => ?_)
    · try simp only [xb_0, xb_1, ne_eq, Decidable.not_not, Bool.not_eq_false, Bool.not_eq_true, decide_eq_true_eq, decide_eq_false_iff_not] at b5
      refine xe_s (f := (43, _, _, _)) xt_g132 rfl rfl rfl rfl rfl ?_
      refine xe_aret xt_g132 rfl (Or.inl ⟨_, rfl⟩) rfl ?_
      exact ⟨rfl, rfl⟩
    · exact absurd b5 (by omega)
  | succ m ih =>
    intro i hi
    have ihs := ih (i + 1) (by omega)
    rw [show ((i + 1 : Nat) : Int) = (i : Int) + 1 by omega] at ihs
    cases e : mu_rq u i with
    | none =>
      have e4 := (HQ i (by omega) (by omega)).1 e
      rw [xd_first_f (p := fun j => mq_nv F (mu_rq u j.toNat)) (show mq_nv F (mu_rq u ((i : Int)).toNat) = false by rw [Int.toNat_natCast, e]; rfl)]
      refine xe_s (f := (3, _, _, _)) xt_g132 rfl rfl rfl rfl rfl ?_
      refine xe_bipush xt_g132 rfl (q := 5) rfl (by decide) (by decide) ?_
      refine xe_ic_ge xt_g132 rfl (t := 42) rfl (q := 8) rfl (by first | omega | exact xb_r _) (by first | omega | exact xb_r _) (fun b5 => ?_) (fun b5 => ?_)
      · exact absurd b5 (by omega)
      · try simp only [xb_0, xb_1, ne_eq, Decidable.not_not, Bool.not_eq_false, Bool.not_eq_true, decide_eq_true_eq, decide_eq_false_iff_not] at b5
        refine xe_s (f := (9, _, _, _)) xt_g132 rfl rfl rfl rfl rfl ?_
        refine xe_gf xt_g132 rfl (q := 12) rfl (xf_0_50 fm) (ko_44) (by omega) rfl rfl ?_
        refine xe_s (f := (13, _, _, _)) xt_g132 rfl rfl rfl rfl rfl ?_
        refine xe_ka_58 xt_g132 rfl (q := 14) rfl (by omega) (by omega) (by omega) ?_
        rw [Int.toNat_natCast, e4, show va_rf none = Value.null from rfl]
        refine xe_s (f := (15, [(3, _), (2, _), (0, _), (1, _)], _, _)) xt_g132 rfl rfl rfl rfl rfl ?_
        refine xe_s (f := (16, _, _, _)) xt_g132 rfl rfl rfl rfl rfl ?_
        refine xe_s (f := (36, _, _, _)) xt_g132 rfl rfl rfl rfl rfl ?_
        refine xe_iinc xt_g132 rfl (q := 39) rfl rfl (by decide) (L1 := [(2, _), (3, _), (0, _), (1, _)]) rfl ?_
        refine xe_s (f := (2, _, _, _)) xt_g132 rfl rfl rfl rfl rfl ?_
        exact xe_loc (by intro q hq; simp only [List.mem_cons, List.not_mem_nil, or_false] at hq; rcases hq with rfl | rfl | rfl <;> rfl) (ihs)
    | some q =>
      obtain ⟨yy, e4, HR⟩ := (HQ i (by omega) (by omega)).2 q e
      obtain ⟨i1, i2, i3⟩ := I.2.1 i (by omega) q e
      obtain ⟨X', eX'⟩ := Option.isSome_iff_exists.mp i3
      obtain ⟨r', er', HO'⟩ := (HF q.1.toNat (by omega)).2 X' eX'
      have HR' := HR
      obtain ⟨fo', ad, ak, lf, la, lw, a1, a2, a3, a4, a5, a6, a7, a8, a9⟩ := HR
      have X1 := (ko_d (w := w) (s := s) (p := p) (ar := ar) (v := v) a2.1).trans a1
      rw [er'] at a5
      cases a5
      refine xe_s (f := (3, _, _, _)) xt_g132 rfl rfl rfl rfl rfl ?_
      refine xe_bipush xt_g132 rfl (q := 5) rfl (by decide) (by decide) ?_
      refine xe_ic_ge xt_g132 rfl (t := 42) rfl (q := 8) rfl (by first | omega | exact xb_r _) (by first | omega | exact xb_r _) (fun b5 => ?_) (fun b5 => ?_)
      · exact absurd b5 (by omega)
      · try simp only [xb_0, xb_1, ne_eq, Decidable.not_not, Bool.not_eq_false, Bool.not_eq_true, decide_eq_true_eq, decide_eq_false_iff_not] at b5
        refine xe_s (f := (9, _, _, _)) xt_g132 rfl rfl rfl rfl rfl ?_
        refine xe_gf xt_g132 rfl (q := 12) rfl (xf_0_50 fm) (ko_44) (by omega) rfl rfl ?_
        refine xe_s (f := (13, _, _, _)) xt_g132 rfl rfl rfl rfl rfl ?_
        refine xe_ka_58 xt_g132 rfl (q := 14) rfl (by omega) (by omega) (by omega) ?_
        rw [Int.toNat_natCast, e4, va_some]
        refine xe_s (f := (15, [(3, _), (2, _), (0, _), (1, _)], _, _)) xt_g132 rfl rfl rfl rfl rfl ?_
        refine xe_s (f := (16, _, _, _)) xt_g132 rfl rfl rfl rfl rfl ?_
        refine xe_s (f := (19, _, _, _)) xt_g132 rfl rfl rfl rfl rfl ?_
        refine xe_s (f := (20, _, _, _)) xt_g132 rfl rfl rfl rfl rfl ?_
        refine xe_gf xt_g132 rfl (q := 23) rfl (xf_0_212 fm) (X1) (by omega) rfl rfl ?_
        refine xe_s (f := (24, _, _, _)) xt_g132 rfl rfl rfl rfl rfl ?_
        refine xe_ac_ne xt_g132 rfl (t := 36) rfl (q := 27) rfl rfl rfl (fun b24 => ?_) (fun b24 => ?_)
        · try simp only [xb_0, xb_1, ne_eq, Decidable.not_not, Bool.not_eq_false, Bool.not_eq_true, decide_eq_true_eq, decide_eq_false_iff_not] at b24
          have ne : ¬ q.1 = (F : Int) := by
            intro g
            rw [show q.1.toNat = F by omega, hfo] at er'
            exact b24 er'.symm
          refine xe_iinc xt_g132 rfl (q := 39) rfl rfl (by decide) (L1 := [(2, _), (3, _), (0, _), (1, _)]) rfl ?_
          refine xe_s (f := (2, _, _, _)) xt_g132 rfl rfl rfl rfl rfl ?_
          rw [xd_first_f (p := fun j => mq_nv F (mu_rq u j.toNat)) (show mq_nv F (mu_rq u ((i : Int)).toNat) = false by rw [Int.toNat_natCast, e]; show (decide (q.1 = (F : Int)) && q.2.1.isNone) = false; rw [decide_eq_false ne]; rfl)]
          exact xe_loc (by intro q hq; simp only [List.mem_cons, List.not_mem_nil, or_false] at hq; rcases hq with rfl | rfl | rfl <;> rfl) (ihs)
        · try simp only [xb_0, xb_1, ne_eq, Decidable.not_not, Bool.not_eq_false, Bool.not_eq_true, decide_eq_true_eq, decide_eq_false_iff_not] at b24
          have eF : q.1.toNat = F := by
            injection b24 with b24
            subst b24
            exact fr_inj (by omega) hF HO' HO
          refine xe_s (f := (28, _, _, _)) xt_g132 rfl rfl rfl rfl rfl ?_
          refine xe_cR xt_g132 rfl rfl rfl (q := 31) rfl (kc_V xk_0_201 rfl (X1) (by omega) rfl rfl) xt_g133 (by decide) ⟨Nat.le_of_ble_eq_true rfl, Nat.le_of_ble_eq_true rfl, Nat.le_of_ble_eq_true rfl⟩ (k133 HR') ?_
          refine xe_if_ne xt_g132 rfl (t := 36) rfl (q := 34) rfl (by first | omega | exact xb_r _) (fun b31 => ?_) (fun b31 => ?_)
          · try simp only [xb_0, xb_1, ne_eq, Decidable.not_not, Bool.not_eq_false, Bool.not_eq_true, decide_eq_true_eq, decide_eq_false_iff_not] at b31
            rw [xd_first_f (p := fun j => mq_nv F (mu_rq u j.toNat)) (show mq_nv F (mu_rq u ((i : Int)).toNat) = false by rw [Int.toNat_natCast, e]; show (decide (q.1 = (F : Int)) && q.2.1.isNone) = false; rw [← Option.not_isSome, b31]; exact Bool.and_false _)]
            refine xe_iinc xt_g132 rfl (q := 39) rfl rfl (by decide) (L1 := [(2, _), (3, _), (0, _), (1, _)]) rfl ?_
            refine xe_s (f := (2, _, _, _)) xt_g132 rfl rfl rfl rfl rfl ?_
            exact xe_loc (by intro q hq; simp only [List.mem_cons, List.not_mem_nil, or_false] at hq; rcases hq with rfl | rfl | rfl <;> rfl) (ihs)
          · try simp only [xb_0, xb_1, ne_eq, Decidable.not_not, Bool.not_eq_false, Bool.not_eq_true, decide_eq_true_eq, decide_eq_false_iff_not] at b31
            rw [xd_first_t (p := fun j => mq_nv F (mu_rq u j.toNat)) (show mq_nv F (mu_rq u ((i : Int)).toNat) = true by rw [Int.toNat_natCast, e]; show (decide (q.1 = (F : Int)) && q.2.1.isNone) = true; rw [← Option.not_isSome, b31, decide_eq_true (by omega)]; rfl)]
            refine xe_s (f := (35, _, _, _)) xt_g132 rfl rfl rfl rfl rfl ?_
            refine xe_aret xt_g132 rfl (Or.inl ⟨_, rfl⟩) rfl ?_
            try dsimp only
            rw [if_pos (by omega), Int.toNat_natCast, e4]
            exact ⟨rfl, rfl⟩
/-- navigationOf -/
theorem k132 (hn : 64 ≤ n) (HF : frL w ar (ar 3) h n (mu_fr u) dp) (HQ : rqL w ar (ar 3) h n (mu_rq u) 24) (I : mI u dp) {F fo d : Nat} {X : mf_T} (hF : F < 16) (hfo : ar 3 F = some fo) (HO : frO w h n (ar 3) F X d fo) : xR fm 132 (ko w s p ar v h) n [.ref 44, .ref fo] (some (va_rf (if 0 ≤ mu_nv u F then ar 4 (mu_nv u F).toNat else none))) := by
  unfold xR
  refine xe_s (f := (1, _, xi 0 :: _, _)) xt_g132 rfl rfl rfl rfl rfl ?_
  refine xe_s (f := (2, [(2, _), (0, _), (1, _)], _, _)) xt_g132 rfl rfl rfl rfl rfl ?_
  exact xe_loc (by intro q hq; simp only [List.mem_cons, List.not_mem_nil, or_false] at hq; rcases hq with rfl | rfl | rfl <;> rfl) ((k132_l hn HF HQ I hF hfo HO 24 0 rfl))
end XBJ
