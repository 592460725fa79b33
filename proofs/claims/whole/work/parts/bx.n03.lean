/-! calls: enter, navigate, fetch -/
theorem send_sln {u : mu_T} {ln : List Int} {R : Nat} {q : mq_T} : mu_send (mu_sln u ln) R q = mu_sln (mu_send u R q) ln := by
  unfold mu_send
  show mu_srq (mu_note (mu_sln u ln) _ _ _ (mu_rtx u q.2.2.2.1 (mq_wi q))) (mu_up (mu_rq u) R (some q)) = _
  rw [note_sln]
  rfl
theorem go1_sln {u : mu_T} {ln : List Int} {f : Int} : mu_go1 (mu_sln u ln) f = mu_sln (mu_go1 u f) ln := by
  unfold mu_go1
  show (if 0 ≤ mu_nv u f then _ else _) = _
  split <;> rfl
theorem go_sln {u : mu_T} {ln : List Int} {f : Int} {a : pa_A} : mu_go (mu_sln u ln) f a = ((mu_go u f a).1, mu_sln (mu_go u f a).2 ln) := by
  unfold mu_go
  rw [go1_sln]
  show (if mu_fq (mu_go1 u f) < 0 then _ else _) = _
  by_cases g : mu_fq (mu_go1 u f) < 0
  · rw [if_pos g, if_pos g]
  · rw [if_neg g, if_neg g]
    show (mu_fq (mu_go1 u f), mu_send (mu_sln (mu_go1 u f) ln) _ _) = _
    rw [send_sln]
    rfl
theorem send_fr {u : mu_T} {R : Nat} {q : mq_T} : mu_fr (mu_send u R q) = mu_fr u ∧ mu_tb (mu_send u R q) = mu_tb u ∧ mu_fo (mu_send u R q) = mu_fo u ∧ mu_ln (mu_send u R q) = mu_ln u := by
  unfold mu_send
  refine ⟨?_, ?_, ?_, ?_⟩
  · show mu_fr (mu_note _ _ _ _ _) = _
    rw [note_fr]
  · show mu_tb (mu_note _ _ _ _ _) = _
    rw [note_tb]
  · show mu_fo (mu_note _ _ _ _ _) = _
    rw [note_fo]
  · show mu_ln (mu_note _ _ _ _ _) = _
    unfold mu_note
    split <;> rfl
theorem go_fr {u : mu_T} {f : Int} {a : pa_A} : mu_fr (mu_go u f a).2 = mu_fr u ∧ mu_tb (mu_go u f a).2 = mu_tb u ∧ mu_fo (mu_go u f a).2 = mu_fo u ∧ mu_ln (mu_go u f a).2 = mu_ln u := by
  obtain ⟨g1, g2, g3⟩ := go1_fr (u := u) (f := f)
  have g4 : mu_ln (mu_go1 u f) = mu_ln u := by unfold mu_go1; split <;> rfl
  unfold mu_go
  split
  · exact ⟨g1, g2, g3, g4⟩
  · obtain ⟨h1, h2, h3, h4⟩ := send_fr (u := mu_go1 u f) (R := (mu_fq (mu_go1 u f)).toNat) (q := (f, none, 0, a, none))
    exact ⟨h1.trans g1, h2.trans g2, h3.trans g3, h4.trans g4⟩
theorem mu_go_r {u : mu_T} {f : Int} {a : pa_A} : -1 ≤ (mu_go u f a).1 ∧ (mu_go u f a).1 < 24 := by
  unfold mu_go
  split
  · exact ⟨by dsimp only; omega, by dsimp only; omega⟩
  · have r := xd_first_r (p := fun j => (mu_rq (mu_go1 u f) j.toNat).isNone) 24 0
    have r2 : xd_first (fun j => (mu_rq (mu_go1 u f) j.toNat).isNone) 24 0 = mu_fq (mu_go1 u f) := rfl
    rw [r2] at r
    rcases r with r | ⟨r1, r3, _⟩
    · exact ⟨by dsimp only; omega, by dsimp only; omega⟩
    · exact ⟨by dsimp only; omega, by dsimp only; omega⟩
section XBX
variable {fm : Value} {w w' w1 w2 : kW} {s s' s1 s2 : Nat → Int} {p p' p1 p2 : Nat → Nat} {ar ar' : Nat → Nat → Option Nat} {v : Nat → Int} {h h' h1 h2 : xm_H} {n n' n1 n2 r k k' u' u1 u2 x y a b R : Nat} {l D : List Int} {L : List (List Int)} {A B : pa_A} {q : mq_T} {t t' t1 t2 : Nat → List Int} {kc kc' kc1 kc2 : Nat → Nat} {u : mu_T} {dp : Nat → Nat} {F fo G go d : Nat} {X Y : mf_T}
/-- beginNavigation, on the state -/
theorem c131 (hfm : fm = .null ∨ ∃ j, fm = .ref j) (S : cS w s p ar v h n t kc u dp) (I : mI u dp) (hC : (mu_ck u).length ≤ 40) (ht : 0 ≤ mu_tm u ∧ mu_tm u ≤ 1000000000) {f : Int} (f0 : 0 ≤ f ∧ f < 16) (e3 : ar 3 f.toNat = some fo) (HO : frO w h n (ar 3) f.toNat X d fo) (HA : aO w h n a A) : xI fm 131 (ko w s p ar v h) n [.ref 44, .ref fo, .ref a] (fun z h' n' u' => z = (mu_go u f A).1 ∧ ∃ w' s' ar' h1 t' kc', h' = ko w' s' p ar' v h1 ∧ RT 220 4 w h n kc w' h1 n' t' kc' u' ∧ cS w' s' p ar' v h1 n' t' kc' (mu_go u f A).2 dp ∧ ar' 3 = ar 3) := by
  obtain ⟨K, H, S1, S2, S3⟩ := S
  refine xe_mono (k131 hfm K H I (show f.toNat < 16 by omega) e3 HO HA hC ht S2) (fun q M hM => ?_)
  obtain ⟨z, e1, e2, w1, s1, ar1, h2, t1, kc1, g1, g2, g3, g4, g5, g6⟩ := hM
  rw [show ((f.toNat : Nat) : Int) = f by omega] at e2 g6
  exact ⟨z, e1, e2, w1, s1, ar1, h2, t1, kc1, g1, g2, ⟨g2.1, g6, by rw [g3.1, go_fr.2.2.2]; exact S1, g3.2.2, by rw [g3.2.1]; exact S3⟩, g5 3 (by decide) (by decide) (by decide)⟩
/-- enter -/
theorem c145 (hfm : fm = .null ∨ ∃ j, fm = .ref j) (S : cS w s p ar v h n t kc u dp) (I : mI u dp) (G : mG u) : xI fm 145 (ko w s p ar v h) n [.ref 44] (fun z h' n' u' => z = (mu_enter u).1 ∧ cR 5000 850 h n kc h' n' u' (mu_enter u).2 dp) := by
  have W0 := S.1.1.1
  have l160 := G.1
  have I0 : mI (mu_sln u []) dp := mI_eq I rfl rfl rfl rfl
  have em2 : mu_res u none = pa_res (lt (mu_ln u)) (mu_ln u).length none := rfl
  unfold xI mu_enter
  refine xe_s (f := (1, _, _, _)) xt_g145 rfl rfl rfl rfl rfl ?_
  refine xe_gf xt_g145 rfl (q := 4) rfl (xf_0_22 fm) (ko_44) (by omega) rfl rfl ?_
  refine xe_s (f := (5, _, _, _)) xt_g145 rfl rfl rfl rfl rfl ?_
  refine xe_cA xt_g145 rfl rfl rfl (q := 8) rfl (kc_V xk_0_93 rfl (ko_44) (by omega) rfl rfl) xt_g71 (by decide) ⟨Nat.le_of_ble_eq_true rfl, Nat.le_of_ble_eq_true rfl, Nat.le_of_ble_eq_true rfl⟩ (c71 S G) (fun x1 h1' n1 c1 u1 hp => ?_)
  obtain ⟨w1, h2, kc1, rfl, R1, H1, S1⟩ := hp
  have N1 := R1.2.1.1
  refine xe_s (f := (9, _, _, _)) xt_g145 rfl rfl rfl rfl rfl ?_
  refine xe_cO xt_g145 rfl rfl rfl (q := 12) rfl (kc_V xk_0_128 rfl (ko_49) (by omega) rfl rfl) xt_g100 (by decide) ⟨Nat.le_of_ble_eq_true rfl, Nat.le_of_ble_eq_true rfl, Nat.le_of_ble_eq_true rfl⟩ (c100 (ob := none) (Bo := none) hfm S1 H1 l160 rfl) (fun o5 h5' n5 c5 u5 hr => ?_)
  obtain ⟨w5, s5, p5, h6, t5, kc5, rfl, R5, S5, HO5⟩ := hr
  have N5 := R5.2.1.1
  have RA := RT_trans R1 R5
  have e7 : s5 7 = mu_fo u := S5.2.1.2.2.2.1
  have k := k146 (fm := fm) (w := w5) (s := s5) (p := p5) (ar := ar) (v := v) (h := h6) (k := s5 7) (show 64 ≤ n5 by omega) (by have := G.2.2.2.2; omega)
  rw [e7] at k
  rw [em2]
  by_cases f0 : 0 ≤ mu_fo u
  · obtain ⟨i1, i2⟩ := I.2.2.2.2.2.2 f0
    have eh : mu_ht (mu_sln u []) (mu_fo u) = true := by
      unfold mu_ht
      rw [decide_eq_true ⟨f0, i1⟩, show mu_tb (mu_sln u []) (mu_fo u).toNat = true from i2]
      rfl
    obtain ⟨X, fo, z0, z1, t0, t1', eX, e2, e3, HO⟩ := at_tp S5.2.1 I0 eh
    rw [if_pos ⟨z0, z1⟩, e2] at k
    cases o5 with
    | none =>
      rw [adO_none HO5]
      refine xe_s (f := (13, [(1, _), (0, _)], _, _)) xt_g145 rfl rfl rfl rfl rfl ?_
      refine xe_s (f := (14, _, _, _)) xt_g145 rfl rfl rfl rfl rfl ?_
      refine xe_s (f := (15, _, _, _)) xt_g145 rfl rfl rfl rfl rfl ?_
      refine xe_gf xt_g145 rfl (q := 18) rfl (xf_0_54 fm) (ko_44) (by omega) rfl rfl ?_
      rw [e7]
      refine xe_cR xt_g145 rfl rfl rfl (q := 21) rfl (kc_V xk_0_160 rfl (ko_44) (by omega) rfl rfl) xt_g146 (by decide) ⟨Nat.le_of_ble_eq_true rfl, Nat.le_of_ble_eq_true rfl, Nat.le_of_ble_eq_true rfl⟩ (k) ?_
      refine xe_s (f := (22, [(2, _), (1, _), (0, _)], _, _)) xt_g145 rfl rfl rfl rfl rfl ?_
      refine xe_s (f := (23, _, _, _)) xt_g145 rfl rfl rfl rfl rfl ?_
      refine xe_s (f := (30, _, _, _)) xt_g145 rfl rfl rfl rfl rfl ?_
      refine xe_s (f := (31, _, xi (-1) :: _, _)) xt_g145 rfl rfl rfl rfl rfl ?_
      refine xe_s (f := (40, _, _, _)) xt_g145 rfl rfl rfl rfl rfl ?_
      refine xe_iret xt_g145 rfl rfl xi_int.1 ?_
      try dsimp only
      exact ⟨-1, rfl, rfl, w5, s5, p5, ar, v, h6, t5, kc5, rfl, RU_m (RU_RT (RT_mono RA (Nat.le_refl _) (Nat.le_refl _) (by omega))) (by omega) (by omega), S5⟩
    | some j =>
      obtain ⟨A9, er, HA⟩ := adO_some HO5
      rw [er]
      dsimp only
      rw [if_pos f0]
      refine xe_s (f := (13, [(1, _), (0, _)], _, _)) xt_g145 rfl rfl rfl rfl rfl ?_
      refine xe_s (f := (14, _, _, _)) xt_g145 rfl rfl rfl rfl rfl ?_
      refine xe_s (f := (15, _, _, _)) xt_g145 rfl rfl rfl rfl rfl ?_
      refine xe_gf xt_g145 rfl (q := 18) rfl (xf_0_54 fm) (ko_44) (by omega) rfl rfl ?_
      rw [e7]
      refine xe_cR xt_g145 rfl rfl rfl (q := 21) rfl (kc_V xk_0_160 rfl (ko_44) (by omega) rfl rfl) xt_g146 (by decide) ⟨Nat.le_of_ble_eq_true rfl, Nat.le_of_ble_eq_true rfl, Nat.le_of_ble_eq_true rfl⟩ (k) ?_
      refine xe_s (f := (22, [(2, _), (1, _), (0, _)], _, _)) xt_g145 rfl rfl rfl rfl rfl ?_
      refine xe_s (f := (23, _, _, _)) xt_g145 rfl rfl rfl rfl rfl ?_
      refine xe_s (f := (26, _, _, _)) xt_g145 rfl rfl rfl rfl rfl ?_
      refine xe_s (f := (27, _, _, _)) xt_g145 rfl rfl rfl rfl rfl ?_
      refine xe_s (f := (34, _, _, _)) xt_g145 rfl rfl rfl rfl rfl ?_
      refine xe_s (f := (35, _, _, _)) xt_g145 rfl rfl rfl rfl rfl ?_
      refine xe_s (f := (36, _, _, _)) xt_g145 rfl rfl rfl rfl rfl ?_
      refine xe_s (f := (37, _, _, _)) xt_g145 rfl rfl rfl rfl rfl ?_
      refine xe_cI xt_g145 rfl rfl rfl (q := 40) rfl (kc_V xk_0_145 rfl (ko_44) (by omega) rfl rfl) xt_g131 (by decide) ⟨Nat.le_of_ble_eq_true rfl, Nat.le_of_ble_eq_true rfl, Nat.le_of_ble_eq_true rfl⟩ (c131 hfm S5 I0 G.2.1 G.2.2.2.1 ⟨t0, t1'⟩ e3 HO HA) (fun z8 h8' n8 c8 u8 ht => ?_)
      refine xe_iret xt_g145 rfl rfl xi_int.1 ?_
      try dsimp only
      obtain ⟨q1, w9, s9, ar9, h9, t9, kc9, q2, q3, q4, _⟩ := ht
      exact ⟨z8, rfl, q1, w9, s9, p5, ar9, v, h9, t9, kc9, q2, RU_m (RU_RT (RT_mono (RT_trans RA q3) (Nat.le_refl _) (Nat.le_refl _) (by omega))) (by omega) (by omega), q4⟩
  · rw [if_neg (fun g => f0 g.1)] at k
    cases o5 with
    | none =>
      rw [adO_none HO5]
      refine xe_s (f := (13, [(1, _), (0, _)], _, _)) xt_g145 rfl rfl rfl rfl rfl ?_
      refine xe_s (f := (14, _, _, _)) xt_g145 rfl rfl rfl rfl rfl ?_
      refine xe_s (f := (15, _, _, _)) xt_g145 rfl rfl rfl rfl rfl ?_
      refine xe_gf xt_g145 rfl (q := 18) rfl (xf_0_54 fm) (ko_44) (by omega) rfl rfl ?_
      rw [e7]
      refine xe_cR xt_g145 rfl rfl rfl (q := 21) rfl (kc_V xk_0_160 rfl (ko_44) (by omega) rfl rfl) xt_g146 (by decide) ⟨Nat.le_of_ble_eq_true rfl, Nat.le_of_ble_eq_true rfl, Nat.le_of_ble_eq_true rfl⟩ (k) ?_
      refine xe_s (f := (22, [(2, _), (1, _), (0, _)], _, _)) xt_g145 rfl rfl rfl rfl rfl ?_
      refine xe_s (f := (23, _, _, _)) xt_g145 rfl rfl rfl rfl rfl ?_
      refine xe_s (f := (30, _, _, _)) xt_g145 rfl rfl rfl rfl rfl ?_
      refine xe_s (f := (31, _, xi (-1) :: _, _)) xt_g145 rfl rfl rfl rfl rfl ?_
      refine xe_s (f := (40, _, _, _)) xt_g145 rfl rfl rfl rfl rfl ?_
      refine xe_iret xt_g145 rfl rfl xi_int.1 ?_
      try dsimp only
      exact ⟨-1, rfl, rfl, w5, s5, p5, ar, v, h6, t5, kc5, rfl, RU_m (RU_RT (RT_mono RA (Nat.le_refl _) (Nat.le_refl _) (by omega))) (by omega) (by omega), S5⟩
    | some j =>
      obtain ⟨A9, er, HA⟩ := adO_some HO5
      rw [er]
      dsimp only
      rw [if_neg f0]
      refine xe_s (f := (13, [(1, _), (0, _)], _, _)) xt_g145 rfl rfl rfl rfl rfl ?_
      refine xe_s (f := (14, _, _, _)) xt_g145 rfl rfl rfl rfl rfl ?_
      refine xe_s (f := (15, _, _, _)) xt_g145 rfl rfl rfl rfl rfl ?_
      refine xe_gf xt_g145 rfl (q := 18) rfl (xf_0_54 fm) (ko_44) (by omega) rfl rfl ?_
      rw [e7]
      refine xe_cR xt_g145 rfl rfl rfl (q := 21) rfl (kc_V xk_0_160 rfl (ko_44) (by omega) rfl rfl) xt_g146 (by decide) ⟨Nat.le_of_ble_eq_true rfl, Nat.le_of_ble_eq_true rfl, Nat.le_of_ble_eq_true rfl⟩ (k) ?_
      refine xe_s (f := (22, [(2, _), (1, _), (0, _)], _, _)) xt_g145 rfl rfl rfl rfl rfl ?_
      refine xe_s (f := (23, _, _, _)) xt_g145 rfl rfl rfl rfl rfl ?_
      refine xe_s (f := (26, _, _, _)) xt_g145 rfl rfl rfl rfl rfl ?_
      refine xe_s (f := (27, _, _, _)) xt_g145 rfl rfl rfl rfl rfl ?_
      refine xe_s (f := (30, _, _, _)) xt_g145 rfl rfl rfl rfl rfl ?_
      refine xe_s (f := (31, _, xi (-1) :: _, _)) xt_g145 rfl rfl rfl rfl rfl ?_
      refine xe_s (f := (40, _, _, _)) xt_g145 rfl rfl rfl rfl rfl ?_
      refine xe_iret xt_g145 rfl rfl xi_int.1 ?_
      try dsimp only
      exact ⟨-1, rfl, rfl, w5, s5, p5, ar, v, h6, t5, kc5, rfl, RU_m (RU_RT (RT_mono RA (Nat.le_refl _) (Nat.le_refl _) (by omega))) (by omega) (by omega), S5⟩
/-- navigate -/
theorem c176 (hfm : fm = .null ∨ ∃ j, fm = .ref j) (S : cS w s p ar v h n t kc u dp) (I : mI u dp) (G : mG u) {f g : Int} (e : mu_if u f = true) (e' : mu_if u g = true) : xI fm 176 (ko w s p ar v h) n [.ref 44, xi f, xi g] (fun z h' n' u' => z = (mu_nav u f g).1 ∧ cR 5100 860 h n kc h' n' u' (mu_nav u f g).2 dp) := by
  have W0 := S.1.1.1
  have l160 := G.1
  have I0 : mI (mu_sln u []) dp := mI_eq I rfl rfl rfl rfl
  unfold xI mu_nav
  rw [e, e', show (true && true) = true from rfl, if_pos rfl]
  refine xe_s (f := (1, _, _, _)) xt_g176 rfl rfl rfl rfl rfl ?_
  refine xe_cA xt_g176 rfl rfl rfl (q := 4) rfl (kc_V xk_0_93 rfl (ko_44) (by omega) rfl rfl) xt_g71 (by decide) ⟨Nat.le_of_ble_eq_true rfl, Nat.le_of_ble_eq_true rfl, Nat.le_of_ble_eq_true rfl⟩ (c71 S G) (fun x1 h1' n1 c1 u1 hp => ?_)
  obtain ⟨w1, h2, kc1, rfl, R1, H1, S1⟩ := hp
  have N1 := R1.2.1.1
  obtain ⟨X, fo, f0, f1, eX, e3, HO⟩ := at_fr S1.2.1 (f := f) e
  obtain ⟨Y, go, g0, g1, eY, e3', HG⟩ := at_fr S1.2.1 (f := g) e'
  have HO' := HO
  obtain ⟨ad, b1, b2, b3, b4, b5⟩ := HO
  have X1 := (ko_d (w := w1) (s := s) (p := p) (ar := ar) (v := v) b2.1).trans b1
  have ea : mu_ad u f = X.2.2 := by unfold mu_ad; rw [show mu_fr u f.toNat = some X from eX]
  have k := k177 (fm := fm) (s := s) (p := p) (v := v) (show 64 ≤ n1 by omega) S1.2.1 I0 (show f.toNat < 16 by omega) (show g.toNat < 16 by omega) eX eY e3 e3' HO' HG
  rw [show ((f.toNat : Nat) : Int) = f by omega, show ((g.toNat : Nat) : Int) = g by omega, show mu_may (mu_sln u []) f g = mu_may u f g from rfl] at k
  have refu : ∀ (w5 : kW) (s5 : Nat → Int) (p5 : Nat → Nat) (ar5 : Nat → Nat → Option Nat) (h5 : xm_H) (n5 : Nat) (t5 : Nat → List Int) (kc5 : Nat → Nat) (u5 c5 : Nat) (u9 : mu_T) (z : Int), RT 5050 850 w h n kc w5 h5 n5 t5 kc5 u5 → cS w5 s5 p5 ar5 v h5 n5 t5 kc5 (mu_sln u9 []) dp → frO w5 h5 n5 (ar5 3) f.toNat X (dp f.toNat) fo → xI fm 174 (ko w5 s5 p5 ar5 v h5) n5 [.ref 44, .ref fo, xi z] (fun q h' n' u' => q = -1 ∧ cR 5100 860 h n kc h' n' (u5 + u') (mu_refuse u9 f z) dp) := by
    intro w5 s5 p5 ar5 h5 n5 t5 kc5 u5 c5 u9 z R5 S5 HO5
    refine xe_mono (c174 S5 HO5) (fun q M hM => ?_)
    obtain ⟨y, q1, q2, s6, ar6, h6, q3, q4, q5⟩ := hM
    rw [show ((f.toNat : Nat) : Int) = f by omega, note_sln] at q5
    exact ⟨y, q1, q2, w5, s6, p5, ar6, v, h6, t5, kc5, q3, RU_m (RU_RT (RT_trans R5 q4)) (by omega) (by omega), q5⟩
  refine xe_s (f := (5, [(3, _), (0, _), (1, _), (2, _)], _, _)) xt_g176 rfl rfl rfl rfl rfl ?_
  refine xe_s (f := (6, _, _, _)) xt_g176 rfl rfl rfl rfl rfl ?_
  refine xe_s (f := (7, _, _, _)) xt_g176 rfl rfl rfl rfl rfl ?_
  refine xe_cR xt_g176 rfl rfl rfl (q := 10) rfl (kc_V xk_0_163 rfl (ko_44) (by omega) rfl rfl) xt_g173 (by decide) ⟨Nat.le_of_ble_eq_true rfl, Nat.le_of_ble_eq_true rfl, Nat.le_of_ble_eq_true rfl⟩ (k173 (by omega) S1.2.1 ⟨f0, f1⟩ e3) ?_
  refine xe_s (f := (12, [(4, _), (3, _), (0, _), (1, _), (2, _)], _, _)) xt_g176 rfl rfl rfl rfl rfl ?_
  refine xe_s (f := (13, _, _, _)) xt_g176 rfl rfl rfl rfl rfl ?_
  refine xe_s (f := (14, _, _, _)) xt_g176 rfl rfl rfl rfl rfl ?_
  refine xe_cR xt_g176 rfl rfl rfl (q := 17) rfl (kc_V xk_0_163 rfl (ko_44) (by omega) rfl rfl) xt_g173 (by decide) ⟨Nat.le_of_ble_eq_true rfl, Nat.le_of_ble_eq_true rfl, Nat.le_of_ble_eq_true rfl⟩ (k173 (by omega) S1.2.1 ⟨g0, g1⟩ e3') ?_
  refine xe_s (f := (19, [(5, _), (4, _), (3, _), (0, _), (1, _), (2, _)], _, _)) xt_g176 rfl rfl rfl rfl rfl ?_
  refine xe_s (f := (20, _, _, _)) xt_g176 rfl rfl rfl rfl rfl ?_
  refine xe_s (f := (22, _, _, _)) xt_g176 rfl rfl rfl rfl rfl ?_
  refine xe_s (f := (24, _, _, _)) xt_g176 rfl rfl rfl rfl rfl ?_
  refine xe_cR xt_g176 rfl rfl rfl (q := 27) rfl (kc_V xk_0_180 rfl (ko_44) (by omega) rfl rfl) xt_g177 (by decide) ⟨Nat.le_of_ble_eq_true rfl, Nat.le_of_ble_eq_true rfl, Nat.le_of_ble_eq_true rfl⟩ (k) ?_
  refine xe_if_ne xt_g176 rfl (t := 38) rfl (q := 30) rfl (by first | omega | exact xb_r _) (fun b27 => ?_) (fun b27 => ?_)
  · try simp only [xb_0, xb_1, ne_eq, Decidable.not_not, Bool.not_eq_false, Bool.not_eq_true, decide_eq_true_eq, decide_eq_false_iff_not] at b27
    rw [if_neg (by rw [b27]; decide)]
    obtain ⟨A, eA⟩ : ∃ A, X.2.2 = some A := by
      cases g9 : X.2.2 with
      | none =>
        have : mu_may u f g = false := by unfold mu_may; rw [ea, g9]
        rw [this] at b27
        cases b27
      | some A => exact ⟨A, rfl⟩
    rw [eA] at b5
    obtain ⟨xa, eqa, HA⟩ := b5
    subst eqa
    refine xe_s (f := (39, _, _, _)) xt_g176 rfl rfl rfl rfl rfl ?_
    refine xe_gf xt_g176 rfl (q := 42) rfl (xf_0_22 fm) (ko_44) (by omega) rfl rfl ?_
    refine xe_s (f := (43, _, _, _)) xt_g176 rfl rfl rfl rfl rfl ?_
    refine xe_s (f := (45, _, _, _)) xt_g176 rfl rfl rfl rfl rfl ?_
    refine xe_gf xt_g176 rfl (q := 48) rfl (xf_0_166 fm) (X1) (by omega) rfl rfl ?_
    refine xe_cO xt_g176 rfl rfl rfl (q := 51) rfl (kc_V xk_0_128 rfl (ko_49) (by omega) rfl rfl) xt_g100 (by decide) ⟨Nat.le_of_ble_eq_true rfl, Nat.le_of_ble_eq_true rfl, Nat.le_of_ble_eq_true rfl⟩ (c100 (ob := some xa) (Bo := some A) hfm S1 H1 l160 ⟨xa, rfl, HA⟩) (fun o5 h5' n5 c5 u5 hr => ?_)
    obtain ⟨w5, s5, p5, h6, t5, kc5, rfl, R5, S5, HO5⟩ := hr
    have N5 := R5.2.1.1
    have RA := RT_trans R1 R5
    have em2 : mu_res u (some A) = pa_res (lt (mu_ln u)) (mu_ln u).length (some A) := rfl
    have HF5 := frO_kp HO' R5.2.1
    have HG5 := frO_kp HG R5.2.1
    rw [ea, eA, em2]
    cases o5 with
    | none =>
      rw [adO_none HO5]
      refine xe_s (f := (53, [(6, _), (5, _), (4, _), (3, _), (0, _), (1, _), (2, _)], _, _)) xt_g176 rfl rfl rfl rfl rfl ?_
      refine xe_s (f := (55, _, _, _)) xt_g176 rfl rfl rfl rfl rfl ?_
      refine xe_s (f := (58, _, _, _)) xt_g176 rfl rfl rfl rfl rfl ?_
      refine xe_s (f := (59, _, _, _)) xt_g176 rfl rfl rfl rfl rfl ?_
      refine xe_s (f := (61, _, _, _)) xt_g176 rfl rfl rfl rfl rfl ?_
      refine xe_s (f := (62, _, xi 1 :: _, _)) xt_g176 rfl rfl rfl rfl rfl ?_
      refine xe_cI xt_g176 rfl rfl rfl (q := 65) rfl (kc_V xk_0_173 rfl (ko_44) (by omega) rfl rfl) xt_g174 (by decide) ⟨Nat.le_of_ble_eq_true rfl, Nat.le_of_ble_eq_true rfl, Nat.le_of_ble_eq_true rfl⟩ (refu w5 s5 p5 ar h6 n5 t5 kc5 (u1 + u5) 0 u 1 (RT_mono RA (by omega) (by omega) (Nat.le_refl _)) S5 HF5) (fun z3 h3' n3 c3 u3 hq => ?_)
      refine xe_iret xt_g176 rfl rfl xi_int.1 ?_
      try dsimp only
      obtain ⟨q1, q2⟩ := hq
      rw [show 0 + u1 + u5 + u3 = u1 + u5 + u3 by omega]
      exact ⟨z3, rfl, q1, q2⟩
    | some j =>
      obtain ⟨A9, er, HA9⟩ := adO_some HO5
      rw [er]
      dsimp only
      have gs := go_sln (u := u) (ln := []) (f := g) (a := A9)
      have gr := mu_go_r (u := u) (f := g) (a := A9)
      refine xe_s (f := (53, [(6, _), (5, _), (4, _), (3, _), (0, _), (1, _), (2, _)], _, _)) xt_g176 rfl rfl rfl rfl rfl ?_
      refine xe_s (f := (55, _, _, _)) xt_g176 rfl rfl rfl rfl rfl ?_
      refine xe_s (f := (66, _, _, _)) xt_g176 rfl rfl rfl rfl rfl ?_
      refine xe_s (f := (67, _, _, _)) xt_g176 rfl rfl rfl rfl rfl ?_
      refine xe_s (f := (69, _, _, _)) xt_g176 rfl rfl rfl rfl rfl ?_
      refine xe_s (f := (71, _, _, _)) xt_g176 rfl rfl rfl rfl rfl ?_
      refine xe_cI xt_g176 rfl rfl rfl (q := 74) rfl (kc_V xk_0_145 rfl (ko_44) (by omega) rfl rfl) xt_g131 (by decide) ⟨Nat.le_of_ble_eq_true rfl, Nat.le_of_ble_eq_true rfl, Nat.le_of_ble_eq_true rfl⟩ (c131 hfm S5 I0 G.2.1 G.2.2.2.1 ⟨g0, g1⟩ e3' HG5 HA9) (fun z8 h8' n8 c8 u8 ht => ?_)
      obtain ⟨q1, w9, s9, ar9, h9, t9, kc9, rfl, q3, q4, q5⟩ := ht
      rw [gs] at q1 q4
      dsimp only at q1 q4
      have N9 := q3.2.1.1
      have RB := RT_trans RA q3
      refine xe_s (f := (76, [(7, _), (6, _), (5, _), (4, _), (3, _), (0, _), (1, _), (2, _)], _, _)) xt_g176 rfl rfl rfl rfl rfl ?_
      refine xe_s (f := (78, _, _, _)) xt_g176 rfl rfl rfl rfl rfl ?_
      refine xe_s (f := (79, _, xi (-1) :: _, _)) xt_g176 rfl rfl rfl rfl rfl ?_
      refine xe_ic_ne xt_g176 rfl (t := 92) rfl (q := 82) rfl (by first | omega | exact xb_r _) (by first | omega | exact xb_r _) (fun b79 => ?_) (fun b79 => ?_)
      · try simp only [xb_0, xb_1, ne_eq, Decidable.not_not, Bool.not_eq_false, Bool.not_eq_true, decide_eq_true_eq, decide_eq_false_iff_not] at b79
        rw [if_neg (show ¬ (mu_go u g A9).1 < 0 by omega)]
        refine xe_s (f := (94, _, _, _)) xt_g176 rfl rfl rfl rfl rfl ?_
        refine xe_iret xt_g176 rfl rfl xi_int.1 ?_
        try dsimp only
        exact ⟨z8, rfl, q1, w9, s9, p5, ar9, v, h9, t9, kc9, rfl, RU_m (RU_RT (RT_mono RB (Nat.le_refl _) (Nat.le_refl _) (by omega))) (by omega) (by omega), q4⟩
      · try simp only [xb_0, xb_1, ne_eq, Decidable.not_not, Bool.not_eq_false, Bool.not_eq_true, decide_eq_true_eq, decide_eq_false_iff_not] at b79
        rw [if_pos (show (mu_go u g A9).1 < 0 by omega)]
        refine xe_s (f := (83, _, _, _)) xt_g176 rfl rfl rfl rfl rfl ?_
        refine xe_s (f := (85, _, _, _)) xt_g176 rfl rfl rfl rfl rfl ?_
        refine xe_s (f := (86, _, xi 3 :: _, _)) xt_g176 rfl rfl rfl rfl rfl ?_
        refine xe_cI xt_g176 rfl rfl rfl (q := 89) rfl (kc_V xk_0_173 rfl (ko_44) (by omega) rfl rfl) xt_g174 (by decide) ⟨Nat.le_of_ble_eq_true rfl, Nat.le_of_ble_eq_true rfl, Nat.le_of_ble_eq_true rfl⟩ (refu w9 s9 p5 ar9 h9 n8 t9 kc9 (u1 + u5 + u8) 0 (mu_go u g A9).2 3 (RT_mono RB (by omega) (by omega) (Nat.le_refl _)) q4 (by rw [q5]; exact frO_kp HF5 q3.2.1)) (fun z3 h3' n3 c3 u3 hq => ?_)
        refine xe_s (f := (94, _, _, _)) xt_g176 rfl rfl rfl rfl rfl ?_
        refine xe_iret xt_g176 rfl rfl xi_int.1 ?_
        try dsimp only
        obtain ⟨i1, i2⟩ := hq
        rw [show 0 + u1 + u5 + u8 + u3 = u1 + u5 + u8 + u3 by omega]
        exact ⟨z3, rfl, i1, i2⟩
  · try simp only [xb_0, xb_1, ne_eq, Decidable.not_not, Bool.not_eq_false, Bool.not_eq_true, decide_eq_true_eq, decide_eq_false_iff_not] at b27
    rw [if_pos b27]
    refine xe_s (f := (31, _, _, _)) xt_g176 rfl rfl rfl rfl rfl ?_
    refine xe_s (f := (33, _, _, _)) xt_g176 rfl rfl rfl rfl rfl ?_
    refine xe_s (f := (34, _, xi 2 :: _, _)) xt_g176 rfl rfl rfl rfl rfl ?_
    refine xe_cI xt_g176 rfl rfl rfl (q := 37) rfl (kc_V xk_0_173 rfl (ko_44) (by omega) rfl rfl) xt_g174 (by decide) ⟨Nat.le_of_ble_eq_true rfl, Nat.le_of_ble_eq_true rfl, Nat.le_of_ble_eq_true rfl⟩ (refu w1 s p ar h2 n1 _ kc1 u1 0 u 2 (RT_mono R1 (by omega) (by omega) (Nat.le_refl _)) S1 HO') (fun z3 h3' n3 c3 u3 hq => ?_)
    refine xe_iret xt_g176 rfl rfl xi_int.1 ?_
    try dsimp only
    obtain ⟨q1, q2⟩ := hq
    rw [show 0 + u1 + u3 = u1 + u3 by omega]
    exact ⟨z3, rfl, q1, q2⟩
theorem c176y (S : cS w s p ar v h n t kc u dp) (G : mG u) {f g : Int} (hg : xr g) (e : mu_if u f = true) (e' : mu_if u g = false) : xY fm 176 (ko w s p ar v h) n [.ref 44, xi f, xi g] (fun h' n' u' => cR 200 5 h n kc h' n' u' (mu_sln u []) dp) := by
  have W0 := S.1.1.1
  unfold xY
  refine xe_s (f := (1, _, _, _)) xt_g176 rfl rfl rfl rfl rfl ?_
  refine xe_cA xt_g176 rfl rfl rfl (q := 4) rfl (kc_V xk_0_93 rfl (ko_44) (by omega) rfl rfl) xt_g71 (by decide) ⟨Nat.le_of_ble_eq_true rfl, Nat.le_of_ble_eq_true rfl, Nat.le_of_ble_eq_true rfl⟩ (c71 S G) (fun x1 h1' n1 c1 u1 hp => ?_)
  obtain ⟨w1, h2, kc1, rfl, R1, H1, S1⟩ := hp
  have N1 := R1.2.1.1
  obtain ⟨X, fo, f0, f1, eX, e3, HO⟩ := at_fr S1.2.1 (f := f) e
  refine xe_s (f := (5, [(3, _), (0, _), (1, _), (2, _)], _, _)) xt_g176 rfl rfl rfl rfl rfl ?_
  refine xe_s (f := (6, _, _, _)) xt_g176 rfl rfl rfl rfl rfl ?_
  refine xe_s (f := (7, _, _, _)) xt_g176 rfl rfl rfl rfl rfl ?_
  refine xe_cR xt_g176 rfl rfl rfl (q := 10) rfl (kc_V xk_0_163 rfl (ko_44) (by omega) rfl rfl) xt_g173 (by decide) ⟨Nat.le_of_ble_eq_true rfl, Nat.le_of_ble_eq_true rfl, Nat.le_of_ble_eq_true rfl⟩ (k173 (by omega) S1.2.1 ⟨f0, f1⟩ e3) ?_
  refine xe_s (f := (12, [(4, _), (3, _), (0, _), (1, _), (2, _)], _, _)) xt_g176 rfl rfl rfl rfl rfl ?_
  refine xe_s (f := (13, _, _, _)) xt_g176 rfl rfl rfl rfl rfl ?_
  refine xe_s (f := (14, _, _, _)) xt_g176 rfl rfl rfl rfl rfl ?_
  refine xe_cX xt_g176 rfl rfl rfl (q := 17) rfl (kc_V xk_0_163 rfl (ko_44) (by omega) rfl rfl) xt_g173 (by decide) ⟨Nat.le_of_ble_eq_true rfl, Nat.le_of_ble_eq_true rfl, Nat.le_of_ble_eq_true rfl⟩ (k173x (by omega) S1.2.1 hg e') rfl ?_
  refine ⟨n1, rfl, va_up_s, Nat.lt_succ_self n1, w1, s, p, ar, v, _, _, kc1, ko_new (by omega), ?_, cS_x S1⟩
  exact RU_m (RU_x (RU_RT R1) (by first | rfl | (dsimp only; omega)) (by dsimp only; omega)) (by omega) (by omega)
theorem c241y (S : cS w s p ar v h n t kc u dp) (G : mG u) {f g z : Int} (hg : xr g) (e : mu_if u f = true) (e' : mu_if u g = false) : xY fm 241 (ko w s p ar v h) n [.ref 44, xi f, xi g, xi z] (fun h' n' u' => cR 200 5 h n kc h' n' u' (mu_sln u []) dp) := by
  have W0 := S.1.1.1
  unfold xY
  refine xe_s (f := (1, _, _, _)) xt_g241 rfl rfl rfl rfl rfl ?_
  refine xe_cA xt_g241 rfl rfl rfl (q := 4) rfl (kc_V xk_0_93 rfl (ko_44) (by omega) rfl rfl) xt_g71 (by decide) ⟨Nat.le_of_ble_eq_true rfl, Nat.le_of_ble_eq_true rfl, Nat.le_of_ble_eq_true rfl⟩ (c71 S G) (fun x1 h1' n1 c1 u1 hp => ?_)
  obtain ⟨w1, h2, kc1, rfl, R1, H1, S1⟩ := hp
  have N1 := R1.2.1.1
  obtain ⟨X, fo, f0, f1, eX, e3, HO⟩ := at_fr S1.2.1 (f := f) e
  refine xe_s (f := (6, [(4, _), (0, _), (1, _), (2, _), (3, _)], _, _)) xt_g241 rfl rfl rfl rfl rfl ?_
  refine xe_s (f := (7, _, _, _)) xt_g241 rfl rfl rfl rfl rfl ?_
  refine xe_s (f := (8, _, _, _)) xt_g241 rfl rfl rfl rfl rfl ?_
  refine xe_cR xt_g241 rfl rfl rfl (q := 11) rfl (kc_V xk_0_163 rfl (ko_44) (by omega) rfl rfl) xt_g173 (by decide) ⟨Nat.le_of_ble_eq_true rfl, Nat.le_of_ble_eq_true rfl, Nat.le_of_ble_eq_true rfl⟩ (k173 (by omega) S1.2.1 ⟨f0, f1⟩ e3) ?_
  refine xe_s (f := (13, [(5, _), (4, _), (0, _), (1, _), (2, _), (3, _)], _, _)) xt_g241 rfl rfl rfl rfl rfl ?_
  refine xe_s (f := (14, _, _, _)) xt_g241 rfl rfl rfl rfl rfl ?_
  refine xe_s (f := (15, _, _, _)) xt_g241 rfl rfl rfl rfl rfl ?_
  refine xe_cX xt_g241 rfl rfl rfl (q := 18) rfl (kc_V xk_0_163 rfl (ko_44) (by omega) rfl rfl) xt_g173 (by decide) ⟨Nat.le_of_ble_eq_true rfl, Nat.le_of_ble_eq_true rfl, Nat.le_of_ble_eq_true rfl⟩ (k173x (by omega) S1.2.1 hg e') rfl ?_
  refine ⟨n1, rfl, va_up_s, Nat.lt_succ_self n1, w1, s, p, ar, v, _, _, kc1, ko_new (by omega), ?_, cS_x S1⟩
  exact RU_m (RU_x (RU_RT R1) (by first | rfl | (dsimp only; omega)) (by dsimp only; omega)) (by omega) (by omega)
/-- fetch -/
theorem c180 (hfm : fm = .null ∨ ∃ j, fm = .ref j) (S : cS w s p ar v h n t kc u dp) (G : mG u) {f z : Int} (e : mu_if u f = true) (hz : xr z) {wi : Bool} : xI fm 180 (ko w s p ar v h) n [.ref 44, xi f, xi z, xi (xb wi)] (fun y h' n' u' => y = (mu_fetch u f z wi).1 ∧ cR 5100 860 h n kc h' n' u' (mu_fetch u f z wi).2 dp) := by
  have W0 := S.1.1.1
  have l160 := G.1
  have y1 := xb_or wi
  unfold xI mu_fetch
  rw [if_pos e]
  refine xe_s (f := (1, _, _, _)) xt_g180 rfl rfl rfl rfl rfl ?_
  refine xe_cA xt_g180 rfl rfl rfl (q := 4) rfl (kc_V xk_0_93 rfl (ko_44) (by omega) rfl rfl) xt_g71 (by decide) ⟨Nat.le_of_ble_eq_true rfl, Nat.le_of_ble_eq_true rfl, Nat.le_of_ble_eq_true rfl⟩ (c71 S G) (fun x1 h1' n1 c1 u1 hp => ?_)
  obtain ⟨w1, h2, kc1, rfl, R1, H1, S1⟩ := hp
  have N1 := R1.2.1.1
  obtain ⟨X, fo, f0, f1, eX, e3, HO⟩ := at_fr S1.2.1 (f := f) e
  have HO' := HO
  obtain ⟨ad, b1, b2, b3, b4, b5⟩ := HO
  have X1 := (ko_d (w := w1) (s := s) (p := p) (ar := ar) (v := v) b2.1).trans b1
  have ea : mu_ad u f = X.2.2 := by unfold mu_ad; rw [show mu_fr u f.toNat = some X from eX]
  have refu : ∀ (w5 : kW) (s5 : Nat → Int) (p5 : Nat → Nat) (ar5 : Nat → Nat → Option Nat) (h5 : xm_H) (n5 : Nat) (t5 : Nat → List Int) (kc5 : Nat → Nat) (u5 : Nat) (z : Int), RT 5050 850 w h n kc w5 h5 n5 t5 kc5 u5 → cS w5 s5 p5 ar5 v h5 n5 t5 kc5 (mu_sln u []) dp → frO w5 h5 n5 (ar5 3) f.toNat X (dp f.toNat) fo → xI fm 174 (ko w5 s5 p5 ar5 v h5) n5 [.ref 44, .ref fo, xi z] (fun q h' n' u' => q = -1 ∧ cR 5100 860 h n kc h' n' (u5 + u') (mu_refuse u f z) dp) := by
    intro w5 s5 p5 ar5 h5 n5 t5 kc5 u5 z R5 S5 HO5
    refine xe_mono (c174 S5 HO5) (fun q M hM => ?_)
    obtain ⟨y, q1, q2, s6, ar6, h6, q3, q4, q5⟩ := hM
    rw [show ((f.toNat : Nat) : Int) = f by omega, note_sln] at q5
    exact ⟨y, q1, q2, w5, s6, p5, ar6, v, h6, t5, kc5, q3, RU_m (RU_RT (RT_trans R5 q4)) (by omega) (by omega), q5⟩
  refine xe_s (f := (6, [(4, _), (0, _), (1, _), (2, _), (3, _)], _, _)) xt_g180 rfl rfl rfl rfl rfl ?_
  refine xe_s (f := (7, _, _, _)) xt_g180 rfl rfl rfl rfl rfl ?_
  refine xe_s (f := (8, _, _, _)) xt_g180 rfl rfl rfl rfl rfl ?_
  refine xe_cR xt_g180 rfl rfl rfl (q := 11) rfl (kc_V xk_0_163 rfl (ko_44) (by omega) rfl rfl) xt_g173 (by decide) ⟨Nat.le_of_ble_eq_true rfl, Nat.le_of_ble_eq_true rfl, Nat.le_of_ble_eq_true rfl⟩ (k173 (by omega) S1.2.1 ⟨f0, f1⟩ e3) ?_
  refine xe_s (f := (13, [(5, _), (4, _), (0, _), (1, _), (2, _), (3, _)], _, _)) xt_g180 rfl rfl rfl rfl rfl ?_
  rw [ea]
  cases ec : X.2.2 with
  | none =>
    rw [ec] at b5
    have b5 : ad = none := b5
    subst b5
    refine xe_s (f := (15, _, _, _)) xt_g180 rfl rfl rfl rfl rfl ?_
    refine xe_gf xt_g180 rfl (q := 18) rfl (xf_0_166 fm) (X1) (by omega) rfl rfl ?_
    refine xe_s (f := (30, _, _, _)) xt_g180 rfl rfl rfl rfl rfl ?_
    refine xe_s (f := (31, _, _, _)) xt_g180 rfl rfl rfl rfl rfl ?_
    refine xe_s (f := (33, _, _, _)) xt_g180 rfl rfl rfl rfl rfl ?_
    refine xe_s (f := (34, _, xi 2 :: _, _)) xt_g180 rfl rfl rfl rfl rfl ?_
    refine xe_cI xt_g180 rfl rfl rfl (q := 37) rfl (kc_V xk_0_173 rfl (ko_44) (by omega) rfl rfl) xt_g174 (by decide) ⟨Nat.le_of_ble_eq_true rfl, Nat.le_of_ble_eq_true rfl, Nat.le_of_ble_eq_true rfl⟩ (refu w1 s p ar h2 n1 _ kc1 u1 2 (RT_mono R1 (by omega) (by omega) (Nat.le_refl _)) S1 HO') (fun z3 h3' n3 c3 u3 hq => ?_)
    refine xe_iret xt_g180 rfl rfl xi_int.1 ?_
    try dsimp only
    obtain ⟨q1, q2⟩ := hq
    rw [show 0 + u1 + u3 = u1 + u3 by omega]
    exact ⟨z3, rfl, q1, q2⟩
  | some A =>
    rw [ec] at b5
    obtain ⟨xa, eqa, HA⟩ := b5
    subst eqa
    dsimp only
    have em2 : mu_res u (some A) = pa_res (lt (mu_ln u)) (mu_ln u).length (some A) := rfl
    rw [em2]
    refine xe_s (f := (15, _, _, _)) xt_g180 rfl rfl rfl rfl rfl ?_
    refine xe_gf xt_g180 rfl (q := 18) rfl (xf_0_166 fm) (X1) (by omega) rfl rfl ?_
    refine xe_s (f := (21, _, _, _)) xt_g180 rfl rfl rfl rfl rfl ?_
    refine xe_s (f := (22, _, _, _)) xt_g180 rfl rfl rfl rfl rfl ?_
    refine xe_if_lt xt_g180 rfl (t := 30) rfl (q := 25) rfl (by first | omega | exact xb_r _) (fun b22 => ?_) (fun b22 => ?_)
    · try simp only [xb_0, xb_1, ne_eq, Decidable.not_not, Bool.not_eq_false, Bool.not_eq_true, decide_eq_true_eq, decide_eq_false_iff_not] at b22
      refine xe_s (f := (31, _, _, _)) xt_g180 rfl rfl rfl rfl rfl ?_
      refine xe_s (f := (33, _, _, _)) xt_g180 rfl rfl rfl rfl rfl ?_
      refine xe_s (f := (34, _, xi 2 :: _, _)) xt_g180 rfl rfl rfl rfl rfl ?_
      refine xe_cI xt_g180 rfl rfl rfl (q := 37) rfl (kc_V xk_0_173 rfl (ko_44) (by omega) rfl rfl) xt_g174 (by decide) ⟨Nat.le_of_ble_eq_true rfl, Nat.le_of_ble_eq_true rfl, Nat.le_of_ble_eq_true rfl⟩ (refu w1 s p ar h2 n1 _ kc1 u1 2 (RT_mono R1 (by omega) (by omega) (Nat.le_refl _)) S1 HO') (fun z3 h3' n3 c3 u3 hq => ?_)
      refine xe_iret xt_g180 rfl rfl xi_int.1 ?_
      try dsimp only
      obtain ⟨q1, q2⟩ := hq
      rw [if_pos (by omega), show 0 + u1 + u3 = u1 + u3 by omega]
      exact ⟨z3, rfl, q1, q2⟩
    · try simp only [xb_0, xb_1, ne_eq, Decidable.not_not, Bool.not_eq_false, Bool.not_eq_true, decide_eq_true_eq, decide_eq_false_iff_not] at b22
      refine xe_s (f := (26, _, _, _)) xt_g180 rfl rfl rfl rfl rfl ?_
      refine xe_s (f := (27, _, xi 2 :: _, _)) xt_g180 rfl rfl rfl rfl rfl ?_
      refine xe_ic_le xt_g180 rfl (t := 38) rfl (q := 30) rfl (by first | omega | exact xb_r _) (by first | omega | exact xb_r _) (fun b27 => ?_) (fun b27 => ?_)
      · try simp only [xb_0, xb_1, ne_eq, Decidable.not_not, Bool.not_eq_false, Bool.not_eq_true, decide_eq_true_eq, decide_eq_false_iff_not] at b27
        refine xe_s (f := (39, _, _, _)) xt_g180 rfl rfl rfl rfl rfl ?_
        refine xe_gf xt_g180 rfl (q := 42) rfl (xf_0_22 fm) (ko_44) (by omega) rfl rfl ?_
        refine xe_s (f := (44, _, _, _)) xt_g180 rfl rfl rfl rfl rfl ?_
        refine xe_s (f := (46, _, _, _)) xt_g180 rfl rfl rfl rfl rfl ?_
        refine xe_gf xt_g180 rfl (q := 49) rfl (xf_0_166 fm) (X1) (by omega) rfl rfl ?_
        refine xe_cO xt_g180 rfl rfl rfl (q := 52) rfl (kc_V xk_0_128 rfl (ko_49) (by omega) rfl rfl) xt_g100 (by decide) ⟨Nat.le_of_ble_eq_true rfl, Nat.le_of_ble_eq_true rfl, Nat.le_of_ble_eq_true rfl⟩ (c100 (ob := some xa) (Bo := some A) hfm S1 H1 l160 ⟨xa, rfl, HA⟩) (fun o5 h5' n5 c5 u5 hr => ?_)
        obtain ⟨w5, s5, p5, h6, t5, kc5, rfl, R5, S5, HO5⟩ := hr
        have N5 := R5.2.1.1
        have RA := RT_trans R1 R5
        have HF5 := frO_kp HO' R5.2.1
        have HA5 := aO_kp HA R5.2.1
        have zr : 0 ≤ z ∧ z ≤ 2 := by omega
        rw [if_neg (show ¬ (z < 0 ∨ 2 < z) by omega)]
        cases o5 with
        | none =>
          rw [adO_none HO5]
          refine xe_s (f := (54, [(6, _), (5, _), (4, _), (0, _), (1, _), (2, _), (3, _)], _, _)) xt_g180 rfl rfl rfl rfl rfl ?_
          refine xe_s (f := (56, _, _, _)) xt_g180 rfl rfl rfl rfl rfl ?_
          refine xe_s (f := (59, _, _, _)) xt_g180 rfl rfl rfl rfl rfl ?_
          refine xe_s (f := (60, _, _, _)) xt_g180 rfl rfl rfl rfl rfl ?_
          refine xe_s (f := (62, _, _, _)) xt_g180 rfl rfl rfl rfl rfl ?_
          refine xe_s (f := (63, _, xi 1 :: _, _)) xt_g180 rfl rfl rfl rfl rfl ?_
          refine xe_cI xt_g180 rfl rfl rfl (q := 66) rfl (kc_V xk_0_173 rfl (ko_44) (by omega) rfl rfl) xt_g174 (by decide) ⟨Nat.le_of_ble_eq_true rfl, Nat.le_of_ble_eq_true rfl, Nat.le_of_ble_eq_true rfl⟩ (refu w5 s5 p5 ar h6 n5 t5 kc5 (u1 + u5) 1 (RT_mono RA (by omega) (by omega) (Nat.le_refl _)) S5 HF5) (fun z3 h3' n3 c3 u3 hq => ?_)
          refine xe_iret xt_g180 rfl rfl xi_int.1 ?_
          try dsimp only
          obtain ⟨q1, q2⟩ := hq
          rw [show 0 + u1 + u5 + u3 = u1 + u5 + u3 by omega]
          exact ⟨z3, rfl, q1, q2⟩
        | some j =>
          obtain ⟨A9, er, HA9⟩ := adO_some HO5
          rw [er]
          dsimp only
          obtain ⟨ho, pp, qu, te, m1, m2, m3, m4, _⟩ := id HA9
          have XA := (ko_d (w := w5) (s := s5) (p := p5) (ar := ar) (v := v) m2.1).trans m1
          have HF5' := HF5
          obtain ⟨ad5, d1, d2, d3, d4, d5⟩ := HF5
          rw [ec] at d5
          obtain ⟨xa5, eqa5, HA5'⟩ := d5
          subst eqa5
          have X5 := (ko_d (w := w5) (s := s5) (p := p5) (ar := ar) (v := v) d2.1).trans d1
          have fq1 := xd_first_r (p := fun j => (mu_rq u j.toNat).isNone) 24 0
          have fq2 : xd_first (fun j => (mu_rq u j.toNat).isNone) 24 0 = mu_fq u := rfl
          rw [fq2] at fq1
          have fqe : xd_first (fun j => (ar 4 j.toNat).isNone) 24 0 = mu_fq u := fq_eq S5.2.1
          refine xe_s (f := (54, [(6, _), (5, _), (4, _), (0, _), (1, _), (2, _), (3, _)], _, _)) xt_g180 rfl rfl rfl rfl rfl ?_
          refine xe_s (f := (56, _, _, _)) xt_g180 rfl rfl rfl rfl rfl ?_
          refine xe_s (f := (67, _, _, _)) xt_g180 rfl rfl rfl rfl rfl ?_
          refine xe_s (f := (68, _, _, _)) xt_g180 rfl rfl rfl rfl rfl ?_
          refine xe_if_ne xt_g180 rfl (t := 92) rfl (q := 71) rfl (by first | omega | exact xb_r _) (fun b68 => ?_) (fun b68 => ?_)
          · try simp only [xb_0, xb_1, ne_eq, Decidable.not_not, Bool.not_eq_false, Bool.not_eq_true, decide_eq_true_eq, decide_eq_false_iff_not] at b68
            have nc : ¬ (z = 0 ∧ pa_hd A9 ≠ pa_hd A) := fun q => by omega
            rw [if_neg nc]
            refine xe_s (f := (93, _, _, _)) xt_g180 rfl rfl rfl rfl rfl ?_
            refine xe_cR xt_g180 rfl rfl rfl (q := 96) rfl (kc_V xk_0_138 rfl (ko_44) (by omega) rfl rfl) xt_g128 (by decide) ⟨Nat.le_of_ble_eq_true rfl, Nat.le_of_ble_eq_true rfl, Nat.le_of_ble_eq_true rfl⟩ (k128 (by omega)) ?_
            rw [fqe]
            refine xe_s (f := (98, [(7, _), (6, _), (5, _), (4, _), (0, _), (1, _), (2, _), (3, _)], _, _)) xt_g180 rfl rfl rfl rfl rfl ?_
            refine xe_s (f := (100, _, _, _)) xt_g180 rfl rfl rfl rfl rfl ?_
            refine xe_s (f := (101, _, xi (-1) :: _, _)) xt_g180 rfl rfl rfl rfl rfl ?_
            refine xe_ic_ne xt_g180 rfl (t := 112) rfl (q := 104) rfl (by first | omega | exact xb_r _) (by first | omega | exact xb_r _) (fun b101 => ?_) (fun b101 => ?_)
            · try simp only [xb_0, xb_1, ne_eq, Decidable.not_not, Bool.not_eq_false, Bool.not_eq_true, decide_eq_true_eq, decide_eq_false_iff_not] at b101
              rw [if_neg (show ¬ mu_fq u < 0 by omega)]
              refine xe_s (f := (113, _, _, _)) xt_g180 rfl rfl rfl rfl rfl ?_
              refine xe_new (k := 10) (fs := [xi 0, .null, xi 0, xi 0, .null, .null, xi 0, xi 0, .null, xi 0]) xt_g180 rfl rfl (q := 116) rfl (xn_0_48 fm) rfl rfl rfl ?_
              rw [ko_new (by omega)]
              refine xe_s (f := (117, _, _, _)) xt_g180 rfl rfl rfl rfl rfl ?_
              refine xe_s (f := (119, _, _, _)) xt_g180 rfl rfl rfl rfl rfl ?_
              refine xe_s (f := (121, _, _, _)) xt_g180 rfl rfl rfl rfl rfl ?_
              refine xe_s (f := (123, _, _, _)) xt_g180 rfl rfl rfl rfl rfl ?_
              refine xe_s (f := (124, _, _, _)) xt_g180 rfl rfl rfl rfl rfl ?_
              refine xe_s (f := (125, _, _, _)) xt_g180 rfl rfl rfl rfl rfl ?_
              refine xe_cN xt_g180 rfl rfl rfl (q := 128) rfl (kc_P xk_0_190 rfl) xt_g134 (by decide) ⟨Nat.le_of_ble_eq_true rfl, Nat.le_of_ble_eq_true rfl, Nat.le_of_ble_eq_true rfl⟩ (k134 (ak := some xa5) (b := wi) ((ko_d (Or.inr (Or.inr (Or.inr (Or.inr (by omega)))))).trans va_up_s) (by omega) (by omega) ((ko_d d2.1).trans ((va_up_n (by omega)).trans d1)) (by omega) (by omega)) (fun h3' n3 c3 u3 hs => ?_)
              obtain ⟨i1, i2, i3⟩ := hs
              subst i1
              rw [ko_new (by omega), va_uu, i2, i3]
              have kE : ke h6 n5 (va_up h6 n5 (.inr (10, [xi (mu_fq u), .ref fo, xi z, xi (xb wi), va_rf (some xa5), .ref j, xi 0, xi 0, .null, xi 0]))) (n5 + 1) := ke_up (Nat.le_refl _) (by omega)
              have HQ : rqO w5 (va_up h6 n5 (.inr (10, [xi (mu_fq u), .ref fo, xi z, xi (xb wi), va_rf (some xa5), .ref j, xi 0, xi 0, .null, xi 0]))) (n5 + 1) (ar 3) (mu_fq u).toNat (f, some (z, wi, A), 0, A9, none) n5 := by
                refine ⟨fo, j, some xa5, none, false, false, ?_, gd_n S5.1.1 (Nat.le_refl _), by omega, by omega, e3, aO_kp HA9 (ke_kp kE), fun y ey => (by cases ey; exact ⟨zr, xa5, rfl, aO_kp HA5' (ke_kp kE)⟩), ⟨rfl, rfl⟩, by dsimp only; omega, by dsimp only; omega⟩
                rw [show (((mu_fq u).toNat : Nat) : Int) = mu_fq u by omega]
                exact va_up_s
              have B7 := cB_x (R := (mu_fq u).toNat) (cB_kp (s' := s5) (p' := p5) (ar' := ar) S5.2.1 S5.1.1 (ke_kp kE) (fun _ _ _ _ => rfl) rfl (fun _ _ => rfl))
              refine xe_cI xt_g180 rfl rfl rfl (q := 131) rfl (kc_V xk_0_193 rfl (ko_44) (by omega) rfl rfl) xt_g135 (by decide) ⟨Nat.le_of_ble_eq_true rfl, Nat.le_of_ble_eq_true rfl, Nat.le_of_ble_eq_true rfl⟩ (k135 (q := (f, some (z, wi, A), 0, A9, none)) (X := X) (d := dp f.toNat) (fo := fo) hfm (KW_ke S5.1 kE) B7 (by omega) HQ (frO_kp HF5' (ke_kp kE)) e3 f0 G.2.1 G.2.2.2.1 S5.2.2.2.1) (fun z8 h8' n8 c8 u8 ht => ?_)
              refine xe_iret xt_g180 rfl rfl xi_int.1 ?_
              try dsimp only
              obtain ⟨ez, w9, s9, ar9, h9, t9, kc9, k1, k2, k3, k4, k5, k6⟩ := ht
              have RB := RT_trans (RT_trans RA (RT_ke (B := 10) (C := 1) (u' := 10) S5.1 kE (Nat.le_refl _) (Nat.le_refl _))) k2
              refine ⟨z8, rfl, by rw [ez]; show (((mu_fq u).toNat : Nat) : Int) = mu_fq u; omega, w9, s9, p5, ar9, v, h9, t9, kc9, k1, RU_m (RU_RT (RT_mono RB (Nat.le_refl _) (Nat.le_refl _) (by omega))) (by omega) (by omega), k2.1, k6, ?_, k3.2.2, by rw [k3.2.1]; exact S5.2.2.2.2⟩
              rw [k3.1, S5.2.2.1]
              exact send_fr.2.2.2.symm
            · try simp only [xb_0, xb_1, ne_eq, Decidable.not_not, Bool.not_eq_false, Bool.not_eq_true, decide_eq_true_eq, decide_eq_false_iff_not] at b101
              refine xe_s (f := (105, _, _, _)) xt_g180 rfl rfl rfl rfl rfl ?_
              refine xe_s (f := (107, _, _, _)) xt_g180 rfl rfl rfl rfl rfl ?_
              refine xe_s (f := (108, _, xi 3 :: _, _)) xt_g180 rfl rfl rfl rfl rfl ?_
              refine xe_cI xt_g180 rfl rfl rfl (q := 111) rfl (kc_V xk_0_173 rfl (ko_44) (by omega) rfl rfl) xt_g174 (by decide) ⟨Nat.le_of_ble_eq_true rfl, Nat.le_of_ble_eq_true rfl, Nat.le_of_ble_eq_true rfl⟩ (refu w5 s5 p5 ar h6 n5 t5 kc5 (u1 + u5) 3 (RT_mono RA (by omega) (by omega) (Nat.le_refl _)) S5 HF5') (fun z3 h3' n3 c3 u3 hq => ?_)
              refine xe_iret xt_g180 rfl rfl xi_int.1 ?_
              try dsimp only
              obtain ⟨q1, q2⟩ := hq
              rw [if_pos (show mu_fq u < 0 by omega), show 0 + u1 + u5 + u3 = u1 + u5 + u3 by omega]
              exact ⟨z3, rfl, q1, q2⟩
          · try simp only [xb_0, xb_1, ne_eq, Decidable.not_not, Bool.not_eq_false, Bool.not_eq_true, decide_eq_true_eq, decide_eq_false_iff_not] at b68
            refine xe_s (f := (73, _, _, _)) xt_g180 rfl rfl rfl rfl rfl ?_
            refine xe_s (f := (75, _, _, _)) xt_g180 rfl rfl rfl rfl rfl ?_
            refine xe_gf xt_g180 rfl (q := 78) rfl (xf_0_166 fm) (X5) (by omega) rfl rfl ?_
            refine xe_cR xt_g180 rfl rfl rfl (q := 81) rfl (kc_V xk_0_184 rfl (XA) (by omega) rfl rfl) xt_g178 (by decide) ⟨Nat.le_of_ble_eq_true rfl, Nat.le_of_ble_eq_true rfl, Nat.le_of_ble_eq_true rfl⟩ (k178 HA9 HA5') ?_
            refine xe_if_ne xt_g180 rfl (t := 92) rfl (q := 84) rfl (by first | omega | exact xb_r _) (fun b81 => ?_) (fun b81 => ?_)
            · try simp only [xb_0, xb_1, ne_eq, Decidable.not_not, Bool.not_eq_false, Bool.not_eq_true, decide_eq_true_eq, decide_eq_false_iff_not] at b81
              have nc : ¬ (z = 0 ∧ pa_hd A9 ≠ pa_hd A) := fun q => q.2 b81
              rw [if_neg nc]
              refine xe_s (f := (93, _, _, _)) xt_g180 rfl rfl rfl rfl rfl ?_
              refine xe_cR xt_g180 rfl rfl rfl (q := 96) rfl (kc_V xk_0_138 rfl (ko_44) (by omega) rfl rfl) xt_g128 (by decide) ⟨Nat.le_of_ble_eq_true rfl, Nat.le_of_ble_eq_true rfl, Nat.le_of_ble_eq_true rfl⟩ (k128 (by omega)) ?_
              rw [fqe]
              refine xe_s (f := (98, [(7, _), (6, _), (5, _), (4, _), (0, _), (1, _), (2, _), (3, _)], _, _)) xt_g180 rfl rfl rfl rfl rfl ?_
              refine xe_s (f := (100, _, _, _)) xt_g180 rfl rfl rfl rfl rfl ?_
              refine xe_s (f := (101, _, xi (-1) :: _, _)) xt_g180 rfl rfl rfl rfl rfl ?_
              refine xe_ic_ne xt_g180 rfl (t := 112) rfl (q := 104) rfl (by first | omega | exact xb_r _) (by first | omega | exact xb_r _) (fun b101 => ?_) (fun b101 => ?_)
              · try simp only [xb_0, xb_1, ne_eq, Decidable.not_not, Bool.not_eq_false, Bool.not_eq_true, decide_eq_true_eq, decide_eq_false_iff_not] at b101
                rw [if_neg (show ¬ mu_fq u < 0 by omega)]
                refine xe_s (f := (113, _, _, _)) xt_g180 rfl rfl rfl rfl rfl ?_
                refine xe_new (k := 10) (fs := [xi 0, .null, xi 0, xi 0, .null, .null, xi 0, xi 0, .null, xi 0]) xt_g180 rfl rfl (q := 116) rfl (xn_0_48 fm) rfl rfl rfl ?_
                rw [ko_new (by omega)]
                refine xe_s (f := (117, _, _, _)) xt_g180 rfl rfl rfl rfl rfl ?_
                refine xe_s (f := (119, _, _, _)) xt_g180 rfl rfl rfl rfl rfl ?_
                refine xe_s (f := (121, _, _, _)) xt_g180 rfl rfl rfl rfl rfl ?_
                refine xe_s (f := (123, _, _, _)) xt_g180 rfl rfl rfl rfl rfl ?_
                refine xe_s (f := (124, _, _, _)) xt_g180 rfl rfl rfl rfl rfl ?_
                refine xe_s (f := (125, _, _, _)) xt_g180 rfl rfl rfl rfl rfl ?_
                refine xe_cN xt_g180 rfl rfl rfl (q := 128) rfl (kc_P xk_0_190 rfl) xt_g134 (by decide) ⟨Nat.le_of_ble_eq_true rfl, Nat.le_of_ble_eq_true rfl, Nat.le_of_ble_eq_true rfl⟩ (k134 (ak := some xa5) (b := wi) ((ko_d (Or.inr (Or.inr (Or.inr (Or.inr (by omega)))))).trans va_up_s) (by omega) (by omega) ((ko_d d2.1).trans ((va_up_n (by omega)).trans d1)) (by omega) (by omega)) (fun h3' n3 c3 u3 hs => ?_)
                obtain ⟨i1, i2, i3⟩ := hs
                subst i1
                rw [ko_new (by omega), va_uu, i2, i3]
                have kE : ke h6 n5 (va_up h6 n5 (.inr (10, [xi (mu_fq u), .ref fo, xi z, xi (xb wi), va_rf (some xa5), .ref j, xi 0, xi 0, .null, xi 0]))) (n5 + 1) := ke_up (Nat.le_refl _) (by omega)
                have HQ : rqO w5 (va_up h6 n5 (.inr (10, [xi (mu_fq u), .ref fo, xi z, xi (xb wi), va_rf (some xa5), .ref j, xi 0, xi 0, .null, xi 0]))) (n5 + 1) (ar 3) (mu_fq u).toNat (f, some (z, wi, A), 0, A9, none) n5 := by
                  refine ⟨fo, j, some xa5, none, false, false, ?_, gd_n S5.1.1 (Nat.le_refl _), by omega, by omega, e3, aO_kp HA9 (ke_kp kE), fun y ey => (by cases ey; exact ⟨zr, xa5, rfl, aO_kp HA5' (ke_kp kE)⟩), ⟨rfl, rfl⟩, by dsimp only; omega, by dsimp only; omega⟩
                  rw [show (((mu_fq u).toNat : Nat) : Int) = mu_fq u by omega]
                  exact va_up_s
                have B7 := cB_x (R := (mu_fq u).toNat) (cB_kp (s' := s5) (p' := p5) (ar' := ar) S5.2.1 S5.1.1 (ke_kp kE) (fun _ _ _ _ => rfl) rfl (fun _ _ => rfl))
                refine xe_cI xt_g180 rfl rfl rfl (q := 131) rfl (kc_V xk_0_193 rfl (ko_44) (by omega) rfl rfl) xt_g135 (by decide) ⟨Nat.le_of_ble_eq_true rfl, Nat.le_of_ble_eq_true rfl, Nat.le_of_ble_eq_true rfl⟩ (k135 (q := (f, some (z, wi, A), 0, A9, none)) (X := X) (d := dp f.toNat) (fo := fo) hfm (KW_ke S5.1 kE) B7 (by omega) HQ (frO_kp HF5' (ke_kp kE)) e3 f0 G.2.1 G.2.2.2.1 S5.2.2.2.1) (fun z8 h8' n8 c8 u8 ht => ?_)
                refine xe_iret xt_g180 rfl rfl xi_int.1 ?_
                try dsimp only
                obtain ⟨ez, w9, s9, ar9, h9, t9, kc9, k1, k2, k3, k4, k5, k6⟩ := ht
                have RB := RT_trans (RT_trans RA (RT_ke (B := 10) (C := 1) (u' := 10) S5.1 kE (Nat.le_refl _) (Nat.le_refl _))) k2
                refine ⟨z8, rfl, by rw [ez]; show (((mu_fq u).toNat : Nat) : Int) = mu_fq u; omega, w9, s9, p5, ar9, v, h9, t9, kc9, k1, RU_m (RU_RT (RT_mono RB (Nat.le_refl _) (Nat.le_refl _) (by omega))) (by omega) (by omega), k2.1, k6, ?_, k3.2.2, by rw [k3.2.1]; exact S5.2.2.2.2⟩
                rw [k3.1, S5.2.2.1]
                exact send_fr.2.2.2.symm
              · try simp only [xb_0, xb_1, ne_eq, Decidable.not_not, Bool.not_eq_false, Bool.not_eq_true, decide_eq_true_eq, decide_eq_false_iff_not] at b101
                refine xe_s (f := (105, _, _, _)) xt_g180 rfl rfl rfl rfl rfl ?_
                refine xe_s (f := (107, _, _, _)) xt_g180 rfl rfl rfl rfl rfl ?_
                refine xe_s (f := (108, _, xi 3 :: _, _)) xt_g180 rfl rfl rfl rfl rfl ?_
                refine xe_cI xt_g180 rfl rfl rfl (q := 111) rfl (kc_V xk_0_173 rfl (ko_44) (by omega) rfl rfl) xt_g174 (by decide) ⟨Nat.le_of_ble_eq_true rfl, Nat.le_of_ble_eq_true rfl, Nat.le_of_ble_eq_true rfl⟩ (refu w5 s5 p5 ar h6 n5 t5 kc5 (u1 + u5) 3 (RT_mono RA (by omega) (by omega) (Nat.le_refl _)) S5 HF5') (fun z3 h3' n3 c3 u3 hq => ?_)
                refine xe_iret xt_g180 rfl rfl xi_int.1 ?_
                try dsimp only
                obtain ⟨q1, q2⟩ := hq
                rw [if_pos (show mu_fq u < 0 by omega), show 0 + u1 + u5 + u3 = u1 + u5 + u3 by omega]
                exact ⟨z3, rfl, q1, q2⟩
            · try simp only [xb_0, xb_1, ne_eq, Decidable.not_not, Bool.not_eq_false, Bool.not_eq_true, decide_eq_true_eq, decide_eq_false_iff_not] at b81
              refine xe_s (f := (85, _, _, _)) xt_g180 rfl rfl rfl rfl rfl ?_
              refine xe_s (f := (87, _, _, _)) xt_g180 rfl rfl rfl rfl rfl ?_
              refine xe_s (f := (88, _, xi 2 :: _, _)) xt_g180 rfl rfl rfl rfl rfl ?_
              refine xe_cI xt_g180 rfl rfl rfl (q := 91) rfl (kc_V xk_0_173 rfl (ko_44) (by omega) rfl rfl) xt_g174 (by decide) ⟨Nat.le_of_ble_eq_true rfl, Nat.le_of_ble_eq_true rfl, Nat.le_of_ble_eq_true rfl⟩ (refu w5 s5 p5 ar h6 n5 t5 kc5 (u1 + u5) 2 (RT_mono RA (by omega) (by omega) (Nat.le_refl _)) S5 HF5') (fun z3 h3' n3 c3 u3 hq => ?_)
              refine xe_iret xt_g180 rfl rfl xi_int.1 ?_
              try dsimp only
              obtain ⟨q1, q2⟩ := hq
              rw [if_pos ⟨b68, b81⟩, show 0 + u1 + u5 + u3 = u1 + u5 + u3 by omega]
              exact ⟨z3, rfl, q1, q2⟩
      · try simp only [xb_0, xb_1, ne_eq, Decidable.not_not, Bool.not_eq_false, Bool.not_eq_true, decide_eq_true_eq, decide_eq_false_iff_not] at b27
        refine xe_s (f := (31, _, _, _)) xt_g180 rfl rfl rfl rfl rfl ?_
        refine xe_s (f := (33, _, _, _)) xt_g180 rfl rfl rfl rfl rfl ?_
        refine xe_s (f := (34, _, xi 2 :: _, _)) xt_g180 rfl rfl rfl rfl rfl ?_
        refine xe_cI xt_g180 rfl rfl rfl (q := 37) rfl (kc_V xk_0_173 rfl (ko_44) (by omega) rfl rfl) xt_g174 (by decide) ⟨Nat.le_of_ble_eq_true rfl, Nat.le_of_ble_eq_true rfl, Nat.le_of_ble_eq_true rfl⟩ (refu w1 s p ar h2 n1 _ kc1 u1 2 (RT_mono R1 (by omega) (by omega) (Nat.le_refl _)) S1 HO') (fun z3 h3' n3 c3 u3 hq => ?_)
        refine xe_iret xt_g180 rfl rfl xi_int.1 ?_
        try dsimp only
        obtain ⟨q1, q2⟩ := hq
        rw [if_pos (by omega), show 0 + u1 + u3 = u1 + u3 by omega]
        exact ⟨z3, rfl, q1, q2⟩
end XBX
