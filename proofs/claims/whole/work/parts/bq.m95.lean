/-! calls that ask, and small ones -/
section XBQ
variable {fm : Value} {w w' w1 w2 : kW} {s s' s1 s2 : Nat → Int} {p p' p1 p2 : Nat → Nat} {ar ar' : Nat → Nat → Option Nat} {v : Nat → Int} {h h' h1 h2 : xm_H} {n n' n1 n2 r k k' u' u1 u2 x y a b R : Nat} {l D : List Int} {L : List (List Int)} {A B : pa_A} {q : mq_T} {c : ck_T} {C : List ck_T} {t t' t1 t2 : Nat → List Int} {kc kc' kc1 kc2 : Nat → Nat} {u : mu_T} {dp : Nat → Nat} {fx : Nat → Option Nat} {m : ms_T} {M : List ms_T} {O : List pa_A} {fr : Nat → Option mf_T} {rq : Nat → Option mq_T} {F fo G go d : Nat} {X Y : mf_T}
/-- where a frame is -/
theorem at_fr (H : cB w s p ar v h n u dp R) {f : Int} (e : mu_if u f = true) : ∃ X fo, 0 ≤ f ∧ f < 16 ∧ mu_fr u f.toNat = some X ∧ ar 3 f.toNat = some fo ∧ frO w h n (ar 3) f.toNat X (dp f.toNat) fo := by
  unfold mu_if at e
  rw [Bool.and_eq_true, decide_eq_true_eq] at e
  obtain ⟨X, eX⟩ := Option.isSome_iff_exists.mp e.2
  obtain ⟨a1, a2, a3, a4, a5, a6, a7, a8, a9, a10, a11, a12, a13⟩ := H
  obtain ⟨fo, e1, e2⟩ := (a10 f.toNat (by omega)).2 X eX
  exact ⟨X, fo, e.1.1, e.1.2, eX, e1, e2⟩
theorem no_fr (H : cB w s p ar v h n u dp R) {f : Int} (e : mu_if u f = false) : (if 0 ≤ f ∧ f < 16 then ar 3 f.toNat else none) = none := by
  unfold mu_if at e
  split
  · rename_i g
    rw [decide_eq_true g, Bool.true_and] at e
    obtain ⟨a1, a2, a3, a4, a5, a6, a7, a8, a9, a10, a11, a12, a13⟩ := H
    refine (a10 f.toNat (by omega)).1 ?_
    cases g : mu_fr u f.toNat with
    | none => rfl
    | some x => rw [g] at e; cases e
  · rfl
theorem at_rq (H : cB w s p ar v h n u dp 24) {f : Int} (e : mu_ir u f = true) : ∃ q y, 0 ≤ f ∧ f < 24 ∧ mu_rq u f.toNat = some q ∧ ar 4 f.toNat = some y ∧ rqO w h n (ar 3) f.toNat q y := by
  unfold mu_ir at e
  rw [Bool.and_eq_true, decide_eq_true_eq] at e
  obtain ⟨X, eX⟩ := Option.isSome_iff_exists.mp e.2
  obtain ⟨a1, a2, a3, a4, a5, a6, a7, a8, a9, a10, a11, a12, a13⟩ := H
  obtain ⟨fo, e1, e2⟩ := (a11 f.toNat (by omega) (by omega)).2 X eX
  exact ⟨X, fo, e.1.1, e.1.2, eX, e1, e2⟩
theorem no_rq (H : cB w s p ar v h n u dp 24) {f : Int} (e : mu_ir u f = false) : (if 0 ≤ f ∧ f < 24 then ar 4 f.toNat else none) = none := by
  unfold mu_ir at e
  split
  · rename_i g
    rw [decide_eq_true g, Bool.true_and] at e
    obtain ⟨a1, a2, a3, a4, a5, a6, a7, a8, a9, a10, a11, a12, a13⟩ := H
    refine (a11 f.toNat (by omega) (by omega)).1 ?_
    cases g : mu_rq u f.toNat with
    | none => rfl
    | some x => rw [g] at e; cases e
  · rfl
theorem at_tp (H : cB w s p ar v h n u dp R) (I : mI u dp) {f : Int} (e : mu_ht u f = true) : ∃ X fo, 0 ≤ f ∧ f < 4 ∧ 0 ≤ mu_tp u f ∧ mu_tp u f < 16 ∧ mu_fr u (mu_tp u f).toNat = some X ∧ ar 2 f.toNat = some fo ∧ ar 3 (mu_tp u f).toNat = some fo ∧ frO w h n (ar 3) (mu_tp u f).toNat X (dp (mu_tp u f).toNat) fo := by
  unfold mu_ht at e
  rw [Bool.and_eq_true, decide_eq_true_eq] at e
  obtain ⟨X, e1, e2, e3, e4, e5⟩ := tp_is I (i := f.toNat) (by omega) e.2
  rw [show ((f.toNat : Nat) : Int) = f by omega] at e1 e2 e3 e4
  obtain ⟨a1, a2, a3, a4, a5, a6, a7, a8, a9, a10, a11, a12, a13⟩ := H
  obtain ⟨fo, d1, d2⟩ := (a10 (mu_tp u f).toNat (by omega)).2 X e3
  refine ⟨X, fo, e.1.1, e.1.2, e1, e2, e3, ?_, d1, d2⟩
  rw [a9 f.toNat (by omega), if_pos e.2, show ((f.toNat : Nat) : Int) = f by omega]
  exact d1
theorem no_tp (H : cB w s p ar v h n u dp R) {f : Int} (e : mu_ht u f = false) : (if 0 ≤ f ∧ f < 4 then ar 2 f.toNat else none) = none := by
  unfold mu_ht at e
  split
  · rename_i g
    rw [decide_eq_true g, Bool.true_and] at e
    obtain ⟨a1, a2, a3, a4, a5, a6, a7, a8, a9, a10, a11, a12, a13⟩ := H
    rw [a9 f.toNat (by omega), if_neg (by rw [e]; decide)]
  · rfl
/-- existingFrame, existingRequest, existingTop -/
theorem k173 (hn : 64 ≤ n) (H : cB w s p ar v h n u dp R) {f : Int} (hz : 0 ≤ f ∧ f < 16) (e : ar 3 f.toNat = some fo) : xR fm 173 (ko w s p ar v h) n [.ref 44, xi f] (some (.ref fo)) := by
  have k := k150 (fm := fm) (w := w) (s := s) (p := p) (ar := ar) (v := v) (h := h) hn (show xr f by omega)
  rw [if_pos hz, e] at k
  unfold xR
  refine xe_s (f := (1, _, _, _)) xt_g173 rfl rfl rfl rfl rfl ?_
  refine xe_s (f := (2, _, _, _)) xt_g173 rfl rfl rfl rfl rfl ?_
  refine xe_cR xt_g173 rfl rfl rfl (q := 5) rfl (kc_V xk_0_277 rfl (ko_44) (by omega) rfl rfl) xt_g150 (by decide) ⟨Nat.le_of_ble_eq_true rfl, Nat.le_of_ble_eq_true rfl, Nat.le_of_ble_eq_true rfl⟩ (k) ?_
  refine xe_s (f := (6, [(2, _), (0, _), (1, _)], _, _)) xt_g173 rfl rfl rfl rfl rfl ?_
  refine xe_s (f := (7, _, _, _)) xt_g173 rfl rfl rfl rfl rfl ?_
  refine xe_s (f := (21, _, _, _)) xt_g173 rfl rfl rfl rfl rfl ?_
  refine xe_s (f := (22, _, _, _)) xt_g173 rfl rfl rfl rfl rfl ?_
  refine xe_aret xt_g173 rfl (Or.inl ⟨_, rfl⟩) rfl ?_
  exact ⟨rfl, rfl⟩
theorem k173x (hn : 64 ≤ n) (H : cB w s p ar v h n u dp R) {f : Int} (hz : xr f) (e : mu_if u f = false) : xX fm 173 (ko w s p ar v h) n [.ref 44, xi f] := by
  have k := k150 (fm := fm) (w := w) (s := s) (p := p) (ar := ar) (v := v) (h := h) hn hz
  rw [no_fr H e] at k
  unfold xX
  refine xe_s (f := (1, _, _, _)) xt_g173 rfl rfl rfl rfl rfl ?_
  refine xe_s (f := (2, _, _, _)) xt_g173 rfl rfl rfl rfl rfl ?_
  refine xe_cR xt_g173 rfl rfl rfl (q := 5) rfl (kc_V xk_0_277 rfl (ko_44) (by omega) rfl rfl) xt_g150 (by decide) ⟨Nat.le_of_ble_eq_true rfl, Nat.le_of_ble_eq_true rfl, Nat.le_of_ble_eq_true rfl⟩ (k) ?_
  refine xe_s (f := (6, [(2, _), (0, _), (1, _)], _, _)) xt_g173 rfl rfl rfl rfl rfl ?_
  refine xe_s (f := (7, _, _, _)) xt_g173 rfl rfl rfl rfl rfl ?_
  refine xe_s (f := (10, _, _, _)) xt_g173 rfl rfl rfl rfl rfl ?_
  exact xe_thr xt_g173 rfl rfl rfl ⟨rfl, rfl⟩
theorem k183 (hn : 64 ≤ n) {f : Int} (hz : 0 ≤ f ∧ f < 24) (e : ar 4 f.toNat = some y) : xR fm 183 (ko w s p ar v h) n [.ref 44, xi f] (some (.ref y)) := by
  have k := k152 (fm := fm) (w := w) (s := s) (p := p) (ar := ar) (v := v) (h := h) hn (show xr f by omega)
  rw [if_pos hz, e] at k
  unfold xR
  refine xe_s (f := (1, _, _, _)) xt_g183 rfl rfl rfl rfl rfl ?_
  refine xe_s (f := (2, _, _, _)) xt_g183 rfl rfl rfl rfl rfl ?_
  refine xe_cR xt_g183 rfl rfl rfl (q := 5) rfl (kc_V xk_0_283 rfl (ko_44) (by omega) rfl rfl) xt_g152 (by decide) ⟨Nat.le_of_ble_eq_true rfl, Nat.le_of_ble_eq_true rfl, Nat.le_of_ble_eq_true rfl⟩ (k) ?_
  refine xe_s (f := (6, [(2, _), (0, _), (1, _)], _, _)) xt_g183 rfl rfl rfl rfl rfl ?_
  refine xe_s (f := (7, _, _, _)) xt_g183 rfl rfl rfl rfl rfl ?_
  refine xe_s (f := (21, _, _, _)) xt_g183 rfl rfl rfl rfl rfl ?_
  refine xe_s (f := (22, _, _, _)) xt_g183 rfl rfl rfl rfl rfl ?_
  refine xe_aret xt_g183 rfl (Or.inl ⟨_, rfl⟩) rfl ?_
  exact ⟨rfl, rfl⟩
theorem k183x (hn : 64 ≤ n) (H : cB w s p ar v h n u dp 24) {f : Int} (hz : xr f) (e : mu_ir u f = false) : xX fm 183 (ko w s p ar v h) n [.ref 44, xi f] := by
  have k := k152 (fm := fm) (w := w) (s := s) (p := p) (ar := ar) (v := v) (h := h) hn hz
  rw [no_rq H e] at k
  unfold xX
  refine xe_s (f := (1, _, _, _)) xt_g183 rfl rfl rfl rfl rfl ?_
  refine xe_s (f := (2, _, _, _)) xt_g183 rfl rfl rfl rfl rfl ?_
  refine xe_cR xt_g183 rfl rfl rfl (q := 5) rfl (kc_V xk_0_283 rfl (ko_44) (by omega) rfl rfl) xt_g152 (by decide) ⟨Nat.le_of_ble_eq_true rfl, Nat.le_of_ble_eq_true rfl, Nat.le_of_ble_eq_true rfl⟩ (k) ?_
  refine xe_s (f := (6, [(2, _), (0, _), (1, _)], _, _)) xt_g183 rfl rfl rfl rfl rfl ?_
  refine xe_s (f := (7, _, _, _)) xt_g183 rfl rfl rfl rfl rfl ?_
  refine xe_s (f := (10, _, _, _)) xt_g183 rfl rfl rfl rfl rfl ?_
  exact xe_thr xt_g183 rfl rfl rfl ⟨rfl, rfl⟩
theorem k164 (hn : 64 ≤ n) {f : Int} (hz : 0 ≤ f ∧ f < 4) (e : ar 2 f.toNat = some fo) : xR fm 164 (ko w s p ar v h) n [.ref 44, xi f] (some (.ref fo)) := by
  have k := k146 (fm := fm) (w := w) (s := s) (p := p) (ar := ar) (v := v) (h := h) hn (show xr f by omega)
  rw [if_pos hz, e] at k
  unfold xR
  refine xe_s (f := (1, _, _, _)) xt_g164 rfl rfl rfl rfl rfl ?_
  refine xe_s (f := (2, _, _, _)) xt_g164 rfl rfl rfl rfl rfl ?_
  refine xe_cR xt_g164 rfl rfl rfl (q := 5) rfl (kc_V xk_0_160 rfl (ko_44) (by omega) rfl rfl) xt_g146 (by decide) ⟨Nat.le_of_ble_eq_true rfl, Nat.le_of_ble_eq_true rfl, Nat.le_of_ble_eq_true rfl⟩ (k) ?_
  refine xe_s (f := (6, [(2, _), (0, _), (1, _)], _, _)) xt_g164 rfl rfl rfl rfl rfl ?_
  refine xe_s (f := (7, _, _, _)) xt_g164 rfl rfl rfl rfl rfl ?_
  refine xe_s (f := (21, _, _, _)) xt_g164 rfl rfl rfl rfl rfl ?_
  refine xe_s (f := (22, _, _, _)) xt_g164 rfl rfl rfl rfl rfl ?_
  refine xe_aret xt_g164 rfl (Or.inl ⟨_, rfl⟩) rfl ?_
  exact ⟨rfl, rfl⟩
theorem k164x (hn : 64 ≤ n) (H : cB w s p ar v h n u dp R) {f : Int} (hz : xr f) (e : mu_ht u f = false) : xX fm 164 (ko w s p ar v h) n [.ref 44, xi f] := by
  have k := k146 (fm := fm) (w := w) (s := s) (p := p) (ar := ar) (v := v) (h := h) hn hz
  rw [no_tp H e] at k
  unfold xX
  refine xe_s (f := (1, _, _, _)) xt_g164 rfl rfl rfl rfl rfl ?_
  refine xe_s (f := (2, _, _, _)) xt_g164 rfl rfl rfl rfl rfl ?_
  refine xe_cR xt_g164 rfl rfl rfl (q := 5) rfl (kc_V xk_0_160 rfl (ko_44) (by omega) rfl rfl) xt_g146 (by decide) ⟨Nat.le_of_ble_eq_true rfl, Nat.le_of_ble_eq_true rfl, Nat.le_of_ble_eq_true rfl⟩ (k) ?_
  refine xe_s (f := (6, [(2, _), (0, _), (1, _)], _, _)) xt_g164 rfl rfl rfl rfl rfl ?_
  refine xe_s (f := (7, _, _, _)) xt_g164 rfl rfl rfl rfl rfl ?_
  refine xe_s (f := (10, _, _, _)) xt_g164 rfl rfl rfl rfl rfl ?_
  exact xe_thr xt_g164 rfl rfl rfl ⟨rfl, rfl⟩
/-- aboutFrame -/
theorem k151 (hn : 64 ≤ n) (H : cB w s p ar v h n u dp 24) (I : mI u dp) {f z : Int} (e : mu_if u f = true) (hz : z = 1 ∨ z = 2 ∨ z = 3 ∨ z = 4) {o : Option Nat} (eo : o = ar 3 f.toNat) : xR fm 151 (ko w s p ar v h) n [.ref 44, va_rf o, xi z] (some (xi (mu_abf u f z))) := by
  obtain ⟨X, fo, f0, f1, eX, e3, HO⟩ := at_fr H e
  have H' := H
  obtain ⟨a1, a2, a3, a4, a5, a6, a7, a8, a9, a10, a11, a12, a13⟩ := H
  have HO' := HO
  obtain ⟨ad, b1, b2, b3, b4, b5⟩ := HO
  have X1 := (ko_d (w := w) (s := s) (p := p) (ar := ar) (v := v) b2.1).trans b1
  obtain ⟨i1, i2, i3, i4⟩ := I.2.2.2.1 f.toNat (by omega) X eX
  have pt : mf_pt (mu_fr u f.toNat) = (X.1, X.2.1) := by rw [eX]; rfl
  have ead : mu_ad u f = X.2.2 := by unfold mu_ad; rw [eX]
  rw [eo, e3]
  unfold xR mu_abf
  rw [if_pos e, pt, ead]
  rcases hz with g | g | g | g
  · subst g
    refine xe_s (f := (1, _, _, _)) xt_g151 rfl rfl rfl rfl rfl ?_
    refine xe_s (f := (6, _, _, _)) xt_g151 rfl rfl rfl rfl rfl ?_
    refine xe_s (f := (7, _, _, _)) xt_g151 rfl rfl rfl rfl rfl ?_
    refine xe_tsw xt_g151 rfl (t := 32) (by omega) (rfl) rfl ?_
    refine xe_s (f := (33, _, _, _)) xt_g151 rfl rfl rfl rfl rfl ?_
    refine xe_gf xt_g151 rfl (q := 36) rfl (xf_0_177 fm) (X1) (by omega) rfl rfl ?_
    refine xe_iret xt_g151 rfl rfl xi_int.1 ?_
    exact ⟨rfl, rfl⟩
  · subst g
    by_cases q : X.2.1 < 0
    · rw [if_pos q] at X1
      have em : X.2.1 = -1 := by omega
      refine xe_s (f := (1, _, _, _)) xt_g151 rfl rfl rfl rfl rfl ?_
      refine xe_s (f := (6, _, _, _)) xt_g151 rfl rfl rfl rfl rfl ?_
      refine xe_s (f := (7, _, _, _)) xt_g151 rfl rfl rfl rfl rfl ?_
      refine xe_tsw xt_g151 rfl (t := 37) (by omega) (rfl) rfl ?_
      refine xe_s (f := (38, _, _, _)) xt_g151 rfl rfl rfl rfl rfl ?_
      refine xe_gf xt_g151 rfl (q := 41) rfl (xf_0_344 fm) (X1) (by omega) rfl rfl ?_
      refine xe_s (f := (44, _, _, _)) xt_g151 rfl rfl rfl rfl rfl ?_
      refine xe_s (f := (45, _, xi (-1) :: _, _)) xt_g151 rfl rfl rfl rfl rfl ?_
      refine xe_s (f := (55, _, _, _)) xt_g151 rfl rfl rfl rfl rfl ?_
      refine xe_iret xt_g151 rfl rfl xi_int.1 ?_
      try dsimp only
      rw [if_neg (by decide), if_pos rfl]
      rw [em]
      exact ⟨rfl, rfl⟩
    · obtain ⟨c1, c2, Y, c3, _⟩ := (I.1 f.toNat (by omega) X eX).2.2.2 (by omega)
      obtain ⟨rp, d1, HP⟩ := (a10 X.2.1.toNat (by omega)).2 Y c3
      obtain ⟨ad2, g1, g2, g3, g4, g5⟩ := HP
      have X2 := (ko_d (w := w) (s := s) (p := p) (ar := ar) (v := v) g2.1).trans g1
      rw [if_neg q, d1] at X1
      refine xe_s (f := (1, _, _, _)) xt_g151 rfl rfl rfl rfl rfl ?_
      refine xe_s (f := (6, _, _, _)) xt_g151 rfl rfl rfl rfl rfl ?_
      refine xe_s (f := (7, _, _, _)) xt_g151 rfl rfl rfl rfl rfl ?_
      refine xe_tsw xt_g151 rfl (t := 37) (by omega) (rfl) rfl ?_
      refine xe_s (f := (38, _, _, _)) xt_g151 rfl rfl rfl rfl rfl ?_
      refine xe_gf xt_g151 rfl (q := 41) rfl (xf_0_344 fm) (X1) (by omega) rfl rfl ?_
      refine xe_s (f := (48, _, _, _)) xt_g151 rfl rfl rfl rfl rfl ?_
      refine xe_s (f := (49, _, _, _)) xt_g151 rfl rfl rfl rfl rfl ?_
      refine xe_gf xt_g151 rfl (q := 52) rfl (xf_0_344 fm) (X1) (by omega) rfl rfl ?_
      refine xe_gf xt_g151 rfl (q := 55) rfl (xf_0_216 fm) (X2) (by omega) rfl rfl ?_
      refine xe_iret xt_g151 rfl rfl xi_int.1 ?_
      try dsimp only
      rw [if_neg (by decide), if_pos rfl]
      rw [show ((X.2.1.toNat : Nat) : Int) = X.2.1 by omega]
      exact ⟨rfl, rfl⟩
  · subst g
    cases ea : X.2.2 with
    | none =>
      rw [ea] at b5
      have b5 : ad = none := b5
      subst b5
      refine xe_s (f := (1, _, _, _)) xt_g151 rfl rfl rfl rfl rfl ?_
      refine xe_s (f := (6, _, _, _)) xt_g151 rfl rfl rfl rfl rfl ?_
      refine xe_s (f := (7, _, _, _)) xt_g151 rfl rfl rfl rfl rfl ?_
      refine xe_tsw xt_g151 rfl (t := 56) (by omega) (rfl) rfl ?_
      refine xe_s (f := (57, _, _, _)) xt_g151 rfl rfl rfl rfl rfl ?_
      refine xe_gf xt_g151 rfl (q := 60) rfl (xf_0_166 fm) (X1) (by omega) rfl rfl ?_
      refine xe_s (f := (63, _, _, _)) xt_g151 rfl rfl rfl rfl rfl ?_
      refine xe_s (f := (64, _, xi 0 :: _, _)) xt_g151 rfl rfl rfl rfl rfl ?_
      refine xe_s (f := (68, _, _, _)) xt_g151 rfl rfl rfl rfl rfl ?_
      refine xe_iret xt_g151 rfl rfl xi_int.1 ?_
      exact ⟨rfl, rfl⟩
    | some AA =>
      rw [ea] at b5
      obtain ⟨xa, eq, _⟩ := b5
      subst eq
      refine xe_s (f := (1, _, _, _)) xt_g151 rfl rfl rfl rfl rfl ?_
      refine xe_s (f := (6, _, _, _)) xt_g151 rfl rfl rfl rfl rfl ?_
      refine xe_s (f := (7, _, _, _)) xt_g151 rfl rfl rfl rfl rfl ?_
      refine xe_tsw xt_g151 rfl (t := 56) (by omega) (rfl) rfl ?_
      refine xe_s (f := (57, _, _, _)) xt_g151 rfl rfl rfl rfl rfl ?_
      refine xe_gf xt_g151 rfl (q := 60) rfl (xf_0_166 fm) (X1) (by omega) rfl rfl ?_
      refine xe_s (f := (67, _, _, _)) xt_g151 rfl rfl rfl rfl rfl ?_
      refine xe_s (f := (68, _, xi 1 :: _, _)) xt_g151 rfl rfl rfl rfl rfl ?_
      refine xe_iret xt_g151 rfl rfl xi_int.1 ?_
      exact ⟨rfl, rfl⟩
  · subst g
    have k132' := k132 (fm := fm) (s := s) (p := p) (v := v) hn a10 a11 I (show f.toNat < 16 by omega) e3 HO'
    rw [show ((f.toNat : Nat) : Int) = f by omega] at k132'
    have nv1 := xd_first_r (p := fun j => mq_nv f (mu_rq u j.toNat)) 24 0
    have nv2 : xd_first (fun j => mq_nv f (mu_rq u j.toNat)) 24 0 = mu_nv u f := rfl
    rw [nv2] at nv1
    rw [if_neg (by decide), if_neg (by decide), if_neg (by decide)]
    rcases nv1 with en | ⟨n1, n2, n3⟩
    · rw [en, if_neg (by omega)] at k132'
      rw [en]
      refine xe_s (f := (1, _, _, _)) xt_g151 rfl rfl rfl rfl rfl ?_
      refine xe_s (f := (6, _, _, _)) xt_g151 rfl rfl rfl rfl rfl ?_
      refine xe_s (f := (7, _, _, _)) xt_g151 rfl rfl rfl rfl rfl ?_
      refine xe_tsw xt_g151 rfl (t := 69) (by omega) (rfl) rfl ?_
      refine xe_s (f := (70, _, _, _)) xt_g151 rfl rfl rfl rfl rfl ?_
      refine xe_s (f := (71, _, _, _)) xt_g151 rfl rfl rfl rfl rfl ?_
      refine xe_cR xt_g151 rfl rfl rfl (q := 74) rfl (kc_V xk_0_336 rfl (ko_44) (by omega) rfl rfl) xt_g132 (by decide) ⟨Nat.le_of_ble_eq_true rfl, Nat.le_of_ble_eq_true rfl, Nat.le_of_ble_eq_true rfl⟩ (k132') ?_
      refine xe_s (f := (75, [(3, _), (0, _), (1, _), (2, _)], _, _)) xt_g151 rfl rfl rfl rfl rfl ?_
      refine xe_s (f := (76, _, _, _)) xt_g151 rfl rfl rfl rfl rfl ?_
      refine xe_s (f := (79, _, _, _)) xt_g151 rfl rfl rfl rfl rfl ?_
      refine xe_s (f := (80, _, xi (-1) :: _, _)) xt_g151 rfl rfl rfl rfl rfl ?_
      refine xe_s (f := (87, _, _, _)) xt_g151 rfl rfl rfl rfl rfl ?_
      refine xe_iret xt_g151 rfl rfl xi_int.1 ?_
      exact ⟨rfl, rfl⟩
    · obtain ⟨q, eq⟩ : ∃ q, mu_rq u (mu_nv u f).toNat = some q := by
        cases g : mu_rq u (mu_nv u f).toNat with
        | none => rw [g] at n3; cases n3
        | some q => exact ⟨q, rfl⟩
      obtain ⟨yy, e4, HR⟩ := (a11 (mu_nv u f).toNat (by omega) (by omega)).2 q eq
      obtain ⟨fo', ad', ak, lf, la, lw, c1, c2, c3, c4, _⟩ := HR
      have X2 := (ko_d (w := w) (s := s) (p := p) (ar := ar) (v := v) c2.1).trans c1
      rw [if_pos (by omega), e4] at k132'
      refine xe_s (f := (1, _, _, _)) xt_g151 rfl rfl rfl rfl rfl ?_
      refine xe_s (f := (6, _, _, _)) xt_g151 rfl rfl rfl rfl rfl ?_
      refine xe_s (f := (7, _, _, _)) xt_g151 rfl rfl rfl rfl rfl ?_
      refine xe_tsw xt_g151 rfl (t := 69) (by omega) (rfl) rfl ?_
      refine xe_s (f := (70, _, _, _)) xt_g151 rfl rfl rfl rfl rfl ?_
      refine xe_s (f := (71, _, _, _)) xt_g151 rfl rfl rfl rfl rfl ?_
      refine xe_cR xt_g151 rfl rfl rfl (q := 74) rfl (kc_V xk_0_336 rfl (ko_44) (by omega) rfl rfl) xt_g132 (by decide) ⟨Nat.le_of_ble_eq_true rfl, Nat.le_of_ble_eq_true rfl, Nat.le_of_ble_eq_true rfl⟩ (k132') ?_
      refine xe_s (f := (75, [(3, _), (0, _), (1, _), (2, _)], _, _)) xt_g151 rfl rfl rfl rfl rfl ?_
      refine xe_s (f := (76, _, _, _)) xt_g151 rfl rfl rfl rfl rfl ?_
      refine xe_s (f := (83, _, _, _)) xt_g151 rfl rfl rfl rfl rfl ?_
      refine xe_s (f := (84, _, _, _)) xt_g151 rfl rfl rfl rfl rfl ?_
      refine xe_gf xt_g151 rfl (q := 87) rfl (xf_0_340 fm) (X2) (by omega) rfl rfl ?_
      refine xe_iret xt_g151 rfl rfl xi_int.1 ?_
      try dsimp only
      rw [show (((mu_nv u f).toNat : Nat) : Int) = mu_nv u f by omega]
      exact ⟨rfl, rfl⟩
theorem k151n {z : Int} : xR fm 151 (ko w s p ar v h) n [.ref 44, .null, xi z] (some (xi (-1))) := by
  unfold xR
  refine xe_s (f := (1, _, _, _)) xt_g151 rfl rfl rfl rfl rfl ?_
  refine xe_s (f := (4, _, _, _)) xt_g151 rfl rfl rfl rfl rfl ?_
  refine xe_s (f := (5, _, xi (-1) :: _, _)) xt_g151 rfl rfl rfl rfl rfl ?_
  refine xe_iret xt_g151 rfl rfl xi_int.1 ?_
  exact ⟨rfl, rfl⟩
end XBQ
