/-! objects that change: requests and frames -/
/-- only frames and requests may have changed -/
def kz (h h' : xm_H) : Prop := ∀ a, h' a = h a ∨ (∃ fs, h a = .inr (9, fs)) ∨ ∃ fs, h a = .inr (10, fs)
section XBN
variable {fm : Value} {w w' w1 w2 : kW} {s s' s1 s2 : Nat → Int} {p p' p1 p2 : Nat → Nat} {ar ar' : Nat → Nat → Option Nat} {v : Nat → Int} {h h' h1 h2 : xm_H} {n n' n1 n2 r k k' u' u1 u2 x y a b R : Nat} {l D : List Int} {L : List (List Int)} {A B : pa_A} {q : mq_T} {c : ck_T} {C : List ck_T} {t t' t1 t2 : Nat → List Int} {kc kc' kc1 kc2 : Nat → Nat} {u : mu_T} {dp : Nat → Nat} {fx : Nat → Option Nat} {m : ms_T} {M : List ms_T} {O : List pa_A} {fr : Nat → Option mf_T} {rq : Nat → Option mq_T} {F fo G go d : Nat} {X Y : mf_T}
theorem kz_e {ci : Nat} {fs : List Value} (Z : kz h h') (e : h a = .inr (ci, fs)) (h9 : ci ≠ 9) (h10 : ci ≠ 10) : h' a = h a := by
  rcases Z a with g | ⟨gs, g⟩ | ⟨gs, g⟩
  · exact g
  · rw [e] at g; cases g; exact absurd rfl h9
  · rw [e] at g; cases g; exact absurd rfl h10
theorem kz_a {E : Nat × Nat × ((Nat → Int32) ⊕ (Nat → Int64) ⊕ (Nat → UInt32) ⊕ (Nat → UInt64) ⊕ (Nat → Option Nat))} (Z : kz h h') (e : h a = .inl E) : h' a = h a := by
  rcases Z a with g | ⟨gs, g⟩ | ⟨gs, g⟩
  · exact g
  · rw [e] at g; cases g
  · rw [e] at g; cases g
theorem sS_kz {FF : Nat → Prop} (H : sS FF h n r l) (Z : kz h h') : sS FF h' n r l := by
  obtain ⟨b, x, y, h1, ⟨f, h2, h6, h7⟩, h3⟩ := H
  exact ⟨b, x, y, (kz_e Z h1 (by decide) (by decide)).trans h1, ⟨f, (kz_a Z h2).trans h2, h6, h7⟩, h3⟩
theorem aO_kz (H : aO w h n x A) (Z : kz h h') : aO w h' n x A := by
  obtain ⟨ho, pa, qu, te, a1, a2, a3, a4, a5, a6, a7, a8, a9⟩ := H
  exact ⟨ho, pa, qu, te, (kz_e Z a1 (by decide) (by decide)).trans a1, a2, a3, a4, sS_kz a5 Z, sS_kz a6 Z, sS_kz a7 Z, sS_kz a8 Z, a9⟩
theorem adO_kz {o : Option Nat} {Q : Option pa_A} (H : adO w h n o Q) (Z : kz h h') : adO w h' n o Q := by
  cases Q with
  | none => exact H
  | some a =>
    obtain ⟨y, e1, H⟩ := H
    exact ⟨y, e1, aO_kz H Z⟩
theorem kb_kz {j : Nat} (H : kb w h j l k) (Z : kz h h') : kb w h' j l k := by
  obtain ⟨⟨f, h2, h3⟩, H⟩ := H
  exact ⟨⟨f, (kz_a Z h2).trans h2, h3⟩, H⟩
theorem KW_kz (H : KW w h n t kc) (Z : kz h h') : KW w h' n t kc := by
  obtain ⟨W, a, b, c⟩ := H
  exact ⟨W, kb_kz a Z, kb_kz b Z, kb_kz c Z⟩
theorem cst_kz (H : cst w h n) (Z : kz h h') : cst w h' n := by
  refine ⟨fun q hq => sS_kz (H.1 q hq) Z, ?_⟩
  obtain ⟨⟨f1, d1, d2⟩, f2, d3, d4⟩ := H.2
  exact ⟨⟨f1, (kz_a Z d1).trans d1, d2⟩, f2, (kz_a Z d3).trans d3, d4⟩
theorem mO_kz (H : mO w h n x m) (Z : kz h h') : mO w h' n x m := by
  obtain ⟨te, a1, a2, a3, a4, a5⟩ := H
  exact ⟨te, (kz_e Z a1 (by decide) (by decide)).trans a1, a2, a3, a4, sS_kz a5 Z⟩
theorem sfO_kz (H : sfO w h n x D) (Z : kz h h') : sfO w h' n x D := by
  obtain ⟨te, a1, a2, a3, a4, a5⟩ := H
  exact ⟨te, (kz_e Z a1 (by decide) (by decide)).trans a1, a2, a3, a4, sS_kz a5 Z⟩
theorem ckO_kz (H : ckO w h n x c) (Z : kz h h') : ckO w h' n x c := by
  obtain ⟨na, va, dn, pa, a1, a2, a3, a4, s1, s2, s3, s4, b⟩ := H
  exact ⟨na, va, dn, pa, (kz_e Z a1 (by decide) (by decide)).trans a1, a2, a3, a4, sS_kz s1 Z, sS_kz s2 Z, sS_kz s3 Z, sS_kz s4 Z, b⟩
theorem frO_kz (H : frO w h n fx F X d r) (Z : kz h h') (e : h' r = h r) : frO w h' n fx F X d r := by
  obtain ⟨ad, a1, a2, a3, a4, a5⟩ := H
  exact ⟨ad, e.trans a1, a2, a3, a4, adO_kz a5 Z⟩
theorem lvO_kz {la lw : Bool} {lf : Option Nat} {o : Option (Option (pa_A × Bool))} (H : lvO w h n la lf lw o) (Z : kz h h') : lvO w h' n la lf lw o := by
  match o with
  | none => exact H
  | some none => exact H
  | some (some y) =>
    obtain ⟨a1, a2, k, a3, a4⟩ := H
    exact ⟨a1, a2, k, a3, aO_kz a4 Z⟩
theorem akO_kz {ak : Option Nat} {o : Option (Int × Bool × pa_A)} (H : akO w h n ak o) (Z : kz h h') : akO w h' n ak o := fun z g => ⟨(H z g).1, by obtain ⟨k, b1, b2⟩ := (H z g).2; exact ⟨k, b1, aO_kz b2 Z⟩⟩
theorem rqO_kz (H : rqO w h n fx R q y) (Z : kz h h') (e : h' y = h y) : rqO w h' n fx R q y := by
  obtain ⟨fo, ad, ak, lf, la, lw, a1, a2, a3, a4, a5, a6, a7, a8, a9⟩ := H
  exact ⟨fo, ad, ak, lf, la, lw, e.trans a1, a2, a3, a4, a5, aO_kz a6 Z, akO_kz a7 Z, lvO_kz a8 Z, a9⟩
/-- a request's object changes: the rest stays -/
theorem cB_kz (H : cB w s p ar v h n u dp R) (Z : kz h h') (hF : ∀ f r, f < 16 → ar 3 f = some r → h' r = h r) (hQ : ∀ r y, r < 24 → r ≠ R → ar 4 r = some y → h' y = h y) : cB w s p ar v h' n u dp R := by
  obtain ⟨a1, a2, a3, a4, a5, a6, a7, a8, a9, a10, a11, a12, a13⟩ := H
  refine ⟨cst_kz a1 Z, sS_kz a2 Z, ⟨a3.1, a3.2.1, fun i hi => ?_⟩, a4, ⟨a5.1, a5.2.1, fun i hi => ?_⟩, a6, a7, ⟨a8.1, a8.2.1, fun i hi => ?_⟩, a9, fun f hf => ⟨(a10 f hf).1, fun x e => ?_⟩, fun r hr hR => ⟨(a11 r hr hR).1, fun q e => ?_⟩, ⟨a12.1, a12.2.1, fun i hi => ?_⟩, a13⟩
  · obtain ⟨x, b1, b2⟩ := a3.2.2 i hi
    exact ⟨x, b1, mO_kz b2 Z⟩
  · obtain ⟨x, b1, b2⟩ := a5.2.2 i hi
    exact ⟨x, b1, sfO_kz b2 Z⟩
  · obtain ⟨x, b1, b2⟩ := a8.2.2 i hi
    exact ⟨x, b1, ckO_kz b2 Z⟩
  · obtain ⟨r, b1, b2⟩ := (a10 f hf).2 x e
    exact ⟨r, b1, frO_kz b2 Z (hF f r hf b1)⟩
  · obtain ⟨y, b1, b2⟩ := (a11 r hr hR).2 q e
    exact ⟨y, b1, rqO_kz b2 Z (hQ r y hr hR b1)⟩
  · obtain ⟨x, b1, b2⟩ := a12.2.2 i hi
    exact ⟨x, b1, aO_kz b2 Z⟩
theorem xi_n24 : ∀ f g : Fin 24, (xi (f.val : Int)) = xi (g.val : Int) → f = g := by decide
theorem xi_nat24 {f g : Nat} (hf : f < 24) (hg : g < 24) (e : xi (f : Int) = xi (g : Int)) : f = g := congrArg Fin.val (xi_n24 ⟨f, hf⟩ ⟨g, hg⟩ e)
theorem kz_up {ci : Nat} {fs : List Value} {e : va_E} (ha : h a = .inr (ci, fs)) (hc : ci = 9 ∨ ci = 10) : kz h (va_up h a e) := by
  intro b
  by_cases g : b = a
  · subst g
    rcases hc with hc | hc
    · subst hc; exact Or.inr (Or.inl ⟨fs, ha⟩)
    · subst hc; exact Or.inr (Or.inr ⟨fs, ha⟩)
  · exact Or.inl (va_up_n g)
/-- the object of request R changes -/
theorem cB_rup {fs : List Value} {e : va_E} (H : cB w s p ar v h n u dp R) (hR : R < 24) (hy : h y = .inr (10, xi (R : Int) :: fs)) : cB w s p ar v (va_up h y e) n u dp R := by
  refine cB_kz H (kz_up hy (Or.inr rfl)) (fun f r hf e3 => va_up_n ?_) (fun r y' hr hR' e4 => va_up_n ?_)
  · intro g
    subst g
    obtain ⟨a1, a2, a3, a4, a5, a6, a7, a8, a9, a10, a11, a12, a13⟩ := H
    cases e : mu_fr u f with
    | none => rw [(a10 f hf).1 e] at e3; cases e3
    | some x =>
      obtain ⟨r', b1, ad, b2, _⟩ := (a10 f hf).2 x e
      rw [e3] at b1
      cases b1
      rw [hy] at b2
      cases b2
  · intro g
    subst g
    obtain ⟨a1, a2, a3, a4, a5, a6, a7, a8, a9, a10, a11, a12, a13⟩ := H
    cases e : mu_rq u r with
    | none => rw [(a11 r hr hR').1 e] at e4; cases e4
    | some q =>
      obtain ⟨y', b1, fo, ad, ak, lf, la, lw, b2, _⟩ := (a11 r hr hR').2 q e
      rw [e4] at b1
      cases b1
      rw [hy] at b2
      injection b2 with b2
      injection b2 with _ b2
      injection b2 with b2 _
      exact hR' (xi_nat24 hR hr b2).symm
/-- tellLeave -/
theorem k223 {f0 f1 f2 f3 f4 f5 f6 f7 f8 f9 : Value} {la lw : Bool} {lf : Option Nat} (ha : h y = .inr (10, [f0, f1, f2, f3, f4, f5, f6, f7, f8, f9])) (h44 : 44 ≤ y) (hy : y < n) : xN fm 223 h n [.ref y, xi (xb la), va_rf lf, xi (xb lw)] (fun h' n' u' => h' = va_up h y (.inr (10, [f0, f1, f2, f3, f4, f5, f6, xi (xb la), va_rf lf, xi (xb lw)])) ∧ n' = n ∧ u' = 0) := by
  have y1 := xb_or la
  have y2 := xb_or lw
  unfold xN
  cases lf with
  | none =>
    refine xe_s (f := (1, _, _, _)) xt_g223 rfl rfl rfl rfl rfl ?_
    refine xe_s (f := (2, _, _, _)) xt_g223 rfl rfl rfl rfl rfl ?_
    refine xe_pf xt_g223 rfl (q := 5) rfl (xf_8_36 fm) (ha) (by omega) (by omega) rfl (Nat.le_of_ble_eq_true rfl) (Nat.le_of_ble_eq_true rfl) (xi_bool (by first | omega | exact xb_or _)) (Or.inl rfl) ?_
    refine xe_s (f := (6, _, _, _)) xt_g223 rfl rfl rfl rfl rfl ?_
    refine xe_s (f := (7, _, _, _)) xt_g223 rfl rfl rfl rfl rfl ?_
    refine xe_pf xt_g223 rfl (q := 10) rfl (xf_8_39 fm) (va_up_s) (by omega) (by omega) rfl (Nat.le_of_ble_eq_true rfl) (Nat.le_of_ble_eq_true rfl) ⟨rfl, rfl⟩ (Or.inl rfl) ?_
    refine xe_s (f := (11, _, _, _)) xt_g223 rfl rfl rfl rfl rfl ?_
    refine xe_s (f := (12, _, _, _)) xt_g223 rfl rfl rfl rfl rfl ?_
    refine xe_pf xt_g223 rfl (q := 15) rfl (xf_8_42 fm) (va_up_s) (by omega) (by omega) rfl (Nat.le_of_ble_eq_true rfl) (Nat.le_of_ble_eq_true rfl) (xi_bool (by first | omega | exact xb_or _)) (Or.inl rfl) ?_
    refine xe_ret xt_g223 rfl rfl ?_
    try dsimp only
    rw [va_uu, va_uu]
    exact ⟨rfl, rfl, rfl, rfl⟩
  | some j =>
    refine xe_s (f := (1, _, _, _)) xt_g223 rfl rfl rfl rfl rfl ?_
    refine xe_s (f := (2, _, _, _)) xt_g223 rfl rfl rfl rfl rfl ?_
    refine xe_pf xt_g223 rfl (q := 5) rfl (xf_8_36 fm) (ha) (by omega) (by omega) rfl (Nat.le_of_ble_eq_true rfl) (Nat.le_of_ble_eq_true rfl) (xi_bool (by first | omega | exact xb_or _)) (Or.inl rfl) ?_
    refine xe_s (f := (6, _, _, _)) xt_g223 rfl rfl rfl rfl rfl ?_
    refine xe_s (f := (7, _, _, _)) xt_g223 rfl rfl rfl rfl rfl ?_
    refine xe_pf xt_g223 rfl (q := 10) rfl (xf_8_39 fm) (va_up_s) (by omega) (by omega) rfl (Nat.le_of_ble_eq_true rfl) (Nat.le_of_ble_eq_true rfl) ⟨rfl, rfl⟩ (Or.inl rfl) ?_
    refine xe_s (f := (11, _, _, _)) xt_g223 rfl rfl rfl rfl rfl ?_
    refine xe_s (f := (12, _, _, _)) xt_g223 rfl rfl rfl rfl rfl ?_
    refine xe_pf xt_g223 rfl (q := 15) rfl (xf_8_42 fm) (va_up_s) (by omega) (by omega) rfl (Nat.le_of_ble_eq_true rfl) (Nat.le_of_ble_eq_true rfl) (xi_bool (by first | omega | exact xb_or _)) (Or.inl rfl) ?_
    refine xe_ret xt_g223 rfl rfl ?_
    try dsimp only
    rw [va_uu, va_uu]
    exact ⟨rfl, rfl, rfl, rfl⟩
/-- leadTo -/
theorem k227 {f0 f1 f2 f3 f4 f5 f7 f8 f9 : Value} {le : Int} {ad : Nat} (ha : h y = .inr (10, [f0, f1, f2, f3, f4, f5, xi le, f7, f8, f9])) (h44 : 44 ≤ y) (hy : y < n) : xN fm 227 h n [.ref y, .ref ad] (fun h' n' u' => h' = va_up h y (.inr (10, [f0, f1, f2, f3, f4, .ref ad, xi (le + 1), xi (xb false), va_rf none, xi (xb false)])) ∧ n' = n ∧ u' = 0) := by
  unfold xN
  refine xe_s (f := (1, _, _, _)) xt_g227 rfl rfl rfl rfl rfl ?_
  refine xe_s (f := (2, _, _, _)) xt_g227 rfl rfl rfl rfl rfl ?_
  refine xe_pf xt_g227 rfl (q := 5) rfl (xf_8_19 fm) (ha) (by omega) (by omega) rfl (Nat.le_of_ble_eq_true rfl) (Nat.le_of_ble_eq_true rfl) ⟨rfl, rfl⟩ (Or.inl rfl) ?_
  refine xe_s (f := (6, _, _, _)) xt_g227 rfl rfl rfl rfl rfl ?_
  refine xe_s (f := (7, _, _, _)) xt_g227 rfl rfl rfl rfl rfl ?_
  refine xe_gf xt_g227 rfl (q := 10) rfl (xf_8_51 fm) (va_up_s) (by omega) rfl rfl ?_
  refine xe_s (f := (11, _, xi 1 :: _, _)) xt_g227 rfl rfl rfl rfl rfl ?_
  refine xe_iadd xt_g227 rfl (q := 12) rfl ?_
  refine xe_pf xt_g227 rfl (q := 15) rfl (xf_8_51 fm) (va_up_s) (by omega) (by omega) rfl (Nat.le_of_ble_eq_true rfl) (Nat.le_of_ble_eq_true rfl) xi_int (Or.inl rfl) ?_
  refine xe_s (f := (16, _, _, _)) xt_g227 rfl rfl rfl rfl rfl ?_
  refine xe_s (f := (17, _, xi 0 :: _, _)) xt_g227 rfl rfl rfl rfl rfl ?_
  refine xe_s (f := (18, _, _, _)) xt_g227 rfl rfl rfl rfl rfl ?_
  refine xe_s (f := (19, _, xi 0 :: _, _)) xt_g227 rfl rfl rfl rfl rfl ?_
  refine xe_cN xt_g227 rfl rfl rfl (q := 22) rfl (kc_V xk_8_54 rfl (va_up_s) (by omega) rfl rfl) xt_g223 (by decide) ⟨Nat.le_of_ble_eq_true rfl, Nat.le_of_ble_eq_true rfl, Nat.le_of_ble_eq_true rfl⟩ (k223 (la := false) (lf := none) (lw := false) va_up_s h44 hy) (fun h2' n2 c2 u2 hp => ?_)
  refine xe_ret xt_g227 rfl rfl ?_
  try dsimp only
  obtain ⟨e1, e2, e3⟩ := hp
  rw [e1, e2, e3, va_uu, va_uu]
  exact ⟨rfl, rfl, rfl, rfl⟩
/-- mayLeadTo -/
theorem k226 (H : rqO w h n fx R q y) (HA : aO w h n a A) : xR fm 226 (ko w s p ar v h) n [.ref y, .ref a] (some (xi (xb (mq_led q A)))) := by
  obtain ⟨fo, ad, ak, lf, la, lw, a1, a2, a3, a4, a5, a6, a7, a8, a9, a10⟩ := H
  have X1 := (ko_d (w := w) (s := s) (p := p) (ar := ar) (v := v) a2.1).trans a1
  have HA' := HA
  obtain ⟨ho, pp, qu, te, d1, d2, d3, d4, d5, d6, d7, d8, d9⟩ := HA
  have X2 := (ko_d (w := w) (s := s) (p := p) (ar := ar) (v := v) d2.1).trans d1
  unfold xR mq_led
  cases e : q.2.1 with
  | none =>
    have mo : mq_mo q = -1 := by unfold mq_mo; rw [e]
    rw [mo] at X1
    refine xe_s (f := (1, _, _, _)) xt_g226 rfl rfl rfl rfl rfl ?_
    refine xe_gf xt_g226 rfl (q := 4) rfl (xf_8_51 fm) (X1) (by omega) rfl rfl ?_
    refine xe_s (f := (5, _, xi 5 :: _, _)) xt_g226 rfl rfl rfl rfl rfl ?_
    refine xe_ic_ge xt_g226 rfl (t := 30) rfl (q := 8) rfl (by first | omega | exact xb_r _) (by first | omega | exact xb_r _) (fun b5 => ?_) (fun b5 => ?_)
    · try simp only [xb_0, xb_1, ne_eq, Decidable.not_not, Bool.not_eq_false, Bool.not_eq_true, decide_eq_true_eq, decide_eq_false_iff_not] at b5
      rw [decide_eq_false (by omega), Bool.false_and]
      refine xe_s (f := (31, _, xi 0 :: _, _)) xt_g226 rfl rfl rfl rfl rfl ?_
      refine xe_iret xt_g226 rfl rfl (xi_bool (by first | omega | exact xb_or _)).1 ?_
      exact ⟨rfl, rfl⟩
    · try simp only [xb_0, xb_1, ne_eq, Decidable.not_not, Bool.not_eq_false, Bool.not_eq_true, decide_eq_true_eq, decide_eq_false_iff_not] at b5
      rw [decide_eq_true (by omega), Bool.true_and]
      refine xe_s (f := (9, _, _, _)) xt_g226 rfl rfl rfl rfl rfl ?_
      refine xe_gf xt_g226 rfl (q := 12) rfl (xf_8_23 fm) (X1) (by omega) rfl rfl ?_
      refine xe_if_ne xt_g226 rfl (t := 26) rfl (q := 15) rfl (by first | omega | exact xb_r _) (fun b12 => ?_) (fun b12 => ?_)
      · try simp only [xb_0, xb_1, ne_eq, Decidable.not_not, Bool.not_eq_false, Bool.not_eq_true, decide_eq_true_eq, decide_eq_false_iff_not] at b12
        refine xe_s (f := (27, _, xi 1 :: _, _)) xt_g226 rfl rfl rfl rfl rfl ?_
        refine xe_s (f := (31, _, _, _)) xt_g226 rfl rfl rfl rfl rfl ?_
        refine xe_iret xt_g226 rfl rfl (xi_bool (by first | omega | exact xb_or _)).1 ?_
        exact ⟨rfl, rfl⟩
      · exact absurd b12 (by omega)
  | some z =>
    have mo : mq_mo q = z.1 := by unfold mq_mo; rw [e]
    obtain ⟨⟨m0, m1⟩, k9, ek, HK⟩ := a7 z e
    rw [mo, ek] at X1
    refine xe_s (f := (1, _, _, _)) xt_g226 rfl rfl rfl rfl rfl ?_
    refine xe_gf xt_g226 rfl (q := 4) rfl (xf_8_51 fm) (X1) (by omega) rfl rfl ?_
    refine xe_s (f := (5, _, xi 5 :: _, _)) xt_g226 rfl rfl rfl rfl rfl ?_
    refine xe_ic_ge xt_g226 rfl (t := 30) rfl (q := 8) rfl (by first | omega | exact xb_r _) (by first | omega | exact xb_r _) (fun b5 => ?_) (fun b5 => ?_)
    · try simp only [xb_0, xb_1, ne_eq, Decidable.not_not, Bool.not_eq_false, Bool.not_eq_true, decide_eq_true_eq, decide_eq_false_iff_not] at b5
      rw [decide_eq_false (by omega), Bool.false_and]
      refine xe_s (f := (31, _, xi 0 :: _, _)) xt_g226 rfl rfl rfl rfl rfl ?_
      refine xe_iret xt_g226 rfl rfl (xi_bool (by first | omega | exact xb_or _)).1 ?_
      exact ⟨rfl, rfl⟩
    · try simp only [xb_0, xb_1, ne_eq, Decidable.not_not, Bool.not_eq_false, Bool.not_eq_true, decide_eq_true_eq, decide_eq_false_iff_not] at b5
      rw [decide_eq_true (by omega), Bool.true_and]
      refine xe_s (f := (9, _, _, _)) xt_g226 rfl rfl rfl rfl rfl ?_
      refine xe_gf xt_g226 rfl (q := 12) rfl (xf_8_23 fm) (X1) (by omega) rfl rfl ?_
      refine xe_if_ne xt_g226 rfl (t := 26) rfl (q := 15) rfl (by first | omega | exact xb_r _) (fun b12 => ?_) (fun b12 => ?_)
      · try simp only [xb_0, xb_1, ne_eq, Decidable.not_not, Bool.not_eq_false, Bool.not_eq_true, decide_eq_true_eq, decide_eq_false_iff_not] at b12
        dsimp only
        rw [decide_eq_false b12, Bool.false_and, Bool.not_false]
        refine xe_s (f := (27, _, xi 1 :: _, _)) xt_g226 rfl rfl rfl rfl rfl ?_
        refine xe_s (f := (31, _, _, _)) xt_g226 rfl rfl rfl rfl rfl ?_
        refine xe_iret xt_g226 rfl rfl (xi_bool (by first | omega | exact xb_or _)).1 ?_
        exact ⟨rfl, rfl⟩
      · try simp only [xb_0, xb_1, ne_eq, Decidable.not_not, Bool.not_eq_false, Bool.not_eq_true, decide_eq_true_eq, decide_eq_false_iff_not] at b12
        dsimp only
        rw [decide_eq_true b12, Bool.true_and, Bool.not_not]
        refine xe_s (f := (16, _, _, _)) xt_g226 rfl rfl rfl rfl rfl ?_
        refine xe_s (f := (17, _, _, _)) xt_g226 rfl rfl rfl rfl rfl ?_
        refine xe_gf xt_g226 rfl (q := 20) rfl (xf_8_33 fm) (X1) (by omega) rfl xm_kn_va ?_
        refine xe_cR xt_g226 rfl rfl rfl (q := 23) rfl (kc_V xk_8_45 rfl (X2) (by omega) rfl rfl) xt_g178 (by decide) ⟨Nat.le_of_ble_eq_true rfl, Nat.le_of_ble_eq_true rfl, Nat.le_of_ble_eq_true rfl⟩ (k178 HA' HK) ?_
        refine xe_if_eq xt_g226 rfl (t := 30) rfl (q := 26) rfl (by first | omega | exact xb_r _) (fun b23 => ?_) (fun b23 => ?_)
        · try simp only [xb_0, xb_1, ne_eq, Decidable.not_not, Bool.not_eq_false, Bool.not_eq_true, decide_eq_true_eq, decide_eq_false_iff_not] at b23
          rw [decide_eq_false b23]
          refine xe_s (f := (31, _, xi 0 :: _, _)) xt_g226 rfl rfl rfl rfl rfl ?_
          refine xe_iret xt_g226 rfl rfl (xi_bool (by first | omega | exact xb_or _)).1 ?_
          exact ⟨rfl, rfl⟩
        · try simp only [xb_0, xb_1, ne_eq, Decidable.not_not, Bool.not_eq_false, Bool.not_eq_true, decide_eq_true_eq, decide_eq_false_iff_not] at b23
          rw [decide_eq_true b23]
          refine xe_s (f := (27, _, xi 1 :: _, _)) xt_g226 rfl rfl rfl rfl rfl ?_
          refine xe_s (f := (31, _, _, _)) xt_g226 rfl rfl rfl rfl rfl ?_
          refine xe_iret xt_g226 rfl rfl (xi_bool (by first | omega | exact xb_or _)).1 ?_
          exact ⟨rfl, rfl⟩
/-- maySeeReply -/
theorem k185 (H : rqO w h n fx R q y) {z : Int × Bool × pa_A} (e : q.2.1 = some z) : xR fm 185 (ko w s p ar v h) n [.ref y] (some (xi (xb (mq_seen q)))) := by
  obtain ⟨fo, ad, ak, lf, la, lw, a1, a2, a3, a4, a5, a6, a7, a8, a9, a10⟩ := H
  have mo : mq_mo q = z.1 := by unfold mq_mo; rw [e]
  have mw : mq_wi q = z.2.1 := by unfold mq_wi; rw [e]
  obtain ⟨⟨m0, m1⟩, k9, ek, HK⟩ := a7 z e
  rw [mo, mw, ek] at a1
  have X1 := (ko_d (w := w) (s := s) (p := p) (ar := ar) (v := v) a2.1).trans a1
  have HA' := a6
  obtain ⟨ho, pp, qu, te, d1, d2, d3, d4, d5, d6, d7, d8, d9⟩ := a6
  have X2 := (ko_d (w := w) (s := s) (p := p) (ar := ar) (v := v) d2.1).trans d1
  have HK' := HK
  obtain ⟨ho', pp', qu', te', c1, c2, c3, c4, c5, c6, c7, c8, c9⟩ := HK
  have X3 := (ko_d (w := w) (s := s) (p := p) (ar := ar) (v := v) c2.1).trans c1
  have y1 := xb_or la
  have y2 := xb_or lw
  have y3 := xb_or z.2.1
  unfold xR mq_seen
  rw [e]
  dsimp only
  generalize hlv : q.2.2.2.2 = lv at a8 ⊢
  match lv, a8 with
  | none, ⟨g1, g2⟩ =>
    subst g1 g2
    refine xe_s (f := (1, _, _, _)) xt_g185 rfl rfl rfl rfl rfl ?_
    refine xe_gf xt_g185 rfl (q := 4) rfl (xf_8_19 fm) (X1) (by omega) rfl rfl ?_
    refine xe_s (f := (5, _, _, _)) xt_g185 rfl rfl rfl rfl rfl ?_
    refine xe_gf xt_g185 rfl (q := 8) rfl (xf_8_33 fm) (X1) (by omega) rfl xm_kn_va ?_
    refine xe_cR xt_g185 rfl rfl rfl (q := 11) rfl (kc_V xk_8_45 rfl (X2) (by omega) rfl rfl) xt_g178 (by decide) ⟨Nat.le_of_ble_eq_true rfl, Nat.le_of_ble_eq_true rfl, Nat.le_of_ble_eq_true rfl⟩ (k178 HA' HK') ?_
    refine xe_if_eq xt_g185 rfl (t := 16) rfl (q := 14) rfl (by first | omega | exact xb_r _) (fun b11 => ?_) (fun b11 => ?_)
    · try simp only [xb_0, xb_1, ne_eq, Decidable.not_not, Bool.not_eq_false, Bool.not_eq_true, decide_eq_true_eq, decide_eq_false_iff_not] at b11
      rw [decide_eq_false b11, Bool.false_or]
      refine xe_s (f := (17, _, _, _)) xt_g185 rfl rfl rfl rfl rfl ?_
      refine xe_gf xt_g185 rfl (q := 20) rfl (xf_8_23 fm) (X1) (by omega) rfl rfl ?_
      refine xe_s (f := (21, _, xi 1 :: _, _)) xt_g185 rfl rfl rfl rfl rfl ?_
      refine xe_ic_eq xt_g185 rfl (t := 26) rfl (q := 24) rfl (by first | omega | exact xb_r _) (by first | omega | exact xb_r _) (fun b21 => ?_) (fun b21 => ?_)
      · try simp only [xb_0, xb_1, ne_eq, Decidable.not_not, Bool.not_eq_false, Bool.not_eq_true, decide_eq_true_eq, decide_eq_false_iff_not] at b21
        rw [decide_eq_true b21, Bool.true_and]
        refine xe_s (f := (27, _, _, _)) xt_g185 rfl rfl rfl rfl rfl ?_
        refine xe_gf xt_g185 rfl (q := 30) rfl (xf_8_36 fm) (X1) (by omega) rfl rfl ?_
        refine xe_s (f := (46, _, _, _)) xt_g185 rfl rfl rfl rfl rfl ?_
        refine xe_s (f := (47, _, _, _)) xt_g185 rfl rfl rfl rfl rfl ?_
        refine xe_gf xt_g185 rfl (q := 50) rfl (xf_8_33 fm) (X1) (by omega) rfl xm_kn_va ?_
        refine xe_s (f := (53, _, _, _)) xt_g185 rfl rfl rfl rfl rfl ?_
        refine xe_s (f := (54, _, _, _)) xt_g185 rfl rfl rfl rfl rfl ?_
        refine xe_gf xt_g185 rfl (q := 57) rfl (xf_8_33 fm) (X1) (by omega) rfl xm_kn_va ?_
        refine xe_s (f := (58, _, _, _)) xt_g185 rfl rfl rfl rfl rfl ?_
        refine xe_gf xt_g185 rfl (q := 61) rfl (xf_8_39 fm) (X1) (by omega) rfl xm_kn_va ?_
        refine xe_cR xt_g185 rfl rfl rfl (q := 64) rfl (kc_V xk_8_45 rfl (X3) (by omega) rfl rfl) xt_g178 (by decide) ⟨Nat.le_of_ble_eq_true rfl, Nat.le_of_ble_eq_true rfl, Nat.le_of_ble_eq_true rfl⟩ (k178n) ?_
        refine xe_if_eq xt_g185 rfl (t := 85) rfl (q := 67) rfl (by first | omega | exact xb_r _) (fun b64 => ?_) (fun b64 => ?_)
        · try simp only [xb_0, xb_1, ne_eq, Decidable.not_not, Bool.not_eq_false, Bool.not_eq_true, decide_eq_true_eq, decide_eq_false_iff_not] at b64
          refine xe_s (f := (86, _, xi 0 :: _, _)) xt_g185 rfl rfl rfl rfl rfl ?_
          refine xe_iret xt_g185 rfl rfl (xi_bool (by first | omega | exact xb_or _)).1 ?_
          exact ⟨rfl, rfl⟩
        · exact absurd b64 (by omega)
      · try simp only [xb_0, xb_1, ne_eq, Decidable.not_not, Bool.not_eq_false, Bool.not_eq_true, decide_eq_true_eq, decide_eq_false_iff_not] at b21
        rw [decide_eq_false b21, Bool.false_and]
        refine xe_s (f := (25, _, xi 0 :: _, _)) xt_g185 rfl rfl rfl rfl rfl ?_
        refine xe_iret xt_g185 rfl rfl (xi_bool (by first | omega | exact xb_or _)).1 ?_
        exact ⟨rfl, rfl⟩
    · try simp only [xb_0, xb_1, ne_eq, Decidable.not_not, Bool.not_eq_false, Bool.not_eq_true, decide_eq_true_eq, decide_eq_false_iff_not] at b11
      rw [decide_eq_true b11, Bool.true_or]
      refine xe_s (f := (15, _, xi 1 :: _, _)) xt_g185 rfl rfl rfl rfl rfl ?_
      refine xe_iret xt_g185 rfl rfl (xi_bool (by first | omega | exact xb_or _)).1 ?_
      exact ⟨rfl, rfl⟩
  | some none, g1 =>
    have g1 : la = true := g1
    subst g1
    refine xe_s (f := (1, _, _, _)) xt_g185 rfl rfl rfl rfl rfl ?_
    refine xe_gf xt_g185 rfl (q := 4) rfl (xf_8_19 fm) (X1) (by omega) rfl rfl ?_
    refine xe_s (f := (5, _, _, _)) xt_g185 rfl rfl rfl rfl rfl ?_
    refine xe_gf xt_g185 rfl (q := 8) rfl (xf_8_33 fm) (X1) (by omega) rfl xm_kn_va ?_
    refine xe_cR xt_g185 rfl rfl rfl (q := 11) rfl (kc_V xk_8_45 rfl (X2) (by omega) rfl rfl) xt_g178 (by decide) ⟨Nat.le_of_ble_eq_true rfl, Nat.le_of_ble_eq_true rfl, Nat.le_of_ble_eq_true rfl⟩ (k178 HA' HK') ?_
    refine xe_if_eq xt_g185 rfl (t := 16) rfl (q := 14) rfl (by first | omega | exact xb_r _) (fun b11 => ?_) (fun b11 => ?_)
    · try simp only [xb_0, xb_1, ne_eq, Decidable.not_not, Bool.not_eq_false, Bool.not_eq_true, decide_eq_true_eq, decide_eq_false_iff_not] at b11
      rw [decide_eq_false b11, Bool.false_or]
      refine xe_s (f := (17, _, _, _)) xt_g185 rfl rfl rfl rfl rfl ?_
      refine xe_gf xt_g185 rfl (q := 20) rfl (xf_8_23 fm) (X1) (by omega) rfl rfl ?_
      refine xe_s (f := (21, _, xi 1 :: _, _)) xt_g185 rfl rfl rfl rfl rfl ?_
      refine xe_ic_eq xt_g185 rfl (t := 26) rfl (q := 24) rfl (by first | omega | exact xb_r _) (by first | omega | exact xb_r _) (fun b21 => ?_) (fun b21 => ?_)
      · try simp only [xb_0, xb_1, ne_eq, Decidable.not_not, Bool.not_eq_false, Bool.not_eq_true, decide_eq_true_eq, decide_eq_false_iff_not] at b21
        rw [decide_eq_true b21, Bool.true_and]
        refine xe_s (f := (27, _, _, _)) xt_g185 rfl rfl rfl rfl rfl ?_
        refine xe_gf xt_g185 rfl (q := 30) rfl (xf_8_36 fm) (X1) (by omega) rfl rfl ?_
        refine xe_s (f := (33, _, _, _)) xt_g185 rfl rfl rfl rfl rfl ?_
        refine xe_s (f := (34, _, _, _)) xt_g185 rfl rfl rfl rfl rfl ?_
        refine xe_gf xt_g185 rfl (q := 37) rfl (xf_8_26 fm) (X1) (by omega) rfl rfl ?_
        refine xe_if_ne xt_g185 rfl (t := 44) rfl (q := 40) rfl (by first | omega | exact xb_r _) (fun b37 => ?_) (fun b37 => ?_)
        · try simp only [xb_0, xb_1, ne_eq, Decidable.not_not, Bool.not_eq_false, Bool.not_eq_true, decide_eq_true_eq, decide_eq_false_iff_not] at b37
          rw [b37]
          refine xe_s (f := (45, _, xi 0 :: _, _)) xt_g185 rfl rfl rfl rfl rfl ?_
          refine xe_iret xt_g185 rfl rfl (xi_bool (by first | omega | exact xb_or _)).1 ?_
          exact ⟨rfl, rfl⟩
        · try simp only [xb_0, xb_1, ne_eq, Decidable.not_not, Bool.not_eq_false, Bool.not_eq_true, decide_eq_true_eq, decide_eq_false_iff_not] at b37
          rw [b37]
          refine xe_s (f := (41, _, xi 1 :: _, _)) xt_g185 rfl rfl rfl rfl rfl ?_
          refine xe_s (f := (45, _, _, _)) xt_g185 rfl rfl rfl rfl rfl ?_
          refine xe_iret xt_g185 rfl rfl (xi_bool (by first | omega | exact xb_or _)).1 ?_
          exact ⟨rfl, rfl⟩
      · try simp only [xb_0, xb_1, ne_eq, Decidable.not_not, Bool.not_eq_false, Bool.not_eq_true, decide_eq_true_eq, decide_eq_false_iff_not] at b21
        rw [decide_eq_false b21, Bool.false_and]
        refine xe_s (f := (25, _, xi 0 :: _, _)) xt_g185 rfl rfl rfl rfl rfl ?_
        refine xe_iret xt_g185 rfl rfl (xi_bool (by first | omega | exact xb_or _)).1 ?_
        exact ⟨rfl, rfl⟩
    · try simp only [xb_0, xb_1, ne_eq, Decidable.not_not, Bool.not_eq_false, Bool.not_eq_true, decide_eq_true_eq, decide_eq_false_iff_not] at b11
      rw [decide_eq_true b11, Bool.true_or]
      refine xe_s (f := (15, _, xi 1 :: _, _)) xt_g185 rfl rfl rfl rfl rfl ?_
      refine xe_iret xt_g185 rfl rfl (xi_bool (by first | omega | exact xb_or _)).1 ?_
      exact ⟨rfl, rfl⟩
  | some (some yy), ⟨g1, g2, k8, g3, HL⟩ =>
    subst g1 g2 g3
    dsimp only
    refine xe_s (f := (1, _, _, _)) xt_g185 rfl rfl rfl rfl rfl ?_
    refine xe_gf xt_g185 rfl (q := 4) rfl (xf_8_19 fm) (X1) (by omega) rfl rfl ?_
    refine xe_s (f := (5, _, _, _)) xt_g185 rfl rfl rfl rfl rfl ?_
    refine xe_gf xt_g185 rfl (q := 8) rfl (xf_8_33 fm) (X1) (by omega) rfl xm_kn_va ?_
    refine xe_cR xt_g185 rfl rfl rfl (q := 11) rfl (kc_V xk_8_45 rfl (X2) (by omega) rfl rfl) xt_g178 (by decide) ⟨Nat.le_of_ble_eq_true rfl, Nat.le_of_ble_eq_true rfl, Nat.le_of_ble_eq_true rfl⟩ (k178 HA' HK') ?_
    refine xe_if_eq xt_g185 rfl (t := 16) rfl (q := 14) rfl (by first | omega | exact xb_r _) (fun b11 => ?_) (fun b11 => ?_)
    · try simp only [xb_0, xb_1, ne_eq, Decidable.not_not, Bool.not_eq_false, Bool.not_eq_true, decide_eq_true_eq, decide_eq_false_iff_not] at b11
      rw [decide_eq_false b11, Bool.false_or]
      refine xe_s (f := (17, _, _, _)) xt_g185 rfl rfl rfl rfl rfl ?_
      refine xe_gf xt_g185 rfl (q := 20) rfl (xf_8_23 fm) (X1) (by omega) rfl rfl ?_
      refine xe_s (f := (21, _, xi 1 :: _, _)) xt_g185 rfl rfl rfl rfl rfl ?_
      refine xe_ic_eq xt_g185 rfl (t := 26) rfl (q := 24) rfl (by first | omega | exact xb_r _) (by first | omega | exact xb_r _) (fun b21 => ?_) (fun b21 => ?_)
      · try simp only [xb_0, xb_1, ne_eq, Decidable.not_not, Bool.not_eq_false, Bool.not_eq_true, decide_eq_true_eq, decide_eq_false_iff_not] at b21
        rw [decide_eq_true b21, Bool.true_and]
        refine xe_s (f := (27, _, _, _)) xt_g185 rfl rfl rfl rfl rfl ?_
        refine xe_gf xt_g185 rfl (q := 30) rfl (xf_8_36 fm) (X1) (by omega) rfl rfl ?_
        refine xe_s (f := (46, _, _, _)) xt_g185 rfl rfl rfl rfl rfl ?_
        refine xe_s (f := (47, _, _, _)) xt_g185 rfl rfl rfl rfl rfl ?_
        refine xe_gf xt_g185 rfl (q := 50) rfl (xf_8_33 fm) (X1) (by omega) rfl xm_kn_va ?_
        refine xe_s (f := (53, _, _, _)) xt_g185 rfl rfl rfl rfl rfl ?_
        refine xe_s (f := (54, _, _, _)) xt_g185 rfl rfl rfl rfl rfl ?_
        refine xe_gf xt_g185 rfl (q := 57) rfl (xf_8_33 fm) (X1) (by omega) rfl xm_kn_va ?_
        refine xe_s (f := (58, _, _, _)) xt_g185 rfl rfl rfl rfl rfl ?_
        refine xe_gf xt_g185 rfl (q := 61) rfl (xf_8_39 fm) (X1) (by omega) rfl xm_kn_va ?_
        refine xe_cR xt_g185 rfl rfl rfl (q := 64) rfl (kc_V xk_8_45 rfl (X3) (by omega) rfl rfl) xt_g178 (by decide) ⟨Nat.le_of_ble_eq_true rfl, Nat.le_of_ble_eq_true rfl, Nat.le_of_ble_eq_true rfl⟩ (k178 HK' HL) ?_
        refine xe_if_eq xt_g185 rfl (t := 85) rfl (q := 67) rfl (by first | omega | exact xb_r _) (fun b64 => ?_) (fun b64 => ?_)
        · try simp only [xb_0, xb_1, ne_eq, Decidable.not_not, Bool.not_eq_false, Bool.not_eq_true, decide_eq_true_eq, decide_eq_false_iff_not] at b64
          rw [decide_eq_false (fun g => b64 g.symm), Bool.false_and]
          refine xe_s (f := (86, _, xi 0 :: _, _)) xt_g185 rfl rfl rfl rfl rfl ?_
          refine xe_iret xt_g185 rfl rfl (xi_bool (by first | omega | exact xb_or _)).1 ?_
          exact ⟨rfl, rfl⟩
        · try simp only [xb_0, xb_1, ne_eq, Decidable.not_not, Bool.not_eq_false, Bool.not_eq_true, decide_eq_true_eq, decide_eq_false_iff_not] at b64
          rw [decide_eq_true b64.symm, Bool.true_and]
          refine xe_s (f := (68, _, _, _)) xt_g185 rfl rfl rfl rfl rfl ?_
          refine xe_gf xt_g185 rfl (q := 71) rfl (xf_8_26 fm) (X1) (by omega) rfl rfl ?_
          refine xe_if_eq xt_g185 rfl (t := 81) rfl (q := 74) rfl (by first | omega | exact xb_r _) (fun b71 => ?_) (fun b71 => ?_)
          · try simp only [xb_0, xb_1, ne_eq, Decidable.not_not, Bool.not_eq_false, Bool.not_eq_true, decide_eq_true_eq, decide_eq_false_iff_not] at b71
            rw [b71, Bool.not_false, Bool.true_or]
            refine xe_s (f := (82, _, xi 1 :: _, _)) xt_g185 rfl rfl rfl rfl rfl ?_
            refine xe_s (f := (86, _, _, _)) xt_g185 rfl rfl rfl rfl rfl ?_
            refine xe_iret xt_g185 rfl rfl (xi_bool (by first | omega | exact xb_or _)).1 ?_
            exact ⟨rfl, rfl⟩
          · try simp only [xb_0, xb_1, ne_eq, Decidable.not_not, Bool.not_eq_false, Bool.not_eq_true, decide_eq_true_eq, decide_eq_false_iff_not] at b71
            rw [b71, Bool.not_true, Bool.false_or]
            refine xe_s (f := (75, _, _, _)) xt_g185 rfl rfl rfl rfl rfl ?_
            refine xe_gf xt_g185 rfl (q := 78) rfl (xf_8_42 fm) (X1) (by omega) rfl rfl ?_
            refine xe_if_eq xt_g185 rfl (t := 85) rfl (q := 81) rfl (by first | omega | exact xb_r _) (fun b78 => ?_) (fun b78 => ?_)
            · try simp only [xb_0, xb_1, ne_eq, Decidable.not_not, Bool.not_eq_false, Bool.not_eq_true, decide_eq_true_eq, decide_eq_false_iff_not] at b78
              rw [b78]
              refine xe_s (f := (86, _, xi 0 :: _, _)) xt_g185 rfl rfl rfl rfl rfl ?_
              refine xe_iret xt_g185 rfl rfl (xi_bool (by first | omega | exact xb_or _)).1 ?_
              exact ⟨rfl, rfl⟩
            · try simp only [xb_0, xb_1, ne_eq, Decidable.not_not, Bool.not_eq_false, Bool.not_eq_true, decide_eq_true_eq, decide_eq_false_iff_not] at b78
              rw [b78]
              refine xe_s (f := (82, _, xi 1 :: _, _)) xt_g185 rfl rfl rfl rfl rfl ?_
              refine xe_s (f := (86, _, _, _)) xt_g185 rfl rfl rfl rfl rfl ?_
              refine xe_iret xt_g185 rfl rfl (xi_bool (by first | omega | exact xb_or _)).1 ?_
              exact ⟨rfl, rfl⟩
      · try simp only [xb_0, xb_1, ne_eq, Decidable.not_not, Bool.not_eq_false, Bool.not_eq_true, decide_eq_true_eq, decide_eq_false_iff_not] at b21
        rw [decide_eq_false b21, Bool.false_and]
        refine xe_s (f := (25, _, xi 0 :: _, _)) xt_g185 rfl rfl rfl rfl rfl ?_
        refine xe_iret xt_g185 rfl rfl (xi_bool (by first | omega | exact xb_or _)).1 ?_
        exact ⟨rfl, rfl⟩
    · try simp only [xb_0, xb_1, ne_eq, Decidable.not_not, Bool.not_eq_false, Bool.not_eq_true, decide_eq_true_eq, decide_eq_false_iff_not] at b11
      rw [decide_eq_true b11, Bool.true_or]
      refine xe_s (f := (15, _, xi 1 :: _, _)) xt_g185 rfl rfl rfl rfl rfl ?_
      refine xe_iret xt_g185 rfl rfl (xi_bool (by first | omega | exact xb_or _)).1 ?_
      exact ⟨rfl, rfl⟩
end XBN
