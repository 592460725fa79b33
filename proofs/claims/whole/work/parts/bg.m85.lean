/-! the jar: setting -/
def ck_of (L : List (List Int)) (tm : Int) (A : pa_A) (N V : List Int) (q : at_T) : Option ck_T := match cd_ch A.2.1 L q.1 with
  | none => none
  | some d => match cp_ch A.2.2.2.1 q.2.1 with
    | none => none
    | some w => if (q.2.2.2.1 && !A.1) = true then none else some (N, V, d.2, w, ck_ov tm q.2.2.1, d.1, q.2.2.2.1, q.2.2.2.2)
def ck_do (L : List (List Int)) (Q tm : Int) (C : List ck_T) (net : Bool) (f : ck_T) : List ck_T := if ck_blk C f net = true then C else ck_c40 (ck_q L f.2.2.1 Q 41 (ck_ins tm C f))
theorem ck_set_of {t : Int → Int} {E : Int} {L : List (List Int)} {Q tm : Int} {C : List ck_T} {A : pa_A} {net : Bool} : ck_set t E L Q tm C A net = match ck_pair t (pa_fd t 59 E.toNat 0) with
    | none => ck_nov tm C
    | some p => match ck_of L tm A p.1 p.2 (at_lp t E (E + 1).toNat (pa_fd t 59 E.toNat 0) at_0) with
      | none => ck_nov tm C
      | some f => ck_do L Q tm (ck_nov tm C) net f := by
  unfold ck_set
  cases ck_pair t (pa_fd t 59 E.toNat 0) with
  | none => rfl
  | some p =>
    dsimp only
    unfold ck_set2 ck_of
    generalize at_lp t E (E + 1).toNat (pa_fd t 59 E.toNat 0) at_0 = q
    cases cd_ch A.2.1 L q.1 with
    | none => rfl
    | some d =>
      dsimp only
      cases cp_ch A.2.2.2.1 q.2.1 with
      | none => rfl
      | some w =>
        dsimp only
        unfold ck_put ck_do
        dsimp only
        cases q.2.2.2.1 && !A.1 with
        | true => rw [Bool.or_true]; rfl
        | false => rw [Bool.or_false]; rfl
theorem st_ends_self {H : List Int} : st_ends H H = true := by
  unfold st_ends st_ed
  simp
theorem cp_fo_ok {P : List Int} (h : ∃ p, P = 47 :: p) : cp_fo P = (if pa_bl P 47 P.length ≤ 1 then [47] else P.take (pa_bl P 47 P.length - 1)) ∧ 1 ≤ (cp_fo P).length := by
  obtain ⟨p, rfl⟩ := h
  unfold cp_fo
  constructor
  · split <;> rfl
  · split
    · simp
    · rename_i g
      have := pa_bl_le (l := 47 :: p) (c := 47) (47 :: p).length
      rw [List.length_take]
      omega
section XBG
variable {fm : Value} {w w' w1 w2 : kW} {s s' s1 s2 : Nat → Int} {p p' p1 p2 : Nat → Nat} {ar ar' : Nat → Nat → Option Nat} {v : Nat → Int} {h h' h1 h2 : xm_H} {n n' n1 n2 r k k' u' u1 u2 x y a : Nat} {l D W P N V : List Int} {L : List (List Int)} {A : pa_A} {q : at_T} {f : ck_T} {C : List ck_T} {t t' t1 t2 : Nat → List Int} {kc kc' kc1 kc2 : Nat → Nat}
/-- new Cookie -/
theorem k215 {g0 g1 g2 g3 g4 g5 g6 g7 f2 f3 f4 : Value} {na va dn pa : Nat} {b5 b6 al : Bool} {e : Int} (ha : h y = .inr (11, [g0, g1, g2, g3, g4, g5, g6, g7])) (hT : h x = .inr (13, [.ref na, .ref va, f2, f3, f4, xi (xb b5), xi (xb b6)])) (hxy : x ≠ y) (h44 : 44 ≤ y) (hy : y < n) (hx : x < n) : xN fm 215 h n [.ref y, .ref x, .ref dn, xi (xb al), .ref pa, xi e] (fun h' n' u' => h' = va_up h y (.inr (11, [.ref na, .ref va, .ref dn, xi (xb al), .ref pa, xi (xb b5), xi (xb b6), xi e])) ∧ n' = n ∧ u' = 0) := by
  have y1 := xb_or b5
  have y2 := xb_or b6
  have y3 := xb_or al
  unfold xN
  refine xe_s (f := (1, _, _, _)) xt_g215 rfl rfl rfl rfl rfl ?_
  refine xe_obj xt_g215 rfl (q := 4) rfl xz0_3_3 (xp_3_3 fm) (Nat.le_of_ble_eq_true rfl) ?_
  refine xe_s (f := (5, _, _, _)) xt_g215 rfl rfl rfl rfl rfl ?_
  refine xe_s (f := (6, _, _, _)) xt_g215 rfl rfl rfl rfl rfl ?_
  refine xe_gf xt_g215 rfl (q := 9) rfl (xf_3_9 fm) (hT) (by omega) rfl rfl ?_
  refine xe_pf xt_g215 rfl (q := 12) rfl (xf_3_15 fm) (ha) (by omega) (by omega) rfl (Nat.le_of_ble_eq_true rfl) (Nat.le_of_ble_eq_true rfl) ⟨rfl, rfl⟩ (Or.inr ⟨by decide, rfl⟩) ?_
  refine xe_s (f := (13, _, _, _)) xt_g215 rfl rfl rfl rfl rfl ?_
  refine xe_s (f := (14, _, _, _)) xt_g215 rfl rfl rfl rfl rfl ?_
  refine xe_gf xt_g215 rfl (q := 17) rfl (xf_3_18 fm) ((va_up_n hxy).trans hT) (by omega) rfl rfl ?_
  refine xe_pf xt_g215 rfl (q := 20) rfl (xf_3_21 fm) (va_up_s) (by omega) (by omega) rfl (Nat.le_of_ble_eq_true rfl) (Nat.le_of_ble_eq_true rfl) ⟨rfl, rfl⟩ (Or.inr ⟨by decide, rfl⟩) ?_
  refine xe_s (f := (21, _, _, _)) xt_g215 rfl rfl rfl rfl rfl ?_
  refine xe_s (f := (22, _, _, _)) xt_g215 rfl rfl rfl rfl rfl ?_
  refine xe_gf xt_g215 rfl (q := 25) rfl (xf_3_22 fm) ((va_up_n hxy).trans ((va_up_n hxy).trans hT)) (by omega) rfl rfl ?_
  refine xe_pf xt_g215 rfl (q := 28) rfl (xf_3_26 fm) (va_up_s) (by omega) (by omega) rfl (Nat.le_of_ble_eq_true rfl) (Nat.le_of_ble_eq_true rfl) (xi_bool (by first | omega | exact xb_or _)) (Or.inr ⟨by decide, rfl⟩) ?_
  refine xe_s (f := (29, _, _, _)) xt_g215 rfl rfl rfl rfl rfl ?_
  refine xe_s (f := (30, _, _, _)) xt_g215 rfl rfl rfl rfl rfl ?_
  refine xe_gf xt_g215 rfl (q := 33) rfl (xf_3_27 fm) ((va_up_n hxy).trans ((va_up_n hxy).trans ((va_up_n hxy).trans hT))) (by omega) rfl rfl ?_
  refine xe_pf xt_g215 rfl (q := 36) rfl (xf_3_30 fm) (va_up_s) (by omega) (by omega) rfl (Nat.le_of_ble_eq_true rfl) (Nat.le_of_ble_eq_true rfl) (xi_bool (by first | omega | exact xb_or _)) (Or.inr ⟨by decide, rfl⟩) ?_
  refine xe_s (f := (37, _, _, _)) xt_g215 rfl rfl rfl rfl rfl ?_
  refine xe_s (f := (38, _, _, _)) xt_g215 rfl rfl rfl rfl rfl ?_
  refine xe_pf xt_g215 rfl (q := 41) rfl (xf_3_31 fm) (va_up_s) (by omega) (by omega) rfl (Nat.le_of_ble_eq_true rfl) (Nat.le_of_ble_eq_true rfl) ⟨rfl, rfl⟩ (Or.inr ⟨by decide, rfl⟩) ?_
  refine xe_s (f := (42, _, _, _)) xt_g215 rfl rfl rfl rfl rfl ?_
  refine xe_s (f := (43, _, _, _)) xt_g215 rfl rfl rfl rfl rfl ?_
  refine xe_pf xt_g215 rfl (q := 46) rfl (xf_3_34 fm) (va_up_s) (by omega) (by omega) rfl (Nat.le_of_ble_eq_true rfl) (Nat.le_of_ble_eq_true rfl) (xi_bool (by first | omega | exact xb_or _)) (Or.inr ⟨by decide, rfl⟩) ?_
  refine xe_s (f := (47, _, _, _)) xt_g215 rfl rfl rfl rfl rfl ?_
  refine xe_s (f := (49, _, _, _)) xt_g215 rfl rfl rfl rfl rfl ?_
  refine xe_pf xt_g215 rfl (q := 52) rfl (xf_3_37 fm) (va_up_s) (by omega) (by omega) rfl (Nat.le_of_ble_eq_true rfl) (Nat.le_of_ble_eq_true rfl) ⟨rfl, rfl⟩ (Or.inr ⟨by decide, rfl⟩) ?_
  refine xe_s (f := (53, _, _, _)) xt_g215 rfl rfl rfl rfl rfl ?_
  refine xe_s (f := (55, _, _, _)) xt_g215 rfl rfl rfl rfl rfl ?_
  refine xe_pf xt_g215 rfl (q := 58) rfl (xf_3_40 fm) (va_up_s) (by omega) (by omega) rfl (Nat.le_of_ble_eq_true rfl) (Nat.le_of_ble_eq_true rfl) xi_int (Or.inr ⟨by decide, rfl⟩) ?_
  refine xe_ret xt_g215 rfl rfl ?_
  try dsimp only
  rw [va_uu, va_uu, va_uu, va_uu, va_uu, va_uu, va_uu]
  exact ⟨rfl, rfl, rfl, rfl⟩
theorem k214 (hfm : fm = .null ∨ ∃ j, fm = .ref j) (K : KW w h n t kc) (C : cst w h n) (H : sS (gd w) h n r P) (hP : ∃ q, P = 47 :: q) : xA fm 214 (ko w s p ar v h) n [.ref r] (fun x h' n' u' => ∃ h1, h' = ko w s p ar v h1 ∧ ke h n h1 n' ∧ sS (gd w) h1 n' x (cp_fo P) ∧ n' ≤ n + 2 ∧ u' ≤ 4 + P.length) := by
  have W0 := K.1.1
  refine xe_mono (s214 (F := gd w) hfm (by omega) (sS_ko (C.1 (1, []) (by decide))) (sS_ko (C.1 (11, [47]) (by decide))) (sS_ko H)) (fun q M hM => ?_)
  obtain ⟨x, e1, e2, e4, e5⟩ := hM
  obtain ⟨h1, g1, g2, g3⟩ := ko_lift K.1 e4
  exact ⟨x, e1, h1, g1, g2, by rw [(cp_fo_ok hP).1]; exact g3 _ _ e2, e5⟩
/-- what cookieOf makes once the domain is known -/
def ck_of2 (tm : Int) (A : pa_A) (N V D : List Int) (al : Bool) (q : at_T) : Option ck_T := if D.length ≤ 40 then (match cp_ch A.2.2.2.1 q.2.1 with
  | none => none
  | some w => if (q.2.2.2.1 && !A.1) = true then none else some (N, V, D, w, ck_ov tm q.2.2.1, al, q.2.2.2.1, q.2.2.2.2)) else none
theorem k200_c (hfm : fm = .null ∨ ∃ j, fm = .ref j) (K : KW w h n t kc) (HT : ctO w h n x N V q) (HA : aO w h n a A) (ht : 0 ≤ s 14 ∧ s 14 ≤ 1000000000) (lN : N.length ≤ 12) (lV : V.length ≤ 12) {rd rw' : Nat} {al : Bool} (HD : sS (gd w) h n rd D) (HW : sS (gd w) h n rw' W) (eW : cp_ch A.2.2.2.1 q.2.1 = if W.length ≤ 30 then some W else none) (lW : 1 ≤ W.length) {c u : Nat} : xe fm 200 (107, [(5, .ref rw'), (4, .ref rd), (3, xi (xb al)), (0, .ref 59), (1, .ref x), (2, .ref a)], [], (ko w s p ar v h, n, c, u)) (fun q' M => ∃ o : Option Nat, q' = .inl (some (va_rf o)) ∧ ∃ h1, M.1 = ko w s p ar v h1 ∧ ke h n h1 M.2.1 ∧ M.2.1 ≤ n + 1 ∧ M.2.2.2 ≤ u + 8 ∧ (ck_of2 (s 14) A N V D al q = none → o = none) ∧ ∀ f, ck_of2 (s 14) A N V D al q = some f → ∃ y, o = some y ∧ ckO w h1 M.2.1 y f) := by
  have W0 := K.1.1
  obtain ⟨na, va, dn, pa, a1, a2, a3, a4, s1, s2, s3, s4, b1, b2, b3⟩ := HT
  obtain ⟨ho, pp, qu, te, d1, d2, d3, d4, d5, d6, d7, d8, d9⟩ := HA
  have X1 := (ko_d (w := w) (s := s) (p := p) (ar := ar) (v := v) a2.1).trans a1
  have X2 := (ko_d (w := w) (s := s) (p := p) (ar := ar) (v := v) d2.1).trans d1
  obtain ⟨f1, F1, _, _, lD⟩ := sS_at HD
  obtain ⟨f2, F2, _, _, lW'⟩ := sS_at HW
  have y1 := xb_or q.2.2.2.1
  have y2 := xb_or q.2.2.2.2
  have y3 := xb_or A.1
  have y4 := xb_or al
  have ag : -1 ≤ ag_n q.2.2.1 ∧ ag_n q.2.2.1 ≤ 9999999 := by
    cases e : q.2.2.1 with
    | none => exact ⟨by decide, by decide⟩
    | some z =>
      have := b3 z e
      exact ⟨by show (-1 : Int) ≤ z; omega, this.2⟩
  have no : ck_of2 (s 14) A N V D al q = none → ∀ (c u : Nat), ∃ o : Option Nat, (.inl (some .null) : Option Value ⊕ Nat) = .inl (some (va_rf o)) ∧ ∃ h1, ko w s p ar v h = ko w s p ar v h1 ∧ ke h n h1 n ∧ n ≤ n + 1 ∧ u ≤ u + 8 ∧ (ck_of2 (s 14) A N V D al q = none → o = none) ∧ ∀ f, ck_of2 (s 14) A N V D al q = some f → ∃ y, o = some y ∧ ckO w h1 n y f := by
    intro e c u
    exact ⟨none, rfl, h, rfl, ke_refl, by omega, by omega, fun _ => rfl, fun f g => by rw [e] at g; cases g⟩
  have mk : ∀ (e : Int), e = ck_ov (s 14) q.2.2.1 → (q.2.2.2.1 && !A.1) = false → W.length ≤ 30 → D.length ≤ 40 → ∀ (u : Nat), u ≤ 8 + u → ∃ o : Option Nat, (.inl (some (.ref n)) : Option Value ⊕ Nat) = .inl (some (va_rf o)) ∧ ∃ h1, ko w s p ar v (va_up h n (.inr (11, [.ref na, .ref va, .ref rd, xi (xb al), .ref rw', xi (xb q.2.2.2.1), xi (xb q.2.2.2.2), xi e]))) = ko w s p ar v h1 ∧ ke h n h1 (n + 1) ∧ n + 1 ≤ n + 1 ∧ u + 8 ≤ u + 8 ∧ (ck_of2 (s 14) A N V D al q = none → o = none) ∧ ∀ f, ck_of2 (s 14) A N V D al q = some f → ∃ y, o = some y ∧ ckO w h1 (n + 1) y f := by
    intro e ee es lw ld u _
    have kE : ke h n (va_up h n (.inr (11, [.ref na, .ref va, .ref rd, xi (xb al), .ref rw', xi (xb q.2.2.2.1), xi (xb q.2.2.2.2), xi e]))) (n + 1) := ke_up (Nat.le_refl _) (by omega)
    have ev : ck_of2 (s 14) A N V D al q = some (N, V, D, W, ck_ov (s 14) q.2.2.1, al, q.2.2.2.1, q.2.2.2.2) := by
      unfold ck_of2
      rw [if_pos ld, eW, if_pos lw]
      dsimp only
      rw [if_neg (by rw [es]; decide)]
    have er : -1 ≤ e ∧ e ≤ 1100000000 := by
      rw [ee]
      cases e' : q.2.2.1 with
      | none => show -1 ≤ (-1 : Int) ∧ (-1 : Int) ≤ 1100000000; omega
      | some z =>
        have := b3 z e'
        show -1 ≤ s 14 + z ∧ s 14 + z ≤ 1100000000
        omega
    refine ⟨some n, rfl, _, rfl, kE, Nat.le_refl _, Nat.le_refl _, fun g => (by rw [ev] at g; cases g), fun f g => ?_⟩
    rw [ev] at g
    cases g
    exact ⟨n, rfl, na, va, rd, rw', by rw [← ee]; exact va_up_s, gd_n K.1 (Nat.le_refl _), by omega, by omega, sS_ke s1 kE, sS_ke s2 kE, sS_ke HD kE, sS_ke HW kE, by rw [← ee]; exact er, lN, lV, ld, lW, lw⟩
  refine xe_s (f := (108, _, _, _)) xt_g200 rfl rfl rfl rfl rfl ?_
  refine xe_gf xt_g200 rfl (q := 111) rfl (xf_6_113 fm) (X1) (by omega) rfl rfl ?_
  refine xe_if_eq xt_g200 rfl (t := 123) rfl (q := 114) rfl (by first | omega | exact xb_r _) (fun b111 => ?_) (fun b111 => ?_)
  · try simp only [xb_0, xb_1, ne_eq, Decidable.not_not, Bool.not_eq_false, Bool.not_eq_true, decide_eq_true_eq, decide_eq_false_iff_not] at b111
    have es : (q.2.2.2.1 && !A.1) = false := by rw [b111]; rfl
    refine xe_s (f := (125, _, _, _)) xt_g200 rfl rfl rfl rfl rfl ?_
    refine xe_cR xt_g200 rfl rfl rfl (q := 128) rfl (kc_V xk_6_117 rfl (F2 _ _ _ _ _) (by omega) rfl rfl) xt_g31 (by decide) ⟨Nat.le_of_ble_eq_true rfl, Nat.le_of_ble_eq_true rfl, Nat.le_of_ble_eq_true rfl⟩ (s31 (sS_ko HW)) ?_
    refine xe_bipush xt_g200 rfl (q := 130) rfl (by decide) (by decide) ?_
    refine xe_ic_gt xt_g200 rfl (t := 143) rfl (q := 133) rfl (by first | omega | exact xb_r _) (by first | omega | exact xb_r _) (fun b130 => ?_) (fun b130 => ?_)
    · try simp only [xb_0, xb_1, ne_eq, Decidable.not_not, Bool.not_eq_false, Bool.not_eq_true, decide_eq_true_eq, decide_eq_false_iff_not] at b130
      refine xe_s (f := (144, _, _, _)) xt_g200 rfl rfl rfl rfl rfl ?_
      refine xe_aret xt_g200 rfl (Or.inl ⟨_, rfl⟩) rfl ?_
      try dsimp only
      exact no (by
        have e9 : cp_ch A.2.2.2.1 q.2.1 = none := by rw [eW, if_neg (by omega)]
        unfold ck_of2
        rw [e9]
        split <;> rfl) 0 u
    · try simp only [xb_0, xb_1, ne_eq, Decidable.not_not, Bool.not_eq_false, Bool.not_eq_true, decide_eq_true_eq, decide_eq_false_iff_not] at b130
      refine xe_s (f := (135, _, _, _)) xt_g200 rfl rfl rfl rfl rfl ?_
      refine xe_cR xt_g200 rfl rfl rfl (q := 138) rfl (kc_V xk_6_117 rfl (F1 _ _ _ _ _) (by omega) rfl rfl) xt_g31 (by decide) ⟨Nat.le_of_ble_eq_true rfl, Nat.le_of_ble_eq_true rfl, Nat.le_of_ble_eq_true rfl⟩ (s31 (sS_ko HD)) ?_
      refine xe_bipush xt_g200 rfl (q := 140) rfl (by decide) (by decide) ?_
      refine xe_ic_le xt_g200 rfl (t := 145) rfl (q := 143) rfl (by first | omega | exact xb_r _) (by first | omega | exact xb_r _) (fun b140 => ?_) (fun b140 => ?_)
      · try simp only [xb_0, xb_1, ne_eq, Decidable.not_not, Bool.not_eq_false, Bool.not_eq_true, decide_eq_true_eq, decide_eq_false_iff_not] at b140
        refine xe_new (k := 8) (fs := [.null, .null, .null, xi 0, .null, xi 0, xi 0, xi 0]) xt_g200 rfl rfl (q := 148) rfl (xn_6_18 fm) rfl rfl rfl ?_
        rw [ko_new (by omega)]
        refine xe_s (f := (149, _, _, _)) xt_g200 rfl rfl rfl rfl rfl ?_
        refine xe_s (f := (150, _, _, _)) xt_g200 rfl rfl rfl rfl rfl ?_
        refine xe_s (f := (152, _, _, _)) xt_g200 rfl rfl rfl rfl rfl ?_
        refine xe_s (f := (153, _, _, _)) xt_g200 rfl rfl rfl rfl rfl ?_
        refine xe_s (f := (155, _, _, _)) xt_g200 rfl rfl rfl rfl rfl ?_
        refine xe_s (f := (156, _, _, _)) xt_g200 rfl rfl rfl rfl rfl ?_
        refine xe_gf xt_g200 rfl (q := 159) rfl (xf_6_121 fm) ((ko_d (w := w) (s := s) (p := p) (ar := ar) (v := v) a2.1).trans ((va_up_n (by omega)).trans a1)) (by omega) rfl rfl ?_
        refine xe_s (f := (160, _, xi (-1) :: _, _)) xt_g200 rfl rfl rfl rfl rfl ?_
        refine xe_ic_ne xt_g200 rfl (t := 167) rfl (q := 163) rfl (by first | omega | exact xb_r _) (by first | omega | exact xb_r _) (fun b160 => ?_) (fun b160 => ?_)
        · try simp only [xb_0, xb_1, ne_eq, Decidable.not_not, Bool.not_eq_false, Bool.not_eq_true, decide_eq_true_eq, decide_eq_false_iff_not] at b160
          refine xe_s (f := (168, _, _, _)) xt_g200 rfl rfl rfl rfl rfl ?_
          refine xe_gf xt_g200 rfl (q := 171) rfl (xf_6_31 fm) (ko_59) (by omega) rfl rfl ?_
          refine xe_s (f := (172, _, _, _)) xt_g200 rfl rfl rfl rfl rfl ?_
          refine xe_gf xt_g200 rfl (q := 175) rfl (xf_6_121 fm) ((ko_d (w := w) (s := s) (p := p) (ar := ar) (v := v) a2.1).trans ((va_up_n (by omega)).trans a1)) (by omega) rfl rfl ?_
          refine xe_iadd xt_g200 rfl (q := 176) rfl ?_
          refine xe_cN xt_g200 rfl rfl rfl (q := 179) rfl (kc_P xk_6_124 rfl) xt_g215 (by decide) ⟨Nat.le_of_ble_eq_true rfl, Nat.le_of_ble_eq_true rfl, Nat.le_of_ble_eq_true rfl⟩ (k215 (b5 := q.2.2.2.1) (b6 := q.2.2.2.2) ((ko_d (Or.inr (Or.inr (Or.inr (Or.inr (by omega)))))).trans va_up_s) ((ko_d (w := w) (s := s) (p := p) (ar := ar) (v := v) a2.1).trans ((va_up_n (by omega)).trans a1)) (by omega) (by omega) (by omega) (by omega)) (fun h3' n3 c3 u3 hs => ?_)
          obtain ⟨e1, e2, e3⟩ := hs
          subst e1
          rw [ko_new (by omega), va_uu, e2, e3]
          refine xe_aret xt_g200 rfl (Or.inl ⟨_, rfl⟩) rfl ?_
          try dsimp only
          exact mk _ (by
            cases e : q.2.2.1 with
            | none => rw [e] at b160; exact absurd rfl b160
            | some z => rfl) es (by omega) (by omega) u (by omega)
        · try simp only [xb_0, xb_1, ne_eq, Decidable.not_not, Bool.not_eq_false, Bool.not_eq_true, decide_eq_true_eq, decide_eq_false_iff_not] at b160
          refine xe_s (f := (164, _, xi (-1) :: _, _)) xt_g200 rfl rfl rfl rfl rfl ?_
          refine xe_s (f := (176, _, _, _)) xt_g200 rfl rfl rfl rfl rfl ?_
          refine xe_cN xt_g200 rfl rfl rfl (q := 179) rfl (kc_P xk_6_124 rfl) xt_g215 (by decide) ⟨Nat.le_of_ble_eq_true rfl, Nat.le_of_ble_eq_true rfl, Nat.le_of_ble_eq_true rfl⟩ (k215 (b5 := q.2.2.2.1) (b6 := q.2.2.2.2) ((ko_d (Or.inr (Or.inr (Or.inr (Or.inr (by omega)))))).trans va_up_s) ((ko_d (w := w) (s := s) (p := p) (ar := ar) (v := v) a2.1).trans ((va_up_n (by omega)).trans a1)) (by omega) (by omega) (by omega) (by omega)) (fun h3' n3 c3 u3 hs => ?_)
          obtain ⟨e1, e2, e3⟩ := hs
          subst e1
          rw [ko_new (by omega), va_uu, e2, e3]
          refine xe_aret xt_g200 rfl (Or.inl ⟨_, rfl⟩) rfl ?_
          try dsimp only
          exact mk _ (by
            cases e : q.2.2.1 with
            | none => rfl
            | some z => rw [e] at b160; have := b3 z e; have e9 : z = -1 := b160; omega) es (by omega) (by omega) u (by omega)
      · try simp only [xb_0, xb_1, ne_eq, Decidable.not_not, Bool.not_eq_false, Bool.not_eq_true, decide_eq_true_eq, decide_eq_false_iff_not] at b140
        refine xe_s (f := (144, _, _, _)) xt_g200 rfl rfl rfl rfl rfl ?_
        refine xe_aret xt_g200 rfl (Or.inl ⟨_, rfl⟩) rfl ?_
        try dsimp only
        exact no (by
          unfold ck_of2
          rw [if_neg (by omega)]) 0 u
  · try simp only [xb_0, xb_1, ne_eq, Decidable.not_not, Bool.not_eq_false, Bool.not_eq_true, decide_eq_true_eq, decide_eq_false_iff_not] at b111
    refine xe_s (f := (115, _, _, _)) xt_g200 rfl rfl rfl rfl rfl ?_
    refine xe_gf xt_g200 rfl (q := 118) rfl (xf_6_116 fm) (X2) (by omega) rfl rfl ?_
    refine xe_if_ne xt_g200 rfl (t := 123) rfl (q := 121) rfl (by first | omega | exact xb_r _) (fun b118 => ?_) (fun b118 => ?_)
    · try simp only [xb_0, xb_1, ne_eq, Decidable.not_not, Bool.not_eq_false, Bool.not_eq_true, decide_eq_true_eq, decide_eq_false_iff_not] at b118
      have es : (q.2.2.2.1 && !A.1) = false := by rw [b118]; exact Bool.and_false _
      refine xe_s (f := (125, _, _, _)) xt_g200 rfl rfl rfl rfl rfl ?_
      refine xe_cR xt_g200 rfl rfl rfl (q := 128) rfl (kc_V xk_6_117 rfl (F2 _ _ _ _ _) (by omega) rfl rfl) xt_g31 (by decide) ⟨Nat.le_of_ble_eq_true rfl, Nat.le_of_ble_eq_true rfl, Nat.le_of_ble_eq_true rfl⟩ (s31 (sS_ko HW)) ?_
      refine xe_bipush xt_g200 rfl (q := 130) rfl (by decide) (by decide) ?_
      refine xe_ic_gt xt_g200 rfl (t := 143) rfl (q := 133) rfl (by first | omega | exact xb_r _) (by first | omega | exact xb_r _) (fun b130 => ?_) (fun b130 => ?_)
      · try simp only [xb_0, xb_1, ne_eq, Decidable.not_not, Bool.not_eq_false, Bool.not_eq_true, decide_eq_true_eq, decide_eq_false_iff_not] at b130
        refine xe_s (f := (144, _, _, _)) xt_g200 rfl rfl rfl rfl rfl ?_
        refine xe_aret xt_g200 rfl (Or.inl ⟨_, rfl⟩) rfl ?_
        try dsimp only
        exact no (by
          have e9 : cp_ch A.2.2.2.1 q.2.1 = none := by rw [eW, if_neg (by omega)]
          unfold ck_of2
          rw [e9]
          split <;> rfl) 0 u
      · try simp only [xb_0, xb_1, ne_eq, Decidable.not_not, Bool.not_eq_false, Bool.not_eq_true, decide_eq_true_eq, decide_eq_false_iff_not] at b130
        refine xe_s (f := (135, _, _, _)) xt_g200 rfl rfl rfl rfl rfl ?_
        refine xe_cR xt_g200 rfl rfl rfl (q := 138) rfl (kc_V xk_6_117 rfl (F1 _ _ _ _ _) (by omega) rfl rfl) xt_g31 (by decide) ⟨Nat.le_of_ble_eq_true rfl, Nat.le_of_ble_eq_true rfl, Nat.le_of_ble_eq_true rfl⟩ (s31 (sS_ko HD)) ?_
        refine xe_bipush xt_g200 rfl (q := 140) rfl (by decide) (by decide) ?_
        refine xe_ic_le xt_g200 rfl (t := 145) rfl (q := 143) rfl (by first | omega | exact xb_r _) (by first | omega | exact xb_r _) (fun b140 => ?_) (fun b140 => ?_)
        · try simp only [xb_0, xb_1, ne_eq, Decidable.not_not, Bool.not_eq_false, Bool.not_eq_true, decide_eq_true_eq, decide_eq_false_iff_not] at b140
          refine xe_new (k := 8) (fs := [.null, .null, .null, xi 0, .null, xi 0, xi 0, xi 0]) xt_g200 rfl rfl (q := 148) rfl (xn_6_18 fm) rfl rfl rfl ?_
          rw [ko_new (by omega)]
          refine xe_s (f := (149, _, _, _)) xt_g200 rfl rfl rfl rfl rfl ?_
          refine xe_s (f := (150, _, _, _)) xt_g200 rfl rfl rfl rfl rfl ?_
          refine xe_s (f := (152, _, _, _)) xt_g200 rfl rfl rfl rfl rfl ?_
          refine xe_s (f := (153, _, _, _)) xt_g200 rfl rfl rfl rfl rfl ?_
          refine xe_s (f := (155, _, _, _)) xt_g200 rfl rfl rfl rfl rfl ?_
          refine xe_s (f := (156, _, _, _)) xt_g200 rfl rfl rfl rfl rfl ?_
          refine xe_gf xt_g200 rfl (q := 159) rfl (xf_6_121 fm) ((ko_d (w := w) (s := s) (p := p) (ar := ar) (v := v) a2.1).trans ((va_up_n (by omega)).trans a1)) (by omega) rfl rfl ?_
          refine xe_s (f := (160, _, xi (-1) :: _, _)) xt_g200 rfl rfl rfl rfl rfl ?_
          refine xe_ic_ne xt_g200 rfl (t := 167) rfl (q := 163) rfl (by first | omega | exact xb_r _) (by first | omega | exact xb_r _) (fun b160 => ?_) (fun b160 => ?_)
          · try simp only [xb_0, xb_1, ne_eq, Decidable.not_not, Bool.not_eq_false, Bool.not_eq_true, decide_eq_true_eq, decide_eq_false_iff_not] at b160
            refine xe_s (f := (168, _, _, _)) xt_g200 rfl rfl rfl rfl rfl ?_
            refine xe_gf xt_g200 rfl (q := 171) rfl (xf_6_31 fm) (ko_59) (by omega) rfl rfl ?_
            refine xe_s (f := (172, _, _, _)) xt_g200 rfl rfl rfl rfl rfl ?_
            refine xe_gf xt_g200 rfl (q := 175) rfl (xf_6_121 fm) ((ko_d (w := w) (s := s) (p := p) (ar := ar) (v := v) a2.1).trans ((va_up_n (by omega)).trans a1)) (by omega) rfl rfl ?_
            refine xe_iadd xt_g200 rfl (q := 176) rfl ?_
            refine xe_cN xt_g200 rfl rfl rfl (q := 179) rfl (kc_P xk_6_124 rfl) xt_g215 (by decide) ⟨Nat.le_of_ble_eq_true rfl, Nat.le_of_ble_eq_true rfl, Nat.le_of_ble_eq_true rfl⟩ (k215 (b5 := q.2.2.2.1) (b6 := q.2.2.2.2) ((ko_d (Or.inr (Or.inr (Or.inr (Or.inr (by omega)))))).trans va_up_s) ((ko_d (w := w) (s := s) (p := p) (ar := ar) (v := v) a2.1).trans ((va_up_n (by omega)).trans a1)) (by omega) (by omega) (by omega) (by omega)) (fun h3' n3 c3 u3 hs => ?_)
            obtain ⟨e1, e2, e3⟩ := hs
            subst e1
            rw [ko_new (by omega), va_uu, e2, e3]
            refine xe_aret xt_g200 rfl (Or.inl ⟨_, rfl⟩) rfl ?_
            try dsimp only
            exact mk _ (by
              cases e : q.2.2.1 with
              | none => rw [e] at b160; exact absurd rfl b160
              | some z => rfl) es (by omega) (by omega) u (by omega)
          · try simp only [xb_0, xb_1, ne_eq, Decidable.not_not, Bool.not_eq_false, Bool.not_eq_true, decide_eq_true_eq, decide_eq_false_iff_not] at b160
            refine xe_s (f := (164, _, xi (-1) :: _, _)) xt_g200 rfl rfl rfl rfl rfl ?_
            refine xe_s (f := (176, _, _, _)) xt_g200 rfl rfl rfl rfl rfl ?_
            refine xe_cN xt_g200 rfl rfl rfl (q := 179) rfl (kc_P xk_6_124 rfl) xt_g215 (by decide) ⟨Nat.le_of_ble_eq_true rfl, Nat.le_of_ble_eq_true rfl, Nat.le_of_ble_eq_true rfl⟩ (k215 (b5 := q.2.2.2.1) (b6 := q.2.2.2.2) ((ko_d (Or.inr (Or.inr (Or.inr (Or.inr (by omega)))))).trans va_up_s) ((ko_d (w := w) (s := s) (p := p) (ar := ar) (v := v) a2.1).trans ((va_up_n (by omega)).trans a1)) (by omega) (by omega) (by omega) (by omega)) (fun h3' n3 c3 u3 hs => ?_)
            obtain ⟨e1, e2, e3⟩ := hs
            subst e1
            rw [ko_new (by omega), va_uu, e2, e3]
            refine xe_aret xt_g200 rfl (Or.inl ⟨_, rfl⟩) rfl ?_
            try dsimp only
            exact mk _ (by
              cases e : q.2.2.1 with
              | none => rfl
              | some z => rw [e] at b160; have := b3 z e; have e9 : z = -1 := b160; omega) es (by omega) (by omega) u (by omega)
        · try simp only [xb_0, xb_1, ne_eq, Decidable.not_not, Bool.not_eq_false, Bool.not_eq_true, decide_eq_true_eq, decide_eq_false_iff_not] at b140
          refine xe_s (f := (144, _, _, _)) xt_g200 rfl rfl rfl rfl rfl ?_
          refine xe_aret xt_g200 rfl (Or.inl ⟨_, rfl⟩) rfl ?_
          try dsimp only
          exact no (by
            unfold ck_of2
            rw [if_neg (by omega)]) 0 u
    · try simp only [xb_0, xb_1, ne_eq, Decidable.not_not, Bool.not_eq_false, Bool.not_eq_true, decide_eq_true_eq, decide_eq_false_iff_not] at b118
      refine xe_s (f := (122, _, _, _)) xt_g200 rfl rfl rfl rfl rfl ?_
      refine xe_aret xt_g200 rfl (Or.inl ⟨_, rfl⟩) rfl ?_
      try dsimp only
      exact no (by
        unfold ck_of2
        rw [eW]
        split
        · split
          · rfl
          · rw [if_pos (by rw [b111, b118]; rfl)]
        · rfl) 0 u
theorem k200_b (hfm : fm = .null ∨ ∃ j, fm = .ref j) (K : KW w h n t kc) (Cc : cst w h n) (HT : ctO w h n x N V q) (HA : aO w h n a A) (ht : 0 ≤ s 14 ∧ s 14 ≤ 1000000000) (lN : N.length ≤ 12) (lV : V.length ≤ 12) {rd : Nat} {al : Bool} (HD : sS (gd w) h n rd D) {c u : Nat} : xe fm 200 (81, [(4, .ref rd), (3, xi (xb al)), (0, .ref 59), (1, .ref x), (2, .ref a)], [], (ko w s p ar v h, n, c, u)) (fun q' M => ∃ o : Option Nat, q' = .inl (some (va_rf o)) ∧ ∃ h1, M.1 = ko w s p ar v h1 ∧ ke h n h1 M.2.1 ∧ M.2.1 ≤ n + 3 ∧ M.2.2.2 ≤ u + 80 ∧ (ck_of2 (s 14) A N V D al q = none → o = none) ∧ ∀ f, ck_of2 (s 14) A N V D al q = some f → ∃ y, o = some y ∧ ckO w h1 M.2.1 y f) := by
  have W0 := K.1.1
  have HT' := HT
  have HA' := HA
  obtain ⟨na, va, dn, pa, a1, a2, a3, a4, s1, s2, s3, s4, b1, b2, b3⟩ := HT
  obtain ⟨ho, pp, qu, te, d1, d2, d3, d4, d5, d6, d7, d8, d9⟩ := HA
  have X1 := (ko_d (w := w) (s := s) (p := p) (ar := ar) (v := v) a2.1).trans a1
  have X2 := (ko_d (w := w) (s := s) (p := p) (ar := ar) (v := v) d2.1).trans d1
  obtain ⟨f1, F1, _, _, _⟩ := sS_at s4
  obtain ⟨lp1, lp2, lp3⟩ := pa_ok_len d9
  have cf := cp_fo_ok d9.2.1
  refine xe_s (f := (82, _, _, _)) xt_g200 rfl rfl rfl rfl rfl ?_
  refine xe_gf xt_g200 rfl (q := 85) rfl (xf_6_105 fm) (X1) (by omega) rfl rfl ?_
  refine xe_cR xt_g200 rfl rfl rfl (q := 88) rfl (kc_V xk_6_82 rfl (F1 _ _ _ _ _) (by omega) rfl rfl) xt_g194 (by decide) ⟨Nat.le_of_ble_eq_true rfl, Nat.le_of_ble_eq_true rfl, Nat.le_of_ble_eq_true rfl⟩ (s194 (sS_ko s4)) ?_
  refine xe_if_eq xt_g200 rfl (t := 101) rfl (q := 91) rfl (by first | omega | exact xb_r _) (fun b88 => ?_) (fun b88 => ?_)
  · try simp only [xb_0, xb_1, ne_eq, Decidable.not_not, Bool.not_eq_false, Bool.not_eq_true, decide_eq_true_eq, decide_eq_false_iff_not] at b88
    refine xe_s (f := (102, _, _, _)) xt_g200 rfl rfl rfl rfl rfl ?_
    refine xe_gf xt_g200 rfl (q := 105) rfl (xf_6_105 fm) (X1) (by omega) rfl rfl ?_
    refine xe_s (f := (107, [(5, _), (4, _), (3, _), (0, _), (1, _), (2, _)], _, _)) xt_g200 rfl rfl rfl rfl rfl ?_
    obtain ⟨W, eq1⟩ : ∃ W, q.2.1 = some W := by
      cases e : q.2.1 with
      | none => rw [e] at b88; exact absurd b88 (by decide)
      | some z => exact ⟨z, rfl⟩
    have sW : sS (gd w) h n pa W := by rw [eq1] at s4; exact s4
    have lW : 1 ≤ W.length := by
      cases W with
      | nil => exact absurd eq1 b2
      | cons _ _ => exact Nat.succ_le_succ (Nat.zero_le _)
    refine xe_mono (xe_loc (by intro q hq; simp only [List.mem_cons, List.not_mem_nil, or_false] at hq; rcases hq with rfl | rfl | rfl | rfl | rfl | rfl <;> rfl) ((k200_c (fm := fm) (p := p) (ar := ar) (v := v) (al := al) (c := c) (u := u) hfm K HT' HA' ht lN lV HD sW (by rw [eq1]; rfl) lW))) (fun r M hM => ?_)
    obtain ⟨o, g1, h3, g2, g3, g4, g5, g6⟩ := hM
    exact ⟨o, g1, h3, g2, g3, by omega, by omega, g6⟩
  · try simp only [xb_0, xb_1, ne_eq, Decidable.not_not, Bool.not_eq_false, Bool.not_eq_true, decide_eq_true_eq, decide_eq_false_iff_not] at b88
    refine xe_s (f := (92, _, _, _)) xt_g200 rfl rfl rfl rfl rfl ?_
    refine xe_gf xt_g200 rfl (q := 95) rfl (xf_6_108 fm) (X2) (by omega) rfl rfl ?_
    refine xe_cA xt_g200 rfl rfl rfl (q := 98) rfl (kc_S xk_6_109 (Nat.le_of_ble_eq_true rfl)) xt_g214 (by decide) ⟨Nat.le_of_ble_eq_true rfl, Nat.le_of_ble_eq_true rfl, Nat.le_of_ble_eq_true rfl⟩ (k214 hfm K Cc d6 d9.2.1) (fun x1 h1' n1 c1 u1 hp => ?_)
    obtain ⟨h2, rfl, ke1, S1, n1', u1'⟩ := hp
    have N1 := ke1.1
    refine xe_s (f := (105, _, _, _)) xt_g200 rfl rfl rfl rfl rfl ?_
    refine xe_s (f := (107, [(5, _), (4, _), (3, _), (0, _), (1, _), (2, _)], _, _)) xt_g200 rfl rfl rfl rfl rfl ?_
    have eq1 : q.2.1 = none := by
      cases e : q.2.1 with
      | none => rfl
      | some z =>
        rw [e] at b88
        exact absurd e (by rw [show z = [] from List.isEmpty_iff.mp b88]; exact b2)
    refine xe_mono (xe_loc (by intro q hq; simp only [List.mem_cons, List.not_mem_nil, or_false] at hq; rcases hq with rfl | rfl | rfl | rfl | rfl | rfl <;> rfl) ((k200_c (fm := fm) (p := p) (ar := ar) (v := v) (al := al) (c := c + c1) (u := u + u1) hfm (KW_ke K ke1) (ctO_ke HT' ke1) (aO_kp HA' (ke_kp ke1)) ht lN lV (sS_ke HD ke1) S1 (by rw [eq1]; rfl) cf.2))) (fun r M hM => ?_)
    obtain ⟨o, g1, h3, g2, g3, g4, g5, g6⟩ := hM
    exact ⟨o, g1, h3, g2, ke_trans ke1 g3, by omega, by omega, g6⟩
/-- cookieOf -/
theorem k200 (hfm : fm = .null ∨ ∃ j, fm = .ref j) (K : KW w h n t kc) (Cc : cst w h n) (HL : sfL w s ar h n L) (HT : ctO w h n x N V q) (HA : aO w h n a A) (ht : 0 ≤ s 14 ∧ s 14 ≤ 1000000000) (lN : N.length ≤ 12) (lV : V.length ≤ 12) : xO fm 200 (ko w s p ar v h) n [.ref 59, .ref x, .ref a] (fun o h' n' u' => ∃ h1, h' = ko w s p ar v h1 ∧ ke h n h1 n' ∧ n' ≤ n + 3 ∧ u' ≤ 80 ∧ (ck_of L (s 14) A N V q = none → o = none) ∧ ∀ f, ck_of L (s 14) A N V q = some f → ∃ y, o = some y ∧ ckO w h1 n' y f) := by
  have W0 := K.1.1
  have HT' := HT
  have HA' := HA
  obtain ⟨na, va, dn, pa, a1, a2, a3, a4, s1, s2, s3, s4, b1, b2, b3⟩ := HT
  obtain ⟨ho, pp, qu, te, d1, d2, d3, d4, d5, d6, d7, d8, d9⟩ := HA
  have X1 := (ko_d (w := w) (s := s) (p := p) (ar := ar) (v := v) a2.1).trans a1
  have X2 := (ko_d (w := w) (s := s) (p := p) (ar := ar) (v := v) d2.1).trans d1
  have nof : cd_ch A.2.1 L q.1 = none → ck_of L (s 14) A N V q = none := by
    intro e
    unfold ck_of
    rw [e]
  have f12 : ∀ (al : Bool) (D : List Int), cd_ch A.2.1 L q.1 = (if D.length ≤ 40 then some (al, D) else none) → ck_of L (s 14) A N V q = ck_of2 (s 14) A N V D al q := by
    intro al D e
    unfold ck_of ck_of2
    by_cases hD : D.length ≤ 40
    · rw [if_pos hD] at e
      rw [e, if_pos hD]
    · rw [if_neg hD] at e
      rw [e, if_neg hD]
  have no : cd_ch A.2.1 L q.1 = none → ∃ o : Option Nat, (.inl (some .null) : Option Value ⊕ Nat) = .inl (some (va_rf o)) ∧ ∃ h1, ko w s p ar v h = ko w s p ar v h1 ∧ ke h n h1 n ∧ n ≤ n + 3 ∧ 0 ≤ 80 ∧ (ck_of L (s 14) A N V q = none → o = none) ∧ ∀ f, ck_of L (s 14) A N V q = some f → ∃ y, o = some y ∧ ckO w h1 n y f := by
    intro e
    exact ⟨none, rfl, h, rfl, ke_refl, by omega, by omega, fun _ => rfl, fun f g => by rw [nof e] at g; cases g⟩
  unfold xO
  cases eq0 : q.1 with
  | none =>
    have e0 := f12 true A.2.1 (by rw [eq0]; rfl)
    rw [e0]
    rw [eq0] at s3
    obtain ⟨f1, F1, _, _, _⟩ := sS_at s3
    refine xe_s (f := (1, _, _, _)) xt_g200 rfl rfl rfl rfl rfl ?_
    refine xe_gf xt_g200 rfl (q := 4) rfl (xf_6_81 fm) (X1) (by omega) rfl rfl ?_
    refine xe_cR xt_g200 rfl rfl rfl (q := 7) rfl (kc_V xk_6_82 rfl (F1 _ _ _ _ _) (by omega) rfl rfl) xt_g194 (by decide) ⟨Nat.le_of_ble_eq_true rfl, Nat.le_of_ble_eq_true rfl, Nat.le_of_ble_eq_true rfl⟩ (s194 (sS_ko s3)) ?_
    rw [show xb (List.isEmpty (Option.getD (none : Option (List Int)) [])) = 1 from rfl]
    refine xe_s (f := (8, [(3, _), (0, _), (1, _), (2, _)], _, _)) xt_g200 rfl rfl rfl rfl rfl ?_
    refine xe_s (f := (9, _, _, _)) xt_g200 rfl rfl rfl rfl rfl ?_
    refine xe_if_ne xt_g200 rfl (t := 28) rfl (q := 12) rfl (by first | omega | exact xb_r _) (fun b9 => ?_) (fun b9 => ?_)
    · try simp only [xb_0, xb_1, ne_eq, Decidable.not_not, Bool.not_eq_false, Bool.not_eq_true, decide_eq_true_eq, decide_eq_false_iff_not] at b9
      refine xe_s (f := (29, _, _, _)) xt_g200 rfl rfl rfl rfl rfl ?_
      refine xe_if_ne xt_g200 rfl (t := 64) rfl (q := 32) rfl (by first | omega | exact xb_r _) (fun b29 => ?_) (fun b29 => ?_)
      · try simp only [xb_0, xb_1, ne_eq, Decidable.not_not, Bool.not_eq_false, Bool.not_eq_true, decide_eq_true_eq, decide_eq_false_iff_not] at b29
        refine xe_s (f := (65, _, _, _)) xt_g200 rfl rfl rfl rfl rfl ?_
        refine xe_if_eq xt_g200 rfl (t := 75) rfl (q := 68) rfl (by first | omega | exact xb_r _) (fun b65 => ?_) (fun b65 => ?_)
        · exact absurd b65 (by omega)
        · try simp only [xb_0, xb_1, ne_eq, Decidable.not_not, Bool.not_eq_false, Bool.not_eq_true, decide_eq_true_eq, decide_eq_false_iff_not] at b65
          refine xe_s (f := (69, _, _, _)) xt_g200 rfl rfl rfl rfl rfl ?_
          refine xe_gf xt_g200 rfl (q := 72) rfl (xf_6_88 fm) (X2) (by omega) rfl rfl ?_
          refine xe_s (f := (79, _, _, _)) xt_g200 rfl rfl rfl rfl rfl ?_
          refine xe_s (f := (81, [(4, _), (3, _), (0, _), (1, _), (2, _)], _, _)) xt_g200 rfl rfl rfl rfl rfl ?_
          refine xe_mono (xe_loc (by intro q hq; simp only [List.mem_cons, List.not_mem_nil, or_false] at hq; rcases hq with rfl | rfl | rfl | rfl | rfl <;> rfl) ((k200_b (fm := fm) (p := p) (ar := ar) (v := v) (al := true) (c := 0) (u := 0) hfm K Cc HT' HA' ht lN lV d5))) (fun r M hM => ?_)
          obtain ⟨o, g1, h3, g2, g3, g4, g5, g6⟩ := hM
          exact ⟨o, g1, h3, g2, g3, g4, by omega, g6⟩
      · exact absurd b29 (by omega)
    · exact absurd b9 (by omega)
  | some d =>
    rw [eq0] at s3
    have s3 : sS (gd w) h n dn d := s3
    obtain ⟨f1, F1, _, _, _⟩ := sS_at s3
    have ne : d ≠ [] := fun g => b1 (by rw [eq0, g])
    have ie : xb d.isEmpty = 0 := by
      cases d with
      | nil => exact absurd rfl ne
      | cons _ _ => rfl
    have ecd : cd_ch A.2.1 L q.1 = if ts_is d L = true then (if A.2.1 = d ∧ A.2.1.length ≤ 40 then some (true, A.2.1) else none) else if st_ends A.2.1 d = true ∧ d.length ≤ 40 then some (false, d) else none := by rw [eq0]; rfl
    refine xe_s (f := (1, _, _, _)) xt_g200 rfl rfl rfl rfl rfl ?_
    refine xe_gf xt_g200 rfl (q := 4) rfl (xf_6_81 fm) (X1) (by omega) rfl rfl ?_
    refine xe_cR xt_g200 rfl rfl rfl (q := 7) rfl (kc_V xk_6_82 rfl (F1 _ _ _ _ _) (by omega) rfl rfl) xt_g194 (by decide) ⟨Nat.le_of_ble_eq_true rfl, Nat.le_of_ble_eq_true rfl, Nat.le_of_ble_eq_true rfl⟩ (s194 (sS_ko s3)) ?_
    rw [ie]
    refine xe_s (f := (8, [(3, _), (0, _), (1, _), (2, _)], _, _)) xt_g200 rfl rfl rfl rfl rfl ?_
    refine xe_s (f := (9, _, _, _)) xt_g200 rfl rfl rfl rfl rfl ?_
    refine xe_if_ne xt_g200 rfl (t := 28) rfl (q := 12) rfl (by first | omega | exact xb_r _) (fun b9 => ?_) (fun b9 => ?_)
    · exact absurd b9 (by omega)
    · try simp only [xb_0, xb_1, ne_eq, Decidable.not_not, Bool.not_eq_false, Bool.not_eq_true, decide_eq_true_eq, decide_eq_false_iff_not] at b9
      refine xe_s (f := (13, _, _, _)) xt_g200 rfl rfl rfl rfl rfl ?_
      refine xe_gf xt_g200 rfl (q := 16) rfl (xf_6_88 fm) (X2) (by omega) rfl rfl ?_
      refine xe_s (f := (17, _, _, _)) xt_g200 rfl rfl rfl rfl rfl ?_
      refine xe_gf xt_g200 rfl (q := 20) rfl (xf_6_81 fm) (X1) (by omega) rfl rfl ?_
      refine xe_cR xt_g200 rfl rfl rfl (q := 23) rfl (kc_S xk_6_93 (Nat.le_of_ble_eq_true rfl)) xt_g139 (by decide) ⟨Nat.le_of_ble_eq_true rfl, Nat.le_of_ble_eq_true rfl, Nat.le_of_ble_eq_true rfl⟩ (s139 hfm (sS_ko d5) (sS_ko s3)) ?_
      refine xe_if_ne xt_g200 rfl (t := 28) rfl (q := 26) rfl (by first | omega | exact xb_r _) (fun b23 => ?_) (fun b23 => ?_)
      · try simp only [xb_0, xb_1, ne_eq, Decidable.not_not, Bool.not_eq_false, Bool.not_eq_true, decide_eq_true_eq, decide_eq_false_iff_not] at b23
        refine xe_s (f := (29, _, _, _)) xt_g200 rfl rfl rfl rfl rfl ?_
        refine xe_if_ne xt_g200 rfl (t := 64) rfl (q := 32) rfl (by first | omega | exact xb_r _) (fun b29 => ?_) (fun b29 => ?_)
        · exact absurd b29 (by omega)
        · try simp only [xb_0, xb_1, ne_eq, Decidable.not_not, Bool.not_eq_false, Bool.not_eq_true, decide_eq_true_eq, decide_eq_false_iff_not] at b29
          refine xe_s (f := (33, _, _, _)) xt_g200 rfl rfl rfl rfl rfl ?_
          refine xe_gf xt_g200 rfl (q := 36) rfl (xf_6_12 fm) (ko_59) (by omega) rfl rfl ?_
          refine xe_s (f := (37, _, _, _)) xt_g200 rfl rfl rfl rfl rfl ?_
          refine xe_gf xt_g200 rfl (q := 40) rfl (xf_6_81 fm) (X1) (by omega) rfl rfl ?_
          refine xe_cI xt_g200 rfl rfl rfl (q := 43) rfl (kc_V xk_6_97 rfl (ko_60) (by omega) rfl rfl) xt_g201 (by decide) ⟨Nat.le_of_ble_eq_true rfl, Nat.le_of_ble_eq_true rfl, Nat.le_of_ble_eq_true rfl⟩ (k201 (by omega) HL s3) (fun z1 h1' n1 c1 u1 hp => ?_)
          obtain ⟨e1, e2, e3, e4⟩ := hp
          subst e2
          rw [e1, e3, e4]
          refine xe_if_eq xt_g200 rfl (t := 64) rfl (q := 46) rfl (by first | omega | exact xb_r _) (fun b43 => ?_) (fun b43 => ?_)
          · try simp only [xb_0, xb_1, ne_eq, Decidable.not_not, Bool.not_eq_false, Bool.not_eq_true, decide_eq_true_eq, decide_eq_false_iff_not] at b43
            refine xe_s (f := (65, _, _, _)) xt_g200 rfl rfl rfl rfl rfl ?_
            refine xe_if_eq xt_g200 rfl (t := 75) rfl (q := 68) rfl (by first | omega | exact xb_r _) (fun b65 => ?_) (fun b65 => ?_)
            · try simp only [xb_0, xb_1, ne_eq, Decidable.not_not, Bool.not_eq_false, Bool.not_eq_true, decide_eq_true_eq, decide_eq_false_iff_not] at b65
              refine xe_s (f := (76, _, _, _)) xt_g200 rfl rfl rfl rfl rfl ?_
              refine xe_gf xt_g200 rfl (q := 79) rfl (xf_6_81 fm) (X1) (by omega) rfl rfl ?_
              refine xe_s (f := (81, [(4, _), (3, _), (0, _), (1, _), (2, _)], _, _)) xt_g200 rfl rfl rfl rfl rfl ?_
              have e0 := f12 false d (by
                rw [ecd, if_neg (by rw [b43]; decide)]
                by_cases g : d.length ≤ 40
                · rw [if_pos ⟨b23, g⟩, if_pos g]
                · rw [if_neg (fun y => g y.2), if_neg g])
              rw [e0]
              refine xe_mono (xe_loc (by intro q hq; simp only [List.mem_cons, List.not_mem_nil, or_false] at hq; rcases hq with rfl | rfl | rfl | rfl | rfl <;> rfl) ((k200_b (fm := fm) (p := p) (ar := ar) (v := v) (al := false) (c := 0 + c1) (u := 0 + 0) hfm K Cc HT' HA' ht lN lV s3))) (fun r M hM => ?_)
              obtain ⟨o, g1, h3, g2, g3, g4, g5, g6⟩ := hM
              exact ⟨o, g1, h3, g2, g3, g4, by omega, g6⟩
            · exact absurd b65 (by omega)
          · try simp only [xb_0, xb_1, ne_eq, Decidable.not_not, Bool.not_eq_false, Bool.not_eq_true, decide_eq_true_eq, decide_eq_false_iff_not] at b43
            refine xe_s (f := (47, _, _, _)) xt_g200 rfl rfl rfl rfl rfl ?_
            refine xe_gf xt_g200 rfl (q := 50) rfl (xf_6_81 fm) (X1) (by omega) rfl rfl ?_
            refine xe_s (f := (51, _, _, _)) xt_g200 rfl rfl rfl rfl rfl ?_
            refine xe_gf xt_g200 rfl (q := 54) rfl (xf_6_88 fm) (X2) (by omega) rfl rfl ?_
            refine xe_cR xt_g200 rfl rfl rfl (q := 57) rfl (kc_V xk_6_101 rfl (F1 _ _ _ _ _) (by omega) rfl rfl) xt_g92 (by decide) ⟨Nat.le_of_ble_eq_true rfl, Nat.le_of_ble_eq_true rfl, Nat.le_of_ble_eq_true rfl⟩ (s92 (sS_ko s3) (sS_ko d5)) ?_
            refine xe_if_ne xt_g200 rfl (t := 62) rfl (q := 60) rfl (by first | omega | exact xb_r _) (fun b57 => ?_) (fun b57 => ?_)
            · try simp only [xb_0, xb_1, ne_eq, Decidable.not_not, Bool.not_eq_false, Bool.not_eq_true, decide_eq_true_eq, decide_eq_false_iff_not] at b57
              refine xe_s (f := (63, _, xi 1 :: _, _)) xt_g200 rfl rfl rfl rfl rfl ?_
              refine xe_s (f := (64, [(3, _), (0, _), (1, _), (2, _)], _, _)) xt_g200 rfl rfl rfl rfl rfl ?_
              refine xe_s (f := (65, _, _, _)) xt_g200 rfl rfl rfl rfl rfl ?_
              refine xe_if_eq xt_g200 rfl (t := 75) rfl (q := 68) rfl (by first | omega | exact xb_r _) (fun b65 => ?_) (fun b65 => ?_)
              · exact absurd b65 (by omega)
              · try simp only [xb_0, xb_1, ne_eq, Decidable.not_not, Bool.not_eq_false, Bool.not_eq_true, decide_eq_true_eq, decide_eq_false_iff_not] at b65
                refine xe_s (f := (69, _, _, _)) xt_g200 rfl rfl rfl rfl rfl ?_
                refine xe_gf xt_g200 rfl (q := 72) rfl (xf_6_88 fm) (X2) (by omega) rfl rfl ?_
                refine xe_s (f := (79, _, _, _)) xt_g200 rfl rfl rfl rfl rfl ?_
                refine xe_s (f := (81, [(4, _), (3, _), (0, _), (1, _), (2, _)], _, _)) xt_g200 rfl rfl rfl rfl rfl ?_
                have e0 := f12 true A.2.1 (by
                  rw [ecd, if_pos b43]
                  by_cases g : A.2.1.length ≤ 40
                  · rw [if_pos ⟨b57.symm, g⟩, if_pos g]
                  · rw [if_neg (fun y => g y.2), if_neg g])
                rw [e0]
                refine xe_mono (xe_loc (by intro q hq; simp only [List.mem_cons, List.not_mem_nil, or_false] at hq; rcases hq with rfl | rfl | rfl | rfl | rfl <;> rfl) ((k200_b (fm := fm) (p := p) (ar := ar) (v := v) (al := true) (c := 0 + c1) (u := 0 + 0) hfm K Cc HT' HA' ht lN lV d5))) (fun r M hM => ?_)
                obtain ⟨o, g1, h3, g2, g3, g4, g5, g6⟩ := hM
                exact ⟨o, g1, h3, g2, g3, g4, by omega, g6⟩
            · try simp only [xb_0, xb_1, ne_eq, Decidable.not_not, Bool.not_eq_false, Bool.not_eq_true, decide_eq_true_eq, decide_eq_false_iff_not] at b57
              refine xe_s (f := (61, _, _, _)) xt_g200 rfl rfl rfl rfl rfl ?_
              refine xe_aret xt_g200 rfl (Or.inl ⟨_, rfl⟩) rfl ?_
              try dsimp only
              exact no (by rw [ecd, if_pos b43, if_neg (fun g => b57 g.1.symm)])
      · try simp only [xb_0, xb_1, ne_eq, Decidable.not_not, Bool.not_eq_false, Bool.not_eq_true, decide_eq_true_eq, decide_eq_false_iff_not] at b23
        refine xe_s (f := (27, _, _, _)) xt_g200 rfl rfl rfl rfl rfl ?_
        refine xe_aret xt_g200 rfl (Or.inl ⟨_, rfl⟩) rfl ?_
        try dsimp only
        exact no (by
          rw [ecd]
          split
          · rw [if_neg (fun g => by rw [g.1, st_ends_self] at b23; cases b23)]
          · rw [if_neg (fun g => by rw [b23] at g; exact absurd g.1 (by decide))])
end XBG
