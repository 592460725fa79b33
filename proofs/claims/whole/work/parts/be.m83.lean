/-! the text of a cookie: age and domain -/
theorem stA_0 {V : List Int} {c : Int} (hc : c ≠ 0) : stA V 0 [c] = decide (V.getD 0 0 = c) := by
  unfold stA sl
  refine bool_iff ?_
  simp only [decide_eq_true_eq]
  cases V with
  | nil =>
    constructor
    · rintro ⟨_, h, _⟩
      simp at h
    · intro h
      exact absurd h.symm hc
  | cons v V =>
    constructor
    · rintro ⟨_, _, h⟩
      simp at h
      exact h
    · intro h
      have h : v = c := h
      subst h
      refine ⟨by omega, by simp only [List.length_cons, List.length_nil]; omega, ?_⟩
      simp
theorem at_one_D {V : List Int} {a : at_T} : at_one at_wD V a = at_4 at_wD V a := by
  unfold at_one at_5 at_3 at_2 at_1
  rw [if_neg (by decide), if_neg (by decide), if_neg (by decide), if_neg (by decide)]
theorem at_one_P {V : List Int} {a : at_T} : at_one at_wP V a = at_3 at_wP V a := by
  unfold at_one at_5 at_4 at_2 at_1
  rw [if_neg (by decide), if_neg (by decide), if_neg (by decide), if_neg (by decide)]
theorem at_one_A {V : List Int} {a : at_T} : at_one at_wA V a = at_5 at_wA V a := by
  unfold at_one at_4 at_3 at_2 at_1
  rw [if_neg (show ¬ at_wA = at_wD by decide), if_neg (show ¬ at_wA = at_wP by decide), if_neg (show ¬ at_wA = at_wH by decide), if_neg (show ¬ at_wA = at_wS by decide)]
theorem at_one_S {V : List Int} {a : at_T} : at_one at_wS V a = at_1 at_wS a := by
  unfold at_one at_5 at_4 at_3 at_2
  rw [if_neg (by decide), if_neg (by decide), if_neg (by decide), if_neg (by decide)]
theorem at_one_H {V : List Int} {a : at_T} : at_one at_wH V a = at_2 at_wH a := by
  unfold at_one at_5 at_4 at_3
  rw [if_neg (by decide), if_neg (by decide), if_neg (by decide)]
  unfold at_1
  rw [if_neg (by decide)]
theorem at_one_N {K V : List Int} {a : at_T} (h1 : K ≠ at_wD) (h2 : K ≠ at_wP) (h3 : K ≠ at_wA) (h4 : K ≠ at_wS) (h5 : K ≠ at_wH) : at_one K V a = a := by
  unfold at_one at_5 at_4 at_3 at_2 at_1
  rw [if_neg h3, if_neg h1, if_neg h2, if_neg h5, if_neg h4]
def bnd : Nat → Int
  | 0 => 9999999
  | 1 => 999999
  | 2 => 99999
  | 3 => 9999
  | 4 => 999
  | 5 => 99
  | 6 => 9
  | _ => 0
theorem bnd_s {m : Nat} (hm : m ≤ 6) {z d : Int} (hz : z ≤ bnd (m + 1)) (hd : d ≤ 9) : z * 10 + d ≤ bnd m := by
  match m, hm with
  | 0, _ => have h1 : z ≤ 999999 := hz; show _ ≤ (9999999 : Int); omega
  | 1, _ => have h1 : z ≤ 99999 := hz; show _ ≤ (999999 : Int); omega
  | 2, _ => have h1 : z ≤ 9999 := hz; show _ ≤ (99999 : Int); omega
  | 3, _ => have h1 : z ≤ 999 := hz; show _ ≤ (9999 : Int); omega
  | 4, _ => have h1 : z ≤ 99 := hz; show _ ≤ (999 : Int); omega
  | 5, _ => have h1 : z ≤ 9 := hz; show _ ≤ (99 : Int); omega
  | 6, _ => have h1 : z ≤ 0 := hz; show _ ≤ (9 : Int); omega
theorem bnd_le : ∀ m, bnd m ≤ 9999999
  | 0 | 1 | 2 | 3 | 4 | 5 | 6 => by decide
  | _ + 7 => by show (0 : Int) ≤ _; decide
theorem tr_m_len {t : Int → Int} {b e : Int} (h : b ≤ e) : (tr_m t b e).length ≤ (e - b).toNat := by
  have := tr_r (t := t) h
  unfold tr_m
  rw [pa_sl_len]
  omega
theorem va_id {T : Type} {h : Nat → T} {a : Nat} {e : T} (ha : h a = e) : va_up h a e = h := by
  funext b
  by_cases g : b = a
  · rw [g, va_up_s, ha]
  · rw [va_up_n g]
/-- all is kept but x -/
def kx (x : Nat) (h : xm_H) (n : Nat) (h' : xm_H) (n' : Nat) : Prop := n ≤ n' ∧ ∀ a, a < n → dy a → a ≠ x → h' a = h a
def ag_n : Option Int → Int
  | none => -1
  | some v => v
/-- a CookieText with the pair N, V and what it was told -/
def ctO (w : kW) (h : xm_H) (n x : Nat) (N V : List Int) (a : at_T) : Prop := ∃ na va dn pa, h x = .inr (13, [.ref na, .ref va, .ref dn, .ref pa, xi (ag_n a.2.2.1), xi (xb a.2.2.2.1), xi (xb a.2.2.2.2)]) ∧ gd w x ∧ 108 ≤ x ∧ x < n ∧ sS (gd w) h n na N ∧ sS (gd w) h n va V ∧ sS (gd w) h n dn (a.1.getD []) ∧ sS (gd w) h n pa (a.2.1.getD []) ∧ a.1 ≠ some [] ∧ a.2.1 ≠ some [] ∧ ∀ z, a.2.2.1 = some z → 0 ≤ z ∧ z ≤ 9999999
section XBE
variable {fm : Value} {w w' w1 w2 : kW} {s s' s1 s2 : Nat → Int} {p p' p1 p2 : Nat → Nat} {ar ar' : Nat → Nat → Option Nat} {v : Nat → Int} {h h' h1 h2 : xm_H} {n n' n1 n2 r k k' u' u1 u2 x y b : Nat} {l D W P N V : List Int} {L : List (List Int)} {A : pa_A} {q : at_T} {F : Nat → Prop} {t t' t1 t2 : Nat → List Int} {kc kc' kc1 kc2 : Nat → Nat}
theorem s104e {i j : Int} (hj : j = 0) : xA fm 104 h n [.ref b, xi i, xi j] (fun x h' n' u' => x = 1 ∧ h' = h ∧ n' = n ∧ u' = 0) := by
  unfold xA
  refine xe_s (f := (1, _, _, _)) xt_g104 rfl rfl rfl rfl rfl ?_
  refine xe_if_ne xt_g104 rfl (t := 7) rfl (q := 4) rfl (by first | omega | exact xb_r _) (fun b1 => ?_) (fun b1 => ?_)
  · exact absurd b1 (by omega)
  · try simp only [xb_0, xb_1, ne_eq, Decidable.not_not, Bool.not_eq_false, Bool.not_eq_true, decide_eq_true_eq, decide_eq_false_iff_not] at b1
    refine xe_s (f := (6, _, .ref 1 :: _, _)) xt_g104 rfl rfl rfl rfl rfl ?_
    refine xe_aret xt_g104 rfl (Or.inl ⟨_, rfl⟩) rfl ?_
    try dsimp only
    exact ⟨1, rfl, rfl, rfl, rfl, rfl⟩
theorem s103e {i : Int} (hfm : fm = .null ∨ ∃ j, fm = .ref j) (HE : sS F h n 1 []) (H : sS F h n r l) (hi : 0 ≤ i) (hl : i ≤ l.length) : xA fm 103 h n [.ref r, xi i, xi i] (fun x h' n' u' => sS F h n x [] ∧ h' = h ∧ n' = n ∧ u' = 0) := by
  have G := H
  obtain ⟨b, x, y, h1, h2, h3, h4, h5, h6, h7, h8⟩ := H
  unfold xA
  refine xe_s (f := (1, _, _, _)) xt_g103 rfl rfl rfl rfl rfl ?_
  refine xe_cR xt_g103 rfl rfl rfl (q := 4) rfl (kc_V xk_15_505 rfl (h1) (by omega) rfl rfl) xt_g31 (by decide) ⟨Nat.le_of_ble_eq_true rfl, Nat.le_of_ble_eq_true rfl, Nat.le_of_ble_eq_true rfl⟩ (s31 G) ?_
  refine xe_s (f := (5, [(3, _), (0, _), (1, _), (2, _)], _, _)) xt_g103 rfl rfl rfl rfl rfl ?_
  refine xe_s (f := (6, _, _, _)) xt_g103 rfl rfl rfl rfl rfl ?_
  refine xe_s (f := (7, _, _, _)) xt_g103 rfl rfl rfl rfl rfl ?_
  refine xe_s (f := (8, _, _, _)) xt_g103 rfl rfl rfl rfl rfl ?_
  refine xe_cRn xt_g103 rfl rfl rfl (q := 11) rfl (kc_S xk_15_521 (Nat.le_of_ble_eq_true rfl)) xt_g28 (by decide) ⟨Nat.le_of_ble_eq_true rfl, Nat.le_of_ble_eq_true rfl, Nat.le_of_ble_eq_true rfl⟩ (s28 hfm hi (Int.le_refl _) hl (by omega)) ?_
  refine xe_s (f := (12, _, _, _)) xt_g103 rfl rfl rfl rfl rfl ?_
  refine xe_if_ne xt_g103 rfl (t := 22) rfl (q := 15) rfl (by first | omega | exact xb_r _) (fun b12 => ?_) (fun b12 => ?_)
  · try simp only [xb_0, xb_1, ne_eq, Decidable.not_not, Bool.not_eq_false, Bool.not_eq_true, decide_eq_true_eq, decide_eq_false_iff_not] at b12
    refine xe_s (f := (23, _, _, _)) xt_g103 rfl rfl rfl rfl rfl ?_
    refine xe_s (f := (24, _, _, _)) xt_g103 rfl rfl rfl rfl rfl ?_
    refine xe_isub xt_g103 rfl (q := 25) rfl ?_
    refine xe_s (f := (27, [(4, _), (3, _), (0, _), (1, _), (2, _)], _, _)) xt_g103 rfl rfl rfl rfl rfl ?_
    refine xe_s (f := (28, _, _, _)) xt_g103 rfl rfl rfl rfl rfl ?_
    refine xe_cR xt_g103 rfl rfl rfl (q := 31) rfl (kc_V xk_15_492 rfl (h1) (by omega) rfl rfl) xt_g74 (by decide) ⟨Nat.le_of_ble_eq_true rfl, Nat.le_of_ble_eq_true rfl, Nat.le_of_ble_eq_true rfl⟩ (s74 G) ?_
    refine xe_s (f := (34, _, _, _)) xt_g103 rfl rfl rfl rfl rfl ?_
    refine xe_s (f := (35, _, _, _)) xt_g103 rfl rfl rfl rfl rfl ?_
    refine xe_gf xt_g103 rfl (q := 38) rfl (xf_15_9 fm) (h1) (by omega) rfl rfl ?_
    refine xe_s (f := (39, _, _, _)) xt_g103 rfl rfl rfl rfl rfl ?_
    refine xe_s (f := (41, _, _, _)) xt_g103 rfl rfl rfl rfl rfl ?_
    refine xe_cA xt_g103 rfl rfl rfl (q := 44) rfl (kc_S xk_15_685 (Nat.le_of_ble_eq_true rfl)) xt_g104 (by decide) ⟨Nat.le_of_ble_eq_true rfl, Nat.le_of_ble_eq_true rfl, Nat.le_of_ble_eq_true rfl⟩ (s104e (show i - i = 0 by omega)) (fun x' h1' n1 c1 u1 hp => ?_)
    refine xe_s (f := (57, _, _, _)) xt_g103 rfl rfl rfl rfl rfl ?_
    refine xe_aret xt_g103 rfl (Or.inl ⟨_, rfl⟩) rfl ?_
    try dsimp only
    obtain ⟨e1, e2, e3, e4⟩ := hp
    exact ⟨x', rfl, by rw [e1]; exact HE, e2, e3, by omega⟩
  · try simp only [xb_0, xb_1, ne_eq, Decidable.not_not, Bool.not_eq_false, Bool.not_eq_true, decide_eq_true_eq, decide_eq_false_iff_not] at b12
    refine xe_s (f := (16, _, _, _)) xt_g103 rfl rfl rfl rfl rfl ?_
    refine xe_s (f := (17, _, _, _)) xt_g103 rfl rfl rfl rfl rfl ?_
    refine xe_ic_ne xt_g103 rfl (t := 22) rfl (q := 20) rfl (by first | omega | exact xb_r _) (by first | omega | exact xb_r _) (fun b17 => ?_) (fun b17 => ?_)
    · try simp only [xb_0, xb_1, ne_eq, Decidable.not_not, Bool.not_eq_false, Bool.not_eq_true, decide_eq_true_eq, decide_eq_false_iff_not] at b17
      refine xe_s (f := (23, _, _, _)) xt_g103 rfl rfl rfl rfl rfl ?_
      refine xe_s (f := (24, _, _, _)) xt_g103 rfl rfl rfl rfl rfl ?_
      refine xe_isub xt_g103 rfl (q := 25) rfl ?_
      refine xe_s (f := (27, [(4, _), (3, _), (0, _), (1, _), (2, _)], _, _)) xt_g103 rfl rfl rfl rfl rfl ?_
      refine xe_s (f := (28, _, _, _)) xt_g103 rfl rfl rfl rfl rfl ?_
      refine xe_cR xt_g103 rfl rfl rfl (q := 31) rfl (kc_V xk_15_492 rfl (h1) (by omega) rfl rfl) xt_g74 (by decide) ⟨Nat.le_of_ble_eq_true rfl, Nat.le_of_ble_eq_true rfl, Nat.le_of_ble_eq_true rfl⟩ (s74 G) ?_
      refine xe_s (f := (34, _, _, _)) xt_g103 rfl rfl rfl rfl rfl ?_
      refine xe_s (f := (35, _, _, _)) xt_g103 rfl rfl rfl rfl rfl ?_
      refine xe_gf xt_g103 rfl (q := 38) rfl (xf_15_9 fm) (h1) (by omega) rfl rfl ?_
      refine xe_s (f := (39, _, _, _)) xt_g103 rfl rfl rfl rfl rfl ?_
      refine xe_s (f := (41, _, _, _)) xt_g103 rfl rfl rfl rfl rfl ?_
      refine xe_cA xt_g103 rfl rfl rfl (q := 44) rfl (kc_S xk_15_685 (Nat.le_of_ble_eq_true rfl)) xt_g104 (by decide) ⟨Nat.le_of_ble_eq_true rfl, Nat.le_of_ble_eq_true rfl, Nat.le_of_ble_eq_true rfl⟩ (s104e (show i - i = 0 by omega)) (fun x' h1' n1 c1 u1 hp => ?_)
      refine xe_s (f := (57, _, _, _)) xt_g103 rfl rfl rfl rfl rfl ?_
      refine xe_aret xt_g103 rfl (Or.inl ⟨_, rfl⟩) rfl ?_
      try dsimp only
      obtain ⟨e1, e2, e3, e4⟩ := hp
      exact ⟨x', rfl, by rw [e1]; exact HE, e2, e3, by omega⟩
    · try simp only [xb_0, xb_1, ne_eq, Decidable.not_not, Bool.not_eq_false, Bool.not_eq_true, decide_eq_true_eq, decide_eq_false_iff_not] at b17
      refine xe_s (f := (21, _, _, _)) xt_g103 rfl rfl rfl rfl rfl ?_
      refine xe_aret xt_g103 rfl (Or.inl ⟨_, rfl⟩) rfl ?_
      try dsimp only
      refine ⟨r, rfl, ?_, rfl, rfl, rfl⟩
      have e : l = [] := List.eq_nil_of_length_eq_zero (by omega)
      rw [e] at G
      exact G
theorem s193e {a : Int} (hfm : fm = .null ∨ ∃ j, fm = .ref j) (HE : sS F h n 1 []) (H : sS F h n r l) (h0 : 0 ≤ a) (ha : a ≤ l.length) : xA fm 193 h n [.ref r, xi a, xi a] (fun x h' n' u' => sS F h n x [] ∧ h' = h ∧ n' = n ∧ u' = 0) := by
  have G := H
  obtain ⟨b, x, y, h1, h2, h3, h4, h5, h6, h7, h8⟩ := H
  unfold xA
  refine xe_s (f := (1, _, _, _)) xt_g193 rfl rfl rfl rfl rfl ?_
  refine xe_s (f := (2, [(3, _), (0, _), (1, _), (2, _)], _, _)) xt_g193 rfl rfl rfl rfl rfl ?_
  refine xe_s (f := (3, _, _, _)) xt_g193 rfl rfl rfl rfl rfl ?_
  refine xe_s (f := (5, [(4, _), (3, _), (0, _), (1, _), (2, _)], _, _)) xt_g193 rfl rfl rfl rfl rfl ?_
  refine xe_s (f := (6, _, _, _)) xt_g193 rfl rfl rfl rfl rfl ?_
  refine xe_s (f := (8, _, _, _)) xt_g193 rfl rfl rfl rfl rfl ?_
  refine xe_ic_ge xt_g193 rfl (t := 27) rfl (q := 11) rfl (by first | omega | exact xb_r _) (by first | omega | exact xb_r _) (fun b8 => ?_) (fun b8 => ?_)
  · try simp only [xb_0, xb_1, ne_eq, Decidable.not_not, Bool.not_eq_false, Bool.not_eq_true, decide_eq_true_eq, decide_eq_false_iff_not] at b8
    refine xe_s (f := (29, _, _, _)) xt_g193 rfl rfl rfl rfl rfl ?_
    refine xe_s (f := (30, _, _, _)) xt_g193 rfl rfl rfl rfl rfl ?_
    refine xe_ic_le xt_g193 rfl (t := 52) rfl (q := 33) rfl (by first | omega | exact xb_r _) (by first | omega | exact xb_r _) (fun b30 => ?_) (fun b30 => ?_)
    · try simp only [xb_0, xb_1, ne_eq, Decidable.not_not, Bool.not_eq_false, Bool.not_eq_true, decide_eq_true_eq, decide_eq_false_iff_not] at b30
      refine xe_s (f := (53, _, _, _)) xt_g193 rfl rfl rfl rfl rfl ?_
      refine xe_s (f := (54, _, _, _)) xt_g193 rfl rfl rfl rfl rfl ?_
      refine xe_s (f := (56, _, _, _)) xt_g193 rfl rfl rfl rfl rfl ?_
      refine xe_cA xt_g193 rfl rfl rfl (q := 59) rfl (kc_V xk_4_106 rfl (h1) (by omega) rfl rfl) xt_g103 (by decide) ⟨Nat.le_of_ble_eq_true rfl, Nat.le_of_ble_eq_true rfl, Nat.le_of_ble_eq_true rfl⟩ (s103e hfm HE G h0 ha) (fun x' h1' n1 c1 u1 hp => ?_)
      refine xe_aret xt_g193 rfl (Or.inl ⟨_, rfl⟩) rfl ?_
      try dsimp only
      obtain ⟨e1, e2, e3, e4⟩ := hp
      exact ⟨x', rfl, e1, e2, e3, by omega⟩
    · exact absurd b30 (by omega)
  · exact absurd b8 (by omega)
/-- trimmed -/
theorem k193 {a e : Int} (hfm : fm = .null ∨ ∃ j, fm = .ref j) (K : KW w h n t kc) (C : cst w h n) (H : sS (gd w) h n r l) (h0 : 0 ≤ a) (ha : a ≤ e) (he : e ≤ l.length) : xA fm 193 (ko w s p ar v h) n [.ref r, xi a, xi e] (fun x h' n' u' => ∃ h1, h' = ko w s p ar v h1 ∧ ke h n h1 n' ∧ sS (gd w) h1 n' x (tr_m (lt l) a e) ∧ n' ≤ n + 2 * min 1 (e - a).toNat ∧ u' ≤ 4 + (e - a).toNat) := by
  have W0 := K.1.1
  by_cases g : a = e
  · subst g
    refine xe_mono (s193e (F := gd w) hfm (sS_ko (C.1 (1, []) (by decide))) (sS_ko H) h0 he) (fun q M hM => ?_)
    obtain ⟨x, e1, e2, e3, e4, e5⟩ := hM
    have el := tr_m_len (t := lt l) (b := a) (e := a) (by omega)
    have en : tr_m (lt l) a a = [] := List.eq_nil_of_length_eq_zero (by omega)
    obtain ⟨h1, g1, g2, g3⟩ := ko_lift (s := s) (p := p) (ar := ar) (v := v) (h0 := h) (h' := ko w s p ar v h) (n' := n) K.1 ⟨Nat.le_refl _, fun _ _ => rfl⟩
    refine ⟨x, e1, h, e3, by rw [e4]; exact ke_refl, ?_, by omega, by omega⟩
    rw [en, e4]
    exact sS_h e2 (Nat.le_refl _) (fun a g _ => (ko_d g.1).symm)
  · refine xe_mono (s193 (F := gd w) hfm (by omega) (sS_ko (C.1 (1, []) (by decide))) (sS_ko H) h0 ha he) (fun q M hM => ?_)
    obtain ⟨x, e1, e2, e4, e5, e6⟩ := hM
    obtain ⟨h1, g1, g2, g3⟩ := ko_lift K.1 e4
    exact ⟨x, e1, h1, g1, g2, g3 _ _ e2, by omega, e6⟩
theorem kx_ke (e : ke h n h' n') : kx x h n h' n' := ⟨e.1, fun a h1 h2 _ => e.2 a h1 h2⟩
theorem kx_trans (a : kx x h n h1 n1) (b : kx x h1 n1 h2 n2) : kx x h n h2 n2 := ⟨Nat.le_trans a.1 b.1, fun i hi d g => (b.2 i (Nat.lt_of_lt_of_le hi a.1) d g).trans (a.2 i hi d g)⟩
theorem kx_up {e : va_E} : kx x h n (va_up h x e) n := ⟨Nat.le_refl _, fun a _ _ g => va_up_n g⟩
theorem kx_out (a : kx x h n h' n') (b : ke h2 n2 h n) (hx : n2 ≤ x) : ke h2 n2 h' n' := ⟨Nat.le_trans b.1 a.1, fun i hi d => (a.2 i (Nat.lt_of_lt_of_le hi b.1) d (by omega)).trans (b.2 i hi d)⟩
theorem sS_kx {fs : List Value} (H : sS (gd w) h n r l) (hx : h x = .inr (13, fs)) (e : kx x h n h' n') : sS (gd w) h' n' r l := by
  obtain ⟨b, y, z, h1, ⟨f, h2, h6, h7⟩, h3, h4, h5, h8, h9⟩ := H
  have e1 : r ≠ x := by
    intro g
    rw [g, hx] at h1
    cases h1
  have e2 : b ≠ x := by
    intro g
    rw [g, hx] at h2
    cases h2
  exact ⟨b, y, z, (e.2 r h5 h3.1 e1).trans h1, ⟨f, (e.2 b h8 h4.1 e2).trans h2, h6, h7⟩, h3, h4, Nat.lt_of_lt_of_le h5 e.1, Nat.lt_of_lt_of_le h8 e.1, h9⟩
theorem kb_kx {j : Nat} {fs : List Value} (H : kb w h j l k) (hn : w.1 j < n) (d : dy (w.1 j)) (hx : h x = .inr (13, fs)) (e : kx x h n h' n') : kb w h' j l k := by
  obtain ⟨⟨f, h2, h3⟩, H⟩ := H
  have e2 : w.1 j ≠ x := by
    intro g
    rw [g, hx] at h2
    cases h2
  exact ⟨⟨f, (e.2 _ hn d e2).trans h2, h3⟩, H⟩
theorem KW_kx {fs : List Value} (H : KW w h n t kc) (hx : h x = .inr (13, fs)) (e : kx x h n h' n') : KW w h' n' t kc := by
  obtain ⟨W, a, b, c⟩ := H
  exact ⟨kw_n W e.1, kb_kx a W.2.1.2.2.1 W.2.1.1 hx e, kb_kx b W.2.2.1.2.2.1 W.2.2.1.1 hx e, kb_kx c W.2.2.2.1.2.2.1 W.2.2.2.1.1 hx e⟩
theorem cst_kx {fs : List Value} (C : cst w h n) (hn : 44 ≤ n) (hx : h x = .inr (13, fs)) (hx4 : 44 ≤ x) (e : kx x h n h' n') : cst w h' n' := by
  refine ⟨fun q hq => sS_kx (C.1 q hq) hx e, ?_⟩
  obtain ⟨⟨f1, d1, d2⟩, f2, d3, d4⟩ := C.2
  exact ⟨⟨f1, (e.2 41 (by omega) (Or.inl (by omega)) (by omega)).trans d1, d2⟩, f2, (e.2 42 (by omega) (Or.inl (by omega)) (by omega)).trans d3, d4⟩
theorem ctO_ke (H : ctO w h n x N V q) (e : ke h n h' n') : ctO w h' n' x N V q := by
  obtain ⟨na, va, dn, pa, a1, a2, a3, a4, s1, s2, s3, s4, b⟩ := H
  exact ⟨na, va, dn, pa, (e.2 x a4 a2.1).trans a1, a2, a3, Nat.lt_of_lt_of_le a4 e.1, sS_ke s1 e, sS_ke s2 e, sS_ke s3 e, sS_ke s4 e, b⟩
/-- readAge -/
theorem k199_loop (hfm : fm = .null ∨ ∃ j, fm = .ref j) {f0 f1 f2 f3 f4 f5 f6 : Value} (hx : h x = .inr (13, [f0, f1, f2, f3, f4, f5, f6])) (hx1 : 108 ≤ x) (hx2 : x < n) (H : sS (gd w) h n r V) {mi : Bool} {i3 i4 : Int} : ∀ (m i : Nat) (z : Int), i + m = V.length → m ≤ 7 → 0 ≤ z → z ≤ bnd m → xe fm 199 (46, [(6, xi (i : Int)), (5, xi z), (2, xi (xb mi)), (0, .ref x), (1, .ref r), (3, xi i3), (4, xi i4)], [], (ko w s p ar v h, n, 0, 0)) (fun q M => q = .inl none ∧ M.2.1 = n ∧ M.2.2.2 = 0 ∧ ((V.drop i).all xd_dig = false → M.1 = ko w s p ar v h) ∧ ((V.drop i).all xd_dig = true → M.1 = ko w s p ar v (va_up h x (.inr (13, [f0, f1, f2, f3, xi (if mi = true then 0 else (V.drop i).foldl (fun a c => 10 * a + c - 48) z), f5, f6]))))) := by
  obtain ⟨fs, F1, q1, ha, hl⟩ := sS_at H
  have X1 := (ko_d (w := w) (s := s) (p := p) (ar := ar) (v := v) (Or.inr (Or.inr (Or.inr (Or.inr (show 64 ≤ x by omega)))))).trans hx
  have y1 := xb_or mi
  intro m
  induction m with
  | zero =>
    intro i z hi hm h0 hz
    have hz' := bnd_le 0
    rw [List.drop_eq_nil_of_le (show V.length ≤ i by omega)]
    refine xe_s (f := (48, _, _, _)) xt_g199 rfl rfl rfl rfl rfl ?_
    refine xe_s (f := (49, _, _, _)) xt_g199 rfl rfl rfl rfl rfl ?_
    refine xe_cR xt_g199 rfl rfl rfl (q := 52) rfl (kc_V xk_4_30 rfl (F1 _ _ _ _ _) (by omega) rfl rfl) xt_g31 (by decide) ⟨Nat.le_of_ble_eq_true rfl, Nat.le_of_ble_eq_true rfl, Nat.le_of_ble_eq_true rfl⟩ (s31 (sS_ko H)) ?_
    refine xe_ic_ge xt_g199 rfl (t := 91) rfl (q := 55) rfl (by first | omega | exact xb_r _) (by first | omega | exact xb_r _) (fun b52 => ?_) (fun b52 => ?_)
    · try simp only [xb_0, xb_1, ne_eq, Decidable.not_not, Bool.not_eq_false, Bool.not_eq_true, decide_eq_true_eq, decide_eq_false_iff_not] at b52
      refine xe_s (f := (92, _, _, _)) xt_g199 rfl rfl rfl rfl rfl ?_
      refine xe_s (f := (93, _, _, _)) xt_g199 rfl rfl rfl rfl rfl ?_
      refine xe_if_eq xt_g199 rfl (t := 100) rfl (q := 96) rfl (by first | omega | exact xb_r _) (fun b93 => ?_) (fun b93 => ?_)
      · try simp only [xb_0, xb_1, ne_eq, Decidable.not_not, Bool.not_eq_false, Bool.not_eq_true, decide_eq_true_eq, decide_eq_false_iff_not] at b93
        rw [b93]
        refine xe_s (f := (102, _, _, _)) xt_g199 rfl rfl rfl rfl rfl ?_
        refine xe_pf xt_g199 rfl (q := 105) rfl (xf_4_20 fm) (X1) (by omega) (by omega) rfl (Nat.le_of_ble_eq_true rfl) (Nat.le_of_ble_eq_true rfl) xi_int (Or.inl rfl) ?_
        refine xe_ret xt_g199 rfl rfl ?_
        try dsimp only
        rw [ko_new (by omega)]
        exact ⟨rfl, rfl, rfl, fun g => (by cases g), fun _ => rfl⟩
      · try simp only [xb_0, xb_1, ne_eq, Decidable.not_not, Bool.not_eq_false, Bool.not_eq_true, decide_eq_true_eq, decide_eq_false_iff_not] at b93
        rw [b93]
        refine xe_s (f := (97, _, xi 0 :: _, _)) xt_g199 rfl rfl rfl rfl rfl ?_
        refine xe_s (f := (102, _, _, _)) xt_g199 rfl rfl rfl rfl rfl ?_
        refine xe_pf xt_g199 rfl (q := 105) rfl (xf_4_20 fm) (X1) (by omega) (by omega) rfl (Nat.le_of_ble_eq_true rfl) (Nat.le_of_ble_eq_true rfl) xi_int (Or.inl rfl) ?_
        refine xe_ret xt_g199 rfl rfl ?_
        try dsimp only
        rw [ko_new (by omega)]
        exact ⟨rfl, rfl, rfl, fun g => (by cases g), fun _ => rfl⟩
    · exact absurd b52 (by omega)
  | succ m ih =>
    intro i z hi hm h0 hz
    have hz' := bnd_le (m + 1)
    have ed : V.drop i = V.getD i 0 :: V.drop (i + 1) := drop_gd (by omega)
    have a1 := ha i
    rw [ed, List.all_cons, List.foldl_cons]
    refine xe_s (f := (48, _, _, _)) xt_g199 rfl rfl rfl rfl rfl ?_
    refine xe_s (f := (49, _, _, _)) xt_g199 rfl rfl rfl rfl rfl ?_
    refine xe_cR xt_g199 rfl rfl rfl (q := 52) rfl (kc_V xk_4_30 rfl (F1 _ _ _ _ _) (by omega) rfl rfl) xt_g31 (by decide) ⟨Nat.le_of_ble_eq_true rfl, Nat.le_of_ble_eq_true rfl, Nat.le_of_ble_eq_true rfl⟩ (s31 (sS_ko H)) ?_
    refine xe_ic_ge xt_g199 rfl (t := 91) rfl (q := 55) rfl (by first | omega | exact xb_r _) (by first | omega | exact xb_r _) (fun b52 => ?_) (fun b52 => ?_)
    · exact absurd b52 (by omega)
    · try simp only [xb_0, xb_1, ne_eq, Decidable.not_not, Bool.not_eq_false, Bool.not_eq_true, decide_eq_true_eq, decide_eq_false_iff_not] at b52
      refine xe_s (f := (56, _, _, _)) xt_g199 rfl rfl rfl rfl rfl ?_
      refine xe_s (f := (58, _, _, _)) xt_g199 rfl rfl rfl rfl rfl ?_
      refine xe_cR xt_g199 rfl rfl rfl (q := 61) rfl (kc_V xk_4_51 rfl (F1 _ _ _ _ _) (by omega) rfl rfl) xt_g85 (by decide) ⟨Nat.le_of_ble_eq_true rfl, Nat.le_of_ble_eq_true rfl, Nat.le_of_ble_eq_true rfl⟩ (s85 hfm (sS_ko H) (by omega) (by omega)) ?_
      rw [Int.toNat_natCast]
      refine xe_cR xt_g199 rfl rfl rfl (q := 64) rfl (kc_S xk_4_102 (Nat.le_of_ble_eq_true rfl)) xt_g89 (by decide) ⟨Nat.le_of_ble_eq_true rfl, Nat.le_of_ble_eq_true rfl, Nat.le_of_ble_eq_true rfl⟩ (s89 (by omega)) ?_
      refine xe_if_ne xt_g199 rfl (t := 68) rfl (q := 67) rfl (by first | omega | exact xb_r _) (fun b64 => ?_) (fun b64 => ?_)
      · try simp only [xb_0, xb_1, ne_eq, Decidable.not_not, Bool.not_eq_false, Bool.not_eq_true, decide_eq_true_eq, decide_eq_false_iff_not] at b64
        rw [b64, Bool.true_and]
        have dgr : 48 ≤ V.getD i 0 ∧ V.getD i 0 ≤ 57 := of_decide_eq_true b64
        refine xe_s (f := (70, _, _, _)) xt_g199 rfl rfl rfl rfl rfl ?_
        refine xe_bipush xt_g199 rfl (q := 72) rfl (by decide) (by decide) ?_
        refine xe_imul xt_g199 rfl (q := 73) rfl ?_
        refine xe_s (f := (74, _, _, _)) xt_g199 rfl rfl rfl rfl rfl ?_
        refine xe_s (f := (76, _, _, _)) xt_g199 rfl rfl rfl rfl rfl ?_
        refine xe_cR xt_g199 rfl rfl rfl (q := 79) rfl (kc_V xk_4_51 rfl (F1 _ _ _ _ _) (by omega) rfl rfl) xt_g85 (by decide) ⟨Nat.le_of_ble_eq_true rfl, Nat.le_of_ble_eq_true rfl, Nat.le_of_ble_eq_true rfl⟩ (s85 hfm (sS_ko H) (by omega) (by omega)) ?_
        rw [Int.toNat_natCast]
        refine xe_bipush xt_g199 rfl (q := 81) rfl (by decide) (by decide) ?_
        refine xe_isub xt_g199 rfl (q := 82) rfl ?_
        refine xe_iadd xt_g199 rfl (q := 83) rfl ?_
        refine xe_s (f := (85, [(5, _), (6, _), (2, _), (0, _), (1, _), (3, _), (4, _)], _, _)) xt_g199 rfl rfl rfl rfl rfl ?_
        refine xe_iinc xt_g199 rfl (q := 88) rfl rfl (by decide) (L1 := [(6, _), (5, _), (2, _), (0, _), (1, _), (3, _), (4, _)]) rfl ?_
        refine xe_s (f := (46, _, _, _)) xt_g199 rfl rfl rfl rfl rfl ?_
        have nb := bnd_s (m := m) (z := z) (d := V.getD i 0 - 48) (by omega) hz (by omega)
        have g := ih (i + 1) (z * 10 + (V.getD i 0 - 48)) (by omega) (by omega) (by omega) nb
        rw [show ((i + 1 : Nat) : Int) = (i : Int) + 1 by omega] at g
        rw [show 10 * z + V.getD i 0 - 48 = z * 10 + (V.getD i 0 - 48) by omega]
        exact xe_loc (by intro q hq; simp only [List.mem_cons, List.not_mem_nil, or_false] at hq; rcases hq with rfl | rfl | rfl | rfl | rfl | rfl | rfl <;> rfl) (g)
      · try simp only [xb_0, xb_1, ne_eq, Decidable.not_not, Bool.not_eq_false, Bool.not_eq_true, decide_eq_true_eq, decide_eq_false_iff_not] at b64
        rw [b64, Bool.false_and]
        refine xe_ret xt_g199 rfl rfl ?_
        try dsimp only
        exact ⟨rfl, rfl, rfl, fun _ => rfl, fun g => by cases g⟩
theorem k199 (hfm : fm = .null ∨ ∃ j, fm = .ref j) (C : cst w h n) (HT : ctO w h n x N V q) (H : sS (gd w) h n r D) : xN fm 199 (ko w s p ar v h) n [.ref x, .ref r] (fun h' n' u' => n' = n ∧ u' = 0 ∧ ∃ h1, h' = ko w s p ar v h1 ∧ kx x h n h1 n ∧ ctO w h1 n x N V (at_5 at_wA D q)) := by
  obtain ⟨fs, F1, q1, ha, hl⟩ := sS_at H
  have HT' := HT
  obtain ⟨na, va, dn, pa, a1, a2, a3, a4, s1, s2, s3, s4, b1, b2, b3⟩ := HT
  have e5 : at_5 at_wA D q = (match at_age D with | none => q | some z => (q.1, q.2.1, some z, q.2.2.2)) := if_pos rfl
  have no : at_age D = none → ∃ h1, ko w s p ar v h = ko w s p ar v h1 ∧ kx x h n h1 n ∧ ctO w h1 n x N V (at_5 at_wA D q) := by
    intro e
    rw [e5, e]
    exact ⟨h, rfl, kx_ke ke_refl, HT'⟩
  have yes : ∀ z, at_age D = some z → 0 ≤ z ∧ z ≤ 9999999 → ∃ h1, ko w s p ar v (va_up h x (.inr (13, [.ref na, .ref va, .ref dn, .ref pa, xi z, xi (xb q.2.2.2.1), xi (xb q.2.2.2.2)]))) = ko w s p ar v h1 ∧ kx x h n h1 n ∧ ctO w h1 n x N V (at_5 at_wA D q) := by
    intro z e hz
    rw [e5, e]
    exact ⟨_, rfl, kx_up, na, va, dn, pa, va_up_s, a2, a3, a4, sS_up s1 a1 (by decide), sS_up s2 a1 (by decide), sS_up s3 a1 (by decide), sS_up s4 a1 (by decide), b1, b2, fun y e => by cases e; exact hz⟩
  have a0 := stA_0 (V := D) (c := 45) (by decide)
  have bnum : ∀ (B : List Int), B.length ≤ 7 → B.all xd_dig = true → 0 ≤ at_num B ∧ at_num B ≤ 9999999 := by
    intro B hB hd
    suffices ∀ (B : List Int) (z : Int), B.length ≤ 7 → B.all xd_dig = true → 0 ≤ z → z ≤ bnd B.length → 0 ≤ B.foldl (fun a c => 10 * a + c - 48) z ∧ B.foldl (fun a c => 10 * a + c - 48) z ≤ 9999999 from this B 0 hB hd (by omega) (by
      match B.length, hB with
      | 0, _ | 1, _ | 2, _ | 3, _ | 4, _ | 5, _ | 6, _ | 7, _ => decide)
    intro B
    induction B with
    | nil => intro z _ _ h0 h1; exact ⟨h0, h1⟩
    | cons c B ih =>
      intro z hl hd h0 h1
      rw [List.length_cons] at hl h1
      rw [List.all_cons, Bool.and_eq_true] at hd
      have cr : 48 ≤ c ∧ c ≤ 57 := of_decide_eq_true hd.1
      have := bnd_s (m := B.length) (z := z) (d := c - 48) (by omega) h1 (by omega)
      rw [List.foldl_cons]
      exact ih _ (by omega) hd.2 (by omega) (by omega)
  have fin : ∀ (mi : Bool) (i4 : Int), mi = decide (D.getD 0 0 = 45) → i4 = (D.length : Int) - xb mi → xe fm 199 (26, [(4, xi i4), (3, xi (xb mi)), (2, xi (xb mi)), (0, .ref x), (1, .ref r)], [], (ko w s p ar v h, n, 0, 0)) (fun q' M => q' = .inl none ∧ M.2.1 = n ∧ M.2.2.2 = 0 ∧ ∃ h1, M.1 = ko w s p ar v h1 ∧ kx x h n h1 n ∧ ctO w h1 n x N V (at_5 at_wA D q)) := by
    intro mi i4 em e4
    have y1 := xb_or mi
    obtain ⟨B, eB, eA⟩ : ∃ B, B = D.drop (xb mi).toNat ∧ at_age D = at_ag2 B mi := by
      unfold at_age
      by_cases g : D.getD 0 0 = 45
      · rw [em, decide_eq_true g, if_pos g]
        exact ⟨_, rfl, rfl⟩
      · rw [em, decide_eq_false g, if_neg g]
        exact ⟨_, rfl, rfl⟩
    have lB : B.length = D.length - (xb mi).toNat := by rw [eB, List.length_drop]
    have le : (xb mi).toNat ≤ D.length := by
      cases mi with
      | false => exact Nat.zero_le _
      | true =>
        have := of_decide_eq_true em.symm
        cases D with
        | nil => exact absurd this (by decide)
        | cons _ _ => exact Nat.succ_le_succ (Nat.zero_le _)
    refine xe_s (f := (28, _, _, _)) xt_g199 rfl rfl rfl rfl rfl ?_
    refine xe_s (f := (29, _, xi 1 :: _, _)) xt_g199 rfl rfl rfl rfl rfl ?_
    refine xe_ic_lt xt_g199 rfl (t := 39) rfl (q := 32) rfl (by first | omega | exact xb_r _) (by first | omega | exact xb_r _) (fun b29 => ?_) (fun b29 => ?_)
    · try simp only [xb_0, xb_1, ne_eq, Decidable.not_not, Bool.not_eq_false, Bool.not_eq_true, decide_eq_true_eq, decide_eq_false_iff_not] at b29
      refine xe_ret xt_g199 rfl rfl ?_
      try dsimp only
      exact ⟨rfl, rfl, rfl, no (by rw [eA]; exact if_neg (fun g => by omega))⟩
    · try simp only [xb_0, xb_1, ne_eq, Decidable.not_not, Bool.not_eq_false, Bool.not_eq_true, decide_eq_true_eq, decide_eq_false_iff_not] at b29
      refine xe_s (f := (34, _, _, _)) xt_g199 rfl rfl rfl rfl rfl ?_
      refine xe_bipush xt_g199 rfl (q := 36) rfl (by decide) (by decide) ?_
      refine xe_ic_le xt_g199 rfl (t := 40) rfl (q := 39) rfl (by first | omega | exact xb_r _) (by first | omega | exact xb_r _) (fun b36 => ?_) (fun b36 => ?_)
      · try simp only [xb_0, xb_1, ne_eq, Decidable.not_not, Bool.not_eq_false, Bool.not_eq_true, decide_eq_true_eq, decide_eq_false_iff_not] at b36
        refine xe_s (f := (41, _, xi 0 :: _, _)) xt_g199 rfl rfl rfl rfl rfl ?_
        refine xe_s (f := (43, [(5, _), (4, _), (3, _), (2, _), (0, _), (1, _)], _, _)) xt_g199 rfl rfl rfl rfl rfl ?_
        refine xe_s (f := (44, _, _, _)) xt_g199 rfl rfl rfl rfl rfl ?_
        refine xe_s (f := (46, [(6, _), (5, _), (4, _), (3, _), (2, _), (0, _), (1, _)], _, _)) xt_g199 rfl rfl rfl rfl rfl ?_
        have g := k199_loop (fm := fm) (w := w) (s := s) (p := p) (ar := ar) (v := v) (mi := mi) (i3 := xb mi) (i4 := i4) hfm a1 a3 a4 H B.length (xb mi).toNat 0 (by omega) (by omega) (by omega) (by
          match B.length, (show B.length ≤ 7 by omega) with
          | 0, _ | 1, _ | 2, _ | 3, _ | 4, _ | 5, _ | 6, _ | 7, _ => decide)
        rw [show (((xb mi).toNat : Nat) : Int) = xb mi by omega, ← eB] at g
        refine xe_mono (xe_loc (by intro q hq; simp only [List.mem_cons, List.not_mem_nil, or_false] at hq; rcases hq with rfl | rfl | rfl | rfl | rfl | rfl | rfl <;> rfl) (g)) (fun r M hM => ?_)
        obtain ⟨g1, g2, g3, g4, g5⟩ := hM
        refine ⟨g1, g2, g3, ?_⟩
        cases eb : B.all xd_dig with
        | false => rw [g4 eb]; exact no (by rw [eA]; exact if_neg (fun g => by rw [eb] at g; exact absurd g.2.2 (by decide)))
        | true =>
          rw [g5 eb]
          have c1 : 1 ≤ B.length ∧ B.length ≤ 7 ∧ B.all xd_dig = true := ⟨by omega, by omega, eb⟩
          have c2 := bnum B (by omega) eb
          exact yes _ (by rw [eA]; exact if_pos c1) (by split <;> first | omega | exact c2)
      · try simp only [xb_0, xb_1, ne_eq, Decidable.not_not, Bool.not_eq_false, Bool.not_eq_true, decide_eq_true_eq, decide_eq_false_iff_not] at b36
        refine xe_ret xt_g199 rfl rfl ?_
        try dsimp only
        exact ⟨rfl, rfl, rfl, no (by rw [eA]; exact if_neg (fun g => by omega))⟩
  unfold xN
  refine xe_s (f := (1, _, _, _)) xt_g199 rfl rfl rfl rfl rfl ?_
  refine xe_s (f := (2, _, xi 0 :: _, _)) xt_g199 rfl rfl rfl rfl rfl ?_
  refine xe_s (f := (4, _, .ref 33 :: _, _)) xt_g199 rfl rfl rfl rfl rfl ?_
  refine xe_cR xt_g199 rfl rfl rfl (q := 7) rfl (kc_S xk_4_75 (Nat.le_of_ble_eq_true rfl)) xt_g140 (by decide) ⟨Nat.le_of_ble_eq_true rfl, Nat.le_of_ble_eq_true rfl, Nat.le_of_ble_eq_true rfl⟩ (s140 hfm (sS_ko H) (sS_ko (C.1 (33, [45]) (by decide))) (by omega)) ?_
  rw [a0]
  refine xe_s (f := (8, [(2, _), (0, _), (1, _)], _, _)) xt_g199 rfl rfl rfl rfl rfl ?_
  refine xe_s (f := (9, _, _, _)) xt_g199 rfl rfl rfl rfl rfl ?_
  refine xe_if_eq xt_g199 rfl (t := 16) rfl (q := 12) rfl (by first | omega | exact xb_r _) (fun b9 => ?_) (fun b9 => ?_)
  · try simp only [xb_0, xb_1, ne_eq, Decidable.not_not, Bool.not_eq_false, Bool.not_eq_true, decide_eq_true_eq, decide_eq_false_iff_not] at b9
    have em : decide (D.getD 0 0 = 45) = false := decide_eq_false b9
    rw [em]
    refine xe_s (f := (17, _, xi 0 :: _, _)) xt_g199 rfl rfl rfl rfl rfl ?_
    refine xe_s (f := (18, [(3, _), (2, _), (0, _), (1, _)], _, _)) xt_g199 rfl rfl rfl rfl rfl ?_
    refine xe_s (f := (19, _, _, _)) xt_g199 rfl rfl rfl rfl rfl ?_
    refine xe_cR xt_g199 rfl rfl rfl (q := 22) rfl (kc_V xk_4_30 rfl (F1 _ _ _ _ _) (by omega) rfl rfl) xt_g31 (by decide) ⟨Nat.le_of_ble_eq_true rfl, Nat.le_of_ble_eq_true rfl, Nat.le_of_ble_eq_true rfl⟩ (s31 (sS_ko H)) ?_
    refine xe_s (f := (23, _, _, _)) xt_g199 rfl rfl rfl rfl rfl ?_
    refine xe_isub xt_g199 rfl (q := 24) rfl ?_
    refine xe_s (f := (26, [(4, _), (3, _), (2, _), (0, _), (1, _)], _, _)) xt_g199 rfl rfl rfl rfl rfl ?_
    exact xe_loc (by intro q hq; simp only [List.mem_cons, List.not_mem_nil, or_false] at hq; rcases hq with rfl | rfl | rfl | rfl | rfl <;> rfl) ((fin false ((D.length : Int) - 0) em.symm rfl))
  · try simp only [xb_0, xb_1, ne_eq, Decidable.not_not, Bool.not_eq_false, Bool.not_eq_true, decide_eq_true_eq, decide_eq_false_iff_not] at b9
    have em : decide (D.getD 0 0 = 45) = true := decide_eq_true b9
    rw [em]
    refine xe_s (f := (13, _, xi 1 :: _, _)) xt_g199 rfl rfl rfl rfl rfl ?_
    refine xe_s (f := (17, _, _, _)) xt_g199 rfl rfl rfl rfl rfl ?_
    refine xe_s (f := (18, [(3, _), (2, _), (0, _), (1, _)], _, _)) xt_g199 rfl rfl rfl rfl rfl ?_
    refine xe_s (f := (19, _, _, _)) xt_g199 rfl rfl rfl rfl rfl ?_
    refine xe_cR xt_g199 rfl rfl rfl (q := 22) rfl (kc_V xk_4_30 rfl (F1 _ _ _ _ _) (by omega) rfl rfl) xt_g31 (by decide) ⟨Nat.le_of_ble_eq_true rfl, Nat.le_of_ble_eq_true rfl, Nat.le_of_ble_eq_true rfl⟩ (s31 (sS_ko H)) ?_
    refine xe_s (f := (23, _, _, _)) xt_g199 rfl rfl rfl rfl rfl ?_
    refine xe_isub xt_g199 rfl (q := 24) rfl ?_
    refine xe_s (f := (26, [(4, _), (3, _), (2, _), (0, _), (1, _)], _, _)) xt_g199 rfl rfl rfl rfl rfl ?_
    exact xe_loc (by intro q hq; simp only [List.mem_cons, List.not_mem_nil, or_false] at hq; rcases hq with rfl | rfl | rfl | rfl | rfl <;> rfl) ((fin true ((D.length : Int) - 1) em.symm rfl))
/-- readDomain -/
theorem k197 (hfm : fm = .null ∨ ∃ j, fm = .ref j) (K : KW w h n t kc) (C : cst w h n) (HT : ctO w h n x N V q) (H : sS (gd w) h n r D) : xN fm 197 (ko w s p ar v h) n [.ref x, .ref r] (fun h' n' u' => ∃ h1, h' = ko w s p ar v h1 ∧ kx x h n h1 n' ∧ ctO w h1 n' x N V (at_4 at_wD D q) ∧ n' ≤ n + 5 ∧ u' ≤ 8 + 3 * D.length) := by
  have W0 := K.1.1
  obtain ⟨fs, F1, q1, ha, hl⟩ := sS_at H
  have a0 := stA_0 (V := D) (c := 46) (by decide)
  have e4 : at_4 at_wD D q = (if (if D.getD 0 0 = 46 then D.drop 1 else D) = [] then q else (some ((if D.getD 0 0 = 46 then D.drop 1 else D).map xd_sml), q.2)) := if_pos rfl
  have fin : ∀ (B : List Int) (rb n1 u1 c1 : Nat) (h1 : xm_H), (if D.getD 0 0 = 46 then D.drop 1 else D) = B → ke h n h1 n1 → sS (gd w) h1 n1 rb B → n1 ≤ n + 2 → u1 ≤ 4 + D.length → B.length ≤ D.length → xe fm 197 (20, [(2, .ref rb), (0, .ref x), (1, .ref r)], [], (ko w s p ar v h1, n1, c1, u1)) (fun q' M => q' = .inl none ∧ ∃ h1, M.1 = ko w s p ar v h1 ∧ kx x h n h1 M.2.1 ∧ ctO w h1 M.2.1 x N V (at_4 at_wD D q) ∧ M.2.1 ≤ n + 5 ∧ M.2.2.2 ≤ 8 + 3 * D.length) := by
    intro B rb n1 u1 c1 h1 eB ke1 SB hn1 hu1 lB
    have N1 := ke1.1
    have K1 := KW_ke K ke1
    have HT1 := ctO_ke HT ke1
    obtain ⟨fs, F2, q2, _, _⟩ := sS_at SB
    refine xe_s (f := (21, _, _, _)) xt_g197 rfl rfl rfl rfl rfl ?_
    refine xe_cR xt_g197 rfl rfl rfl (q := 24) rfl (kc_V xk_4_44 rfl (F2 _ _ _ _ _) (by omega) rfl rfl) xt_g194 (by decide) ⟨Nat.le_of_ble_eq_true rfl, Nat.le_of_ble_eq_true rfl, Nat.le_of_ble_eq_true rfl⟩ (s194 (sS_ko SB)) ?_
    refine xe_if_ne xt_g197 rfl (t := 35) rfl (q := 27) rfl (by first | omega | exact xb_r _) (fun b24 => ?_) (fun b24 => ?_)
    · try simp only [xb_0, xb_1, ne_eq, Decidable.not_not, Bool.not_eq_false, Bool.not_eq_true, decide_eq_true_eq, decide_eq_false_iff_not] at b24
      refine xe_ret xt_g197 rfl rfl ?_
      try dsimp only
      refine ⟨rfl, h1, rfl, kx_ke ke1, ?_, by omega, by omega⟩
      rw [e4, eB, if_pos (List.isEmpty_iff.mp b24)]
      exact HT1
    · try simp only [xb_0, xb_1, ne_eq, Decidable.not_not, Bool.not_eq_false, Bool.not_eq_true, decide_eq_true_eq, decide_eq_false_iff_not] at b24
      refine xe_s (f := (28, _, _, _)) xt_g197 rfl rfl rfl rfl rfl ?_
      refine xe_s (f := (29, _, _, _)) xt_g197 rfl rfl rfl rfl rfl ?_
      refine xe_cA xt_g197 rfl rfl rfl (q := 32) rfl (kc_S xk_4_59 (Nat.le_of_ble_eq_true rfl)) xt_g72 (by decide) ⟨Nat.le_of_ble_eq_true rfl, Nat.le_of_ble_eq_true rfl, Nat.le_of_ble_eq_true rfl⟩ (k72 K1 (cst_kp C K.1 (ke_kp ke1)) SB) (fun x2 h2' n2 c2 u2 hp => ?_)
      obtain ⟨h3, rfl, ke2, S3, n2', u2'⟩ := hp
      have N2 := ke2.1
      have HT2 := ctO_ke HT1 ke2
      obtain ⟨na, va, dn, pa, a1, a2, a3, a4, s1, s2, s3, s4, b1, b2, b3⟩ := HT2
      have X2 := (ko_d (w := w) (s := s) (p := p) (ar := ar) (v := v) a2.1).trans a1
      refine xe_pf xt_g197 rfl (q := 35) rfl (xf_4_11 fm) (X2) (by omega) (by omega) rfl (Nat.le_of_ble_eq_true rfl) (Nat.le_of_ble_eq_true rfl) ⟨rfl, rfl⟩ (Or.inl rfl) ?_
      refine xe_ret xt_g197 rfl rfl ?_
      try dsimp only
      rw [ko_new (by omega)]
      have ne : B ≠ [] := fun g => by rw [g] at b24; exact absurd b24 (by decide)
      refine ⟨rfl, _, rfl, kx_trans (kx_ke (ke_trans ke1 ke2)) kx_up, ?_, by omega, by omega⟩
      rw [e4, eB, if_neg ne]
      exact ⟨na, va, x2, pa, va_up_s, a2, a3, a4, sS_up s1 a1 (by decide), sS_up s2 a1 (by decide), sS_up S3 a1 (by decide), sS_up s4 a1 (by decide), fun g => by injection g with g; exact ne (List.map_eq_nil_iff.mp g), b2, b3⟩
  unfold xN
  refine xe_s (f := (1, _, _, _)) xt_g197 rfl rfl rfl rfl rfl ?_
  refine xe_s (f := (2, _, xi 0 :: _, _)) xt_g197 rfl rfl rfl rfl rfl ?_
  refine xe_s (f := (4, _, .ref 17 :: _, _)) xt_g197 rfl rfl rfl rfl rfl ?_
  refine xe_cR xt_g197 rfl rfl rfl (q := 7) rfl (kc_S xk_4_75 (Nat.le_of_ble_eq_true rfl)) xt_g140 (by decide) ⟨Nat.le_of_ble_eq_true rfl, Nat.le_of_ble_eq_true rfl, Nat.le_of_ble_eq_true rfl⟩ (s140 hfm (sS_ko H) (sS_ko (C.1 (17, [46]) (by decide))) (by omega)) ?_
  rw [a0]
  refine xe_if_eq xt_g197 rfl (t := 18) rfl (q := 10) rfl (by first | omega | exact xb_r _) (fun b7 => ?_) (fun b7 => ?_)
  · try simp only [xb_0, xb_1, ne_eq, Decidable.not_not, Bool.not_eq_false, Bool.not_eq_true, decide_eq_true_eq, decide_eq_false_iff_not] at b7
    refine xe_s (f := (19, _, _, _)) xt_g197 rfl rfl rfl rfl rfl ?_
    refine xe_s (f := (20, [(2, _), (0, _), (1, _)], _, _)) xt_g197 rfl rfl rfl rfl rfl ?_
    exact xe_loc (by intro q hq; simp only [List.mem_cons, List.not_mem_nil, or_false] at hq; rcases hq with rfl | rfl | rfl <;> rfl) ((fin D r n 0 0 h (if_neg b7) ke_refl H (by omega) (by omega) (Nat.le_refl _)))
  · try simp only [xb_0, xb_1, ne_eq, Decidable.not_not, Bool.not_eq_false, Bool.not_eq_true, decide_eq_true_eq, decide_eq_false_iff_not] at b7
    have l1 : 1 ≤ D.length := by
      cases D with
      | nil => exact absurd b7 (by decide)
      | cons _ _ => exact Nat.succ_le_succ (Nat.zero_le _)
    refine xe_s (f := (11, _, _, _)) xt_g197 rfl rfl rfl rfl rfl ?_
    refine xe_s (f := (12, _, xi 1 :: _, _)) xt_g197 rfl rfl rfl rfl rfl ?_
    refine xe_cA xt_g197 rfl rfl rfl (q := 15) rfl (kc_V xk_4_96 rfl (F1 _ _ _ _ _) (by omega) rfl rfl) xt_g198 (by decide) ⟨Nat.le_of_ble_eq_true rfl, Nat.le_of_ble_eq_true rfl, Nat.le_of_ble_eq_true rfl⟩ (k198 (i := 1) hfm K C H (by omega) (by omega)) (fun x1 h1' n1 c1 u1 hp => ?_)
    obtain ⟨h2, rfl, ke1, S1, n1', u1'⟩ := hp
    rw [sl_end (by omega) (by omega)] at S1
    refine xe_s (f := (19, _, _, _)) xt_g197 rfl rfl rfl rfl rfl ?_
    refine xe_s (f := (20, [(2, _), (0, _), (1, _)], _, _)) xt_g197 rfl rfl rfl rfl rfl ?_
    exact xe_loc (by intro q hq; simp only [List.mem_cons, List.not_mem_nil, or_false] at hq; rcases hq with rfl | rfl | rfl <;> rfl) ((fin (D.drop 1) x1 n1 _ _ h2 (if_pos b7) ke1 S1 n1' (by omega) (by rw [List.length_drop]; omega)))
end XBE
