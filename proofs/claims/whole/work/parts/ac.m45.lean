/-! the reference: depthOf, may, child, navigate, fetch -/
/-- the frames are trees, with dp their depths -/
def mi_tr (fr : Nat → Option mf_T) (dp : Nat → Nat) : Prop := ∀ f, f < 16 → ∀ x, fr f = some x → 1 ≤ dp f ∧ dp f ≤ 5 ∧ (x.2.1 < 0 → dp f = 1) ∧ (0 ≤ x.2.1 → x.2.1 < 16 ∧ dp f = dp x.2.1.toNat + 1 ∧ ∃ y, fr x.2.1.toNat = some y ∧ y.1 = x.1)
def mu_dep (fr : Nat → Option mf_T) : Nat → Int → Int
  | 0, _ => 0
  | F + 1, p => if p < 0 then 0 else match fr p.toNat with
    | none => 0
    | some x => 1 + mu_dep fr F x.2.1
theorem mu_dep_eq {fr : Nat → Option mf_T} {dp : Nat → Nat} (h : mi_tr fr dp) : ∀ (F f : Nat) (x : mf_T), f < 16 → fr f = some x → dp f ≤ F → mu_dep fr F f = dp f
  | 0, f, x, hf, hx, hF => by
    have := h f hf x hx
    omega
  | F + 1, f, x, hf, hx, hF => by
    obtain ⟨a1, a2, a3, a4⟩ := h f hf x hx
    unfold mu_dep
    rw [if_neg (by omega), Int.toNat_natCast, hx]
    dsimp only
    by_cases hp : x.2.1 < 0
    · rw [a3 hp]
      cases F with
      | zero => rfl
      | succ F =>
        unfold mu_dep
        rw [if_pos hp]
        rfl
    · obtain ⟨b1, b2, y, b3, _⟩ := a4 (by omega)
      have ih := mu_dep_eq h F x.2.1.toNat y (by omega) b3 (by omega)
      rw [show ((x.2.1.toNat : Nat) : Int) = x.2.1 by omega] at ih
      rw [ih, b2]
      omega
def mu_ad (u : mu_T) (f : Int) : Option pa_A := match mu_fr u f.toNat with
  | none => none
  | some x => x.2.2
def mu_if (u : mu_T) (f : Int) : Bool := decide (0 ≤ f ∧ f < 16) && (mu_fr u f.toNat).isSome
def ad_is (o : Option pa_A) (hd : List Int) : Bool := match o with
  | none => false
  | some b => decide (pa_hd b = hd)
def mu_an (fr : Nat → Option mf_T) (hd : List Int) : Nat → Int → Bool
  | 0, _ => false
  | F + 1, p => if p < 0 then false else match fr p.toNat with
    | none => false
    | some x => ad_is x.2.2 hd || mu_an fr hd F x.2.1
def mf_pt (o : Option mf_T) : Int × Int := match o with
  | none => (-1, -1)
  | some x => (x.1, x.2.1)
def mu_may (u : mu_T) (f g : Int) : Bool := match mu_ad u f with
  | none => false
  | some a => (decide (f = g) || decide ((mf_pt (mu_fr u g.toNat)).2 < 0 ∧ (mf_pt (mu_fr u g.toNat)).1 = (mf_pt (mu_fr u f.toNat)).1)) || mu_an (mu_fr u) (pa_hd a) 6 g
theorem xd_all_iff {p : Int → Bool} : ∀ (N : Nat) (k : Int), xd_all p N k = true ↔ ∀ j, k ≤ j → j < k + N → p j = true
  | 0, k => by
    unfold xd_all
    simp
    omega
  | N + 1, k => by
    unfold xd_all
    rw [Bool.and_eq_true, xd_all_iff N (k + 1)]
    constructor
    · rintro ⟨h1, h2⟩ j h3 h4
      by_cases e : j = k
      · rw [e]
        exact h1
      · exact h2 j (by omega) (by omega)
    · intro h
      exact ⟨h k (Int.le_refl _) (by omega), fun j h1 h2 => h j (by omega) (by omega)⟩
section XMY
variable (fm : Value) {m n : Nat} {h0 : xm_H} {s : Nat → Int} {ar : Nat → Nat → Int} {u : mu_T}
theorem rf_oo {a b : Int} {x y : pa_A} {rx ry : List Int} (ha : 0 ≤ a) (hb : 0 ≤ b) (h1 : pa_at ar a (pa_hd x ++ rx)) (h2 : pa_at ar b (pa_hd y ++ ry)) (o1 : pa_ok x) (o2 : pa_ok y) (e1 : rx = [] ∨ ∃ p, rx = 47 :: p) (e2 : ry = [] ∨ ∃ p, ry = 47 :: p) : xd_oo ar a b = decide (pa_hd x = pa_hd y) := by
  unfold xd_oo
  rw [pa_oe h1 ha o1 e1, pa_oe h2 hb o2 e2]
  have l1 := h1.2.1
  have l2 := h2.2.1
  rw [List.length_append] at l1 l2
  by_cases hl : (pa_hd x).length = (pa_hd y).length
  · rw [decide_eq_true (show ((pa_hd x).length : Int) = (pa_hd y).length by omega), Bool.true_and, Int.toNat_natCast]
    by_cases e : pa_hd x = pa_hd y
    · rw [decide_eq_true e, xd_all_iff]
      intro j h3 h4
      refine decide_eq_true ?_
      rw [pa_at_get h1 ha (by omega) (by rw [List.length_append]; omega), pa_at_get h2 hb (by omega) (by rw [List.length_append]; omega)]
      unfold lc
      rw [xg_l (by omega), xg_l (by omega), e]
    · rw [decide_eq_false e]
      cases hx : xd_all (fun k => decide (ar 4 (60 * a + k).toNat = ar 4 (60 * b + k).toNat)) (pa_hd x).length 0 with
      | false => rfl
      | true =>
        exfalso
        rw [xd_all_iff] at hx
        refine e (xg_ext hl (fun i hi => ?_))
        have := of_decide_eq_true (hx i (by omega) (by omega))
        rw [pa_at_get h1 ha (by omega) (by rw [List.length_append]; omega), pa_at_get h2 hb (by omega) (by rw [List.length_append]; omega)] at this
        unfold lc at this
        rw [xg_l (by omega), xg_l (by omega)] at this
        exact this
  · rw [decide_eq_false (show ¬ ((pa_hd x).length : Int) = (pa_hd y).length by omega), Bool.false_and, decide_eq_false (fun e => hl (by rw [e]))]
theorem pa_tx {a : pa_A} (ho : pa_ok a) : pa_text a = pa_hd a ++ (a.2.2.2.1 ++ a.2.2.2.2) ∧ ((a.2.2.2.1 ++ a.2.2.2.2) = [] ∨ ∃ p, (a.2.2.2.1 ++ a.2.2.2.2) = 47 :: p) := by
  obtain ⟨p, hp⟩ := ho.2.1
  refine ⟨by unfold pa_text; rw [List.append_assoc], Or.inr ⟨p ++ a.2.2.2.2, by rw [hp]; rfl⟩⟩
/-- two slots with whole addresses -/
theorem rf_oot {a b : Int} {x y : pa_A} (ha : 0 ≤ a) (hb : 0 ≤ b) (h1 : pa_at ar a (pa_text x)) (h2 : pa_at ar b (pa_text y)) (o1 : pa_ok x) (o2 : pa_ok y) : xd_oo ar a b = decide (pa_hd x = pa_hd y) := by
  rw [(pa_tx o1).1] at h1
  rw [(pa_tx o2).1] at h2
  exact rf_oo ha hb h1 h2 o1 o2 (pa_tx o1).2 (pa_tx o2).2
theorem pa_at5 {b : Int} {l : List Int} (h : pa_at ar b l) : 0 ≤ ar 5 b.toNat ∧ ar 5 b.toNat ≤ 60 := by
  have := h.1
  have := h.2.1
  omega
theorem rf_if (h : rf s ar u) {f : Int} : xd_fr ar f = mu_if u f := by
  unfold xd_fr mu_if
  by_cases hf : 0 ≤ f ∧ f < 16
  · rw [decide_eq_true hf, Bool.true_and]
    have := (h.2.2.2.2.2.2.2.2.1 f.toNat (by omega)).1
    cases hx : mu_fr u f.toNat with
    | none =>
      rw [hx] at this
      have h2 : ar 42 f.toNat < 0 := this
      exact decide_eq_false (fun e => by omega)
    | some x =>
      rw [hx] at this
      have h2 := this.1
      have h3 := this.2.1
      exact decide_eq_true ⟨hf.1, hf.2, by omega⟩
  · rw [decide_eq_false hf, Bool.false_and]
    exact decide_eq_false (fun h => hf ⟨h.1, h.2.1⟩)
theorem rf_lkt (h : rf s ar u) {b : Bool} : rf (if b = true then xo_u s 0 0 else if true = true then xo_u (xo_u s 0 1) 2 0 else xo_u s 0 1) ar (if b = true then u else mu_sln u []) ∧ (if b = true then xo_u s 0 0 else if true = true then xo_u (xo_u s 0 1) 2 0 else xo_u s 0 1) 0 = xb (!b) := by
  cases b with
  | true => exact ⟨rf_s0 h (by omega), rfl⟩
  | false => exact ⟨rf_cl (rf_s0 h (by omega)), rfl⟩
/-- a frame that is there -/
theorem rf_f (h : rf s ar u) {f : Nat} {x : mf_T} (hf : f < 16) (hx : mu_fr u f = some x) : ar 42 f = x.1 ∧ 0 ≤ x.1 ∧ x.1 < 4 ∧ ar 43 f = x.2.1 ∧ -1 ≤ x.2.1 ∧ x.2.1 < 16 ∧ ar 44 f = xb x.2.2.isSome ∧ ∀ a, x.2.2 = some a → pa_at ar (f : Int) (pa_text a) ∧ pa_ok a := by
  have := (h.2.2.2.2.2.2.2.2.1 f hf).1
  rw [hx] at this
  exact this
theorem mu_if_s {f : Int} (h : mu_if u f = true) : ∃ (F : Nat) (x : mf_T), f = F ∧ F < 16 ∧ mu_fr u F = some x := by
  unfold mu_if at h
  rw [Bool.and_eq_true, decide_eq_true_eq] at h
  obtain ⟨F, hF⟩ := Int.eq_ofNat_of_zero_le h.1.1
  subst hF
  rw [Int.toNat_natCast] at h
  obtain ⟨x, hx⟩ := Option.isSome_iff_exists.mp h.2
  exact ⟨F, x, rfl, by omega, hx⟩
theorem xv_depthOf (hmn : xo_in m n) (h : rf s ar u) {dp : Nat → Nat} (ht : mi_tr (mu_fr u) dp) {f : Nat} {x : mf_T} (hf : f < 16) (hx : mu_fr u f = some x) : xv fm 299 m n h0 s ar [.ref m, xi (f : Int)] (some (xi (dp f : Int))) s ar := by
  show xe fm 299 (0, [(0, .ref m), (1, xi (f : Int))], [], (xo m s ar h0, n, 0, 0)) _
  have w := h.1
  have d5 := (ht f hf x hx).2.1
  have out : ∀ p : Int, p < 0 → -1 ≤ p → xe fm 299 (9, [(3, xi p), (2, xi (dp f : Int)), (0, .ref m), (1, xi (f : Int))], [], (xo m s ar h0, n, 0, 0)) (fun r M => r = .inl (some (xi (dp f : Int))) ∧ M = (xo m s ar h0, n, 0, 0)) := by
    intro p hp hp1
    refine xe_s (f := (10, _, _, _)) xt_g299 rfl rfl rfl rfl rfl ?_
    refine xe_if_lt xt_g299 rfl (t := 26) rfl (q := 13) rfl (by first | omega | exact hw.1 _ | exact hw.2 _ _ | exact xb_r _) (fun h10 => ?_) (fun h10 => ?_)
    · try simp only [xb_0, xb_1, ne_eq, Decidable.not_not, decide_eq_true_eq, decide_eq_false_iff_not] at h10
      refine xe_s (f := (27, _, _, _)) xt_g299 rfl rfl rfl rfl rfl ?_
      refine xe_iret xt_g299 rfl rfl xi_int.1 ?_
      exact ⟨rfl, rfl⟩
    · exact absurd h10 (by omega)
  have loop : ∀ (N p : Nat) (y : mf_T) (k : Int), dp p ≤ N → p < 16 → mu_fr u p = some y → k + dp p = dp f → 0 ≤ k → xe fm 299 (9, [(3, xi (p : Int)), (2, xi k), (0, .ref m), (1, xi (f : Int))], [], (xo m s ar h0, n, 0, 0)) (fun r M => r = .inl (some (xi (dp f : Int))) ∧ M = (xo m s ar h0, n, 0, 0)) := by
    intro N
    induction N with
    | zero =>
      intro p y k hN hp hy
      have := (ht p hp y hy).1
      omega
    | succ N ih =>
      intro p y k hN hp hy hk hk0
      obtain ⟨a1, a2, a3, a4⟩ := ht p hp y hy
      obtain ⟨_, _, _, b43, b1, b2, _⟩ := rf_f h hp hy
      have c43 : ar 43 (p : Int).toNat = y.2.1 := b43
      refine xe_s (f := (10, _, _, _)) xt_g299 rfl rfl rfl rfl rfl ?_
      refine xe_if_lt xt_g299 rfl (t := 26) rfl (q := 13) rfl (by first | omega | exact hw.1 _ | exact hw.2 _ _ | exact xb_r _) (fun h10 => ?_) (fun h10 => ?_)
      · exact absurd h10 (by omega)
      · try simp only [xb_0, xb_1, ne_eq, Decidable.not_not, decide_eq_true_eq, decide_eq_false_iff_not] at h10
        refine xe_iinc xt_g299 rfl (q := 16) rfl rfl (by decide) (L1 := [(2, _), (3, _), (0, _), (1, _)]) rfl ?_
        refine xe_s (f := (17, _, _, _)) xt_g299 rfl rfl rfl rfl rfl ?_
        refine xe_mga xt_g299 rfl (q := 20) rfl (xf_13_87 fm) (by decide) rfl (by omega) ?_
        try simp only [xo_u, xo_w, Nat.reduceEqDiff, reduceIte, false_and, true_and]
        refine xe_s (f := (21, _, _, _)) xt_g299 rfl rfl rfl rfl rfl ?_
        refine xe_mal (ok := xm_isN) (ty := .int) xt_g299 rfl (q := 22) rfl (fun _ _ => ⟨rfl, rfl, rfl, rfl⟩) rfl rfl rfl (by omega) (by omega) (by omega) (by omega) ?_
        try simp only [xo_u, xo_w, Nat.reduceEqDiff, reduceIte, false_and, true_and]
        rw [c43]
        refine xe_s (f := (23, [(3, _), (2, _), (0, _), (1, _)], _, _)) xt_g299 rfl rfl rfl rfl rfl ?_
        refine xe_s (f := (9, _, _, _)) xt_g299 rfl rfl rfl rfl rfl ?_
        by_cases hy2 : y.2.1 < 0
        · have e : k + 1 = (dp f : Int) := by rw [← hk, a3 hy2]; rfl
          rw [e]
          exact xe_loc (by intro q hq; simp only [List.mem_cons, List.not_mem_nil, or_false] at hq; rcases hq with rfl | rfl | rfl | rfl <;> rfl) (out y.2.1 hy2 b1)
        · obtain ⟨c1, c2, z, c3, _⟩ := a4 (by omega)
          have h2 := ih y.2.1.toNat z (k + 1) (by omega) (by omega) c3 (by omega) (by omega)
          rw [show ((y.2.1.toNat : Nat) : Int) = y.2.1 by omega] at h2
          exact xe_loc (by intro q hq; simp only [List.mem_cons, List.not_mem_nil, or_false] at hq; rcases hq with rfl | rfl | rfl | rfl <;> rfl) (h2)
  obtain ⟨a1, a2, a3, a4⟩ := ht f hf x hx
  obtain ⟨_, _, _, b43, b1, b2, _⟩ := rf_f h hf hx
  have c43 : ar 43 (f : Int).toNat = x.2.1 := b43
  refine xe_s (f := (1, _, xi 1 :: _, _)) xt_g299 rfl rfl rfl rfl rfl ?_
  refine xe_s (f := (2, [(2, _), (0, _), (1, _)], _, _)) xt_g299 rfl rfl rfl rfl rfl ?_
  refine xe_s (f := (3, _, _, _)) xt_g299 rfl rfl rfl rfl rfl ?_
  refine xe_mga xt_g299 rfl (q := 6) rfl (xf_13_87 fm) (by decide) rfl (by omega) ?_
  refine xe_s (f := (7, _, _, _)) xt_g299 rfl rfl rfl rfl rfl ?_
  refine xe_mal (ok := xm_isN) (ty := .int) xt_g299 rfl (q := 8) rfl (fun _ _ => ⟨rfl, rfl, rfl, rfl⟩) rfl rfl rfl (by omega) (by omega) (by omega) (by omega) ?_
  rw [c43]
  refine xe_s (f := (9, [(3, _), (2, _), (0, _), (1, _)], _, _)) xt_g299 rfl rfl rfl rfl rfl ?_
  by_cases hx2 : x.2.1 < 0
  · rw [show (1 : Int) = (dp f : Int) by rw [a3 hx2]; rfl]
    exact out x.2.1 hx2 b1
  · obtain ⟨c1, c2, z, c3, _⟩ := a4 (by omega)
    have h2 := loop 5 x.2.1.toNat z 1 (by omega) (by omega) c3 (by omega) (by omega)
    rw [show ((x.2.1.toNat : Nat) : Int) = x.2.1 by omega] at h2
    exact h2
theorem xv_may (hmn : xo_in m n) (h : rf s ar u) {dp : Nat → Nat} (ht : mi_tr (mu_fr u) dp) {f g : Nat} {x y : mf_T} (hf : f < 16) (hx : mu_fr u f = some x) (hg : g < 16) (hy : mu_fr u g = some y) : xv fm 302 m n h0 s ar [.ref m, xi (f : Int), xi (g : Int)] (some (xi (xb (mu_may u f g)))) s ar := by
  show xe fm 302 (0, [(0, .ref m), (1, xi (f : Int)), (2, xi (g : Int))], [], (xo m s ar h0, n, 0, 0)) _
  have w := h.1
  obtain ⟨x1, x2, x3, x4, x5, x6, x7, x8⟩ := rf_f h hf hx
  obtain ⟨y1, y2, y3, y4, y5, y6, y7, y8⟩ := rf_f h hg hy
  have a44 : ar 44 (f : Int).toNat = xb x.2.2.isSome := x7
  have a42 : ar 42 (f : Int).toNat = x.1 := x1
  have g43 : ar 43 (g : Int).toNat = y.2.1 := y4
  have g42 : ar 42 (g : Int).toNat = y.1 := y1
  have ead : mu_ad u f = x.2.2 := by
    unfold mu_ad
    rw [Int.toNat_natCast, hx]
  cases hxa : x.2.2 with
  | none =>
    rw [hxa] at a44 ead
    have e : mu_may u f g = false := by
      unfold mu_may
      rw [ead]
    rw [e]
    refine xe_s (f := (1, _, _, _)) xt_g302 rfl rfl rfl rfl rfl ?_
    refine xe_mga xt_g302 rfl (q := 4) rfl (xf_13_90 fm) (by decide) rfl (by omega) ?_
    try simp only [xo_u, xo_w, Nat.reduceEqDiff, reduceIte, false_and, true_and]
    refine xe_s (f := (5, _, _, _)) xt_g302 rfl rfl rfl rfl rfl ?_
    refine xe_mal (ok := xm_isB) (ty := .boolean) xt_g302 rfl (q := 6) rfl (fun _ _ => ⟨rfl, rfl, rfl, rfl⟩) rfl rfl rfl (by omega) (by omega) (by omega) (by omega) ?_
    try simp only [xo_u, xo_w, Nat.reduceEqDiff, reduceIte, false_and, true_and]
    rw [a44]
    refine xe_if_ne xt_g302 rfl (t := 11) rfl (q := 9) rfl (by first | omega | exact hw.1 _ | exact hw.2 _ _ | exact xb_r _) (fun h6 => ?_) (fun h6 => ?_)
    · exact absurd h6 (by decide)
    · try simp only [xb_0, xb_1, ne_eq, Decidable.not_not, decide_eq_true_eq, decide_eq_false_iff_not] at h6
      refine xe_s (f := (10, _, xi 0 :: _, _)) xt_g302 rfl rfl rfl rfl rfl ?_
      refine xe_iret xt_g302 rfl rfl (xi_bool (by first | omega | exact xb_or _)).1 ?_
      exact ⟨rfl, rfl⟩
  | some a =>
    rw [hxa] at a44 ead
    obtain ⟨A1, A2⟩ := x8 a hxa
    have e : mu_may u f g = ((decide ((f : Int) = g) || decide (y.2.1 < 0 ∧ y.1 = x.1)) || mu_an (mu_fr u) (pa_hd a) 6 g) := by
      unfold mu_may
      rw [ead]
      dsimp only
      rw [Int.toNat_natCast, Int.toNat_natCast, hy, hx]
      rfl
    rw [e]
    generalize hRR : (decide ((f : Int) = g) || decide (y.2.1 < 0 ∧ y.1 = x.1) || mu_an (mu_fr u) (pa_hd a) 6 ↑g) = R
    have out : ∀ (p : Int) (b : Bool), p < 0 → -1 ≤ p → b = R → xe fm 302 (49, [(4, xi p), (3, xi (xb b)), (0, .ref m), (1, xi (f : Int)), (2, xi (g : Int))], [], (xo m s ar h0, n, 0, 0)) (fun r M => r = .inl (some (xi (xb R))) ∧ M = (xo m s ar h0, n, 0, 0)) := by
      intro p b hp hp1 hb
      rw [hb]
      refine xe_s (f := (51, _, _, _)) xt_g302 rfl rfl rfl rfl rfl ?_
      refine xe_if_lt xt_g302 rfl (t := 96) rfl (q := 54) rfl (by first | omega | exact hw.1 _ | exact hw.2 _ _ | exact xb_r _) (fun h51 => ?_) (fun h51 => ?_)
      · try simp only [xb_0, xb_1, ne_eq, Decidable.not_not, decide_eq_true_eq, decide_eq_false_iff_not] at h51
        refine xe_s (f := (97, _, _, _)) xt_g302 rfl rfl rfl rfl rfl ?_
        refine xe_iret xt_g302 rfl rfl (xi_bool (by first | omega | exact xb_or _)).1 ?_
        exact ⟨rfl, rfl⟩
      · exact absurd h51 (by omega)
    have loop : ∀ (N p : Nat) (z : mf_T) (b : Bool), dp p ≤ N → p < 16 → mu_fr u p = some z → (b || mu_an (mu_fr u) (pa_hd a) N p) = R → xe fm 302 (49, [(4, xi (p : Int)), (3, xi (xb b)), (0, .ref m), (1, xi (f : Int)), (2, xi (g : Int))], [], (xo m s ar h0, n, 0, 0)) (fun r M => r = .inl (some (xi (xb R))) ∧ M = (xo m s ar h0, n, 0, 0)) := by
      intro N
      induction N with
      | zero =>
        intro p z b hN hp hz
        have := (ht p hp z hz).1
        omega
      | succ N ih =>
        intro p z b hN hp hz hR
        obtain ⟨a1, a2, a3, a4⟩ := ht p hp z hz
        obtain ⟨z1, z2, z3, z4, z5, z6, z7, z8⟩ := rf_f h hp hz
        have c44 : ar 44 (p : Int).toNat = xb z.2.2.isSome := z7
        have c43 : ar 43 (p : Int).toNat = z.2.1 := z4
        rw [mu_an, if_neg (by omega), Int.toNat_natCast, hz] at hR
        dsimp only at hR
        rw [← Bool.or_assoc] at hR
        have next : ∀ b' : Bool, b' = (b || ad_is z.2.2 (pa_hd a)) → xe fm 302 (83, [(4, xi (p : Int)), (3, xi (xb b)), (0, .ref m), (1, xi (f : Int)), (2, xi (g : Int))], [xi (xb b')], (xo m s ar h0, n, 0, 0)) (fun r M => r = .inl (some (xi (xb R))) ∧ M = (xo m s ar h0, n, 0, 0)) := by
          intro b' hb'
          rw [← hb'] at hR
          refine xe_s (f := (84, [(3, _), (4, _), (0, _), (1, _), (2, _)], _, _)) xt_g302 rfl rfl rfl rfl rfl ?_
          refine xe_s (f := (85, _, _, _)) xt_g302 rfl rfl rfl rfl rfl ?_
          refine xe_mga xt_g302 rfl (q := 88) rfl (xf_13_87 fm) (by decide) rfl (by omega) ?_
          try simp only [xo_u, xo_w, Nat.reduceEqDiff, reduceIte, false_and, true_and]
          refine xe_s (f := (90, _, _, _)) xt_g302 rfl rfl rfl rfl rfl ?_
          refine xe_mal (ok := xm_isN) (ty := .int) xt_g302 rfl (q := 91) rfl (fun _ _ => ⟨rfl, rfl, rfl, rfl⟩) rfl rfl rfl (by omega) (by omega) (by omega) (by omega) ?_
          try simp only [xo_u, xo_w, Nat.reduceEqDiff, reduceIte, false_and, true_and]
          rw [c43]
          refine xe_s (f := (93, [(4, _), (3, _), (0, _), (1, _), (2, _)], _, _)) xt_g302 rfl rfl rfl rfl rfl ?_
          refine xe_s (f := (49, _, _, _)) xt_g302 rfl rfl rfl rfl rfl ?_
          by_cases hz2 : z.2.1 < 0
          · have e0 : mu_an (mu_fr u) (pa_hd a) N z.2.1 = false := by
              cases N with
              | zero => rfl
              | succ N => rw [mu_an, if_pos hz2]
            rw [e0, Bool.or_false] at hR
            exact xe_loc (by intro q hq; simp only [List.mem_cons, List.not_mem_nil, or_false] at hq; rcases hq with rfl | rfl | rfl | rfl | rfl <;> rfl) (out z.2.1 b' hz2 z5 hR)
          · obtain ⟨c1, c2, y', c3, _⟩ := a4 (by omega)
            have h2 := ih z.2.1.toNat y' b' (by omega) (by omega) c3 (by rw [show ((z.2.1.toNat : Nat) : Int) = z.2.1 by omega]; exact hR)
            rw [show ((z.2.1.toNat : Nat) : Int) = z.2.1 by omega] at h2
            exact xe_loc (by intro q hq; simp only [List.mem_cons, List.not_mem_nil, or_false] at hq; rcases hq with rfl | rfl | rfl | rfl | rfl <;> rfl) (h2)
        have nx : ∀ (v : Int) (b' : Bool), v = xb b' → b' = (b || ad_is z.2.2 (pa_hd a)) → xe fm 302 (83, [(4, xi (p : Int)), (3, xi (xb b)), (0, .ref m), (1, xi (f : Int)), (2, xi (g : Int))], [xi v], (xo m s ar h0, n, 0, 0)) (fun r M => r = .inl (some (xi (xb R))) ∧ M = (xo m s ar h0, n, 0, 0)) := by
          intro v b' hv hb'
          rw [hv]
          exact next b' hb'
        cases hza : z.2.2 with
        | none =>
          rw [hza] at c44 nx
          refine xe_s (f := (51, _, _, _)) xt_g302 rfl rfl rfl rfl rfl ?_
          refine xe_if_lt xt_g302 rfl (t := 96) rfl (q := 54) rfl (by first | omega | exact hw.1 _ | exact hw.2 _ _ | exact xb_r _) (fun h51 => ?_) (fun h51 => ?_)
          · exact absurd h51 (by omega)
          · try simp only [xb_0, xb_1, ne_eq, Decidable.not_not, decide_eq_true_eq, decide_eq_false_iff_not] at h51
            refine xe_s (f := (55, _, _, _)) xt_g302 rfl rfl rfl rfl rfl ?_
            refine xe_if_ne xt_g302 rfl (t := 78) rfl (q := 58) rfl (by first | omega | exact hw.1 _ | exact hw.2 _ _ | exact xb_r _) (fun h55 => ?_) (fun h55 => ?_)
            · try simp only [xb_0, xb_1, ne_eq, Decidable.not_not, decide_eq_true_eq, decide_eq_false_iff_not] at h55
              refine xe_s (f := (79, _, xi 1 :: _, _)) xt_g302 rfl rfl rfl rfl rfl ?_
              refine xe_s (f := (83, _, _, _)) xt_g302 rfl rfl rfl rfl rfl ?_
              exact nx 1 true rfl (by rw [show b = true by simpa using h55]; rfl)
            · try simp only [xb_0, xb_1, ne_eq, Decidable.not_not, decide_eq_true_eq, decide_eq_false_iff_not] at h55
              refine xe_s (f := (59, _, _, _)) xt_g302 rfl rfl rfl rfl rfl ?_
              refine xe_mga xt_g302 rfl (q := 62) rfl (xf_13_90 fm) (by decide) rfl (by omega) ?_
              try simp only [xo_u, xo_w, Nat.reduceEqDiff, reduceIte, false_and, true_and]
              refine xe_s (f := (64, _, _, _)) xt_g302 rfl rfl rfl rfl rfl ?_
              refine xe_mal (ok := xm_isB) (ty := .boolean) xt_g302 rfl (q := 65) rfl (fun _ _ => ⟨rfl, rfl, rfl, rfl⟩) rfl rfl rfl (by omega) (by omega) (by omega) (by omega) ?_
              try simp only [xo_u, xo_w, Nat.reduceEqDiff, reduceIte, false_and, true_and]
              rw [c44]
              refine xe_if_eq xt_g302 rfl (t := 82) rfl (q := 68) rfl (by first | omega | exact hw.1 _ | exact hw.2 _ _ | exact xb_r _) (fun h65 => ?_) (fun h65 => ?_)
              · try simp only [xb_0, xb_1, ne_eq, Decidable.not_not, decide_eq_true_eq, decide_eq_false_iff_not] at h65
                refine xe_s (f := (83, _, xi 0 :: _, _)) xt_g302 rfl rfl rfl rfl rfl ?_
                exact nx 0 false rfl (by rw [h55]; rfl)
              · exact absurd rfl h65
        | some c =>
          rw [hza] at c44 nx
          obtain ⟨C1, C2⟩ := z8 c hza
          have oo := xv_isOfOrigin fm hmn (h0 := h0) w (a := (p : Int)) (b := (f : Int)) (by omega) (by omega) (pa_at5 C1) (by omega) (by omega) (pa_at5 A1)
          rw [rf_oot (by omega) (by omega) C1 A1 C2 A2] at oo
          refine xe_s (f := (51, _, _, _)) xt_g302 rfl rfl rfl rfl rfl ?_
          refine xe_if_lt xt_g302 rfl (t := 96) rfl (q := 54) rfl (by first | omega | exact hw.1 _ | exact hw.2 _ _ | exact xb_r _) (fun h51 => ?_) (fun h51 => ?_)
          · exact absurd h51 (by omega)
          · try simp only [xb_0, xb_1, ne_eq, Decidable.not_not, decide_eq_true_eq, decide_eq_false_iff_not] at h51
            refine xe_s (f := (55, _, _, _)) xt_g302 rfl rfl rfl rfl rfl ?_
            refine xe_if_ne xt_g302 rfl (t := 78) rfl (q := 58) rfl (by first | omega | exact hw.1 _ | exact hw.2 _ _ | exact xb_r _) (fun h55 => ?_) (fun h55 => ?_)
            · try simp only [xb_0, xb_1, ne_eq, Decidable.not_not, decide_eq_true_eq, decide_eq_false_iff_not] at h55
              refine xe_s (f := (79, _, xi 1 :: _, _)) xt_g302 rfl rfl rfl rfl rfl ?_
              refine xe_s (f := (83, _, _, _)) xt_g302 rfl rfl rfl rfl rfl ?_
              exact nx 1 true rfl (by rw [show b = true by simpa using h55]; rfl)
            · try simp only [xb_0, xb_1, ne_eq, Decidable.not_not, decide_eq_true_eq, decide_eq_false_iff_not] at h55
              refine xe_s (f := (59, _, _, _)) xt_g302 rfl rfl rfl rfl rfl ?_
              refine xe_mga xt_g302 rfl (q := 62) rfl (xf_13_90 fm) (by decide) rfl (by omega) ?_
              try simp only [xo_u, xo_w, Nat.reduceEqDiff, reduceIte, false_and, true_and]
              refine xe_s (f := (64, _, _, _)) xt_g302 rfl rfl rfl rfl rfl ?_
              refine xe_mal (ok := xm_isB) (ty := .boolean) xt_g302 rfl (q := 65) rfl (fun _ _ => ⟨rfl, rfl, rfl, rfl⟩) rfl rfl rfl (by omega) (by omega) (by omega) (by omega) ?_
              try simp only [xo_u, xo_w, Nat.reduceEqDiff, reduceIte, false_and, true_and]
              rw [c44]
              refine xe_if_eq xt_g302 rfl (t := 82) rfl (q := 68) rfl (by first | omega | exact hw.1 _ | exact hw.2 _ _ | exact xb_r _) (fun h65 => ?_) (fun h65 => ?_)
              · exact absurd h65 (show ¬ xb true = 0 by decide)
              · try simp only [xb_0, xb_1, ne_eq, Decidable.not_not, decide_eq_true_eq, decide_eq_false_iff_not] at h65
                refine xe_s (f := (69, _, _, _)) xt_g302 rfl rfl rfl rfl rfl ?_
                refine xe_s (f := (71, _, _, _)) xt_g302 rfl rfl rfl rfl rfl ?_
                refine xe_s (f := (72, _, _, _)) xt_g302 rfl rfl rfl rfl rfl ?_
                refine xe_cvI xt_g302 rfl (q := 75) rfl xk_13_437 rfl (by omega) xt_g303 (by decide) ⟨Nat.le_of_ble_eq_true rfl, Nat.le_of_ble_eq_true rfl, Nat.le_of_ble_eq_true rfl⟩ (oo) ?_
                refine xe_if_eq xt_g302 rfl (t := 82) rfl (q := 78) rfl (by first | omega | exact hw.1 _ | exact hw.2 _ _ | exact xb_r _) (fun h75 => ?_) (fun h75 => ?_)
                · try simp only [xb_0, xb_1, ne_eq, Decidable.not_not, decide_eq_true_eq, decide_eq_false_iff_not] at h75
                  refine xe_s (f := (83, _, xi 0 :: _, _)) xt_g302 rfl rfl rfl rfl rfl ?_
                  exact nx 0 false rfl (by rw [h55]; show false = (false || decide (pa_hd c = pa_hd a)); rw [decide_eq_false h75]; rfl)
                · try simp only [xb_0, xb_1, ne_eq, Decidable.not_not, decide_eq_true_eq, decide_eq_false_iff_not] at h75
                  refine xe_s (f := (79, _, xi 1 :: _, _)) xt_g302 rfl rfl rfl rfl rfl ?_
                  refine xe_s (f := (83, _, _, _)) xt_g302 rfl rfl rfl rfl rfl ?_
                  exact nx 1 true rfl (by rw [h55]; show true = (false || decide (pa_hd c = pa_hd a)); rw [decide_eq_true h75]; rfl)
    have dg := (ht g hg y hy).2.1
    have st : ∀ (v : Int) (b : Bool), v = xb b → (b || mu_an (mu_fr u) (pa_hd a) 6 g) = R → xe fm 302 (45, [(0, .ref m), (1, xi (f : Int)), (2, xi (g : Int))], [xi v], (xo m s ar h0, n, 0, 0)) (fun r M => r = .inl (some (xi (xb R))) ∧ M = (xo m s ar h0, n, 0, 0)) := by
      intro v b hv hb
      rw [hv]
      refine xe_s (f := (46, [(3, _), (0, _), (1, _), (2, _)], _, _)) xt_g302 rfl rfl rfl rfl rfl ?_
      refine xe_s (f := (47, _, _, _)) xt_g302 rfl rfl rfl rfl rfl ?_
      refine xe_s (f := (49, [(4, _), (3, _), (0, _), (1, _), (2, _)], _, _)) xt_g302 rfl rfl rfl rfl rfl ?_
      exact loop 6 g y b (by omega) hg hy hb
    refine xe_s (f := (1, _, _, _)) xt_g302 rfl rfl rfl rfl rfl ?_
    refine xe_mga xt_g302 rfl (q := 4) rfl (xf_13_90 fm) (by decide) rfl (by omega) ?_
    try simp only [xo_u, xo_w, Nat.reduceEqDiff, reduceIte, false_and, true_and]
    refine xe_s (f := (5, _, _, _)) xt_g302 rfl rfl rfl rfl rfl ?_
    refine xe_mal (ok := xm_isB) (ty := .boolean) xt_g302 rfl (q := 6) rfl (fun _ _ => ⟨rfl, rfl, rfl, rfl⟩) rfl rfl rfl (by omega) (by omega) (by omega) (by omega) ?_
    try simp only [xo_u, xo_w, Nat.reduceEqDiff, reduceIte, false_and, true_and]
    rw [a44]
    refine xe_if_ne xt_g302 rfl (t := 11) rfl (q := 9) rfl (by first | omega | exact hw.1 _ | exact hw.2 _ _ | exact xb_r _) (fun h6 => ?_) (fun h6 => ?_)
    · try simp only [xb_0, xb_1, ne_eq, Decidable.not_not, decide_eq_true_eq, decide_eq_false_iff_not] at h6
      refine xe_s (f := (12, _, _, _)) xt_g302 rfl rfl rfl rfl rfl ?_
      refine xe_s (f := (13, _, _, _)) xt_g302 rfl rfl rfl rfl rfl ?_
      refine xe_ic_eq xt_g302 rfl (t := 40) rfl (q := 16) rfl (by first | omega | exact hw.1 _ | exact hw.2 _ _ | exact xb_r _) (by first | omega | exact hw.1 _ | exact hw.2 _ _ | exact xb_r _) (fun h13 => ?_) (fun h13 => ?_)
      · refine xe_s (f := (41, _, xi 1 :: _, _)) xt_g302 rfl rfl rfl rfl rfl ?_
        refine xe_s (f := (45, _, _, _)) xt_g302 rfl rfl rfl rfl rfl ?_
        exact st 1 true rfl (by rw [← hRR, decide_eq_true h13]; rfl)
      · refine xe_s (f := (17, _, _, _)) xt_g302 rfl rfl rfl rfl rfl ?_
        refine xe_mga xt_g302 rfl (q := 20) rfl (xf_13_87 fm) (by decide) rfl (by omega) ?_
        try simp only [xo_u, xo_w, Nat.reduceEqDiff, reduceIte, false_and, true_and]
        refine xe_s (f := (21, _, _, _)) xt_g302 rfl rfl rfl rfl rfl ?_
        refine xe_mal (ok := xm_isN) (ty := .int) xt_g302 rfl (q := 22) rfl (fun _ _ => ⟨rfl, rfl, rfl, rfl⟩) rfl rfl rfl (by omega) (by omega) (by omega) (by omega) ?_
        try simp only [xo_u, xo_w, Nat.reduceEqDiff, reduceIte, false_and, true_and]
        rw [g43]
        refine xe_if_ge xt_g302 rfl (t := 44) rfl (q := 25) rfl (by first | omega | exact hw.1 _ | exact hw.2 _ _ | exact xb_r _) (fun h22 => ?_) (fun h22 => ?_)
        · try simp only [xb_0, xb_1, ne_eq, Decidable.not_not, decide_eq_true_eq, decide_eq_false_iff_not] at h22
          refine xe_s (f := (45, _, xi 0 :: _, _)) xt_g302 rfl rfl rfl rfl rfl ?_
          exact st 0 false rfl (by rw [← hRR, decide_eq_false h13, decide_eq_false (by omega)]; rfl)
        · try simp only [xb_0, xb_1, ne_eq, Decidable.not_not, decide_eq_true_eq, decide_eq_false_iff_not] at h22
          refine xe_s (f := (26, _, _, _)) xt_g302 rfl rfl rfl rfl rfl ?_
          refine xe_mga xt_g302 rfl (q := 29) rfl (xf_13_84 fm) (by decide) rfl (by omega) ?_
          try simp only [xo_u, xo_w, Nat.reduceEqDiff, reduceIte, false_and, true_and]
          refine xe_s (f := (30, _, _, _)) xt_g302 rfl rfl rfl rfl rfl ?_
          refine xe_mal (ok := xm_isN) (ty := .int) xt_g302 rfl (q := 31) rfl (fun _ _ => ⟨rfl, rfl, rfl, rfl⟩) rfl rfl rfl (by omega) (by omega) (by omega) (by omega) ?_
          try simp only [xo_u, xo_w, Nat.reduceEqDiff, reduceIte, false_and, true_and]
          rw [g42]
          refine xe_s (f := (32, _, _, _)) xt_g302 rfl rfl rfl rfl rfl ?_
          refine xe_mga xt_g302 rfl (q := 35) rfl (xf_13_84 fm) (by decide) rfl (by omega) ?_
          try simp only [xo_u, xo_w, Nat.reduceEqDiff, reduceIte, false_and, true_and]
          refine xe_s (f := (36, _, _, _)) xt_g302 rfl rfl rfl rfl rfl ?_
          refine xe_mal (ok := xm_isN) (ty := .int) xt_g302 rfl (q := 37) rfl (fun _ _ => ⟨rfl, rfl, rfl, rfl⟩) rfl rfl rfl (by omega) (by omega) (by omega) (by omega) ?_
          try simp only [xo_u, xo_w, Nat.reduceEqDiff, reduceIte, false_and, true_and]
          rw [a42]
          refine xe_ic_ne xt_g302 rfl (t := 44) rfl (q := 40) rfl (by first | omega | exact hw.1 _ | exact hw.2 _ _ | exact xb_r _) (by first | omega | exact hw.1 _ | exact hw.2 _ _ | exact xb_r _) (fun h37 => ?_) (fun h37 => ?_)
          · refine xe_s (f := (45, _, xi 0 :: _, _)) xt_g302 rfl rfl rfl rfl rfl ?_
            exact st 0 false rfl (by rw [← hRR, decide_eq_false h13, decide_eq_false (fun h => h37 h.2)]; rfl)
          · refine xe_s (f := (41, _, xi 1 :: _, _)) xt_g302 rfl rfl rfl rfl rfl ?_
            refine xe_s (f := (45, _, _, _)) xt_g302 rfl rfl rfl rfl rfl ?_
            exact st 1 true rfl (by rw [← hRR, decide_eq_false h13, decide_eq_true (show y.2.1 < 0 ∧ y.1 = x.1 by omega)]; rfl)
    · exact absurd (show xb true ≠ 0 by decide) h6
end XMY
