/-! calls with their stack in plain form; what a method of the reference does, as a predicate -/
theorem xb_r (b : Bool) : xr (xb b) := by cases b <;> decide
theorem xb_0 {b : Bool} : xb b = 0 ↔ b = false := by cases b <;> simp [xb]
theorem xb_1 {b : Bool} : xb b = 1 ↔ b = true := by cases b <;> simp [xb]
abbrev xQI (m n : Nat) (h0 : xm_H) (P : Int → (Nat → Int) → (Nat → Nat → Int) → Prop) : xe_Q := fun r M => ∃ z s' ar', r = .inl (some (xi z)) ∧ M = (xo m s' ar' h0, n, 0, 0) ∧ P z s' ar'
abbrev xQU (m n : Nat) (h0 : xm_H) (P : (Nat → Int) → (Nat → Nat → Int) → Prop) : xe_Q := fun r M => ∃ s' ar', r = .inl none ∧ M = (xo m s' ar' h0, n, 0, 0) ∧ P s' ar'
/-- a method of the reference that answers an int -/
def xV (fm : Value) (y m n : Nat) (h0 : xm_H) (s : Nat → Int) (ar : Nat → Nat → Int) (As : List Value) (P : Int → (Nat → Int) → (Nat → Nat → Int) → Prop) : Prop := xe fm y (0, lv_args 0 As, [], (xo m s ar h0, n, 0, 0)) (xQI m n h0 P)
/-- one that answers nothing -/
def xU (fm : Value) (y m n : Nat) (h0 : xm_H) (s : Nat → Int) (ar : Nat → Nat → Int) (As : List Value) (P : (Nat → Int) → (Nat → Nat → Int) → Prop) : Prop := xe fm y (0, lv_args 0 As, [], (xo m s ar h0, n, 0, 0)) (xQU m n h0 P)
section XHO
variable {fm : Value} {y pc q n c u m : Nat} {L : xm_L} {Q : xe_Q} {D : xt_D} {r : List Value} {s : Nat → Int} {ar : Nat → Nat → Int} {h0 : xm_H}
theorem xV_of {As : List Value} {z : Int} {s' : Nat → Int} {ar' : Nat → Nat → Int} {P : Int → (Nat → Int) → (Nat → Nat → Int) → Prop} (h : xv fm y m n h0 s ar As (some (xi z)) s' ar') (hp : P z s' ar') : xV fm y m n h0 s ar As P :=
  xe_mono h (fun _ _ h => ⟨z, s', ar', h.1, h.2, hp⟩)
theorem xU_of {As : List Value} {s' : Nat → Int} {ar' : Nat → Nat → Int} {P : (Nat → Int) → (Nat → Nat → Int) → Prop} (h : xv fm y m n h0 s ar As none s' ar') (hp : P s' ar') : xU fm y m n h0 s ar As P :=
  xe_mono h (fun _ _ h => ⟨s', ar', h.1, h.2, hp⟩)
theorem xV_mono {As : List Value} {P P' : Int → (Nat → Int) → (Nat → Nat → Int) → Prop} (h : xV fm y m n h0 s ar As P) (hp : ∀ z s' ar', P z s' ar' → P' z s' ar') : xV fm y m n h0 s ar As P' :=
  xe_mono h (fun _ _ ⟨z, s', ar', h1, h2, h3⟩ => ⟨z, s', ar', h1, h2, hp z s' ar' h3⟩)
theorem xU_mono {As : List Value} {P P' : (Nat → Int) → (Nat → Nat → Int) → Prop} (h : xU fm y m n h0 s ar As P) (hp : ∀ s' ar', P s' ar' → P' s' ar') : xU fm y m n h0 s ar As P' :=
  xe_mono h (fun _ _ ⟨s', ar', h1, h2, h3⟩ => ⟨s', ar', h1, h2, hp s' ar' h3⟩)
theorem xe_cvI {idx y' k : Nat} {D' : xt_D} {S r0 : List Value} {a : Int} {s' : Nat → Int} {ar' : Nat → Nat → Int} (hy : xt_md[y]? = some D) (hi : xt_lk D.2.2.2.2.2 pc = some (.invokevirtual idx, 3)) (hq : pc + 3 = q) (hci : xt_ci D.1.cls idx = some (1, y', k, "TabKernelModel")) (hS : S.drop k = .ref m :: r0) (hm : m < n) (hy' : xt_md[y']? = some D') (hd : xt_dp y' < xt_dp y)
    (hsl : (lg_sl (.ref m :: (S.take k).reverse)).length ≤ D'.2.2.1 ∧ D'.2.2.1 ≤ 41 ∧ (r0.map fun v => v.category).sum ≤ 8) (hf : xv fm y' m n h0 s ar (.ref m :: (S.take k).reverse) (some (xi a)) s' ar') (kk : xe fm y (q, L, xi a :: r0, (xo m s' ar' h0, n, c, u)) Q) : xe fm y (pc, L, S, (xo m s ar h0, n, c, u)) Q :=
  xe_mcv hy hi hq hci hS hm hy' hd hsl hf kk
theorem xe_cvL {idx y' k : Nat} {D' : xt_D} {S r0 : List Value} {a : Int} {s' : Nat → Int} {ar' : Nat → Nat → Int} (hy : xt_md[y]? = some D) (hi : xt_lk D.2.2.2.2.2 pc = some (.invokevirtual idx, 3)) (hq : pc + 3 = q) (hci : xt_ci D.1.cls idx = some (1, y', k, "TabKernelModel")) (hS : S.drop k = .ref m :: r0) (hm : m < n) (hy' : xt_md[y']? = some D') (hd : xt_dp y' < xt_dp y)
    (hsl : (lg_sl (.ref m :: (S.take k).reverse)).length ≤ D'.2.2.1 ∧ D'.2.2.1 ≤ 41 ∧ (r0.map fun v => v.category).sum ≤ 8) (hf : xv fm y' m n h0 s ar (.ref m :: (S.take k).reverse) (some (xl a)) s' ar') (kk : xe fm y (q, L, xl a :: r0, (xo m s' ar' h0, n, c, u)) Q) : xe fm y (pc, L, S, (xo m s ar h0, n, c, u)) Q :=
  xe_mcv hy hi hq hci hS hm hy' hd hsl hf kk
theorem xe_cvV {idx y' k : Nat} {D' : xt_D} {S r0 : List Value} {s' : Nat → Int} {ar' : Nat → Nat → Int} (hy : xt_md[y]? = some D) (hi : xt_lk D.2.2.2.2.2 pc = some (.invokevirtual idx, 3)) (hq : pc + 3 = q) (hci : xt_ci D.1.cls idx = some (1, y', k, "TabKernelModel")) (hS : S.drop k = .ref m :: r0) (hm : m < n) (hy' : xt_md[y']? = some D') (hd : xt_dp y' < xt_dp y)
    (hsl : (lg_sl (.ref m :: (S.take k).reverse)).length ≤ D'.2.2.1 ∧ D'.2.2.1 ≤ 41 ∧ (r0.map fun v => v.category).sum ≤ 8) (hf : xv fm y' m n h0 s ar (.ref m :: (S.take k).reverse) none s' ar') (kk : xe fm y (q, L, r0, (xo m s' ar' h0, n, c, u)) Q) : xe fm y (pc, L, S, (xo m s ar h0, n, c, u)) Q :=
  xe_mcv hy hi hq hci hS hm hy' hd hsl hf kk
theorem xe_csI {idx y' : Nat} {C : String} {D' : xt_D} {v1 : Value} {r0 r1 : List Value} {M : xm_M} {a : Int} (hy : xt_md[y]? = some D) (hi : xt_lk D.2.2.2.2.2 pc = some (.invokestatic idx, 3)) (hq : pc + 3 = q) (hci : xt_ci D.1.cls idx = some (0, y', 1, C)) (_ : r1 = r0) (_ : 1 ≤ (v1 :: r0).length) (hy' : xt_md[y']? = some D') (hd : xt_dp y' < xt_dp y)
    (hsl : (lg_sl [v1]).length ≤ D'.2.2.1 ∧ D'.2.2.1 ≤ 41 ∧ (r0.map fun v => v.category).sum ≤ 8) (hf : xw fm y' [v1] (some (xi a))) (kk : xe fm y (q, L, xi a :: r0, M) Q) : xe fm y (pc, L, v1 :: r0, M) Q :=
  xe_mcs hy hi hq hci (by simp) hy' hd hsl hf kk
theorem xe_hc {idx y' k : Nat} {D' : xt_D} {S r0 : List Value} {Q' : xe_Q} (hy : xt_md[y]? = some D) (hi : xt_lk D.2.2.2.2.2 pc = some (.invokevirtual idx, 3)) (hq : pc + 3 = q) (hci : xt_ci D.1.cls idx = some (1, y', k, "TabKernelModel")) (hS : S.drop k = .ref m :: r0) (hm : m < n) (hy' : xt_md[y']? = some D') (hd : xt_dp y' < xt_dp y)
    (hsl : (lg_sl (.ref m :: (S.take k).reverse)).length ≤ D'.2.2.1 ∧ D'.2.2.1 ≤ 41 ∧ (r0.map fun v => v.category).sum ≤ 8) (hf : xe fm y' (0, lv_args 0 (.ref m :: (S.take k).reverse), [], (xo m s ar h0, n, 0, 0)) Q') (hx : ∀ x M, ¬ Q' (.inr x) M) (kk : ∀ v M, Q' (.inl v) M → xe fm y (q, L, v.toList ++ r0, xm_add (xo m s ar h0, n, c, u) M) Q) : xe fm y (pc, L, S, (xo m s ar h0, n, c, u)) Q := by
  subst hq
  have hrcv : xm_rcv (xt_X fm) "TabKernelModel" (xo m s ar h0, n, c, u) (.ref m) = true := by
    show (match xo m s ar h0 m with
      | .inr (ci, _) => match (xm_cl (xt_X fm))[ci]? with
        | some q => decide (m < n ∧ q.1 = "TabKernelModel")
        | none => false
      | _ => false) = true
    rw [xo_at]
    exact decide_eq_true ⟨hm, rfl⟩
  refine xe_call hy hi rfl rfl (y' := y') (As := .ref m :: (S.take k).reverse) (r0 := r0) ?_ hy' hd hsl hf (fun v1 m1 h => kk v1 m1 h) (fun x m1 h => absurd h (hx x m1))
  show (match xt_ci D.1.cls idx with
      | some (k, y, n, C) => match S.drop n with
        | b :: r => if (k = 1 ∨ k = 2) ∧ xm_rcv (xt_X fm) C (xo m s ar h0, _, c, u) b = true then some (y, b :: (S.take n).reverse, r) else none
        | [] => none
      | none => none) = _
  rw [hci]
  dsimp only
  rw [hS]
  dsimp only
  rw [if_pos ⟨Or.inl rfl, hrcv⟩]
theorem xe_chI {idx y' k : Nat} {D' : xt_D} {S r0 : List Value} {P : Int → (Nat → Int) → (Nat → Nat → Int) → Prop} (hy : xt_md[y]? = some D) (hi : xt_lk D.2.2.2.2.2 pc = some (.invokevirtual idx, 3)) (hq : pc + 3 = q) (hci : xt_ci D.1.cls idx = some (1, y', k, "TabKernelModel")) (hS : S.drop k = .ref m :: r0) (hm : m < n) (hy' : xt_md[y']? = some D') (hd : xt_dp y' < xt_dp y)
    (hsl : (lg_sl (.ref m :: (S.take k).reverse)).length ≤ D'.2.2.1 ∧ D'.2.2.1 ≤ 41 ∧ (r0.map fun v => v.category).sum ≤ 8) (hf : xV fm y' m n h0 s ar (.ref m :: (S.take k).reverse) P) (kk : ∀ a s' ar', P a s' ar' → xe fm y (q, L, xi a :: r0, (xo m s' ar' h0, n, c, u)) Q) : xe fm y (pc, L, S, (xo m s ar h0, n, c, u)) Q := by
  refine xe_hc hy hi hq hci hS hm hy' hd hsl hf ?_ ?_
  · rintro x M ⟨_, _, _, h, _⟩
    cases h
  · rintro v M ⟨a, s', ar', h1, h2, h3⟩
    cases h1
    subst h2
    exact kk a s' ar' h3
theorem xe_chV {idx y' k : Nat} {D' : xt_D} {S r0 : List Value} {P : (Nat → Int) → (Nat → Nat → Int) → Prop} (hy : xt_md[y]? = some D) (hi : xt_lk D.2.2.2.2.2 pc = some (.invokevirtual idx, 3)) (hq : pc + 3 = q) (hci : xt_ci D.1.cls idx = some (1, y', k, "TabKernelModel")) (hS : S.drop k = .ref m :: r0) (hm : m < n) (hy' : xt_md[y']? = some D') (hd : xt_dp y' < xt_dp y)
    (hsl : (lg_sl (.ref m :: (S.take k).reverse)).length ≤ D'.2.2.1 ∧ D'.2.2.1 ≤ 41 ∧ (r0.map fun v => v.category).sum ≤ 8) (hf : xU fm y' m n h0 s ar (.ref m :: (S.take k).reverse) P) (kk : ∀ s' ar', P s' ar' → xe fm y (q, L, r0, (xo m s' ar' h0, n, c, u)) Q) : xe fm y (pc, L, S, (xo m s ar h0, n, c, u)) Q := by
  refine xe_hc hy hi hq hci hS hm hy' hd hsl hf ?_ ?_
  · rintro x M ⟨_, _, h, _⟩
    cases h
  · rintro v M ⟨s', ar', h1, h2, h3⟩
    cases h1
    subst h2
    exact kk s' ar' h3
theorem xe_ldci {idx : Nat} {M : xm_M} {S : List Value} {z : Int} {x : Int32} (hy : xt_md[y]? = some D) (hi : xt_lk D.2.2.2.2.2 pc = some (.ldc idx, 2)) (hq : pc + 2 = q) (hc : xm_con (xt_X fm) D.1.cls idx = some (.int x)) (hx : x = Int32.ofInt z) (kk : xe fm y (q, L, xi z :: S, M) Q) : xe fm y (pc, L, S, M) Q := by
  subst hq
  refine xe_s hy hi rfl rfl rfl (f := (pc + 2, L, xi z :: S, M)) ?_ kk
  show xm_pus xm_isR (xm_con (xt_X fm) D.1.cls idx) 2 pc L S M = _
  rw [hc, hx]
  rfl
end XHO
/-! the reference: hasScheme -/
def xd_sc (t : Int → Int) : Bool := decide (xd_sml (t 0) = 104 ∧ xd_sml (t 1) = 116 ∧ xd_sml (t 2) = 116 ∧ xd_sml (t 3) = 112)
def xd_ss (t : Int → Int) : Bool := decide (xd_sml (t 4) = 115)
def xd_sk (t : Int → Int) : Int := if xd_ss t = true then 5 else 4
def xd_hsc (t : Int → Int) : Bool := xd_sc t && decide (t (xd_sk t) = 58 ∧ t (xd_sk t + 1) = 47 ∧ t (xd_sk t + 2) = 47)
section XHS
variable (fm : Value) {m n : Nat} {h0 : xm_H} {s : Nat → Int} {ar : Nat → Nat → Int}
theorem xv_charAtU (hmn : xo_in m n) {k j z j' z' : Int} (h2 : 0 ≤ s 2 ∧ s 2 ≤ 160) (hk : 0 ≤ k ∧ k < 2147483648) : xv fm 249 m n h0 (xo_u (xo_u s 13 z) 3 z') ar [.ref m, xi k] (some (xi (xd_at s ar k))) (xo_u (xo_u s 13 z) 3 z') ar :=
  xv_charAt fm hmn h2 hk
theorem xv_hasScheme (hmn : xo_in m n) (hw : xo_wf s ar) (h2 : 0 ≤ s 2 ∧ s 2 ≤ 160) : xv fm 258 m n h0 s ar [.ref m] (some (xi (xb (xd_hsc (xd_at s ar))))) (xo_u (xo_u s 13 (xb (xd_ss (xd_at s ar)))) 3 (xd_sk (xd_at s ar) + 3)) ar := by
  show xe fm 258 (0, [(0, .ref m)], [], (xo m s ar h0, n, 0, 0)) _
  have hr := fun k => xd_at_r hw k
  have hs := fun k => xd_sml_r (xd_at_r hw k)
  have r0 := hs 0
  have r1 := hs 1
  have r2 := hs 2
  have r3 := hs 3
  have r4 := hs 4
  have kr : xd_sk (xd_at s ar) = 4 ∨ xd_sk (xd_at s ar) = 5 := by unfold xd_sk; split <;> simp
  have r5 := hr (xd_sk (xd_at s ar))
  have r6 := hr (xd_sk (xd_at s ar) + 1)
  have r7 := hr (xd_sk (xd_at s ar) + 2)
  have j143 : ∀ z : Int, z = xb (xd_hsc (xd_at s ar)) → xe fm 258 (143, [(2, xi (xd_sk (xd_at s ar))), (1, xi (xb (xd_sc (xd_at s ar)))), (0, .ref m)], [xi z], (xo m (xo_u (xo_u s 13 (xb (xd_ss (xd_at s ar)))) 3 (xd_sk (xd_at s ar) + 3)) ar h0, n, 0, 0)) (fun r M => r = .inl (some (xi (xb (xd_hsc (xd_at s ar))))) ∧ M = (xo m (xo_u (xo_u s 13 (xb (xd_ss (xd_at s ar)))) 3 (xd_sk (xd_at s ar) + 3)) ar h0, n, 0, 0)) := by
    intro z hz
    subst hz
    refine xe_iret xt_g258 rfl rfl (xi_bool (by first | omega | exact xb_or _)).1 ?_
    exact ⟨rfl, rfl⟩
  have j92 : ∀ z : Int, z = xd_sk (xd_at s ar) → xe fm 258 (92, [(1, xi (xb (xd_sc (xd_at s ar)))), (0, .ref m)], [xi z], (xo m (xo_u s 13 (xb (xd_ss (xd_at s ar)))) ar h0, n, 0, 0)) (fun r M => r = .inl (some (xi (xb (xd_hsc (xd_at s ar))))) ∧ M = (xo m (xo_u (xo_u s 13 (xb (xd_ss (xd_at s ar)))) 3 (xd_sk (xd_at s ar) + 3)) ar h0, n, 0, 0)) := by
    intro z hz
    subst hz
    refine xe_s (f := (93, [(2, _), (1, _), (0, _)], _, _)) xt_g258 rfl rfl rfl rfl rfl ?_
    refine xe_s (f := (94, _, _, _)) xt_g258 rfl rfl rfl rfl rfl ?_
    refine xe_s (f := (95, _, _, _)) xt_g258 rfl rfl rfl rfl rfl ?_
    refine xe_s (f := (96, _, xi 3 :: _, _)) xt_g258 rfl rfl rfl rfl rfl ?_
    refine xe_iadd xt_g258 rfl (q := 97) rfl ?_
    refine xe_mps xt_g258 rfl (q := 100) rfl (xf_13_152 fm) (by decide) rfl (by omega) (by omega) xi_int (Or.inl rfl) ?_
    refine xe_s (f := (101, _, _, _)) xt_g258 rfl rfl rfl rfl rfl ?_
    refine xe_if_eq xt_g258 rfl (t := 142) rfl (q := 104) rfl (by first | omega | exact hw.1 _ | exact hw.2 _ _ | exact xb_r _) (fun h101 => ?_) (fun h101 => ?_)
    · try simp only [xb_0, xb_1, ne_eq, Decidable.not_not, decide_eq_true_eq, decide_eq_false_iff_not] at h101
      refine xe_s (f := (143, _, xi 0 :: _, _)) xt_g258 rfl rfl rfl rfl rfl ?_
      exact j143 _ (by unfold xd_hsc; simp [xb, *])
    · try simp only [xb_0, xb_1, ne_eq, Decidable.not_not, decide_eq_true_eq, decide_eq_false_iff_not] at h101
      refine xe_s (f := (105, _, _, _)) xt_g258 rfl rfl rfl rfl rfl ?_
      refine xe_s (f := (106, _, _, _)) xt_g258 rfl rfl rfl rfl rfl ?_
      refine xe_cvI xt_g258 rfl (q := 109) rfl xk_13_155 rfl (by omega) xt_g249 (by decide) ⟨Nat.le_of_ble_eq_true rfl, Nat.le_of_ble_eq_true rfl, Nat.le_of_ble_eq_true rfl⟩ (xv_charAtU fm hmn (j := 0) (j' := 0) h2 (by omega)) ?_
      refine xe_bipush xt_g258 rfl (q := 111) rfl (by decide) (by decide) ?_
      refine xe_ic_ne xt_g258 rfl (t := 142) rfl (q := 114) rfl (by first | omega | exact hw.1 _ | exact hw.2 _ _ | exact xb_r _) (by first | omega | exact hw.1 _ | exact hw.2 _ _ | exact xb_r _) (fun h111 => ?_) (fun h111 => ?_)
      · refine xe_s (f := (143, _, xi 0 :: _, _)) xt_g258 rfl rfl rfl rfl rfl ?_
        exact j143 _ (by unfold xd_hsc; simp [xb, *])
      · refine xe_s (f := (115, _, _, _)) xt_g258 rfl rfl rfl rfl rfl ?_
        refine xe_s (f := (116, _, _, _)) xt_g258 rfl rfl rfl rfl rfl ?_
        refine xe_s (f := (117, _, xi 1 :: _, _)) xt_g258 rfl rfl rfl rfl rfl ?_
        refine xe_iadd xt_g258 rfl (q := 118) rfl ?_
        refine xe_cvI xt_g258 rfl (q := 121) rfl xk_13_155 rfl (by omega) xt_g249 (by decide) ⟨Nat.le_of_ble_eq_true rfl, Nat.le_of_ble_eq_true rfl, Nat.le_of_ble_eq_true rfl⟩ (xv_charAtU fm hmn (j := 0) (j' := 0) h2 (by omega)) ?_
        refine xe_bipush xt_g258 rfl (q := 123) rfl (by decide) (by decide) ?_
        refine xe_ic_ne xt_g258 rfl (t := 142) rfl (q := 126) rfl (by first | omega | exact hw.1 _ | exact hw.2 _ _ | exact xb_r _) (by first | omega | exact hw.1 _ | exact hw.2 _ _ | exact xb_r _) (fun h123 => ?_) (fun h123 => ?_)
        · refine xe_s (f := (143, _, xi 0 :: _, _)) xt_g258 rfl rfl rfl rfl rfl ?_
          exact j143 _ (by unfold xd_hsc; simp [xb, *])
        · refine xe_s (f := (127, _, _, _)) xt_g258 rfl rfl rfl rfl rfl ?_
          refine xe_s (f := (128, _, _, _)) xt_g258 rfl rfl rfl rfl rfl ?_
          refine xe_s (f := (129, _, xi 2 :: _, _)) xt_g258 rfl rfl rfl rfl rfl ?_
          refine xe_iadd xt_g258 rfl (q := 130) rfl ?_
          refine xe_cvI xt_g258 rfl (q := 133) rfl xk_13_155 rfl (by omega) xt_g249 (by decide) ⟨Nat.le_of_ble_eq_true rfl, Nat.le_of_ble_eq_true rfl, Nat.le_of_ble_eq_true rfl⟩ (xv_charAtU fm hmn (j := 0) (j' := 0) h2 (by omega)) ?_
          refine xe_bipush xt_g258 rfl (q := 135) rfl (by decide) (by decide) ?_
          refine xe_ic_ne xt_g258 rfl (t := 142) rfl (q := 138) rfl (by first | omega | exact hw.1 _ | exact hw.2 _ _ | exact xb_r _) (by first | omega | exact hw.1 _ | exact hw.2 _ _ | exact xb_r _) (fun h135 => ?_) (fun h135 => ?_)
          · refine xe_s (f := (143, _, xi 0 :: _, _)) xt_g258 rfl rfl rfl rfl rfl ?_
            exact j143 _ (by unfold xd_hsc; simp [xb, *])
          · refine xe_s (f := (139, _, xi 1 :: _, _)) xt_g258 rfl rfl rfl rfl rfl ?_
            refine xe_s (f := (143, _, _, _)) xt_g258 rfl rfl rfl rfl rfl ?_
            exact j143 _ (by unfold xd_hsc; simp [xb, *])
  have j77 : ∀ z : Int, z = xb (xd_ss (xd_at s ar)) → xe fm 258 (77, [(1, xi (xb (xd_sc (xd_at s ar)))), (0, .ref m)], [xi z, .ref m], (xo m s ar h0, n, 0, 0)) (fun r M => r = .inl (some (xi (xb (xd_hsc (xd_at s ar))))) ∧ M = (xo m (xo_u (xo_u s 13 (xb (xd_ss (xd_at s ar)))) 3 (xd_sk (xd_at s ar) + 3)) ar h0, n, 0, 0)) := by
    intro z hz
    have hx := xb_or (xd_ss (xd_at s ar))
    rw [hz]
    refine xe_mps xt_g258 rfl (q := 80) rfl (xf_13_192 fm) (by decide) rfl (by omega) (by omega) (xi_bool (by omega)) (Or.inl rfl) ?_
    refine xe_s (f := (81, _, _, _)) xt_g258 rfl rfl rfl rfl rfl ?_
    refine xe_mgs xt_g258 rfl (q := 84) rfl (xf_13_192 fm) (by decide) rfl (by omega) ?_
    try simp only [xo_u, xo_w, Nat.reduceEqDiff, reduceIte, false_and, true_and]
    refine xe_if_eq xt_g258 rfl (t := 91) rfl (q := 87) rfl (by first | omega | exact hw.1 _ | exact hw.2 _ _ | exact xb_r _) (fun h84 => ?_) (fun h84 => ?_)
    · try simp only [xb_0, xb_1, ne_eq, Decidable.not_not, decide_eq_true_eq, decide_eq_false_iff_not] at h84
      refine xe_s (f := (92, _, xi 4 :: _, _)) xt_g258 rfl rfl rfl rfl rfl ?_
      exact j92 _ (by unfold xd_sk; simp [h84])
    · try simp only [xb_0, xb_1, ne_eq, Decidable.not_not, decide_eq_true_eq, decide_eq_false_iff_not] at h84
      refine xe_s (f := (88, _, xi 5 :: _, _)) xt_g258 rfl rfl rfl rfl rfl ?_
      refine xe_s (f := (92, _, _, _)) xt_g258 rfl rfl rfl rfl rfl ?_
      exact j92 _ (by unfold xd_sk; simp [h84])
  have j57 : ∀ z : Int, z = xb (xd_sc (xd_at s ar)) → xe fm 258 (57, [(0, .ref m)], [xi z], (xo m s ar h0, n, 0, 0)) (fun r M => r = .inl (some (xi (xb (xd_hsc (xd_at s ar))))) ∧ M = (xo m (xo_u (xo_u s 13 (xb (xd_ss (xd_at s ar)))) 3 (xd_sk (xd_at s ar) + 3)) ar h0, n, 0, 0)) := by
    intro z hz
    rw [hz]
    refine xe_s (f := (58, [(1, _), (0, _)], _, _)) xt_g258 rfl rfl rfl rfl rfl ?_
    refine xe_s (f := (59, _, _, _)) xt_g258 rfl rfl rfl rfl rfl ?_
    refine xe_s (f := (60, _, _, _)) xt_g258 rfl rfl rfl rfl rfl ?_
    refine xe_s (f := (61, _, xi 4 :: _, _)) xt_g258 rfl rfl rfl rfl rfl ?_
    refine xe_cvI xt_g258 rfl (q := 64) rfl xk_13_155 rfl (by omega) xt_g249 (by decide) ⟨Nat.le_of_ble_eq_true rfl, Nat.le_of_ble_eq_true rfl, Nat.le_of_ble_eq_true rfl⟩ (xv_charAt fm hmn h2 (by omega)) ?_
    refine xe_csI xt_g258 rfl (q := 67) rfl xk_13_159 rfl (Nat.le_of_ble_eq_true rfl) xt_g251 (by decide) ⟨Nat.le_of_ble_eq_true rfl, Nat.le_of_ble_eq_true rfl, Nat.le_of_ble_eq_true rfl⟩ (xv_small fm (hr _)) ?_
    refine xe_bipush xt_g258 rfl (q := 69) rfl (by decide) (by decide) ?_
    refine xe_ic_ne xt_g258 rfl (t := 76) rfl (q := 72) rfl (by first | omega | exact hw.1 _ | exact hw.2 _ _ | exact xb_r _) (by first | omega | exact hw.1 _ | exact hw.2 _ _ | exact xb_r _) (fun h69 => ?_) (fun h69 => ?_)
    · refine xe_s (f := (77, _, xi 0 :: _, _)) xt_g258 rfl rfl rfl rfl rfl ?_
      exact j77 _ (by unfold xd_ss; simp [xb, h69])
    · refine xe_s (f := (73, _, xi 1 :: _, _)) xt_g258 rfl rfl rfl rfl rfl ?_
      refine xe_s (f := (77, _, _, _)) xt_g258 rfl rfl rfl rfl rfl ?_
      exact j77 _ (by unfold xd_ss; simp [xb, h69])
  refine xe_s (f := (1, _, _, _)) xt_g258 rfl rfl rfl rfl rfl ?_
  refine xe_s (f := (2, _, xi 0 :: _, _)) xt_g258 rfl rfl rfl rfl rfl ?_
  refine xe_cvI xt_g258 rfl (q := 5) rfl xk_13_155 rfl (by omega) xt_g249 (by decide) ⟨Nat.le_of_ble_eq_true rfl, Nat.le_of_ble_eq_true rfl, Nat.le_of_ble_eq_true rfl⟩ (xv_charAt fm hmn h2 (by omega)) ?_
  refine xe_csI xt_g258 rfl (q := 8) rfl xk_13_159 rfl (Nat.le_of_ble_eq_true rfl) xt_g251 (by decide) ⟨Nat.le_of_ble_eq_true rfl, Nat.le_of_ble_eq_true rfl, Nat.le_of_ble_eq_true rfl⟩ (xv_small fm (hr _)) ?_
  refine xe_bipush xt_g258 rfl (q := 10) rfl (by decide) (by decide) ?_
  refine xe_ic_ne xt_g258 rfl (t := 56) rfl (q := 13) rfl (by first | omega | exact hw.1 _ | exact hw.2 _ _ | exact xb_r _) (by first | omega | exact hw.1 _ | exact hw.2 _ _ | exact xb_r _) (fun h10 => ?_) (fun h10 => ?_)
  · refine xe_s (f := (57, _, xi 0 :: _, _)) xt_g258 rfl rfl rfl rfl rfl ?_
    exact j57 _ (by unfold xd_sc; simp [xb, *])
  · refine xe_s (f := (14, _, _, _)) xt_g258 rfl rfl rfl rfl rfl ?_
    refine xe_s (f := (15, _, xi 1 :: _, _)) xt_g258 rfl rfl rfl rfl rfl ?_
    refine xe_cvI xt_g258 rfl (q := 18) rfl xk_13_155 rfl (by omega) xt_g249 (by decide) ⟨Nat.le_of_ble_eq_true rfl, Nat.le_of_ble_eq_true rfl, Nat.le_of_ble_eq_true rfl⟩ (xv_charAt fm hmn h2 (by omega)) ?_
    refine xe_csI xt_g258 rfl (q := 21) rfl xk_13_159 rfl (Nat.le_of_ble_eq_true rfl) xt_g251 (by decide) ⟨Nat.le_of_ble_eq_true rfl, Nat.le_of_ble_eq_true rfl, Nat.le_of_ble_eq_true rfl⟩ (xv_small fm (hr _)) ?_
    refine xe_bipush xt_g258 rfl (q := 23) rfl (by decide) (by decide) ?_
    refine xe_ic_ne xt_g258 rfl (t := 56) rfl (q := 26) rfl (by first | omega | exact hw.1 _ | exact hw.2 _ _ | exact xb_r _) (by first | omega | exact hw.1 _ | exact hw.2 _ _ | exact xb_r _) (fun h23 => ?_) (fun h23 => ?_)
    · refine xe_s (f := (57, _, xi 0 :: _, _)) xt_g258 rfl rfl rfl rfl rfl ?_
      exact j57 _ (by unfold xd_sc; simp [xb, *])
    · refine xe_s (f := (27, _, _, _)) xt_g258 rfl rfl rfl rfl rfl ?_
      refine xe_s (f := (28, _, xi 2 :: _, _)) xt_g258 rfl rfl rfl rfl rfl ?_
      refine xe_cvI xt_g258 rfl (q := 31) rfl xk_13_155 rfl (by omega) xt_g249 (by decide) ⟨Nat.le_of_ble_eq_true rfl, Nat.le_of_ble_eq_true rfl, Nat.le_of_ble_eq_true rfl⟩ (xv_charAt fm hmn h2 (by omega)) ?_
      refine xe_csI xt_g258 rfl (q := 34) rfl xk_13_159 rfl (Nat.le_of_ble_eq_true rfl) xt_g251 (by decide) ⟨Nat.le_of_ble_eq_true rfl, Nat.le_of_ble_eq_true rfl, Nat.le_of_ble_eq_true rfl⟩ (xv_small fm (hr _)) ?_
      refine xe_bipush xt_g258 rfl (q := 36) rfl (by decide) (by decide) ?_
      refine xe_ic_ne xt_g258 rfl (t := 56) rfl (q := 39) rfl (by first | omega | exact hw.1 _ | exact hw.2 _ _ | exact xb_r _) (by first | omega | exact hw.1 _ | exact hw.2 _ _ | exact xb_r _) (fun h36 => ?_) (fun h36 => ?_)
      · refine xe_s (f := (57, _, xi 0 :: _, _)) xt_g258 rfl rfl rfl rfl rfl ?_
        exact j57 _ (by unfold xd_sc; simp [xb, *])
      · refine xe_s (f := (40, _, _, _)) xt_g258 rfl rfl rfl rfl rfl ?_
        refine xe_s (f := (41, _, xi 3 :: _, _)) xt_g258 rfl rfl rfl rfl rfl ?_
        refine xe_cvI xt_g258 rfl (q := 44) rfl xk_13_155 rfl (by omega) xt_g249 (by decide) ⟨Nat.le_of_ble_eq_true rfl, Nat.le_of_ble_eq_true rfl, Nat.le_of_ble_eq_true rfl⟩ (xv_charAt fm hmn h2 (by omega)) ?_
        refine xe_csI xt_g258 rfl (q := 47) rfl xk_13_159 rfl (Nat.le_of_ble_eq_true rfl) xt_g251 (by decide) ⟨Nat.le_of_ble_eq_true rfl, Nat.le_of_ble_eq_true rfl, Nat.le_of_ble_eq_true rfl⟩ (xv_small fm (hr _)) ?_
        refine xe_bipush xt_g258 rfl (q := 49) rfl (by decide) (by decide) ?_
        refine xe_ic_ne xt_g258 rfl (t := 56) rfl (q := 52) rfl (by first | omega | exact hw.1 _ | exact hw.2 _ _ | exact xb_r _) (by first | omega | exact hw.1 _ | exact hw.2 _ _ | exact xb_r _) (fun h49 => ?_) (fun h49 => ?_)
        · refine xe_s (f := (57, _, xi 0 :: _, _)) xt_g258 rfl rfl rfl rfl rfl ?_
          exact j57 _ (by unfold xd_sc; simp [xb, *])
        · refine xe_s (f := (53, _, xi 1 :: _, _)) xt_g258 rfl rfl rfl rfl rfl ?_
          refine xe_s (f := (57, _, _, _)) xt_g258 rfl rfl rfl rfl rfl ?_
          exact j57 _ (by unfold xd_sc; simp [xb, *])
end XHS
