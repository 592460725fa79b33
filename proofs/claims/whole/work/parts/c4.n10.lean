/-! the law: rules; class and reference side by side -/
theorem lg_same (x : Int64) : lg_cmp x x = Int32.ofInt 0 := by
  unfold lg_cmp
  rw [if_neg (by rw [gt_iff_lt, Int64.lt_iff_toInt_lt]; omega), if_pos rfl]
  exact xi_0
theorem xj_r (x : Int32) : xr x.toInt := ⟨Int32.le_toInt x, Int32.toInt_lt x⟩
section XC4
variable {fm : Value} {y pc q n c u a : Nat} {L : xm_L} {Q : xe_Q} {D : xt_D} {r : List Value} {h : xm_H}
theorem xe_hp {S : List Value} {h' : xm_H} (e : h = h') (k : xe fm y (pc, L, S, (h', n, c, u)) Q) : xe fm y (pc, L, S, (h, n, c, u)) Q := Eq.mpr (congrArg (fun h => xe fm y (pc, L, S, (h, n, c, u)) Q) e) k
theorem xe_las {f : Nat → Int64} {x : Int64} (hy : xt_md[y]? = some D) (hi : xt_lk D.2.2.2.2.2 pc = some (.lastore, 1)) (hq : pc + 1 = q) (ha : h a = .inl (4, 1, .inr (.inl f))) (h44 : 44 ≤ a) (hn : a < n) (kk : xe fm y (q, L, r, (va_up h a (.inl (4, 1, .inr (.inl (vp_updL f 0 x)))), n, c, u)) Q) : xe fm y (pc, L, .long x :: xi 0 :: .ref a :: r, (h, n, c, u)) Q := by
  subst hq
  refine xe_s hy hi rfl rfl rfl (f := (pc + 1, L, r, (va_up h a (.inl (4, 1, .inr (.inl (vp_updL f 0 x)))), n, c, u))) ?_ kk
  show xm_las (xt_X fm) 44 pc L (.long x :: xi 0 :: .ref a :: r) (h, n, c, u) = _
  unfold xm_las
  dsimp only
  rw [ha]
  dsimp only
  rw [if_pos ⟨rfl, h44, hn, rfl⟩]
  rfl
theorem xe_lal {f : Nat → Int64} (hy : xt_md[y]? = some D) (hi : xt_lk D.2.2.2.2.2 pc = some (.laload, 1)) (hq : pc + 1 = q) (ha : h a = .inl (4, 1, .inr (.inl f))) (hn : a < n) (kk : xe fm y (q, L, .long (f 0) :: r, (h, n, c, u)) Q) : xe fm y (pc, L, xi 0 :: .ref a :: r, (h, n, c, u)) Q := by
  subst hq
  refine xe_s hy hi rfl rfl rfl (f := (pc + 1, L, .long (f 0) :: r, (h, n, c, u))) ?_ kk
  show xm_lal (xt_X fm) pc L (xi 0 :: .ref a :: r) (h, n, c, u) = _
  unfold xm_lal
  dsimp only
  rw [ha]
  dsimp only
  rw [if_pos ⟨rfl, hn, rfl⟩]
  rfl
variable {M : xm_M}
theorem xe_same {off : Int} {t : Nat} {x : Int32} (hy : xt_md[y]? = some D) (hi : xt_lk D.2.2.2.2.2 pc = some (.if_icmp .eq off, 3)) (hj : xm_j pc off = some t) (kk : xe fm y (t, L, r, M) Q) : xe fm y (pc, L, .int x :: .int x :: r, M) Q := by
  refine xe_s hy hi rfl rfl rfl (f := (t, L, r, M)) ?_ kk
  show xm_br (decide (x = x)) off pc L r M = _
  unfold xm_br
  rw [hj]
  dsimp only
  rw [if_pos (decide_eq_true rfl)]
theorem xe_ifz {off : Int} {t : Nat} {x : Int32} (hy : xt_md[y]? = some D) (hi : xt_lk D.2.2.2.2.2 pc = some (.ifCond .eq off, 3)) (hj : xm_j pc off = some t) (hq : pc + 3 = q) (k1 : x = 0 → xe fm y (t, L, r, M) Q) (k2 : ¬ x = 0 → xe fm y (q, L, r, M) Q) : xe fm y (pc, L, .int x :: r, M) Q := by
  subst hq
  by_cases g : x = 0
  · refine xe_s hy hi rfl rfl rfl (f := (t, L, r, M)) ?_ (k1 g)
    show xm_br (decide (x = 0)) off pc L r M = _
    unfold xm_br
    rw [hj]
    dsimp only
    rw [if_pos (decide_eq_true g)]
  · refine xe_s hy hi rfl rfl rfl (f := (pc + 3, L, r, M)) ?_ (k2 g)
    show xm_br (decide (x = 0)) off pc L r M = _
    unfold xm_br
    rw [hj]
    dsimp only
    rw [if_neg (fun e => g (of_decide_eq_true e))]
theorem xe_lcs {x : Int64} (hy : xt_md[y]? = some D) (hi : xt_lk D.2.2.2.2.2 pc = some (.lcmp, 1)) (hq : pc + 1 = q) (kk : xe fm y (q, L, xi 0 :: r, M) Q) : xe fm y (pc, L, .long x :: .long x :: r, M) Q := by
  subst hq
  refine xe_s hy hi rfl rfl rfl (f := (pc + 1, L, xi 0 :: r, M)) ?_ kk
  show some (pc + 1, L, Value.int (lg_cmp x x) :: r, M) = _
  rw [lg_same]
/-- a call that throws, and is caught -/
theorem xe_cY {ins : Instr} {ln y' b d hh ct : Nat} {S As r0 : List Value} {D' : xt_D} {P : xm_H → Nat → Nat → Prop} (hy : xt_md[y]? = some D) (hi : xt_lk D.2.2.2.2.2 pc = some (ins, ln)) (he : xm_end (xt_y D) ins S = none) (ht : xm_thr (xt_P fm) (xt_y D) ins pc S (h, n, c, u) = none) (_ : pc + 3 = q) (hc : xm_call (xt_P fm) D.1.cls ins S (h, n, c, u) = some (y', As, r0)) (hy' : xt_md[y']? = some D') (hd : xt_dp y' < xt_dp y) (hsl : (lg_sl As).length ≤ D'.2.2.1 ∧ D'.2.2.1 ≤ 41 ∧ (r0.map fun v => v.category).sum ≤ 8) (hf : xY fm y' h n As P) (hH : D.2.2.2.2.1 = [(b, d, hh, ct)]) (hr : b ≤ pc ∧ pc < d) (hct : xt_ct D.1.cls ct = some 15) (h0 : ct ≠ 0) (kk : ∀ x h' n' c' u', P h' n' u' → xe fm y (hh, L, [.ref x], (h', n', c + c', u + u')) Q) : xe fm y (pc, L, S, (h, n, c, u)) Q := by
  refine xe_call hy hi he ht hc hy' hd hsl hf (fun v m1 hm => ?_) (fun x m1 hm => ?_)
  · obtain ⟨x, e1, _⟩ := hm
    cases e1
  · obtain ⟨x', e1, e2, e3, e4⟩ := hm
    cases e1
    have e : xm_hnd (xt_P fm) (xt_y D) pc x m1 = some (some hh) := by
      show (match D.2.2.2.2.1 with
        | [] => some none
        | [(a, b, h, ct)] => if a ≤ pc ∧ pc < b then match xt_ct D.1.cls ct, m1.1 x with
            | some ci, .inr (cj, _) => if ci = cj ∧ x < m1.2.1 ∧ ct ≠ 0 then some (some h) else none
            | _, _ => none
          else some none
        | _ => none) = some (some hh)
      rw [hH]
      dsimp only
      rw [if_pos hr, hct, e2]
      dsimp only
      rw [if_pos ⟨rfl, e3, h0⟩]
    unfold xe_x
    rw [e]
    exact kk x _ _ _ _ e4
end XC4
/-- the class holds u in the heap H -/
def jC (H : xm_H) (n : Nat) (kc : Nat → Nat) (u : mu_T) (dp : Nat → Nat) : Prop := ∃ w s p ar v h t, H = ko w s p ar v h ∧ cS w s p ar v h n t kc u dp
/-- the reference does -/
def jM (H : xm_H) (u : mu_T) : Prop := ∃ s ar, H = xo 64 s ar H ∧ rf s ar u
/-- a call of the class, seen from without -/
def jD (B C : Nat) (H : xm_H) (n : Nat) (kc : Nat → Nat) (H' : xm_H) (n' u' : Nat) (u : mu_T) (dp : Nat → Nat) : Prop := ∃ kc', jC H' n' kc' u dp ∧ n ≤ n' ∧ kt kc ≤ kt kc' ∧ n' ≤ n + C + (kt kc' - kt kc) ∧ u' ≤ B + 2 * (kt kc' - kt kc) ∧ ∀ a, (a = 0 ∨ 64 ≤ a) → a < 107 → H' a = H a
def jO (H : xm_H) (f : Nat → Int64) : Prop := H 107 = .inl (4, 1, .inr (.inl f))
section XC4b
variable {fm : Value} {w : kW} {s : Nat → Int} {p : Nat → Nat} {ar : Nat → Nat → Option Nat} {v : Nat → Int} {h H H' : xm_H} {n n' u' B C B' C' : Nat} {t : Nat → List Int} {kc : Nat → Nat} {u u2 : mu_T} {dp : Nat → Nat} {f : Nat → Int64}
theorem jD_m (D : jD B C H n kc H' n' u' u dp) (h1 : B ≤ B') (h2 : C ≤ C') : jD B' C' H n kc H' n' u' u dp := by
  obtain ⟨kc', d1, d2, d3, d4, d5, d6⟩ := D
  exact ⟨kc', d1, d2, d3, by omega, by omega, d6⟩
theorem jD_cR (W0 : 108 ≤ n) (O : jO (ko w s p ar v h) f) (R : cR B C h n kc H' n' u' u dp) (h1 : B ≤ 5190) (h2 : C ≤ 869) : jD 5190 869 (ko w s p ar v h) n kc H' n' u' u dp ∧ jO H' f := by
  obtain ⟨w', s', p', ar', v', h1', t', kc', e, ⟨r1, r2, r3, r4, r5⟩, S⟩ := R
  subst e
  have dyx : ∀ a, (a = 0 ∨ 64 ≤ a) → dy a := fun a g => by unfold dy; omega
  refine ⟨⟨kc', ⟨w', s', p', ar', v', h1', t', rfl, S⟩, r1, r2, by omega, by omega, fun a g g' => ?_⟩, ?_⟩
  · rw [ko_d (dyx a g), ko_d (dyx a g)]
    exact r5 a (by omega) g (by omega)
  · unfold jO at O ⊢
    rw [ko_d (dyx 107 (by omega))] at O ⊢
    exact (r5 107 (by omega) (by omega) (by omega)).trans O
theorem jD_0 (S : cS w s p ar v h n t kc u dp) : jD 5190 869 (ko w s p ar v h) n kc (ko w s p ar v h) n 0 u dp := ⟨kc, ⟨w, s, p, ar, v, h, t, rfl, S⟩, Nat.le_refl _, Nat.le_refl _, by omega, by omega, fun _ _ _ => rfl⟩
/-- out[0] is set -/
theorem jD_out {x : Int64} (D : jD B C H n kc H' n' u' u dp) : jD B C H n kc (va_up H' 107 (.inl (4, 1, .inr (.inl (vp_updL f 0 x))))) n' u' u dp ∧ jO (va_up H' 107 (.inl (4, 1, .inr (.inl (vp_updL f 0 x))))) (vp_updL f 0 x) := by
  obtain ⟨kc', ⟨w', s', p', ar', v', h1, t', e, S⟩, d2, d3, d4, d5, d6⟩ := D
  subst e
  refine ⟨⟨kc', ⟨w', s', p', ar', v', va_up (ko w' s' p' ar' v' h1) 107 (.inl (4, 1, .inr (.inl (vp_updL f 0 x)))), t', ko_fix (h0 := h1) (fun a d => va_up_n ?_), cS_kg S (fun a d g => ?_)⟩, d2, d3, d4, d5, fun a g g' => ?_⟩, va_up_s⟩
  · unfold dy at d
    omega
  · rw [va_up_n (by omega), ko_d d]
  · rw [va_up_n (by omega)]
    exact d6 a g g'
theorem xo_ou {m : Nat} {s : Nat → Int} {ar : Nat → Nat → Int} {a : Nat} (g : a < m ∨ m + 42 < a) : xo m s ar H a = H a := by
  unfold xo
  rw [if_neg (by omega)]
  by_cases g' : a < m
  · rw [if_pos g']
  · rw [if_neg g', List.getElem?_eq_none (by rw [xo_Alen]; omega)]
theorem xo_ci {m : Nat} {s : Nat → Int} {ar : Nat → Nat → Int} {a : Nat} (g : m ≤ a) (g' : a ≤ m + 42) : xo m s ar H a = xo m s ar H' a := by
  unfold xo
  by_cases e : a = m
  · rw [if_pos e, if_pos e]
  · rw [if_neg e, if_neg e, if_neg (by omega), if_neg (by omega), List.getElem?_eq_getElem (by rw [xo_Alen]; omega)]
theorem xo_xo {m : Nat} {s s' : Nat → Int} {ar ar' : Nat → Nat → Int} : xo m s ar (xo m s' ar' H) = xo m s ar H := by
  funext a
  by_cases g : m ≤ a ∧ a ≤ m + 42
  · exact xo_ci g.1 g.2
  · rw [xo_ou (by omega), xo_ou (by omega), xo_ou (by omega)]
theorem jM_d {s : Nat → Int} {ar : Nat → Nat → Int} (e : H = xo 64 s ar H) (d : ∀ a, (a = 0 ∨ 64 ≤ a) → a < 107 → H' a = H a) : H' = xo 64 s ar H' := by
  funext a
  by_cases g : 64 ≤ a ∧ a ≤ 106
  · rw [d a (Or.inr g.1) (by omega)]
    exact (congrFun e a).trans (xo_ci g.1 g.2)
  · rw [xo_ou (by omega)]
end XC4b
/-- the locals at the head of the law's loop -/
abbrev lLs (i : Int) : xm_L := [(4, xi i), (3, .ref 107), (2, .ref 64), (1, .ref 44), (0, .ref 0)]
/-- at the head of the loop -/
def jJ (L : Nat) (xs : Nat → Int32) (k : Nat) (H : xm_H) (n us : Nat) : Prop := ∃ kc u dp, H 0 = .inl (0, L, .inl xs) ∧ (∃ f, jO H f) ∧ jC H n kc u dp ∧ jM H u ∧ mI u dp ∧ n ≤ 108 + 870 * k + kt kc ∧ us ≤ 100000 + 5200 * k + 2 * kt kc
/-- the class has made its call, the reference not yet -/
def jX (L : Nat) (xs : Nat → Int32) (k : Nat) (H : xm_H) (n us : Nat) (u2 : mu_T) (dp2 : Nat → Nat) (f : Nat → Int64) : Prop := ∃ kc, H 0 = .inl (0, L, .inl xs) ∧ jO H f ∧ jC H n kc u2 dp2 ∧ n ≤ 108 + 870 * (k + 1) + kt kc ∧ us ≤ 100000 + 5200 * (k + 1) + 2 * kt kc
section XC4c
variable {L k n n' us u' : Nat} {xs : Nat → Int32} {H H' : xm_H} {kc : Nat → Nat} {u u2 : mu_T} {dp dp2 : Nat → Nat} {f : Nat → Int64}
set_option maxRecDepth 4000 in
theorem jX_d (h0 : H 0 = .inl (0, L, .inl xs)) (b1 : n ≤ 108 + 870 * k + kt kc) (b2 : us ≤ 100000 + 5200 * k + 2 * kt kc) (D : jD 5190 869 H n kc H' n' u' u2 dp2 ∧ jO H' f) : jX L xs k H' n' (us + u') u2 dp2 f := by
  obtain ⟨⟨kc', d1, d2, d3, d4, d5, d6⟩, O⟩ := D
  exact ⟨kc', (d6 0 (Or.inl rfl) (by omega)).trans h0, O, d1, by omega, by omega⟩
theorem jX_n (X : jX L xs k H n us u2 dp2 f) : 108 ≤ n := by
  obtain ⟨kc, x1, x2, ⟨w, s, p, ar, v, h, t, e, S⟩, x4, x5⟩ := X
  exact S.1.1.1
theorem jX_J (X : jX L xs k H n us u2 dp2 f) {s' : Nat → Int} {ar' : Nat → Nat → Int} (R : rf s' ar' u2) (I : mI u2 dp2) : jJ L xs (k + 1) (xo 64 s' ar' H) n us := by
  obtain ⟨kc, x1, x2, ⟨w, s, p, ar, v, h, t, e, S⟩, x4, x5⟩ := X
  refine ⟨kc, u2, dp2, (xo_ou (by omega)).trans x1, ⟨f, (xo_ou (by omega)).trans x2⟩, ⟨w, s, p, ar, v, xo 64 s' ar' H, t, ko_fix (h0 := h) (fun a d => ?_), cS_kg S (fun a d g => ?_)⟩, ⟨s', ar', xo_xo.symm, R⟩, I, x4, x5⟩
  · rw [xo_ou (by unfold dy at d; omega), e]
  · rw [xo_ou (by omega), e, ko_d d]
end XC4c
