/-! append of a number -/
def dgT (h : xm_H) : Prop := (∃ f : Nat → Int32, h 41 = .inl (1, 100, .inl f) ∧ ∀ r, r < 100 → f r = Int32.ofInt (48 + ((r % 10 : Nat) : Int))) ∧ ∃ f : Nat → Int32, h 42 = .inl (1, 100, .inl f) ∧ ∀ r, r < 100 → f r = Int32.ofInt (48 + ((r / 10 : Nat) : Int))
def gJ (g : Nat → Int32) (l T : List Int) (p : Int) : Prop := (∀ i, i < l.length → g i = Int32.ofInt (l.getD i 0)) ∧ ∀ j, j < T.length → g (p.toNat + j) = Int32.ofInt (T.getD j 0)
theorem gJ_w {g : Nat → Int32} {l T : List Int} {p c : Int} (H : gJ g l T p) (h : (l.length : Int) < p) : gJ (upd g (p + -1).toNat (Int32.ofInt c)) l (c :: T) (p + -1) := by
  constructor
  · intro i hi
    unfold upd
    rw [if_neg (by omega)]
    exact H.1 i hi
  · intro j hj
    unfold upd
    cases j with
    | zero =>
      rw [if_pos (by omega)]
      rfl
    | succ j =>
      rw [if_neg (by omega), show (p + -1).toNat + (j + 1) = p.toNat + j by omega, H.2 j (by simpa using hj)]
      rfl
section XNG
variable {fm : Value} {h : xm_H} {n s b k : Nat} {l : List Int}
theorem s45_end (D : dgT h) (h44 : 44 ≤ b) (hn : b < n) (hk : k < 20000) {v : Int} {m : Nat} {ng p ix : Int} {g : Nat → Int32} {T : List Int} {hh : xm_H} {c u : Nat} (hm : m < 100) (hng : ng = 0 ∨ ng = 1) (hp : p = l.length + ng + (dg m).length) (hpk : p ≤ k) (hb : hh b = .inl (1, k, .inl g)) (ho : ∀ a, a ≠ b → hh a = h a) (HJ : gJ g l T p) :
    xe fm 45 (72, [(5, xi p), (6, xi ng), (0, xi (-(m : Int))), (2, .ref b)], [], (hh, n, c, u)) (fun r M => ∃ z : Int, r = .inl (some (xi z)) ∧ M.2.1 = n ∧ M.2.2.2 = u ∧ (∀ a, a ≠ b → M.1 a = h a) ∧ ∃ g', M.1 b = .inl (1, k, .inl g') ∧ gJ g' l ((if ng = 1 then [45] else []) ++ (dg m ++ T)) l.length) := by
  obtain ⟨⟨f1, d1, d2⟩, f2, d3, d4⟩ := D
  have o1 : ∀ r, r < 100 → -128 ≤ (48 + ((r % 10 : Nat) : Int)) ∧ (48 + ((r % 10 : Nat) : Int)) < 128 := fun r hr => by omega
  have dp := dg_pos (m := m)
  have lo : m < 10 → dg m = [48 + ((m % 10 : Nat) : Int)] := fun e => by rw [dg_lo e, Nat.mod_eq_of_lt e]
  have hi : 10 ≤ m → dg m = [48 + ((m / 10 : Nat) : Int), 48 + ((m % 10 : Nat) : Int)] := fun e => by
    rw [dg_hi e, dg_lo (by omega)]
    rfl
  have mm : (- -(m : Int)).toNat = m := by omega
  have lo' : m < 10 → (dg m).length = 1 := fun e => by rw [lo e]; rfl
  have hi' : 10 ≤ m → (dg m).length = 2 := fun e => by rw [hi e]; rfl
  refine xe_s (f := (73, _, _, _)) xt_g45 rfl rfl rfl rfl rfl ?_
  refine xe_iinc xt_g45 rfl (q := 76) rfl rfl (by decide) (L1 := [(5, _), (6, _), (0, _), (2, _)]) rfl ?_
  refine xe_s (f := (78, _, _, _)) xt_g45 rfl rfl rfl rfl rfl ?_
  refine xe_s (f := (81, _, .ref 41 :: _, _)) xt_g45 rfl rfl rfl rfl rfl ?_
  refine xe_s (f := (82, _, _, _)) xt_g45 rfl rfl rfl rfl rfl ?_
  refine xe_ineg xt_g45 rfl (q := 83) rfl ?_
  refine xe_al (ok := xm_isB) (ty := .byte) xt_g45 rfl (q := 84) rfl (fun _ _ => ⟨rfl, rfl, rfl, rfl⟩) ((ho 41 (by omega)).trans d1) rfl rfl (by omega) (by omega) (by omega) (by omega) ((by rw [mm]; exact d2 m hm)) ?_
  refine xe_as (ok := xm_isB) (ty := .byte) xt_g45 rfl (q := 85) rfl (fun _ _ => ⟨rfl, rfl, rfl, rfl⟩) (hb) rfl rfl (by omega) (by omega) (by omega) (by omega) (by omega) (xi_ny (by omega)) ?_
  refine xe_s (f := (86, _, _, _)) xt_g45 rfl rfl rfl rfl rfl ?_
  refine xe_bipush xt_g45 rfl (q := 88) rfl (by decide) (by decide) ?_
  refine xe_ic_ge xt_g45 rfl (t := 104) rfl (q := 91) rfl (by first | omega | exact xb_r _) (by first | omega | exact xb_r _) (fun b88 => ?_) (fun b88 => ?_)
  · try simp only [xb_0, xb_1, ne_eq, Decidable.not_not, decide_eq_true_eq, decide_eq_false_iff_not] at b88
    have J1 := gJ_w (c := 48 + ((m % 10 : Nat) : Int)) HJ (by omega)
    have e := lo (by omega)
    refine xe_s (f := (106, _, _, _)) xt_g45 rfl rfl rfl rfl rfl ?_
    refine xe_if_eq xt_g45 rfl (t := 118) rfl (q := 109) rfl (by first | omega | exact xb_r _) (fun b106 => ?_) (fun b106 => ?_)
    · try simp only [xb_0, xb_1, ne_eq, Decidable.not_not, decide_eq_true_eq, decide_eq_false_iff_not] at b106
      refine xe_s (f := (120, _, _, _)) xt_g45 rfl rfl rfl rfl rfl ?_
      refine xe_iret xt_g45 rfl rfl xi_int.1 ?_
      try dsimp only
      refine ⟨_, rfl, rfl, rfl, fun a ha => ?_, _, va_up_s, ?_⟩
      · repeat rw [va_up_n ha]
        exact ho a ha
      · rw [e, if_neg (by omega), List.nil_append]
        first
        | rw [show (l.length : Int) = p + -1 by omega]; exact J1
        | rw [show (l.length : Int) = p + -1 + -1 by omega]; exact J1
    · try simp only [xb_0, xb_1, ne_eq, Decidable.not_not, decide_eq_true_eq, decide_eq_false_iff_not] at b106
      refine xe_s (f := (110, _, _, _)) xt_g45 rfl rfl rfl rfl rfl ?_
      refine xe_iinc xt_g45 rfl (q := 113) rfl rfl (by decide) (L1 := [(5, _), (6, _), (0, _), (2, _)]) rfl ?_
      refine xe_s (f := (115, _, _, _)) xt_g45 rfl rfl rfl rfl rfl ?_
      refine xe_bipush xt_g45 rfl (q := 117) rfl (by decide) (by decide) ?_
      refine xe_as (ok := xm_isB) (ty := .byte) xt_g45 rfl (q := 118) rfl (fun _ _ => ⟨rfl, rfl, rfl, rfl⟩) (va_up_s) rfl rfl (by omega) (by omega) (by omega) (by omega) (by omega) (xi_ny (by omega)) ?_
      refine xe_s (f := (120, _, _, _)) xt_g45 rfl rfl rfl rfl rfl ?_
      refine xe_iret xt_g45 rfl rfl xi_int.1 ?_
      try dsimp only
      have J2 := gJ_w (c := 45) J1 (by omega)
      refine ⟨_, rfl, rfl, rfl, fun a ha => ?_, _, va_up_s, ?_⟩
      · repeat rw [va_up_n ha]
        exact ho a ha
      · rw [e, if_pos (by omega)]
        first
        | rw [show (l.length : Int) = p + -1 + -1 by omega]; exact J2
        | rw [show (l.length : Int) = p + -1 + -1 + -1 by omega]; exact J2
  · try simp only [xb_0, xb_1, ne_eq, Decidable.not_not, decide_eq_true_eq, decide_eq_false_iff_not] at b88
    have J1 := gJ_w (c := 48 + ((m / 10 : Nat) : Int)) (gJ_w (c := 48 + ((m % 10 : Nat) : Int)) HJ (by omega)) (by omega)
    have e := hi (by omega)
    refine xe_s (f := (92, _, _, _)) xt_g45 rfl rfl rfl rfl rfl ?_
    refine xe_iinc xt_g45 rfl (q := 95) rfl rfl (by decide) (L1 := [(5, _), (6, _), (0, _), (2, _)]) rfl ?_
    refine xe_s (f := (97, _, _, _)) xt_g45 rfl rfl rfl rfl rfl ?_
    refine xe_s (f := (100, _, .ref 42 :: _, _)) xt_g45 rfl rfl rfl rfl rfl ?_
    refine xe_s (f := (101, _, _, _)) xt_g45 rfl rfl rfl rfl rfl ?_
    refine xe_ineg xt_g45 rfl (q := 102) rfl ?_
    refine xe_al (ok := xm_isB) (ty := .byte) xt_g45 rfl (q := 103) rfl (fun _ _ => ⟨rfl, rfl, rfl, rfl⟩) ((va_up_n (by omega)).trans ((ho 42 (by omega)).trans d3)) rfl rfl (by omega) (by omega) (by omega) (by omega) ((by rw [mm]; exact d4 m hm)) ?_
    refine xe_as (ok := xm_isB) (ty := .byte) xt_g45 rfl (q := 104) rfl (fun _ _ => ⟨rfl, rfl, rfl, rfl⟩) (va_up_s) rfl rfl (by omega) (by omega) (by omega) (by omega) (by omega) (xi_ny (by omega)) ?_
    refine xe_s (f := (106, _, _, _)) xt_g45 rfl rfl rfl rfl rfl ?_
    refine xe_if_eq xt_g45 rfl (t := 118) rfl (q := 109) rfl (by first | omega | exact xb_r _) (fun b106 => ?_) (fun b106 => ?_)
    · try simp only [xb_0, xb_1, ne_eq, Decidable.not_not, decide_eq_true_eq, decide_eq_false_iff_not] at b106
      refine xe_s (f := (120, _, _, _)) xt_g45 rfl rfl rfl rfl rfl ?_
      refine xe_iret xt_g45 rfl rfl xi_int.1 ?_
      try dsimp only
      refine ⟨_, rfl, rfl, rfl, fun a ha => ?_, _, va_up_s, ?_⟩
      · repeat rw [va_up_n ha]
        exact ho a ha
      · rw [e, if_neg (by omega), List.nil_append]
        first
        | rw [show (l.length : Int) = p + -1 by omega]; exact J1
        | rw [show (l.length : Int) = p + -1 + -1 by omega]; exact J1
    · try simp only [xb_0, xb_1, ne_eq, Decidable.not_not, decide_eq_true_eq, decide_eq_false_iff_not] at b106
      refine xe_s (f := (110, _, _, _)) xt_g45 rfl rfl rfl rfl rfl ?_
      refine xe_iinc xt_g45 rfl (q := 113) rfl rfl (by decide) (L1 := [(5, _), (6, _), (0, _), (2, _)]) rfl ?_
      refine xe_s (f := (115, _, _, _)) xt_g45 rfl rfl rfl rfl rfl ?_
      refine xe_bipush xt_g45 rfl (q := 117) rfl (by decide) (by decide) ?_
      refine xe_as (ok := xm_isB) (ty := .byte) xt_g45 rfl (q := 118) rfl (fun _ _ => ⟨rfl, rfl, rfl, rfl⟩) (va_up_s) rfl rfl (by omega) (by omega) (by omega) (by omega) (by omega) (xi_ny (by omega)) ?_
      refine xe_s (f := (120, _, _, _)) xt_g45 rfl rfl rfl rfl rfl ?_
      refine xe_iret xt_g45 rfl rfl xi_int.1 ?_
      try dsimp only
      have J2 := gJ_w (c := 45) J1 (by omega)
      refine ⟨_, rfl, rfl, rfl, fun a ha => ?_, _, va_up_s, ?_⟩
      · repeat rw [va_up_n ha]
        exact ho a ha
      · rw [e, if_pos (by omega)]
        first
        | rw [show (l.length : Int) = p + -1 + -1 by omega]; exact J2
        | rw [show (l.length : Int) = p + -1 + -1 + -1 by omega]; exact J2
theorem s45_loop (D : dgT h) (h44 : 44 ≤ b) (hn : b < n) (hk : k < 20000) {ng ix : Int} (hng : ng = 0 ∨ ng = 1) (m0 : Nat) : ∀ (m : Nat), m ≤ m0 → m ≤ 2147483648 → ∀ (p : Int) (g : Nat → Int32) (T : List Int) (hh : xm_H) (c u : Nat), p = l.length + ng + (dg m).length → p ≤ k → hh b = .inl (1, k, .inl g) → (∀ a, a ≠ b → hh a = h a) → gJ g l T p →
    xe fm 45 (22, [(5, xi p), (6, xi ng), (0, xi (-(m : Int))), (2, .ref b)], [], (hh, n, c, u)) (fun r M => ∃ z : Int, r = .inl (some (xi z)) ∧ M.2.1 = n ∧ M.2.2.2 = u ∧ (∀ a, a ≠ b → M.1 a = h a) ∧ ∃ g', M.1 b = .inl (1, k, .inl g') ∧ gJ g' l ((if ng = 1 then [45] else []) ++ (dg m ++ T)) l.length) := by
  have D' := D
  obtain ⟨⟨f1, d1, d2⟩, f2, d3, d4⟩ := D
  induction m0 with
  | zero =>
    intro m hm hm2 p g T hh c u hp hpk hb ho HJ
    refine xe_s (f := (23, _, _, _)) xt_g45 rfl rfl rfl rfl rfl ?_
    refine xe_bipush xt_g45 rfl (q := 25) rfl (by decide) (by decide) ?_
    refine xe_ic_gt xt_g45 rfl (t := 72) rfl (q := 28) rfl (by first | omega | exact xb_r _) (by first | omega | exact xb_r _) (fun b25 => ?_) (fun b25 => ?_)
    · try simp only [xb_0, xb_1, ne_eq, Decidable.not_not, decide_eq_true_eq, decide_eq_false_iff_not] at b25
      exact s45_end D' h44 hn hk (v := 0) (ix := 0) (by omega) hng hp hpk hb ho HJ
    · exact absurd b25 (by omega)
  | succ m0 ih =>
    intro m hm hm2 p g T hh c u hp hpk hb ho HJ
    have tw : 100 ≤ m → dg m = dg (m / 100) ++ [48 + ((m % 100 / 10 : Nat) : Int), 48 + ((m % 10 : Nat) : Int)] := fun e => dg_two e
    have tw' : 100 ≤ m → (dg m).length = (dg (m / 100)).length + 2 := fun e => by rw [tw e, List.length_append]; rfl
    have dp := dg_pos (m := m / 100)
    refine xe_s (f := (23, _, _, _)) xt_g45 rfl rfl rfl rfl rfl ?_
    refine xe_bipush xt_g45 rfl (q := 25) rfl (by decide) (by decide) ?_
    refine xe_ic_gt xt_g45 rfl (t := 72) rfl (q := 28) rfl (by first | omega | exact xb_r _) (by first | omega | exact xb_r _) (fun b25 => ?_) (fun b25 => ?_)
    · try simp only [xb_0, xb_1, ne_eq, Decidable.not_not, decide_eq_true_eq, decide_eq_false_iff_not] at b25
      exact s45_end D' h44 hn hk (v := 0) (ix := 0) (by omega) hng hp hpk hb ho HJ
    · try simp only [xb_0, xb_1, ne_eq, Decidable.not_not, decide_eq_true_eq, decide_eq_false_iff_not] at b25
      have tl := tw' (by omega)
      refine xe_s (f := (29, _, _, _)) xt_g45 rfl rfl rfl rfl rfl ?_
      refine xe_bipush xt_g45 rfl (q := 31) rfl (by decide) (by decide) ?_
      refine xe_idivn xt_g45 rfl (q := 32) rfl hm2 ?_
      refine xe_s (f := (33, [(3, _), (5, _), (6, _), (0, _), (2, _)], _, _)) xt_g45 rfl rfl rfl rfl rfl ?_
      refine xe_s (f := (34, _, _, _)) xt_g45 rfl rfl rfl rfl rfl ?_
      refine xe_bipush xt_g45 rfl (q := 36) rfl (by decide) (by decide) ?_
      refine xe_imul xt_g45 rfl (q := 37) rfl ?_
      refine xe_s (f := (38, _, _, _)) xt_g45 rfl rfl rfl rfl rfl ?_
      refine xe_isub xt_g45 rfl (q := 39) rfl ?_
      rw [show -((m / 100 : Nat) : Int) * 100 - -(m : Int) = ((m % 100 : Nat) : Int) by omega]
      refine xe_s (f := (41, [(4, _), (3, _), (5, _), (6, _), (0, _), (2, _)], _, _)) xt_g45 rfl rfl rfl rfl rfl ?_
      refine xe_s (f := (42, _, _, _)) xt_g45 rfl rfl rfl rfl rfl ?_
      refine xe_s (f := (43, [(0, _), (4, _), (3, _), (5, _), (6, _), (2, _)], _, _)) xt_g45 rfl rfl rfl rfl rfl ?_
      refine xe_s (f := (44, _, _, _)) xt_g45 rfl rfl rfl rfl rfl ?_
      refine xe_iinc xt_g45 rfl (q := 47) rfl rfl (by decide) (L1 := [(5, _), (0, _), (4, _), (3, _), (6, _), (2, _)]) rfl ?_
      refine xe_s (f := (49, _, _, _)) xt_g45 rfl rfl rfl rfl rfl ?_
      refine xe_s (f := (52, _, .ref 41 :: _, _)) xt_g45 rfl rfl rfl rfl rfl ?_
      refine xe_s (f := (54, _, _, _)) xt_g45 rfl rfl rfl rfl rfl ?_
      refine xe_al (ok := xm_isB) (ty := .byte) xt_g45 rfl (q := 55) rfl (fun _ _ => ⟨rfl, rfl, rfl, rfl⟩) ((ho 41 (by omega)).trans d1) rfl rfl (by omega) (by omega) (by omega) (by omega) ((by rw [Int.toNat_natCast]; exact d2 (m % 100) (by omega))) ?_
      refine xe_as (ok := xm_isB) (ty := .byte) xt_g45 rfl (q := 56) rfl (fun _ _ => ⟨rfl, rfl, rfl, rfl⟩) (hb) rfl rfl (by omega) (by omega) (by omega) (by omega) (by omega) (xi_ny (by omega)) ?_
      refine xe_s (f := (57, _, _, _)) xt_g45 rfl rfl rfl rfl rfl ?_
      refine xe_iinc xt_g45 rfl (q := 60) rfl rfl (by decide) (L1 := [(5, _), (0, _), (4, _), (3, _), (6, _), (2, _)]) rfl ?_
      refine xe_s (f := (62, _, _, _)) xt_g45 rfl rfl rfl rfl rfl ?_
      refine xe_s (f := (65, _, .ref 42 :: _, _)) xt_g45 rfl rfl rfl rfl rfl ?_
      refine xe_s (f := (67, _, _, _)) xt_g45 rfl rfl rfl rfl rfl ?_
      refine xe_al (ok := xm_isB) (ty := .byte) xt_g45 rfl (q := 68) rfl (fun _ _ => ⟨rfl, rfl, rfl, rfl⟩) ((va_up_n (by omega)).trans ((ho 42 (by omega)).trans d3)) rfl rfl (by omega) (by omega) (by omega) (by omega) ((by rw [Int.toNat_natCast]; exact d4 (m % 100) (by omega))) ?_
      refine xe_as (ok := xm_isB) (ty := .byte) xt_g45 rfl (q := 69) rfl (fun _ _ => ⟨rfl, rfl, rfl, rfl⟩) (va_up_s) rfl rfl (by omega) (by omega) (by omega) (by omega) (by omega) (xi_ny (by omega)) ?_
      refine xe_s (f := (22, _, _, _)) xt_g45 rfl rfl rfl rfl rfl ?_
      have J1 := gJ_w (c := 48 + ((m % 100 / 10 : Nat) : Int)) (gJ_w (c := 48 + ((m % 100 % 10 : Nat) : Int)) HJ (by omega)) (by omega)
      have g := ih (m / 100) (by omega) (by omega) (p + -1 + -1) _ _ (va_up (va_up hh b (.inl (1, k, .inl (upd g (p + -1).toNat (Int32.ofInt (48 + ((m % 100 % 10 : Nat) : Int))))))) b (.inl (1, k, .inl (upd (upd g (p + -1).toNat (Int32.ofInt (48 + ((m % 100 % 10 : Nat) : Int)))) (p + -1 + -1).toNat (Int32.ofInt (48 + ((m % 100 / 10 : Nat) : Int))))))) c u (by omega) (by omega) va_up_s (fun a ha => (va_up_n ha).trans ((va_up_n ha).trans (ho a ha))) J1
      rw [show dg (m / 100) ++ (48 + ((m % 100 / 10 : Nat) : Int)) :: (48 + ((m % 100 % 10 : Nat) : Int)) :: T = dg m ++ T by rw [tw (by omega), List.append_assoc, show m % 100 % 10 = m % 10 by omega]; rfl] at g
      exact xe_loc (by intro q hq; simp only [List.mem_cons, List.not_mem_nil, or_false] at hq; rcases hq with rfl | rfl | rfl | rfl <;> rfl) (g)
theorem nlen_len {v : Int} (hv : xr v) : (nm_txt v).length = nlen v := by
  rw [nm_txt_dg hv]
  unfold nlen
  rw [List.length_append]
  split <;> simp
theorem s45 (D : dgT h) (h44 : 44 ≤ b) (hn : b < n) (hk : k < 20000) {v ix : Int} {f : Nat → Int32} (hv : xr v) (hb : h b = .inl (1, k, .inl f)) (hl : ∀ i, i < l.length → f i = Int32.ofInt (l.getD i 0)) (hi : ix = l.length + nlen v) (hik : ix ≤ k) : xI fm 45 h n [xi v, xi ix, .ref b] (fun z h' n' u' => n' = n ∧ u' = 0 ∧ sA h' b k (l ++ nm_txt v) ∧ ∀ a, a ≠ b → h' a = h a) := by
  have fin : ∀ (ng : Int) (g' : Nat → Int32) (h' : xm_H), (if ng = 1 then [45] else []) ++ (dg v.natAbs ++ []) = nm_txt v → h' b = .inl (1, k, .inl g') → gJ g' l ((if ng = 1 then [45] else []) ++ (dg v.natAbs ++ [])) l.length → sA h' b k (l ++ nm_txt v) := by
    intro ng g' h' e1 e2 e3
    rw [e1] at e3
    refine ⟨g', e2, by rw [List.length_append]; have := nlen_len hv; omega, fun i hi => ?_⟩
    rw [List.length_append] at hi
    by_cases e : i < l.length
    · rw [xg_l e]
      exact e3.1 i e
    · rw [xg_r (by omega), ← e3.2 _ (by omega)]
      congr 1
      omega
  have J0 : ∀ p, gJ f l [] p := fun p => ⟨hl, fun j hj => absurd hj (Nat.not_lt_zero j)⟩
  unfold nlen at hi
  unfold xI
  refine xe_s (f := (1, _, _, _)) xt_g45 rfl rfl rfl rfl rfl ?_
  refine xe_s (f := (3, [(5, _), (0, _), (1, _), (2, _)], _, _)) xt_g45 rfl rfl rfl rfl rfl ?_
  refine xe_s (f := (4, _, _, _)) xt_g45 rfl rfl rfl rfl rfl ?_
  refine xe_if_ge xt_g45 rfl (t := 11) rfl (q := 7) rfl (by first | omega | exact xb_r _) (fun b4 => ?_) (fun b4 => ?_)
  · try simp only [xb_0, xb_1, ne_eq, Decidable.not_not, decide_eq_true_eq, decide_eq_false_iff_not] at b4
    refine xe_s (f := (12, _, xi 0 :: _, _)) xt_g45 rfl rfl rfl rfl rfl ?_
    refine xe_s (f := (14, [(6, _), (5, _), (0, _), (1, _), (2, _)], _, _)) xt_g45 rfl rfl rfl rfl rfl ?_
    refine xe_s (f := (16, _, _, _)) xt_g45 rfl rfl rfl rfl rfl ?_
    refine xe_if_ne xt_g45 rfl (t := 22) rfl (q := 19) rfl (by first | omega | exact xb_r _) (fun b16 => ?_) (fun b16 => ?_)
    · exact absurd rfl b16
    · try simp only [xb_0, xb_1, ne_eq, Decidable.not_not, decide_eq_true_eq, decide_eq_false_iff_not] at b16
      refine xe_s (f := (20, _, _, _)) xt_g45 rfl rfl rfl rfl rfl ?_
      refine xe_ineg xt_g45 rfl (q := 21) rfl ?_
      refine xe_s (f := (22, [(0, _), (6, _), (5, _), (1, _), (2, _)], _, _)) xt_g45 rfl rfl rfl rfl rfl ?_
      have g := s45_loop (fm := fm) D h44 hn hk (ng := 0) (ix := 0) (Or.inl rfl) v.natAbs v.natAbs (Nat.le_refl _) (by omega) ix f [] h 0 0 (by rw [hi, if_neg (by omega)]; omega) hik hb (fun a _ => rfl) (J0 _)
      rw [show -((v.natAbs : Nat) : Int) = -v by omega] at g
      refine xe_mono (xe_loc (by intro q hq; simp only [List.mem_cons, List.not_mem_nil, or_false] at hq; rcases hq with rfl | rfl | rfl | rfl <;> rfl) (g)) (fun r M hM => ?_)
      obtain ⟨z, e1, e2, e3, e4, g', e5, e6⟩ := hM
      exact ⟨z, e1, e2, e3, fin 0 g' _ (by rw [nm_txt_dg hv, if_neg (by decide), if_neg (by omega), List.append_nil]) e5 e6, e4⟩
  · try simp only [xb_0, xb_1, ne_eq, Decidable.not_not, decide_eq_true_eq, decide_eq_false_iff_not] at b4
    refine xe_s (f := (8, _, xi 1 :: _, _)) xt_g45 rfl rfl rfl rfl rfl ?_
    refine xe_s (f := (12, _, _, _)) xt_g45 rfl rfl rfl rfl rfl ?_
    refine xe_s (f := (14, [(6, _), (5, _), (0, _), (1, _), (2, _)], _, _)) xt_g45 rfl rfl rfl rfl rfl ?_
    refine xe_s (f := (16, _, _, _)) xt_g45 rfl rfl rfl rfl rfl ?_
    refine xe_if_ne xt_g45 rfl (t := 22) rfl (q := 19) rfl (by first | omega | exact xb_r _) (fun b16 => ?_) (fun b16 => ?_)
    · try simp only [xb_0, xb_1, ne_eq, Decidable.not_not, decide_eq_true_eq, decide_eq_false_iff_not] at b16
      have g := s45_loop (fm := fm) D h44 hn hk (ng := 1) (ix := 0) (Or.inr rfl) v.natAbs v.natAbs (Nat.le_refl _) (by omega) ix f [] h 0 0 (by rw [hi, if_pos (by omega)]; omega) hik hb (fun a _ => rfl) (J0 _)
      rw [show -((v.natAbs : Nat) : Int) = v by omega] at g
      refine xe_mono (xe_loc (by intro q hq; simp only [List.mem_cons, List.not_mem_nil, or_false] at hq; rcases hq with rfl | rfl | rfl | rfl <;> rfl) (g)) (fun r M hM => ?_)
      obtain ⟨z, e1, e2, e3, e4, g', e5, e6⟩ := hM
      exact ⟨z, e1, e2, e3, fin 1 g' _ (by rw [nm_txt_dg hv, if_pos rfl, if_pos (by omega), List.append_nil]) e5 e6, e4⟩
    · exact absurd (by decide) b16
theorem s43 (h44 : 44 ≤ n) (D : dgT h) (H : sB h n s b k l) {v : Int} (hv : xr v) (hl : l.length < 8000) : xA fm 43 h n [.ref s, xi v] (fun x h' n' u' => x = s ∧ sbR h n s b k (l ++ nm_txt v) h' n' u') := by
  have G := H
  have Gn := sB_ne H
  have nl := nlen_len hv
  have n1 : 1 ≤ nlen v ∧ nlen v ≤ 11 := by
    have g1 := dg_pos (m := v.natAbs)
    have g2 := dg_le (m := v.natAbs) (j := 9) (by omega)
    unfold nlen
    split <;> omega
  obtain ⟨mm, h1, h2, h3, h4, h5, h6, h7, h8, h9⟩ := H
  unfold xA
  refine xe_s (f := (1, _, _, _)) xt_g43 rfl rfl rfl rfl rfl ?_
  refine xe_gf xt_g43 rfl (q := 4) rfl (xf_14_79 fm) (h1) (by omega) rfl rfl ?_
  refine xe_s (f := (5, [(2, _), (0, _), (1, _)], _, _)) xt_g43 rfl rfl rfl rfl rfl ?_
  refine xe_s (f := (6, _, _, _)) xt_g43 rfl rfl rfl rfl rfl ?_
  refine xe_s (f := (7, _, _, _)) xt_g43 rfl rfl rfl rfl rfl ?_
  refine xe_cR xt_g43 rfl rfl rfl (q := 10) rfl (kc_S xk_14_245 (Nat.le_of_ble_eq_true rfl)) xt_g44 (by decide) ⟨Nat.le_of_ble_eq_true rfl, Nat.le_of_ble_eq_true rfl, Nat.le_of_ble_eq_true rfl⟩ (s44 hv) ?_
  refine xe_iadd xt_g43 rfl (q := 11) rfl ?_
  refine xe_s (f := (12, [(3, _), (2, _), (0, _), (1, _)], _, _)) xt_g43 rfl rfl rfl rfl rfl ?_
  refine xe_s (f := (13, _, _, _)) xt_g43 rfl rfl rfl rfl rfl ?_
  refine xe_s (f := (14, _, _, _)) xt_g43 rfl rfl rfl rfl rfl ?_
  refine xe_cN xt_g43 rfl rfl rfl (q := 17) rfl (kc_V xk_14_100 rfl (h1) (by omega) rfl rfl) xt_g19 (by decide) ⟨Nat.le_of_ble_eq_true rfl, Nat.le_of_ble_eq_true rfl, Nat.le_of_ble_eq_true rfl⟩ (s19 h44 G (by omega) (by omega)) (fun h' n' c' u' hp => ?_)
  obtain ⟨b', k', p1, p2, p3, p4, p5, p6, p7, p8, p9⟩ := hp
  have Pn := sB_ne p1
  have ⟨mm', g1, g2, g3, g4, g5, g6, g7, g8, g9⟩ := p1
  have ⟨f, g10, g11, g12⟩ := g3
  have D' : dgT h' := by
    obtain ⟨⟨f1, d1, d2⟩, f2, d3, d4⟩ := D
    exact ⟨⟨f1, (p5 41 (by omega) (by omega) (by omega)).trans d1, d2⟩, f2, (p5 42 (by omega) (by omega) (by omega)).trans d3, d4⟩
  refine xe_s (f := (18, _, _, _)) xt_g43 rfl rfl rfl rfl rfl ?_
  refine xe_cR xt_g43 rfl rfl rfl (q := 21) rfl (kc_V xk_14_83 rfl (g1) (by omega) rfl rfl) xt_g24 (by decide) ⟨Nat.le_of_ble_eq_true rfl, Nat.le_of_ble_eq_true rfl, Nat.le_of_ble_eq_true rfl⟩ (s24 p1) ?_
  refine xe_s (f := (24, _, _, _)) xt_g43 rfl rfl rfl rfl rfl ?_
  refine xe_s (f := (25, _, _, _)) xt_g43 rfl rfl rfl rfl rfl ?_
  refine xe_s (f := (26, _, _, _)) xt_g43 rfl rfl rfl rfl rfl ?_
  refine xe_s (f := (27, _, _, _)) xt_g43 rfl rfl rfl rfl rfl ?_
  refine xe_gf xt_g43 rfl (q := 30) rfl (xf_14_15 fm) (g1) (by omega) rfl rfl ?_
  refine xe_cI xt_g43 rfl rfl rfl (q := 33) rfl (kc_S xk_14_248 (Nat.le_of_ble_eq_true rfl)) xt_g45 (by decide) ⟨Nat.le_of_ble_eq_true rfl, Nat.le_of_ble_eq_true rfl, Nat.le_of_ble_eq_true rfl⟩ (s45 D' g6 g7 g9 hv g10 g12 rfl (by omega)) (fun z h2' n2 c2 u2 hq => ?_)
  obtain ⟨q1, q2, q3, q4⟩ := hq
  subst q1 q2
  refine xe_s (f := (34, _, _, _)) xt_g43 rfl rfl rfl rfl rfl ?_
  refine xe_s (f := (48, _, _, _)) xt_g43 rfl rfl rfl rfl rfl ?_
  refine xe_s (f := (49, _, _, _)) xt_g43 rfl rfl rfl rfl rfl ?_
  refine xe_s (f := (50, _, _, _)) xt_g43 rfl rfl rfl rfl rfl ?_
  refine xe_pf xt_g43 rfl (q := 53) rfl (xf_14_79 fm) ((q4 s Pn).trans g1) (by omega) (by omega) rfl (Nat.le_of_ble_eq_true rfl) (Nat.le_of_ble_eq_true rfl) xi_int (Or.inl rfl) ?_
  refine xe_s (f := (54, _, _, _)) xt_g43 rfl rfl rfl rfl rfl ?_
  refine xe_aret xt_g43 rfl (Or.inl ⟨_, rfl⟩) rfl ?_
  try dsimp only
  have ll : (l ++ nm_txt v).length = l.length + (nm_txt v).length := by simp
  refine ⟨s, rfl, rfl, b', k', ⟨mm', ?_, g2, sA_h q3 (va_up_n (by omega)), g4, g5, g6, g7, asc_app g8 ?_, g9⟩, p2, p3, p4, ?_, p6, by omega, by omega⟩
  · refine va_up_s.trans ?_
    rw [ll, Int.natCast_add, nl]
    rfl
  · rw [nm_txt_dg hv]
    refine asc_app ?_ asc_dg
    split
    · exact asc_get (fun i hi => by rw [show i = 0 by simpa using hi]; decide)
    · exact asc_nil
  · intro a ha hs hb
    refine (va_up_n hs).trans ((q4 a ?_).trans (p5 a ha hs hb))
    rcases p2 with e | e
    · rw [e]; exact hb
    · omega
theorem s42 (h44 : 44 ≤ n) (D : dgT h) (H : sB h n s b k l) {v : Int} (hv : xr v) (hl : l.length < 8000) : xA fm 42 h n [.ref s, xi v] (fun x h' n' u' => x = s ∧ sbR h n s b k (l ++ nm_txt v) h' n' u') := by
  have G := H
  obtain ⟨mm, h1, h2, h3, h4, h5, h6, h7, h8, h9⟩ := H
  unfold xA
  refine xe_s (f := (1, _, _, _)) xt_g42 rfl rfl rfl rfl rfl ?_
  refine xe_s (f := (2, _, _, _)) xt_g42 rfl rfl rfl rfl rfl ?_
  refine xe_cA xt_g42 rfl rfl rfl (q := 5) rfl (kc_Q xk_16_53 rfl (h1) (by omega) rfl rfl) xt_g43 (by decide) ⟨Nat.le_of_ble_eq_true rfl, Nat.le_of_ble_eq_true rfl, Nat.le_of_ble_eq_true rfl⟩ (s43 h44 D G hv hl) (fun x h' n' c' u' hp => ?_)
  refine xe_s (f := (6, _, _, _)) xt_g42 rfl rfl rfl rfl rfl ?_
  refine xe_s (f := (7, _, _, _)) xt_g42 rfl rfl rfl rfl rfl ?_
  refine xe_aret xt_g42 rfl (Or.inl ⟨_, rfl⟩) rfl ?_
  try dsimp only
  exact ⟨s, rfl, rfl, by simpa using hp.2⟩
end XNG
