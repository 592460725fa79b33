/-! suffixes -/
theorem drop_gd {T : Type} {l : List T} {i : Nat} {d : T} (h : i < l.length) : l.drop i = l.getD i d :: l.drop (i + 1) := by
  rw [List.drop_eq_getElem_cons h, List.getD_eq_getElem?_getD, List.getElem?_eq_getElem h]
  rfl
theorem gd_app {T : Type} {l : List T} {x d : T} : (l ++ [x]).getD l.length d = x := by
  rw [List.getD_eq_getElem?_getD, List.getElem?_append_right (Nat.le_refl _), Nat.sub_self]
  rfl
theorem gd_lt {T : Type} {l m : List T} {i : Nat} {d : T} (h : i < l.length) : (l ++ m).getD i d = l.getD i d := by
  rw [List.getD_eq_getElem?_getD, List.getElem?_append_left h, ← List.getD_eq_getElem?_getD]
theorem gd_mem {T : Type} {l : List T} {i : Nat} {d : T} (h : i < l.length) : l.getD i d ∈ l := by
  rw [List.getD_eq_getElem?_getD, List.getElem?_eq_getElem h]
  exact List.getElem_mem h
theorem va_some {x : Nat} : va_rf (some x) = .ref x := rfl
def sfO (w : kW) (h : xm_H) (n x : Nat) (D : List Int) : Prop := ∃ ho, h x = .inr (7, [.ref ho]) ∧ gd w x ∧ 44 ≤ x ∧ x < n ∧ sS (gd w) h n ho D
def sfL (w : kW) (s : Nat → Int) (ar : Nat → Nat → Option Nat) (h : xm_H) (n : Nat) (L : List (List Int)) : Prop := s 15 = L.length ∧ L.length ≤ 8 ∧ ∀ i, i < L.length → ∃ x, ar 5 i = some x ∧ sfO w h n x (L.getD i [])
def st_fin (D : List Int) (b : Nat) : Nat := if st_b2 D b = 0 then 0 else pa_bl D 46 (st_b2 D b - 1)
section XBA
variable {fm : Value} {w w' w1 w2 : kW} {s s' s1 s2 : Nat → Int} {p p' p1 p2 : Nat → Nat} {ar ar' : Nat → Nat → Option Nat} {v : Nat → Int} {h h' h1 h2 : xm_H} {n n' n1 n2 r k k' u' u1 u2 x : Nat} {l D W P : List Int} {L : List (List Int)} {A : pa_A} {t t' t1 t2 : Nat → List Int} {kc kc' kc1 kc2 : Nat → Nat}
theorem sfO_kp (H : sfO w h n x D) (e : kp w h n w' h' n') : sfO w' h' n' x D := by
  obtain ⟨ho, a1, a2, a3, a4, a5⟩ := H
  have e1 := e.2.1 x a4 a2
  exact ⟨ho, e1.1.trans a1, e1.2, a3, Nat.lt_of_lt_of_le a4 e.1, sS_kp a5 e⟩
theorem sfL_kp (H : sfL w s ar h n L) (e : kp w h n w' h' n') (hs : s' 15 = s 15) (ha : ar' 5 = ar 5) : sfL w' s' ar' h' n' L := by
  obtain ⟨a1, a2, a3⟩ := H
  refine ⟨hs.trans a1, a2, fun i hi => ?_⟩
  obtain ⟨x, b1, b2⟩ := a3 i hi
  exact ⟨x, by rw [ha]; exact b1, sfO_kp b2 e⟩
theorem k95 (hn : 64 ≤ n) : xR fm 95 (ko w s p ar v h) n [.ref 60] (some (xi (s 15))) := by
  unfold xR
  refine xe_s (f := (1, _, _, _)) xt_g95 rfl rfl rfl rfl rfl ?_
  refine xe_gf xt_g95 rfl (q := 4) rfl (xf_11_17 fm) (ko_60) (by omega) rfl rfl ?_
  refine xe_iret xt_g95 rfl rfl xi_int.1 ?_
  exact ⟨rfl, rfl⟩
theorem k91_loop (hn : 64 ≤ n) (HL : sfL w s ar h n L) (H : sS (gd w) h n r D) : ∀ (m i : Nat), i + m = L.length → xe fm 91 (2, [(2, xi (i : Int)), (0, .ref 60), (1, .ref r)], [], (ko w s p ar v h, n, 0, 0)) (fun q M => q = .inl (some (xi (xb (decide (D ∈ L.drop i))))) ∧ M = (ko w s p ar v h, n, 0, 0)) := by
  have h8 := HL.2.1
  intro m
  induction m with
  | zero =>
    intro i hi
    refine xe_s (f := (3, _, _, _)) xt_g91 rfl rfl rfl rfl rfl ?_
    refine xe_s (f := (4, _, _, _)) xt_g91 rfl rfl rfl rfl rfl ?_
    refine xe_gf xt_g91 rfl (q := 7) rfl (xf_11_17 fm) (ko_60) (by omega) rfl rfl ?_
    rw [HL.1]
    refine xe_ic_ge xt_g91 rfl (t := 34) rfl (q := 10) rfl (by first | omega | exact xb_r _) (by first | omega | exact xb_r _) (fun b7 => ?_) (fun b7 => ?_)
    · try simp only [xb_0, xb_1, ne_eq, Decidable.not_not, Bool.not_eq_false, Bool.not_eq_true, decide_eq_true_eq, decide_eq_false_iff_not] at b7
      refine xe_s (f := (35, _, xi 0 :: _, _)) xt_g91 rfl rfl rfl rfl rfl ?_
      refine xe_iret xt_g91 rfl rfl (xi_bool (by first | omega | exact xb_or _)).1 ?_
      try dsimp only
      rw [List.drop_eq_nil_of_le (by omega)]
      exact ⟨rfl, rfl⟩
    · exact absurd b7 (by omega)
  | succ m ih =>
    intro i hi
    obtain ⟨x, e5, ho, a1, a2, a3, a4, S1⟩ := HL.2.2 i (by omega)
    obtain ⟨fs, F1, q1, _, _⟩ := sS_at S1
    have X1 := (ko_d (w := w) (s := s) (p := p) (ar := ar) (v := v) a2.1).trans a1
    have ed : L.drop i = L.getD i [] :: L.drop (i + 1) := drop_gd (by omega)
    refine xe_s (f := (3, _, _, _)) xt_g91 rfl rfl rfl rfl rfl ?_
    refine xe_s (f := (4, _, _, _)) xt_g91 rfl rfl rfl rfl rfl ?_
    refine xe_gf xt_g91 rfl (q := 7) rfl (xf_11_17 fm) (ko_60) (by omega) rfl rfl ?_
    rw [HL.1]
    refine xe_ic_ge xt_g91 rfl (t := 34) rfl (q := 10) rfl (by first | omega | exact xb_r _) (by first | omega | exact xb_r _) (fun b7 => ?_) (fun b7 => ?_)
    · exact absurd b7 (by omega)
    · try simp only [xb_0, xb_1, ne_eq, Decidable.not_not, Bool.not_eq_false, Bool.not_eq_true, decide_eq_true_eq, decide_eq_false_iff_not] at b7
      refine xe_s (f := (11, _, _, _)) xt_g91 rfl rfl rfl rfl rfl ?_
      refine xe_gf xt_g91 rfl (q := 14) rfl (xf_11_11 fm) (ko_60) (by omega) rfl rfl ?_
      refine xe_s (f := (15, _, _, _)) xt_g91 rfl rfl rfl rfl rfl ?_
      refine xe_ka_61 xt_g91 rfl (q := 16) rfl (by omega) (by omega) (by omega) ?_
      rw [Int.toNat_natCast, e5, va_some]
      refine xe_gf xt_g91 rfl (q := 19) rfl (xf_11_28 fm) (X1) (by omega) rfl rfl ?_
      refine xe_s (f := (20, _, _, _)) xt_g91 rfl rfl rfl rfl rfl ?_
      refine xe_cR xt_g91 rfl rfl rfl (q := 23) rfl (kc_V xk_11_32 rfl (F1 _ _ _ _ _) (by omega) rfl rfl) xt_g92 (by decide) ⟨Nat.le_of_ble_eq_true rfl, Nat.le_of_ble_eq_true rfl, Nat.le_of_ble_eq_true rfl⟩ (s92 (sS_ko S1) (sS_ko H)) ?_
      refine xe_if_eq xt_g91 rfl (t := 28) rfl (q := 26) rfl (by first | omega | exact xb_r _) (fun b23 => ?_) (fun b23 => ?_)
      · try simp only [xb_0, xb_1, ne_eq, Decidable.not_not, Bool.not_eq_false, Bool.not_eq_true, decide_eq_true_eq, decide_eq_false_iff_not] at b23
        refine xe_iinc xt_g91 rfl (q := 31) rfl rfl (by decide) (L1 := [(2, _), (0, _), (1, _)]) rfl ?_
        refine xe_s (f := (2, _, _, _)) xt_g91 rfl rfl rfl rfl rfl ?_
        have g := ih (i + 1) (by omega)
        rw [show ((i + 1 : Nat) : Int) = (i : Int) + 1 by omega] at g
        have e : decide (D ∈ L.drop i) = decide (D ∈ L.drop (i + 1)) := by
          rw [ed]
          refine decide_eq_decide.mpr ⟨fun q => ?_, fun q => List.mem_cons_of_mem _ q⟩
          rcases List.mem_cons.mp q with q | q
          · exact absurd q.symm b23
          · exact q
        rw [e]
        exact xe_loc (by intro q hq; simp only [List.mem_cons, List.not_mem_nil, or_false] at hq; rcases hq with rfl | rfl | rfl <;> rfl) (g)
      · try simp only [xb_0, xb_1, ne_eq, Decidable.not_not, Bool.not_eq_false, Bool.not_eq_true, decide_eq_true_eq, decide_eq_false_iff_not] at b23
        refine xe_s (f := (27, _, xi 1 :: _, _)) xt_g91 rfl rfl rfl rfl rfl ?_
        refine xe_iret xt_g91 rfl rfl (xi_bool (by first | omega | exact xb_or _)).1 ?_
        try dsimp only
        rw [ed, decide_eq_true (by rw [b23]; exact List.mem_cons_self)]
        exact ⟨rfl, rfl⟩
/-- isListed -/
theorem k91 (hn : 64 ≤ n) (HL : sfL w s ar h n L) (H : sS (gd w) h n r D) : xR fm 91 (ko w s p ar v h) n [.ref 60, .ref r] (some (xi (xb (decide (D ∈ L))))) := by
  unfold xR
  refine xe_s (f := (1, _, xi 0 :: _, _)) xt_g91 rfl rfl rfl rfl rfl ?_
  refine xe_s (f := (2, [(2, _), (0, _), (1, _)], _, _)) xt_g91 rfl rfl rfl rfl rfl ?_
  exact xe_loc (by intro q hq; simp only [List.mem_cons, List.not_mem_nil, or_false] at hq; rcases hq with rfl | rfl | rfl <;> rfl) ((k91_loop hn HL H L.length 0 (by omega)))
/-- isSuffix -/
theorem k201 (hn : 64 ≤ n) (HL : sfL w s ar h n L) (H : sS (gd w) h n r D) : xI fm 201 (ko w s p ar v h) n [.ref 60, .ref r] (fun z h' n' u' => z = xb (ts_is D L) ∧ h' = ko w s p ar v h ∧ n' = n ∧ u' = 0) := by
  obtain ⟨fs, F1, q1, _, _⟩ := sS_at H
  unfold xI ts_is
  refine xe_s (f := (1, _, _, _)) xt_g201 rfl rfl rfl rfl rfl ?_
  refine xe_bipush xt_g201 rfl (q := 3) rfl (by decide) (by decide) ?_
  refine xe_cI xt_g201 rfl rfl rfl (q := 6) rfl (kc_V xk_11_38 rfl (F1 _ _ _ _ _) (by omega) rfl rfl) xt_g202 (by decide) ⟨Nat.le_of_ble_eq_true rfl, Nat.le_of_ble_eq_true rfl, Nat.le_of_ble_eq_true rfl⟩ (s202 (sS_ko H) (by omega)) (fun z1 h1' n1 c1 u1 hp => ?_)
  obtain ⟨z2, z3, z4, e1, e2, e3⟩ := hp
  subst e1
  rw [e2, e3]
  refine xe_if_lt xt_g201 rfl (t := 17) rfl (q := 9) rfl (by first | omega | exact xb_r _) (fun b6 => ?_) (fun b6 => ?_)
  · try simp only [xb_0, xb_1, ne_eq, Decidable.not_not, Bool.not_eq_false, Bool.not_eq_true, decide_eq_true_eq, decide_eq_false_iff_not] at b6
    refine xe_s (f := (18, _, xi 1 :: _, _)) xt_g201 rfl rfl rfl rfl rfl ?_
    refine xe_s (f := (22, _, _, _)) xt_g201 rfl rfl rfl rfl rfl ?_
    refine xe_iret xt_g201 rfl rfl (xi_bool (by first | omega | exact xb_or _)).1 ?_
    try dsimp only
    rw [decide_eq_true (z4.mp b6)]
    exact ⟨1, rfl, rfl, rfl, rfl, rfl⟩
  · try simp only [xb_0, xb_1, ne_eq, Decidable.not_not, Bool.not_eq_false, Bool.not_eq_true, decide_eq_true_eq, decide_eq_false_iff_not] at b6
    refine xe_s (f := (10, _, _, _)) xt_g201 rfl rfl rfl rfl rfl ?_
    refine xe_s (f := (11, _, _, _)) xt_g201 rfl rfl rfl rfl rfl ?_
    refine xe_cR xt_g201 rfl rfl rfl (q := 14) rfl (kc_V xk_11_21 rfl (ko_60) (by omega) rfl rfl) xt_g91 (by decide) ⟨Nat.le_of_ble_eq_true rfl, Nat.le_of_ble_eq_true rfl, Nat.le_of_ble_eq_true rfl⟩ (k91 hn HL H) ?_
    refine xe_if_eq xt_g201 rfl (t := 21) rfl (q := 17) rfl (by first | omega | exact xb_r _) (fun b14 => ?_) (fun b14 => ?_)
    · try simp only [xb_0, xb_1, ne_eq, Decidable.not_not, Bool.not_eq_false, Bool.not_eq_true, decide_eq_true_eq, decide_eq_false_iff_not] at b14
      refine xe_s (f := (22, _, xi 0 :: _, _)) xt_g201 rfl rfl rfl rfl rfl ?_
      refine xe_iret xt_g201 rfl rfl (xi_bool (by first | omega | exact xb_or _)).1 ?_
      try dsimp only
      rw [decide_eq_false (fun g => b6 (z4.mpr g)), decide_eq_false b14]
      exact ⟨0, rfl, rfl, rfl, rfl, rfl⟩
    · try simp only [xb_0, xb_1, ne_eq, Decidable.not_not, Bool.not_eq_false, Bool.not_eq_true, decide_eq_true_eq, decide_eq_false_iff_not] at b14
      refine xe_s (f := (18, _, xi 1 :: _, _)) xt_g201 rfl rfl rfl rfl rfl ?_
      refine xe_s (f := (22, _, _, _)) xt_g201 rfl rfl rfl rfl rfl ?_
      refine xe_iret xt_g201 rfl rfl (xi_bool (by first | omega | exact xb_or _)).1 ?_
      try dsimp only
      rw [decide_eq_true b14, Bool.or_true]
      exact ⟨1, rfl, rfl, rfl, rfl, rfl⟩
theorem k219_x (hfm : fm = .null ∨ ∃ j, fm = .ref j) (hn : 64 ≤ n) (H : sS (gd w) h n r D) {b i : Nat} (hb : b ≤ D.length) : xe fm 219 (59, [(3, xi (i : Int)), (2, xi (b : Int)), (0, .ref 60), (1, .ref r)], [], (ko w s p ar v h, n, 0, 0)) (fun q M => q = .inl (some (xi (st_fin D b))) ∧ M = (ko w s p ar v h, n, 0, 0)) := by
  obtain ⟨fs, F1, q1, ha, hl⟩ := sS_at H
  have bl1 := pa_bl_le (l := D) (c := 46) D.length
  unfold st_fin st_b2
  refine xe_s (f := (60, _, _, _)) xt_g219 rfl rfl rfl rfl rfl ?_
  refine xe_s (f := (61, _, _, _)) xt_g219 rfl rfl rfl rfl rfl ?_
  refine xe_cR xt_g219 rfl rfl rfl (q := 64) rfl (kc_V xk_11_42 rfl (F1 _ _ _ _ _) (by omega) rfl rfl) xt_g31 (by decide) ⟨Nat.le_of_ble_eq_true rfl, Nat.le_of_ble_eq_true rfl, Nat.le_of_ble_eq_true rfl⟩ (s31 (sS_ko H)) ?_
  refine xe_ic_ne xt_g219 rfl (t := 78) rfl (q := 67) rfl (by first | omega | exact xb_r _) (by first | omega | exact xb_r _) (fun b64 => ?_) (fun b64 => ?_)
  · try simp only [xb_0, xb_1, ne_eq, Decidable.not_not, Bool.not_eq_false, Bool.not_eq_true, decide_eq_true_eq, decide_eq_false_iff_not] at b64
    have e0 : ¬ b = D.length := by omega
    rw [if_neg e0]
    refine xe_s (f := (79, _, _, _)) xt_g219 rfl rfl rfl rfl rfl ?_
    refine xe_if_ne xt_g219 rfl (t := 86) rfl (q := 82) rfl (by first | omega | exact xb_r _) (fun b79 => ?_) (fun b79 => ?_)
    · try simp only [xb_0, xb_1, ne_eq, Decidable.not_not, Bool.not_eq_false, Bool.not_eq_true, decide_eq_true_eq, decide_eq_false_iff_not] at b79
      have e1 : ¬ b = 0 := by omega
      rw [if_neg e1]
      refine xe_s (f := (87, _, _, _)) xt_g219 rfl rfl rfl rfl rfl ?_
      refine xe_bipush xt_g219 rfl (q := 89) rfl (by decide) (by decide) ?_
      refine xe_s (f := (90, _, _, _)) xt_g219 rfl rfl rfl rfl rfl ?_
      refine xe_s (f := (91, _, xi 1 :: _, _)) xt_g219 rfl rfl rfl rfl rfl ?_
      refine xe_isub xt_g219 rfl (q := 92) rfl ?_
      refine xe_cR xt_g219 rfl rfl rfl (q := 95) rfl (kc_S xk_11_56 (Nat.le_of_ble_eq_true rfl)) xt_g118 (by decide) ⟨Nat.le_of_ble_eq_true rfl, Nat.le_of_ble_eq_true rfl, Nat.le_of_ble_eq_true rfl⟩ (s118 (e := (b : Int) - 1) hfm (sS_ko H) (by omega) (by omega) (by omega)) ?_
      rw [show ((b : Int) - 1).toNat = b - 1 by omega]
      refine xe_iret xt_g219 rfl rfl xi_int.1 ?_
      exact ⟨rfl, rfl⟩
    · try simp only [xb_0, xb_1, ne_eq, Decidable.not_not, Bool.not_eq_false, Bool.not_eq_true, decide_eq_true_eq, decide_eq_false_iff_not] at b79
      have e1 : b = 0 := by omega
      rw [if_pos e1]
      refine xe_s (f := (83, _, xi 0 :: _, _)) xt_g219 rfl rfl rfl rfl rfl ?_
      refine xe_s (f := (95, _, _, _)) xt_g219 rfl rfl rfl rfl rfl ?_
      refine xe_iret xt_g219 rfl rfl xi_int.1 ?_
      exact ⟨rfl, rfl⟩
  · try simp only [xb_0, xb_1, ne_eq, Decidable.not_not, Bool.not_eq_false, Bool.not_eq_true, decide_eq_true_eq, decide_eq_false_iff_not] at b64
    have e0 : b = D.length := by omega
    rw [if_pos e0]
    refine xe_s (f := (68, _, _, _)) xt_g219 rfl rfl rfl rfl rfl ?_
    refine xe_bipush xt_g219 rfl (q := 70) rfl (by decide) (by decide) ?_
    refine xe_s (f := (71, _, _, _)) xt_g219 rfl rfl rfl rfl rfl ?_
    refine xe_cR xt_g219 rfl rfl rfl (q := 74) rfl (kc_V xk_11_42 rfl (F1 _ _ _ _ _) (by omega) rfl rfl) xt_g31 (by decide) ⟨Nat.le_of_ble_eq_true rfl, Nat.le_of_ble_eq_true rfl, Nat.le_of_ble_eq_true rfl⟩ (s31 (sS_ko H)) ?_
    refine xe_cR xt_g219 rfl rfl rfl (q := 77) rfl (kc_S xk_11_56 (Nat.le_of_ble_eq_true rfl)) xt_g118 (by decide) ⟨Nat.le_of_ble_eq_true rfl, Nat.le_of_ble_eq_true rfl, Nat.le_of_ble_eq_true rfl⟩ (s118 (e := (D.length : Int)) hfm (sS_ko H) (by omega) (by omega) (by omega)) ?_
    rw [Int.toNat_natCast]
    refine xe_s (f := (78, [(2, _), (3, _), (0, _), (1, _)], _, _)) xt_g219 rfl rfl rfl rfl rfl ?_
    refine xe_s (f := (79, _, _, _)) xt_g219 rfl rfl rfl rfl rfl ?_
    refine xe_if_ne xt_g219 rfl (t := 86) rfl (q := 82) rfl (by first | omega | exact xb_r _) (fun b79 => ?_) (fun b79 => ?_)
    · try simp only [xb_0, xb_1, ne_eq, Decidable.not_not, Bool.not_eq_false, Bool.not_eq_true, decide_eq_true_eq, decide_eq_false_iff_not] at b79
      have e1 : ¬ pa_bl D 46 D.length = 0 := by omega
      rw [if_neg e1]
      refine xe_s (f := (87, _, _, _)) xt_g219 rfl rfl rfl rfl rfl ?_
      refine xe_bipush xt_g219 rfl (q := 89) rfl (by decide) (by decide) ?_
      refine xe_s (f := (90, _, _, _)) xt_g219 rfl rfl rfl rfl rfl ?_
      refine xe_s (f := (91, _, xi 1 :: _, _)) xt_g219 rfl rfl rfl rfl rfl ?_
      refine xe_isub xt_g219 rfl (q := 92) rfl ?_
      refine xe_cR xt_g219 rfl rfl rfl (q := 95) rfl (kc_S xk_11_56 (Nat.le_of_ble_eq_true rfl)) xt_g118 (by decide) ⟨Nat.le_of_ble_eq_true rfl, Nat.le_of_ble_eq_true rfl, Nat.le_of_ble_eq_true rfl⟩ (s118 (e := (pa_bl D 46 D.length : Int) - 1) hfm (sS_ko H) (by omega) (by omega) (by omega)) ?_
      rw [show ((pa_bl D 46 D.length : Int) - 1).toNat = pa_bl D 46 D.length - 1 by omega]
      refine xe_iret xt_g219 rfl rfl xi_int.1 ?_
      exact ⟨rfl, rfl⟩
    · try simp only [xb_0, xb_1, ne_eq, Decidable.not_not, Bool.not_eq_false, Bool.not_eq_true, decide_eq_true_eq, decide_eq_false_iff_not] at b79
      have e1 : pa_bl D 46 D.length = 0 := by omega
      rw [if_pos e1]
      refine xe_s (f := (83, _, xi 0 :: _, _)) xt_g219 rfl rfl rfl rfl rfl ?_
      refine xe_s (f := (95, _, _, _)) xt_g219 rfl rfl rfl rfl rfl ?_
      refine xe_iret xt_g219 rfl rfl xi_int.1 ?_
      exact ⟨rfl, rfl⟩
theorem k219_loop (hfm : fm = .null ∨ ∃ j, fm = .ref j) (hn : 64 ≤ n) (HL : sfL w s ar h n L) (H : sS (gd w) h n r D) : ∀ (m i b : Nat), i + m = L.length → b ≤ D.length → xe fm 219 (7, [(3, xi (i : Int)), (2, xi (b : Int)), (0, .ref 60), (1, .ref r)], [], (ko w s p ar v h, n, 0, 0)) (fun q M => q = .inl (some (xi (st_fin D (st_best D (L.drop i) b)))) ∧ M = (ko w s p ar v h, n, 0, 0)) := by
  have h8 := HL.2.1
  obtain ⟨fs, F1, q1, ha, hl⟩ := sS_at H
  intro m
  induction m with
  | zero =>
    intro i b hi hb
    have e0 : st_best D (L.drop i) b = b := by rw [List.drop_eq_nil_of_le (by omega)]; rfl
    rw [e0]
    refine xe_s (f := (8, _, _, _)) xt_g219 rfl rfl rfl rfl rfl ?_
    refine xe_s (f := (9, _, _, _)) xt_g219 rfl rfl rfl rfl rfl ?_
    refine xe_gf xt_g219 rfl (q := 12) rfl (xf_11_17 fm) (ko_60) (by omega) rfl rfl ?_
    rw [HL.1]
    refine xe_ic_ge xt_g219 rfl (t := 59) rfl (q := 15) rfl (by first | omega | exact xb_r _) (by first | omega | exact xb_r _) (fun b12 => ?_) (fun b12 => ?_)
    · try simp only [xb_0, xb_1, ne_eq, Decidable.not_not, Bool.not_eq_false, Bool.not_eq_true, decide_eq_true_eq, decide_eq_false_iff_not] at b12
      exact xe_loc (by intro q hq; simp only [List.mem_cons, List.not_mem_nil, or_false] at hq; rcases hq with rfl | rfl | rfl | rfl <;> rfl) ((k219_x hfm hn H hb))
    · exact absurd b12 (by omega)
  | succ m ih =>
    intro i b hi hb
    obtain ⟨x, e5, ho, a1, a2, a3, a4, S1⟩ := HL.2.2 i (by omega)
    obtain ⟨fs', F1', q1', _, hl'⟩ := sS_at S1
    have X1 := (ko_d (w := w) (s := s) (p := p) (ar := ar) (v := v) a2.1).trans a1
    have ed : L.drop i = L.getD i [] :: L.drop (i + 1) := drop_gd (by omega)
    rw [ed]
    unfold st_best
    refine xe_s (f := (8, _, _, _)) xt_g219 rfl rfl rfl rfl rfl ?_
    refine xe_s (f := (9, _, _, _)) xt_g219 rfl rfl rfl rfl rfl ?_
    refine xe_gf xt_g219 rfl (q := 12) rfl (xf_11_17 fm) (ko_60) (by omega) rfl rfl ?_
    rw [HL.1]
    refine xe_ic_ge xt_g219 rfl (t := 59) rfl (q := 15) rfl (by first | omega | exact xb_r _) (by first | omega | exact xb_r _) (fun b12 => ?_) (fun b12 => ?_)
    · exact absurd b12 (by omega)
    · try simp only [xb_0, xb_1, ne_eq, Decidable.not_not, Bool.not_eq_false, Bool.not_eq_true, decide_eq_true_eq, decide_eq_false_iff_not] at b12
      refine xe_s (f := (16, _, _, _)) xt_g219 rfl rfl rfl rfl rfl ?_
      refine xe_s (f := (17, _, _, _)) xt_g219 rfl rfl rfl rfl rfl ?_
      refine xe_gf xt_g219 rfl (q := 20) rfl (xf_11_11 fm) (ko_60) (by omega) rfl rfl ?_
      refine xe_s (f := (21, _, _, _)) xt_g219 rfl rfl rfl rfl rfl ?_
      refine xe_ka_61 xt_g219 rfl (q := 22) rfl (by omega) (by omega) (by omega) ?_
      rw [Int.toNat_natCast, e5, va_some]
      refine xe_gf xt_g219 rfl (q := 25) rfl (xf_11_28 fm) (X1) (by omega) rfl rfl ?_
      refine xe_cR xt_g219 rfl rfl rfl (q := 28) rfl (kc_S xk_11_46 (Nat.le_of_ble_eq_true rfl)) xt_g139 (by decide) ⟨Nat.le_of_ble_eq_true rfl, Nat.le_of_ble_eq_true rfl, Nat.le_of_ble_eq_true rfl⟩ (s139 hfm (sS_ko H) (sS_ko S1)) ?_
      refine xe_if_eq xt_g219 rfl (t := 53) rfl (q := 31) rfl (by first | omega | exact xb_r _) (fun b28 => ?_) (fun b28 => ?_)
      · try simp only [xb_0, xb_1, ne_eq, Decidable.not_not, Bool.not_eq_false, Bool.not_eq_true, decide_eq_true_eq, decide_eq_false_iff_not] at b28
        rw [if_neg (fun g => by rw [b28] at g; exact absurd g.1 (by decide))]
        refine xe_iinc xt_g219 rfl (q := 56) rfl rfl (by decide) (L1 := [(3, _), (2, _), (0, _), (1, _)]) rfl ?_
        refine xe_s (f := (7, _, _, _)) xt_g219 rfl rfl rfl rfl rfl ?_
        have g := ih (i + 1) b (by omega) hb
        rw [show ((i + 1 : Nat) : Int) = (i : Int) + 1 by omega] at g
        exact xe_loc (by intro q hq; simp only [List.mem_cons, List.not_mem_nil, or_false] at hq; rcases hq with rfl | rfl | rfl | rfl <;> rfl) (g)
      · try simp only [xb_0, xb_1, ne_eq, Decidable.not_not, Bool.not_eq_false, Bool.not_eq_true, decide_eq_true_eq, decide_eq_false_iff_not] at b28
        have le : (L.getD i []).length ≤ D.length := by
          have q := b28
          unfold st_ends st_ed at q
          simp only [Bool.and_eq_true, decide_eq_true_eq] at q
          omega
        refine xe_s (f := (32, _, _, _)) xt_g219 rfl rfl rfl rfl rfl ?_
        refine xe_s (f := (33, _, _, _)) xt_g219 rfl rfl rfl rfl rfl ?_
        refine xe_cR xt_g219 rfl rfl rfl (q := 36) rfl (kc_V xk_11_42 rfl (F1 _ _ _ _ _) (by omega) rfl rfl) xt_g31 (by decide) ⟨Nat.le_of_ble_eq_true rfl, Nat.le_of_ble_eq_true rfl, Nat.le_of_ble_eq_true rfl⟩ (s31 (sS_ko H)) ?_
        refine xe_s (f := (37, _, _, _)) xt_g219 rfl rfl rfl rfl rfl ?_
        refine xe_gf xt_g219 rfl (q := 40) rfl (xf_11_11 fm) (ko_60) (by omega) rfl rfl ?_
        refine xe_s (f := (41, _, _, _)) xt_g219 rfl rfl rfl rfl rfl ?_
        refine xe_ka_61 xt_g219 rfl (q := 42) rfl (by omega) (by omega) (by omega) ?_
        rw [Int.toNat_natCast, e5, va_some]
        refine xe_gf xt_g219 rfl (q := 45) rfl (xf_11_28 fm) (X1) (by omega) rfl rfl ?_
        refine xe_cR xt_g219 rfl rfl rfl (q := 48) rfl (kc_V xk_11_42 rfl (F1' _ _ _ _ _) (by omega) rfl rfl) xt_g31 (by decide) ⟨Nat.le_of_ble_eq_true rfl, Nat.le_of_ble_eq_true rfl, Nat.le_of_ble_eq_true rfl⟩ (s31 (sS_ko S1)) ?_
        refine xe_isub xt_g219 rfl (q := 49) rfl ?_
        refine xe_cR xt_g219 rfl rfl rfl (q := 52) rfl (kc_S xk_11_50 (Nat.le_of_ble_eq_true rfl)) xt_g7 (by decide) ⟨Nat.le_of_ble_eq_true rfl, Nat.le_of_ble_eq_true rfl, Nat.le_of_ble_eq_true rfl⟩ (s7 (by omega) (by omega)) ?_
        refine xe_s (f := (53, [(2, _), (3, _), (0, _), (1, _)], _, _)) xt_g219 rfl rfl rfl rfl rfl ?_
        refine xe_iinc xt_g219 rfl (q := 56) rfl rfl (by decide) (L1 := [(3, _), (2, _), (0, _), (1, _)]) rfl ?_
        refine xe_s (f := (7, _, _, _)) xt_g219 rfl rfl rfl rfl rfl ?_
        have g := ih (i + 1) (if st_ends D (L.getD i []) = true ∧ D.length - (L.getD i []).length < b then D.length - (L.getD i []).length else b) (by omega) (by split <;> omega)
        have em : (((if st_ends D (L.getD i []) = true ∧ D.length - (L.getD i []).length < b then D.length - (L.getD i []).length else b : Nat)) : Int) = min (b : Int) ((D.length : Int) - ((L.getD i []).length : Int)) := by
          by_cases q : D.length - (L.getD i []).length < b
          · rw [if_pos ⟨b28, q⟩]; omega
          · rw [if_neg (fun g => q g.2)]; omega
        rw [show ((i + 1 : Nat) : Int) = (i : Int) + 1 by omega, em] at g
        exact xe_loc (by intro q hq; simp only [List.mem_cons, List.not_mem_nil, or_false] at hq; rcases hq with rfl | rfl | rfl | rfl <;> rfl) (g)
/-- siteStart -/
theorem k219 (hfm : fm = .null ∨ ∃ j, fm = .ref j) (hn : 64 ≤ n) (HL : sfL w s ar h n L) (H : sS (gd w) h n r D) : xR fm 219 (ko w s p ar v h) n [.ref 60, .ref r] (some (xi (st_site D L))) := by
  obtain ⟨fs, F1, q1, ha, hl⟩ := sS_at H
  unfold xR
  refine xe_s (f := (1, _, _, _)) xt_g219 rfl rfl rfl rfl rfl ?_
  refine xe_cR xt_g219 rfl rfl rfl (q := 4) rfl (kc_V xk_11_42 rfl (F1 _ _ _ _ _) (by omega) rfl rfl) xt_g31 (by decide) ⟨Nat.le_of_ble_eq_true rfl, Nat.le_of_ble_eq_true rfl, Nat.le_of_ble_eq_true rfl⟩ (s31 (sS_ko H)) ?_
  refine xe_s (f := (5, [(2, _), (0, _), (1, _)], _, _)) xt_g219 rfl rfl rfl rfl rfl ?_
  refine xe_s (f := (6, _, xi 0 :: _, _)) xt_g219 rfl rfl rfl rfl rfl ?_
  refine xe_s (f := (7, [(3, _), (2, _), (0, _), (1, _)], _, _)) xt_g219 rfl rfl rfl rfl rfl ?_
  exact xe_loc (by intro q hq; simp only [List.mem_cons, List.not_mem_nil, or_false] at hq; rcases hq with rfl | rfl | rfl | rfl <;> rfl) ((k219_loop hfm hn HL H L.length 0 D.length (by omega) (Nat.le_refl _)))
/-- new Suffix -/
theorem k94 {f0 : Value} (ha : h x = .inr (7, [f0])) (h44 : 44 ≤ x) (hx : x < n) : xN fm 94 h n [.ref x, .ref r] (fun h' n' u' => h' = va_up h x (.inr (7, [.ref r])) ∧ n' = n ∧ u' = 0) := by
  unfold xN
  refine xe_s (f := (1, _, _, _)) xt_g94 rfl rfl rfl rfl rfl ?_
  refine xe_obj xt_g94 rfl (q := 4) rfl xz0_10_1 (xp_10_1 fm) (Nat.le_of_ble_eq_true rfl) ?_
  refine xe_s (f := (5, _, _, _)) xt_g94 rfl rfl rfl rfl rfl ?_
  refine xe_s (f := (6, _, _, _)) xt_g94 rfl rfl rfl rfl rfl ?_
  refine xe_pf xt_g94 rfl (q := 9) rfl (xf_10_7 fm) (ha) (by omega) (by omega) rfl (Nat.le_of_ble_eq_true rfl) (Nat.le_of_ble_eq_true rfl) ⟨rfl, rfl⟩ (Or.inr ⟨by decide, rfl⟩) ?_
  refine xe_ret xt_g94 rfl rfl ?_
  try dsimp only
  exact ⟨rfl, rfl, rfl, rfl⟩
/-- add -/
theorem k90 (K : KW w h n t kc) (HL : sfL w s ar h n L) (H : sS (gd w) h n r D) : xI fm 90 (ko w s p ar v h) n [.ref 60, .ref r] (fun z h' n' u' => ∃ s' ar' h1, h' = ko w s' p ar' v h1 ∧ ke h n h1 n' ∧ n' ≤ n + 1 ∧ u' ≤ 1 ∧ (∀ k, k ≠ 15 → s' k = s k) ∧ (∀ k, k ≠ 5 → ar' k = ar k) ∧ z = xb (decide (L.length < 8 ∧ D ∉ L)) ∧ sfL w s' ar' h1 n' (if L.length < 8 ∧ D ∉ L then L ++ [D] else L)) := by
  have W0 := K.1.1
  have h8 := HL.2.1
  have h15 := HL.1
  unfold xI
  refine xe_s (f := (1, _, _, _)) xt_g90 rfl rfl rfl rfl rfl ?_
  refine xe_gf xt_g90 rfl (q := 4) rfl (xf_11_17 fm) (ko_60) (by omega) rfl rfl ?_
  rw [HL.1]
  refine xe_bipush xt_g90 rfl (q := 6) rfl (by decide) (by decide) ?_
  refine xe_ic_ge xt_g90 rfl (t := 17) rfl (q := 9) rfl (by first | omega | exact xb_r _) (by first | omega | exact xb_r _) (fun b6 => ?_) (fun b6 => ?_)
  · try simp only [xb_0, xb_1, ne_eq, Decidable.not_not, Bool.not_eq_false, Bool.not_eq_true, decide_eq_true_eq, decide_eq_false_iff_not] at b6
    refine xe_s (f := (18, _, xi 0 :: _, _)) xt_g90 rfl rfl rfl rfl rfl ?_
    refine xe_iret xt_g90 rfl rfl (xi_bool (by first | omega | exact xb_or _)).1 ?_
    try dsimp only
    refine ⟨0, rfl, s, ar, h, rfl, ke_refl, by omega, by omega, fun _ _ => rfl, fun _ _ => rfl, ?_, ?_⟩
    · rw [decide_eq_false (fun g => by omega)]; rfl
    · rw [if_neg (fun g => by omega)]; exact HL
  · try simp only [xb_0, xb_1, ne_eq, Decidable.not_not, Bool.not_eq_false, Bool.not_eq_true, decide_eq_true_eq, decide_eq_false_iff_not] at b6
    refine xe_s (f := (10, _, _, _)) xt_g90 rfl rfl rfl rfl rfl ?_
    refine xe_s (f := (11, _, _, _)) xt_g90 rfl rfl rfl rfl rfl ?_
    refine xe_cR xt_g90 rfl rfl rfl (q := 14) rfl (kc_V xk_11_21 rfl (ko_60) (by omega) rfl rfl) xt_g91 (by decide) ⟨Nat.le_of_ble_eq_true rfl, Nat.le_of_ble_eq_true rfl, Nat.le_of_ble_eq_true rfl⟩ (k91 (by omega) HL H) ?_
    refine xe_if_eq xt_g90 rfl (t := 19) rfl (q := 17) rfl (by first | omega | exact xb_r _) (fun b14 => ?_) (fun b14 => ?_)
    · try simp only [xb_0, xb_1, ne_eq, Decidable.not_not, Bool.not_eq_false, Bool.not_eq_true, decide_eq_true_eq, decide_eq_false_iff_not] at b14
      refine xe_s (f := (20, _, _, _)) xt_g90 rfl rfl rfl rfl rfl ?_
      refine xe_gf xt_g90 rfl (q := 23) rfl (xf_11_11 fm) (ko_60) (by omega) rfl rfl ?_
      refine xe_s (f := (24, _, _, _)) xt_g90 rfl rfl rfl rfl rfl ?_
      refine xe_gf xt_g90 rfl (q := 27) rfl (xf_11_17 fm) (ko_60) (by omega) rfl rfl ?_
      refine xe_new (k := 1) (fs := [.null]) xt_g90 rfl rfl (q := 30) rfl (xn_11_9 fm) rfl rfl rfl ?_
      rw [ko_new (by omega)]
      refine xe_s (f := (31, _, _, _)) xt_g90 rfl rfl rfl rfl rfl ?_
      refine xe_s (f := (32, _, _, _)) xt_g90 rfl rfl rfl rfl rfl ?_
      refine xe_cN xt_g90 rfl rfl rfl (q := 35) rfl (kc_P xk_11_25 rfl) xt_g94 (by decide) ⟨Nat.le_of_ble_eq_true rfl, Nat.le_of_ble_eq_true rfl, Nat.le_of_ble_eq_true rfl⟩ (k94 ((ko_d (Or.inr (Or.inr (Or.inr (Or.inr (by omega)))))).trans va_up_s) (by omega) (by omega)) (fun h3' n3 c3 u3 hs => ?_)
      obtain ⟨e1, e2, e3⟩ := hs
      subst e1
      rw [ko_new (by omega), va_uu, e2, e3]
      refine xe_ks_61 xt_g90 rfl (q := 36) rfl (by omega) (by omega) (by omega) ((ko_d (Or.inr (Or.inr (Or.inr (Or.inr (by omega)))))).trans va_up_s) (by omega) (by omega) ?_
      refine xe_s (f := (37, _, _, _)) xt_g90 rfl rfl rfl rfl rfl ?_
      refine xe_s (f := (38, _, _, _)) xt_g90 rfl rfl rfl rfl rfl ?_
      refine xe_gf xt_g90 rfl (q := 41) rfl (xf_11_17 fm) (ko_60) (by omega) rfl rfl ?_
      refine xe_s (f := (42, _, xi 1 :: _, _)) xt_g90 rfl rfl rfl rfl rfl ?_
      refine xe_iadd xt_g90 rfl (q := 43) rfl ?_
      refine xe_kp_5_1 xt_g90 rfl (q := 46) rfl (xf_11_17 fm) (by omega) ?_
      refine xe_s (f := (47, _, xi 1 :: _, _)) xt_g90 rfl rfl rfl rfl rfl ?_
      refine xe_iret xt_g90 rfl rfl (xi_bool (by first | omega | exact xb_or _)).1 ?_
      try dsimp only
      have kE : ke h n (va_up h n (.inr (7, [.ref r]))) (n + 1) := ke_up (Nat.le_refl _) (by omega)
      have cond : L.length < 8 ∧ D ∉ L := ⟨by omega, b14⟩
      refine ⟨1, rfl, _, _, _, rfl, kE, by omega, by omega, fun k hk => xo_uN hk, fun k hk => if_neg hk, ?_, ?_⟩
      · rw [decide_eq_true cond]; rfl
      · rw [if_pos cond]
        refine ⟨by rw [xo_uS, HL.1, List.length_append, List.length_singleton]; omega, by rw [List.length_append, List.length_singleton]; omega, fun i hi => ?_⟩
        rw [List.length_append, List.length_singleton] at hi
        by_cases e : i = L.length
        · refine ⟨n, ?_, r, va_up_s, gd_n K.1 (Nat.le_refl _), by omega, by omega, ?_⟩
          · rw [e]
            show va_up (ar 5) _ (some n) _ = _
            rw [h15, Int.toNat_natCast, va_up_s]
          · rw [e, gd_app]
            exact sS_ke H kE
        · obtain ⟨x, b1, b2⟩ := HL.2.2 i (by omega)
          refine ⟨x, ?_, ?_⟩
          · show va_up (ar 5) _ (some n) _ = _
            rw [h15, Int.toNat_natCast, va_up_n e]
            exact b1
          · rw [gd_lt (by omega)]
            exact sfO_kp b2 (ke_kp kE)
    · try simp only [xb_0, xb_1, ne_eq, Decidable.not_not, Bool.not_eq_false, Bool.not_eq_true, decide_eq_true_eq, decide_eq_false_iff_not] at b14
      refine xe_s (f := (18, _, xi 0 :: _, _)) xt_g90 rfl rfl rfl rfl rfl ?_
      refine xe_iret xt_g90 rfl rfl (xi_bool (by first | omega | exact xb_or _)).1 ?_
      try dsimp only
      refine ⟨0, rfl, s, ar, h, rfl, ke_refl, by omega, by omega, fun _ _ => rfl, fun _ _ => rfl, ?_, ?_⟩
      · rw [decide_eq_false (fun g => g.2 b14)]; rfl
      · rw [if_neg (fun g => g.2 b14)]; exact HL
end XBA
