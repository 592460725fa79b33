/-! the class's fixed cells: ints s, references p, arrays of references ar, the stored values v -/
abbrev kW : Type := (Nat → Nat) × (Nat → Int) × (Nat → Int)
def koL (w : kW) (s : Nat → Int) (p : Nat → Nat) (ar : Nat → Nat → Option Nat) (v : Nat → Int) : List (Option va_E) := [some (.inr (0, [.ref 45, .ref 47, .ref 49, .ref 59, .ref 52, .ref 55, xi (s 6), .ref 56, .ref 57, .ref 58, xi (s 7), .ref (p 3)])), some (.inr (1, [.ref (w.1 0), xi 0, xi (w.2.2 0), xi (w.2.1 0)])), none, some (.inr (1, [.ref (w.1 1), xi 0, xi (w.2.2 1), xi (w.2.1 1)])), none, some (.inr (2, [.ref 50, .ref (p 4), xi (s 8), xi (s 9), .ref (p 5), xi (s 10), .ref (p 6), .ref (p 7)])), some (.inr (1, [.ref (w.1 2), xi 0, xi (w.2.2 2), xi (w.2.1 2)])), none, some (.inr (3, [.ref 53, .ref 54, xi (s 11)])), some (.inl (5, 8, .inr (.inr (.inr (.inr (ar 0)))))), some (.inl (0, 64, .inl (fun i => Int32.ofInt (v i)))), some (.inl (6, 200, .inr (.inr (.inr (.inr (ar 1)))))), some (.inl (7, 4, .inr (.inr (.inr (.inr (ar 2)))))), some (.inl (7, 16, .inr (.inr (.inr (.inr (ar 3)))))), some (.inl (8, 24, .inr (.inr (.inr (.inr (ar 4)))))), some (.inr (4, [xi (s 12), .ref 60, .ref 62, xi (s 13), .ref 63, xi (s 14)])), some (.inr (5, [.ref 61, xi (s 15)])), some (.inl (9, 8, .inr (.inr (.inr (.inr (ar 5)))))), some (.inl (10, 41, .inr (.inr (.inr (.inr (ar 6)))))), some (.inl (10, 40, .inr (.inr (.inr (.inr (ar 7))))))]
def ko (w : kW) (s : Nat → Int) (p : Nat → Nat) (ar : Nat → Nat → Option Nat) (v : Nat → Int) (h0 : xm_H) (a : Nat) : va_E := if a < 44 then h0 a else match (koL w s p ar v)[a - 44]? with
  | some (some e) => e
  | _ => h0 a
def dy (a : Nat) : Prop := a < 44 ∨ a = 46 ∨ a = 48 ∨ a = 51 ∨ 64 ≤ a
def pu (p : Nat → Nat) (k x j : Nat) : Nat := if j = k then x else p j
def aw (ar : Nat → Nat → Option Nat) (k i : Nat) (o : Option Nat) (j : Nat) : Nat → Option Nat := if j = k then va_up (ar k) i o else ar j
def vu (v : Nat → Int) (i : Nat) (z : Int) (j : Nat) : Int := if j = i then z else v j
section XKO
variable {w w' : kW} {s s' : Nat → Int} {p p' : Nat → Nat} {ar ar' : Nat → Nat → Option Nat} {v v' : Nat → Int} {h0 : xm_H}
theorem koL_len : (koL w s p ar v).length = 20 := rfl
theorem ko_d {a : Nat} (h : dy a) : ko w s p ar v h0 a = h0 a := by
  unfold ko
  split
  · rfl
  · rename_i g
    rcases h with h | h | h | h | h
    · exact absurd h g
    · subst h; rfl
    · subst h; rfl
    · subst h; rfl
    · rw [List.getElem?_eq_none (by rw [koL_len]; omega)]
theorem ko_set {j : Nat} {e : va_E} (hj : j < 20) (hL : koL w' s' p' ar' v' = (koL w s p ar v).set j (some e)) : va_up (ko w s p ar v h0) (44 + j) e = ko w' s' p' ar' v' h0 := by
  funext a
  by_cases h : a = 44 + j
  · subst h
    rw [va_up_s]
    unfold ko
    rw [if_neg (by omega), hL, show 44 + j - 44 = j by omega, List.getElem?_set_self (by rw [koL_len]; exact hj)]
  · rw [va_up_n h]
    unfold ko
    split
    · rfl
    · rename_i g
      rw [hL, List.getElem?_set_ne (by omega)]
theorem ko_44 : ko w s p ar v h0 44 = .inr (0, [.ref 45, .ref 47, .ref 49, .ref 59, .ref 52, .ref 55, xi (s 6), .ref 56, .ref 57, .ref 58, xi (s 7), .ref (p 3)]) := rfl
theorem ko_45 : ko w s p ar v h0 45 = .inr (1, [.ref (w.1 0), xi 0, xi (w.2.2 0), xi (w.2.1 0)]) := rfl
theorem ko_47 : ko w s p ar v h0 47 = .inr (1, [.ref (w.1 1), xi 0, xi (w.2.2 1), xi (w.2.1 1)]) := rfl
theorem ko_49 : ko w s p ar v h0 49 = .inr (2, [.ref 50, .ref (p 4), xi (s 8), xi (s 9), .ref (p 5), xi (s 10), .ref (p 6), .ref (p 7)]) := rfl
theorem ko_50 : ko w s p ar v h0 50 = .inr (1, [.ref (w.1 2), xi 0, xi (w.2.2 2), xi (w.2.1 2)]) := rfl
theorem ko_52 : ko w s p ar v h0 52 = .inr (3, [.ref 53, .ref 54, xi (s 11)]) := rfl
theorem ko_53 : ko w s p ar v h0 53 = .inl (5, 8, .inr (.inr (.inr (.inr (ar 0))))) := rfl
theorem ko_54 : ko w s p ar v h0 54 = .inl (0, 64, .inl (fun i => Int32.ofInt (v i))) := rfl
theorem ko_55 : ko w s p ar v h0 55 = .inl (6, 200, .inr (.inr (.inr (.inr (ar 1))))) := rfl
theorem ko_56 : ko w s p ar v h0 56 = .inl (7, 4, .inr (.inr (.inr (.inr (ar 2))))) := rfl
theorem ko_57 : ko w s p ar v h0 57 = .inl (7, 16, .inr (.inr (.inr (.inr (ar 3))))) := rfl
theorem ko_58 : ko w s p ar v h0 58 = .inl (8, 24, .inr (.inr (.inr (.inr (ar 4))))) := rfl
theorem ko_59 : ko w s p ar v h0 59 = .inr (4, [xi (s 12), .ref 60, .ref 62, xi (s 13), .ref 63, xi (s 14)]) := rfl
theorem ko_60 : ko w s p ar v h0 60 = .inr (5, [.ref 61, xi (s 15)]) := rfl
theorem ko_61 : ko w s p ar v h0 61 = .inl (9, 8, .inr (.inr (.inr (.inr (ar 5))))) := rfl
theorem ko_62 : ko w s p ar v h0 62 = .inl (10, 41, .inr (.inr (.inr (.inr (ar 6))))) := rfl
theorem ko_63 : ko w s p ar v h0 63 = .inl (10, 40, .inr (.inr (.inr (.inr (ar 7))))) := rfl
end XKO
section XKR
variable {fm : Value} {y pc q n c u : Nat} {L : xm_L} {Q : xe_Q} {D : xt_D} {r : List Value} {w : kW} {s : Nat → Int} {p : Nat → Nat} {ar : Nat → Nat → Option Nat} {v : Nat → Int} {h0 : xm_H}
theorem xe_kp_0_6 {idx : Nat} {z : Int} (hy : xt_md[y]? = some D) (hi : xt_lk D.2.2.2.2.2 pc = some (.putfield idx, 3)) (hq : pc + 3 = q) (hf : xm_fld (xt_X fm) D.1.cls idx = some (0, 6)) (hn : 64 ≤ n) (kk : xe fm y (q, L, r, (ko w (xo_u s 6 z) p ar v h0, n, c, u)) Q) : xe fm y (pc, L, xi z :: .ref 44 :: r, (ko w s p ar v h0, n, c, u)) Q := by
  refine xe_pf hy hi hq hf ko_44 (by omega) (by omega) rfl (Nat.le_of_ble_eq_true rfl) (Nat.le_of_ble_eq_true rfl) xi_int (Or.inl rfl) ?_
  have e := ko_set (w := w) (s := s) (p := p) (ar := ar) (v := v) (h0 := h0) (j := 0) (by omega) (show koL w (xo_u s 6 z) p ar v = _ from rfl)
  exact (congrArg (fun H => xe fm y (q, L, r, ((H : xm_H), n, c, u)) Q) e).mpr kk
theorem xe_kp_0_10 {idx : Nat} {z : Int} (hy : xt_md[y]? = some D) (hi : xt_lk D.2.2.2.2.2 pc = some (.putfield idx, 3)) (hq : pc + 3 = q) (hf : xm_fld (xt_X fm) D.1.cls idx = some (0, 10)) (hn : 64 ≤ n) (kk : xe fm y (q, L, r, (ko w (xo_u s 7 z) p ar v h0, n, c, u)) Q) : xe fm y (pc, L, xi z :: .ref 44 :: r, (ko w s p ar v h0, n, c, u)) Q := by
  refine xe_pf hy hi hq hf ko_44 (by omega) (by omega) rfl (Nat.le_of_ble_eq_true rfl) (Nat.le_of_ble_eq_true rfl) xi_int (Or.inl rfl) ?_
  have e := ko_set (w := w) (s := s) (p := p) (ar := ar) (v := v) (h0 := h0) (j := 0) (by omega) (show koL w (xo_u s 7 z) p ar v = _ from rfl)
  exact (congrArg (fun H => xe fm y (q, L, r, ((H : xm_H), n, c, u)) Q) e).mpr kk
theorem xe_kp_0_11 {idx : Nat} {x : Nat} (hy : xt_md[y]? = some D) (hi : xt_lk D.2.2.2.2.2 pc = some (.putfield idx, 3)) (hq : pc + 3 = q) (hf : xm_fld (xt_X fm) D.1.cls idx = some (0, 11)) (hn : 64 ≤ n) (kk : xe fm y (q, L, r, (ko w s (pu p 3 x) ar v h0, n, c, u)) Q) : xe fm y (pc, L, .ref x :: .ref 44 :: r, (ko w s p ar v h0, n, c, u)) Q := by
  refine xe_pf hy hi hq hf ko_44 (by omega) (by omega) rfl (Nat.le_of_ble_eq_true rfl) (Nat.le_of_ble_eq_true rfl) ⟨rfl, rfl⟩ (Or.inl rfl) ?_
  have e := ko_set (w := w) (s := s) (p := p) (ar := ar) (v := v) (h0 := h0) (j := 0) (by omega) (show koL w s (pu p 3 x) ar v = _ from rfl)
  exact (congrArg (fun H => xe fm y (q, L, r, ((H : xm_H), n, c, u)) Q) e).mpr kk
theorem xe_kp_2_1 {idx : Nat} {x : Nat} (hy : xt_md[y]? = some D) (hi : xt_lk D.2.2.2.2.2 pc = some (.putfield idx, 3)) (hq : pc + 3 = q) (hf : xm_fld (xt_X fm) D.1.cls idx = some (2, 1)) (hn : 64 ≤ n) (kk : xe fm y (q, L, r, (ko w s (pu p 4 x) ar v h0, n, c, u)) Q) : xe fm y (pc, L, .ref x :: .ref 49 :: r, (ko w s p ar v h0, n, c, u)) Q := by
  refine xe_pf hy hi hq hf ko_49 (by omega) (by omega) rfl (Nat.le_of_ble_eq_true rfl) (Nat.le_of_ble_eq_true rfl) ⟨rfl, rfl⟩ (Or.inl rfl) ?_
  have e := ko_set (w := w) (s := s) (p := p) (ar := ar) (v := v) (h0 := h0) (j := 5) (by omega) (show koL w s (pu p 4 x) ar v = _ from rfl)
  exact (congrArg (fun H => xe fm y (q, L, r, ((H : xm_H), n, c, u)) Q) e).mpr kk
theorem xe_kp_2_2 {idx : Nat} {z : Int} (hy : xt_md[y]? = some D) (hi : xt_lk D.2.2.2.2.2 pc = some (.putfield idx, 3)) (hq : pc + 3 = q) (hf : xm_fld (xt_X fm) D.1.cls idx = some (2, 2)) (hn : 64 ≤ n) (kk : xe fm y (q, L, r, (ko w (xo_u s 8 z) p ar v h0, n, c, u)) Q) : xe fm y (pc, L, xi z :: .ref 49 :: r, (ko w s p ar v h0, n, c, u)) Q := by
  refine xe_pf hy hi hq hf ko_49 (by omega) (by omega) rfl (Nat.le_of_ble_eq_true rfl) (Nat.le_of_ble_eq_true rfl) xi_int (Or.inl rfl) ?_
  have e := ko_set (w := w) (s := s) (p := p) (ar := ar) (v := v) (h0 := h0) (j := 5) (by omega) (show koL w (xo_u s 8 z) p ar v = _ from rfl)
  exact (congrArg (fun H => xe fm y (q, L, r, ((H : xm_H), n, c, u)) Q) e).mpr kk
theorem xe_kp_2_3 {idx : Nat} {z : Int} (hy : xt_md[y]? = some D) (hi : xt_lk D.2.2.2.2.2 pc = some (.putfield idx, 3)) (hq : pc + 3 = q) (hf : xm_fld (xt_X fm) D.1.cls idx = some (2, 3)) (hn : 64 ≤ n) (hz : z = 0 ∨ z = 1) (kk : xe fm y (q, L, r, (ko w (xo_u s 9 z) p ar v h0, n, c, u)) Q) : xe fm y (pc, L, xi z :: .ref 49 :: r, (ko w s p ar v h0, n, c, u)) Q := by
  refine xe_pf hy hi hq hf ko_49 (by omega) (by omega) rfl (Nat.le_of_ble_eq_true rfl) (Nat.le_of_ble_eq_true rfl) (xi_bool hz) (Or.inl rfl) ?_
  have e := ko_set (w := w) (s := s) (p := p) (ar := ar) (v := v) (h0 := h0) (j := 5) (by omega) (show koL w (xo_u s 9 z) p ar v = _ from rfl)
  exact (congrArg (fun H => xe fm y (q, L, r, ((H : xm_H), n, c, u)) Q) e).mpr kk
theorem xe_kp_2_4 {idx : Nat} {x : Nat} (hy : xt_md[y]? = some D) (hi : xt_lk D.2.2.2.2.2 pc = some (.putfield idx, 3)) (hq : pc + 3 = q) (hf : xm_fld (xt_X fm) D.1.cls idx = some (2, 4)) (hn : 64 ≤ n) (kk : xe fm y (q, L, r, (ko w s (pu p 5 x) ar v h0, n, c, u)) Q) : xe fm y (pc, L, .ref x :: .ref 49 :: r, (ko w s p ar v h0, n, c, u)) Q := by
  refine xe_pf hy hi hq hf ko_49 (by omega) (by omega) rfl (Nat.le_of_ble_eq_true rfl) (Nat.le_of_ble_eq_true rfl) ⟨rfl, rfl⟩ (Or.inl rfl) ?_
  have e := ko_set (w := w) (s := s) (p := p) (ar := ar) (v := v) (h0 := h0) (j := 5) (by omega) (show koL w s (pu p 5 x) ar v = _ from rfl)
  exact (congrArg (fun H => xe fm y (q, L, r, ((H : xm_H), n, c, u)) Q) e).mpr kk
theorem xe_kp_2_5 {idx : Nat} {z : Int} (hy : xt_md[y]? = some D) (hi : xt_lk D.2.2.2.2.2 pc = some (.putfield idx, 3)) (hq : pc + 3 = q) (hf : xm_fld (xt_X fm) D.1.cls idx = some (2, 5)) (hn : 64 ≤ n) (kk : xe fm y (q, L, r, (ko w (xo_u s 10 z) p ar v h0, n, c, u)) Q) : xe fm y (pc, L, xi z :: .ref 49 :: r, (ko w s p ar v h0, n, c, u)) Q := by
  refine xe_pf hy hi hq hf ko_49 (by omega) (by omega) rfl (Nat.le_of_ble_eq_true rfl) (Nat.le_of_ble_eq_true rfl) xi_int (Or.inl rfl) ?_
  have e := ko_set (w := w) (s := s) (p := p) (ar := ar) (v := v) (h0 := h0) (j := 5) (by omega) (show koL w (xo_u s 10 z) p ar v = _ from rfl)
  exact (congrArg (fun H => xe fm y (q, L, r, ((H : xm_H), n, c, u)) Q) e).mpr kk
theorem xe_kp_2_6 {idx : Nat} {x : Nat} (hy : xt_md[y]? = some D) (hi : xt_lk D.2.2.2.2.2 pc = some (.putfield idx, 3)) (hq : pc + 3 = q) (hf : xm_fld (xt_X fm) D.1.cls idx = some (2, 6)) (hn : 64 ≤ n) (kk : xe fm y (q, L, r, (ko w s (pu p 6 x) ar v h0, n, c, u)) Q) : xe fm y (pc, L, .ref x :: .ref 49 :: r, (ko w s p ar v h0, n, c, u)) Q := by
  refine xe_pf hy hi hq hf ko_49 (by omega) (by omega) rfl (Nat.le_of_ble_eq_true rfl) (Nat.le_of_ble_eq_true rfl) ⟨rfl, rfl⟩ (Or.inl rfl) ?_
  have e := ko_set (w := w) (s := s) (p := p) (ar := ar) (v := v) (h0 := h0) (j := 5) (by omega) (show koL w s (pu p 6 x) ar v = _ from rfl)
  exact (congrArg (fun H => xe fm y (q, L, r, ((H : xm_H), n, c, u)) Q) e).mpr kk
theorem xe_kp_2_7 {idx : Nat} {x : Nat} (hy : xt_md[y]? = some D) (hi : xt_lk D.2.2.2.2.2 pc = some (.putfield idx, 3)) (hq : pc + 3 = q) (hf : xm_fld (xt_X fm) D.1.cls idx = some (2, 7)) (hn : 64 ≤ n) (kk : xe fm y (q, L, r, (ko w s (pu p 7 x) ar v h0, n, c, u)) Q) : xe fm y (pc, L, .ref x :: .ref 49 :: r, (ko w s p ar v h0, n, c, u)) Q := by
  refine xe_pf hy hi hq hf ko_49 (by omega) (by omega) rfl (Nat.le_of_ble_eq_true rfl) (Nat.le_of_ble_eq_true rfl) ⟨rfl, rfl⟩ (Or.inl rfl) ?_
  have e := ko_set (w := w) (s := s) (p := p) (ar := ar) (v := v) (h0 := h0) (j := 5) (by omega) (show koL w s (pu p 7 x) ar v = _ from rfl)
  exact (congrArg (fun H => xe fm y (q, L, r, ((H : xm_H), n, c, u)) Q) e).mpr kk
theorem xe_kp_3_2 {idx : Nat} {z : Int} (hy : xt_md[y]? = some D) (hi : xt_lk D.2.2.2.2.2 pc = some (.putfield idx, 3)) (hq : pc + 3 = q) (hf : xm_fld (xt_X fm) D.1.cls idx = some (3, 2)) (hn : 64 ≤ n) (kk : xe fm y (q, L, r, (ko w (xo_u s 11 z) p ar v h0, n, c, u)) Q) : xe fm y (pc, L, xi z :: .ref 52 :: r, (ko w s p ar v h0, n, c, u)) Q := by
  refine xe_pf hy hi hq hf ko_52 (by omega) (by omega) rfl (Nat.le_of_ble_eq_true rfl) (Nat.le_of_ble_eq_true rfl) xi_int (Or.inl rfl) ?_
  have e := ko_set (w := w) (s := s) (p := p) (ar := ar) (v := v) (h0 := h0) (j := 8) (by omega) (show koL w (xo_u s 11 z) p ar v = _ from rfl)
  exact (congrArg (fun H => xe fm y (q, L, r, ((H : xm_H), n, c, u)) Q) e).mpr kk
theorem xe_kp_4_3 {idx : Nat} {z : Int} (hy : xt_md[y]? = some D) (hi : xt_lk D.2.2.2.2.2 pc = some (.putfield idx, 3)) (hq : pc + 3 = q) (hf : xm_fld (xt_X fm) D.1.cls idx = some (4, 3)) (hn : 64 ≤ n) (kk : xe fm y (q, L, r, (ko w (xo_u s 13 z) p ar v h0, n, c, u)) Q) : xe fm y (pc, L, xi z :: .ref 59 :: r, (ko w s p ar v h0, n, c, u)) Q := by
  refine xe_pf hy hi hq hf ko_59 (by omega) (by omega) rfl (Nat.le_of_ble_eq_true rfl) (Nat.le_of_ble_eq_true rfl) xi_int (Or.inl rfl) ?_
  have e := ko_set (w := w) (s := s) (p := p) (ar := ar) (v := v) (h0 := h0) (j := 15) (by omega) (show koL w (xo_u s 13 z) p ar v = _ from rfl)
  exact (congrArg (fun H => xe fm y (q, L, r, ((H : xm_H), n, c, u)) Q) e).mpr kk
theorem xe_kp_4_5 {idx : Nat} {z : Int} (hy : xt_md[y]? = some D) (hi : xt_lk D.2.2.2.2.2 pc = some (.putfield idx, 3)) (hq : pc + 3 = q) (hf : xm_fld (xt_X fm) D.1.cls idx = some (4, 5)) (hn : 64 ≤ n) (kk : xe fm y (q, L, r, (ko w (xo_u s 14 z) p ar v h0, n, c, u)) Q) : xe fm y (pc, L, xi z :: .ref 59 :: r, (ko w s p ar v h0, n, c, u)) Q := by
  refine xe_pf hy hi hq hf ko_59 (by omega) (by omega) rfl (Nat.le_of_ble_eq_true rfl) (Nat.le_of_ble_eq_true rfl) xi_int (Or.inl rfl) ?_
  have e := ko_set (w := w) (s := s) (p := p) (ar := ar) (v := v) (h0 := h0) (j := 15) (by omega) (show koL w (xo_u s 14 z) p ar v = _ from rfl)
  exact (congrArg (fun H => xe fm y (q, L, r, ((H : xm_H), n, c, u)) Q) e).mpr kk
theorem xe_kp_5_1 {idx : Nat} {z : Int} (hy : xt_md[y]? = some D) (hi : xt_lk D.2.2.2.2.2 pc = some (.putfield idx, 3)) (hq : pc + 3 = q) (hf : xm_fld (xt_X fm) D.1.cls idx = some (5, 1)) (hn : 64 ≤ n) (kk : xe fm y (q, L, r, (ko w (xo_u s 15 z) p ar v h0, n, c, u)) Q) : xe fm y (pc, L, xi z :: .ref 60 :: r, (ko w s p ar v h0, n, c, u)) Q := by
  refine xe_pf hy hi hq hf ko_60 (by omega) (by omega) rfl (Nat.le_of_ble_eq_true rfl) (Nat.le_of_ble_eq_true rfl) xi_int (Or.inl rfl) ?_
  have e := ko_set (w := w) (s := s) (p := p) (ar := ar) (v := v) (h0 := h0) (j := 16) (by omega) (show koL w (xo_u s 15 z) p ar v = _ from rfl)
  exact (congrArg (fun H => xe fm y (q, L, r, ((H : xm_H), n, c, u)) Q) e).mpr kk
theorem xe_ka_53 {z : Int} (hy : xt_md[y]? = some D) (hi : xt_lk D.2.2.2.2.2 pc = some (.aaload, 1)) (hq : pc + 1 = q) (hn : 64 ≤ n) (hz0 : 0 ≤ z) (hz : z < 8) (kk : xe fm y (q, L, va_rf (ar 0 z.toNat) :: r, (ko w s p ar v h0, n, c, u)) Q) : xe fm y (pc, L, xi z :: .ref 53 :: r, (ko w s p ar v h0, n, c, u)) Q :=
  xe_aa hy hi hq ko_53 rfl (by omega) hz0 (by omega) (by omega) kk
theorem xe_ks_53 {z : Int} {b : Nat} {gs : List Value} (hy : xt_md[y]? = some D) (hi : xt_lk D.2.2.2.2.2 pc = some (.aastore, 1)) (hq : pc + 1 = q) (hn : 64 ≤ n) (hz0 : 0 ≤ z) (hz : z < 8) (hb : ko w s p ar v h0 b = .inr (8, gs)) (hb4 : 44 ≤ b) (hbn : b < n) (kk : xe fm y (q, L, r, (ko w s p (aw ar 0 z.toNat (some b)) v h0, n, c, u)) Q) : xe fm y (pc, L, .ref b :: xi z :: .ref 53 :: r, (ko w s p ar v h0, n, c, u)) Q := by
  refine xe_aas hy hi hq ko_53 rfl (by omega) (by omega) hz0 (by omega) (by omega) hb hb4 hbn rfl rfl ?_
  have e := ko_set (w := w) (s := s) (p := p) (ar := ar) (v := v) (h0 := h0) (j := 9) (by omega) (show koL w s p (aw ar 0 z.toNat (some b)) v = _ from rfl)
  exact (congrArg (fun H => xe fm y (q, L, r, ((H : xm_H), n, c, u)) Q) e).mpr kk
theorem xe_kn_53 {z : Int} (hy : xt_md[y]? = some D) (hi : xt_lk D.2.2.2.2.2 pc = some (.aastore, 1)) (hq : pc + 1 = q) (hn : 64 ≤ n) (hz0 : 0 ≤ z) (hz : z < 8) (kk : xe fm y (q, L, r, (ko w s p (aw ar 0 z.toNat none) v h0, n, c, u)) Q) : xe fm y (pc, L, .null :: xi z :: .ref 53 :: r, (ko w s p ar v h0, n, c, u)) Q := by
  refine xe_aan hy hi hq ko_53 rfl (by omega) (by omega) hz0 (by omega) (by omega) ?_
  have e := ko_set (w := w) (s := s) (p := p) (ar := ar) (v := v) (h0 := h0) (j := 9) (by omega) (show koL w s p (aw ar 0 z.toNat none) v = _ from rfl)
  exact (congrArg (fun H => xe fm y (q, L, r, ((H : xm_H), n, c, u)) Q) e).mpr kk
theorem xe_ka_55 {z : Int} (hy : xt_md[y]? = some D) (hi : xt_lk D.2.2.2.2.2 pc = some (.aaload, 1)) (hq : pc + 1 = q) (hn : 64 ≤ n) (hz0 : 0 ≤ z) (hz : z < 200) (kk : xe fm y (q, L, va_rf (ar 1 z.toNat) :: r, (ko w s p ar v h0, n, c, u)) Q) : xe fm y (pc, L, xi z :: .ref 55 :: r, (ko w s p ar v h0, n, c, u)) Q :=
  xe_aa hy hi hq ko_55 rfl (by omega) hz0 (by omega) (by omega) kk
theorem xe_ks_55 {z : Int} {b : Nat} {gs : List Value} (hy : xt_md[y]? = some D) (hi : xt_lk D.2.2.2.2.2 pc = some (.aastore, 1)) (hq : pc + 1 = q) (hn : 64 ≤ n) (hz0 : 0 ≤ z) (hz : z < 200) (hb : ko w s p ar v h0 b = .inr (12, gs)) (hb4 : 44 ≤ b) (hbn : b < n) (kk : xe fm y (q, L, r, (ko w s p (aw ar 1 z.toNat (some b)) v h0, n, c, u)) Q) : xe fm y (pc, L, .ref b :: xi z :: .ref 55 :: r, (ko w s p ar v h0, n, c, u)) Q := by
  refine xe_aas hy hi hq ko_55 rfl (by omega) (by omega) hz0 (by omega) (by omega) hb hb4 hbn rfl rfl ?_
  have e := ko_set (w := w) (s := s) (p := p) (ar := ar) (v := v) (h0 := h0) (j := 11) (by omega) (show koL w s p (aw ar 1 z.toNat (some b)) v = _ from rfl)
  exact (congrArg (fun H => xe fm y (q, L, r, ((H : xm_H), n, c, u)) Q) e).mpr kk
theorem xe_kn_55 {z : Int} (hy : xt_md[y]? = some D) (hi : xt_lk D.2.2.2.2.2 pc = some (.aastore, 1)) (hq : pc + 1 = q) (hn : 64 ≤ n) (hz0 : 0 ≤ z) (hz : z < 200) (kk : xe fm y (q, L, r, (ko w s p (aw ar 1 z.toNat none) v h0, n, c, u)) Q) : xe fm y (pc, L, .null :: xi z :: .ref 55 :: r, (ko w s p ar v h0, n, c, u)) Q := by
  refine xe_aan hy hi hq ko_55 rfl (by omega) (by omega) hz0 (by omega) (by omega) ?_
  have e := ko_set (w := w) (s := s) (p := p) (ar := ar) (v := v) (h0 := h0) (j := 11) (by omega) (show koL w s p (aw ar 1 z.toNat none) v = _ from rfl)
  exact (congrArg (fun H => xe fm y (q, L, r, ((H : xm_H), n, c, u)) Q) e).mpr kk
theorem xe_ka_56 {z : Int} (hy : xt_md[y]? = some D) (hi : xt_lk D.2.2.2.2.2 pc = some (.aaload, 1)) (hq : pc + 1 = q) (hn : 64 ≤ n) (hz0 : 0 ≤ z) (hz : z < 4) (kk : xe fm y (q, L, va_rf (ar 2 z.toNat) :: r, (ko w s p ar v h0, n, c, u)) Q) : xe fm y (pc, L, xi z :: .ref 56 :: r, (ko w s p ar v h0, n, c, u)) Q :=
  xe_aa hy hi hq ko_56 rfl (by omega) hz0 (by omega) (by omega) kk
theorem xe_ks_56 {z : Int} {b : Nat} {gs : List Value} (hy : xt_md[y]? = some D) (hi : xt_lk D.2.2.2.2.2 pc = some (.aastore, 1)) (hq : pc + 1 = q) (hn : 64 ≤ n) (hz0 : 0 ≤ z) (hz : z < 4) (hb : ko w s p ar v h0 b = .inr (9, gs)) (hb4 : 44 ≤ b) (hbn : b < n) (kk : xe fm y (q, L, r, (ko w s p (aw ar 2 z.toNat (some b)) v h0, n, c, u)) Q) : xe fm y (pc, L, .ref b :: xi z :: .ref 56 :: r, (ko w s p ar v h0, n, c, u)) Q := by
  refine xe_aas hy hi hq ko_56 rfl (by omega) (by omega) hz0 (by omega) (by omega) hb hb4 hbn rfl rfl ?_
  have e := ko_set (w := w) (s := s) (p := p) (ar := ar) (v := v) (h0 := h0) (j := 12) (by omega) (show koL w s p (aw ar 2 z.toNat (some b)) v = _ from rfl)
  exact (congrArg (fun H => xe fm y (q, L, r, ((H : xm_H), n, c, u)) Q) e).mpr kk
theorem xe_kn_56 {z : Int} (hy : xt_md[y]? = some D) (hi : xt_lk D.2.2.2.2.2 pc = some (.aastore, 1)) (hq : pc + 1 = q) (hn : 64 ≤ n) (hz0 : 0 ≤ z) (hz : z < 4) (kk : xe fm y (q, L, r, (ko w s p (aw ar 2 z.toNat none) v h0, n, c, u)) Q) : xe fm y (pc, L, .null :: xi z :: .ref 56 :: r, (ko w s p ar v h0, n, c, u)) Q := by
  refine xe_aan hy hi hq ko_56 rfl (by omega) (by omega) hz0 (by omega) (by omega) ?_
  have e := ko_set (w := w) (s := s) (p := p) (ar := ar) (v := v) (h0 := h0) (j := 12) (by omega) (show koL w s p (aw ar 2 z.toNat none) v = _ from rfl)
  exact (congrArg (fun H => xe fm y (q, L, r, ((H : xm_H), n, c, u)) Q) e).mpr kk
theorem xe_ka_57 {z : Int} (hy : xt_md[y]? = some D) (hi : xt_lk D.2.2.2.2.2 pc = some (.aaload, 1)) (hq : pc + 1 = q) (hn : 64 ≤ n) (hz0 : 0 ≤ z) (hz : z < 16) (kk : xe fm y (q, L, va_rf (ar 3 z.toNat) :: r, (ko w s p ar v h0, n, c, u)) Q) : xe fm y (pc, L, xi z :: .ref 57 :: r, (ko w s p ar v h0, n, c, u)) Q :=
  xe_aa hy hi hq ko_57 rfl (by omega) hz0 (by omega) (by omega) kk
theorem xe_ks_57 {z : Int} {b : Nat} {gs : List Value} (hy : xt_md[y]? = some D) (hi : xt_lk D.2.2.2.2.2 pc = some (.aastore, 1)) (hq : pc + 1 = q) (hn : 64 ≤ n) (hz0 : 0 ≤ z) (hz : z < 16) (hb : ko w s p ar v h0 b = .inr (9, gs)) (hb4 : 44 ≤ b) (hbn : b < n) (kk : xe fm y (q, L, r, (ko w s p (aw ar 3 z.toNat (some b)) v h0, n, c, u)) Q) : xe fm y (pc, L, .ref b :: xi z :: .ref 57 :: r, (ko w s p ar v h0, n, c, u)) Q := by
  refine xe_aas hy hi hq ko_57 rfl (by omega) (by omega) hz0 (by omega) (by omega) hb hb4 hbn rfl rfl ?_
  have e := ko_set (w := w) (s := s) (p := p) (ar := ar) (v := v) (h0 := h0) (j := 13) (by omega) (show koL w s p (aw ar 3 z.toNat (some b)) v = _ from rfl)
  exact (congrArg (fun H => xe fm y (q, L, r, ((H : xm_H), n, c, u)) Q) e).mpr kk
theorem xe_kn_57 {z : Int} (hy : xt_md[y]? = some D) (hi : xt_lk D.2.2.2.2.2 pc = some (.aastore, 1)) (hq : pc + 1 = q) (hn : 64 ≤ n) (hz0 : 0 ≤ z) (hz : z < 16) (kk : xe fm y (q, L, r, (ko w s p (aw ar 3 z.toNat none) v h0, n, c, u)) Q) : xe fm y (pc, L, .null :: xi z :: .ref 57 :: r, (ko w s p ar v h0, n, c, u)) Q := by
  refine xe_aan hy hi hq ko_57 rfl (by omega) (by omega) hz0 (by omega) (by omega) ?_
  have e := ko_set (w := w) (s := s) (p := p) (ar := ar) (v := v) (h0 := h0) (j := 13) (by omega) (show koL w s p (aw ar 3 z.toNat none) v = _ from rfl)
  exact (congrArg (fun H => xe fm y (q, L, r, ((H : xm_H), n, c, u)) Q) e).mpr kk
theorem xe_ka_58 {z : Int} (hy : xt_md[y]? = some D) (hi : xt_lk D.2.2.2.2.2 pc = some (.aaload, 1)) (hq : pc + 1 = q) (hn : 64 ≤ n) (hz0 : 0 ≤ z) (hz : z < 24) (kk : xe fm y (q, L, va_rf (ar 4 z.toNat) :: r, (ko w s p ar v h0, n, c, u)) Q) : xe fm y (pc, L, xi z :: .ref 58 :: r, (ko w s p ar v h0, n, c, u)) Q :=
  xe_aa hy hi hq ko_58 rfl (by omega) hz0 (by omega) (by omega) kk
theorem xe_ks_58 {z : Int} {b : Nat} {gs : List Value} (hy : xt_md[y]? = some D) (hi : xt_lk D.2.2.2.2.2 pc = some (.aastore, 1)) (hq : pc + 1 = q) (hn : 64 ≤ n) (hz0 : 0 ≤ z) (hz : z < 24) (hb : ko w s p ar v h0 b = .inr (10, gs)) (hb4 : 44 ≤ b) (hbn : b < n) (kk : xe fm y (q, L, r, (ko w s p (aw ar 4 z.toNat (some b)) v h0, n, c, u)) Q) : xe fm y (pc, L, .ref b :: xi z :: .ref 58 :: r, (ko w s p ar v h0, n, c, u)) Q := by
  refine xe_aas hy hi hq ko_58 rfl (by omega) (by omega) hz0 (by omega) (by omega) hb hb4 hbn rfl rfl ?_
  have e := ko_set (w := w) (s := s) (p := p) (ar := ar) (v := v) (h0 := h0) (j := 14) (by omega) (show koL w s p (aw ar 4 z.toNat (some b)) v = _ from rfl)
  exact (congrArg (fun H => xe fm y (q, L, r, ((H : xm_H), n, c, u)) Q) e).mpr kk
theorem xe_kn_58 {z : Int} (hy : xt_md[y]? = some D) (hi : xt_lk D.2.2.2.2.2 pc = some (.aastore, 1)) (hq : pc + 1 = q) (hn : 64 ≤ n) (hz0 : 0 ≤ z) (hz : z < 24) (kk : xe fm y (q, L, r, (ko w s p (aw ar 4 z.toNat none) v h0, n, c, u)) Q) : xe fm y (pc, L, .null :: xi z :: .ref 58 :: r, (ko w s p ar v h0, n, c, u)) Q := by
  refine xe_aan hy hi hq ko_58 rfl (by omega) (by omega) hz0 (by omega) (by omega) ?_
  have e := ko_set (w := w) (s := s) (p := p) (ar := ar) (v := v) (h0 := h0) (j := 14) (by omega) (show koL w s p (aw ar 4 z.toNat none) v = _ from rfl)
  exact (congrArg (fun H => xe fm y (q, L, r, ((H : xm_H), n, c, u)) Q) e).mpr kk
theorem xe_ka_61 {z : Int} (hy : xt_md[y]? = some D) (hi : xt_lk D.2.2.2.2.2 pc = some (.aaload, 1)) (hq : pc + 1 = q) (hn : 64 ≤ n) (hz0 : 0 ≤ z) (hz : z < 8) (kk : xe fm y (q, L, va_rf (ar 5 z.toNat) :: r, (ko w s p ar v h0, n, c, u)) Q) : xe fm y (pc, L, xi z :: .ref 61 :: r, (ko w s p ar v h0, n, c, u)) Q :=
  xe_aa hy hi hq ko_61 rfl (by omega) hz0 (by omega) (by omega) kk
theorem xe_ks_61 {z : Int} {b : Nat} {gs : List Value} (hy : xt_md[y]? = some D) (hi : xt_lk D.2.2.2.2.2 pc = some (.aastore, 1)) (hq : pc + 1 = q) (hn : 64 ≤ n) (hz0 : 0 ≤ z) (hz : z < 8) (hb : ko w s p ar v h0 b = .inr (7, gs)) (hb4 : 44 ≤ b) (hbn : b < n) (kk : xe fm y (q, L, r, (ko w s p (aw ar 5 z.toNat (some b)) v h0, n, c, u)) Q) : xe fm y (pc, L, .ref b :: xi z :: .ref 61 :: r, (ko w s p ar v h0, n, c, u)) Q := by
  refine xe_aas hy hi hq ko_61 rfl (by omega) (by omega) hz0 (by omega) (by omega) hb hb4 hbn rfl rfl ?_
  have e := ko_set (w := w) (s := s) (p := p) (ar := ar) (v := v) (h0 := h0) (j := 17) (by omega) (show koL w s p (aw ar 5 z.toNat (some b)) v = _ from rfl)
  exact (congrArg (fun H => xe fm y (q, L, r, ((H : xm_H), n, c, u)) Q) e).mpr kk
theorem xe_kn_61 {z : Int} (hy : xt_md[y]? = some D) (hi : xt_lk D.2.2.2.2.2 pc = some (.aastore, 1)) (hq : pc + 1 = q) (hn : 64 ≤ n) (hz0 : 0 ≤ z) (hz : z < 8) (kk : xe fm y (q, L, r, (ko w s p (aw ar 5 z.toNat none) v h0, n, c, u)) Q) : xe fm y (pc, L, .null :: xi z :: .ref 61 :: r, (ko w s p ar v h0, n, c, u)) Q := by
  refine xe_aan hy hi hq ko_61 rfl (by omega) (by omega) hz0 (by omega) (by omega) ?_
  have e := ko_set (w := w) (s := s) (p := p) (ar := ar) (v := v) (h0 := h0) (j := 17) (by omega) (show koL w s p (aw ar 5 z.toNat none) v = _ from rfl)
  exact (congrArg (fun H => xe fm y (q, L, r, ((H : xm_H), n, c, u)) Q) e).mpr kk
theorem xe_ka_62 {z : Int} (hy : xt_md[y]? = some D) (hi : xt_lk D.2.2.2.2.2 pc = some (.aaload, 1)) (hq : pc + 1 = q) (hn : 64 ≤ n) (hz0 : 0 ≤ z) (hz : z < 41) (kk : xe fm y (q, L, va_rf (ar 6 z.toNat) :: r, (ko w s p ar v h0, n, c, u)) Q) : xe fm y (pc, L, xi z :: .ref 62 :: r, (ko w s p ar v h0, n, c, u)) Q :=
  xe_aa hy hi hq ko_62 rfl (by omega) hz0 (by omega) (by omega) kk
theorem xe_ks_62 {z : Int} {b : Nat} {gs : List Value} (hy : xt_md[y]? = some D) (hi : xt_lk D.2.2.2.2.2 pc = some (.aastore, 1)) (hq : pc + 1 = q) (hn : 64 ≤ n) (hz0 : 0 ≤ z) (hz : z < 41) (hb : ko w s p ar v h0 b = .inr (11, gs)) (hb4 : 44 ≤ b) (hbn : b < n) (kk : xe fm y (q, L, r, (ko w s p (aw ar 6 z.toNat (some b)) v h0, n, c, u)) Q) : xe fm y (pc, L, .ref b :: xi z :: .ref 62 :: r, (ko w s p ar v h0, n, c, u)) Q := by
  refine xe_aas hy hi hq ko_62 rfl (by omega) (by omega) hz0 (by omega) (by omega) hb hb4 hbn rfl rfl ?_
  have e := ko_set (w := w) (s := s) (p := p) (ar := ar) (v := v) (h0 := h0) (j := 18) (by omega) (show koL w s p (aw ar 6 z.toNat (some b)) v = _ from rfl)
  exact (congrArg (fun H => xe fm y (q, L, r, ((H : xm_H), n, c, u)) Q) e).mpr kk
theorem xe_kn_62 {z : Int} (hy : xt_md[y]? = some D) (hi : xt_lk D.2.2.2.2.2 pc = some (.aastore, 1)) (hq : pc + 1 = q) (hn : 64 ≤ n) (hz0 : 0 ≤ z) (hz : z < 41) (kk : xe fm y (q, L, r, (ko w s p (aw ar 6 z.toNat none) v h0, n, c, u)) Q) : xe fm y (pc, L, .null :: xi z :: .ref 62 :: r, (ko w s p ar v h0, n, c, u)) Q := by
  refine xe_aan hy hi hq ko_62 rfl (by omega) (by omega) hz0 (by omega) (by omega) ?_
  have e := ko_set (w := w) (s := s) (p := p) (ar := ar) (v := v) (h0 := h0) (j := 18) (by omega) (show koL w s p (aw ar 6 z.toNat none) v = _ from rfl)
  exact (congrArg (fun H => xe fm y (q, L, r, ((H : xm_H), n, c, u)) Q) e).mpr kk
theorem xe_ka_63 {z : Int} (hy : xt_md[y]? = some D) (hi : xt_lk D.2.2.2.2.2 pc = some (.aaload, 1)) (hq : pc + 1 = q) (hn : 64 ≤ n) (hz0 : 0 ≤ z) (hz : z < 40) (kk : xe fm y (q, L, va_rf (ar 7 z.toNat) :: r, (ko w s p ar v h0, n, c, u)) Q) : xe fm y (pc, L, xi z :: .ref 63 :: r, (ko w s p ar v h0, n, c, u)) Q :=
  xe_aa hy hi hq ko_63 rfl (by omega) hz0 (by omega) (by omega) kk
theorem xe_ks_63 {z : Int} {b : Nat} {gs : List Value} (hy : xt_md[y]? = some D) (hi : xt_lk D.2.2.2.2.2 pc = some (.aastore, 1)) (hq : pc + 1 = q) (hn : 64 ≤ n) (hz0 : 0 ≤ z) (hz : z < 40) (hb : ko w s p ar v h0 b = .inr (11, gs)) (hb4 : 44 ≤ b) (hbn : b < n) (kk : xe fm y (q, L, r, (ko w s p (aw ar 7 z.toNat (some b)) v h0, n, c, u)) Q) : xe fm y (pc, L, .ref b :: xi z :: .ref 63 :: r, (ko w s p ar v h0, n, c, u)) Q := by
  refine xe_aas hy hi hq ko_63 rfl (by omega) (by omega) hz0 (by omega) (by omega) hb hb4 hbn rfl rfl ?_
  have e := ko_set (w := w) (s := s) (p := p) (ar := ar) (v := v) (h0 := h0) (j := 19) (by omega) (show koL w s p (aw ar 7 z.toNat (some b)) v = _ from rfl)
  exact (congrArg (fun H => xe fm y (q, L, r, ((H : xm_H), n, c, u)) Q) e).mpr kk
theorem xe_kn_63 {z : Int} (hy : xt_md[y]? = some D) (hi : xt_lk D.2.2.2.2.2 pc = some (.aastore, 1)) (hq : pc + 1 = q) (hn : 64 ≤ n) (hz0 : 0 ≤ z) (hz : z < 40) (kk : xe fm y (q, L, r, (ko w s p (aw ar 7 z.toNat none) v h0, n, c, u)) Q) : xe fm y (pc, L, .null :: xi z :: .ref 63 :: r, (ko w s p ar v h0, n, c, u)) Q := by
  refine xe_aan hy hi hq ko_63 rfl (by omega) (by omega) hz0 (by omega) (by omega) ?_
  have e := ko_set (w := w) (s := s) (p := p) (ar := ar) (v := v) (h0 := h0) (j := 19) (by omega) (show koL w s p (aw ar 7 z.toNat none) v = _ from rfl)
  exact (congrArg (fun H => xe fm y (q, L, r, ((H : xm_H), n, c, u)) Q) e).mpr kk
theorem xe_kl_54 {z : Int} (hy : xt_md[y]? = some D) (hi : xt_lk D.2.2.2.2.2 pc = some (.iaload, 1)) (hq : pc + 1 = q) (hn : 64 ≤ n) (hz0 : 0 ≤ z) (hz : z < 64) (kk : xe fm y (q, L, xi (v z.toNat) :: r, (ko w s p ar v h0, n, c, u)) Q) : xe fm y (pc, L, xi z :: .ref 54 :: r, (ko w s p ar v h0, n, c, u)) Q :=
  xe_al (ok := xm_isN) (ty := .int) hy hi hq (fun _ _ => ⟨rfl, rfl, rfl, rfl⟩) ko_54 rfl rfl (by omega) ⟨by omega, by omega⟩ hz0 (by omega) rfl kk
theorem xe_kw_54 {z x : Int} (hy : xt_md[y]? = some D) (hi : xt_lk D.2.2.2.2.2 pc = some (.iastore, 1)) (hq : pc + 1 = q) (hn : 64 ≤ n) (hz0 : 0 ≤ z) (hz : z < 64) (kk : xe fm y (q, L, r, (ko w s p ar (vu v z.toNat x) h0, n, c, u)) Q) : xe fm y (pc, L, xi x :: xi z :: .ref 54 :: r, (ko w s p ar v h0, n, c, u)) Q := by
  refine xe_as (ok := xm_isN) (ty := .int) hy hi hq (fun _ _ => ⟨rfl, rfl, rfl, rfl⟩) ko_54 rfl rfl (by omega) (by omega) ⟨by omega, by omega⟩ hz0 (by omega) rfl ?_
  have e : va_up (ko w s p ar v h0) (44 + 10) (.inl (0, 64, .inl (upd (fun i => Int32.ofInt (v i)) z.toNat (Int32.ofInt x)))) = ko w s p ar (vu v z.toNat x) h0 := by
    refine ko_set (by omega) ?_
    have g : (fun i => Int32.ofInt (vu v z.toNat x i)) = upd (fun i => Int32.ofInt (v i)) z.toNat (Int32.ofInt x) := by
      funext i
      unfold vu upd
      split <;> rfl
    rw [← g]
    rfl
  exact (congrArg (fun H => xe fm y (q, L, r, ((H : xm_H), n, c, u)) Q) e).mpr kk
end XKR
