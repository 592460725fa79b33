/-! the jar: rows that go -/
theorem er_gd {C : List ck_T} {a j : Nat} : (C.eraseIdx a).getD j ck_0 = if j < a then C.getD j ck_0 else C.getD (j + 1) ck_0 := by
  rw [List.getD_eq_getElem?_getD, List.getElem?_eraseIdx]
  split <;> rw [List.getD_eq_getElem?_getD]
theorem tk_s {C : List ck_T} {k : Nat} (h : k < C.length) : C.take (k + 1) = C.take k ++ [C.getD k ck_0] := by
  rw [List.take_succ_eq_append_getElem h, List.getD_eq_getElem?_getD, List.getElem?_eq_getElem h]
  rfl
theorem tk_gd {C R : List ck_T} {k : Nat} (h : k < C.length) : (C.take (k + 1) ++ R).getD k ck_0 = C.getD k ck_0 := by
  rw [List.getD_eq_getElem?_getD, List.getElem?_append_left (by rw [List.length_take]; omega), List.getElem?_take_of_lt (Nat.lt_succ_self k), ← List.getD_eq_getElem?_getD]
theorem tk_er {C R : List ck_T} {k : Nat} (h : k < C.length) : (C.take (k + 1) ++ R).eraseIdx k = C.take k ++ R := by
  rw [tk_s h, List.append_assoc]
  have e : (C.take k).length = k := by rw [List.length_take]; omega
  rw [List.eraseIdx_append_of_length_le (by omega), e, Nat.sub_self]
  rfl
theorem nov_d {C : List ck_T} {t : Int} {k : Nat} (h : k < C.length) : ck_nov t (C.drop k) = if ck_io t (C.getD k ck_0) = true then ck_nov t (C.drop (k + 1)) else C.getD k ck_0 :: ck_nov t (C.drop (k + 1)) := by
  have e : C.drop k = C.getD k ck_0 :: C.drop (k + 1) := by
    rw [List.drop_eq_getElem_cons h, List.getD_eq_getElem?_getD, List.getElem?_eq_getElem h]
    rfl
  rw [e]
  unfold ck_nov
  rw [List.filter_cons]
  cases ck_io t (C.getD k ck_0) with
  | true => rw [if_pos rfl, Bool.not_true, if_neg (by decide)]
  | false => rfl
theorem tail_is {D S : List Int} {L : List (List Int)} : decide (st_tail D L = S) = (decide ((D.length : Int) - st_site D L = S.length) && stA D (st_site D L) S) := by
  have le := st_site_le (D := D) (L := L)
  unfold st_tail stA sl
  refine bool_iff ?_
  simp only [Bool.and_eq_true, decide_eq_true_eq]
  rw [Int.toNat_natCast, show (((st_site D L : Nat) : Int) + (S.length : Int) - ((st_site D L : Nat) : Int)).toNat = S.length by omega]
  constructor
  · intro e
    have el : D.length - st_site D L = S.length := by rw [← e, List.length_drop]
    refine ⟨by omega, by omega, by omega, ?_⟩
    rw [e, List.take_length]
  · rintro ⟨e1, _, _, e2⟩
    rw [← e2, List.take_of_length_le]
    rw [List.length_drop]
    omega

def rmF (q : ck_T → Bool) : Nat → List ck_T → List ck_T
  | 0, C => C
  | _ + 1, [] => []
  | k + 1, c :: C => if q c = true then rmF q k C else c :: rmF q (k + 1) C
theorem rmF_0 {q : ck_T → Bool} {C : List ck_T} : rmF q 0 C = C := by unfold rmF; rfl
theorem rmF_nil {q : ck_T → Bool} {k : Nat} : rmF q k [] = [] := by cases k <;> rfl
theorem rmF_app {q : ck_T → Bool} : ∀ (A X : List ck_T) (k j : Nat), k + j = (A.filter q).length + j → rmF q (k + j) (A ++ X) = rmF q k A ++ rmF q j X
  | [], X, k, j, h => by
    have : k = 0 := by simp at h; omega
    subst this
    rw [Nat.zero_add]
    rfl
  | a :: A, X, k, j, h => by
    rw [List.filter_cons] at h
    by_cases e : q a = true
    · rw [if_pos e, List.length_cons] at h
      obtain ⟨k, rfl⟩ : ∃ m, k = m + 1 := ⟨k - 1, by omega⟩
      rw [show k + 1 + j = k + j + 1 by omega, List.cons_append, rmF, rmF, if_pos e, if_pos e]
      exact rmF_app A X k j (by omega)
    · rw [if_neg e] at h
      cases k with
      | zero =>
        have ih := rmF_app A X 0 j (by omega)
        rw [List.cons_append]
        cases j with
        | zero => rw [rmF_0, rmF_0, rmF_0]; rfl
        | succ j =>
          rw [Nat.zero_add, rmF_0] at ih
          rw [Nat.zero_add, rmF_0]
          rw [rmF, if_neg e, ih]
          rfl
      | succ k =>
        have ih := rmF_app A X (k + 1) j (by omega)
        rw [show k + 1 + j = k + j + 1 by omega, List.cons_append, rmF, rmF, if_neg e, if_neg e]
        rw [show k + 1 + j = k + j + 1 by omega] at ih
        rw [ih]
        rfl
theorem rmF_le {q : ck_T → Bool} : ∀ (A X : List ck_T) (k : Nat), k ≤ (A.filter q).length → rmF q k (A ++ X) = rmF q k A ++ X
  | [], X, k, h => by
    have : k = 0 := by simp at h; omega
    subst this
    rw [rmF_0, rmF_0]
  | a :: A, X, k, h => by
    rw [List.filter_cons] at h
    cases k with
    | zero => rw [rmF_0, rmF_0]
    | succ k =>
      rw [List.cons_append, rmF, rmF]
      by_cases e : q a = true
      · rw [if_pos e, List.length_cons] at h
        rw [if_pos e, if_pos e]
        exact rmF_le A X k (by omega)
      · rw [if_neg e] at h
        rw [if_neg e, if_neg e, rmF_le A X (k + 1) h]
        rfl
/-- one step from the end -/
def qdr (q : ck_T → Bool) (Q k : Nat) (A R : List ck_T) : List ck_T := rmF q ((A.filter q).length - (Q - k)) A ++ R
theorem qdr_nil {q : ck_T → Bool} {Q k : Nat} {R : List ck_T} : qdr q Q k [] R = R := by
  unfold qdr
  rw [rmF_nil]
  rfl
theorem qdr_no {q : ck_T → Bool} {Q k : Nat} {A R : List ck_T} {a : ck_T} (h : q a = false) : qdr q Q k (A ++ [a]) R = qdr q Q k A (a :: R) := by
  unfold qdr
  have e : ((A ++ [a]).filter q).length = (A.filter q).length := by simp [h]
  rw [e, rmF_le _ _ _ (by omega), List.append_assoc]
  rfl
theorem qdr_keep {q : ck_T → Bool} {Q k : Nat} {A R : List ck_T} {a : ck_T} (h : q a = true) (hk : k + 1 ≤ Q) : qdr q Q k (A ++ [a]) R = qdr q Q (k + 1) A (a :: R) := by
  unfold qdr
  have e : ((A ++ [a]).filter q).length = (A.filter q).length + 1 := by simp [h]
  rw [e, rmF_le _ _ _ (by omega), List.append_assoc, show (A.filter q).length + 1 - (Q - k) = (A.filter q).length - (Q - (k + 1)) by omega]
  rfl
theorem qdr_drop {q : ck_T → Bool} {Q k : Nat} {A R : List ck_T} {a : ck_T} (h : q a = true) (hk : Q < k + 1) : qdr q Q k (A ++ [a]) R = qdr q Q (k + 1) A R := by
  unfold qdr
  have e : ((A ++ [a]).filter q).length = (A.filter q).length + 1 := by simp [h]
  rw [e, show Q - k = 0 by omega, show Q - (k + 1) = 0 by omega, Nat.sub_zero, Nat.sub_zero, rmF_app A [a] (A.filter q).length 1 rfl]
  have : rmF q 1 [a] = [] := by
    rw [rmF, if_pos h, rmF_0]
  rw [this, List.append_nil]
theorem old_erase {L : List (List Int)} {D : List Int} : ∀ (C : List ck_T) (k : Nat) (_ : 0 < ck_cnt L D C), ∃ m : Nat, ck_old L D C k = ((k + m : Nat) : Int) ∧ C.eraseIdx m = rmF (fun c => decide (st_tail c.2.2.1 L = st_tail D L)) 1 C
  | [], k, h => by simp [ck_cnt] at h
  | c :: C, k, h => by
    unfold ck_old
    by_cases e : st_tail c.2.2.1 L = st_tail D L
    · rw [if_pos e]
      refine ⟨0, rfl, ?_⟩
      rw [rmF, if_pos (decide_eq_true e), rmF_0]
      rfl
    · rw [if_neg e]
      have h' : 0 < ck_cnt L D C := by
        unfold ck_cnt at h ⊢
        rw [List.filter_cons, if_neg (by rw [decide_eq_false e]; decide)] at h
        exact h
      obtain ⟨m, h1, h2⟩ := old_erase C (k + 1) h'
      refine ⟨m + 1, by rw [h1]; congr 1; omega, ?_⟩
      rw [rmF, if_neg (by rw [decide_eq_false e]; decide), List.eraseIdx_cons_succ, h2]
theorem rmF_one {q : ck_T → Bool} : ∀ (C : List ck_T) (k : Nat), rmF q k (rmF q 1 C) = rmF q (k + 1) C
  | [], k => by rw [rmF_nil, rmF_nil, rmF_nil]
  | c :: C, k => by
    by_cases e : q c = true
    · rw [rmF, if_pos e, rmF_0, rmF, if_pos e]
    · rw [rmF, if_neg e]
      cases k with
      | zero => rw [rmF_0, rmF, if_neg e]
      | succ k => rw [rmF, if_neg e, rmF, if_neg e, rmF_one C (k + 1)]
theorem rmF_cnt {q : ck_T → Bool} : ∀ (C : List ck_T), ((rmF q 1 C).filter q).length = (C.filter q).length - 1
  | [] => rfl
  | c :: C => by
    by_cases e : q c = true
    · rw [rmF, if_pos e, List.filter_cons, if_pos e]
      rw [rmF_0, List.length_cons]
      rfl
    · rw [rmF, if_neg e, List.filter_cons, if_neg e, List.filter_cons, if_neg e, rmF_cnt C]
/-- the quota -/
theorem ck_q_rm {L : List (List Int)} {D : List Int} {Q : Nat} : ∀ (F : Nat) (C : List ck_T), ck_cnt L D C ≤ F + Q → ck_q L D Q F C = rmF (fun c => decide (st_tail c.2.2.1 L = st_tail D L)) (ck_cnt L D C - Q) C
  | 0, C, h => by
    rw [show ck_cnt L D C - Q = 0 by omega, rmF_0]
    rfl
  | F + 1, C, h => by
    unfold ck_q
    split
    · rename_i g
      obtain ⟨m, h1, h2⟩ := old_erase (L := L) (D := D) C 0 (by omega)
      rw [h1, Nat.zero_add, Int.toNat_natCast, h2]
      have hc : ck_cnt L D (rmF (fun c => decide (st_tail c.2.2.1 L = st_tail D L)) 1 C) = ck_cnt L D C - 1 := rmF_cnt C
      rw [ck_q_rm F _ (by omega), hc, rmF_one]
      congr 1
      omega
    · rw [show ck_cnt L D C - Q = 0 by omega, rmF_0]
theorem ck_q_qdr {L : List (List Int)} {D : List Int} {Q : Nat} {C : List ck_T} (hQ : 1 ≤ Q) (hC : C.length ≤ 41) : ck_q L D Q 41 C = qdr (fun c => decide (st_tail c.2.2.1 L = st_tail D L)) Q 0 C [] := by
  have : ck_cnt L D C ≤ C.length := List.length_filter_le _ _
  rw [ck_q_rm 41 C (by omega)]
  unfold qdr
  rw [List.append_nil]
  rfl
section XBC
variable {fm : Value} {w w' w1 w2 : kW} {s s' s1 s2 : Nat → Int} {p p' p1 p2 : Nat → Nat} {ar ar' : Nat → Nat → Option Nat} {v : Nat → Int} {h h' h1 h2 : xm_H} {n n' n1 n2 r k k' u' u1 u2 x y : Nat} {l D W P : List Int} {L : List (List Int)} {A : pa_A} {c f : ck_T} {C : List ck_T} {t t' t1 t2 : Nat → List Int} {kc kc' kc1 kc2 : Nat → Nat}
theorem aw_s {i : Nat} {o : Option Nat} {j : Nat} : aw ar k i o k j = va_up (ar k) i o j := by
  unfold aw
  rw [if_pos rfl]
theorem aw_n {i : Nat} {o : Option Nat} {j : Nat} (h : j ≠ k) : aw ar k i o j = ar j := by
  unfold aw
  rw [if_neg h]
theorem k190_loop (hn : 64 ≤ n) (HC : ckL w s ar h n C) {a : Nat} {z : Int} : ∀ (m i : Nat) (ar1 : Nat → Nat → Option Nat), i + m + 1 = C.length → a ≤ i → (∀ j, j ≠ 6 → ar1 j = ar j) → (∀ j, j < i → ar1 6 j = if j < a then ar 6 j else ar 6 (j + 1)) → (∀ j, i ≤ j → ar1 6 j = ar 6 j) → xe fm 190 (2, [(2, xi (i : Int)), (0, .ref 59), (1, xi z)], [], (ko w s p ar1 v h, n, 0, 0)) (fun q M => q = .inl none ∧ M.2.1 = n ∧ M.2.2.2 = 0 ∧ ∃ ar', M.1 = ko w (xo_u s 13 ((C.length : Int) - 1)) p ar' v h ∧ (∀ j, j ≠ 6 → ar' j = ar j) ∧ ∀ j, j + 1 < C.length → ar' 6 j = if j < a then ar 6 j else ar 6 (j + 1)) := by
  have h8 := HC.2.1
  intro m
  induction m with
  | zero =>
    intro i ar1 hi hai f1 f2 f3
    refine xe_s (f := (3, _, _, _)) xt_g190 rfl rfl rfl rfl rfl ?_
    refine xe_s (f := (4, _, _, _)) xt_g190 rfl rfl rfl rfl rfl ?_
    refine xe_gf xt_g190 rfl (q := 7) rfl (xf_6_35 fm) (ko_59) (by omega) rfl rfl ?_
    rw [HC.1]
    refine xe_s (f := (8, _, xi 1 :: _, _)) xt_g190 rfl rfl rfl rfl rfl ?_
    refine xe_isub xt_g190 rfl (q := 9) rfl ?_
    refine xe_ic_ge xt_g190 rfl (t := 32) rfl (q := 12) rfl (by first | omega | exact xb_r _) (by first | omega | exact xb_r _) (fun b9 => ?_) (fun b9 => ?_)
    · try simp only [xb_0, xb_1, ne_eq, Decidable.not_not, Bool.not_eq_false, Bool.not_eq_true, decide_eq_true_eq, decide_eq_false_iff_not] at b9
      refine xe_s (f := (33, _, _, _)) xt_g190 rfl rfl rfl rfl rfl ?_
      refine xe_s (f := (34, _, _, _)) xt_g190 rfl rfl rfl rfl rfl ?_
      refine xe_gf xt_g190 rfl (q := 37) rfl (xf_6_35 fm) (ko_59) (by omega) rfl rfl ?_
      rw [HC.1]
      refine xe_s (f := (38, _, xi 1 :: _, _)) xt_g190 rfl rfl rfl rfl rfl ?_
      refine xe_isub xt_g190 rfl (q := 39) rfl ?_
      refine xe_kp_4_3 xt_g190 rfl (q := 42) rfl (xf_6_35 fm) (by omega) ?_
      refine xe_s (f := (43, _, _, _)) xt_g190 rfl rfl rfl rfl rfl ?_
      refine xe_gf xt_g190 rfl (q := 46) rfl (xf_6_20 fm) (ko_59) (by omega) rfl rfl ?_
      try simp only [xo_u, pu, Nat.reduceEqDiff, reduceIte]
      refine xe_s (f := (47, _, _, _)) xt_g190 rfl rfl rfl rfl rfl ?_
      refine xe_gf xt_g190 rfl (q := 50) rfl (xf_6_35 fm) (ko_59) (by omega) rfl rfl ?_
      try simp only [xo_u, pu, Nat.reduceEqDiff, reduceIte]
      refine xe_s (f := (51, _, _, _)) xt_g190 rfl rfl rfl rfl rfl ?_
      refine xe_kn_62 xt_g190 rfl (q := 52) rfl (by omega) (by omega) (by omega) ?_
      refine xe_ret xt_g190 rfl rfl ?_
      try dsimp only
      refine ⟨rfl, rfl, rfl, _, rfl, fun j hj => (aw_n hj).trans (f1 j hj), fun j hj => ?_⟩
      rw [aw_s, va_up_n (by omega)]
      exact f2 j (by omega)
    · exact absurd b9 (by omega)
  | succ m ih =>
    intro i ar1 hi hai f1 f2 f3
    obtain ⟨x, e5, na, va, dn, pa, a1, a2, a3, a4, _⟩ := HC.2.2 (i + 1) (by omega)
    have X1 := (ko_d (w := w) (s := s) (p := p) (ar := ar1) (v := v) a2.1).trans a1
    refine xe_s (f := (3, _, _, _)) xt_g190 rfl rfl rfl rfl rfl ?_
    refine xe_s (f := (4, _, _, _)) xt_g190 rfl rfl rfl rfl rfl ?_
    refine xe_gf xt_g190 rfl (q := 7) rfl (xf_6_35 fm) (ko_59) (by omega) rfl rfl ?_
    rw [HC.1]
    refine xe_s (f := (8, _, xi 1 :: _, _)) xt_g190 rfl rfl rfl rfl rfl ?_
    refine xe_isub xt_g190 rfl (q := 9) rfl ?_
    refine xe_ic_ge xt_g190 rfl (t := 32) rfl (q := 12) rfl (by first | omega | exact xb_r _) (by first | omega | exact xb_r _) (fun b9 => ?_) (fun b9 => ?_)
    · exact absurd b9 (by omega)
    · try simp only [xb_0, xb_1, ne_eq, Decidable.not_not, Bool.not_eq_false, Bool.not_eq_true, decide_eq_true_eq, decide_eq_false_iff_not] at b9
      refine xe_s (f := (13, _, _, _)) xt_g190 rfl rfl rfl rfl rfl ?_
      refine xe_gf xt_g190 rfl (q := 16) rfl (xf_6_20 fm) (ko_59) (by omega) rfl rfl ?_
      refine xe_s (f := (17, _, _, _)) xt_g190 rfl rfl rfl rfl rfl ?_
      refine xe_s (f := (18, _, _, _)) xt_g190 rfl rfl rfl rfl rfl ?_
      refine xe_gf xt_g190 rfl (q := 21) rfl (xf_6_20 fm) (ko_59) (by omega) rfl rfl ?_
      refine xe_s (f := (22, _, _, _)) xt_g190 rfl rfl rfl rfl rfl ?_
      refine xe_s (f := (23, _, xi 1 :: _, _)) xt_g190 rfl rfl rfl rfl rfl ?_
      refine xe_iadd xt_g190 rfl (q := 24) rfl ?_
      refine xe_ka_62 xt_g190 rfl (q := 25) rfl (by omega) (by omega) (by omega) ?_
      rw [show ((i : Int) + 1).toNat = i + 1 by omega, f3 (i + 1) (by omega), e5, va_some]
      refine xe_ks_62 xt_g190 rfl (q := 26) rfl (by omega) (by omega) (by omega) (X1) (by omega) (by omega) ?_
      refine xe_iinc xt_g190 rfl (q := 29) rfl rfl (by decide) (L1 := [(2, _), (0, _), (1, _)]) rfl ?_
      refine xe_s (f := (2, _, _, _)) xt_g190 rfl rfl rfl rfl rfl ?_
      have g := ih (i + 1) (aw ar1 6 ((i : Int)).toNat (some x)) (by omega) (by omega) (fun j hj => (aw_n hj).trans (f1 j hj)) (fun j hj => by
        rw [aw_s, Int.toNat_natCast]
        by_cases e : j = i
        · rw [e, va_up_s, if_neg (by omega), e5]
        · rw [va_up_n e]; exact f2 j (by omega)) (fun j hj => by
        rw [aw_s, Int.toNat_natCast, va_up_n (by omega)]; exact f3 j (by omega))
      rw [show ((i + 1 : Nat) : Int) = (i : Int) + 1 by omega] at g
      exact xe_loc (by intro q hq; simp only [List.mem_cons, List.not_mem_nil, or_false] at hq; rcases hq with rfl | rfl | rfl <;> rfl) (g)
/-- drop -/
theorem k190 (hn : 64 ≤ n) (HC : ckL w s ar h n C) {a : Nat} {z : Int} (hz : z = a) (ha : a < C.length) : xN fm 190 (ko w s p ar v h) n [.ref 59, xi z] (fun h' n' u' => n' = n ∧ u' = 0 ∧ ∃ s' ar', h' = ko w s' p ar' v h ∧ (∀ k, k ≠ 13 → s' k = s k) ∧ (∀ k, k ≠ 6 → ar' k = ar k) ∧ ckL w s' ar' h n (C.eraseIdx a)) := by
  subst hz
  have h8 := HC.2.1
  unfold xN
  refine xe_s (f := (1, _, _, _)) xt_g190 rfl rfl rfl rfl rfl ?_
  refine xe_s (f := (2, [(2, _), (0, _), (1, _)], _, _)) xt_g190 rfl rfl rfl rfl rfl ?_
  refine xe_mono (xe_loc (by intro q hq; simp only [List.mem_cons, List.not_mem_nil, or_false] at hq; rcases hq with rfl | rfl | rfl <;> rfl) ((k190_loop (fm := fm) (p := p) (v := v) (a := a) (z := (a : Int)) hn HC (C.length - a - 1) a ar (by omega) (Nat.le_refl _) (fun _ _ => rfl) (fun j hj => by rw [if_pos hj]) (fun _ _ => rfl)))) (fun r M hM => ?_)
  obtain ⟨g1, g2, g3, ar', g4, g5, g6⟩ := hM
  refine ⟨g1, g2, g3, _, ar', g4, fun k hk => xo_uN hk, g5, ?_, ?_, ?_⟩
  · rw [xo_uS, List.length_eraseIdx_of_lt ha]; omega
  · rw [List.length_eraseIdx_of_lt ha]; omega
  · intro i hi
    rw [List.length_eraseIdx_of_lt ha] at hi
    rw [er_gd, g6 i (by omega)]
    split
    · exact HC.2.2 i (by omega)
    · exact HC.2.2 (i + 1) (by omega)
theorem k189_loop (hn : 64 ≤ n) (ht : 0 ≤ s 14 ∧ s 14 ≤ 1000000000) (hC : C.length ≤ 41) : ∀ (k : Nat) (s1 : Nat → Int) (ar1 : Nat → Nat → Option Nat) (c u : Nat), k ≤ C.length → (∀ j, j ≠ 13 → s1 j = s j) → (∀ j, j ≠ 6 → ar1 j = ar j) → ckL w s1 ar1 h n (C.take k ++ ck_nov (s 14) (C.drop k)) → xe fm 189 (7, [(1, xi ((k : Int) - 1)), (0, .ref 59)], [], (ko w s1 p ar1 v h, n, c, u)) (fun q M => q = .inl none ∧ M.2.1 = n ∧ M.2.2.2 = u ∧ ∃ s' ar', M.1 = ko w s' p ar' v h ∧ (∀ j, j ≠ 13 → s' j = s j) ∧ (∀ j, j ≠ 6 → ar' j = ar j) ∧ ckL w s' ar' h n (ck_nov (s 14) C)) := by
  intro k
  induction k with
  | zero =>
    intro s1 ar1 c u hk f1 f2 HC
    refine xe_s (f := (8, _, _, _)) xt_g189 rfl rfl rfl rfl rfl ?_
    refine xe_if_lt xt_g189 rfl (t := 38) rfl (q := 11) rfl (by first | omega | exact xb_r _) (fun b8 => ?_) (fun b8 => ?_)
    · try simp only [xb_0, xb_1, ne_eq, Decidable.not_not, Bool.not_eq_false, Bool.not_eq_true, decide_eq_true_eq, decide_eq_false_iff_not] at b8
      refine xe_ret xt_g189 rfl rfl ?_
      try dsimp only
      exact ⟨rfl, rfl, rfl, s1, ar1, rfl, f1, f2, HC⟩
    · exact absurd b8 (by omega)
  | succ k ih =>
    intro s1 ar1 c u hk f1 f2 HC
    have h8 := HC.2.1
    have hlen : k < (C.take (k + 1) ++ ck_nov (s 14) (C.drop (k + 1))).length := by rw [List.length_append, List.length_take]; omega
    obtain ⟨x, e5, HX⟩ := HC.2.2 k hlen
    rw [tk_gd (by omega)] at HX
    have HX' := HX
    obtain ⟨na, va, dn, pa, a1, a2, a3, a4, _⟩ := HX
    have X1 := (ko_d (w := w) (s := s1) (p := p) (ar := ar1) (v := v) a2.1).trans a1
    have ek : (((k + 1 : Nat) : Int) - 1).toNat = k := by omega
    refine xe_s (f := (8, _, _, _)) xt_g189 rfl rfl rfl rfl rfl ?_
    refine xe_if_lt xt_g189 rfl (t := 38) rfl (q := 11) rfl (by first | omega | exact xb_r _) (fun b8 => ?_) (fun b8 => ?_)
    · exact absurd b8 (by omega)
    · try simp only [xb_0, xb_1, ne_eq, Decidable.not_not, Bool.not_eq_false, Bool.not_eq_true, decide_eq_true_eq, decide_eq_false_iff_not] at b8
      refine xe_s (f := (12, _, _, _)) xt_g189 rfl rfl rfl rfl rfl ?_
      refine xe_gf xt_g189 rfl (q := 15) rfl (xf_6_20 fm) (ko_59) (by omega) rfl rfl ?_
      refine xe_s (f := (16, _, _, _)) xt_g189 rfl rfl rfl rfl rfl ?_
      refine xe_ka_62 xt_g189 rfl (q := 17) rfl (by omega) (by omega) (by omega) ?_
      rw [ek, e5, va_some]
      refine xe_s (f := (18, _, _, _)) xt_g189 rfl rfl rfl rfl rfl ?_
      refine xe_gf xt_g189 rfl (q := 21) rfl (xf_6_31 fm) (ko_59) (by omega) rfl rfl ?_
      rw [f1 14 (by decide)]
      refine xe_cR xt_g189 rfl rfl rfl (q := 24) rfl (kc_V xk_6_38 rfl (X1) (by omega) rfl rfl) xt_g137 (by decide) ⟨Nat.le_of_ble_eq_true rfl, Nat.le_of_ble_eq_true rfl, Nat.le_of_ble_eq_true rfl⟩ (k137 HX' ht) ?_
      refine xe_if_eq xt_g189 rfl (t := 32) rfl (q := 27) rfl (by first | omega | exact xb_r _) (fun b24 => ?_) (fun b24 => ?_)
      · try simp only [xb_0, xb_1, ne_eq, Decidable.not_not, Bool.not_eq_false, Bool.not_eq_true, decide_eq_true_eq, decide_eq_false_iff_not] at b24
        refine xe_iinc xt_g189 rfl (q := 35) rfl rfl (by decide) (L1 := [(1, _), (0, _)]) rfl ?_
        refine xe_s (f := (7, _, _, _)) xt_g189 rfl rfl rfl rfl rfl ?_
        have g := ih s1 ar1 c u (by omega) f1 f2 (by
          rw [nov_d (by omega), if_neg (by rw [b24]; decide)]
          rw [tk_s (by omega), List.append_assoc] at HC
          exact HC)
        rw [show (k : Int) - 1 = ((k + 1 : Nat) : Int) - 1 + -1 by omega] at g
        exact xe_loc (by intro q hq; simp only [List.mem_cons, List.not_mem_nil, or_false] at hq; rcases hq with rfl | rfl <;> rfl) (g)
      · try simp only [xb_0, xb_1, ne_eq, Decidable.not_not, Bool.not_eq_false, Bool.not_eq_true, decide_eq_true_eq, decide_eq_false_iff_not] at b24
        refine xe_s (f := (28, _, _, _)) xt_g189 rfl rfl rfl rfl rfl ?_
        refine xe_s (f := (29, _, _, _)) xt_g189 rfl rfl rfl rfl rfl ?_
        refine xe_cN xt_g189 rfl rfl rfl (q := 32) rfl (kc_V xk_6_69 rfl (ko_59) (by omega) rfl rfl) xt_g190 (by decide) ⟨Nat.le_of_ble_eq_true rfl, Nat.le_of_ble_eq_true rfl, Nat.le_of_ble_eq_true rfl⟩ (k190 (a := k) hn HC (by omega) hlen) (fun h1' n1 c1 u1 hp => ?_)
        obtain ⟨e1, e2, s2, ar2, rfl, g1, g2, g3⟩ := hp
        rw [tk_er (by omega)] at g3
        rw [e1, e2, Nat.add_zero]
        refine xe_iinc xt_g189 rfl (q := 35) rfl rfl (by decide) (L1 := [(1, _), (0, _)]) rfl ?_
        refine xe_s (f := (7, _, _, _)) xt_g189 rfl rfl rfl rfl rfl ?_
        have g := ih s2 ar2 (c + c1) u (by omega) (fun j hj => (g1 j hj).trans (f1 j hj)) (fun j hj => (g2 j hj).trans (f2 j hj)) (by
          rw [nov_d (by omega), if_pos b24]
          exact g3)
        rw [show (k : Int) - 1 = ((k + 1 : Nat) : Int) - 1 + -1 by omega] at g
        exact xe_loc (by intro q hq; simp only [List.mem_cons, List.not_mem_nil, or_false] at hq; rcases hq with rfl | rfl <;> rfl) (g)
/-- dropOver -/
theorem k189 (hn : 64 ≤ n) (ht : 0 ≤ s 14 ∧ s 14 ≤ 1000000000) (HC : ckL w s ar h n C) : xN fm 189 (ko w s p ar v h) n [.ref 59] (fun h' n' u' => n' = n ∧ u' = 0 ∧ ∃ s' ar', h' = ko w s' p ar' v h ∧ (∀ k, k ≠ 13 → s' k = s k) ∧ (∀ k, k ≠ 6 → ar' k = ar k) ∧ ckL w s' ar' h n (ck_nov (s 14) C)) := by
  unfold xN
  refine xe_s (f := (1, _, _, _)) xt_g189 rfl rfl rfl rfl rfl ?_
  refine xe_gf xt_g189 rfl (q := 4) rfl (xf_6_35 fm) (ko_59) (by omega) rfl rfl ?_
  rw [HC.1]
  refine xe_s (f := (5, _, xi 1 :: _, _)) xt_g189 rfl rfl rfl rfl rfl ?_
  refine xe_isub xt_g189 rfl (q := 6) rfl ?_
  refine xe_s (f := (7, [(1, _), (0, _)], _, _)) xt_g189 rfl rfl rfl rfl rfl ?_
  exact xe_loc (by intro q hq; simp only [List.mem_cons, List.not_mem_nil, or_false] at hq; rcases hq with rfl | rfl <;> rfl) ((k189_loop hn ht HC.2.1 C.length s ar 0 0 (Nat.le_refl _) (fun _ _ => rfl) (fun _ _ => rfl) (by rw [List.take_length, List.drop_length, show ck_nov (s 14) [] = [] from rfl, List.append_nil]; exact HC)))
/-- isOfSite -/
theorem k220 (hfm : fm = .null ∨ ∃ j, fm = .ref j) (hn : 64 ≤ n) (HL : sfL w s ar h n L) (H : sS (gd w) h n r D) (H' : sS (gd w) h n k l) : xR fm 220 (ko w s p ar v h) n [.ref 59, .ref r, .ref k] (some (xi (xb (decide (st_tail D L = l))))) := by
  obtain ⟨fs, F1, q1, ha, hl⟩ := sS_at H
  obtain ⟨fs', F1', q1', ha', hl'⟩ := sS_at H'
  have sl := st_site_le (D := D) (L := L)
  unfold xR
  rw [tail_is]
  refine xe_s (f := (1, _, _, _)) xt_g220 rfl rfl rfl rfl rfl ?_
  refine xe_gf xt_g220 rfl (q := 4) rfl (xf_6_12 fm) (ko_59) (by omega) rfl rfl ?_
  refine xe_s (f := (5, _, _, _)) xt_g220 rfl rfl rfl rfl rfl ?_
  refine xe_cR xt_g220 rfl rfl rfl (q := 8) rfl (kc_V xk_6_141 rfl (ko_60) (by omega) rfl rfl) xt_g219 (by decide) ⟨Nat.le_of_ble_eq_true rfl, Nat.le_of_ble_eq_true rfl, Nat.le_of_ble_eq_true rfl⟩ (k219 hfm hn HL H) ?_
  refine xe_s (f := (9, [(3, _), (0, _), (1, _), (2, _)], _, _)) xt_g220 rfl rfl rfl rfl rfl ?_
  refine xe_s (f := (10, _, _, _)) xt_g220 rfl rfl rfl rfl rfl ?_
  refine xe_cR xt_g220 rfl rfl rfl (q := 13) rfl (kc_V xk_6_117 rfl (F1 _ _ _ _ _) (by omega) rfl rfl) xt_g31 (by decide) ⟨Nat.le_of_ble_eq_true rfl, Nat.le_of_ble_eq_true rfl, Nat.le_of_ble_eq_true rfl⟩ (s31 (sS_ko H)) ?_
  refine xe_s (f := (14, _, _, _)) xt_g220 rfl rfl rfl rfl rfl ?_
  refine xe_isub xt_g220 rfl (q := 15) rfl ?_
  refine xe_s (f := (16, _, _, _)) xt_g220 rfl rfl rfl rfl rfl ?_
  refine xe_cR xt_g220 rfl rfl rfl (q := 19) rfl (kc_V xk_6_117 rfl (F1' _ _ _ _ _) (by omega) rfl rfl) xt_g31 (by decide) ⟨Nat.le_of_ble_eq_true rfl, Nat.le_of_ble_eq_true rfl, Nat.le_of_ble_eq_true rfl⟩ (s31 (sS_ko H')) ?_
  refine xe_ic_ne xt_g220 rfl (t := 35) rfl (q := 22) rfl (by first | omega | exact xb_r _) (by first | omega | exact xb_r _) (fun b19 => ?_) (fun b19 => ?_)
  · try simp only [xb_0, xb_1, ne_eq, Decidable.not_not, Bool.not_eq_false, Bool.not_eq_true, decide_eq_true_eq, decide_eq_false_iff_not] at b19
    rw [decide_eq_false b19, Bool.false_and]
    refine xe_s (f := (36, _, xi 0 :: _, _)) xt_g220 rfl rfl rfl rfl rfl ?_
    refine xe_iret xt_g220 rfl rfl (xi_bool (by first | omega | exact xb_or _)).1 ?_
    exact ⟨rfl, rfl⟩
  · try simp only [xb_0, xb_1, ne_eq, Decidable.not_not, Bool.not_eq_false, Bool.not_eq_true, decide_eq_true_eq, decide_eq_false_iff_not] at b19
    rw [decide_eq_true b19, Bool.true_and]
    refine xe_s (f := (23, _, _, _)) xt_g220 rfl rfl rfl rfl rfl ?_
    refine xe_s (f := (24, _, _, _)) xt_g220 rfl rfl rfl rfl rfl ?_
    refine xe_s (f := (25, _, _, _)) xt_g220 rfl rfl rfl rfl rfl ?_
    refine xe_cR xt_g220 rfl rfl rfl (q := 28) rfl (kc_S xk_6_151 (Nat.le_of_ble_eq_true rfl)) xt_g140 (by decide) ⟨Nat.le_of_ble_eq_true rfl, Nat.le_of_ble_eq_true rfl, Nat.le_of_ble_eq_true rfl⟩ (s140 hfm (sS_ko H) (sS_ko H') (by omega)) ?_
    refine xe_if_eq xt_g220 rfl (t := 35) rfl (q := 31) rfl (by first | omega | exact xb_r _) (fun b28 => ?_) (fun b28 => ?_)
    · try simp only [xb_0, xb_1, ne_eq, Decidable.not_not, Bool.not_eq_false, Bool.not_eq_true, decide_eq_true_eq, decide_eq_false_iff_not] at b28
      rw [b28]
      refine xe_s (f := (36, _, xi 0 :: _, _)) xt_g220 rfl rfl rfl rfl rfl ?_
      refine xe_iret xt_g220 rfl rfl (xi_bool (by first | omega | exact xb_or _)).1 ?_
      exact ⟨rfl, rfl⟩
    · try simp only [xb_0, xb_1, ne_eq, Decidable.not_not, Bool.not_eq_false, Bool.not_eq_true, decide_eq_true_eq, decide_eq_false_iff_not] at b28
      rw [b28]
      refine xe_s (f := (32, _, xi 1 :: _, _)) xt_g220 rfl rfl rfl rfl rfl ?_
      refine xe_s (f := (36, _, _, _)) xt_g220 rfl rfl rfl rfl rfl ?_
      refine xe_iret xt_g220 rfl rfl (xi_bool (by first | omega | exact xb_or _)).1 ?_
      exact ⟨rfl, rfl⟩
theorem k198 {i : Int} (hfm : fm = .null ∨ ∃ j, fm = .ref j) (K : KW w h n t kc) (C : cst w h n) (H : sS (gd w) h n r l) (hi : 0 ≤ i) (hl : i ≤ l.length) : xA fm 198 (ko w s p ar v h) n [.ref r, xi i] (fun x h' n' u' => ∃ h1, h' = ko w s p ar v h1 ∧ ke h n h1 n' ∧ sS (gd w) h1 n' x (sl l i l.length) ∧ n' ≤ n + 2 ∧ u' ≤ 4 + ((l.length : Int) - i).toNat) := by
  have W0 := K.1.1
  refine xe_mono (s198 (F := gd w) hfm (by omega) (sS_ko (C.1 (1, []) (by decide))) (sS_ko H) hi hl) (fun q M hM => ?_)
  obtain ⟨x, e1, e2, e4, e5⟩ := hM
  obtain ⟨h1, g1, g2, g3⟩ := ko_lift K.1 e4
  exact ⟨x, e1, h1, g1, g2, g3 _ _ e2, e5⟩
theorem k218_loop (hfm : fm = .null ∨ ∃ j, fm = .ref j) (hn : 64 ≤ n) (HL : sfL w s ar h n L) (H : sS (gd w) h n r (st_tail D L)) {Q : Nat} (hQ : s 12 = Q) (hQ2 : Q ≤ 40) (hC : C.length ≤ 41) : ∀ (k : Nat) (s1 : Nat → Int) (ar1 : Nat → Nat → Option Nat) (c u ct : Nat) (R : List ck_T), k ≤ C.length → ct ≤ 41 - k → (∀ j, j ≠ 13 → s1 j = s j) → (∀ j, j ≠ 6 → ar1 j = ar j) → ckL w s1 ar1 h n (C.take k ++ R) → xe fm 218 (23, [(4, xi ((k : Int) - 1)), (3, xi (ct : Int)), (2, .ref r), (0, .ref 59)], [], (ko w s1 p ar1 v h, n, c, u)) (fun q M => q = .inl none ∧ M.2.1 = n ∧ M.2.2.2 = u ∧ ∃ s' ar', M.1 = ko w s' p ar' v h ∧ (∀ j, j ≠ 13 → s' j = s j) ∧ (∀ j, j ≠ 6 → ar' j = ar j) ∧ ckL w s' ar' h n (qdr (fun c => decide (st_tail c.2.2.1 L = st_tail D L)) Q ct (C.take k) R)) := by
  intro k
  induction k with
  | zero =>
    intro s1 ar1 c u ct R hk hct f1 f2 HC
    rw [List.take_zero, qdr_nil]
    refine xe_s (f := (25, _, _, _)) xt_g218 rfl rfl rfl rfl rfl ?_
    refine xe_if_lt xt_g218 rfl (t := 69) rfl (q := 28) rfl (by first | omega | exact xb_r _) (fun b25 => ?_) (fun b25 => ?_)
    · try simp only [xb_0, xb_1, ne_eq, Decidable.not_not, Bool.not_eq_false, Bool.not_eq_true, decide_eq_true_eq, decide_eq_false_iff_not] at b25
      refine xe_ret xt_g218 rfl rfl ?_
      try dsimp only
      exact ⟨rfl, rfl, rfl, s1, ar1, rfl, f1, f2, HC⟩
    · exact absurd b25 (by omega)
  | succ k ih =>
    intro s1 ar1 c u ct R hk hct f1 f2 HC
    have h8 := HC.2.1
    have hlen : k < (C.take (k + 1) ++ R).length := by rw [List.length_append, List.length_take]; omega
    obtain ⟨x, e5, HX⟩ := HC.2.2 k hlen
    rw [tk_gd (by omega)] at HX
    obtain ⟨na, va, dn, pa, a1, a2, a3, a4, t1, t2, t3, t4, _⟩ := HX
    have X1 := (ko_d (w := w) (s := s1) (p := p) (ar := ar1) (v := v) a2.1).trans a1
    have ek : (((k + 1 : Nat) : Int) - 1).toNat = k := by omega
    have HL1 := sfL_kp (s' := s1) (ar' := ar1) HL kp_refl (f1 15 (by decide)) (f2 5 (by decide))
    have HC' := HC
    rw [tk_s (by omega), List.append_assoc] at HC'
    rw [tk_s (by omega)]
    refine xe_s (f := (25, _, _, _)) xt_g218 rfl rfl rfl rfl rfl ?_
    refine xe_if_lt xt_g218 rfl (t := 69) rfl (q := 28) rfl (by first | omega | exact xb_r _) (fun b25 => ?_) (fun b25 => ?_)
    · exact absurd b25 (by omega)
    · try simp only [xb_0, xb_1, ne_eq, Decidable.not_not, Bool.not_eq_false, Bool.not_eq_true, decide_eq_true_eq, decide_eq_false_iff_not] at b25
      refine xe_s (f := (29, _, _, _)) xt_g218 rfl rfl rfl rfl rfl ?_
      refine xe_s (f := (30, _, _, _)) xt_g218 rfl rfl rfl rfl rfl ?_
      refine xe_gf xt_g218 rfl (q := 33) rfl (xf_6_20 fm) (ko_59) (by omega) rfl rfl ?_
      refine xe_s (f := (35, _, _, _)) xt_g218 rfl rfl rfl rfl rfl ?_
      refine xe_ka_62 xt_g218 rfl (q := 36) rfl (by omega) (by omega) (by omega) ?_
      rw [ek, e5, va_some]
      refine xe_gf xt_g218 rfl (q := 39) rfl (xf_6_73 fm) (X1) (by omega) rfl rfl ?_
      refine xe_s (f := (40, _, _, _)) xt_g218 rfl rfl rfl rfl rfl ?_
      refine xe_cR xt_g218 rfl rfl rfl (q := 43) rfl (kc_V xk_6_148 rfl (ko_59) (by omega) rfl rfl) xt_g220 (by decide) ⟨Nat.le_of_ble_eq_true rfl, Nat.le_of_ble_eq_true rfl, Nat.le_of_ble_eq_true rfl⟩ (k220 hfm hn HL1 t3 H) ?_
      refine xe_if_eq xt_g218 rfl (t := 63) rfl (q := 46) rfl (by first | omega | exact xb_r _) (fun b43 => ?_) (fun b43 => ?_)
      · try simp only [xb_0, xb_1, ne_eq, Decidable.not_not, Bool.not_eq_false, Bool.not_eq_true, decide_eq_true_eq, decide_eq_false_iff_not] at b43
        rw [qdr_no (decide_eq_false b43)]
        refine xe_iinc xt_g218 rfl (q := 66) rfl rfl (by decide) (L1 := [(4, _), (3, _), (2, _), (0, _)]) rfl ?_
        refine xe_s (f := (23, _, _, _)) xt_g218 rfl rfl rfl rfl rfl ?_
        have g := ih s1 ar1 c u ct _ (by omega) (by omega) f1 f2 HC'
        rw [show (k : Int) - 1 = ((k + 1 : Nat) : Int) - 1 + -1 by omega] at g
        exact xe_loc (by intro q hq; simp only [List.mem_cons, List.not_mem_nil, or_false] at hq; rcases hq with rfl | rfl | rfl | rfl <;> rfl) (g)
      · try simp only [xb_0, xb_1, ne_eq, Decidable.not_not, Bool.not_eq_false, Bool.not_eq_true, decide_eq_true_eq, decide_eq_false_iff_not] at b43
        refine xe_iinc xt_g218 rfl (q := 49) rfl rfl (by decide) (L1 := [(3, _), (4, _), (2, _), (0, _)]) rfl ?_
        refine xe_s (f := (50, _, _, _)) xt_g218 rfl rfl rfl rfl rfl ?_
        refine xe_s (f := (51, _, _, _)) xt_g218 rfl rfl rfl rfl rfl ?_
        refine xe_gf xt_g218 rfl (q := 54) rfl (xf_6_27 fm) (ko_59) (by omega) rfl rfl ?_
        rw [f1 12 (by decide), hQ]
        refine xe_ic_le xt_g218 rfl (t := 63) rfl (q := 57) rfl (by first | omega | exact xb_r _) (by first | omega | exact xb_r _) (fun b54 => ?_) (fun b54 => ?_)
        · try simp only [xb_0, xb_1, ne_eq, Decidable.not_not, Bool.not_eq_false, Bool.not_eq_true, decide_eq_true_eq, decide_eq_false_iff_not] at b54
          rw [qdr_keep (decide_eq_true b43) (by omega)]
          refine xe_iinc xt_g218 rfl (q := 66) rfl rfl (by decide) (L1 := [(4, _), (3, _), (2, _), (0, _)]) rfl ?_
          refine xe_s (f := (23, _, _, _)) xt_g218 rfl rfl rfl rfl rfl ?_
          have g := ih s1 ar1 c u (ct + 1) _ (by omega) (by omega) f1 f2 HC'
          rw [show (k : Int) - 1 = ((k + 1 : Nat) : Int) - 1 + -1 by omega, show ((ct + 1 : Nat) : Int) = (ct : Int) + 1 by omega] at g
          exact xe_loc (by intro q hq; simp only [List.mem_cons, List.not_mem_nil, or_false] at hq; rcases hq with rfl | rfl | rfl | rfl <;> rfl) (g)
        · try simp only [xb_0, xb_1, ne_eq, Decidable.not_not, Bool.not_eq_false, Bool.not_eq_true, decide_eq_true_eq, decide_eq_false_iff_not] at b54
          rw [qdr_drop (decide_eq_true b43) (by omega)]
          refine xe_s (f := (58, _, _, _)) xt_g218 rfl rfl rfl rfl rfl ?_
          refine xe_s (f := (60, _, _, _)) xt_g218 rfl rfl rfl rfl rfl ?_
          refine xe_cN xt_g218 rfl rfl rfl (q := 63) rfl (kc_V xk_6_69 rfl (ko_59) (by omega) rfl rfl) xt_g190 (by decide) ⟨Nat.le_of_ble_eq_true rfl, Nat.le_of_ble_eq_true rfl, Nat.le_of_ble_eq_true rfl⟩ (k190 (a := k) hn HC (by omega) hlen) (fun h1' n1 c1 u1 hp => ?_)
          obtain ⟨e1, e2, s2, ar2, rfl, g1, g2, g3⟩ := hp
          rw [tk_er (by omega)] at g3
          rw [e1, e2, Nat.add_zero]
          refine xe_iinc xt_g218 rfl (q := 66) rfl rfl (by decide) (L1 := [(4, _), (3, _), (2, _), (0, _)]) rfl ?_
          refine xe_s (f := (23, _, _, _)) xt_g218 rfl rfl rfl rfl rfl ?_
          have g := ih s2 ar2 (c + c1) u (ct + 1) R (by omega) (by omega) (fun j hj => (g1 j hj).trans (f1 j hj)) (fun j hj => (g2 j hj).trans (f2 j hj)) g3
          rw [show (k : Int) - 1 = ((k + 1 : Nat) : Int) - 1 + -1 by omega, show ((ct + 1 : Nat) : Int) = (ct : Int) + 1 by omega] at g
          exact xe_loc (by intro q hq; simp only [List.mem_cons, List.not_mem_nil, or_false] at hq; rcases hq with rfl | rfl | rfl | rfl <;> rfl) (g)
/-- dropBeyondQuota -/
theorem k218 (hfm : fm = .null ∨ ∃ j, fm = .ref j) (K : KW w h n t kc) (Cc : cst w h n) (HL : sfL w s ar h n L) (HC : ckL w s ar h n C) (H : sS (gd w) h n r D) (hD : D.length ≤ 40) {Q : Nat} (hQ : s 12 = Q) (hQ2 : Q ≤ 40) : xN fm 218 (ko w s p ar v h) n [.ref 59, .ref r] (fun h' n' u' => ∃ s' ar' h1, h' = ko w s' p ar' v h1 ∧ ke h n h1 n' ∧ n' ≤ n + 2 ∧ u' ≤ 44 ∧ (∀ k, k ≠ 13 → s' k = s k) ∧ (∀ k, k ≠ 6 → ar' k = ar k) ∧ ckL w s' ar' h1 n' (qdr (fun c => decide (st_tail c.2.2.1 L = st_tail D L)) Q 0 C [])) := by
  have W0 := K.1.1
  obtain ⟨fs, F1, q1, ha, hl⟩ := sS_at H
  have sl := st_site_le (D := D) (L := L)
  unfold xN
  refine xe_s (f := (1, _, _, _)) xt_g218 rfl rfl rfl rfl rfl ?_
  refine xe_s (f := (2, _, _, _)) xt_g218 rfl rfl rfl rfl rfl ?_
  refine xe_gf xt_g218 rfl (q := 5) rfl (xf_6_12 fm) (ko_59) (by omega) rfl rfl ?_
  refine xe_s (f := (6, _, _, _)) xt_g218 rfl rfl rfl rfl rfl ?_
  refine xe_cR xt_g218 rfl rfl rfl (q := 9) rfl (kc_V xk_6_141 rfl (ko_60) (by omega) rfl rfl) xt_g219 (by decide) ⟨Nat.le_of_ble_eq_true rfl, Nat.le_of_ble_eq_true rfl, Nat.le_of_ble_eq_true rfl⟩ (k219 hfm (by omega) HL H) ?_
  refine xe_cA xt_g218 rfl rfl rfl (q := 12) rfl (kc_V xk_6_145 rfl (F1 _ _ _ _ _) (by omega) rfl rfl) xt_g198 (by decide) ⟨Nat.le_of_ble_eq_true rfl, Nat.le_of_ble_eq_true rfl, Nat.le_of_ble_eq_true rfl⟩ (k198 hfm K Cc H (by omega) (by omega)) (fun x1 h1' n1 c1 u1 hp => ?_)
  obtain ⟨h2, rfl, k1, S1, n1', u1'⟩ := hp
  have N1 := k1.1
  rw [sl_end (by omega) (by omega), Int.toNat_natCast] at S1
  have HC1 := ckL_kp (s' := s) (ar' := ar) HC (ke_kp k1) rfl rfl
  have HL1 := sfL_kp (s' := s) (ar' := ar) HL (ke_kp k1) rfl rfl
  refine xe_s (f := (13, [(2, _), (0, _), (1, _)], _, _)) xt_g218 rfl rfl rfl rfl rfl ?_
  refine xe_s (f := (14, _, xi 0 :: _, _)) xt_g218 rfl rfl rfl rfl rfl ?_
  refine xe_s (f := (15, [(3, _), (2, _), (0, _), (1, _)], _, _)) xt_g218 rfl rfl rfl rfl rfl ?_
  refine xe_s (f := (16, _, _, _)) xt_g218 rfl rfl rfl rfl rfl ?_
  refine xe_gf xt_g218 rfl (q := 19) rfl (xf_6_35 fm) (ko_59) (by omega) rfl rfl ?_
  rw [HC.1]
  refine xe_s (f := (20, _, xi 1 :: _, _)) xt_g218 rfl rfl rfl rfl rfl ?_
  refine xe_isub xt_g218 rfl (q := 21) rfl ?_
  refine xe_s (f := (23, [(4, _), (3, _), (2, _), (0, _), (1, _)], _, _)) xt_g218 rfl rfl rfl rfl rfl ?_
  refine xe_mono (xe_loc (by intro q hq; simp only [List.mem_cons, List.not_mem_nil, or_false] at hq; rcases hq with rfl | rfl | rfl | rfl <;> rfl) ((k218_loop (fm := fm) (p := p) (v := v) (D := D) hfm (by omega) HL1 S1 hQ hQ2 HC.2.1 C.length s ar (0 + c1) (0 + u1) 0 [] (Nat.le_refl _) (by omega) (fun _ _ => rfl) (fun _ _ => rfl) (by rw [List.take_length, List.append_nil]; exact HC1)))) (fun r M hM => ?_)
  obtain ⟨g1, g2, g3, s2, ar2, g4, g5, g6, g7⟩ := hM
  rw [List.take_length] at g7
  refine ⟨g1, s2, ar2, h2, g4, by rw [g2]; exact k1, by omega, by omega, g5, g6, by rw [g2]; exact g7⟩
end XBC
