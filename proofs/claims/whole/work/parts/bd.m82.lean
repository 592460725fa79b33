/-! the jar: which cookies go -/

def lu (G : List ck_T) (c : ck_T) : Nat → Nat
  | 0 => 0
  | k + 1 => if (G.getD k ck_0).2.2.2.1.length < c.2.2.2.1.length then lu G c k else k + 1
theorem lu_le {G : List ck_T} {c : ck_T} : ∀ k, lu G c k ≤ k
  | 0 => Nat.le_refl _
  | k + 1 => by
    unfold lu
    split
    · exact Nat.le_succ_of_le (lu_le k)
    · exact Nat.le_refl _
theorem lu_at {H T : List ck_T} {c : ck_T} (hH : ∀ x, x ∈ H → c.2.2.2.1.length ≤ x.2.2.2.1.length) (hT : ∀ x, x ∈ T → x.2.2.2.1.length < c.2.2.2.1.length) : ∀ k, H.length ≤ k → k ≤ (H ++ T).length → lu (H ++ T) c k = H.length
  | 0, h1, h2 => by
    unfold lu
    omega
  | k + 1, h1, h2 => by
    unfold lu
    rw [List.length_append] at h2
    by_cases e : H.length = k + 1
    · have m : (H ++ T).getD k ck_0 = H[k]'(by omega) := by
        rw [List.getD_eq_getElem?_getD, List.getElem?_append_left (by omega), List.getElem?_eq_getElem (by omega)]
        rfl
      rw [if_neg, e]
      rw [m]
      exact Nat.not_lt.mpr (hH _ (List.getElem_mem _))
    · have m : (H ++ T).getD k ck_0 = T[k - H.length]'(by omega) := by
        rw [List.getD_eq_getElem?_getD, List.getElem?_append_right (by omega), List.getElem?_eq_getElem (by omega)]
        rfl
      rw [if_pos]
      · exact lu_at hH hT k (by omega) (by rw [List.length_append]; omega)
      · rw [m]
        exact hT _ (List.getElem_mem _)
theorem low_mem {C : List ck_T} {t : Int} {a : pa_A} {net : Bool} : ∀ (N : Nat) (x : ck_T), x ∈ mk_low C (mk_p t a net) N → x.2.2.2.1.length ≤ N ∧ 1 ≤ x.2.2.2.1.length
  | 0, x, h => by cases h
  | N + 1, x, h => by
    unfold mk_low at h
    rcases List.mem_append.mp h with h | h
    · have := (List.mem_filter.mp h).2
      unfold mk_p at this
      simp only [Bool.and_eq_true, decide_eq_true_eq] at this
      omega
    · have := low_mem N x h
      omega
theorem low_no {C : List ck_T} {t : Int} {a : pa_A} {net : Bool} {c : ck_T} (h : ck_go t c a net = false) : ∀ N, mk_low (C ++ [c]) (mk_p t a net) N = mk_low C (mk_p t a net) N
  | 0 => rfl
  | N + 1 => by
    unfold mk_low
    rw [low_no h N, List.filter_append]
    have : [c].filter (mk_p t a net (N + 1)) = [] := by
      rw [List.filter_cons, if_neg]
      · rfl
      · unfold mk_p
        rw [h, Bool.and_false]
        decide
    rw [this, List.append_nil]
theorem low_ge {C : List ck_T} {t : Int} {a : pa_A} {net : Bool} {c : ck_T} : ∀ N, N < c.2.2.2.1.length → mk_low (C ++ [c]) (mk_p t a net) N = mk_low C (mk_p t a net) N
  | 0, _ => rfl
  | N + 1, h => by
    unfold mk_low
    rw [low_ge N (by omega), List.filter_append]
    have : [c].filter (mk_p t a net (N + 1)) = [] := by
      rw [List.filter_cons, if_neg]
      · rfl
      · unfold mk_p
        rw [decide_eq_false (by omega), Bool.false_and]
        decide
    rw [this, List.append_nil]
theorem low_yes {C : List ck_T} {t : Int} {a : pa_A} {net : Bool} {c : ck_T} (h : ck_go t c a net = true) (h1 : 1 ≤ c.2.2.2.1.length) : ∀ N, c.2.2.2.1.length ≤ N → ∃ H T, mk_low C (mk_p t a net) N = H ++ T ∧ mk_low (C ++ [c]) (mk_p t a net) N = H ++ c :: T ∧ (∀ x, x ∈ H → c.2.2.2.1.length ≤ x.2.2.2.1.length) ∧ ∀ x, x ∈ T → x.2.2.2.1.length < c.2.2.2.1.length
  | 0, hN => by omega
  | N + 1, hN => by
    have hf : ∀ x, x ∈ C.filter (mk_p t a net (N + 1)) → x.2.2.2.1.length = N + 1 := by
      intro x hx
      have := (List.mem_filter.mp hx).2
      unfold mk_p at this
      simp only [Bool.and_eq_true, decide_eq_true_eq] at this
      exact this.1
    by_cases e : c.2.2.2.1.length = N + 1
    · refine ⟨C.filter (mk_p t a net (N + 1)), mk_low C (mk_p t a net) N, rfl, ?_, fun x hx => by rw [hf x hx]; omega, fun x hx => by have := low_mem N x hx; omega⟩
      rw [mk_low, low_ge N (by omega), List.filter_append]
      have : [c].filter (mk_p t a net (N + 1)) = [c] := by
        rw [List.filter_cons, if_pos]
        · rfl
        · unfold mk_p
          rw [h, decide_eq_true e]
          rfl
      rw [this, List.append_assoc]
      rfl
    · obtain ⟨H, T, g1, g2, g3, g4⟩ := low_yes h h1 N (by omega)
      refine ⟨C.filter (mk_p t a net (N + 1)) ++ H, T, by rw [mk_low, g1, List.append_assoc], ?_, ?_, g4⟩
      · rw [mk_low, g2, List.filter_append]
        have : [c].filter (mk_p t a net (N + 1)) = [] := by
          rw [List.filter_cons, if_neg]
          · rfl
          · unfold mk_p
            rw [decide_eq_false e, Bool.false_and]
            decide
        rw [this, List.append_nil, List.append_assoc]
      · intro x hx
        rcases List.mem_append.mp hx with hx | hx
        · rw [hf x hx]; omega
        · exact g3 x hx
/-- one more going cookie is lined up -/
theorem going_yes {C : List ck_T} {t : Int} {a : pa_A} {net : Bool} {c : ck_T} (h : ck_go t c a net = true) (h1 : 1 ≤ c.2.2.2.1.length) (h2 : c.2.2.2.1.length ≤ 30) : mk_going t (C ++ [c]) a net = (mk_going t C a net).take (lu (mk_going t C a net) c (mk_going t C a net).length) ++ c :: (mk_going t C a net).drop (lu (mk_going t C a net) c (mk_going t C a net).length) := by
  obtain ⟨H, T, g1, g2, g3, g4⟩ := low_yes (C := C) h h1 30 h2
  unfold mk_going
  rw [g1, g2, lu_at g3 g4 _ (by rw [List.length_append]; omega) (Nat.le_refl _), List.take_left', List.drop_left']
  · rfl
  · rfl
theorem going_no {C : List ck_T} {t : Int} {a : pa_A} {net : Bool} {c : ck_T} (h : ck_go t c a net = false) : mk_going t (C ++ [c]) a net = mk_going t C a net := low_no h 30
theorem going_len {t : Int} {a : pa_A} {net : Bool} : ∀ (C : List ck_T) (_ : ∀ c, c ∈ C → 1 ≤ c.2.2.2.1.length ∧ c.2.2.2.1.length ≤ 30), (mk_going t C a net).length = (C.filter (fun c => ck_go t c a net)).length := by
  intro C
  suffices ∀ k, k ≤ C.length → (∀ c, c ∈ C → 1 ≤ c.2.2.2.1.length ∧ c.2.2.2.1.length ≤ 30) → (mk_going t (C.take k) a net).length = ((C.take k).filter (fun c => ck_go t c a net)).length by
    intro h
    have := this C.length (Nat.le_refl _) h
    rwa [List.take_length] at this
  intro k
  induction k with
  | zero => intro _ _; rfl
  | succ k ih =>
    intro hk h
    have ih := ih (by omega) h
    have e : C.take (k + 1) = C.take k ++ [C[k]'(by omega)] := by rw [List.take_succ_eq_append_getElem (by omega)]
    have hc := h _ (List.getElem_mem (show k < C.length by omega))
    rw [e, List.filter_append, List.length_append, List.filter_cons]
    cases g : ck_go t C[k] a net with
    | false => rw [going_no g, ih, if_neg (by decide)]; rfl
    | true =>
      rw [going_yes g hc.1 hc.2, if_pos rfl, List.length_append, List.length_cons, List.length_take, List.length_drop, ih]
      have := lu_le (G := mk_going t (C.take k) a net) (c := C[k]) (mk_going t (C.take k) a net).length
      simp
      omega
theorem mk_txt_app {c : ck_T} {b : Bool} : ∀ (G : List ck_T) (sm : Bool), mk_txt (G ++ [c]) sm b = mk_txt G sm b ++ mk_one c (sm || !G.isEmpty) b
  | [], sm => by
    rw [List.nil_append]
    unfold mk_txt mk_txt
    rw [List.append_nil, List.nil_append]
    simp
  | g :: G, sm => by
    rw [List.cons_append, mk_txt, mk_txt, mk_txt_app G true, List.append_assoc]
    simp
theorem going_le {C : List ck_T} {t : Int} {a : pa_A} {net : Bool} (h : ∀ c, c ∈ C → 1 ≤ c.2.2.2.1.length ∧ c.2.2.2.1.length ≤ 30) : (mk_going t C a net).length ≤ C.length := by
  rw [going_len C h]
  exact List.length_filter_le _ _
theorem ins_gd {G : List ck_T} {c : ck_T} {k j : Nat} (hk : k ≤ G.length) : (G.take k ++ c :: G.drop k).getD j ck_0 = if j < k then G.getD j ck_0 else if j = k then c else G.getD (j - 1) ck_0 := by
  have e : (G.take k).length = k := by rw [List.length_take]; omega
  rw [List.getD_eq_getElem?_getD]
  by_cases h1 : j < k
  · rw [if_pos h1, List.getElem?_append_left (by omega), List.getElem?_take_of_lt h1, ← List.getD_eq_getElem?_getD]
  · rw [if_neg h1, List.getElem?_append_right (by omega), e]
    by_cases h2 : j = k
    · rw [if_pos h2, h2, Nat.sub_self]
      rfl
    · rw [if_neg h2]
      obtain ⟨i, hi⟩ : ∃ i, j = k + (i + 1) := ⟨j - k - 1, by omega⟩
      subst hi
      rw [show k + (i + 1) - k = i + 1 by omega, List.getElem?_cons_succ, List.getElem?_drop, show k + (i + 1) - 1 = k + i by omega, ← List.getD_eq_getElem?_getD]
theorem ins_len {G : List ck_T} {c : ck_T} {k : Nat} (hk : k ≤ G.length) : (G.take k ++ c :: G.drop k).length = G.length + 1 := by
  rw [List.length_append, List.length_cons, List.length_take, List.length_drop]
  omega
def kt (kc : Nat → Nat) : Nat := kc 0 + kc 1 + kc 2
/-- a step of the class: at most B slots and C cells, and what the StringBuilders grow by -/
def RT (B C : Nat) (w : kW) (h : xm_H) (n : Nat) (kc : Nat → Nat) (w' : kW) (h' : xm_H) (n' : Nat) (t' : Nat → List Int) (kc' : Nat → Nat) (u' : Nat) : Prop := KW w' h' n' t' kc' ∧ kp w h n w' h' n' ∧ kt kc ≤ kt kc' ∧ n' ≤ n + C + (kt kc' - kt kc) ∧ u' ≤ B + 2 * (kt kc' - kt kc)
def goL (w : kW) (ar : Nat → Nat → Option Nat) (h : xm_H) (n : Nat) (G : List ck_T) : Prop := ∀ i, i < G.length → ∃ x, ar 7 i = some x ∧ ckO w h n x (G.getD i ck_0)
section XBD
variable {fm : Value} {w w' w1 w2 : kW} {s s' s1 s2 : Nat → Int} {p p' p1 p2 : Nat → Nat} {ar ar' : Nat → Nat → Option Nat} {v : Nat → Int} {h h' h1 h2 : xm_H} {n n' n1 n2 r k k' u' u1 u2 x y : Nat} {l D W P : List Int} {L : List (List Int)} {A : pa_A} {c f : ck_T} {C G : List ck_T} {t t' t1 t2 : Nat → List Int} {kc kc' kc1 kc2 : Nat → Nat}
theorem RT_trans {B C B' C' : Nat} (a : RT B C w h n kc w1 h1 n1 t1 kc1 u1) (b : RT B' C' w1 h1 n1 kc1 w2 h2 n2 t2 kc2 u2) : RT (B + B') (C + C') w h n kc w2 h2 n2 t2 kc2 (u1 + u2) := by
  obtain ⟨a1, a2, a3, a4, a5⟩ := a
  obtain ⟨b1, b2, b3, b4, b5⟩ := b
  exact ⟨b1, kp_trans a2 b2, by omega, by omega, by omega⟩
theorem RT_mono {B C B' C' : Nat} (a : RT B C w h n kc w1 h1 n1 t1 kc1 u1) (hB : B ≤ B') (hC : C ≤ C') (hu : u2 ≤ u1) : RT B' C' w h n kc w1 h1 n1 t1 kc1 u2 := by
  obtain ⟨a1, a2, a3, a4, a5⟩ := a
  exact ⟨a1, a2, a3, by omega, by omega⟩
theorem RT_ke {B C : Nat} (K : KW w h n t kc) (e : ke h n h' n') (hn : n' ≤ n + C) (hu : u' ≤ B) : RT B C w h n kc w h' n' t kc u' := ⟨KW_ke K e, ke_kp e, Nat.le_refl _, by omega, by omega⟩
theorem RT_0 (R : kR w h n t kc 0 l w' h1 n' u' k') : RT 0 0 w h n kc w' h1 n' (tu t 0 l) (pu kc 0 k') u' := by
  obtain ⟨a1, a2, a3, a4, a5, a6⟩ := R
  have e : kt (pu kc 0 k') = k' + kc 1 + kc 2 := rfl
  have e' : kt kc = kc 0 + kc 1 + kc 2 := rfl
  exact ⟨a1, a2, by omega, by omega, by omega⟩
theorem RT_1 (R : kR w h n t kc 1 l w' h1 n' u' k') : RT 0 0 w h n kc w' h1 n' (tu t 1 l) (pu kc 1 k') u' := by
  obtain ⟨a1, a2, a3, a4, a5, a6⟩ := R
  have e : kt (pu kc 1 k') = kc 0 + k' + kc 2 := rfl
  have e' : kt kc = kc 0 + kc 1 + kc 2 := rfl
  exact ⟨a1, a2, by omega, by omega, by omega⟩
theorem RT_RR {S Q : List Nat} {B C : Nat} (R : RR S Q B C w s p h n t kc w' s' p' h' n' t' kc' u') : RT B C w h n kc w' h' n' t' kc' u' := by
  obtain ⟨a1, a2, a3, a4, a5, a6, a7, a8, a9⟩ := R
  have e : kt kc' = kc' 0 + kc' 1 + kc' 2 := rfl
  have e' : kt kc = kc 0 + kc 1 + kc 2 := rfl
  exact ⟨a1, a2, by omega, by omega, by omega⟩
theorem tu_tu {j : Nat} {a b : List Int} : tu (tu t j a) j b = tu t j b := by
  funext i
  unfold tu
  split <;> rfl
theorem goL_kp (H : goL w ar h n G) (e : kp w h n w' h' n') (ha : ar' 7 = ar 7) : goL w' ar' h' n' G := by
  intro i hi
  obtain ⟨x, b1, b2⟩ := H i hi
  exact ⟨x, by rw [ha]; exact b1, ckO_kp b2 e⟩
theorem k142_loop (hn : 64 ≤ n) (HG : goL w ar h n G) (hG : G.length < 40) (HY : ckO w h n y c) {z : Int} : ∀ (k : Nat) (ar1 : Nat → Nat → Option Nat), k ≤ G.length → (∀ j, j ≠ 7 → ar1 j = ar j) → (∀ j, j < k → ar1 7 j = ar 7 j) → (∀ j, k < j → j ≤ G.length → ar1 7 j = ar 7 (j - 1)) → xe fm 142 (2, [(3, xi (k : Int)), (0, .ref 59), (1, .ref y), (2, xi z)], [], (ko w s p ar1 v h, n, 0, 0)) (fun q M => q = .inl none ∧ M.2.1 = n ∧ M.2.2.2 = 0 ∧ ∃ ar', M.1 = ko w s p ar' v h ∧ (∀ j, j ≠ 7 → ar' j = ar j) ∧ (∀ j, j < lu G c k → ar' 7 j = ar 7 j) ∧ ar' 7 (lu G c k) = some y ∧ ∀ j, lu G c k < j → j ≤ G.length → ar' 7 j = ar 7 (j - 1)) := by
  obtain ⟨na, va, dn, pa, a1, a2, a3, a4, s1, s2, s3, s4, b1, b2, b3, b4, b5, b6⟩ := HY
  obtain ⟨fs, F1, q1, ha, hl⟩ := sS_at s4
  intro k
  induction k with
  | zero =>
    intro ar1 hk f1 f2 f3
    have Y1 := (ko_d (w := w) (s := s) (p := p) (ar := ar1) (v := v) a2.1).trans a1
    refine xe_s (f := (3, _, _, _)) xt_g142 rfl rfl rfl rfl rfl ?_
    refine xe_if_le xt_g142 rfl (t := 50) rfl (q := 6) rfl (by first | omega | exact xb_r _) (fun b3 => ?_) (fun b3 => ?_)
    · try simp only [xb_0, xb_1, ne_eq, Decidable.not_not, Bool.not_eq_false, Bool.not_eq_true, decide_eq_true_eq, decide_eq_false_iff_not] at b3
      refine xe_s (f := (51, _, _, _)) xt_g142 rfl rfl rfl rfl rfl ?_
      refine xe_gf xt_g142 rfl (q := 54) rfl (xf_6_24 fm) (ko_59) (by omega) rfl rfl ?_
      refine xe_s (f := (55, _, _, _)) xt_g142 rfl rfl rfl rfl rfl ?_
      refine xe_s (f := (56, _, _, _)) xt_g142 rfl rfl rfl rfl rfl ?_
      refine xe_ks_63 xt_g142 rfl (q := 57) rfl (by omega) (by omega) (by omega) (Y1) (by omega) (by omega) ?_
      refine xe_ret xt_g142 rfl rfl ?_
      try dsimp only
      refine ⟨rfl, rfl, rfl, _, rfl, fun j hj => (aw_n hj).trans (f1 j hj), fun j hj => absurd hj (Nat.not_lt_zero j), ?_, fun j hj hj2 => ?_⟩
      · rw [aw_s]; exact va_up_s
      · rw [aw_s, va_up_n (by have : lu G c 0 = 0 := rfl; omega)]; exact f3 j (by have : lu G c 0 = 0 := rfl; omega) hj2
    · exact absurd b3 (by omega)
  | succ k ih =>
    intro ar1 hk f1 f2 f3
    have Y1 := (ko_d (w := w) (s := s) (p := p) (ar := ar1) (v := v) a2.1).trans a1
    obtain ⟨x, e5, na', va', dn', pa', a1', a2', a3', a4', s1', s2', s3', s4', _⟩ := HG k (by omega)
    have X1 := (ko_d (w := w) (s := s) (p := p) (ar := ar1) (v := v) a2'.1).trans a1'
    obtain ⟨fs', F1', q1', ha', hl'⟩ := sS_at s4'
    have ek : (((k + 1 : Nat) : Int) - 1).toNat = k := by omega
    have el : ar1 7 k = some x := (f2 k (by omega)).trans e5
    unfold lu
    refine xe_s (f := (3, _, _, _)) xt_g142 rfl rfl rfl rfl rfl ?_
    refine xe_if_le xt_g142 rfl (t := 50) rfl (q := 6) rfl (by first | omega | exact xb_r _) (fun b3 => ?_) (fun b3 => ?_)
    · exact absurd b3 (by omega)
    · try simp only [xb_0, xb_1, ne_eq, Decidable.not_not, Bool.not_eq_false, Bool.not_eq_true, decide_eq_true_eq, decide_eq_false_iff_not] at b3
      refine xe_s (f := (7, _, _, _)) xt_g142 rfl rfl rfl rfl rfl ?_
      refine xe_gf xt_g142 rfl (q := 10) rfl (xf_6_24 fm) (ko_59) (by omega) rfl rfl ?_
      refine xe_s (f := (11, _, _, _)) xt_g142 rfl rfl rfl rfl rfl ?_
      refine xe_s (f := (12, _, xi 1 :: _, _)) xt_g142 rfl rfl rfl rfl rfl ?_
      refine xe_isub xt_g142 rfl (q := 13) rfl ?_
      refine xe_ka_63 xt_g142 rfl (q := 14) rfl (by omega) (by omega) (by omega) ?_
      rw [ek, el, va_some]
      refine xe_gf xt_g142 rfl (q := 17) rfl (xf_6_180 fm) (X1) (by omega) rfl rfl ?_
      refine xe_cR xt_g142 rfl rfl rfl (q := 20) rfl (kc_V xk_6_117 rfl (F1' _ _ _ _ _) (by omega) rfl rfl) xt_g31 (by decide) ⟨Nat.le_of_ble_eq_true rfl, Nat.le_of_ble_eq_true rfl, Nat.le_of_ble_eq_true rfl⟩ (s31 (sS_ko s4')) ?_
      refine xe_s (f := (21, _, _, _)) xt_g142 rfl rfl rfl rfl rfl ?_
      refine xe_gf xt_g142 rfl (q := 24) rfl (xf_6_180 fm) (Y1) (by omega) rfl rfl ?_
      refine xe_cR xt_g142 rfl rfl rfl (q := 27) rfl (kc_V xk_6_117 rfl (F1 _ _ _ _ _) (by omega) rfl rfl) xt_g31 (by decide) ⟨Nat.le_of_ble_eq_true rfl, Nat.le_of_ble_eq_true rfl, Nat.le_of_ble_eq_true rfl⟩ (s31 (sS_ko s4)) ?_
      refine xe_ic_ge xt_g142 rfl (t := 50) rfl (q := 30) rfl (by first | omega | exact xb_r _) (by first | omega | exact xb_r _) (fun b27 => ?_) (fun b27 => ?_)
      · try simp only [xb_0, xb_1, ne_eq, Decidable.not_not, Bool.not_eq_false, Bool.not_eq_true, decide_eq_true_eq, decide_eq_false_iff_not] at b27
        rw [if_neg (by omega)]
        refine xe_s (f := (51, _, _, _)) xt_g142 rfl rfl rfl rfl rfl ?_
        refine xe_gf xt_g142 rfl (q := 54) rfl (xf_6_24 fm) (ko_59) (by omega) rfl rfl ?_
        refine xe_s (f := (55, _, _, _)) xt_g142 rfl rfl rfl rfl rfl ?_
        refine xe_s (f := (56, _, _, _)) xt_g142 rfl rfl rfl rfl rfl ?_
        refine xe_ks_63 xt_g142 rfl (q := 57) rfl (by omega) (by omega) (by omega) (Y1) (by omega) (by omega) ?_
        refine xe_ret xt_g142 rfl rfl ?_
        try dsimp only
        refine ⟨rfl, rfl, rfl, _, rfl, fun j hj => (aw_n hj).trans (f1 j hj), fun j hj => ?_, ?_, fun j hj hj2 => ?_⟩
        · rw [aw_s, va_up_n (by omega)]; exact f2 j hj
        · rw [aw_s]; exact va_up_s
        · rw [aw_s, va_up_n (by omega)]; exact f3 j hj hj2
      · try simp only [xb_0, xb_1, ne_eq, Decidable.not_not, Bool.not_eq_false, Bool.not_eq_true, decide_eq_true_eq, decide_eq_false_iff_not] at b27
        rw [if_pos (by omega)]
        refine xe_s (f := (31, _, _, _)) xt_g142 rfl rfl rfl rfl rfl ?_
        refine xe_gf xt_g142 rfl (q := 34) rfl (xf_6_24 fm) (ko_59) (by omega) rfl rfl ?_
        refine xe_s (f := (35, _, _, _)) xt_g142 rfl rfl rfl rfl rfl ?_
        refine xe_s (f := (36, _, _, _)) xt_g142 rfl rfl rfl rfl rfl ?_
        refine xe_gf xt_g142 rfl (q := 39) rfl (xf_6_24 fm) (ko_59) (by omega) rfl rfl ?_
        refine xe_s (f := (40, _, _, _)) xt_g142 rfl rfl rfl rfl rfl ?_
        refine xe_s (f := (41, _, xi 1 :: _, _)) xt_g142 rfl rfl rfl rfl rfl ?_
        refine xe_isub xt_g142 rfl (q := 42) rfl ?_
        refine xe_ka_63 xt_g142 rfl (q := 43) rfl (by omega) (by omega) (by omega) ?_
        rw [ek, el, va_some]
        refine xe_ks_63 xt_g142 rfl (q := 44) rfl (by omega) (by omega) (by omega) (X1) (by omega) (by omega) ?_
        refine xe_iinc xt_g142 rfl (q := 47) rfl rfl (by decide) (L1 := [(3, _), (0, _), (1, _), (2, _)]) rfl ?_
        refine xe_s (f := (2, _, _, _)) xt_g142 rfl rfl rfl rfl rfl ?_
        have g := ih (aw ar1 7 (((k + 1 : Nat) : Int)).toNat (some x)) (by omega) (fun j hj => (aw_n hj).trans (f1 j hj)) (fun j hj => by
          rw [aw_s, va_up_n (by omega)]; exact f2 j (by omega)) (fun j hj hj2 => by
          rw [aw_s]
          by_cases e : j = k + 1
          · rw [e, show ((k + 1 : Nat) : Int).toNat = k + 1 by omega, va_up_s, show k + 1 - 1 = k by omega, e5]
          · rw [va_up_n (by omega)]; exact f3 j (by omega) hj2)
        rw [show (k : Int) = ((k + 1 : Nat) : Int) + -1 by omega] at g
        exact xe_loc (by intro q hq; simp only [List.mem_cons, List.not_mem_nil, or_false] at hq; rcases hq with rfl | rfl | rfl | rfl <;> rfl) (g)
/-- lineUp -/
theorem k142 (hn : 64 ≤ n) (HG : goL w ar h n G) (hG : G.length < 40) (HY : ckO w h n y c) {z : Int} (hz : z = G.length) : xN fm 142 (ko w s p ar v h) n [.ref 59, .ref y, xi z] (fun h' n' u' => n' = n ∧ u' = 0 ∧ ∃ ar', h' = ko w s p ar' v h ∧ (∀ k, k ≠ 7 → ar' k = ar k) ∧ goL w ar' h n (G.take (lu G c G.length) ++ c :: G.drop (lu G c G.length))) := by
  have le := lu_le (G := G) (c := c) G.length
  unfold xN
  rw [hz]
  refine xe_s (f := (1, _, _, _)) xt_g142 rfl rfl rfl rfl rfl ?_
  refine xe_s (f := (2, [(3, _), (0, _), (1, _), (2, _)], _, _)) xt_g142 rfl rfl rfl rfl rfl ?_
  refine xe_mono (xe_loc (by intro q hq; simp only [List.mem_cons, List.not_mem_nil, or_false] at hq; rcases hq with rfl | rfl | rfl | rfl <;> rfl) ((k142_loop (fm := fm) (s := s) (p := p) (v := v) (z := (G.length : Int)) hn HG hG HY G.length ar (Nat.le_refl _) (fun _ _ => rfl) (fun _ _ => rfl) (fun j h1 h2 => by omega)))) (fun r M hM => ?_)
  obtain ⟨g1, g2, g3, ar', g4, g5, g6, g7, g8⟩ := hM
  refine ⟨g1, g2, g3, ar', g4, g5, fun i hi => ?_⟩
  rw [ins_len le] at hi
  rw [ins_gd le]
  by_cases e1 : i < lu G c G.length
  · rw [if_pos e1, g6 i e1]; exact HG i (by omega)
  · rw [if_neg e1]
    by_cases e2 : i = lu G c G.length
    · rw [if_pos e2, e2]; exact ⟨y, g7, HY⟩
    · rw [if_neg e2, g8 i (by omega) (by omega)]; exact HG (i - 1) (by omega)
theorem k136_w (Cc : cst w h n) (K : KW w h n t kc) {X : List Int} (HG : goL w ar h n G) (hG : G.length ≤ 40) (hX : X.length ≤ 1000) {a5 : Value} : ∀ (m j : Nat) (w1 : kW) (h1 : xm_H) (n1 : Nat) (kc1 : Nat → Nat) (c u : Nat), j + m = G.length → RT 0 0 w h n kc w1 h1 n1 (tu t 1 (X ++ mk_txt (G.take j) false false)) kc1 u → (mk_txt (G.take j) false false).length ≤ 27 * j → xe fm 136 (72, [(5, xi (j : Int)), (4, xi (G.length : Int)), (0, .ref 59), (1, .ref 47)], [], (ko w1 s p ar v h1, n1, c, u)) (fun q M => q = .inl (some (xi (xb (!G.isEmpty)))) ∧ ∃ w' h1 kc', M.1 = ko w' s p ar v h1 ∧ RT 0 0 w h n kc w' h1 M.2.1 (tu t 1 (X ++ mk_txt G false false)) kc' M.2.2.2) := by
  intro m
  induction m with
  | zero =>
    intro j w1 h1 n1 kc1 c u hj R hl
    have W0 := K.1.1
    have N1 := R.2.1.1
    rw [List.take_of_length_le (by omega)] at R
    refine xe_s (f := (74, _, _, _)) xt_g136 rfl rfl rfl rfl rfl ?_
    refine xe_s (f := (76, _, _, _)) xt_g136 rfl rfl rfl rfl rfl ?_
    refine xe_ic_ge xt_g136 rfl (t := 134) rfl (q := 79) rfl (by first | omega | exact xb_r _) (by first | omega | exact xb_r _) (fun b76 => ?_) (fun b76 => ?_)
    · try simp only [xb_0, xb_1, ne_eq, Decidable.not_not, Bool.not_eq_false, Bool.not_eq_true, decide_eq_true_eq, decide_eq_false_iff_not] at b76
      refine xe_s (f := (136, _, _, _)) xt_g136 rfl rfl rfl rfl rfl ?_
      refine xe_if_le xt_g136 rfl (t := 143) rfl (q := 139) rfl (by first | omega | exact xb_r _) (fun b136 => ?_) (fun b136 => ?_)
      · try simp only [xb_0, xb_1, ne_eq, Decidable.not_not, Bool.not_eq_false, Bool.not_eq_true, decide_eq_true_eq, decide_eq_false_iff_not] at b136
        refine xe_s (f := (144, _, xi 0 :: _, _)) xt_g136 rfl rfl rfl rfl rfl ?_
        refine xe_iret xt_g136 rfl rfl (xi_bool (by first | omega | exact xb_or _)).1 ?_
        try dsimp only
        refine ⟨?_, w1, h1, kc1, rfl, R⟩
        cases G with
        | nil => rfl
        | cons g G => rw [List.length_cons] at b136; omega
      · try simp only [xb_0, xb_1, ne_eq, Decidable.not_not, Bool.not_eq_false, Bool.not_eq_true, decide_eq_true_eq, decide_eq_false_iff_not] at b136
        refine xe_s (f := (140, _, xi 1 :: _, _)) xt_g136 rfl rfl rfl rfl rfl ?_
        refine xe_s (f := (144, _, _, _)) xt_g136 rfl rfl rfl rfl rfl ?_
        refine xe_iret xt_g136 rfl rfl (xi_bool (by first | omega | exact xb_or _)).1 ?_
        try dsimp only
        refine ⟨?_, w1, h1, kc1, rfl, R⟩
        cases G with
        | nil => exact absurd b136 (by simp)
        | cons g G => rfl
    · exact absurd b76 (by omega)
  | succ m ih =>
    intro j w1 h1 n1 kc1 c u hj R hl
    have W0 := K.1.1
    have N1 := R.2.1.1
    have K1 := R.1
    have C1 := cst_kp Cc K.1 R.2.1
    obtain ⟨x, e5, HX⟩ := HG j (by omega)
    have HX1 := ckO_kp HX R.2.1
    obtain ⟨na, va, dn, pa, a1, a2, a3, a4, s1, s2, s3, s4, b1, b2, b3, b4, b5, b6⟩ := HX1
    have tk : G.take (j + 1) = G.take j ++ [G.getD j ck_0] := tk_s (by omega)
    have fin : ∀ (w2 : kW) (h2 : xm_H) (n2 : Nat) (kc2 : Nat → Nat) (c2 u2 : Nat) (pr : List Int), pr = (if j = 0 then [] else [59, 32]) → RT 0 0 w h n kc w2 h2 n2 (tu t 1 (X ++ mk_txt (G.take j) false false ++ pr)) kc2 u2 → xe fm 136 (91, [(5, xi (j : Int)), (4, xi (G.length : Int)), (0, .ref 59), (1, .ref 47)], [], (ko w2 s p ar v h2, n2, c2, u2)) (fun q M => q = .inl (some (xi (xb (!G.isEmpty)))) ∧ ∃ w' h1 kc', M.1 = ko w' s p ar v h1 ∧ RT 0 0 w h n kc w' h1 M.2.1 (tu t 1 (X ++ mk_txt G false false)) kc' M.2.2.2) := by
      intro w2 h2 n2 kc2 c2 u2 pr epr R2
      have N2 := R2.2.1.1
      have HX2 := ckO_kp HX R2.2.1
      obtain ⟨na, va, dn, pa, a1, a2, a3, a4, s1, s2, s3, s4, b1, b2, b3, b4, b5, b6⟩ := HX2
      have X1 := (ko_d (w := w2) (s := s) (p := p) (ar := ar) (v := v) a2.1).trans a1
      have prl : pr.length ≤ 2 := by rw [epr]; split <;> decide
      refine xe_s (f := (92, _, _, _)) xt_g136 rfl rfl rfl rfl rfl ?_
      refine xe_s (f := (93, _, _, _)) xt_g136 rfl rfl rfl rfl rfl ?_
      refine xe_gf xt_g136 rfl (q := 96) rfl (xf_6_24 fm) (ko_59) (by omega) rfl rfl ?_
      refine xe_s (f := (98, _, _, _)) xt_g136 rfl rfl rfl rfl rfl ?_
      refine xe_ka_63 xt_g136 rfl (q := 99) rfl (by omega) (by omega) (by omega) ?_
      rw [Int.toNat_natCast, e5, va_some]
      refine xe_gf xt_g136 rfl (q := 102) rfl (xf_6_171 fm) (X1) (by omega) rfl rfl ?_
      refine xe_cA xt_g136 rfl rfl rfl (q := 105) rfl (kc_V xk_6_165 rfl (ko_47) (by omega) rfl rfl) xt_g16 (by decide) ⟨Nat.le_of_ble_eq_true rfl, Nat.le_of_ble_eq_true rfl, Nat.le_of_ble_eq_true rfl⟩ (k16_1 R2.1 s1 (by rw [tu_s]; simp only [List.length_append]; omega)) (fun x3 h3' n3 c3 u3 hp => ?_)
      obtain ⟨rfl, w3, h3, k3, rfl, R3⟩ := hp
      rw [tu_s] at R3
      have N3 := R3.2.1.1
      have R3' := RT_trans R2 (RT_1 R3)
      rw [tu_tu] at R3'
      refine xe_s (f := (106, _, _, _)) xt_g136 rfl rfl rfl rfl rfl ?_
      refine xe_s (f := (107, _, _, _)) xt_g136 rfl rfl rfl rfl rfl ?_
      refine xe_bipush xt_g136 rfl (q := 109) rfl (by decide) (by decide) ?_
      refine xe_cA xt_g136 rfl rfl rfl (q := 112) rfl (kc_V xk_6_174 rfl (ko_47) (by omega) rfl rfl) xt_g63 (by decide) ⟨Nat.le_of_ble_eq_true rfl, Nat.le_of_ble_eq_true rfl, Nat.le_of_ble_eq_true rfl⟩ (k63_1 (c := 61) R3'.1 (by omega) (by rw [tu_s]; simp only [List.length_append]; omega)) (fun x4 h4' n4 c4 u4 hq => ?_)
      obtain ⟨rfl, w4, h4, k4, rfl, R4⟩ := hq
      rw [tu_s] at R4
      have N4 := R4.2.1.1
      have R4' := RT_trans R3' (RT_1 R4)
      rw [tu_tu] at R4'
      have HX4 := ckO_kp HX R4'.2.1
      obtain ⟨na4, va4, dn4, pa4, d1, d2, d3, d4, t1, t2, t3, t4, _⟩ := HX4
      have X4 := (ko_d (w := w4) (s := s) (p := p) (ar := ar) (v := v) d2.1).trans d1
      refine xe_s (f := (113, _, _, _)) xt_g136 rfl rfl rfl rfl rfl ?_
      refine xe_s (f := (114, _, _, _)) xt_g136 rfl rfl rfl rfl rfl ?_
      refine xe_s (f := (115, _, _, _)) xt_g136 rfl rfl rfl rfl rfl ?_
      refine xe_gf xt_g136 rfl (q := 118) rfl (xf_6_24 fm) (ko_59) (by omega) rfl rfl ?_
      refine xe_s (f := (120, _, _, _)) xt_g136 rfl rfl rfl rfl rfl ?_
      refine xe_ka_63 xt_g136 rfl (q := 121) rfl (by omega) (by omega) (by omega) ?_
      rw [Int.toNat_natCast, e5, va_some]
      refine xe_gf xt_g136 rfl (q := 124) rfl (xf_6_177 fm) (X4) (by omega) rfl rfl ?_
      refine xe_cA xt_g136 rfl rfl rfl (q := 127) rfl (kc_V xk_6_165 rfl (ko_47) (by omega) rfl rfl) xt_g16 (by decide) ⟨Nat.le_of_ble_eq_true rfl, Nat.le_of_ble_eq_true rfl, Nat.le_of_ble_eq_true rfl⟩ (k16_1 R4'.1 t2 (by rw [tu_s]; simp only [List.length_append, List.length_singleton]; omega)) (fun x5 h5' n5 c5 u5 hr => ?_)
      obtain ⟨rfl, w5, h5, k5, rfl, R5⟩ := hr
      rw [tu_s] at R5
      have R5' := RT_trans R4' (RT_1 R5)
      rw [tu_tu] at R5'
      refine xe_s (f := (128, _, _, _)) xt_g136 rfl rfl rfl rfl rfl ?_
      refine xe_iinc xt_g136 rfl (q := 131) rfl rfl (by decide) (L1 := [(5, _), (4, _), (0, _), (1, _)]) rfl ?_
      refine xe_s (f := (72, _, _, _)) xt_g136 rfl rfl rfl rfl rfl ?_
      have et : X ++ mk_txt (G.take j) false false ++ pr ++ (G.getD j ck_0).1 ++ [61] ++ (G.getD j ck_0).2.1 = X ++ mk_txt (G.take (j + 1)) false false := by
        rw [tk, mk_txt_app]
        unfold mk_one
        rw [epr]
        by_cases e0 : j = 0
        · rw [if_pos e0, e0]
          simp [mk_txt]
        · have ne : (G.take j).isEmpty = false := by
            cases hh : G.take j with
            | nil =>
              have := congrArg List.length hh
              rw [List.length_take] at this
              rw [List.length_nil] at this
              omega
            | cons _ _ => rfl
          rw [if_neg e0, ne]
          simp
      rw [et] at R5'
      have g := ih (j + 1) w5 h5 n5 _ (c2 + c3 + c4 + c5) _ (by omega) R5' (by
        rw [tk, mk_txt_app, List.length_append]
        unfold mk_one
        have : ((if (false || !(G.take j).isEmpty) = true then [59, 32] else if false = true then [32] else [] : List Int)).length ≤ 2 := by split <;> simp
        simp only [List.length_append, List.length_cons]
        omega)
      rw [show ((j + 1 : Nat) : Int) = (j : Int) + 1 by omega] at g
      exact xe_loc (by intro q hq; simp only [List.mem_cons, List.not_mem_nil, or_false] at hq; rcases hq with rfl | rfl | rfl | rfl <;> rfl) (g)
    refine xe_s (f := (74, _, _, _)) xt_g136 rfl rfl rfl rfl rfl ?_
    refine xe_s (f := (76, _, _, _)) xt_g136 rfl rfl rfl rfl rfl ?_
    refine xe_ic_ge xt_g136 rfl (t := 134) rfl (q := 79) rfl (by first | omega | exact xb_r _) (by first | omega | exact xb_r _) (fun b76 => ?_) (fun b76 => ?_)
    · exact absurd b76 (by omega)
    · try simp only [xb_0, xb_1, ne_eq, Decidable.not_not, Bool.not_eq_false, Bool.not_eq_true, decide_eq_true_eq, decide_eq_false_iff_not] at b76
      refine xe_s (f := (81, _, _, _)) xt_g136 rfl rfl rfl rfl rfl ?_
      refine xe_if_le xt_g136 rfl (t := 91) rfl (q := 84) rfl (by first | omega | exact xb_r _) (fun b81 => ?_) (fun b81 => ?_)
      · try simp only [xb_0, xb_1, ne_eq, Decidable.not_not, Bool.not_eq_false, Bool.not_eq_true, decide_eq_true_eq, decide_eq_false_iff_not] at b81
        have e0 : j = 0 := by omega
        exact xe_loc (by intro q hq; simp only [List.mem_cons, List.not_mem_nil, or_false] at hq; rcases hq with rfl | rfl | rfl | rfl <;> rfl) ((fin w1 h1 n1 kc1 c u [] (by rw [if_pos e0]) (by rw [List.append_nil]; exact R)))
      · try simp only [xb_0, xb_1, ne_eq, Decidable.not_not, Bool.not_eq_false, Bool.not_eq_true, decide_eq_true_eq, decide_eq_false_iff_not] at b81
        have e0 : ¬ j = 0 := by omega
        refine xe_s (f := (85, _, _, _)) xt_g136 rfl rfl rfl rfl rfl ?_
        refine xe_s (f := (87, _, .ref 19 :: _, _)) xt_g136 rfl rfl rfl rfl rfl ?_
        refine xe_cA xt_g136 rfl rfl rfl (q := 90) rfl (kc_V xk_6_165 rfl (ko_47) (by omega) rfl rfl) xt_g16 (by decide) ⟨Nat.le_of_ble_eq_true rfl, Nat.le_of_ble_eq_true rfl, Nat.le_of_ble_eq_true rfl⟩ (k16_1 K1 (C1.1 (19, [59, 32]) (by decide)) (by rw [tu_s]; simp only [List.length_append, List.length_cons, List.length_nil]; omega)) (fun x3 h3' n3 c3 u3 hp => ?_)
        obtain ⟨rfl, w3, h3, k3, rfl, R3⟩ := hp
        rw [tu_s] at R3
        have R3' := RT_trans R (RT_1 R3)
        rw [tu_tu] at R3'
        refine xe_s (f := (91, _, _, _)) xt_g136 rfl rfl rfl rfl rfl ?_
        exact xe_loc (by intro q hq; simp only [List.mem_cons, List.not_mem_nil, or_false] at hq; rcases hq with rfl | rfl | rfl | rfl <;> rfl) ((fin w3 h3 n3 _ (c + c3) _ [59, 32] (by rw [if_neg e0]) R3'))
theorem k136_g (hfm : fm = .null ∨ ∃ j, fm = .ref j) (Cc : cst w h n) (K : KW w h n t kc) (HC : ckL w s ar h n C) (hC : C.length ≤ 40) (HA : aO w h n r A) (ht : 0 ≤ s 14 ∧ s 14 ≤ 1000000000) (hX : (t 1).length ≤ 1000) (hp : ∀ c, c ∈ C → 1 ≤ c.2.2.2.1.length ∧ c.2.2.2.1.length ≤ 30) {net : Bool} : ∀ (m i : Nat) (ar1 : Nat → Nat → Option Nat) (c : Nat), i + m = C.length → (∀ j, j ≠ 7 → ar1 j = ar j) → goL w ar1 h n (mk_going (s 14) (C.take i) A net) → xe fm 136 (6, [(5, xi (i : Int)), (4, xi ((mk_going (s 14) (C.take i) A net).length : Int)), (0, .ref 59), (1, .ref 47), (2, .ref r), (3, xi (xb net))], [], (ko w s p ar1 v h, n, c, 0)) (fun q M => q = .inl (some (xi (xb (!(mk_going (s 14) C A net).isEmpty)))) ∧ ∃ w' ar' h1 kc', M.1 = ko w' s p ar' v h1 ∧ (∀ j, j ≠ 7 → ar' j = ar j) ∧ RT 0 0 w h n kc w' h1 M.2.1 (tu t 1 (t 1 ++ mk_txt (mk_going (s 14) C A net) false false)) kc' M.2.2.2) := by
  have W0 := K.1.1
  have y5 := xb_or net
  intro m
  induction m with
  | zero =>
    intro i ar1 c hi f1 HG
    rw [List.take_of_length_le (show C.length ≤ i by omega)] at HG ⊢
    have gl := going_le (t := s 14) (a := A) (net := net) hp
    refine xe_s (f := (8, _, _, _)) xt_g136 rfl rfl rfl rfl rfl ?_
    refine xe_s (f := (9, _, _, _)) xt_g136 rfl rfl rfl rfl rfl ?_
    refine xe_gf xt_g136 rfl (q := 12) rfl (xf_6_35 fm) (ko_59) (by omega) rfl rfl ?_
    rw [HC.1]
    refine xe_ic_ge xt_g136 rfl (t := 69) rfl (q := 15) rfl (by first | omega | exact xb_r _) (by first | omega | exact xb_r _) (fun b12 => ?_) (fun b12 => ?_)
    · try simp only [xb_0, xb_1, ne_eq, Decidable.not_not, Bool.not_eq_false, Bool.not_eq_true, decide_eq_true_eq, decide_eq_false_iff_not] at b12
      refine xe_s (f := (70, _, xi 0 :: _, _)) xt_g136 rfl rfl rfl rfl rfl ?_
      refine xe_s (f := (72, [(5, _), (4, _), (0, _), (1, _), (2, _), (3, _)], _, _)) xt_g136 rfl rfl rfl rfl rfl ?_
      have g := k136_w (fm := fm) (s := s) (p := p) (v := v) (a5 := .null) (X := t 1) Cc K HG (by omega) hX (mk_going (s 14) C A net).length 0 w h n kc c 0 (by omega) (by
        rw [List.take_zero, show mk_txt [] false false = [] from rfl, List.append_nil, tu_id]
        exact RT_ke K ke_refl (by omega) (by omega)) (by rw [List.take_zero]; exact Nat.le_refl _)
      refine xe_mono (xe_loc (by intro q hq; simp only [List.mem_cons, List.not_mem_nil, or_false] at hq; rcases hq with rfl | rfl | rfl | rfl <;> rfl) (g)) (fun r M hM => ?_)
      obtain ⟨g1, w2, h2, kc2, g2, g3⟩ := hM
      exact ⟨g1, w2, ar1, h2, kc2, g2, f1, g3⟩
    · exact absurd b12 (by omega)
  | succ m ih =>
    intro i ar1 c hi f1 HG
    have HC1 := ckL_kp (s' := s) (ar' := ar1) HC kp_refl rfl (f1 6 (by decide))
    obtain ⟨x, e5, HX⟩ := HC1.2.2 i (by omega)
    have HX' := HX
    obtain ⟨na, va, dn, pa, a1, a2, a3, a4, s1, s2, s3, s4, b1, b2, b3, b4, b5, b6⟩ := HX
    have X1 := (ko_d (w := w) (s := s) (p := p) (ar := ar1) (v := v) a2.1).trans a1
    have gl := going_le (t := s 14) (a := A) (net := net) (C := C.take i) (fun c hc => hp c (List.mem_of_mem_take hc))
    rw [List.length_take] at gl
    have eg := ck_go_gw (t := s 14) (c := C.getD i ck_0) (a := A) (net := net)
    have tk : C.take (i + 1) = C.take i ++ [C.getD i ck_0] := tk_s (by omega)
    refine xe_s (f := (8, _, _, _)) xt_g136 rfl rfl rfl rfl rfl ?_
    refine xe_s (f := (9, _, _, _)) xt_g136 rfl rfl rfl rfl rfl ?_
    refine xe_gf xt_g136 rfl (q := 12) rfl (xf_6_35 fm) (ko_59) (by omega) rfl rfl ?_
    rw [HC.1]
    refine xe_ic_ge xt_g136 rfl (t := 69) rfl (q := 15) rfl (by first | omega | exact xb_r _) (by first | omega | exact xb_r _) (fun b12 => ?_) (fun b12 => ?_)
    · exact absurd b12 (by omega)
    · try simp only [xb_0, xb_1, ne_eq, Decidable.not_not, Bool.not_eq_false, Bool.not_eq_true, decide_eq_true_eq, decide_eq_false_iff_not] at b12
      refine xe_s (f := (16, _, _, _)) xt_g136 rfl rfl rfl rfl rfl ?_
      refine xe_gf xt_g136 rfl (q := 19) rfl (xf_6_20 fm) (ko_59) (by omega) rfl rfl ?_
      refine xe_s (f := (21, _, _, _)) xt_g136 rfl rfl rfl rfl rfl ?_
      refine xe_ka_62 xt_g136 rfl (q := 22) rfl (by omega) (by omega) (by omega) ?_
      rw [Int.toNat_natCast, e5, va_some]
      refine xe_s (f := (23, _, _, _)) xt_g136 rfl rfl rfl rfl rfl ?_
      refine xe_gf xt_g136 rfl (q := 26) rfl (xf_6_31 fm) (ko_59) (by omega) rfl rfl ?_
      refine xe_cR xt_g136 rfl rfl rfl (q := 29) rfl (kc_V xk_6_38 rfl (X1) (by omega) rfl rfl) xt_g137 (by decide) ⟨Nat.le_of_ble_eq_true rfl, Nat.le_of_ble_eq_true rfl, Nat.le_of_ble_eq_true rfl⟩ (k137 HX' ht) ?_
      refine xe_if_ne xt_g136 rfl (t := 63) rfl (q := 32) rfl (by first | omega | exact xb_r _) (fun b29 => ?_) (fun b29 => ?_)
      · try simp only [xb_0, xb_1, ne_eq, Decidable.not_not, Bool.not_eq_false, Bool.not_eq_true, decide_eq_true_eq, decide_eq_false_iff_not] at b29
        rw [b29, Bool.not_true, Bool.false_and] at eg
        refine xe_iinc xt_g136 rfl (q := 66) rfl rfl (by decide) (L1 := [(5, _), (4, _), (0, _), (1, _), (2, _), (3, _)]) rfl ?_
        refine xe_s (f := (6, _, _, _)) xt_g136 rfl rfl rfl rfl rfl ?_
        have g := ih (i + 1) ar1 c (by omega) f1 (by rw [tk, going_no eg]; exact HG)
        rw [show ((i + 1 : Nat) : Int) = (i : Int) + 1 by omega, show mk_going (s 14) (C.take (i + 1)) A net = mk_going (s 14) (C.take i) A net by rw [tk, going_no eg]] at g
        exact xe_loc (by intro q hq; simp only [List.mem_cons, List.not_mem_nil, or_false] at hq; rcases hq with rfl | rfl | rfl | rfl | rfl | rfl <;> rfl) (g)
      · try simp only [xb_0, xb_1, ne_eq, Decidable.not_not, Bool.not_eq_false, Bool.not_eq_true, decide_eq_true_eq, decide_eq_false_iff_not] at b29
        rw [b29, Bool.not_false, Bool.true_and] at eg
        refine xe_s (f := (33, _, _, _)) xt_g136 rfl rfl rfl rfl rfl ?_
        refine xe_gf xt_g136 rfl (q := 36) rfl (xf_6_20 fm) (ko_59) (by omega) rfl rfl ?_
        refine xe_s (f := (38, _, _, _)) xt_g136 rfl rfl rfl rfl rfl ?_
        refine xe_ka_62 xt_g136 rfl (q := 39) rfl (by omega) (by omega) (by omega) ?_
        rw [Int.toNat_natCast, e5, va_some]
        refine xe_s (f := (40, _, _, _)) xt_g136 rfl rfl rfl rfl rfl ?_
        refine xe_s (f := (41, _, _, _)) xt_g136 rfl rfl rfl rfl rfl ?_
        refine xe_cR xt_g136 rfl rfl rfl (q := 44) rfl (kc_V xk_6_155 rfl (X1) (by omega) rfl rfl) xt_g138 (by decide) ⟨Nat.le_of_ble_eq_true rfl, Nat.le_of_ble_eq_true rfl, Nat.le_of_ble_eq_true rfl⟩ (k138 hfm Cc HX' HA) ?_
        refine xe_if_eq xt_g136 rfl (t := 63) rfl (q := 47) rfl (by first | omega | exact xb_r _) (fun b44 => ?_) (fun b44 => ?_)
        · try simp only [xb_0, xb_1, ne_eq, Decidable.not_not, Bool.not_eq_false, Bool.not_eq_true, decide_eq_true_eq, decide_eq_false_iff_not] at b44
          rw [b44] at eg
          refine xe_iinc xt_g136 rfl (q := 66) rfl rfl (by decide) (L1 := [(5, _), (4, _), (0, _), (1, _), (2, _), (3, _)]) rfl ?_
          refine xe_s (f := (6, _, _, _)) xt_g136 rfl rfl rfl rfl rfl ?_
          have g := ih (i + 1) ar1 c (by omega) f1 (by rw [tk, going_no eg]; exact HG)
          rw [show ((i + 1 : Nat) : Int) = (i : Int) + 1 by omega, show mk_going (s 14) (C.take (i + 1)) A net = mk_going (s 14) (C.take i) A net by rw [tk, going_no eg]] at g
          exact xe_loc (by intro q hq; simp only [List.mem_cons, List.not_mem_nil, or_false] at hq; rcases hq with rfl | rfl | rfl | rfl | rfl | rfl <;> rfl) (g)
        · try simp only [xb_0, xb_1, ne_eq, Decidable.not_not, Bool.not_eq_false, Bool.not_eq_true, decide_eq_true_eq, decide_eq_false_iff_not] at b44
          rw [b44] at eg
          refine xe_s (f := (48, _, _, _)) xt_g136 rfl rfl rfl rfl rfl ?_
          refine xe_s (f := (49, _, _, _)) xt_g136 rfl rfl rfl rfl rfl ?_
          refine xe_gf xt_g136 rfl (q := 52) rfl (xf_6_20 fm) (ko_59) (by omega) rfl rfl ?_
          refine xe_s (f := (54, _, _, _)) xt_g136 rfl rfl rfl rfl rfl ?_
          refine xe_ka_62 xt_g136 rfl (q := 55) rfl (by omega) (by omega) (by omega) ?_
          rw [Int.toNat_natCast, e5, va_some]
          refine xe_s (f := (57, _, _, _)) xt_g136 rfl rfl rfl rfl rfl ?_
          refine xe_cN xt_g136 rfl rfl rfl (q := 60) rfl (kc_V xk_6_159 rfl (ko_59) (by omega) rfl rfl) xt_g142 (by decide) ⟨Nat.le_of_ble_eq_true rfl, Nat.le_of_ble_eq_true rfl, Nat.le_of_ble_eq_true rfl⟩ (k142 (y := x) (c := C.getD i ck_0) (by omega) HG (by omega) HX' rfl) (fun h3' n3 c3 u3 hq => ?_)
          obtain ⟨e1, e2, ar2, rfl, g1, g2⟩ := hq
          rw [e1, e2, Nat.add_zero]
          rw [← going_yes eg b5 b6, ← tk] at g2
          refine xe_iinc xt_g136 rfl (q := 63) rfl rfl (by decide) (L1 := [(4, _), (5, _), (0, _), (1, _), (2, _), (3, _)]) rfl ?_
          refine xe_iinc xt_g136 rfl (q := 66) rfl rfl (by decide) (L1 := [(5, _), (4, _), (0, _), (1, _), (2, _), (3, _)]) rfl ?_
          refine xe_s (f := (6, _, _, _)) xt_g136 rfl rfl rfl rfl rfl ?_
          have el : ((mk_going (s 14) (C.take (i + 1)) A net).length : Int) = ((mk_going (s 14) (C.take i) A net).length : Int) + 1 := by
            rw [tk, going_yes eg b5 b6, ins_len (lu_le _)]
            omega
          have g := ih (i + 1) ar2 (c + c3) (by omega) (fun j hj => (g1 j hj).trans (f1 j hj)) g2
          rw [show ((i + 1 : Nat) : Int) = (i : Int) + 1 by omega, el] at g
          exact xe_loc (by intro q hq; simp only [List.mem_cons, List.not_mem_nil, or_false] at hq; rcases hq with rfl | rfl | rfl | rfl | rfl | rfl <;> rfl) (g)
/-- appendGoing -/
theorem k136 (hfm : fm = .null ∨ ∃ j, fm = .ref j) (Cc : cst w h n) (K : KW w h n t kc) (HC : ckL w s ar h n C) (hC : C.length ≤ 40) (HA : aO w h n r A) (ht : 0 ≤ s 14 ∧ s 14 ≤ 1000000000) (hX : (t 1).length ≤ 1000) {net : Bool} : xI fm 136 (ko w s p ar v h) n [.ref 59, .ref 47, .ref r, xi (xb net)] (fun z h' n' u' => z = xb (!(mk_going (s 14) C A net).isEmpty) ∧ ∃ w' ar' h1 kc', h' = ko w' s p ar' v h1 ∧ (∀ j, j ≠ 7 → ar' j = ar j) ∧ RT 0 0 w h n kc w' h1 n' (tu t 1 (t 1 ++ mk_txt (mk_going (s 14) C A net) false false)) kc' u') := by
  have W0 := K.1.1
  have hp : ∀ c, c ∈ C → 1 ≤ c.2.2.2.1.length ∧ c.2.2.2.1.length ≤ 30 := by
    intro c hc
    obtain ⟨i, hi, e⟩ := List.getElem_of_mem hc
    obtain ⟨x, e5, na, va, dn, pa, a1, a2, a3, a4, s1, s2, s3, s4, b1, b2, b3, b4, b5, b6⟩ := HC.2.2 i hi
    rw [List.getD_eq_getElem?_getD, List.getElem?_eq_getElem hi, e] at b5 b6
    exact ⟨b5, b6⟩
  unfold xI
  refine xe_s (f := (1, _, xi 0 :: _, _)) xt_g136 rfl rfl rfl rfl rfl ?_
  refine xe_s (f := (3, [(4, _), (0, _), (1, _), (2, _), (3, _)], _, _)) xt_g136 rfl rfl rfl rfl rfl ?_
  refine xe_s (f := (4, _, xi 0 :: _, _)) xt_g136 rfl rfl rfl rfl rfl ?_
  refine xe_s (f := (6, [(5, _), (4, _), (0, _), (1, _), (2, _), (3, _)], _, _)) xt_g136 rfl rfl rfl rfl rfl ?_
  have g := k136_g (fm := fm) (p := p) (v := v) (net := net) hfm Cc K HC hC HA ht hX hp C.length 0 ar 0 (by omega) (fun _ _ => rfl) (fun i hi => absurd hi (Nat.not_lt_zero i))
  refine xe_mono (xe_loc (by intro q hq; simp only [List.mem_cons, List.not_mem_nil, or_false] at hq; rcases hq with rfl | rfl | rfl | rfl | rfl | rfl <;> rfl) (g)) (fun r M hM => ?_)
  obtain ⟨g1, g2⟩ := hM
  exact ⟨_, g1, rfl, g2⟩
end XBD
