/-! the reference: putCookie -/
def ck_so (f : ck_T) (v : Int) : ck_T := (f.1, f.2.1, f.2.2.1, f.2.2.2.1, v, f.2.2.2.2.2)
def ck_ov (t : Int) : Option Int → Int
  | none => -1
  | some v => t + v
def ck_io (t : Int) (c : ck_T) : Bool := decide (0 ≤ c.2.2.2.2.1 ∧ c.2.2.2.2.1 ≤ t)
def ck_ins (t : Int) (C : List ck_T) (f : ck_T) : List ck_T := if ck_io t f = true then (if 0 ≤ ck_fi C f 0 then C.eraseIdx (ck_fi C f 0).toNat else C) else (if 0 ≤ ck_fi C f 0 then C.set (ck_fi C f 0).toNat f else C ++ [f])
def ck_q (L : List (List Int)) (D : List Int) (q : Int) : Nat → List ck_T → List ck_T
  | 0, C => C
  | F + 1, C => if q < (ck_cnt L D C : Int) then ck_q L D q F (C.eraseIdx (ck_old L D C 0).toNat) else C
def ck_c40 (C : List ck_T) : List ck_T := if 40 < C.length then C.eraseIdx 0 else C
def ck_blk (C : List ck_T) (f : ck_T) (net : Bool) : Bool := !net && (f.2.2.2.2.2.2.2 || (decide (0 ≤ ck_fi C f 0) && (C.getD (ck_fi C f 0).toNat ck_0).2.2.2.2.2.2.2))
def ck_put (L : List (List Int)) (q t : Int) (C : List ck_T) (f : ck_T) (net ssafe : Bool) : List ck_T := if (ck_blk C f net || (f.2.2.2.2.2.2.1 && !ssafe)) = true then C else ck_c40 (ck_q L f.2.2.1 q 41 (ck_ins t C f))
theorem ck_fi_so {f : ck_T} {v : Int} : ∀ (C : List ck_T) (k : Nat), ck_fi C (ck_so f v) k = ck_fi C f k
  | [], _ => rfl
  | c :: C, k => by
    unfold ck_fi
    rw [ck_fi_so C (k + 1)]
    rfl
theorem ck_fi_r {f : ck_T} : ∀ (C : List ck_T) (k : Nat), ck_fi C f k = -1 ∨ ((k : Int) ≤ ck_fi C f k ∧ ck_fi C f k < k + C.length)
  | [], _ => Or.inl rfl
  | c :: C, k => by
    unfold ck_fi
    rw [List.length_cons]
    split
    · right
      omega
    · rcases ck_fi_r C (k + 1) with h | h
      · exact Or.inl h
      · right
        omega
theorem ck_old_r {L : List (List Int)} {D : List Int} : ∀ (C : List ck_T) (k : Nat), 0 < ck_cnt L D C → (k : Int) ≤ ck_old L D C k ∧ ck_old L D C k < k + C.length
  | [], k, h => absurd h (Nat.lt_irrefl 0)
  | c :: C, k, h => by
    unfold ck_old
    rw [List.length_cons]
    split
    · omega
    · rename_i hn
      unfold ck_cnt at h
      rw [List.filter_cons_of_neg (by simpa using hn)] at h
      have := ck_old_r C (k + 1) h
      omega
theorem ck_cnt_e {L : List (List Int)} {D : List Int} : ∀ (C : List ck_T) (k : Nat), 0 < ck_cnt L D C → ck_cnt L D (C.eraseIdx (ck_old L D C k - k).toNat) + 1 = ck_cnt L D C
  | [], k, h => absurd h (Nat.lt_irrefl 0)
  | c :: C, k, h => by
    unfold ck_old
    split
    · rename_i hy
      rw [show ((k : Int) - k).toNat = 0 by omega]
      unfold ck_cnt
      rw [List.eraseIdx_cons_zero, List.filter_cons_of_pos (by simpa using hy)]
      rfl
    · rename_i hn
      have h' : 0 < ck_cnt L D C := by
        unfold ck_cnt at h ⊢
        rw [List.filter_cons_of_neg (by simpa using hn)] at h
        exact h
      have hr := ck_old_r C (k + 1) h'
      have ih := ck_cnt_e C (k + 1) h'
      rw [show (ck_old L D C (k + 1) - k).toNat = (ck_old L D C (k + 1) - ((k + 1 : Nat) : Int)).toNat + 1 by omega, List.eraseIdx_cons_succ]
      unfold ck_cnt at ih ⊢
      rw [List.filter_cons_of_neg (by simpa using hn), List.filter_cons_of_neg (by simpa using hn)]
      exact ih
theorem ck_cnt_le {L : List (List Int)} {D : List Int} {C : List ck_T} : ck_cnt L D C ≤ C.length := List.length_filter_le _ _
theorem ck_getE {C : List ck_T} {i j : Nat} : (C.eraseIdx i).getD j ck_0 = if j < i then C.getD j ck_0 else C.getD (j + 1) ck_0 := by
  simp only [List.getD, List.getElem?_eraseIdx]
  split <;> rfl
section XPU
variable (fm : Value) {m n : Nat} {h0 : xm_H} {s : Nat → Int} {ar : Nat → Nat → Int}
/-- a cookie is dropped: the rows, the fresh one among them, behind it -/
theorem xU_drop (hmn : xo_in m n) (hw : xo_wf s ar) (hB : xo_B ar) {C : List ck_T} {i : Int} (hC : ck_all s ar C) (h0i : 0 ≤ i) (hi : i < C.length) : xU fm 311 m n h0 s ar [.ref m, xi i] (fun s' ar' => s' = xo_u s 19 ((C.length : Int) - 1) ∧ xo_wf s' ar' ∧ xo_B ar' ∧ xq [19] [20, 21, 22, 23, 24, 25, 26, 27, 28, 29, 30, 31] s ar s' ar' ∧ ck_all s' ar' (C.eraseIdx i.toNat) ∧ ck_eq ar 41 ar' 41) := by
  obtain ⟨I, rfl⟩ := Int.eq_ofNat_of_zero_le h0i
  have hl := hC.2.1
  have hi' : I < C.length := by omega
  refine xU_mono (xU_dropCookie fm hmn hw hB (i := I) hC.1 hi' hl) ?_
  rintro s' ar' ⟨e, w, B, q, f1, f2, f3⟩
  have hel : (C.eraseIdx I).length = C.length - 1 := List.length_eraseIdx_of_lt hi'
  refine ⟨e, w, B, q, ⟨?_, ?_, fun j hj => ?_⟩, f3 41 hl⟩
  · rw [e, xo_uS, Int.toNat_natCast, hel]
    omega
  · rw [Int.toNat_natCast, hel]
    omega
  · rw [Int.toNat_natCast] at hj ⊢
    rw [hel] at hj
    rw [ck_getE]
    split
    · rename_i hji
      exact ck_at_eq (hC.2.2 j (by omega)) (f1 j hji)
    · rename_i hji
      exact ck_at_eq (hC.2.2 (j + 1) (by omega)) (f2 j (by omega) (by omega))
def xd_PU (s : Nat → Int) (ar : Nat → Nat → Int) (C : List ck_T) (s' : Nat → Int) (ar' : Nat → Nat → Int) : Prop := xo_wf s' ar' ∧ xo_B ar' ∧ xq [19] [20, 21, 22, 23, 24, 25, 26, 27, 28, 29, 30, 31] s ar s' ar' ∧ ck_all s' ar' C ∧ C.length ≤ 40
theorem ck_c40_len {C : List ck_T} (h : C.length ≤ 41) : (ck_c40 C).length ≤ 40 := by
  unfold ck_c40
  split
  · rw [List.length_eraseIdx_of_lt (by omega)]
    omega
  · omega
theorem xe_put2 (hmn : xo_in m n) {s0 : Nat → Int} {ar0 : Nat → Nat → Int} {L : List (List Int)} {D : List Int} {v1 v2 v3 : Int} : ∀ (F : Nat) (C : List ck_T) (s : Nat → Int) (ar : Nat → Nat → Int), ck_cnt L D C ≤ F → xo_wf s ar → xo_B ar → xq [19] [20, 21, 22, 23, 24, 25, 26, 27, 28, 29, 30, 31] s0 ar0 s ar → ck_all s ar C → ck_dom ar 41 D → sf_at s ar L → 0 ≤ s 17 →
    xe fm 324 (145, [(4, xi (if s 17 < (ck_cnt L D C : Int) then ck_old L D C 0 else -1)), (3, xi v3), (0, .ref m), (1, xi v1), (2, xi v2)], [], (xo m s ar h0, n, 0, 0)) (xQU m n h0 (xd_PU s0 ar0 (ck_c40 (ck_q L D (s 17) F C)))) := by
  -- no more than forty
  have last : ∀ (C : List ck_T) (s : Nat → Int) (ar : Nat → Nat → Int) (v4 : Int), xo_wf s ar → xo_B ar → xq [19] [20, 21, 22, 23, 24, 25, 26, 27, 28, 29, 30, 31] s0 ar0 s ar → ck_all s ar C → xe fm 324 (165, [(4, xi v4), (3, xi v3), (0, .ref m), (1, xi v1), (2, xi v2)], [], (xo m s ar h0, n, 0, 0)) (xQU m n h0 (xd_PU s0 ar0 (ck_c40 C))) := by
    have done : ∀ (C : List ck_T) (s : Nat → Int) (ar : Nat → Nat → Int) (v4 : Int), xo_wf s ar → xo_B ar → xq [19] [20, 21, 22, 23, 24, 25, 26, 27, 28, 29, 30, 31] s0 ar0 s ar → ck_all s ar C → C.length ≤ 40 → xe fm 324 (165, [(4, xi v4), (3, xi v3), (0, .ref m), (1, xi v1), (2, xi v2)], [], (xo m s ar h0, n, 0, 0)) (xQU m n h0 (xd_PU s0 ar0 C)) := by
      intro C s ar v4 w B q hC hl
      have h19 := hC.1
      refine xe_s (f := (166, _, _, _)) xt_g324 rfl rfl rfl rfl rfl ?_
      refine xe_mgs xt_g324 rfl (q := 169) rfl (xf_13_265 fm) (by decide) rfl (by omega) ?_
      try simp only [xo_u, xo_w, Nat.reduceEqDiff, reduceIte, false_and, true_and]
      rw [h19]
      refine xe_bipush xt_g324 rfl (q := 171) rfl (by decide) (by decide) ?_
      refine xe_ic_le xt_g324 rfl (t := 182) rfl (q := 174) rfl (by first | omega | exact hw.1 _ | exact hw.2 _ _ | exact xb_r _) (by first | omega | exact hw.1 _ | exact hw.2 _ _ | exact xb_r _) (fun h171 => ?_) (fun h171 => ?_)
      · refine xe_ret xt_g324 rfl rfl ?_
        exact ⟨_, _, rfl, rfl, w, B, q, hC, hl⟩
      · exact absurd h171 (by omega)
    intro C s ar v4 w B q hC
    have h19 := hC.1
    have hl := hC.2.1
    by_cases h40 : 40 < C.length
    · unfold ck_c40
      rw [if_pos h40]
      refine xe_s (f := (166, _, _, _)) xt_g324 rfl rfl rfl rfl rfl ?_
      refine xe_mgs xt_g324 rfl (q := 169) rfl (xf_13_265 fm) (by decide) rfl (by omega) ?_
      try simp only [xo_u, xo_w, Nat.reduceEqDiff, reduceIte, false_and, true_and]
      rw [h19]
      refine xe_bipush xt_g324 rfl (q := 171) rfl (by decide) (by decide) ?_
      refine xe_ic_le xt_g324 rfl (t := 182) rfl (q := 174) rfl (by first | omega | exact hw.1 _ | exact hw.2 _ _ | exact xb_r _) (by first | omega | exact hw.1 _ | exact hw.2 _ _ | exact xb_r _) (fun h171 => ?_) (fun h171 => ?_)
      · exact absurd h171 (by omega)
      · refine xe_s (f := (175, _, _, _)) xt_g324 rfl rfl rfl rfl rfl ?_
        refine xe_s (f := (176, _, xi 0 :: _, _)) xt_g324 rfl rfl rfl rfl rfl ?_
        refine xe_chV xt_g324 rfl (q := 179) rfl xk_13_281 rfl (by omega) xt_g311 (by decide) ⟨Nat.le_of_ble_eq_true rfl, Nat.le_of_ble_eq_true rfl, Nat.le_of_ble_eq_true rfl⟩ (xU_drop fm hmn w B hC (i := 0) (by omega) (by omega)) (fun s2 ar2 hp2 => ?_)
        refine xe_s (f := (165, _, _, _)) xt_g324 rfl rfl rfl rfl rfl ?_
        obtain ⟨e, w2, B2, q2, C2, _⟩ := hp2
        exact done _ s2 ar2 v4 w2 B2 (xq_t q q2) C2 (by show (C.eraseIdx 0).length ≤ 40; rw [List.length_eraseIdx_of_lt (by omega)]; omega)
    · unfold ck_c40
      rw [if_neg h40]
      exact done C s ar v4 w B q hC (by omega)
  intro F
  have stop : ∀ (C : List ck_T) (s : Nat → Int) (ar : Nat → Nat → Int), ¬ (s 17 < (ck_cnt L D C : Int)) → xo_wf s ar → xo_B ar → xq [19] [20, 21, 22, 23, 24, 25, 26, 27, 28, 29, 30, 31] s0 ar0 s ar → ck_all s ar C → xe fm 324 (145, [(4, xi (if s 17 < (ck_cnt L D C : Int) then ck_old L D C 0 else -1)), (3, xi v3), (0, .ref m), (1, xi v1), (2, xi v2)], [], (xo m s ar h0, n, 0, 0)) (xQU m n h0 (xd_PU s0 ar0 (ck_c40 C))) := by
    intro C s ar hno w B q hC
    rw [if_neg hno]
    refine xe_s (f := (147, _, _, _)) xt_g324 rfl rfl rfl rfl rfl ?_
    refine xe_if_lt xt_g324 rfl (t := 165) rfl (q := 150) rfl (by first | omega | exact hw.1 _ | exact hw.2 _ _ | exact xb_r _) (fun h147 => ?_) (fun h147 => ?_)
    · try simp only [xb_0, xb_1, ne_eq, Decidable.not_not, decide_eq_true_eq, decide_eq_false_iff_not] at h147
      exact last C s ar _ w B q hC
    · exact absurd h147 (by omega)
  induction F with
  | zero =>
    intro C s ar hF w B q hC hD hL h17
    exact stop C s ar (by omega) w B q hC
  | succ F ih =>
    intro C s ar hF w B q hC hD hL h17
    by_cases hc : s 17 < (ck_cnt L D C : Int)
    · rw [if_pos hc]
      have hr := ck_old_r (L := L) (D := D) C 0 (by omega)
      have he := ck_cnt_e (L := L) (D := D) C 0 (by omega)
      rw [show (ck_old L D C 0 - ((0 : Nat) : Int)).toNat = (ck_old L D C 0).toNat by omega] at he
      have hcl := hC.2.1
      rw [ck_q, if_pos hc]
      refine xe_s (f := (147, _, _, _)) xt_g324 rfl rfl rfl rfl rfl ?_
      refine xe_if_lt xt_g324 rfl (t := 165) rfl (q := 150) rfl (by first | omega | exact hw.1 _ | exact hw.2 _ _ | exact xb_r _) (fun h147 => ?_) (fun h147 => ?_)
      · exact absurd h147 (by omega)
      · try simp only [xb_0, xb_1, ne_eq, Decidable.not_not, decide_eq_true_eq, decide_eq_false_iff_not] at h147
        refine xe_s (f := (151, _, _, _)) xt_g324 rfl rfl rfl rfl rfl ?_
        refine xe_s (f := (153, _, _, _)) xt_g324 rfl rfl rfl rfl rfl ?_
        refine xe_chV xt_g324 rfl (q := 156) rfl xk_13_281 rfl (by omega) xt_g311 (by decide) ⟨Nat.le_of_ble_eq_true rfl, Nat.le_of_ble_eq_true rfl, Nat.le_of_ble_eq_true rfl⟩ (xU_drop fm hmn w B hC (i := ck_old L D C 0) (by omega) (by omega)) (fun s2 ar2 hp2 => ?_)
        obtain ⟨e, w2, B2, q2, C2, k2⟩ := hp2
        have D2 : ck_dom ar2 41 D := by
          obtain ⟨d1, d2, d3⟩ := hD
          obtain ⟨b1, b2, b3, b4, b5, b6, b7, b8, b9, b10, b11, b12⟩ := k2
          exact ⟨b7.trans d1, d2, xh_mv d3 d2 b3⟩
        have L2 : sf_at s2 ar2 L := sf_at_q hL q2 (by decide) (by decide) (by decide)
        have e17 : s2 17 = s 17 := q2.1 17 (by decide)
        refine xe_s (f := (157, _, _, _)) xt_g324 rfl rfl rfl rfl rfl ?_
        refine xe_cvI xt_g324 rfl (q := 160) rfl xk_13_356 rfl (by omega) xt_g326 (by decide) ⟨Nat.le_of_ble_eq_true rfl, Nat.le_of_ble_eq_true rfl, Nat.le_of_ble_eq_true rfl⟩ (xv_oldestOfSite fm hmn w2 C2 D2 L2) ?_
        refine xe_s (f := (162, [(4, _), (3, _), (0, _), (1, _), (2, _)], _, _)) xt_g324 rfl rfl rfl rfl rfl ?_
        refine xe_s (f := (145, _, _, _)) xt_g324 rfl rfl rfl rfl rfl ?_
        have h := ih _ s2 ar2 (by omega) w2 B2 (xq_t q q2) C2 D2 L2 (by omega)
        rw [e17] at h ⊢
        exact xe_loc (by intro q hq; simp only [List.mem_cons, List.not_mem_nil, or_false] at hq; rcases hq with rfl | rfl | rfl | rfl | rfl <;> rfl) (h)
    · have h := stop C s ar hc w B q hC
      rw [show ck_q L D (s 17) (F + 1) C = C by rw [ck_q, if_neg hc]]
      exact h
theorem ck_set_at {s' : Nat → Int} {ar' : Nat → Nat → Int} {C : List ck_T} {f : ck_T} {k : Nat} (hC : ck_all s ar C) (hk : k < C.length) (hs : s' 19 = s 19) (hf : ck_at ar' k f) (ho : ∀ j, j ≠ k → ck_eq ar j ar' j) : ck_all s' ar' (C.set k f) := by
  refine ⟨by rw [hs, List.length_set]; exact hC.1, by rw [List.length_set]; exact hC.2.1, fun j hj => ?_⟩
  rw [List.length_set] at hj
  by_cases h : j = k
  · subst h
    rw [show (C.set j f).getD j ck_0 = f by simp [List.getD, hk]]
    exact hf
  · rw [show (C.set k f).getD j ck_0 = C.getD j ck_0 by simp only [List.getD, List.getElem?_set]; rw [if_neg (by omega)]]
    exact ck_at_eq (hC.2.2 j hj) (ho j h)
theorem ck_add_at {s' : Nat → Int} {ar' : Nat → Nat → Int} {C : List ck_T} {f : ck_T} (hC : ck_all s ar C) (hk : C.length ≤ 40) (hs : s' 19 = (C.length : Int) + 1) (hf : ck_at ar' C.length f) (ho : ∀ j, j ≠ C.length → ck_eq ar j ar' j) : ck_all s' ar' (C ++ [f]) := by
  refine ⟨by rw [hs, List.length_append]; simp, by rw [List.length_append]; simp; omega, fun j hj => ?_⟩
  rw [List.length_append, List.length_singleton] at hj
  by_cases h : j = C.length
  · subst h
    rw [show (C ++ [f]).getD C.length ck_0 = f by simp]
    exact hf
  · rw [show (C ++ [f]).getD j ck_0 = C.getD j ck_0 by simp [List.getD, List.getElem?_append_left (show j < C.length by omega)]]
    exact ck_at_eq (hC.2.2 j (by omega)) (ho j h)
theorem xU_putCookie (hmn : xo_in m n) (hw : xo_wf s ar) (hB : xo_B ar) {C : List ck_T} {f : ck_T} {L : List (List Int)} {b : Int} {a : pa_A} {net : Bool} {g : Option Int} (hC : ck_all s ar C) (hC40 : C.length ≤ 40) (hf : ck_at ar 41 f) (hL : sf_at s ar L) (hb : 0 ≤ b ∧ b < 98) (hs : pa_at ar b (pa_text a)) (hg : at_ra s g) (h17 : 0 ≤ s 17) (h18 : 0 ≤ s 18 ∧ s 18 ≤ 1000000000) :
    xU fm 324 m n h0 s ar [.ref m, xi b, xi (xb net)] (xd_PU s ar (ck_put L (s 17) (s 18) C (ck_so f (ck_ov (s 18) g)) net a.1)) := by
  show xe fm 324 (0, [(0, .ref m), (1, xi b), (2, xi (xb net))], [], (xo m s ar h0, n, 0, 0)) _
  generalize hR : ck_put L (s 17) (s 18) C (ck_so f (ck_ov (s 18) g)) net a.1 = R
  have hsafe : xd_safe ar b = a.1 := by
    have h := hs
    unfold pa_text pa_hd at h
    rw [List.append_assoc, List.append_assoc, List.append_assoc] at h
    exact pa_safe h hb.1
  have hfi := ck_fi_r (f := f) C 0
  have hfs := ck_fi_so (f := f) (v := ck_ov (s 18) g) C 0
  have h19 := hC.1
  obtain ⟨x1, x2, x3, x4, x5, x6, x7, x8⟩ := hf
  have b31 : ar 31 (41 : Int).toNat = xb f.2.2.2.2.2.2.2 := x8
  have b30 : ar 30 (41 : Int).toNat = xb f.2.2.2.2.2.2.1 := x7
  have old31 : 0 ≤ ck_fi C f 0 → ar 31 (ck_fi C f 0).toNat = xb (C.getD (ck_fi C f 0).toNat ck_0).2.2.2.2.2.2.2 := by
    intro h
    exact (hC.2.2 (ck_fi C f 0).toNat (by omega)).2.2.2.2.2.2.2
  have blk : ck_blk C (ck_so f (ck_ov (s 18) g)) net = (!net && (f.2.2.2.2.2.2.2 || (decide (0 ≤ ck_fi C f 0) && (C.getD (ck_fi C f 0).toNat ck_0).2.2.2.2.2.2.2))) := by
    unfold ck_blk
    rw [hfs]
    rfl
  have same : (ck_blk C (ck_so f (ck_ov (s 18) g)) net || (f.2.2.2.2.2.2.1 && !a.1)) = true → ∀ pc L2, pc = 32 ∨ pc = 51 → xe fm 324 (pc, L2, [], (xo m s ar h0, n, 0, 0)) (xQU m n h0 (xd_PU s ar R)) := by
    intro h pc L2 hpc
    have e : R = C := by
      rw [← hR]
      exact if_pos h
    rw [e]
    rcases hpc with rfl | rfl
    · refine xe_ret xt_g324 rfl rfl ?_
      exact ⟨_, _, rfl, rfl, hw, hB, xq_r, hC, hC40⟩
    · refine xe_ret xt_g324 rfl rfl ?_
      exact ⟨_, _, rfl, rfl, hw, hB, xq_r, hC, hC40⟩
  -- from the quota on
  have e139 : ∀ (C1 : List ck_T) (s1 : Nat → Int) (ar1 : Nat → Nat → Int), R = ck_c40 (ck_q L f.2.2.1 (s 17) 41 C1) → xo_wf s1 ar1 → xo_B ar1 → xq [19] [20, 21, 22, 23, 24, 25, 26, 27, 28, 29, 30, 31] s ar s1 ar1 → ck_all s1 ar1 C1 → ck_dom ar1 41 f.2.2.1 → xe fm 324 (139, [(3, xi (ck_fi C f 0)), (0, .ref m), (1, xi b), (2, xi (xb net))], [], (xo m s1 ar1 h0, n, 0, 0)) (xQU m n h0 (xd_PU s ar R)) := by
    intro C1 s1 ar1 hRC w1 B1 q1 hC1 hD1
    have hL1 : sf_at s1 ar1 L := sf_at_q hL q1 (by decide) (by decide) (by decide)
    have e17 : s1 17 = s 17 := q1.1 17 (by decide)
    have hcl := hC1.2.1
    have hcc := ck_cnt_le (L := L) (D := f.2.2.1) (C := C1)
    rw [hRC]
    refine xe_s (f := (140, _, _, _)) xt_g324 rfl rfl rfl rfl rfl ?_
    refine xe_cvI xt_g324 rfl (q := 143) rfl xk_13_356 rfl (by omega) xt_g326 (by decide) ⟨Nat.le_of_ble_eq_true rfl, Nat.le_of_ble_eq_true rfl, Nat.le_of_ble_eq_true rfl⟩ (xv_oldestOfSite fm hmn w1 hC1 hD1 hL1) ?_
    refine xe_s (f := (145, [(4, _), (3, _), (0, _), (1, _), (2, _)], _, _)) xt_g324 rfl rfl rfl rfl rfl ?_
    have h := xe_put2 fm hmn (h0 := h0) (s0 := s) (ar0 := ar) (L := L) (D := f.2.2.1) (v1 := b) (v2 := xb net) (v3 := ck_fi C f 0) 41 C1 s1 ar1 (by omega) w1 B1 q1 hC1 hD1 hL1 (by omega)
    rw [e17] at h ⊢
    exact xe_loc (by intro q hq; simp only [List.mem_cons, List.not_mem_nil, or_false] at hq; rcases hq with rfl | rfl | rfl | rfl | rfl <;> rfl) (h)
  -- from the end of its time on
  have e79 : (ck_blk C (ck_so f (ck_ov (s 18) g)) net || (f.2.2.2.2.2.2.1 && !a.1)) ≠ true → ∀ v : Int, v = ck_ov (s 18) g → xe fm 324 (78, [(3, xi (ck_fi C f 0)), (0, .ref m), (1, xi b), (2, xi (xb net))], [xi v, xi 41, .ref (m + 1 + 17)], (xo m s ar h0, n, 0, 0)) (xQU m n h0 (xd_PU s ar R)) := by
    intro hno v hv
    have hR0 : ck_put L (s 17) (s 18) C (ck_so f (ck_ov (s 18) g)) net a.1 = ck_c40 (ck_q L f.2.2.1 (s 17) 41 (ck_ins (s 18) C (ck_so f (ck_ov (s 18) g)))) := if_neg hno
    rw [hR0] at hR
    clear hR0
    have hvr : xr v := by
      rw [hv]
      cases g with
      | none =>
        show xr (-1)
        omega
      | some x =>
        have := hg.2.2
        show xr (s 18 + x)
        omega
    rw [← hv] at hR hfs
    have W : xo_wf s (xo_w ar 28 41 v) := xo_wf_w hw hvr
    have Bq : xo_B (xo_w ar 28 41 v) := xo_B_w hB (fun h => absurd h (by decide))
    have Q : xq [19] [20, 21, 22, 23, 24, 25, 26, 27, 28, 29, 30, 31] s ar s (xo_w ar 28 41 v) := xq_w xq_r (by decide)
    have Ka : ck_keep ar (xo_w ar 28 41 v) := ck_keep_b ck_keep_r (by omega)
    have hC' : ck_all s (xo_w ar 28 41 v) C := ck_all_k hC Ka rfl
    have hf' : ck_at (xo_w ar 28 41 v) 41 (ck_so f v) := ⟨x1, x2, x3, x4, xo_wS, x6, x7, x8⟩
    have hD' : ck_dom (xo_w ar 28 41 v) 41 f.2.2.1 := x3
    have hov : xd_over s (xo_w ar 28 41 v) 41 = ck_io (s 18) (ck_so f v) := by
      unfold xd_over ck_io
      rw [show (41 : Int).toNat = 41 from rfl, xo_wS]
      rfl
    unfold ck_ins at hR
    rw [hfs] at hR
    have cp : ∀ k : Nat, k ≤ 40 → xU fm 312 m n h0 s (xo_w ar 28 41 v) [.ref m, xi 41, xi k] (fun s' ar' => s' = s ∧ xo_wf s' ar' ∧ xo_B ar' ∧ xq [] [20, 21, 22, 23, 24, 25, 26, 27, 28, 29, 30, 31] s (xo_w ar 28 41 v) s' ar' ∧ ck_eq (xo_w ar 28 41 v) 41 ar' k ∧ ∀ j, j ≠ k → ck_eq (xo_w ar 28 41 v) j ar' j) := by
      intro k hk
      exact xU_copyCookie fm hmn W Bq (a := 41) (b := k) (by decide) (by omega) (by omega)
    have domk : ∀ (ar2 : Nat → Nat → Int), ck_eq (xo_w ar 28 41 v) 41 ar2 41 → ck_dom ar2 41 f.2.2.1 := by
      intro ar2 hk
      obtain ⟨d1, d2, d3⟩ := hD'
      obtain ⟨b1, b2, b3, b4, b5, b6, b7, b8, b9, b10, b11, b12⟩ := hk
      exact ⟨b7.trans d1, d2, xh_mv d3 d2 b3⟩
    have g19 : s 19 = (C.length : Int) := hC.1
    refine xe_mas (ok := xm_isN) (ty := .int) xt_g324 rfl (q := 79) rfl (fun _ _ => ⟨rfl, rfl, rfl, rfl⟩) rfl rfl rfl (by omega) (by omega) (by omega) (by omega) (by omega) rfl ?_
    refine xe_s (f := (80, _, _, _)) xt_g324 rfl rfl rfl rfl rfl ?_
    refine xe_bipush xt_g324 rfl (q := 82) rfl (by decide) (by decide) ?_
    refine xe_cvI xt_g324 rfl (q := 85) rfl xk_13_278 rfl (by omega) xt_g287 (by decide) ⟨Nat.le_of_ble_eq_true rfl, Nat.le_of_ble_eq_true rfl, Nat.le_of_ble_eq_true rfl⟩ (xv_isOver fm hmn W (by omega)) ?_
    rw [hov]
    refine xe_if_eq xt_g324 rfl (t := 100) rfl (q := 88) rfl (by first | omega | exact hw.1 _ | exact hw.2 _ _ | exact xb_r _) (fun h85 => ?_) (fun h85 => ?_)
    · try simp only [xb_0, xb_1, ne_eq, Decidable.not_not, decide_eq_true_eq, decide_eq_false_iff_not] at h85
      refine xe_s (f := (101, _, _, _)) xt_g324 rfl rfl rfl rfl rfl ?_
      refine xe_bipush xt_g324 rfl (q := 103) rfl (by decide) (by decide) ?_
      refine xe_s (f := (104, _, _, _)) xt_g324 rfl rfl rfl rfl rfl ?_
      refine xe_if_lt xt_g324 rfl (t := 111) rfl (q := 107) rfl (by first | omega | exact hw.1 _ | exact hw.2 _ _ | exact xb_r _) (fun h104 => ?_) (fun h104 => ?_)
      · try simp only [xb_0, xb_1, ne_eq, Decidable.not_not, decide_eq_true_eq, decide_eq_false_iff_not] at h104
        refine xe_s (f := (112, _, _, _)) xt_g324 rfl rfl rfl rfl rfl ?_
        refine xe_mgs xt_g324 rfl (q := 115) rfl (xf_13_265 fm) (by decide) rfl (by omega) ?_
        try simp only [xo_u, xo_w, Nat.reduceEqDiff, reduceIte, false_and, true_and]
        rw [if_neg (by rw [h85]; decide), if_neg (by omega)] at hR
        rw [g19]
        refine xe_chV xt_g324 rfl (q := 118) rfl xk_13_268 rfl (by omega) xt_g312 (by decide) ⟨Nat.le_of_ble_eq_true rfl, Nat.le_of_ble_eq_true rfl, Nat.le_of_ble_eq_true rfl⟩ (cp C.length (by omega)) (fun s2 ar2 hp2 => ?_)
        obtain ⟨e, w2, B2, q2, k2, k3⟩ := hp2
        subst e
        refine xe_s (f := (119, _, _, _)) xt_g324 rfl rfl rfl rfl rfl ?_
        refine xe_s (f := (120, _, _, _)) xt_g324 rfl rfl rfl rfl rfl ?_
        refine xe_if_lt xt_g324 rfl (t := 130) rfl (q := 123) rfl (by first | omega | exact hw.1 _ | exact hw.2 _ _ | exact xb_r _) (fun h120 => ?_) (fun h120 => ?_)
        · try simp only [xb_0, xb_1, ne_eq, Decidable.not_not, decide_eq_true_eq, decide_eq_false_iff_not] at h120
          refine xe_s (f := (131, _, _, _)) xt_g324 rfl rfl rfl rfl rfl ?_
          refine xe_mgs xt_g324 rfl (q := 134) rfl (xf_13_265 fm) (by decide) rfl (by omega) ?_
          try simp only [xo_u, xo_w, Nat.reduceEqDiff, reduceIte, false_and, true_and]
          rw [g19]
          refine xe_s (f := (135, _, xi 1 :: _, _)) xt_g324 rfl rfl rfl rfl rfl ?_
          refine xe_iadd xt_g324 rfl (q := 136) rfl ?_
          refine xe_mps xt_g324 rfl (q := 139) rfl (xf_13_265 fm) (by decide) rfl (by omega) (by omega) xi_int (Or.inl rfl) ?_
          refine e139 (C ++ [ck_so f v]) _ ar2 hR.symm (xo_wf_u w2 (by omega)) B2 (xq_u (xq_t Q (xq_mm q2 (by decide) (by decide))) (by decide)) (ck_add_at hC' hC40 xo_uS (ck_at_eq hf' k2) k3) (domk ar2 (k3 41 (by omega)))
        · exact absurd h120 (by omega)
      · try simp only [xb_0, xb_1, ne_eq, Decidable.not_not, decide_eq_true_eq, decide_eq_false_iff_not] at h104
        refine xe_s (f := (108, _, _, _)) xt_g324 rfl rfl rfl rfl rfl ?_
        refine xe_s (f := (115, _, _, _)) xt_g324 rfl rfl rfl rfl rfl ?_
        obtain ⟨k, hk⟩ := Int.eq_ofNat_of_zero_le (show 0 ≤ ck_fi C f 0 by omega)
        rw [if_neg (by rw [h85]; decide), if_pos (by omega)] at hR
        have hkl : k < C.length := by omega
        rw [hk] at e139 h104 hR ⊢
        rw [Int.toNat_natCast] at hR
        refine xe_chV xt_g324 rfl (q := 118) rfl xk_13_268 rfl (by omega) xt_g312 (by decide) ⟨Nat.le_of_ble_eq_true rfl, Nat.le_of_ble_eq_true rfl, Nat.le_of_ble_eq_true rfl⟩ (cp k (by omega)) (fun s2 ar2 hp2 => ?_)
        obtain ⟨e, w2, B2, q2, k2, k3⟩ := hp2
        subst e
        refine xe_s (f := (119, _, _, _)) xt_g324 rfl rfl rfl rfl rfl ?_
        refine xe_s (f := (120, _, _, _)) xt_g324 rfl rfl rfl rfl rfl ?_
        refine xe_if_lt xt_g324 rfl (t := 130) rfl (q := 123) rfl (by first | omega | exact hw.1 _ | exact hw.2 _ _ | exact xb_r _) (fun h120 => ?_) (fun h120 => ?_)
        · exact absurd h120 (by omega)
        · try simp only [xb_0, xb_1, ne_eq, Decidable.not_not, decide_eq_true_eq, decide_eq_false_iff_not] at h120
          refine xe_s (f := (124, _, _, _)) xt_g324 rfl rfl rfl rfl rfl ?_
          refine xe_mgs xt_g324 rfl (q := 127) rfl (xf_13_265 fm) (by decide) rfl (by omega) ?_
          try simp only [xo_u, xo_w, Nat.reduceEqDiff, reduceIte, false_and, true_and]
          refine xe_s (f := (136, _, _, _)) xt_g324 rfl rfl rfl rfl rfl ?_
          refine xe_mps xt_g324 rfl (q := 139) rfl (xf_13_265 fm) (by decide) rfl (by omega) (by omega) xi_int (Or.inl rfl) ?_
          refine e139 (C.set k (ck_so f v)) _ ar2 hR.symm (xo_wf_u w2 (w2.1 _)) B2 (xq_u (xq_t Q (xq_mm q2 (by decide) (by decide))) (by decide)) (ck_set_at hC' hkl xo_uS (ck_at_eq hf' k2) k3) (domk ar2 (k3 41 (by omega)))
    · try simp only [xb_0, xb_1, ne_eq, Decidable.not_not, decide_eq_true_eq, decide_eq_false_iff_not] at h85
      refine xe_s (f := (89, _, _, _)) xt_g324 rfl rfl rfl rfl rfl ?_
      refine xe_if_lt xt_g324 rfl (t := 139) rfl (q := 92) rfl (by first | omega | exact hw.1 _ | exact hw.2 _ _ | exact xb_r _) (fun h89 => ?_) (fun h89 => ?_)
      · try simp only [xb_0, xb_1, ne_eq, Decidable.not_not, decide_eq_true_eq, decide_eq_false_iff_not] at h89
        rw [if_pos (by simpa using h85), if_neg (by omega)] at hR
        exact e139 C s _ hR.symm W Bq Q hC' hD'
      · try simp only [xb_0, xb_1, ne_eq, Decidable.not_not, decide_eq_true_eq, decide_eq_false_iff_not] at h89
        refine xe_s (f := (93, _, _, _)) xt_g324 rfl rfl rfl rfl rfl ?_
        refine xe_s (f := (94, _, _, _)) xt_g324 rfl rfl rfl rfl rfl ?_
        refine xe_chV xt_g324 rfl (q := 97) rfl xk_13_281 rfl (by omega) xt_g311 (by decide) ⟨Nat.le_of_ble_eq_true rfl, Nat.le_of_ble_eq_true rfl, Nat.le_of_ble_eq_true rfl⟩ (xU_drop fm hmn W Bq hC' (i := ck_fi C f 0) (by omega) (by omega)) (fun s2 ar2 hp2 => ?_)
        refine xe_s (f := (139, _, _, _)) xt_g324 rfl rfl rfl rfl rfl ?_
        obtain ⟨e, w2, B2, q2, C2, k2⟩ := hp2
        rw [if_pos (by simpa using h85), if_pos (by omega)] at hR
        exact e139 _ s2 ar2 hR.symm w2 B2 (xq_t Q q2) C2 (domk ar2 k2)
  have e33 : ck_blk C (ck_so f (ck_ov (s 18) g)) net = false → xe fm 324 (33, [(3, xi (ck_fi C f 0)), (0, .ref m), (1, xi b), (2, xi (xb net))], [], (xo m s ar h0, n, 0, 0)) (xQU m n h0 (xd_PU s ar R)) := by
    intro hbl
    have fin : (f.2.2.2.2.2.2.1 && !a.1) = false → xe fm 324 (52, [(3, xi (ck_fi C f 0)), (0, .ref m), (1, xi b), (2, xi (xb net))], [], (xo m s ar h0, n, 0, 0)) (xQU m n h0 (xd_PU s ar R)) := by
      intro h2
      have hno : (ck_blk C (ck_so f (ck_ov (s 18) g)) net || (f.2.2.2.2.2.2.1 && !a.1)) ≠ true := by rw [hbl, h2]; decide
      have h37 := hw.1 37
      cases g with
      | none =>
        have h37 : s 37 = 0 := hg
        refine xe_s (f := (53, _, _, _)) xt_g324 rfl rfl rfl rfl rfl ?_
        refine xe_mga xt_g324 rfl (q := 56) rfl (xf_13_61 fm) (by decide) rfl (by omega) ?_
        try simp only [xo_u, xo_w, Nat.reduceEqDiff, reduceIte, false_and, true_and]
        refine xe_bipush xt_g324 rfl (q := 58) rfl (by decide) (by decide) ?_
        refine xe_s (f := (59, _, _, _)) xt_g324 rfl rfl rfl rfl rfl ?_
        refine xe_mgs xt_g324 rfl (q := 62) rfl (xf_13_313 fm) (by decide) rfl (by omega) ?_
        try simp only [xo_u, xo_w, Nat.reduceEqDiff, reduceIte, false_and, true_and]
        rw [h37]
        refine xe_if_eq xt_g324 rfl (t := 77) rfl (q := 65) rfl (by first | omega | exact hw.1 _ | exact hw.2 _ _ | exact xb_r _) (fun h62 => ?_) (fun h62 => ?_)
        · try simp only [xb_0, xb_1, ne_eq, Decidable.not_not, decide_eq_true_eq, decide_eq_false_iff_not] at h62
          refine xe_s (f := (78, _, xi (-1) :: _, _)) xt_g324 rfl rfl rfl rfl rfl ?_
          exact e79 hno _ rfl
        · exact absurd rfl h62
      | some x =>
        obtain ⟨h37, h36, _⟩ := hg
        refine xe_s (f := (53, _, _, _)) xt_g324 rfl rfl rfl rfl rfl ?_
        refine xe_mga xt_g324 rfl (q := 56) rfl (xf_13_61 fm) (by decide) rfl (by omega) ?_
        try simp only [xo_u, xo_w, Nat.reduceEqDiff, reduceIte, false_and, true_and]
        refine xe_bipush xt_g324 rfl (q := 58) rfl (by decide) (by decide) ?_
        refine xe_s (f := (59, _, _, _)) xt_g324 rfl rfl rfl rfl rfl ?_
        refine xe_mgs xt_g324 rfl (q := 62) rfl (xf_13_313 fm) (by decide) rfl (by omega) ?_
        try simp only [xo_u, xo_w, Nat.reduceEqDiff, reduceIte, false_and, true_and]
        rw [h37]
        refine xe_if_eq xt_g324 rfl (t := 77) rfl (q := 65) rfl (by first | omega | exact hw.1 _ | exact hw.2 _ _ | exact xb_r _) (fun h62 => ?_) (fun h62 => ?_)
        · exact absurd h62 (by omega)
        · try simp only [xb_0, xb_1, ne_eq, Decidable.not_not, decide_eq_true_eq, decide_eq_false_iff_not] at h62
          refine xe_s (f := (66, _, _, _)) xt_g324 rfl rfl rfl rfl rfl ?_
          refine xe_mgs xt_g324 rfl (q := 69) rfl (xf_13_260 fm) (by decide) rfl (by omega) ?_
          try simp only [xo_u, xo_w, Nat.reduceEqDiff, reduceIte, false_and, true_and]
          refine xe_s (f := (70, _, _, _)) xt_g324 rfl rfl rfl rfl rfl ?_
          refine xe_mgs xt_g324 rfl (q := 73) rfl (xf_13_340 fm) (by decide) rfl (by omega) ?_
          try simp only [xo_u, xo_w, Nat.reduceEqDiff, reduceIte, false_and, true_and]
          rw [h36]
          refine xe_iadd xt_g324 rfl (q := 74) rfl ?_
          refine xe_s (f := (78, _, _, _)) xt_g324 rfl rfl rfl rfl rfl ?_
          exact e79 hno _ rfl
    refine xe_s (f := (34, _, _, _)) xt_g324 rfl rfl rfl rfl rfl ?_
    refine xe_mga xt_g324 rfl (q := 37) rfl (xf_13_68 fm) (by decide) rfl (by omega) ?_
    try simp only [xo_u, xo_w, Nat.reduceEqDiff, reduceIte, false_and, true_and]
    refine xe_bipush xt_g324 rfl (q := 39) rfl (by decide) (by decide) ?_
    refine xe_mal (ok := xm_isB) (ty := .boolean) xt_g324 rfl (q := 40) rfl (fun _ _ => ⟨rfl, rfl, rfl, rfl⟩) rfl rfl rfl (by omega) (by omega) (by omega) (by omega) ?_
    try simp only [xo_u, xo_w, Nat.reduceEqDiff, reduceIte, false_and, true_and]
    rw [b30]
    refine xe_if_eq xt_g324 rfl (t := 52) rfl (q := 43) rfl (by first | omega | exact hw.1 _ | exact hw.2 _ _ | exact xb_r _) (fun h40 => ?_) (fun h40 => ?_)
    · try simp only [xb_0, xb_1, ne_eq, Decidable.not_not, decide_eq_true_eq, decide_eq_false_iff_not] at h40
      exact fin (by rw [h40]; rfl)
    · try simp only [xb_0, xb_1, ne_eq, Decidable.not_not, decide_eq_true_eq, decide_eq_false_iff_not] at h40
      refine xe_s (f := (44, _, _, _)) xt_g324 rfl rfl rfl rfl rfl ?_
      refine xe_s (f := (45, _, _, _)) xt_g324 rfl rfl rfl rfl rfl ?_
      refine xe_cvI xt_g324 rfl (q := 48) rfl xk_13_176 rfl (by omega) xt_g269 (by decide) ⟨Nat.le_of_ble_eq_true rfl, Nat.le_of_ble_eq_true rfl, Nat.le_of_ble_eq_true rfl⟩ (xv_isSafe fm hmn hw hb.1 hb.2) ?_
      rw [hsafe]
      refine xe_if_ne xt_g324 rfl (t := 52) rfl (q := 51) rfl (by first | omega | exact hw.1 _ | exact hw.2 _ _ | exact xb_r _) (fun h48 => ?_) (fun h48 => ?_)
      · try simp only [xb_0, xb_1, ne_eq, Decidable.not_not, decide_eq_true_eq, decide_eq_false_iff_not] at h48
        exact fin (by rw [show a.1 = true by simpa using h48]; simp)
      · try simp only [xb_0, xb_1, ne_eq, Decidable.not_not, decide_eq_true_eq, decide_eq_false_iff_not] at h48
        exact same (by rw [show f.2.2.2.2.2.2.1 = true by simpa using h40, h48]; simp) 51 _ (Or.inr rfl)
  have hx := xb_or net
  refine xe_s (f := (1, _, _, _)) xt_g324 rfl rfl rfl rfl rfl ?_
  refine xe_cvI xt_g324 rfl (q := 4) rfl xk_13_353 rfl (by omega) xt_g325 (by decide) ⟨Nat.le_of_ble_eq_true rfl, Nat.le_of_ble_eq_true rfl, Nat.le_of_ble_eq_true rfl⟩ (xv_alike fm hmn hw hC ⟨x1, x2, x3, x4, x5, x6, x7, x8⟩) ?_
  refine xe_s (f := (5, [(3, _), (0, _), (1, _), (2, _)], _, _)) xt_g324 rfl rfl rfl rfl rfl ?_
  refine xe_s (f := (6, _, _, _)) xt_g324 rfl rfl rfl rfl rfl ?_
  refine xe_if_ne xt_g324 rfl (t := 33) rfl (q := 9) rfl (by first | omega | exact hw.1 _ | exact hw.2 _ _ | exact xb_r _) (fun h6 => ?_) (fun h6 => ?_)
  · try simp only [xb_0, xb_1, ne_eq, Decidable.not_not, decide_eq_true_eq, decide_eq_false_iff_not] at h6
    exact e33 (by rw [blk, show net = true by simpa using h6]; rfl)
  · try simp only [xb_0, xb_1, ne_eq, Decidable.not_not, decide_eq_true_eq, decide_eq_false_iff_not] at h6
    refine xe_s (f := (10, _, _, _)) xt_g324 rfl rfl rfl rfl rfl ?_
    refine xe_mga xt_g324 rfl (q := 13) rfl (xf_13_71 fm) (by decide) rfl (by omega) ?_
    try simp only [xo_u, xo_w, Nat.reduceEqDiff, reduceIte, false_and, true_and]
    refine xe_bipush xt_g324 rfl (q := 15) rfl (by decide) (by decide) ?_
    refine xe_mal (ok := xm_isB) (ty := .boolean) xt_g324 rfl (q := 16) rfl (fun _ _ => ⟨rfl, rfl, rfl, rfl⟩) rfl rfl rfl (by omega) (by omega) (by omega) (by omega) ?_
    try simp only [xo_u, xo_w, Nat.reduceEqDiff, reduceIte, false_and, true_and]
    rw [b31]
    refine xe_if_ne xt_g324 rfl (t := 32) rfl (q := 19) rfl (by first | omega | exact hw.1 _ | exact hw.2 _ _ | exact xb_r _) (fun h16 => ?_) (fun h16 => ?_)
    · try simp only [xb_0, xb_1, ne_eq, Decidable.not_not, decide_eq_true_eq, decide_eq_false_iff_not] at h16
      exact same (by rw [blk, show f.2.2.2.2.2.2.2 = true by simpa using h16, h6]; simp) 32 _ (Or.inl rfl)
    · try simp only [xb_0, xb_1, ne_eq, Decidable.not_not, decide_eq_true_eq, decide_eq_false_iff_not] at h16
      refine xe_s (f := (20, _, _, _)) xt_g324 rfl rfl rfl rfl rfl ?_
      refine xe_if_lt xt_g324 rfl (t := 33) rfl (q := 23) rfl (by first | omega | exact hw.1 _ | exact hw.2 _ _ | exact xb_r _) (fun h20 => ?_) (fun h20 => ?_)
      · try simp only [xb_0, xb_1, ne_eq, Decidable.not_not, decide_eq_true_eq, decide_eq_false_iff_not] at h20
        exact e33 (by rw [blk, h16, decide_eq_false (by omega)]; simp)
      · try simp only [xb_0, xb_1, ne_eq, Decidable.not_not, decide_eq_true_eq, decide_eq_false_iff_not] at h20
        refine xe_s (f := (24, _, _, _)) xt_g324 rfl rfl rfl rfl rfl ?_
        refine xe_mga xt_g324 rfl (q := 27) rfl (xf_13_71 fm) (by decide) rfl (by omega) ?_
        try simp only [xo_u, xo_w, Nat.reduceEqDiff, reduceIte, false_and, true_and]
        refine xe_s (f := (28, _, _, _)) xt_g324 rfl rfl rfl rfl rfl ?_
        refine xe_mal (ok := xm_isB) (ty := .boolean) xt_g324 rfl (q := 29) rfl (fun _ _ => ⟨rfl, rfl, rfl, rfl⟩) rfl rfl rfl (by omega) (by omega) (by omega) (by omega) ?_
        try simp only [xo_u, xo_w, Nat.reduceEqDiff, reduceIte, false_and, true_and]
        rw [old31 (by omega)]
        refine xe_if_eq xt_g324 rfl (t := 33) rfl (q := 32) rfl (by first | omega | exact hw.1 _ | exact hw.2 _ _ | exact xb_r _) (fun h29 => ?_) (fun h29 => ?_)
        · try simp only [xb_0, xb_1, ne_eq, Decidable.not_not, decide_eq_true_eq, decide_eq_false_iff_not] at h29
          exact e33 (by rw [blk, h16, h29]; simp)
        · try simp only [xb_0, xb_1, ne_eq, Decidable.not_not, decide_eq_true_eq, decide_eq_false_iff_not] at h29
          exact same (by rw [blk, h6, decide_eq_true (show 0 ≤ ck_fi C f 0 by omega), show (C.getD (ck_fi C f 0).toNat ck_0).2.2.2.2.2.2.2 = true by simpa using h29]; simp) 32 _ (Or.inl rfl)
end XPU
