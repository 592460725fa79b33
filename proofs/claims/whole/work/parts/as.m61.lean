/-! the text of a number -/
def dgt : Nat → Nat → List Int
  | 0, _ => []
  | k + 1, m => if m < 10 then [48 + (m : Int)] else dgt k (m / 10) ++ [48 + ((m % 10 : Nat) : Int)]
def dg (m : Nat) : List Int := dgt (m + 1) m
theorem dgt_e : ∀ (k k' m : Nat), m < k → m < k' → dgt k m = dgt k' m
  | 0, _, m, h, _ => absurd h (Nat.not_lt_zero m)
  | _, 0, m, _, h => absurd h (Nat.not_lt_zero m)
  | k + 1, k' + 1, m, h, h' => by
    unfold dgt
    split
    · rfl
    · rw [dgt_e k k' (m / 10) (by omega) (by omega)]
theorem dg_lo {m : Nat} (h : m < 10) : dg m = [48 + (m : Int)] := by
  unfold dg dgt
  rw [if_pos h]
theorem dg_hi {m : Nat} (h : 10 ≤ m) : dg m = dg (m / 10) ++ [48 + ((m % 10 : Nat) : Int)] := by
  unfold dg
  rw [show dgt (m + 1) m = if m < 10 then [48 + (m : Int)] else dgt m (m / 10) ++ [48 + ((m % 10 : Nat) : Int)] from rfl, if_neg (by omega), dgt_e m (m / 10 + 1) (m / 10) (by omega) (by omega)]
theorem dg_two {m : Nat} (h : 100 ≤ m) : dg m = dg (m / 100) ++ [48 + ((m % 100 / 10 : Nat) : Int), 48 + ((m % 10 : Nat) : Int)] := by
  rw [dg_hi (by omega), dg_hi (m := m / 10) (by omega), List.append_assoc, show m / 10 / 10 = m / 100 by omega, show m / 10 % 10 = m % 100 / 10 by omega]
  rfl
theorem dg_pos {m : Nat} : 1 ≤ (dg m).length := by
  by_cases h : m < 10
  · rw [dg_lo h]
    simp
  · rw [dg_hi (by omega)]
    simp
theorem dg_le {m j : Nat} (h : m < 10 ^ (j + 1)) : (dg m).length ≤ j + 1 := by
  induction j generalizing m with
  | zero =>
    rw [dg_lo (by omega)]
    simp
  | succ j ih =>
    by_cases g : m < 10
    · rw [dg_lo g]
      simp
    · rw [dg_hi (by omega), List.length_append]
      have := ih (m := m / 10) (by rw [Nat.pow_succ] at h; omega)
      simp
      omega
theorem dg_ge {m j : Nat} (h : 10 ^ j ≤ m) : j + 1 ≤ (dg m).length := by
  induction j generalizing m with
  | zero => exact dg_pos
  | succ j ih =>
    have h10 : 10 ≤ m := by
      have : 10 ^ 1 ≤ 10 ^ (j + 1) := Nat.pow_le_pow_right (by omega) (by omega)
      omega
    rw [dg_hi h10, List.length_append]
    have := ih (m := m / 10) (by rw [Nat.pow_succ] at h; omega)
    simp
    omega
theorem asc_dg {m : Nat} : asc (dg m) := by
  induction m using Nat.strongRecOn with
  | ind m ih =>
    have one : ∀ z : Int, 0 ≤ z ∧ z < 128 → asc [z] := by
      intro z hz
      refine asc_get (fun i hi => ?_)
      rw [show i = 0 by simpa using hi]
      exact hz
    by_cases h : m < 10
    · rw [dg_lo h]
      exact one _ (by omega)
    · rw [dg_hi (by omega)]
      exact asc_app (ih _ (by omega)) (one _ (by omega))
def nm_P : Nat → List Int
  | 0 => []
  | j + 1 => (nm_P j).map (fun b => 10 * b) ++ [1]
theorem nm_P_pos : ∀ (j : Nat) (b : Int), b ∈ nm_P j → 1 ≤ b
  | 0, b, h => by cases h
  | j + 1, b, h => by
    rcases List.mem_append.mp h with h | h
    · obtain ⟨c, hc, rfl⟩ := List.mem_map.mp h
      have := nm_P_pos j c hc
      omega
    · rw [List.mem_singleton.mp h]
      omega
theorem nm_dg : ∀ (j m : Nat), m < 10 ^ j → 1 ≤ j → nm_dgs m (nm_P j) = dg m
  | 0, m, h, h1 => by omega
  | j + 1, m, h, _ => by
    unfold nm_dgs nm_P
    rw [List.filter_append, List.map_append]
    have tl : List.map (fun b : Int => 48 + (m : Int) / b % 10) (List.filter (fun b => decide (b ≤ (m : Int) ∨ b = 1)) [1]) = [48 + ((m % 10 : Nat) : Int)] := by
      simp
    rw [tl]
    by_cases g : m < 10
    · rw [dg_lo g]
      have : List.filter (fun b => decide (b ≤ (m : Int) ∨ b = 1)) (List.map (fun b => 10 * b) (nm_P j)) = [] := by
        refine List.filter_eq_nil_iff.mpr (fun b hb => ?_)
        obtain ⟨c, hc, rfl⟩ := List.mem_map.mp hb
        have := nm_P_pos j c hc
        simp
        omega
      rw [this, Nat.mod_eq_of_lt g]
      rfl
    · have hj : 1 ≤ j := by
        rcases Nat.eq_zero_or_pos j with e | e
        · subst e
          omega
        · exact e
      rw [dg_hi (by omega), ← nm_dg j (m / 10) (by rw [Nat.pow_succ] at h; omega) hj]
      unfold nm_dgs
      rw [List.filter_map, List.map_map]
      congr 1
      have e1 : List.filter ((fun b => decide (b ≤ (m : Int) ∨ b = 1)) ∘ fun b => 10 * b) (nm_P j) = List.filter (fun b => decide (b ≤ ((m / 10 : Nat) : Int) ∨ b = 1)) (nm_P j) := by
        refine List.filter_congr (fun b hb => ?_)
        have := nm_P_pos j b hb
        show decide (10 * b ≤ (m : Int) ∨ 10 * b = 1) = _
        refine decide_eq_decide.mpr ?_
        omega
      rw [e1]
      refine List.map_congr_left (fun b hb => ?_)
      have hb1 := nm_P_pos j b (List.mem_filter.mp hb).1
      show 48 + (m : Int) / (10 * b) % 10 = _
      rw [Int.natCast_ediv, ← Int.ediv_ediv_of_nonneg (by decide : (0 : Int) ≤ 10)]
      rfl
theorem nm_bs_P : nm_bs = nm_P 10 := by decide
theorem nm_txt_dg {v : Int} (hv : xr v) : nm_txt v = (if v < 0 then [45] else []) ++ dg v.natAbs := by
  unfold nm_txt
  have e : nm_abs v = (v.natAbs : Int) := by
    unfold nm_abs
    split <;> omega
  rw [e, nm_bs_P, nm_dg 10 _ (by omega) (by omega)]
theorem pa_dg_dg {v : Int} (h1 : 1 ≤ v) (h2 : v < 100000) : pa_dg v = dg v.toNat := by
  have e : pa_dg v = nm_dgs v (nm_P 5) := by
    unfold pa_dg pa_dgs nm_dgs
    rw [show nm_P 5 = [10000, 1000, 100, 10, 1] by decide]
    congr 1
    refine List.filter_congr (fun b hb => decide_eq_decide.mpr ?_)
    constructor
    · intro h; exact Or.inl h
    · rintro (h | h)
      · exact h
      · omega
  rw [e]
  have := nm_dg 5 v.toNat (by omega) (by omega)
  rwa [Int.toNat_of_nonneg (by omega)] at this
theorem xe_idivn {y pc q : Nat} {L : xm_L} {M : xm_M} {Q : xe_Q} {D : xt_D} {r : List Value} {fm : Value} {m : Nat} (hy : xt_md[y]? = some D) (hi : xt_lk D.2.2.2.2.2 pc = some (.idiv, 1)) (hq : pc + 1 = q) (hm : m ≤ 2147483648) (kk : xe fm y (q, L, xi (-((m / 100 : Nat) : Int)) :: r, M) Q) : xe fm y (pc, L, xi 100 :: xi (-(m : Int)) :: r, M) Q := by
  subst hq
  refine xe_s hy hi rfl rfl rfl (f := (pc + 1, L, xi (-((m / 100 : Nat) : Int)) :: r, M)) ?_ kk
  show (if Int32.ofInt 100 = 0 then none else some (pc + 1, L, Value.int (Int32.ofInt (-(m : Int)) / Int32.ofInt 100) :: r, M)) = _
  have e1 : Int32.minValue.toInt = -2147483648 := by decide
  have e2 : Int32.maxValue.toInt = 2147483647 := by decide
  rw [if_neg (by decide), ← Int32.ofInt_tdiv (by rw [e1]; omega) (by rw [e2]; omega) (by rw [e1]; omega) (by rw [e2]; omega), Int.neg_tdiv, Int.tdiv_eq_ediv_of_nonneg (by omega)]
  rfl
section XNS
variable {fm : Value} {h : xm_H} {n s b k : Nat} {l : List Int}
/-- stringSize -/
def nlen (v : Int) : Int := (if v < 0 then 1 else 0) + ((dg v.natAbs).length : Int)
theorem s44_loop {v : Int} {m : Nat} {d : Int} (hm : m ≤ 2147483648) (hd : d = 0 ∨ d = 1) : ∀ (k j P : Nat), P = 10 ^ j → 10 - j = k → 1 ≤ j → j ≤ 10 → (j = 1 ∨ 10 ^ (j - 1) ≤ m) →
    xe fm 44 (16, [(3, xi j), (2, xi (-(P : Int))), (0, xi (-(m : Int))), (1, xi d)], [], (h, n, 0, 0)) (fun r M => r = .inl (some (xi (d + (dg m).length))) ∧ M = (h, n, 0, 0)) := by
  intro k
  induction k with
  | zero =>
    intro j P hP hk h1 h2 hp
    have e : j = 10 := by omega
    subst e
    have g1 : 10 ≤ (dg m).length := dg_ge (j := 9) (by omega)
    have g2 : (dg m).length ≤ 10 := dg_le (j := 9) (by omega)
    refine xe_s (f := (17, _, _, _)) xt_g44 rfl rfl rfl rfl rfl ?_
    refine xe_bipush xt_g44 rfl (q := 19) rfl (by decide) (by decide) ?_
    refine xe_ic_ge xt_g44 rfl (t := 42) rfl (q := 22) rfl (by first | omega | exact xb_r _) (by first | omega | exact xb_r _) (fun b19 => ?_) (fun b19 => ?_)
    · try simp only [xb_0, xb_1, ne_eq, Decidable.not_not, decide_eq_true_eq, decide_eq_false_iff_not] at b19
      refine xe_bipush xt_g44 rfl (q := 44) rfl (by decide) (by decide) ?_
      refine xe_s (f := (45, _, _, _)) xt_g44 rfl rfl rfl rfl rfl ?_
      refine xe_iadd xt_g44 rfl (q := 46) rfl ?_
      refine xe_iret xt_g44 rfl rfl xi_int.1 ?_
      try dsimp only
      rw [show d + ((dg m).length : Int) = 10 + d by omega]
      exact ⟨rfl, rfl⟩
    · exact absurd b19 (by omega)
  | succ k ih =>
    intro j P hP hk h1 h2 hp
    have hj : j < 10 := by omega
    have pj : (10 : Nat) ^ j ≤ 10 ^ 9 := Nat.pow_le_pow_right (by omega) (by omega)
    rw [← hP] at pj
    have pj : P ≤ 1000000000 := pj
    refine xe_s (f := (17, _, _, _)) xt_g44 rfl rfl rfl rfl rfl ?_
    refine xe_bipush xt_g44 rfl (q := 19) rfl (by decide) (by decide) ?_
    refine xe_ic_ge xt_g44 rfl (t := 42) rfl (q := 22) rfl (by first | omega | exact xb_r _) (by first | omega | exact xb_r _) (fun b19 => ?_) (fun b19 => ?_)
    · exact absurd b19 (by omega)
    · try simp only [xb_0, xb_1, ne_eq, Decidable.not_not, decide_eq_true_eq, decide_eq_false_iff_not] at b19
      refine xe_s (f := (23, _, _, _)) xt_g44 rfl rfl rfl rfl rfl ?_
      refine xe_s (f := (24, _, _, _)) xt_g44 rfl rfl rfl rfl rfl ?_
      refine xe_ic_le xt_g44 rfl (t := 31) rfl (q := 27) rfl (by first | omega | exact xb_r _) (by first | omega | exact xb_r _) (fun b24 => ?_) (fun b24 => ?_)
      · try simp only [xb_0, xb_1, ne_eq, Decidable.not_not, decide_eq_true_eq, decide_eq_false_iff_not] at b24
        refine xe_bipush xt_g44 rfl (q := 33) rfl (by decide) (by decide) ?_
        refine xe_s (f := (34, _, _, _)) xt_g44 rfl rfl rfl rfl rfl ?_
        refine xe_imul xt_g44 rfl (q := 35) rfl ?_
        refine xe_s (f := (36, [(2, _), (3, _), (0, _), (1, _)], _, _)) xt_g44 rfl rfl rfl rfl rfl ?_
        refine xe_iinc xt_g44 rfl (q := 39) rfl rfl (by decide) (L1 := [(3, _), (2, _), (0, _), (1, _)]) rfl ?_
        refine xe_s (f := (16, _, _, _)) xt_g44 rfl rfl rfl rfl rfl ?_
        have g := ih (j + 1) (10 * P) (by rw [Nat.pow_succ, hP, Nat.mul_comm]) (by omega) (by omega) (by omega) (Or.inr (by rw [show j + 1 - 1 = j by omega, ← hP]; omega))
        rw [show (-((10 * P : Nat) : Int)) = 10 * (-(P : Int)) by omega] at g
        exact xe_loc (by intro q hq; simp only [List.mem_cons, List.not_mem_nil, or_false] at hq; rcases hq with rfl | rfl | rfl | rfl <;> rfl) (g)
      · try simp only [xb_0, xb_1, ne_eq, Decidable.not_not, decide_eq_true_eq, decide_eq_false_iff_not] at b24
        refine xe_s (f := (28, _, _, _)) xt_g44 rfl rfl rfl rfl rfl ?_
        refine xe_s (f := (29, _, _, _)) xt_g44 rfl rfl rfl rfl rfl ?_
        refine xe_iadd xt_g44 rfl (q := 30) rfl ?_
        refine xe_iret xt_g44 rfl rfl xi_int.1 ?_
        try dsimp only
        have g1 : j ≤ (dg m).length := by
          rcases hp with e | e
          · rw [e]; exact dg_pos
          · have := dg_ge e
            omega
        have g2 : (dg m).length ≤ j := by
          have := dg_le (m := m) (j := j - 1) (by rw [show j - 1 + 1 = j by omega, ← hP]; omega)
          omega
        rw [show d + ((dg m).length : Int) = (j : Int) + d by omega]
        exact ⟨rfl, rfl⟩
theorem s44 {v : Int} (hv : xr v) : xR fm 44 h n [xi v] (some (xi (nlen v))) := by
  unfold xR nlen
  refine xe_s (f := (1, _, xi 1 :: _, _)) xt_g44 rfl rfl rfl rfl rfl ?_
  refine xe_s (f := (2, [(1, _), (0, _)], _, _)) xt_g44 rfl rfl rfl rfl rfl ?_
  refine xe_s (f := (3, _, _, _)) xt_g44 rfl rfl rfl rfl rfl ?_
  refine xe_if_lt xt_g44 rfl (t := 11) rfl (q := 6) rfl (by first | omega | exact xb_r _) (fun b3 => ?_) (fun b3 => ?_)
  · try simp only [xb_0, xb_1, ne_eq, Decidable.not_not, decide_eq_true_eq, decide_eq_false_iff_not] at b3
    refine xe_bipush xt_g44 rfl (q := 13) rfl (by decide) (by decide) ?_
    refine xe_s (f := (14, [(2, _), (1, _), (0, _)], _, _)) xt_g44 rfl rfl rfl rfl rfl ?_
    refine xe_s (f := (15, _, xi 1 :: _, _)) xt_g44 rfl rfl rfl rfl rfl ?_
    refine xe_s (f := (16, [(3, _), (2, _), (1, _), (0, _)], _, _)) xt_g44 rfl rfl rfl rfl rfl ?_
    have g := s44_loop (fm := fm) (h := h) (n := n) (v := v) (m := v.natAbs) (d := 1) (by omega) (Or.inr rfl) 9 1 10 rfl rfl (by omega) (by omega) (Or.inl rfl)
    rw [show -((v.natAbs : Nat) : Int) = v by omega] at g
    rw [if_pos b3]
    exact xe_loc (by intro q hq; simp only [List.mem_cons, List.not_mem_nil, or_false] at hq; rcases hq with rfl | rfl | rfl | rfl <;> rfl) (g)
  · try simp only [xb_0, xb_1, ne_eq, Decidable.not_not, decide_eq_true_eq, decide_eq_false_iff_not] at b3
    refine xe_s (f := (7, _, xi 0 :: _, _)) xt_g44 rfl rfl rfl rfl rfl ?_
    refine xe_s (f := (8, [(1, _), (0, _)], _, _)) xt_g44 rfl rfl rfl rfl rfl ?_
    refine xe_s (f := (9, _, _, _)) xt_g44 rfl rfl rfl rfl rfl ?_
    refine xe_ineg xt_g44 rfl (q := 10) rfl ?_
    refine xe_s (f := (11, [(0, _), (1, _)], _, _)) xt_g44 rfl rfl rfl rfl rfl ?_
    refine xe_bipush xt_g44 rfl (q := 13) rfl (by decide) (by decide) ?_
    refine xe_s (f := (14, [(2, _), (0, _), (1, _)], _, _)) xt_g44 rfl rfl rfl rfl rfl ?_
    refine xe_s (f := (15, _, xi 1 :: _, _)) xt_g44 rfl rfl rfl rfl rfl ?_
    refine xe_s (f := (16, [(3, _), (2, _), (0, _), (1, _)], _, _)) xt_g44 rfl rfl rfl rfl rfl ?_
    have g := s44_loop (fm := fm) (h := h) (n := n) (v := v) (m := v.natAbs) (d := 0) (by omega) (Or.inl rfl) 9 1 10 rfl rfl (by omega) (by omega) (Or.inl rfl)
    rw [show -((v.natAbs : Nat) : Int) = -v by omega] at g
    rw [if_neg b3]
    exact xe_loc (by intro q hq; simp only [List.mem_cons, List.not_mem_nil, or_false] at hq; rcases hq with rfl | rfl | rfl | rfl <;> rfl) (g)
end XNS
