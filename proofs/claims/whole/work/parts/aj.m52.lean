/-! the reference: long ints once more; makeNumber, type -/
def by_sh (w : Int64) (k : Int) : Int64 := (w.toUInt64 >>> ((Int32.ofInt k).toInt64.toUInt64 &&& Int64.toUInt64 63)).toInt64
def xd_by (w : Int64) (k : Int) : Int := ((by_sh w k).toInt32 &&& Int32.ofInt 255).toInt
theorem xd_by_r (w : Int64) (k : Int) : 0 ≤ xd_by w k ∧ xd_by w k ≤ 255 := by
  unfold xd_by
  generalize (by_sh w k).toInt32 = x
  have h1 : (x &&& Int32.ofInt 255).toBitVec.toNat ≤ 255 := by
    rw [Int32.toBitVec_and, BitVec.toNat_and]
    exact Nat.le_trans Nat.and_le_right (by decide)
  have h2 : (x &&& Int32.ofInt 255).toInt = ((x &&& Int32.ofInt 255).toBitVec.toNat : Int) := by
    show (x &&& Int32.ofInt 255).toBitVec.toInt = _
    exact BitVec.toInt_eq_toNat_of_lt (by omega)
  omega
section XLG
variable {fm : Value} {y pc q : Nat} {L : xm_L} {M : xm_M} {Q : xe_Q} {D : xt_D} {r : List Value} {a b : Int} {w : Int64} {k : Int}
theorem xe_lushr (hy : xt_md[y]? = some D) (hi : xt_lk D.2.2.2.2.2 pc = some (.lushr, 1)) (hq : pc + 1 = q) (kk : xe fm y (q, L, .long (by_sh w k) :: r, M) Q) : xe fm y (pc, L, xi k :: .long w :: r, M) Q := by
  subst hq
  exact xe_s hy hi rfl rfl rfl (f := (pc + 1, L, .long (by_sh w k) :: r, M)) rfl kk
theorem xe_l2r (hy : xt_md[y]? = some D) (hi : xt_lk D.2.2.2.2.2 pc = some (.l2i, 1)) (hq : pc + 1 = q) (kk : xe fm y (q, L, .int w.toInt32 :: r, M) Q) : xe fm y (pc, L, .long w :: r, M) Q := by
  subst hq
  exact xe_s hy hi rfl rfl rfl (f := (pc + 1, L, .int w.toInt32 :: r, M)) rfl kk
theorem xe_by (hy : xt_md[y]? = some D) (hi : xt_lk D.2.2.2.2.2 pc = some (.iand, 1)) (hq : pc + 1 = q) (kk : xe fm y (q, L, xi (xd_by w k) :: r, M) Q) : xe fm y (pc, L, xi 255 :: .int (by_sh w k).toInt32 :: r, M) Q := by
  subst hq
  refine xe_s hy hi rfl rfl rfl (f := (pc + 1, L, xi (xd_by w k) :: r, M)) ?_ kk
  show some (pc + 1, L, Value.int ((by_sh w k).toInt32 &&& Int32.ofInt 255) :: r, M) = _
  unfold xi xd_by
  rw [Int32.ofInt_toInt]
theorem xe_lneg (hy : xt_md[y]? = some D) (hi : xt_lk D.2.2.2.2.2 pc = some (.lneg, 1)) (hq : pc + 1 = q) (kk : xe fm y (q, L, xl (-a) :: r, M) Q) : xe fm y (pc, L, xl a :: r, M) Q := by
  subst hq
  refine xe_s hy hi rfl rfl rfl (f := (pc + 1, L, xl (-a) :: r, M)) ?_ kk
  show some (pc + 1, L, Value.long (-Int64.ofInt a) :: r, M) = _
  rw [← Int64.ofInt_neg]
theorem xl_div {a b : Int} (ha : 0 ≤ a ∧ a < 9223372036854775808) (hb : 0 < b ∧ b < 9223372036854775808) : Int64.ofInt a / Int64.ofInt b = Int64.ofInt (a / b) := by
  have e1 : Int64.minValue.toInt = -9223372036854775808 := by decide
  have e2 : Int64.maxValue.toInt = 9223372036854775807 := by decide
  rw [← Int64.ofInt_tdiv (by rw [e1]; omega) (by rw [e2]; omega) (by rw [e1]; omega) (by rw [e2]; omega), Int.tdiv_eq_ediv_of_nonneg ha.1]
theorem xl_n0 {b : Int} (hb : 0 < b ∧ b < 9223372036854775808) : Int64.ofInt b ≠ 0 := by
  intro e
  have : (Int64.ofInt b).toInt = (0 : Int64).toInt := by rw [e]
  rw [xl_toInt ⟨by omega, by omega⟩] at this
  have h0 : (0 : Int64).toInt = 0 := by decide
  omega
theorem xe_ldiv (hy : xt_md[y]? = some D) (hi : xt_lk D.2.2.2.2.2 pc = some (.ldiv, 1)) (hq : pc + 1 = q) (ha : 0 ≤ a ∧ a < 9223372036854775808) (hb : 0 < b ∧ b < 9223372036854775808) (kk : xe fm y (q, L, xl (a / b) :: r, M) Q) : xe fm y (pc, L, xl b :: xl a :: r, M) Q := by
  subst hq
  refine xe_s hy hi rfl rfl rfl (f := (pc + 1, L, xl (a / b) :: r, M)) ?_ kk
  show (if Int64.ofInt b = 0 then none else some (pc + 1, L, Value.long (Int64.ofInt a / Int64.ofInt b) :: r, M)) = _
  rw [if_neg (xl_n0 hb), xl_div ha hb]
theorem xe_lrem (hy : xt_md[y]? = some D) (hi : xt_lk D.2.2.2.2.2 pc = some (.lrem, 1)) (hq : pc + 1 = q) (ha : 0 ≤ a ∧ a < 9223372036854775808) (hb : 0 < b ∧ b < 9223372036854775808) (kk : xe fm y (q, L, xl (a % b) :: r, M) Q) : xe fm y (pc, L, xl b :: xl a :: r, M) Q := by
  subst hq
  refine xe_s hy hi rfl rfl rfl (f := (pc + 1, L, xl (a % b) :: r, M)) ?_ kk
  show (if Int64.ofInt b = 0 then none else some (pc + 1, L, Value.long (Int64.ofInt a - Int64.ofInt a / Int64.ofInt b * Int64.ofInt b) :: r, M)) = _
  rw [if_neg (xl_n0 hb), xl_div ha hb, ← Int64.ofInt_mul, ← Int64.ofInt_sub, show a - a / b * b = a % b by rw [Int.emod_def, Int.mul_comm b]]
theorem xe_l2i (hy : xt_md[y]? = some D) (hi : xt_lk D.2.2.2.2.2 pc = some (.l2i, 1)) (hq : pc + 1 = q) (ha : xr a) (kk : xe fm y (q, L, xi a :: r, M) Q) : xe fm y (pc, L, xl a :: r, M) Q := by
  subst hq
  refine xe_s hy hi rfl rfl rfl (f := (pc + 1, L, xi a :: r, M)) ?_ kk
  show some (pc + 1, L, Value.int (Int64.ofInt a).toInt32 :: r, M) = _
  have : (Int64.ofInt a).toInt32 = Int32.ofInt a := by
    apply Int32.toInt_inj.mp
    rw [xi_toInt ha, Int64.toInt_toInt32, xl_toInt ⟨by omega, by omega⟩]
    exact Int.bmod_eq_of_le (by omega) (by omega)
  rw [this]
end XLG
def nm_dgs (w : Int) (bs : List Int) : List Int := (bs.filter (fun b => decide (b ≤ w ∨ b = 1))).map (fun b => 48 + w / b % 10)
def nm_abs (v : Int) : Int := if v < 0 then -v else v
def nm_bs : List Int := [1000000000, 100000000, 10000000, 1000000, 100000, 10000, 1000, 100, 10, 1]
def nm_txt (v : Int) : List Int := (if v < 0 then [45] else []) ++ nm_dgs (nm_abs v) nm_bs
section XNM
variable (fm : Value) {m n : Nat} {h0 : xm_H} {s : Nat → Int} {ar : Nat → Nat → Int} {u : mu_T}
theorem xe_num0 (hmn : xo_in m n) (hw : xo_wf s ar) {M : List Int} {v w : Int} (h62 : s 62 = M.length) (hM : xh (ar 61) 0 M) : xe fm 339 (28, [(4, xl 0), (2, xl w), (0, .ref m), (1, xi v)], [], (xo m s ar h0, n, 0, 0)) (xQU m n h0 (xd_PM s ar (M ++ nm_dgs w []))) := by
  have hc : xr (xd_cmp 0 0) := xd_cmp_r 0 0
  refine xe_s (f := (30, _, _, _)) xt_g339 rfl rfl rfl rfl rfl ?_
  refine xe_s (f := (31, _, xl 0 :: _, _)) xt_g339 rfl rfl rfl rfl rfl ?_
  refine xe_lcmp xt_g339 rfl (q := 32) rfl (by omega) (by omega) ?_
  refine xe_if_le xt_g339 rfl (t := 77) rfl (q := 35) rfl (by first | omega | exact hw.1 _ | exact hw.2 _ _ | exact xb_r _) (fun h32 => ?_) (fun h32 => ?_)
  · try simp only [xb_0, xb_1, ne_eq, Decidable.not_not, decide_eq_true_eq, decide_eq_false_iff_not] at h32
    refine xe_ret xt_g339 rfl rfl ?_
    exact ⟨_, _, rfl, rfl, hw, xq_r, by simp [nm_dgs, h62], by simpa [nm_dgs] using hM⟩
  · exact absurd (show xd_cmp 0 0 ≤ 0 by decide) h32
theorem xd_cmp_le {a b : Int} : xd_cmp a b ≤ 0 ↔ a ≤ b := by
  unfold xd_cmp
  split
  · simp; omega
  · split <;> simp <;> omega
theorem xd_cmp_ge {a b : Int} : 0 ≤ xd_cmp a b ↔ b ≤ a := by
  unfold xd_cmp
  split
  · simp; omega
  · split <;> simp <;> omega
theorem xe_num1 (hmn : xo_in m n) {v w b : Int} {bs : List Int} (hw0 : 0 ≤ w) (hw1 : w ≤ 2147483648) (b1 : 0 < b) (b2 : b ≤ 1000000000)
    (ih : ∀ (M : List Int) (s : Nat → Int) (ar : Nat → Nat → Int), xo_wf s ar → s 62 = M.length → xh (ar 61) 0 M → M.length + bs.length ≤ 1399 → xe fm 339 (28, [(4, xl (b / 10)), (2, xl w), (0, .ref m), (1, xi v)], [], (xo m s ar h0, n, 0, 0)) (xQU m n h0 (xd_PM s ar (M ++ nm_dgs w bs))))
    (M : List Int) (s : Nat → Int) (ar : Nat → Nat → Int) (hw : xo_wf s ar) (h62 : s 62 = M.length) (hM : xh (ar 61) 0 M) (hl : M.length + (b :: bs).length ≤ 1399) : xe fm 339 (28, [(4, xl b), (2, xl w), (0, .ref m), (1, xi v)], [], (xo m s ar h0, n, 0, 0)) (xQU m n h0 (xd_PM s ar (M ++ nm_dgs w (b :: bs)))) := by
  rw [List.length_cons] at hl
  have c1 := xd_cmp_r b 0
  have c2 := xd_cmp_r w b
  have c3 := xd_cmp_r b 1
  have d1 : 0 ≤ w / b := Int.ediv_nonneg hw0 (by omega)
  have d2 : w / b ≤ w := Int.ediv_le_self b hw0
  have d3 : 0 ≤ w / b % 10 ∧ w / b % 10 < 10 := ⟨Int.emod_nonneg _ (by decide), Int.emod_lt_of_pos _ (by decide)⟩
  have put : (b ≤ w ∨ b = 1) → xe fm 339 (49, [(4, xl b), (2, xl w), (0, .ref m), (1, xi v)], [], (xo m s ar h0, n, 0, 0)) (xQU m n h0 (xd_PM s ar (M ++ nm_dgs w (b :: bs)))) := by
    intro hy
    have e : M ++ nm_dgs w (b :: bs) = (M ++ [48 + w / b % 10]) ++ nm_dgs w bs := by
      unfold nm_dgs
      rw [List.filter_cons_of_pos (by simpa using hy)]
      simp
    rw [e]
    refine xe_s (f := (50, _, _, _)) xt_g339 rfl rfl rfl rfl rfl ?_
    refine xe_ldcl (z := 48) xt_g339 rfl (q := 53) rfl rfl (by decide) ?_
    refine xe_s (f := (54, _, _, _)) xt_g339 rfl rfl rfl rfl rfl ?_
    refine xe_s (f := (56, _, _, _)) xt_g339 rfl rfl rfl rfl rfl ?_
    refine xe_ldiv xt_g339 rfl (q := 57) rfl (by omega) (by omega) ?_
    refine xe_ldcl (z := 10) xt_g339 rfl (q := 60) rfl rfl (by decide) ?_
    refine xe_lrem xt_g339 rfl (q := 61) rfl (by omega) (by omega) ?_
    refine xe_ladd xt_g339 rfl (q := 62) rfl ?_
    refine xe_l2i xt_g339 rfl (q := 63) rfl (by omega) ?_
    refine xe_chV xt_g339 rfl (q := 66) rfl xk_13_370 rfl (by omega) xt_g284 (by decide) ⟨Nat.le_of_ble_eq_true rfl, Nat.le_of_ble_eq_true rfl, Nat.le_of_ble_eq_true rfl⟩ (xU_make fm hmn hw (x := 48 + w / b % 10) (by omega) h62 hM (by omega)) (fun s2 ar2 hp2 => ?_)
    refine xe_s (f := (68, _, _, _)) xt_g339 rfl rfl rfl rfl rfl ?_
    refine xe_ldcl (z := 10) xt_g339 rfl (q := 71) rfl rfl (by decide) ?_
    refine xe_ldiv xt_g339 rfl (q := 72) rfl (by omega) (by omega) ?_
    refine xe_s (f := (74, [(4, _), (2, _), (0, _), (1, _)], _, _)) xt_g339 rfl rfl rfl rfl rfl ?_
    refine xe_s (f := (28, _, _, _)) xt_g339 rfl rfl rfl rfl rfl ?_
    obtain ⟨w2, q2, p62, pM⟩ := hp2
    have h := ih _ s2 ar2 w2 p62 pM (by rw [List.length_append]; simp; omega)
    refine xe_mono (xe_loc (by intro q hq; simp only [List.mem_cons, List.not_mem_nil, or_false] at hq; rcases hq with rfl | rfl | rfl | rfl <;> rfl) h) ?_
    rintro r M2 ⟨s3, ar3, g1, g2, w3, q3, g3, g4⟩
    exact ⟨s3, ar3, g1, g2, w3, xq_t q2 q3, g3, g4⟩
  refine xe_s (f := (30, _, _, _)) xt_g339 rfl rfl rfl rfl rfl ?_
  refine xe_s (f := (31, _, xl 0 :: _, _)) xt_g339 rfl rfl rfl rfl rfl ?_
  refine xe_lcmp xt_g339 rfl (q := 32) rfl (by omega) (by omega) ?_
  refine xe_if_le xt_g339 rfl (t := 77) rfl (q := 35) rfl (by first | omega | exact hw.1 _ | exact hw.2 _ _ | exact xb_r _) (fun h32 => ?_) (fun h32 => ?_)
  · exact absurd (xd_cmp_le.mp h32) (by omega)
  · try simp only [xb_0, xb_1, ne_eq, Decidable.not_not, decide_eq_true_eq, decide_eq_false_iff_not] at h32
    refine xe_s (f := (36, _, _, _)) xt_g339 rfl rfl rfl rfl rfl ?_
    refine xe_s (f := (38, _, _, _)) xt_g339 rfl rfl rfl rfl rfl ?_
    refine xe_lcmp xt_g339 rfl (q := 39) rfl (by omega) (by omega) ?_
    refine xe_if_ge xt_g339 rfl (t := 49) rfl (q := 42) rfl (by first | omega | exact hw.1 _ | exact hw.2 _ _ | exact xb_r _) (fun h39 => ?_) (fun h39 => ?_)
    · try simp only [xb_0, xb_1, ne_eq, Decidable.not_not, decide_eq_true_eq, decide_eq_false_iff_not] at h39
      exact put (Or.inl (xd_cmp_ge.mp h39))
    · try simp only [xb_0, xb_1, ne_eq, Decidable.not_not, decide_eq_true_eq, decide_eq_false_iff_not] at h39
      refine xe_s (f := (44, _, _, _)) xt_g339 rfl rfl rfl rfl rfl ?_
      refine xe_s (f := (45, _, xl 1 :: _, _)) xt_g339 rfl rfl rfl rfl rfl ?_
      refine xe_lcmp xt_g339 rfl (q := 46) rfl (by omega) (by omega) ?_
      refine xe_if_ne xt_g339 rfl (t := 66) rfl (q := 49) rfl (by first | omega | exact hw.1 _ | exact hw.2 _ _ | exact xb_r _) (fun h46 => ?_) (fun h46 => ?_)
      · try simp only [xb_0, xb_1, ne_eq, Decidable.not_not, decide_eq_true_eq, decide_eq_false_iff_not] at h46
        refine xe_s (f := (68, _, _, _)) xt_g339 rfl rfl rfl rfl rfl ?_
        refine xe_ldcl (z := 10) xt_g339 rfl (q := 71) rfl rfl (by decide) ?_
        refine xe_ldiv xt_g339 rfl (q := 72) rfl (by omega) (by omega) ?_
        refine xe_s (f := (74, [(4, _), (2, _), (0, _), (1, _)], _, _)) xt_g339 rfl rfl rfl rfl rfl ?_
        refine xe_s (f := (28, _, _, _)) xt_g339 rfl rfl rfl rfl rfl ?_
        have hb1 : ¬ b = 1 := fun e => h46 (xd_cmp_0.mpr e)
        have hbw : ¬ b ≤ w := fun e => h39 (xd_cmp_ge.mpr e)
        have e : nm_dgs w (b :: bs) = nm_dgs w bs := by
          unfold nm_dgs
          rw [List.filter_cons_of_neg (by simp; omega)]
        rw [e]
        have h := ih M s ar hw h62 hM (by omega)
        exact xe_loc (by intro q hq; simp only [List.mem_cons, List.not_mem_nil, or_false] at hq; rcases hq with rfl | rfl | rfl | rfl <;> rfl) (h)
      · try simp only [xb_0, xb_1, ne_eq, Decidable.not_not, decide_eq_true_eq, decide_eq_false_iff_not] at h46
        exact put (Or.inr (xd_cmp_0.mp h46))
theorem xe_num10 (hmn : xo_in m n) {v w : Int} (hw0 : 0 ≤ w) (hw1 : w ≤ 2147483648) (M : List Int) (s : Nat → Int) (ar : Nat → Nat → Int) (hw : xo_wf s ar) (h62 : s 62 = M.length) (hM : xh (ar 61) 0 M) (hl : M.length + 10 ≤ 1399) : xe fm 339 (28, [(4, xl 1000000000), (2, xl w), (0, .ref m), (1, xi v)], [], (xo m s ar h0, n, 0, 0)) (xQU m n h0 (xd_PM s ar (M ++ nm_dgs w [1000000000, 100000000, 10000000, 1000000, 100000, 10000, 1000, 100, 10, 1]))) :=
  xe_num1 fm hmn hw0 hw1 (by decide) (by decide) (xe_num1 fm hmn hw0 hw1 (by decide) (by decide) (xe_num1 fm hmn hw0 hw1 (by decide) (by decide) (xe_num1 fm hmn hw0 hw1 (by decide) (by decide) (xe_num1 fm hmn hw0 hw1 (by decide) (by decide) (xe_num1 fm hmn hw0 hw1 (by decide) (by decide) (xe_num1 fm hmn hw0 hw1 (by decide) (by decide) (xe_num1 fm hmn hw0 hw1 (by decide) (by decide) (xe_num1 fm hmn hw0 hw1 (by decide) (by decide) (xe_num1 fm hmn hw0 hw1 (by decide) (by decide) (fun M s ar hw h62 hM _ => xe_num0 fm hmn hw h62 hM)))))))))) M s ar hw h62 hM hl
theorem xU_makeNumber (hmn : xo_in m n) (hw : xo_wf s ar) {M : List Int} {v : Int} (hv : xr v) (h62 : s 62 = M.length) (hM : xh (ar 61) 0 M) (hl : M.length ≤ 1300) : xU fm 339 m n h0 s ar [.ref m, xi v] (xd_PM s ar (M ++ nm_txt v)) := by
  show xe fm 339 (0, [(0, .ref m), (1, xi v)], [], (xo m s ar h0, n, 0, 0)) _
  have hab : 0 ≤ nm_abs v ∧ nm_abs v ≤ 2147483648 := by
    unfold nm_abs
    split <;> omega
  have all : ∀ (M : List Int) (s : Nat → Int) (ar : Nat → Nat → Int), xo_wf s ar → s 62 = M.length → xh (ar 61) 0 M → M.length + 10 ≤ 1399 → xe fm 339 (28, [(4, xl 1000000000), (2, xl (nm_abs v)), (0, .ref m), (1, xi v)], [], (xo m s ar h0, n, 0, 0)) (xQU m n h0 (xd_PM s ar (M ++ nm_dgs (nm_abs v) nm_bs))) :=
    fun M s ar hw h62 hM hl => xe_num10 fm hmn hab.1 hab.2 M s ar hw h62 hM hl
  by_cases hneg : v < 0
  · have ea : nm_abs v = -v := by unfold nm_abs; rw [if_pos hneg]
    have et : nm_txt v = [45] ++ nm_dgs (nm_abs v) nm_bs := by unfold nm_txt; rw [if_pos hneg]
    rw [et, ← List.append_assoc]
    refine xe_s (f := (1, _, _, _)) xt_g339 rfl rfl rfl rfl rfl ?_
    refine xe_if_ge xt_g339 rfl (t := 10) rfl (q := 4) rfl (by first | omega | exact hw.1 _ | exact hw.2 _ _ | exact xb_r _) (fun h1 => ?_) (fun h1 => ?_)
    · exact absurd h1 (by omega)
    · try simp only [xb_0, xb_1, ne_eq, Decidable.not_not, decide_eq_true_eq, decide_eq_false_iff_not] at h1
      refine xe_s (f := (5, _, _, _)) xt_g339 rfl rfl rfl rfl rfl ?_
      refine xe_bipush xt_g339 rfl (q := 7) rfl (by decide) (by decide) ?_
      refine xe_chV xt_g339 rfl (q := 10) rfl xk_13_370 rfl (by omega) xt_g284 (by decide) ⟨Nat.le_of_ble_eq_true rfl, Nat.le_of_ble_eq_true rfl, Nat.le_of_ble_eq_true rfl⟩ (xU_make fm hmn hw (x := 45) (by omega) h62 hM (by omega)) (fun s2 ar2 hp2 => ?_)
      refine xe_s (f := (11, _, _, _)) xt_g339 rfl rfl rfl rfl rfl ?_
      refine xe_if_ge xt_g339 rfl (t := 20) rfl (q := 14) rfl (by first | omega | exact hw.1 _ | exact hw.2 _ _ | exact xb_r _) (fun h11 => ?_) (fun h11 => ?_)
      · exact absurd h11 (by omega)
      · try simp only [xb_0, xb_1, ne_eq, Decidable.not_not, decide_eq_true_eq, decide_eq_false_iff_not] at h11
        refine xe_s (f := (15, _, _, _)) xt_g339 rfl rfl rfl rfl rfl ?_
        refine xe_i2l xt_g339 rfl (q := 16) rfl (by first | omega | exact hw.1 _ | exact hw.2 _ _ | exact xb_r _) ?_
        refine xe_lneg xt_g339 rfl (q := 17) rfl ?_
        refine xe_s (f := (22, _, _, _)) xt_g339 rfl rfl rfl rfl rfl ?_
        refine xe_s (f := (23, [(2, _), (0, _), (1, _)], _, _)) xt_g339 rfl rfl rfl rfl rfl ?_
        refine xe_ldcl (z := 1000000000) xt_g339 rfl (q := 26) rfl rfl (by decide) ?_
        refine xe_s (f := (28, [(4, _), (2, _), (0, _), (1, _)], _, _)) xt_g339 rfl rfl rfl rfl rfl ?_
        obtain ⟨w2, q2, p62, pM⟩ := hp2
        have h := all _ s2 ar2 w2 p62 pM (by rw [List.length_append]; simp; omega)
        rw [ea] at h ⊢
        refine xe_mono (xe_loc (by intro q hq; simp only [List.mem_cons, List.not_mem_nil, or_false] at hq; rcases hq with rfl | rfl | rfl | rfl <;> rfl) h) ?_
        rintro r M2 ⟨s3, ar3, g1, g2, w3, q3, g3, g4⟩
        exact ⟨s3, ar3, g1, g2, w3, xq_t q2 q3, g3, g4⟩
  · have ea : nm_abs v = v := by unfold nm_abs; rw [if_neg hneg]
    have et : nm_txt v = nm_dgs (nm_abs v) nm_bs := by unfold nm_txt; rw [if_neg hneg, List.nil_append]
    rw [et]
    have h := all M s ar hw h62 hM (by omega)
    rw [ea] at h ⊢
    refine xe_s (f := (1, _, _, _)) xt_g339 rfl rfl rfl rfl rfl ?_
    refine xe_if_ge xt_g339 rfl (t := 10) rfl (q := 4) rfl (by first | omega | exact hw.1 _ | exact hw.2 _ _ | exact xb_r _) (fun h1 => ?_) (fun h1 => ?_)
    · try simp only [xb_0, xb_1, ne_eq, Decidable.not_not, decide_eq_true_eq, decide_eq_false_iff_not] at h1
      refine xe_s (f := (11, _, _, _)) xt_g339 rfl rfl rfl rfl rfl ?_
      refine xe_if_ge xt_g339 rfl (t := 20) rfl (q := 14) rfl (by first | omega | exact hw.1 _ | exact hw.2 _ _ | exact xb_r _) (fun h11 => ?_) (fun h11 => ?_)
      · try simp only [xb_0, xb_1, ne_eq, Decidable.not_not, decide_eq_true_eq, decide_eq_false_iff_not] at h11
        refine xe_s (f := (21, _, _, _)) xt_g339 rfl rfl rfl rfl rfl ?_
        refine xe_i2l xt_g339 rfl (q := 22) rfl (by first | omega | exact hw.1 _ | exact hw.2 _ _ | exact xb_r _) ?_
        refine xe_s (f := (23, [(2, _), (0, _), (1, _)], _, _)) xt_g339 rfl rfl rfl rfl rfl ?_
        refine xe_ldcl (z := 1000000000) xt_g339 rfl (q := 26) rfl rfl (by decide) ?_
        refine xe_s (f := (28, [(4, _), (2, _), (0, _), (1, _)], _, _)) xt_g339 rfl rfl rfl rfl rfl ?_
        exact xe_loc (by intro q hq; simp only [List.mem_cons, List.not_mem_nil, or_false] at hq; rcases hq with rfl | rfl | rfl | rfl <;> rfl) (h)
      · exact absurd h11 (by omega)
    · exact absurd h1 (by omega)
end XNM
/-! the reference: type -/
def ty_r (w : Int64) : Nat → List Int
  | 0 => []
  | j + 1 => xd_by w (8 * j) :: ty_r w j
def ty_ok (c : Int) : Bool := decide (c = 0 ∨ (32 ≤ c ∧ c ≤ 126))
def ty_nz (l : List Int) : List Int := l.filter (fun c => !decide (c = 0))
def mu_type (u : mu_T) (w : Int64) : Int × mu_T := if (ty_r w 8).all ty_ok = true ∧ (mu_ln u).length + (ty_nz (ty_r w 8)).length ≤ 160 then (((mu_ln u ++ ty_nz (ty_r w 8)).length : Int), mu_sln u (mu_ln u ++ ty_nz (ty_r w 8))) else (-1, u)
theorem ty_r_len {w : Int64} : ∀ j, (ty_r w j).length = j
  | 0 => rfl
  | j + 1 => by
    unfold ty_r
    rw [List.length_cons, ty_r_len j]
section XTY
variable (fm : Value) {m n : Nat} {h0 : xm_H} {s : Nat → Int} {ar : Nat → Nat → Int} {u : mu_T}
theorem xV_type (hmn : xo_in m n) (h : rf s ar u) {w : Int64} : xV fm 245 m n h0 s ar [.ref m, .long w] (fun z s' ar' => z = (mu_type u w).1 ∧ s' 0 = 0 ∧ rf s' ar' (mu_type u w).2) := by
  show xe fm 245 (0, [(0, .ref m), (1, .long w)], [], (xo m s ar h0, n, 0, 0)) _
  generalize hR : mu_type u w = R
  unfold mu_type at hR
  have hl := rf_s0 h (z := 0) (by omega)
  have r0 := hl.2.2.2.1
  have i2 : s 2 = (mu_ln u).length := r0.1
  have l160 := r0.2.1
  have bad : ¬ ((ty_r w 8).all ty_ok = true ∧ (mu_ln u).length + (ty_nz (ty_r w 8)).length ≤ 160) → ∀ pc L, pc = 46 ∨ pc = 79 → xe fm 245 (pc, L, [], (xo m (xo_u s 0 0) ar h0, n, 0, 0)) (xQI m n h0 (fun z s' ar' => z = R.1 ∧ s' 0 = 0 ∧ rf s' ar' R.2)) := by
    intro hn pc L hpc
    rw [if_neg hn] at hR
    rw [← hR]
    rcases hpc with rfl | rfl
    · refine xe_s (f := (47, _, xi (-1) :: _, _)) xt_g245 rfl rfl rfl rfl rfl ?_
      refine xe_iret xt_g245 rfl rfl xi_int.1 ?_
      exact ⟨_, _, _, rfl, rfl, rfl, rfl, hl⟩
    · refine xe_s (f := (80, _, xi (-1) :: _, _)) xt_g245 rfl rfl rfl rfl rfl ?_
      refine xe_iret xt_g245 rfl rfl xi_int.1 ?_
      exact ⟨_, _, _, rfl, rfl, rfl, rfl, hl⟩
  have nzl : ∀ j, (ty_nz (ty_r w j)).length ≤ j := by
    intro j
    have := List.length_filter_le (fun c => !decide (c = (0 : Int))) (ty_r w j)
    rw [ty_r_len] at this
    exact this
  -- the second loop
  have l85 : (ty_r w 8).all ty_ok = true → (mu_ln u).length + (ty_nz (ty_r w 8)).length ≤ 160 → ∀ (j : Nat) (X : List Int) (s1 : Nat → Int) (ar1 : Nat → Nat → Int) (v3 : Int), j ≤ 8 → (ty_r w j).all ty_ok = true → X.length + (ty_nz (ty_r w j)).length ≤ 160 → X ++ ty_nz (ty_r w j) = mu_ln u ++ ty_nz (ty_r w 8) → s1 0 = 0 → rf s1 ar1 (mu_sln u X) → xe fm 245 (85, [(4, xi (8 * (j : Int) - 8)), (3, xi v3), (0, .ref m), (1, .long w)], [], (xo m s1 ar1 h0, n, 0, 0)) (xQI m n h0 (fun z s' ar' => z = R.1 ∧ s' 0 = 0 ∧ rf s' ar' R.2)) := by
    intro hok h160
    rw [if_pos ⟨hok, h160⟩] at hR
    intro j
    induction j with
    | zero =>
      intro X s1 ar1 v3 hj ha hx he z0 h1
      have eX : X = mu_ln u ++ ty_nz (ty_r w 8) := by
        rw [← he]
        simp [ty_r, ty_nz]
      have j2 : s1 2 = X.length := h1.2.2.2.1.1
      refine xe_s (f := (87, _, _, _)) xt_g245 rfl rfl rfl rfl rfl ?_
      refine xe_if_lt xt_g245 rfl (t := 136) rfl (q := 90) rfl (by first | omega | exact hw.1 _ | exact hw.2 _ _ | exact xb_r _) (fun h87 => ?_) (fun h87 => ?_)
      · try simp only [xb_0, xb_1, ne_eq, Decidable.not_not, decide_eq_true_eq, decide_eq_false_iff_not] at h87
        refine xe_s (f := (137, _, _, _)) xt_g245 rfl rfl rfl rfl rfl ?_
        refine xe_mgs xt_g245 rfl (q := 140) rfl (xf_13_149 fm) (by decide) rfl (by omega) ?_
        try simp only [xo_u, xo_w, Nat.reduceEqDiff, reduceIte, false_and, true_and]
        rw [j2]
        refine xe_iret xt_g245 rfl rfl xi_int.1 ?_
        rw [← hR, ← eX]
        exact ⟨_, _, _, rfl, rfl, rfl, z0, h1⟩
      · exact absurd h87 (by omega)
    | succ j ih =>
      intro X s1 ar1 v3 hj ha hx he z0 h1
      have hj8 : (8 * ((j + 1 : Nat) : Int) - 8) = 8 * (j : Int) := by omega
      have hbr := xd_by_r w (8 * (j : Int))
      have e8 : ty_r w (j + 1) = xd_by w (8 * (j : Int)) :: ty_r w j := rfl
      rw [e8] at ha hx he
      rw [List.all_cons, Bool.and_eq_true] at ha
      rw [hj8]
      have j2 : s1 2 = X.length := h1.2.2.2.1.1
      have hok1 : xd_by w (8 * (j : Int)) = 0 ∨ (32 ≤ xd_by w (8 * (j : Int)) ∧ xd_by w (8 * (j : Int)) ≤ 126) := of_decide_eq_true ha.1
      refine xe_s (f := (87, _, _, _)) xt_g245 rfl rfl rfl rfl rfl ?_
      refine xe_if_lt xt_g245 rfl (t := 136) rfl (q := 90) rfl (by first | omega | exact hw.1 _ | exact hw.2 _ _ | exact xb_r _) (fun h87 => ?_) (fun h87 => ?_)
      · exact absurd h87 (by omega)
      · try simp only [xb_0, xb_1, ne_eq, Decidable.not_not, decide_eq_true_eq, decide_eq_false_iff_not] at h87
        refine xe_s (f := (91, _, _, _)) xt_g245 rfl rfl rfl rfl rfl ?_
        refine xe_s (f := (93, _, _, _)) xt_g245 rfl rfl rfl rfl rfl ?_
        refine xe_lushr xt_g245 rfl (q := 94) rfl ?_
        refine xe_l2r xt_g245 rfl (q := 95) rfl ?_
        refine xe_sipush xt_g245 rfl (q := 98) rfl (by decide) (by decide) ?_
        refine xe_by xt_g245 rfl (q := 99) rfl ?_
        refine xe_s (f := (101, [(5, _), (4, _), (3, _), (0, _), (1, _)], _, _)) xt_g245 rfl rfl rfl rfl rfl ?_
        refine xe_s (f := (103, _, _, _)) xt_g245 rfl rfl rfl rfl rfl ?_
        refine xe_if_ne xt_g245 rfl (t := 109) rfl (q := 106) rfl (by first | omega | exact hw.1 _ | exact hw.2 _ _ | exact xb_r _) (fun h103 => ?_) (fun h103 => ?_)
        · try simp only [xb_0, xb_1, ne_eq, Decidable.not_not, decide_eq_true_eq, decide_eq_false_iff_not] at h103
          have hnz : xd_by w (8 * (j : Int)) ≠ 0 := h103
          have e1 : ty_nz (xd_by w (8 * (j : Int)) :: ty_r w j) = xd_by w (8 * (j : Int)) :: ty_nz (ty_r w j) := by
            unfold ty_nz
            rw [List.filter_cons_of_pos (by simpa using hnz)]
          rw [e1] at hx he
          rw [List.length_cons] at hx
          refine xe_s (f := (110, _, _, _)) xt_g245 rfl rfl rfl rfl rfl ?_
          refine xe_mga xt_g245 rfl (q := 113) rfl (xf_13_7 fm) (by decide) rfl (by omega) ?_
          try simp only [xo_u, xo_w, Nat.reduceEqDiff, reduceIte, false_and, true_and]
          refine xe_s (f := (114, _, _, _)) xt_g245 rfl rfl rfl rfl rfl ?_
          refine xe_mgs xt_g245 rfl (q := 117) rfl (xf_13_149 fm) (by decide) rfl (by omega) ?_
          try simp only [xo_u, xo_w, Nat.reduceEqDiff, reduceIte, false_and, true_and]
          rw [j2]
          refine xe_s (f := (119, _, _, _)) xt_g245 rfl rfl rfl rfl rfl ?_
          refine xe_mas (ok := xm_isN) (ty := .int) xt_g245 rfl (q := 120) rfl (fun _ _ => ⟨rfl, rfl, rfl, rfl⟩) rfl rfl rfl (by omega) (by omega) (by omega) (by omega) (by omega) rfl ?_
          refine xe_s (f := (121, _, _, _)) xt_g245 rfl rfl rfl rfl rfl ?_
          refine xe_s (f := (122, _, _, _)) xt_g245 rfl rfl rfl rfl rfl ?_
          refine xe_mgs xt_g245 rfl (q := 125) rfl (xf_13_149 fm) (by decide) rfl (by omega) ?_
          try simp only [xo_u, xo_w, Nat.reduceEqDiff, reduceIte, false_and, true_and]
          rw [j2]
          refine xe_s (f := (126, _, xi 1 :: _, _)) xt_g245 rfl rfl rfl rfl rfl ?_
          refine xe_iadd xt_g245 rfl (q := 127) rfl ?_
          refine xe_mps xt_g245 rfl (q := 130) rfl (xf_13_149 fm) (by decide) rfl (by omega) (by omega) xi_int (Or.inl rfl) ?_
          refine xe_iinc xt_g245 rfl (q := 133) rfl rfl (by decide) (L1 := [(4, _), (5, _), (3, _), (0, _), (1, _)]) rfl ?_
          refine xe_s (f := (85, _, _, _)) xt_g245 rfl rfl rfl rfl rfl ?_
          obtain ⟨w1, B1, z6, r0, r1, r2, r3, r4, r5, r6, r7, r8, r9, ra⟩ := h1
          have q : xq [2] [1] s1 ar1 (xo_u s1 2 (X.length + 1)) (xo_w ar1 1 (X.length : Int).toNat (xd_by w (8 * (j : Int)))) := xq_u (xq_w xq_r (by decide)) (by decide)
          have F : xs_F [] ar1 (xo_w ar1 1 (X.length : Int).toNat (xd_by w (8 * (j : Int)))) := xs_q q (by decide) (by decide)
          have h2 : rf (xo_u s1 2 (X.length + 1)) (xo_w ar1 1 (X.length : Int).toNat (xd_by w (8 * (j : Int)))) (mu_sln u (X ++ [xd_by w (8 * (j : Int))])) := by
            refine ⟨xo_wf_u (xo_wf_w w1 (by omega)) (by omega), xo_B_w B1 (fun h => absurd h (by decide)), z6, ?_, rf_k1 r1 q rfl, rf_k2 r2 q rfl, rf_k3 r3 q rfl, rf_k4 r4 q rfl, rf_k5 r5 q F rfl, rf_k6 r6 q F rfl, rf_k7 r7 q F rfl, rf_k8 r8 q rfl, rf_k9 r9 q rfl, rf_ka ra q rfl⟩
            show rf_line _ _ (X ++ [xd_by w (8 * (j : Int))])
            refine ⟨?_, ?_, xh_w (by omega) r0.2.2.1, fun c hc => ?_⟩
            · rw [xo_uS, List.length_append]
              simp
            · rw [List.length_append]
              simp
              omega
            · rcases List.mem_append.mp hc with hc | hc
              · exact r0.2.2.2 c hc
              · rw [List.mem_singleton] at hc
                omega
          have h3 := ih (X ++ [xd_by w (8 * (j : Int))]) (xo_u s1 2 (X.length + 1)) (xo_w ar1 1 (X.length : Int).toNat (xd_by w (8 * (j : Int)))) v3 (by omega) ha.2 (by rw [List.length_append]; simp; omega) (by rw [List.append_assoc]; exact he) z0 h2
          rw [show 8 * (j : Int) + -8 = 8 * (j : Int) - 8 by omega]
          exact xe_loc (by intro q hq; simp only [List.mem_cons, List.not_mem_nil, or_false] at hq; rcases hq with rfl | rfl | rfl | rfl <;> rfl) (h3)
        · try simp only [xb_0, xb_1, ne_eq, Decidable.not_not, decide_eq_true_eq, decide_eq_false_iff_not] at h103
          refine xe_s (f := (130, _, _, _)) xt_g245 rfl rfl rfl rfl rfl ?_
          refine xe_iinc xt_g245 rfl (q := 133) rfl rfl (by decide) (L1 := [(4, _), (5, _), (3, _), (0, _), (1, _)]) rfl ?_
          refine xe_s (f := (85, _, _, _)) xt_g245 rfl rfl rfl rfl rfl ?_
          have hz : xd_by w (8 * (j : Int)) = 0 := h103
          have e1 : ty_nz (xd_by w (8 * (j : Int)) :: ty_r w j) = ty_nz (ty_r w j) := by
            unfold ty_nz
            rw [List.filter_cons_of_neg (by simpa using hz)]
          rw [e1] at hx he
          have h3 := ih X s1 ar1 v3 (by omega) ha.2 hx he z0 h1
          rw [show 8 * (j : Int) + -8 = 8 * (j : Int) - 8 by omega]
          exact xe_loc (by intro q hq; simp only [List.mem_cons, List.not_mem_nil, or_false] at hq; rcases hq with rfl | rfl | rfl | rfl <;> rfl) (h3)
  -- the first loop
  have l11 : ∀ (j : Nat) (k : Nat), j ≤ 8 → k + (ty_nz (ty_r w j)).length = (ty_nz (ty_r w 8)).length → ((ty_r w j).all ty_ok = (ty_r w 8).all ty_ok) → xe fm 245 (11, [(4, xi (8 * (j : Int) - 8)), (3, xi (k : Int)), (0, .ref m), (1, .long w)], [], (xo m (xo_u s 0 0) ar h0, n, 0, 0)) (xQI m n h0 (fun z s' ar' => z = R.1 ∧ s' 0 = 0 ∧ rf s' ar' R.2)) := by
    intro j
    induction j with
    | zero =>
      intro k hj hk ha
      have hok : (ty_r w 8).all ty_ok = true := ha.symm
      have hk2 : k = (ty_nz (ty_r w 8)).length := by simpa [ty_r, ty_nz] using hk
      have n8 := nzl 8
      refine xe_s (f := (13, _, _, _)) xt_g245 rfl rfl rfl rfl rfl ?_
      refine xe_if_lt xt_g245 rfl (t := 67) rfl (q := 16) rfl (by first | omega | exact hw.1 _ | exact hw.2 _ _ | exact xb_r _) (fun h13 => ?_) (fun h13 => ?_)
      · try simp only [xb_0, xb_1, ne_eq, Decidable.not_not, decide_eq_true_eq, decide_eq_false_iff_not] at h13
        refine xe_s (f := (68, _, _, _)) xt_g245 rfl rfl rfl rfl rfl ?_
        refine xe_mgs xt_g245 rfl (q := 71) rfl (xf_13_149 fm) (by decide) rfl (by omega) ?_
        try simp only [xo_u, xo_w, Nat.reduceEqDiff, reduceIte, false_and, true_and]
        rw [i2]
        refine xe_s (f := (72, _, _, _)) xt_g245 rfl rfl rfl rfl rfl ?_
        refine xe_iadd xt_g245 rfl (q := 73) rfl ?_
        refine xe_sipush xt_g245 rfl (q := 76) rfl (by decide) (by decide) ?_
        refine xe_ic_le xt_g245 rfl (t := 81) rfl (q := 79) rfl (by first | omega | exact hw.1 _ | exact hw.2 _ _ | exact xb_r _) (by first | omega | exact hw.1 _ | exact hw.2 _ _ | exact xb_r _) (fun h76 => ?_) (fun h76 => ?_)
        · refine xe_bipush xt_g245 rfl (q := 83) rfl (by decide) (by decide) ?_
          refine xe_s (f := (85, [(4, _), (3, _), (0, _), (1, _)], _, _)) xt_g245 rfl rfl rfl rfl rfl ?_
          have h3 := l85 hok (by omega) 8 (mu_ln u) (xo_u s 0 0) ar k (by omega) hok (by omega) rfl rfl hl
          exact xe_loc (by intro q hq; simp only [List.mem_cons, List.not_mem_nil, or_false] at hq; rcases hq with rfl | rfl | rfl | rfl <;> rfl) (h3)
        · exact bad (fun h => by omega) 79 _ (Or.inr rfl)
      · exact absurd h13 (by omega)
    | succ j ih =>
      intro k hj hk ha
      have hj8 : (8 * ((j + 1 : Nat) : Int) - 8) = 8 * (j : Int) := by omega
      have hbr := xd_by_r w (8 * (j : Int))
      have e8 : ty_r w (j + 1) = xd_by w (8 * (j : Int)) :: ty_r w j := rfl
      rw [e8] at hk ha
      rw [List.all_cons] at ha
      rw [hj8]
      have nogood : ¬ (xd_by w (8 * (j : Int)) = 0 ∨ (32 ≤ xd_by w (8 * (j : Int)) ∧ xd_by w (8 * (j : Int)) ≤ 126)) → ∀ L, xe fm 245 (46, L, [], (xo m (xo_u s 0 0) ar h0, n, 0, 0)) (xQI m n h0 (fun z s' ar' => z = R.1 ∧ s' 0 = 0 ∧ rf s' ar' R.2)) := by
        intro hn L
        refine bad (fun h => ?_) 46 L (Or.inl rfl)
        rw [← ha, show ty_ok (xd_by w (8 * (j : Int))) = false from decide_eq_false hn, Bool.false_and] at h
        exact absurd h.1 (by decide)
      have next : ∀ (v : Int), v = (if xd_by w (8 * (j : Int)) = 0 then 0 else 1) → (xd_by w (8 * (j : Int)) = 0 ∨ (32 ≤ xd_by w (8 * (j : Int)) ∧ xd_by w (8 * (j : Int)) ≤ 126)) → xe fm 245 (59, [(5, xi (xd_by w (8 * (j : Int)))), (4, xi (8 * (j : Int))), (3, xi (k : Int)), (0, .ref m), (1, .long w)], [xi v, xi (k : Int)], (xo m (xo_u s 0 0) ar h0, n, 0, 0)) (xQI m n h0 (fun z s' ar' => z = R.1 ∧ s' 0 = 0 ∧ rf s' ar' R.2)) := by
        intro v hv hg
        rw [show ty_ok (xd_by w (8 * (j : Int))) = true from decide_eq_true hg, Bool.true_and] at ha
        by_cases hz : xd_by w (8 * (j : Int)) = 0
        · rw [if_pos hz] at hv
          have e1 : ty_nz (xd_by w (8 * (j : Int)) :: ty_r w j) = ty_nz (ty_r w j) := by
            unfold ty_nz
            rw [List.filter_cons_of_neg (by simpa using hz)]
          rw [e1] at hk
          have h3 := ih k (by omega) hk ha
          rw [hv]
          refine xe_iadd xt_g245 rfl (q := 60) rfl ?_
          refine xe_s (f := (61, [(3, _), (5, _), (4, _), (0, _), (1, _)], _, _)) xt_g245 rfl rfl rfl rfl rfl ?_
          refine xe_iinc xt_g245 rfl (q := 64) rfl rfl (by decide) (L1 := [(4, _), (3, _), (5, _), (0, _), (1, _)]) rfl ?_
          refine xe_s (f := (11, _, _, _)) xt_g245 rfl rfl rfl rfl rfl ?_
          rw [show 8 * (j : Int) + -8 = 8 * (j : Int) - 8 by omega, show (k : Int) + 0 = (k : Int) by omega]
          exact xe_loc (by intro q hq; simp only [List.mem_cons, List.not_mem_nil, or_false] at hq; rcases hq with rfl | rfl | rfl | rfl <;> rfl) (h3)
        · rw [if_neg hz] at hv
          have e1 : ty_nz (xd_by w (8 * (j : Int)) :: ty_r w j) = xd_by w (8 * (j : Int)) :: ty_nz (ty_r w j) := by
            unfold ty_nz
            rw [List.filter_cons_of_pos (by simpa using hz)]
          rw [e1, List.length_cons] at hk
          have h3 := ih (k + 1) (by omega) (by omega) ha
          rw [hv]
          refine xe_iadd xt_g245 rfl (q := 60) rfl ?_
          refine xe_s (f := (61, [(3, _), (5, _), (4, _), (0, _), (1, _)], _, _)) xt_g245 rfl rfl rfl rfl rfl ?_
          refine xe_iinc xt_g245 rfl (q := 64) rfl rfl (by decide) (L1 := [(4, _), (3, _), (5, _), (0, _), (1, _)]) rfl ?_
          refine xe_s (f := (11, _, _, _)) xt_g245 rfl rfl rfl rfl rfl ?_
          rw [show 8 * (j : Int) + -8 = 8 * (j : Int) - 8 by omega, show (k : Int) + 1 = ((k + 1 : Nat) : Int) by omega]
          exact xe_loc (by intro q hq; simp only [List.mem_cons, List.not_mem_nil, or_false] at hq; rcases hq with rfl | rfl | rfl | rfl <;> rfl) (h3)
      refine xe_s (f := (13, _, _, _)) xt_g245 rfl rfl rfl rfl rfl ?_
      refine xe_if_lt xt_g245 rfl (t := 67) rfl (q := 16) rfl (by first | omega | exact hw.1 _ | exact hw.2 _ _ | exact xb_r _) (fun h13 => ?_) (fun h13 => ?_)
      · exact absurd h13 (by omega)
      · try simp only [xb_0, xb_1, ne_eq, Decidable.not_not, decide_eq_true_eq, decide_eq_false_iff_not] at h13
        refine xe_s (f := (17, _, _, _)) xt_g245 rfl rfl rfl rfl rfl ?_
        refine xe_s (f := (19, _, _, _)) xt_g245 rfl rfl rfl rfl rfl ?_
        refine xe_lushr xt_g245 rfl (q := 20) rfl ?_
        refine xe_l2r xt_g245 rfl (q := 21) rfl ?_
        refine xe_sipush xt_g245 rfl (q := 24) rfl (by decide) (by decide) ?_
        refine xe_by xt_g245 rfl (q := 25) rfl ?_
        refine xe_s (f := (27, [(5, _), (4, _), (3, _), (0, _), (1, _)], _, _)) xt_g245 rfl rfl rfl rfl rfl ?_
        refine xe_s (f := (29, _, _, _)) xt_g245 rfl rfl rfl rfl rfl ?_
        refine xe_if_eq xt_g245 rfl (t := 48) rfl (q := 32) rfl (by first | omega | exact hw.1 _ | exact hw.2 _ _ | exact xb_r _) (fun h29 => ?_) (fun h29 => ?_)
        · try simp only [xb_0, xb_1, ne_eq, Decidable.not_not, decide_eq_true_eq, decide_eq_false_iff_not] at h29
          refine xe_s (f := (49, _, _, _)) xt_g245 rfl rfl rfl rfl rfl ?_
          refine xe_s (f := (51, _, _, _)) xt_g245 rfl rfl rfl rfl rfl ?_
          refine xe_if_eq xt_g245 rfl (t := 58) rfl (q := 54) rfl (by first | omega | exact hw.1 _ | exact hw.2 _ _ | exact xb_r _) (fun h51 => ?_) (fun h51 => ?_)
          · try simp only [xb_0, xb_1, ne_eq, Decidable.not_not, decide_eq_true_eq, decide_eq_false_iff_not] at h51
            refine xe_s (f := (59, _, xi 0 :: _, _)) xt_g245 rfl rfl rfl rfl rfl ?_
            exact next _ (by rw [if_pos h51]) (by omega)
          · try simp only [xb_0, xb_1, ne_eq, Decidable.not_not, decide_eq_true_eq, decide_eq_false_iff_not] at h51
            refine xe_s (f := (55, _, xi 1 :: _, _)) xt_g245 rfl rfl rfl rfl rfl ?_
            refine xe_s (f := (59, _, _, _)) xt_g245 rfl rfl rfl rfl rfl ?_
            exact next _ (by rw [if_neg h51]) (by omega)
        · try simp only [xb_0, xb_1, ne_eq, Decidable.not_not, decide_eq_true_eq, decide_eq_false_iff_not] at h29
          refine xe_s (f := (34, _, _, _)) xt_g245 rfl rfl rfl rfl rfl ?_
          refine xe_bipush xt_g245 rfl (q := 36) rfl (by decide) (by decide) ?_
          refine xe_ic_lt xt_g245 rfl (t := 46) rfl (q := 39) rfl (by first | omega | exact hw.1 _ | exact hw.2 _ _ | exact xb_r _) (by first | omega | exact hw.1 _ | exact hw.2 _ _ | exact xb_r _) (fun h36 => ?_) (fun h36 => ?_)
          · exact nogood (by omega) _
          · refine xe_s (f := (41, _, _, _)) xt_g245 rfl rfl rfl rfl rfl ?_
            refine xe_bipush xt_g245 rfl (q := 43) rfl (by decide) (by decide) ?_
            refine xe_ic_le xt_g245 rfl (t := 48) rfl (q := 46) rfl (by first | omega | exact hw.1 _ | exact hw.2 _ _ | exact xb_r _) (by first | omega | exact hw.1 _ | exact hw.2 _ _ | exact xb_r _) (fun h43 => ?_) (fun h43 => ?_)
            · refine xe_s (f := (49, _, _, _)) xt_g245 rfl rfl rfl rfl rfl ?_
              refine xe_s (f := (51, _, _, _)) xt_g245 rfl rfl rfl rfl rfl ?_
              refine xe_if_eq xt_g245 rfl (t := 58) rfl (q := 54) rfl (by first | omega | exact hw.1 _ | exact hw.2 _ _ | exact xb_r _) (fun h51 => ?_) (fun h51 => ?_)
              · try simp only [xb_0, xb_1, ne_eq, Decidable.not_not, decide_eq_true_eq, decide_eq_false_iff_not] at h51
                refine xe_s (f := (59, _, xi 0 :: _, _)) xt_g245 rfl rfl rfl rfl rfl ?_
                exact next _ (by rw [if_pos h51]) (by omega)
              · try simp only [xb_0, xb_1, ne_eq, Decidable.not_not, decide_eq_true_eq, decide_eq_false_iff_not] at h51
                refine xe_s (f := (55, _, xi 1 :: _, _)) xt_g245 rfl rfl rfl rfl rfl ?_
                refine xe_s (f := (59, _, _, _)) xt_g245 rfl rfl rfl rfl rfl ?_
                exact next _ (by rw [if_neg h51]) (by omega)
            · exact nogood (by omega) _
  have h3 := l11 8 0 (by omega) (by omega) rfl
  refine xe_s (f := (1, _, _, _)) xt_g245 rfl rfl rfl rfl rfl ?_
  refine xe_s (f := (2, _, xi 0 :: _, _)) xt_g245 rfl rfl rfl rfl rfl ?_
  refine xe_mps xt_g245 rfl (q := 5) rfl (xf_13_146 fm) (by decide) rfl (by omega) (by omega) xi_int (Or.inl rfl) ?_
  refine xe_s (f := (6, _, xi 0 :: _, _)) xt_g245 rfl rfl rfl rfl rfl ?_
  refine xe_s (f := (7, [(3, _), (0, _), (1, _)], _, _)) xt_g245 rfl rfl rfl rfl rfl ?_
  refine xe_bipush xt_g245 rfl (q := 9) rfl (by decide) (by decide) ?_
  refine xe_s (f := (11, [(4, _), (3, _), (0, _), (1, _)], _, _)) xt_g245 rfl rfl rfl rfl rfl ?_
  exact xe_loc (by intro q hq; simp only [List.mem_cons, List.not_mem_nil, or_false] at hq; rcases hq with rfl | rfl | rfl | rfl <;> rfl) (h3)
end XTY
