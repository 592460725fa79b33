/-! long ints -/
abbrev xl (z : Int) : Value := .long (Int64.ofInt z)
abbrev xk (z : Int) : Prop := -9223372036854775808 ≤ z ∧ z < 9223372036854775808
def xd_cmp (a b : Int) : Int := if b < a then 1 else if a = b then 0 else -1
theorem xl_toInt {a : Int} (h : xk a) : (Int64.ofInt a).toInt = a := Int64.toInt_ofInt_of_le h.1 h.2
theorem xl_i2l {a : Int} (h : xr a) : (Int32.ofInt a).toInt64 = Int64.ofInt a := by
  apply Int64.toInt_inj.mp
  rw [Int32.toInt_toInt64, xi_toInt h, xl_toInt ⟨by omega, by omega⟩]
theorem xl_cmp {a b : Int} (ha : xk a) (hb : xk b) : lg_cmp (Int64.ofInt a) (Int64.ofInt b) = Int32.ofInt (xd_cmp a b) := by
  unfold lg_cmp xd_cmp
  simp only [gt_iff_lt, Int64.lt_iff_toInt_lt, ← Int64.toInt_inj, xl_toInt ha, xl_toInt hb]
  split
  · decide
  · split
    · decide
    · decide
section XMG
variable {fm : Value} {y pc q : Nat} {L : xm_L} {M : xm_M} {Q : xe_Q} {D : xt_D} {r : List Value} {a b : Int}
theorem xe_i2l (hy : xt_md[y]? = some D) (hi : xt_lk D.2.2.2.2.2 pc = some (.i2l, 1)) (hq : pc + 1 = q) (ha : xr a) (kk : xe fm y (q, L, xl a :: r, M) Q) : xe fm y (pc, L, xi a :: r, M) Q := by
  subst hq
  refine xe_s hy hi rfl rfl rfl (f := (pc + 1, L, xl a :: r, M)) ?_ kk
  show some (pc + 1, L, Value.long (Int32.ofInt a).toInt64 :: r, M) = _
  rw [xl_i2l ha]
theorem xe_ladd (hy : xt_md[y]? = some D) (hi : xt_lk D.2.2.2.2.2 pc = some (.ladd, 1)) (hq : pc + 1 = q) (kk : xe fm y (q, L, xl (a + b) :: r, M) Q) : xe fm y (pc, L, xl b :: xl a :: r, M) Q := by
  subst hq
  refine xe_s hy hi rfl rfl rfl (f := (pc + 1, L, xl (a + b) :: r, M)) ?_ kk
  show some (pc + 1, L, Value.long (Int64.ofInt a + Int64.ofInt b) :: r, M) = _
  rw [← Int64.ofInt_add]
theorem xe_lcmp (hy : xt_md[y]? = some D) (hi : xt_lk D.2.2.2.2.2 pc = some (.lcmp, 1)) (hq : pc + 1 = q) (ha : xk a) (hb : xk b) (kk : xe fm y (q, L, xi (xd_cmp a b) :: r, M) Q) : xe fm y (pc, L, xl b :: xl a :: r, M) Q := by
  subst hq
  refine xe_s hy hi rfl rfl rfl (f := (pc + 1, L, xi (xd_cmp a b) :: r, M)) ?_ kk
  show some (pc + 1, L, Value.int (lg_cmp (Int64.ofInt a) (Int64.ofInt b)) :: r, M) = _
  rw [xl_cmp ha hb]
end XMG
