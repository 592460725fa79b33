/-! division; the reference's message -/
section XME
variable (fm : Value) {m n : Nat} {h0 : xm_H} {s : Nat → Int} {ar : Nat → Nat → Int}
theorem xi_div {a b : Int} (ha : 0 ≤ a ∧ a < 2147483648) (hb : 0 < b ∧ b < 2147483648) : Int32.ofInt a / Int32.ofInt b = Int32.ofInt (a / b) := by
  have e1 : Int32.minValue.toInt = -2147483648 := by decide
  have e2 : Int32.maxValue.toInt = 2147483647 := by decide
  rw [← Int32.ofInt_tdiv (by rw [e1]; omega) (by rw [e2]; omega) (by rw [e1]; omega) (by rw [e2]; omega), Int.tdiv_eq_ediv_of_nonneg ha.1]
theorem xe_idiv {y pc q : Nat} {L : xm_L} {M : xm_M} {Q : xe_Q} {D : xt_D} {r : List Value} {a b : Int} {fm : Value} (hy : xt_md[y]? = some D) (hi : xt_lk D.2.2.2.2.2 pc = some (.idiv, 1)) (hq : pc + 1 = q) (ha : 0 ≤ a ∧ a < 2147483648) (hb : 0 < b ∧ b < 2147483648) (kk : xe fm y (q, L, xi (a / b) :: r, M) Q) : xe fm y (pc, L, xi b :: xi a :: r, M) Q := by
  subst hq
  refine xe_s hy hi rfl rfl rfl (f := (pc + 1, L, xi (a / b) :: r, M)) ?_ kk
  show (if Int32.ofInt b = 0 then none else some (pc + 1, L, Value.int (Int32.ofInt a / Int32.ofInt b) :: r, M)) = _
  rw [if_neg (by rw [xi_0]; intro e; have := (xi_eq (a := b) (b := 0) ⟨by omega, by omega⟩ ⟨by decide, by decide⟩).mp e; omega), xi_div ha hb]
theorem xe_irem {y pc q : Nat} {L : xm_L} {M : xm_M} {Q : xe_Q} {D : xt_D} {r : List Value} {a b : Int} {fm : Value} (hy : xt_md[y]? = some D) (hi : xt_lk D.2.2.2.2.2 pc = some (.irem, 1)) (hq : pc + 1 = q) (ha : 0 ≤ a ∧ a < 2147483648) (hb : 0 < b ∧ b < 2147483648) (kk : xe fm y (q, L, xi (a % b) :: r, M) Q) : xe fm y (pc, L, xi b :: xi a :: r, M) Q := by
  subst hq
  refine xe_s hy hi rfl rfl rfl (f := (pc + 1, L, xi (a % b) :: r, M)) ?_ kk
  show (if Int32.ofInt b = 0 then none else some (pc + 1, L, Value.int (Int32.ofInt a - Int32.ofInt a / Int32.ofInt b * Int32.ofInt b) :: r, M)) = _
  rw [if_neg (by rw [xi_0]; intro e; have := (xi_eq (a := b) (b := 0) ⟨by omega, by omega⟩ ⟨by decide, by decide⟩).mp e; omega), xi_div ha hb, ← Int32.ofInt_mul, ← Int32.ofInt_sub]
  rw [show a - a / b * b = a % b by rw [Int.emod_def, Int.mul_comm b]]
end XME
