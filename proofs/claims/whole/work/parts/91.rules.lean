/-! rules of the runs, over mathematical ints -/
abbrev xi (z : Int) : Value := .int (Int32.ofInt z)
abbrev xr (z : Int) : Prop := -2147483648 ≤ z ∧ z < 2147483648
theorem xi_toInt {a : Int} (h : xr a) : (Int32.ofInt a).toInt = a := Int32.toInt_ofInt_of_le h.1 h.2
theorem xi_lt {a b : Int} (ha : xr a) (hb : xr b) : Int32.ofInt a < Int32.ofInt b ↔ a < b := by rw [Int32.lt_iff_toInt_lt, xi_toInt ha, xi_toInt hb]
theorem xi_le {a b : Int} (ha : xr a) (hb : xr b) : Int32.ofInt a ≤ Int32.ofInt b ↔ a ≤ b := by rw [Int32.le_iff_toInt_le, xi_toInt ha, xi_toInt hb]
theorem xi_eq {a b : Int} (ha : xr a) (hb : xr b) : Int32.ofInt a = Int32.ofInt b ↔ a = b := by rw [← Int32.toInt_inj, xi_toInt ha, xi_toInt hb]
theorem xi_nat {a : Int} (h : xr a) : (Int32.ofInt a).toNatClampNeg = a.toNat := by
  show (Int32.ofInt a).toInt.toNat = _
  rw [xi_toInt h]
theorem xi_0 : (0 : Int32) = Int32.ofInt 0 := by decide
theorem xi_b {k : Int} (h1 : -128 ≤ k) (h2 : k < 128) : (Int8.ofInt k).toInt32 = Int32.ofInt k := by
  apply Int32.toInt_inj.mp
  rw [Int8.toInt_toInt32, Int8.toInt_ofInt_of_le h1 h2, xi_toInt ⟨by omega, by omega⟩]
theorem xi_s {k : Int} (h1 : -32768 ≤ k) (h2 : k < 32768) : (Int16.ofInt k).toInt32 = Int32.ofInt k := by
  apply Int32.toInt_inj.mp
  rw [Int16.toInt_toInt32, Int16.toInt_ofInt_of_le h1 h2, xi_toInt ⟨by omega, by omega⟩]
theorem xi_out {a : Int} {k : Nat} (h : xr a) : xm_out (Int32.ofInt a) k = (decide (a < 0) || decide (k ≤ a.toNat)) := by
  unfold xm_out
  rw [xi_nat h, show (0 : Int32) = Int32.ofInt 0 from xi_0]
  congr 1
  exact decide_eq_decide.mpr (xi_lt h ⟨by decide, by decide⟩)
theorem xi_in {a : Int} {k : Nat} (h : xr a) (h0 : 0 ≤ a) (h1 : a < k) : xm_out (Int32.ofInt a) k = false := by
  rw [xi_out h]
  simp
  omega
section XRU
variable {fm : Value} {y pc q : Nat} {L : xm_L} {M : xm_M} {Q : xe_Q} {D : xt_D} {r : List Value} {a b : Int}
theorem xe_b {c : Bool} {t e : Nat} (h1 : c = true → xe fm y (t, L, r, M) Q) (h2 : c = false → xe fm y (e, L, r, M) Q) : xe fm y ((if c = true then t else e), L, r, M) Q := by
  cases c with
  | true => exact h1 rfl
  | false => exact h2 rfl
theorem xe_br {c : Bool} {P : Prop} {off : Int} {t : Nat} {ins : Instr} {ln : Nat} {S : List Value} (hy : xt_md[y]? = some D) (hi : xt_lk D.2.2.2.2.2 pc = some (ins, ln)) (hj : xm_j pc off = some t) (hq : pc + 3 = q) (he : xm_end (xt_y D) ins S = none) (ht : xm_thr (xt_P fm) (xt_y D) ins pc S M = none) (hc : xm_call (xt_P fm) D.1.cls ins S M = none)
    (hs : xm_st (xt_X fm) D.1.cls (decide (D.1.name = "<init>")) D.2.2.1 44 ins pc L S M = xm_br c off pc L r M) (hP : c = true ↔ P) (h1 : P → xe fm y (t, L, r, M) Q) (h2 : ¬ P → xe fm y (q, L, r, M) Q) : xe fm y (pc, L, S, M) Q := by
  subst hq
  refine xe_s hy hi he ht hc (f := ((if c = true then t else pc + 3), L, r, M)) ?_ (xe_b (fun h => h1 (hP.mp h)) (fun h => h2 (fun hp => by rw [hP.mpr hp] at h; cases h)))
  rw [hs]
  unfold xm_br
  rw [hj]
theorem xe_ic_lt {off : Int} {t : Nat} (hy : xt_md[y]? = some D) (hi : xt_lk D.2.2.2.2.2 pc = some (.if_icmp .lt off, 3)) (hj : xm_j pc off = some t) (hq : pc + 3 = q) (ha : xr a) (hb : xr b) (h1 : a < b → xe fm y (t, L, r, M) Q) (h2 : ¬ (a < b) → xe fm y (q, L, r, M) Q) : xe fm y (pc, L, xi b :: xi a :: r, M) Q :=
  xe_br hy hi hj hq rfl rfl rfl rfl (decide_eq_true_iff.trans (xi_lt ha hb)) h1 h2
theorem xe_ic_ge {off : Int} {t : Nat} (hy : xt_md[y]? = some D) (hi : xt_lk D.2.2.2.2.2 pc = some (.if_icmp .ge off, 3)) (hj : xm_j pc off = some t) (hq : pc + 3 = q) (ha : xr a) (hb : xr b) (h1 : b ≤ a → xe fm y (t, L, r, M) Q) (h2 : ¬ (b ≤ a) → xe fm y (q, L, r, M) Q) : xe fm y (pc, L, xi b :: xi a :: r, M) Q :=
  xe_br hy hi hj hq rfl rfl rfl rfl (decide_eq_true_iff.trans (xi_le hb ha)) h1 h2
theorem xe_ic_gt {off : Int} {t : Nat} (hy : xt_md[y]? = some D) (hi : xt_lk D.2.2.2.2.2 pc = some (.if_icmp .gt off, 3)) (hj : xm_j pc off = some t) (hq : pc + 3 = q) (ha : xr a) (hb : xr b) (h1 : b < a → xe fm y (t, L, r, M) Q) (h2 : ¬ (b < a) → xe fm y (q, L, r, M) Q) : xe fm y (pc, L, xi b :: xi a :: r, M) Q :=
  xe_br hy hi hj hq rfl rfl rfl rfl (decide_eq_true_iff.trans (xi_lt hb ha)) h1 h2
theorem xe_ic_le {off : Int} {t : Nat} (hy : xt_md[y]? = some D) (hi : xt_lk D.2.2.2.2.2 pc = some (.if_icmp .le off, 3)) (hj : xm_j pc off = some t) (hq : pc + 3 = q) (ha : xr a) (hb : xr b) (h1 : a ≤ b → xe fm y (t, L, r, M) Q) (h2 : ¬ (a ≤ b) → xe fm y (q, L, r, M) Q) : xe fm y (pc, L, xi b :: xi a :: r, M) Q :=
  xe_br hy hi hj hq rfl rfl rfl rfl (decide_eq_true_iff.trans (xi_le ha hb)) h1 h2
theorem xe_ic_eq {off : Int} {t : Nat} (hy : xt_md[y]? = some D) (hi : xt_lk D.2.2.2.2.2 pc = some (.if_icmp .eq off, 3)) (hj : xm_j pc off = some t) (hq : pc + 3 = q) (ha : xr a) (hb : xr b) (h1 : a = b → xe fm y (t, L, r, M) Q) (h2 : ¬ (a = b) → xe fm y (q, L, r, M) Q) : xe fm y (pc, L, xi b :: xi a :: r, M) Q :=
  xe_br hy hi hj hq rfl rfl rfl rfl (decide_eq_true_iff.trans (xi_eq ha hb)) h1 h2
theorem xe_ic_ne {off : Int} {t : Nat} (hy : xt_md[y]? = some D) (hi : xt_lk D.2.2.2.2.2 pc = some (.if_icmp .ne off, 3)) (hj : xm_j pc off = some t) (hq : pc + 3 = q) (ha : xr a) (hb : xr b) (h1 : a ≠ b → xe fm y (t, L, r, M) Q) (h2 : ¬ (a ≠ b) → xe fm y (q, L, r, M) Q) : xe fm y (pc, L, xi b :: xi a :: r, M) Q :=
  xe_br hy hi hj hq rfl rfl rfl rfl (by rw [Bool.not_eq_true', decide_eq_false_iff_not]; exact not_congr (xi_eq ha hb)) h1 h2
theorem xe_if_lt {off : Int} {t : Nat} (hy : xt_md[y]? = some D) (hi : xt_lk D.2.2.2.2.2 pc = some (.ifCond .lt off, 3)) (hj : xm_j pc off = some t) (hq : pc + 3 = q) (ha : xr a) (h1 : a < 0 → xe fm y (t, L, r, M) Q) (h2 : ¬ (a < 0) → xe fm y (q, L, r, M) Q) : xe fm y (pc, L, xi a :: r, M) Q :=
  xe_br hy hi hj hq rfl rfl rfl rfl (by rw [decide_eq_true_iff, xi_0]; exact xi_lt ha ⟨by decide, by decide⟩) h1 h2
theorem xe_if_ge {off : Int} {t : Nat} (hy : xt_md[y]? = some D) (hi : xt_lk D.2.2.2.2.2 pc = some (.ifCond .ge off, 3)) (hj : xm_j pc off = some t) (hq : pc + 3 = q) (ha : xr a) (h1 : 0 ≤ a → xe fm y (t, L, r, M) Q) (h2 : ¬ (0 ≤ a) → xe fm y (q, L, r, M) Q) : xe fm y (pc, L, xi a :: r, M) Q :=
  xe_br hy hi hj hq rfl rfl rfl rfl (by rw [decide_eq_true_iff, xi_0]; exact xi_le (a := 0) (b := a) ⟨by decide, by decide⟩ ha) h1 h2
theorem xe_if_gt {off : Int} {t : Nat} (hy : xt_md[y]? = some D) (hi : xt_lk D.2.2.2.2.2 pc = some (.ifCond .gt off, 3)) (hj : xm_j pc off = some t) (hq : pc + 3 = q) (ha : xr a) (h1 : 0 < a → xe fm y (t, L, r, M) Q) (h2 : ¬ (0 < a) → xe fm y (q, L, r, M) Q) : xe fm y (pc, L, xi a :: r, M) Q :=
  xe_br hy hi hj hq rfl rfl rfl rfl (by rw [decide_eq_true_iff, xi_0]; exact xi_lt (a := 0) (b := a) ⟨by decide, by decide⟩ ha) h1 h2
theorem xe_if_le {off : Int} {t : Nat} (hy : xt_md[y]? = some D) (hi : xt_lk D.2.2.2.2.2 pc = some (.ifCond .le off, 3)) (hj : xm_j pc off = some t) (hq : pc + 3 = q) (ha : xr a) (h1 : a ≤ 0 → xe fm y (t, L, r, M) Q) (h2 : ¬ (a ≤ 0) → xe fm y (q, L, r, M) Q) : xe fm y (pc, L, xi a :: r, M) Q :=
  xe_br hy hi hj hq rfl rfl rfl rfl (by rw [decide_eq_true_iff, xi_0]; exact xi_le ha ⟨by decide, by decide⟩) h1 h2
theorem xe_if_eq {off : Int} {t : Nat} (hy : xt_md[y]? = some D) (hi : xt_lk D.2.2.2.2.2 pc = some (.ifCond .eq off, 3)) (hj : xm_j pc off = some t) (hq : pc + 3 = q) (ha : xr a) (h1 : a = 0 → xe fm y (t, L, r, M) Q) (h2 : ¬ (a = 0) → xe fm y (q, L, r, M) Q) : xe fm y (pc, L, xi a :: r, M) Q :=
  xe_br hy hi hj hq rfl rfl rfl rfl (by rw [decide_eq_true_iff, xi_0]; exact xi_eq ha ⟨by decide, by decide⟩) h1 h2
theorem xe_if_ne {off : Int} {t : Nat} (hy : xt_md[y]? = some D) (hi : xt_lk D.2.2.2.2.2 pc = some (.ifCond .ne off, 3)) (hj : xm_j pc off = some t) (hq : pc + 3 = q) (ha : xr a) (h1 : a ≠ 0 → xe fm y (t, L, r, M) Q) (h2 : ¬ (a ≠ 0) → xe fm y (q, L, r, M) Q) : xe fm y (pc, L, xi a :: r, M) Q :=
  xe_br hy hi hj hq rfl rfl rfl rfl (by rw [Bool.not_eq_true', decide_eq_false_iff_not, xi_0]; exact not_congr (xi_eq ha ⟨by decide, by decide⟩)) h1 h2
theorem xe_iadd (hy : xt_md[y]? = some D) (hi : xt_lk D.2.2.2.2.2 pc = some (.iadd, 1)) (hq : pc + 1 = q) (kk : xe fm y (q, L, xi (a + b) :: r, M) Q) : xe fm y (pc, L, xi b :: xi a :: r, M) Q := by
  subst hq
  refine xe_s hy hi rfl rfl rfl (f := (pc + 1, L, xi (a + b) :: r, M)) ?_ kk
  show some (pc + 1, L, Value.int (Int32.ofInt a + Int32.ofInt b) :: r, M) = _
  rw [← Int32.ofInt_add]
theorem xe_isub (hy : xt_md[y]? = some D) (hi : xt_lk D.2.2.2.2.2 pc = some (.isub, 1)) (hq : pc + 1 = q) (kk : xe fm y (q, L, xi (a - b) :: r, M) Q) : xe fm y (pc, L, xi b :: xi a :: r, M) Q := by
  subst hq
  refine xe_s hy hi rfl rfl rfl (f := (pc + 1, L, xi (a - b) :: r, M)) ?_ kk
  show some (pc + 1, L, Value.int (Int32.ofInt a - Int32.ofInt b) :: r, M) = _
  rw [← Int32.ofInt_sub]
theorem xe_imul (hy : xt_md[y]? = some D) (hi : xt_lk D.2.2.2.2.2 pc = some (.imul, 1)) (hq : pc + 1 = q) (kk : xe fm y (q, L, xi (a * b) :: r, M) Q) : xe fm y (pc, L, xi b :: xi a :: r, M) Q := by
  subst hq
  refine xe_s hy hi rfl rfl rfl (f := (pc + 1, L, xi (a * b) :: r, M)) ?_ kk
  show some (pc + 1, L, Value.int (Int32.ofInt a * Int32.ofInt b) :: r, M) = _
  rw [← Int32.ofInt_mul]
theorem xe_bipush {k : Int} {S : List Value} (hy : xt_md[y]? = some D) (hi : xt_lk D.2.2.2.2.2 pc = some (.bipush k, 2)) (hq : pc + 2 = q) (h1 : -128 ≤ k) (h2 : k < 128) (kk : xe fm y (q, L, xi k :: S, M) Q) : xe fm y (pc, L, S, M) Q := by
  subst hq
  refine xe_s hy hi rfl rfl rfl (f := (pc + 2, L, xi k :: S, M)) ?_ kk
  show some (pc + 2, L, Value.int (Int8.ofInt k).toInt32 :: S, M) = _
  rw [xi_b h1 h2]
theorem xe_sipush {k : Int} {S : List Value} (hy : xt_md[y]? = some D) (hi : xt_lk D.2.2.2.2.2 pc = some (.sipush k, 3)) (hq : pc + 3 = q) (h1 : -32768 ≤ k) (h2 : k < 32768) (kk : xe fm y (q, L, xi k :: S, M) Q) : xe fm y (pc, L, S, M) Q := by
  subst hq
  refine xe_s hy hi rfl rfl rfl (f := (pc + 3, L, xi k :: S, M)) ?_ kk
  show some (pc + 3, L, Value.int (Int16.ofInt k).toInt32 :: S, M) = _
  rw [xi_s h1 h2]
theorem xe_iinc {i : Nat} {k : Int} {S : List Value} (hy : xt_md[y]? = some D) (hi : xt_lk D.2.2.2.2.2 pc = some (.iinc i k, 3)) (hq : pc + 3 = q) (hg : xm_get L i = some (xi a)) (hn : i < D.2.2.1) {L1 : xm_L} (hL : xm_s1 L i (xi (a + k)) = L1) (kk : xe fm y (q, L1, S, M) Q) : xe fm y (pc, L, S, M) Q := by
  subst hq
  subst hL
  refine xe_s hy hi rfl rfl rfl (f := (pc + 3, xm_s1 L i (xi (a + k)), S, M)) ?_ kk
  show xm_inc i k D.2.2.1 pc L S M = _
  unfold xm_inc
  rw [hg]
  dsimp only
  rw [if_pos hn, ← Int32.ofInt_add]
end XRU
/-! call sites and fields, one by one -/
theorem xt_g348 : xt_md[348]? = some xt_m348 := by rfl
theorem xk_12_66 : xt_ci "TabKernelLaw" 66 = some (3, 0, 1, "") := by decide +kernel
theorem xk_0_9 : xt_ci "TabKernel" 9 = some (3, 1, 0, "") := by decide +kernel
theorem xk_16_1 : xt_ci "java/lang/StringBuilder" 1 = some (3, 2, 1, "") := by decide +kernel
theorem xk_14_26 : xt_ci "java/lang/AbstractStringBuilder" 26 = some (0, 3, 1, "") := by decide +kernel
theorem xk_18_11 : xt_ci "java/lang/StringUTF16" 11 = some (0, 4, 1, "") := by decide +kernel
theorem xk_0_21 : xt_ci "TabKernel" 21 = some (3, 5, 0, "") := by decide +kernel
theorem xk_2_11 : xt_ci "TabKernel$AddressReader" 11 = some (3, 1, 0, "") := by decide +kernel
theorem xk_0_28 : xt_ci "TabKernel" 28 = some (3, 6, 0, "") := by decide +kernel
theorem xk_0_66 : xt_ci "TabKernel" 66 = some (0, 7, 2, "") := by decide +kernel
theorem xk_0_72 : xt_ci "TabKernel" 72 = some (0, 8, 2, "") := by decide +kernel
theorem xk_0_75 : xt_ci "TabKernel" 75 = some (3, 9, 1, "") := by decide +kernel
theorem xk_6_11 : xt_ci "TabKernel$Jar" 11 = some (3, 10, 0, "") := by decide +kernel
theorem xk_12_73 : xt_ci "TabKernelLaw" 73 = some (1, 11, 1, "TabKernel") := by decide +kernel
theorem xk_0_82 : xt_ci "TabKernel" 82 = some (1, 12, 0, "java/lang/StringBuilder") := by decide +kernel
theorem xk_16_343 : xt_ci "java/lang/StringBuilder" 343 = some (4, 13, 0, "java/lang/StringBuilder") := by decide +kernel
theorem xk_0_86 : xt_ci "TabKernel" 86 = some (1, 14, 1, "java/lang/StringBuilder") := by decide +kernel
theorem xk_16_333 : xt_ci "java/lang/StringBuilder" 333 = some (4, 15, 1, "java/lang/StringBuilder") := by decide +kernel
theorem xk_16_29 : xt_ci "java/lang/StringBuilder" 29 = some (4, 17, 1, "java/lang/StringBuilder") := by decide +kernel
theorem xk_14_204 : xt_ci "java/lang/AbstractStringBuilder" 204 = some (1, 18, 0, "java/lang/StringBuilder") := by decide +kernel
theorem xk_14_100 : xt_ci "java/lang/AbstractStringBuilder" 100 = some (1, 19, 1, "java/lang/StringBuilder") := by decide +kernel
theorem xk_14_104 : xt_ci "java/lang/AbstractStringBuilder" 104 = some (1, 20, 1, "java/lang/StringBuilder") := by decide +kernel
theorem xk_14_114 : xt_ci "java/lang/AbstractStringBuilder" 114 = some (0, 21, 3, "") := by decide +kernel
theorem xk_20_194 : xt_ci "jdk/internal/util/ArraysSupport" 194 = some (0, 8, 2, "") := by decide +kernel
theorem xk_20_201 : xt_ci "jdk/internal/util/ArraysSupport" 201 = some (0, 22, 2, "") := by decide +kernel
theorem xk_14_108 : xt_ci "java/lang/AbstractStringBuilder" 108 = some (0, 23, 2, "") := by decide +kernel
theorem xk_19_304 : xt_ci "java/util/Arrays" 304 = some (0, 7, 2, "") := by decide +kernel
theorem xk_14_83 : xt_ci "java/lang/AbstractStringBuilder" 83 = some (1, 24, 0, "java/lang/StringBuilder") := by decide +kernel
theorem xk_14_226 : xt_ci "java/lang/AbstractStringBuilder" 226 = some (0, 25, 6, "") := by decide +kernel
theorem xk_18_96 : xt_ci "java/lang/StringUTF16" 96 = some (0, 26, 3, "") := by decide +kernel
theorem xk_18_48 : xt_ci "java/lang/StringUTF16" 48 = some (0, 27, 1, "") := by decide +kernel
theorem xk_18_241 : xt_ci "java/lang/StringUTF16" 241 = some (0, 28, 3, "") := by decide +kernel
theorem xk_15_1062 : xt_ci "java/lang/String" 1062 = some (0, 29, 4, "") := by decide +kernel
theorem xk_18_111 : xt_ci "java/lang/StringUTF16" 111 = some (0, 30, 3, "") := by decide +kernel
theorem xk_14_32 : xt_ci "java/lang/AbstractStringBuilder" 32 = some (1, 31, 0, "java/lang/String") := by decide +kernel
theorem xk_15_335 : xt_ci "java/lang/String" 335 = some (1, 32, 0, "java/lang/String") := by decide +kernel
theorem xk_14_208 : xt_ci "java/lang/AbstractStringBuilder" 208 = some (1, 33, 2, "java/lang/StringBuilder") := by decide +kernel
theorem xk_14_397 : xt_ci "java/lang/AbstractStringBuilder" 397 = some (1, 34, 1, "java/lang/StringBuilder") := by decide +kernel
theorem xk_14_40 : xt_ci "java/lang/AbstractStringBuilder" 40 = some (1, 32, 0, "java/lang/String") := by decide +kernel
theorem xk_14_195 : xt_ci "java/lang/AbstractStringBuilder" 195 = some (1, 35, 0, "java/lang/StringBuilder") := by decide +kernel
theorem xk_14_125 : xt_ci "java/lang/AbstractStringBuilder" 125 = some (0, 36, 5, "") := by decide +kernel
theorem xk_17_240 : xt_ci "java/lang/StringLatin1" 240 = some (0, 37, 5, "") := by decide +kernel
theorem xk_18_173 : xt_ci "java/lang/StringUTF16" 173 = some (0, 38, 3, "") := by decide +kernel
theorem xk_18_419 : xt_ci "java/lang/StringUTF16" 419 = some (0, 39, 3, "") := by decide +kernel
theorem xk_15_1065 : xt_ci "java/lang/String" 1065 = some (0, 40, 4, "") := by decide +kernel
theorem xk_14_399 : xt_ci "java/lang/AbstractStringBuilder" 399 = some (1, 41, 3, "java/lang/String") := by decide +kernel
theorem xk_15_106 : xt_ci "java/lang/String" 106 = some (0, 36, 5, "") := by decide +kernel
theorem xk_16_53 : xt_ci "java/lang/StringBuilder" 53 = some (4, 43, 1, "java/lang/StringBuilder") := by decide +kernel
theorem xk_14_245 : xt_ci "java/lang/AbstractStringBuilder" 245 = some (0, 44, 1, "") := by decide +kernel
theorem xk_14_248 : xt_ci "java/lang/AbstractStringBuilder" 248 = some (0, 45, 3, "") := by decide +kernel
theorem xk_14_251 : xt_ci "java/lang/AbstractStringBuilder" 251 = some (0, 46, 4, "") := by decide +kernel
theorem xk_18_393 : xt_ci "java/lang/StringUTF16" 393 = some (0, 47, 3, "") := by decide +kernel
theorem xk_16_137 : xt_ci "java/lang/StringBuilder" 137 = some (3, 49, 1, "") := by decide +kernel
theorem xk_15_489 : xt_ci "java/lang/String" 489 = some (3, 50, 2, "") := by decide +kernel
theorem xk_15_552 : xt_ci "java/lang/String" 552 = some (1, 51, 0, "java/lang/StringBuilder") := by decide +kernel
theorem xk_15_549 : xt_ci "java/lang/String" 549 = some (2, 12, 0, "java/lang/StringBuilder") := by decide +kernel
theorem xk_15_1047 : xt_ci "java/lang/String" 1047 = some (1, 24, 0, "java/lang/StringBuilder") := by decide +kernel
theorem xk_15_54 : xt_ci "java/lang/String" 54 = some (0, 52, 3, "") := by decide +kernel
theorem xk_19_339 : xt_ci "java/util/Arrays" 339 = some (0, 53, 3, "") := by decide +kernel
theorem xk_19_343 : xt_ci "java/util/Arrays" 343 = some (0, 54, 2, "") := by decide +kernel
theorem xk_15_1051 : xt_ci "java/lang/String" 1051 = some (0, 55, 3, "") := by decide +kernel
theorem xk_18_123 : xt_ci "java/lang/StringUTF16" 123 = some (0, 56, 5, "") := by decide +kernel
theorem xk_18_71 : xt_ci "java/lang/StringUTF16" 71 = some (0, 57, 2, "") := by decide +kernel
theorem xk_18_126 : xt_ci "java/lang/StringUTF16" 126 = some (0, 52, 3, "") := by decide +kernel
theorem xk_15_47 : xt_ci "java/lang/String" 47 = some (0, 58, 2, "") := by decide +kernel
theorem xk_14_133 : xt_ci "java/lang/AbstractStringBuilder" 133 = some (0, 59, 3, "") := by decide +kernel
theorem xk_17_236 : xt_ci "java/lang/StringLatin1" 236 = some (0, 60, 4, "") := by decide +kernel
theorem xk_19_13 : xt_ci "java/util/Arrays" 13 = some (0, 61, 3, "") := by decide +kernel
theorem xk_14_137 : xt_ci "java/lang/AbstractStringBuilder" 137 = some (0, 62, 3, "") := by decide +kernel
theorem xk_18_380 : xt_ci "java/lang/StringUTF16" 380 = some (0, 60, 4, "") := by decide +kernel
theorem xk_0_89 : xt_ci "TabKernel" 89 = some (1, 63, 1, "java/lang/StringBuilder") := by decide +kernel
theorem xk_16_50 : xt_ci "java/lang/StringBuilder" 50 = some (4, 64, 1, "java/lang/StringBuilder") := by decide +kernel
theorem xk_14_191 : xt_ci "java/lang/AbstractStringBuilder" 191 = some (0, 65, 1, "") := by decide +kernel
theorem xk_14_197 : xt_ci "java/lang/AbstractStringBuilder" 197 = some (0, 66, 3, "") := by decide +kernel
theorem xk_18_67 : xt_ci "java/lang/StringUTF16" 67 = some (0, 67, 2, "") := by decide +kernel
theorem xk_18_414 : xt_ci "java/lang/StringUTF16" 414 = some (0, 68, 2, "") := by decide +kernel
theorem xk_15_1059 : xt_ci "java/lang/String" 1059 = some (0, 69, 3, "") := by decide +kernel
theorem xk_12_78 : xt_ci "TabKernelLaw" 78 = some (1, 70, 0, "TabKernel") := by decide +kernel
theorem xk_0_93 : xt_ci "TabKernel" 93 = some (1, 71, 0, "TabKernel") := by decide +kernel
theorem xk_0_253 : xt_ci "TabKernel" 253 = some (1, 48, 0, "java/lang/StringBuilder") := by decide +kernel
theorem xk_0_97 : xt_ci "TabKernel" 97 = some (0, 72, 1, "") := by decide +kernel
theorem xk_0_353 : xt_ci "TabKernel" 353 = some (1, 73, 0, "java/lang/String") := by decide +kernel
theorem xk_15_492 : xt_ci "java/lang/String" 492 = some (1, 74, 0, "java/lang/String") := by decide +kernel
theorem xk_15_299 : xt_ci "java/lang/String" 299 = some (0, 75, 1, "") := by decide +kernel
theorem xk_17_13 : xt_ci "java/lang/StringLatin1" 13 = some (0, 76, 5, "") := by decide +kernel
theorem xk_15_303 : xt_ci "java/lang/String" 303 = some (0, 77, 1, "") := by decide +kernel
theorem xk_18_103 : xt_ci "java/lang/StringUTF16" 103 = some (0, 78, 5, "") := by decide +kernel
theorem xk_0_357 : xt_ci "TabKernel" 357 = some (3, 79, 1, "") := by decide +kernel
theorem xk_15_27 : xt_ci "java/lang/String" 27 = some (3, 80, 4, "") := by decide +kernel
theorem xk_15_177 : xt_ci "java/lang/String" 177 = some (0, 81, 3, "") := by decide +kernel
theorem xk_18_115 : xt_ci "java/lang/StringUTF16" 115 = some (0, 82, 5, "") := by decide +kernel
theorem xk_18_119 : xt_ci "java/lang/StringUTF16" 119 = some (0, 83, 3, "") := by decide +kernel
theorem xk_18_107 : xt_ci "java/lang/StringUTF16" 107 = some (0, 3, 1, "") := by decide +kernel
theorem xk_15_180 : xt_ci "java/lang/String" 180 = some (0, 83, 3, "") := by decide +kernel
theorem xk_0_101 : xt_ci "TabKernel" 101 = some (0, 84, 2, "") := by decide +kernel
theorem xk_0_105 : xt_ci "TabKernel" 105 = some (1, 31, 0, "java/lang/String") := by decide +kernel
theorem xk_0_349 : xt_ci "TabKernel" 349 = some (1, 85, 1, "java/lang/String") := by decide +kernel
theorem xk_15_495 : xt_ci "java/lang/String" 495 = some (0, 86, 2, "") := by decide +kernel
theorem xk_17_9 : xt_ci "java/lang/StringLatin1" 9 = some (0, 68, 2, "") := by decide +kernel
theorem xk_15_498 : xt_ci "java/lang/String" 498 = some (0, 87, 2, "") := by decide +kernel
theorem xk_0_364 : xt_ci "TabKernel" 364 = some (0, 88, 1, "") := by decide +kernel
theorem xk_0_368 : xt_ci "TabKernel" 368 = some (0, 89, 1, "") := by decide +kernel
theorem xk_0_112 : xt_ci "TabKernel" 112 = some (1, 90, 1, "TabKernel$Suffixes") := by decide +kernel
theorem xk_11_21 : xt_ci "TabKernel$Suffixes" 21 = some (1, 91, 1, "TabKernel$Suffixes") := by decide +kernel
theorem xk_11_32 : xt_ci "TabKernel$Suffixes" 32 = some (1, 92, 1, "java/lang/String") := by decide +kernel
theorem xk_15_541 : xt_ci "java/lang/String" 541 = some (0, 93, 2, "") := by decide +kernel
theorem xk_11_25 : xt_ci "TabKernel$Suffixes" 25 = some (3, 94, 1, "") := by decide +kernel
theorem xk_0_118 : xt_ci "TabKernel" 118 = some (1, 95, 0, "TabKernel$Suffixes") := by decide +kernel
theorem xk_12_83 : xt_ci "TabKernelLaw" 83 = some (1, 96, 1, "TabKernel") := by decide +kernel
theorem xk_0_121 : xt_ci "TabKernel" 121 = some (1, 97, 1, "TabKernel$Jar") := by decide +kernel
theorem xk_0_125 : xt_ci "TabKernel" 125 = some (1, 98, 0, "TabKernel$Jar") := by decide +kernel
theorem xk_12_87 : xt_ci "TabKernelLaw" 87 = some (1, 99, 0, "TabKernel") := by decide +kernel
theorem xk_0_128 : xt_ci "TabKernel" 128 = some (1, 100, 2, "TabKernel$AddressReader") := by decide +kernel
theorem xk_2_37 : xt_ci "TabKernel$AddressReader" 37 = some (1, 101, 0, "TabKernel$AddressReader") := by decide +kernel
theorem xk_2_54 : xt_ci "TabKernel$AddressReader" 54 = some (1, 102, 1, "TabKernel$AddressReader") := by decide +kernel
theorem xk_2_64 : xt_ci "TabKernel$AddressReader" 64 = some (1, 31, 0, "java/lang/String") := by decide +kernel
theorem xk_2_70 : xt_ci "TabKernel$AddressReader" 70 = some (1, 103, 2, "java/lang/String") := by decide +kernel
theorem xk_15_505 : xt_ci "java/lang/String" 505 = some (1, 31, 0, "java/lang/String") := by decide +kernel
theorem xk_15_521 : xt_ci "java/lang/String" 521 = some (0, 28, 3, "") := by decide +kernel
theorem xk_15_685 : xt_ci "java/lang/String" 685 = some (0, 104, 3, "") := by decide +kernel
theorem xk_17_232 : xt_ci "java/lang/StringLatin1" 232 = some (0, 52, 3, "") := by decide +kernel
theorem xk_17_112 : xt_ci "java/lang/StringLatin1" 112 = some (3, 105, 2, "") := by decide +kernel
theorem xk_15_689 : xt_ci "java/lang/String" 689 = some (0, 106, 3, "") := by decide +kernel
theorem xk_18_257 : xt_ci "java/lang/StringUTF16" 257 = some (0, 55, 3, "") := by decide +kernel
theorem xk_18_259 : xt_ci "java/lang/StringUTF16" 259 = some (0, 58, 2, "") := by decide +kernel
theorem xk_18_263 : xt_ci "java/lang/StringUTF16" 263 = some (3, 105, 2, "") := by decide +kernel
theorem xk_2_74 : xt_ci "TabKernel$AddressReader" 74 = some (0, 72, 1, "") := by decide +kernel
theorem xk_2_78 : xt_ci "TabKernel$AddressReader" 78 = some (1, 92, 1, "java/lang/String") := by decide +kernel
theorem xk_2_41 : xt_ci "TabKernel$AddressReader" 41 = some (1, 107, 0, "TabKernel$AddressReader") := by decide +kernel
theorem xk_2_86 : xt_ci "TabKernel$AddressReader" 86 = some (0, 84, 2, "") := by decide +kernel
theorem xk_2_90 : xt_ci "TabKernel$AddressReader" 90 = some (1, 108, 0, "TabKernel$AddressReader") := by decide +kernel
theorem xk_2_125 : xt_ci "TabKernel$AddressReader" 125 = some (1, 109, 0, "TabKernel$AddressReader") := by decide +kernel
theorem xk_2_93 : xt_ci "TabKernel$AddressReader" 93 = some (1, 110, 0, "TabKernel$AddressReader") := by decide +kernel
theorem xk_2_82 : xt_ci "TabKernel$AddressReader" 82 = some (1, 85, 1, "java/lang/String") := by decide +kernel
theorem xk_2_128 : xt_ci "TabKernel$AddressReader" 128 = some (0, 89, 1, "") := by decide +kernel
theorem xk_2_97 : xt_ci "TabKernel$AddressReader" 97 = some (1, 111, 1, "TabKernel$AddressReader") := by decide +kernel
theorem xk_2_133 : xt_ci "TabKernel$AddressReader" 133 = some (0, 112, 1, "") := by decide +kernel
theorem xk_2_154 : xt_ci "TabKernel$AddressReader" 154 = some (0, 88, 1, "") := by decide +kernel
theorem xk_2_136 : xt_ci "TabKernel$AddressReader" 136 = some (1, 14, 1, "java/lang/StringBuilder") := by decide +kernel
theorem xk_2_140 : xt_ci "TabKernel$AddressReader" 140 = some (1, 16, 1, "java/lang/StringBuilder") := by decide +kernel
theorem xk_2_144 : xt_ci "TabKernel$AddressReader" 144 = some (1, 48, 0, "java/lang/StringBuilder") := by decide +kernel
theorem xk_2_103 : xt_ci "TabKernel$AddressReader" 103 = some (1, 113, 0, "TabKernel$AddressReader") := by decide +kernel
theorem xk_2_148 : xt_ci "TabKernel$AddressReader" 148 = some (1, 114, 0, "TabKernel$AddressReader") := by decide +kernel
theorem xk_2_151 : xt_ci "TabKernel$AddressReader" 151 = some (0, 115, 1, "") := by decide +kernel
theorem xk_2_44 : xt_ci "TabKernel$AddressReader" 44 = some (1, 116, 1, "TabKernel$AddressReader") := by decide +kernel
theorem xk_2_118 : xt_ci "TabKernel$AddressReader" 118 = some (0, 117, 1, "") := by decide +kernel
theorem xk_2_121 : xt_ci "TabKernel$AddressReader" 121 = some (0, 118, 3, "") := by decide +kernel
theorem xk_2_48 : xt_ci "TabKernel$AddressReader" 48 = some (1, 119, 0, "TabKernel$AddressReader") := by decide +kernel
theorem xk_2_173 : xt_ci "TabKernel$AddressReader" 173 = some (1, 120, 1, "TabKernel$AddressReader") := by decide +kernel
theorem xk_2_157 : xt_ci "TabKernel$AddressReader" 157 = some (1, 121, 2, "TabKernel$AddressReader") := by decide +kernel
theorem xk_2_163 : xt_ci "TabKernel$AddressReader" 163 = some (1, 122, 0, "TabKernel$AddressReader") := by decide +kernel
theorem xk_2_171 : xt_ci "TabKernel$AddressReader" 171 = some (1, 12, 0, "java/lang/StringBuilder") := by decide +kernel
theorem xk_2_172 : xt_ci "TabKernel$AddressReader" 172 = some (1, 123, 1, "java/lang/StringBuilder") := by decide +kernel
theorem xk_16_329 : xt_ci "java/lang/StringBuilder" 329 = some (4, 124, 1, "java/lang/StringBuilder") := by decide +kernel
theorem xk_14_138 : xt_ci "java/lang/AbstractStringBuilder" 138 = some (0, 7, 2, "") := by decide +kernel
theorem xk_14_144 : xt_ci "java/lang/AbstractStringBuilder" 144 = some (0, 68, 2, "") := by decide +kernel
theorem xk_14_148 : xt_ci "java/lang/AbstractStringBuilder" 148 = some (0, 57, 2, "") := by decide +kernel
theorem xk_2_168 : xt_ci "TabKernel$AddressReader" 168 = some (1, 63, 1, "java/lang/StringBuilder") := by decide +kernel
theorem xk_2_176 : xt_ci "TabKernel$AddressReader" 176 = some (1, 42, 1, "java/lang/StringBuilder") := by decide +kernel
theorem xk_2_179 : xt_ci "TabKernel$AddressReader" 179 = some (3, 125, 6, "") := by decide +kernel
theorem xk_0_132 : xt_ci "TabKernel" 132 = some (1, 126, 0, "TabKernel") := by decide +kernel
theorem xk_0_135 : xt_ci "TabKernel" 135 = some (1, 127, 0, "TabKernel") := by decide +kernel
theorem xk_0_138 : xt_ci "TabKernel" 138 = some (1, 128, 0, "TabKernel") := by decide +kernel
theorem xk_0_141 : xt_ci "TabKernel" 141 = some (1, 129, 3, "TabKernel") := by decide +kernel
theorem xk_0_326 : xt_ci "TabKernel" 326 = some (3, 130, 3, "") := by decide +kernel
theorem xk_0_145 : xt_ci "TabKernel" 145 = some (1, 131, 2, "TabKernel") := by decide +kernel
theorem xk_0_336 : xt_ci "TabKernel" 336 = some (1, 132, 1, "TabKernel") := by decide +kernel
theorem xk_0_201 : xt_ci "TabKernel" 201 = some (1, 133, 0, "TabKernel$Request") := by decide +kernel
theorem xk_0_190 : xt_ci "TabKernel" 190 = some (3, 134, 5, "") := by decide +kernel
theorem xk_0_193 : xt_ci "TabKernel" 193 = some (1, 135, 1, "TabKernel") := by decide +kernel
theorem xk_0_341 : xt_ci "TabKernel" 341 = some (1, 16, 1, "java/lang/StringBuilder") := by decide +kernel
theorem xk_0_249 : xt_ci "TabKernel" 249 = some (1, 136, 3, "TabKernel$Jar") := by decide +kernel
theorem xk_6_38 : xt_ci "TabKernel$Jar" 38 = some (1, 137, 1, "TabKernel$Cookie") := by decide +kernel
theorem xk_6_155 : xt_ci "TabKernel$Jar" 155 = some (1, 138, 2, "TabKernel$Cookie") := by decide +kernel
theorem xk_3_44 : xt_ci "TabKernel$Cookie" 44 = some (1, 92, 1, "java/lang/String") := by decide +kernel
theorem xk_3_55 : xt_ci "TabKernel$Cookie" 55 = some (0, 139, 2, "") := by decide +kernel
theorem xk_0_360 : xt_ci "TabKernel" 360 = some (0, 140, 3, "") := by decide +kernel
theorem xk_3_60 : xt_ci "TabKernel$Cookie" 60 = some (1, 141, 1, "TabKernel$Cookie") := by decide +kernel
theorem xk_3_65 : xt_ci "TabKernel$Cookie" 65 = some (0, 140, 3, "") := by decide +kernel
theorem xk_3_69 : xt_ci "TabKernel$Cookie" 69 = some (1, 31, 0, "java/lang/String") := by decide +kernel
theorem xk_3_75 : xt_ci "TabKernel$Cookie" 75 = some (1, 85, 1, "java/lang/String") := by decide +kernel
theorem xk_6_159 : xt_ci "TabKernel$Jar" 159 = some (1, 142, 2, "TabKernel$Jar") := by decide +kernel
theorem xk_6_117 : xt_ci "TabKernel$Jar" 117 = some (1, 31, 0, "java/lang/String") := by decide +kernel
theorem xk_6_165 : xt_ci "TabKernel$Jar" 165 = some (1, 16, 1, "java/lang/StringBuilder") := by decide +kernel
theorem xk_6_174 : xt_ci "TabKernel$Jar" 174 = some (1, 63, 1, "java/lang/StringBuilder") := by decide +kernel
theorem xk_0_219 : xt_ci "TabKernel" 219 = some (1, 143, 4, "TabKernel") := by decide +kernel
theorem xk_0_313 : xt_ci "TabKernel" 313 = some (3, 144, 4, "") := by decide +kernel
theorem xk_12_101 : xt_ci "TabKernelLaw" 101 = some (1, 145, 0, "TabKernel") := by decide +kernel
theorem xk_0_160 : xt_ci "TabKernel" 160 = some (1, 146, 1, "TabKernel") := by decide +kernel
theorem xk_12_146 : xt_ci "TabKernelLaw" 146 = some (1, 147, 0, "TabKernel") := by decide +kernel
theorem xk_0_256 : xt_ci "TabKernel" 256 = some (1, 148, 1, "TabKernel") := by decide +kernel
theorem xk_12_150 : xt_ci "TabKernelLaw" 150 = some (1, 149, 2, "TabKernel") := by decide +kernel
theorem xk_0_277 : xt_ci "TabKernel" 277 = some (1, 150, 1, "TabKernel") := by decide +kernel
theorem xk_0_280 : xt_ci "TabKernel" 280 = some (1, 151, 2, "TabKernel") := by decide +kernel
theorem xk_0_283 : xt_ci "TabKernel" 283 = some (1, 152, 1, "TabKernel") := by decide +kernel
theorem xk_0_286 : xt_ci "TabKernel" 286 = some (0, 153, 2, "") := by decide +kernel
theorem xk_0_290 : xt_ci "TabKernel" 290 = some (1, 154, 0, "TabKernel$Jar") := by decide +kernel
theorem xk_12_154 : xt_ci "TabKernelLaw" 154 = some (1, 155, 2, "TabKernel") := by decide +kernel
theorem xk_0_296 : xt_ci "TabKernel" 296 = some (1, 156, 1, "TabKernel") := by decide +kernel
theorem xk_12_158 : xt_ci "TabKernelLaw" 158 = some (1, 157, 2, "TabKernel") := by decide +kernel
theorem xk_0_310 : xt_ci "TabKernel" 310 = some (0, 158, 2, "") := by decide +kernel
theorem xk_12_162 : xt_ci "TabKernelLaw" 162 = some (1, 159, 0, "TabKernel") := by decide +kernel
theorem xk_12_166 : xt_ci "TabKernelLaw" 166 = some (1, 160, 1, "TabKernel") := by decide +kernel
theorem xk_12_60 : xt_ci "TabKernelLaw" 60 = some (0, 161, 2, "") := by decide +kernel
theorem xk_12_91 : xt_ci "TabKernelLaw" 91 = some (0, 162, 2, "") := by decide +kernel
theorem xk_12_7 : xt_ci "TabKernelLaw" 7 = some (1, 163, 1, "TabKernel") := by decide +kernel
theorem xk_0_149 : xt_ci "TabKernel" 149 = some (1, 164, 1, "TabKernel") := by decide +kernel
theorem xk_0_153 : xt_ci "TabKernel" 153 = some (1, 165, 1, "TabKernel") := by decide +kernel
theorem xk_0_332 : xt_ci "TabKernel" 332 = some (1, 166, 1, "TabKernel$Frame") := by decide +kernel
theorem xk_0_157 : xt_ci "TabKernel" 157 = some (1, 167, 1, "TabKernel") := by decide +kernel
theorem xk_0_329 : xt_ci "TabKernel" 329 = some (1, 168, 1, "TabKernel") := by decide +kernel
theorem xk_12_98 : xt_ci "TabKernelLaw" 98 = some (0, 169, 2, "") := by decide +kernel
theorem xk_12_15 : xt_ci "TabKernelLaw" 15 = some (1, 170, 1, "TabKernel") := by decide +kernel
theorem xk_12_105 : xt_ci "TabKernelLaw" 105 = some (0, 171, 3, "") := by decide +kernel
theorem xk_12_18 : xt_ci "TabKernelLaw" 18 = some (1, 172, 1, "TabKernel") := by decide +kernel
theorem xk_0_163 : xt_ci "TabKernel" 163 = some (1, 173, 1, "TabKernel") := by decide +kernel
theorem xk_0_173 : xt_ci "TabKernel" 173 = some (1, 174, 2, "TabKernel") := by decide +kernel
theorem xk_12_109 : xt_ci "TabKernelLaw" 109 = some (0, 175, 4, "") := by decide +kernel
theorem xk_12_22 : xt_ci "TabKernelLaw" 22 = some (1, 176, 2, "TabKernel") := by decide +kernel
theorem xk_0_180 : xt_ci "TabKernel" 180 = some (1, 177, 2, "TabKernel") := by decide +kernel
theorem xk_0_184 : xt_ci "TabKernel" 184 = some (1, 178, 1, "TabKernel$Address") := by decide +kernel
theorem xk_1_30 : xt_ci "TabKernel$Address" 30 = some (1, 92, 1, "java/lang/String") := by decide +kernel
theorem xk_12_113 : xt_ci "TabKernelLaw" 113 = some (0, 179, 5, "") := by decide +kernel
theorem xk_12_26 : xt_ci "TabKernelLaw" 26 = some (1, 180, 3, "TabKernel") := by decide +kernel
theorem xk_12_117 : xt_ci "TabKernelLaw" 117 = some (0, 181, 2, "") := by decide +kernel
theorem xk_12_30 : xt_ci "TabKernelLaw" 30 = some (1, 182, 1, "TabKernel") := by decide +kernel
theorem xk_0_197 : xt_ci "TabKernel" 197 = some (1, 183, 1, "TabKernel") := by decide +kernel
theorem xk_0_205 : xt_ci "TabKernel" 205 = some (1, 184, 2, "TabKernel") := by decide +kernel
theorem xk_0_209 : xt_ci "TabKernel" 209 = some (1, 185, 0, "TabKernel$Request") := by decide +kernel
theorem xk_8_45 : xt_ci "TabKernel$Request" 45 = some (1, 178, 1, "TabKernel$Address") := by decide +kernel
theorem xk_12_120 : xt_ci "TabKernelLaw" 120 = some (0, 186, 2, "") := by decide +kernel
theorem xk_12_33 : xt_ci "TabKernelLaw" 33 = some (1, 187, 1, "TabKernel") := by decide +kernel
theorem xk_0_228 : xt_ci "TabKernel" 228 = some (1, 188, 3, "TabKernel$Jar") := by decide +kernel
theorem xk_6_42 : xt_ci "TabKernel$Jar" 42 = some (1, 189, 0, "TabKernel$Jar") := by decide +kernel
theorem xk_6_69 : xt_ci "TabKernel$Jar" 69 = some (1, 190, 1, "TabKernel$Jar") := by decide +kernel
theorem xk_6_45 : xt_ci "TabKernel$Jar" 45 = some (0, 191, 1, "") := by decide +kernel
theorem xk_4_30 : xt_ci "TabKernel$CookieText" 30 = some (1, 31, 0, "java/lang/String") := by decide +kernel
theorem xk_4_36 : xt_ci "TabKernel$CookieText" 36 = some (0, 192, 4, "") := by decide +kernel
theorem xk_4_40 : xt_ci "TabKernel$CookieText" 40 = some (0, 193, 3, "") := by decide +kernel
theorem xk_4_51 : xt_ci "TabKernel$CookieText" 51 = some (1, 85, 1, "java/lang/String") := by decide +kernel
theorem xk_4_106 : xt_ci "TabKernel$CookieText" 106 = some (1, 103, 2, "java/lang/String") := by decide +kernel
theorem xk_4_44 : xt_ci "TabKernel$CookieText" 44 = some (1, 194, 0, "java/lang/String") := by decide +kernel
theorem xk_4_48 : xt_ci "TabKernel$CookieText" 48 = some (3, 195, 2, "") := by decide +kernel
theorem xk_4_55 : xt_ci "TabKernel$CookieText" 55 = some (1, 196, 3, "TabKernel$CookieText") := by decide +kernel
theorem xk_4_59 : xt_ci "TabKernel$CookieText" 59 = some (0, 72, 1, "") := by decide +kernel
theorem xk_4_64 : xt_ci "TabKernel$CookieText" 64 = some (1, 92, 1, "java/lang/String") := by decide +kernel
theorem xk_4_68 : xt_ci "TabKernel$CookieText" 68 = some (1, 197, 1, "TabKernel$CookieText") := by decide +kernel
theorem xk_4_75 : xt_ci "TabKernel$CookieText" 75 = some (0, 140, 3, "") := by decide +kernel
theorem xk_4_96 : xt_ci "TabKernel$CookieText" 96 = some (1, 198, 1, "java/lang/String") := by decide +kernel
theorem xk_15_681 : xt_ci "java/lang/String" 681 = some (1, 103, 2, "java/lang/String") := by decide +kernel
theorem xk_4_81 : xt_ci "TabKernel$CookieText" 81 = some (1, 199, 1, "TabKernel$CookieText") := by decide +kernel
theorem xk_4_102 : xt_ci "TabKernel$CookieText" 102 = some (0, 89, 1, "") := by decide +kernel
theorem xk_6_51 : xt_ci "TabKernel$Jar" 51 = some (1, 200, 2, "TabKernel$Jar") := by decide +kernel
theorem xk_6_82 : xt_ci "TabKernel$Jar" 82 = some (1, 194, 0, "java/lang/String") := by decide +kernel
theorem xk_6_93 : xt_ci "TabKernel$Jar" 93 = some (0, 139, 2, "") := by decide +kernel
theorem xk_6_97 : xt_ci "TabKernel$Jar" 97 = some (1, 201, 1, "TabKernel$Suffixes") := by decide +kernel
theorem xk_11_38 : xt_ci "TabKernel$Suffixes" 38 = some (1, 202, 1, "java/lang/String") := by decide +kernel
theorem xk_15_633 : xt_ci "java/lang/String" 633 = some (1, 203, 2, "java/lang/String") := by decide +kernel
theorem xk_15_637 : xt_ci "java/lang/String" 637 = some (0, 204, 4, "") := by decide +kernel
theorem xk_17_88 : xt_ci "java/lang/StringLatin1" 88 = some (0, 205, 1, "") := by decide +kernel
theorem xk_17_92 : xt_ci "java/lang/StringLatin1" 92 = some (0, 8, 2, "") := by decide +kernel
theorem xk_17_38 : xt_ci "java/lang/StringLatin1" 38 = some (0, 7, 2, "") := by decide +kernel
theorem xk_17_95 : xt_ci "java/lang/StringLatin1" 95 = some (0, 206, 4, "") := by decide +kernel
theorem xk_15_640 : xt_ci "java/lang/String" 640 = some (0, 207, 4, "") := by decide +kernel
theorem xk_18_224 : xt_ci "java/lang/StringUTF16" 224 = some (0, 8, 2, "") := by decide +kernel
theorem xk_18_183 : xt_ci "java/lang/StringUTF16" 183 = some (0, 7, 2, "") := by decide +kernel
theorem xk_18_228 : xt_ci "java/lang/StringUTF16" 228 = some (0, 208, 4, "") := by decide +kernel
theorem xk_18_244 : xt_ci "java/lang/StringUTF16" 244 = some (0, 209, 4, "") := by decide +kernel
theorem xk_18_232 : xt_ci "java/lang/StringUTF16" 232 = some (0, 210, 4, "") := by decide +kernel
theorem xk_18_164 : xt_ci "java/lang/StringUTF16" 164 = some (0, 211, 1, "") := by decide +kernel
theorem xk_18_157 : xt_ci "java/lang/StringUTF16" 157 = some (0, 212, 1, "") := by decide +kernel
theorem xk_18_161 : xt_ci "java/lang/StringUTF16" 161 = some (0, 213, 1, "") := by decide +kernel
theorem xk_6_101 : xt_ci "TabKernel$Jar" 101 = some (1, 92, 1, "java/lang/String") := by decide +kernel
theorem xk_6_109 : xt_ci "TabKernel$Jar" 109 = some (0, 214, 1, "") := by decide +kernel
theorem xk_6_127 : xt_ci "TabKernel$Jar" 127 = some (0, 118, 3, "") := by decide +kernel
theorem xk_6_133 : xt_ci "TabKernel$Jar" 133 = some (1, 103, 2, "java/lang/String") := by decide +kernel
theorem xk_6_124 : xt_ci "TabKernel$Jar" 124 = some (3, 215, 5, "") := by decide +kernel
theorem xk_6_55 : xt_ci "TabKernel$Jar" 55 = some (1, 216, 1, "TabKernel$Jar") := by decide +kernel
theorem xk_6_137 : xt_ci "TabKernel$Jar" 137 = some (1, 217, 1, "TabKernel$Cookie") := by decide +kernel
theorem xk_6_63 : xt_ci "TabKernel$Jar" 63 = some (0, 8, 2, "") := by decide +kernel
theorem xk_6_77 : xt_ci "TabKernel$Jar" 77 = some (1, 218, 1, "TabKernel$Jar") := by decide +kernel
theorem xk_6_141 : xt_ci "TabKernel$Jar" 141 = some (1, 219, 1, "TabKernel$Suffixes") := by decide +kernel
theorem xk_11_42 : xt_ci "TabKernel$Suffixes" 42 = some (1, 31, 0, "java/lang/String") := by decide +kernel
theorem xk_11_46 : xt_ci "TabKernel$Suffixes" 46 = some (0, 139, 2, "") := by decide +kernel
theorem xk_11_50 : xt_ci "TabKernel$Suffixes" 50 = some (0, 7, 2, "") := by decide +kernel
theorem xk_11_56 : xt_ci "TabKernel$Suffixes" 56 = some (0, 118, 3, "") := by decide +kernel
theorem xk_6_145 : xt_ci "TabKernel$Jar" 145 = some (1, 198, 1, "java/lang/String") := by decide +kernel
theorem xk_6_148 : xt_ci "TabKernel$Jar" 148 = some (1, 220, 2, "TabKernel$Jar") := by decide +kernel
theorem xk_6_151 : xt_ci "TabKernel$Jar" 151 = some (0, 140, 3, "") := by decide +kernel
theorem xk_12_123 : xt_ci "TabKernelLaw" 123 = some (0, 221, 3, "") := by decide +kernel
theorem xk_12_36 : xt_ci "TabKernelLaw" 36 = some (1, 222, 2, "TabKernel") := by decide +kernel
theorem xk_0_234 : xt_ci "TabKernel" 234 = some (1, 92, 1, "java/lang/String") := by decide +kernel
theorem xk_0_238 : xt_ci "TabKernel" 238 = some (1, 223, 3, "TabKernel$Request") := by decide +kernel
theorem xk_12_127 : xt_ci "TabKernelLaw" 127 = some (0, 224, 3, "") := by decide +kernel
theorem xk_12_40 : xt_ci "TabKernelLaw" 40 = some (1, 225, 1, "TabKernel") := by decide +kernel
theorem xk_0_242 : xt_ci "TabKernel" 242 = some (1, 226, 1, "TabKernel$Request") := by decide +kernel
theorem xk_0_245 : xt_ci "TabKernel" 245 = some (1, 227, 1, "TabKernel$Request") := by decide +kernel
theorem xk_8_54 : xt_ci "TabKernel$Request" 54 = some (1, 223, 3, "TabKernel$Request") := by decide +kernel
theorem xk_12_130 : xt_ci "TabKernelLaw" 130 = some (0, 228, 3, "") := by decide +kernel
theorem xk_12_44 : xt_ci "TabKernelLaw" 44 = some (1, 229, 1, "TabKernel") := by decide +kernel
theorem xk_12_133 : xt_ci "TabKernelLaw" 133 = some (0, 230, 3, "") := by decide +kernel
theorem xk_12_47 : xt_ci "TabKernelLaw" 47 = some (1, 231, 1, "TabKernel") := by decide +kernel
theorem xk_12_136 : xt_ci "TabKernelLaw" 136 = some (0, 232, 5, "") := by decide +kernel
theorem xk_12_50 : xt_ci "TabKernelLaw" 50 = some (1, 233, 3, "TabKernel") := by decide +kernel
theorem xk_0_260 : xt_ci "TabKernel" 260 = some (1, 234, 3, "TabKernel$Storage") := by decide +kernel
theorem xk_9_21 : xt_ci "TabKernel$Storage" 21 = some (1, 235, 1, "TabKernel$Storage") := by decide +kernel
theorem xk_9_33 : xt_ci "TabKernel$Storage" 33 = some (1, 178, 1, "TabKernel$Address") := by decide +kernel
theorem xk_9_25 : xt_ci "TabKernel$Storage" 25 = some (0, 236, 1, "") := by decide +kernel
theorem xk_12_140 : xt_ci "TabKernelLaw" 140 = some (0, 237, 4, "") := by decide +kernel
theorem xk_12_54 : xt_ci "TabKernelLaw" 54 = some (1, 238, 2, "TabKernel") := by decide +kernel
theorem xk_0_263 : xt_ci "TabKernel" 263 = some (1, 239, 2, "TabKernel$Storage") := by decide +kernel
theorem xk_12_143 : xt_ci "TabKernelLaw" 143 = some (0, 240, 5, "") := by decide +kernel
theorem xk_12_57 : xt_ci "TabKernelLaw" 57 = some (1, 241, 3, "TabKernel") := by decide +kernel
theorem xk_0_267 : xt_ci "TabKernel" 267 = some (1, 242, 3, "TabKernel") := by decide +kernel
theorem xk_0_271 : xt_ci "TabKernel" 271 = some (1, 42, 1, "java/lang/StringBuilder") := by decide +kernel
theorem xk_12_70 : xt_ci "TabKernelLaw" 70 = some (3, 243, 1, "") := by decide +kernel
theorem xk_12_95 : xt_ci "TabKernelLaw" 95 = some (1, 244, 0, "TabKernelModel") := by decide +kernel
theorem xk_12_77 : xt_ci "TabKernelLaw" 77 = some (1, 245, 1, "TabKernelModel") := by decide +kernel
theorem xk_12_82 : xt_ci "TabKernelLaw" 82 = some (1, 246, 0, "TabKernelModel") := by decide +kernel
theorem xk_13_213 : xt_ci "TabKernelModel" 213 = some (1, 247, 0, "TabKernelModel") := by decide +kernel
theorem xk_13_196 : xt_ci "TabKernelModel" 196 = some (1, 248, 0, "TabKernelModel") := by decide +kernel
theorem xk_13_155 : xt_ci "TabKernelModel" 155 = some (1, 249, 1, "TabKernelModel") := by decide +kernel
theorem xk_13_166 : xt_ci "TabKernelModel" 166 = some (0, 250, 1, "") := by decide +kernel
theorem xk_13_159 : xt_ci "TabKernelModel" 159 = some (0, 251, 1, "") := by decide +kernel
theorem xk_13_162 : xt_ci "TabKernelModel" 162 = some (0, 252, 1, "") := by decide +kernel
theorem xk_13_188 : xt_ci "TabKernelModel" 188 = some (1, 253, 1, "TabKernelModel") := by decide +kernel
theorem xk_13_250 : xt_ci "TabKernelModel" 250 = some (1, 254, 4, "TabKernelModel") := by decide +kernel
theorem xk_12_86 : xt_ci "TabKernelLaw" 86 = some (1, 255, 1, "TabKernelModel") := by decide +kernel
theorem xk_12_90 : xt_ci "TabKernelLaw" 90 = some (1, 256, 0, "TabKernelModel") := by decide +kernel
theorem xk_13_403 : xt_ci "TabKernelModel" 403 = some (1, 257, 1, "TabKernelModel") := by decide +kernel
theorem xk_13_226 : xt_ci "TabKernelModel" 226 = some (1, 258, 0, "TabKernelModel") := by decide +kernel
theorem xk_13_229 : xt_ci "TabKernelModel" 229 = some (1, 259, 0, "TabKernelModel") := by decide +kernel
theorem xk_13_210 : xt_ci "TabKernelModel" 210 = some (1, 260, 0, "TabKernelModel") := by decide +kernel
theorem xk_13_217 : xt_ci "TabKernelModel" 217 = some (1, 261, 0, "TabKernelModel") := by decide +kernel
theorem xk_13_220 : xt_ci "TabKernelModel" 220 = some (1, 262, 0, "TabKernelModel") := by decide +kernel
theorem xk_13_169 : xt_ci "TabKernelModel" 169 = some (0, 263, 1, "") := by decide +kernel
theorem xk_13_223 : xt_ci "TabKernelModel" 223 = some (1, 264, 0, "TabKernelModel") := by decide +kernel
theorem xk_13_207 : xt_ci "TabKernelModel" 207 = some (0, 265, 1, "") := by decide +kernel
theorem xk_13_232 : xt_ci "TabKernelModel" 232 = some (1, 266, 0, "TabKernelModel") := by decide +kernel
theorem xk_13_244 : xt_ci "TabKernelModel" 244 = some (1, 267, 0, "TabKernelModel") := by decide +kernel
theorem xk_13_235 : xt_ci "TabKernelModel" 235 = some (1, 268, 1, "TabKernelModel") := by decide +kernel
theorem xk_13_176 : xt_ci "TabKernelModel" 176 = some (1, 269, 1, "TabKernelModel") := by decide +kernel
theorem xk_13_172 : xt_ci "TabKernelModel" 172 = some (1, 270, 2, "TabKernelModel") := by decide +kernel
theorem xk_13_182 : xt_ci "TabKernelModel" 182 = some (1, 271, 1, "TabKernelModel") := by decide +kernel
theorem xk_13_179 : xt_ci "TabKernelModel" 179 = some (1, 272, 1, "TabKernelModel") := by decide +kernel
theorem xk_13_238 : xt_ci "TabKernelModel" 238 = some (1, 273, 1, "TabKernelModel") := by decide +kernel
theorem xk_13_241 : xt_ci "TabKernelModel" 241 = some (1, 274, 1, "TabKernelModel") := by decide +kernel
theorem xk_13_406 : xt_ci "TabKernelModel" 406 = some (1, 275, 0, "TabKernelModel") := by decide +kernel
theorem xk_13_380 : xt_ci "TabKernelModel" 380 = some (1, 276, 0, "TabKernelModel") := by decide +kernel
theorem xk_13_409 : xt_ci "TabKernelModel" 409 = some (1, 277, 3, "TabKernelModel") := by decide +kernel
theorem xk_13_412 : xt_ci "TabKernelModel" 412 = some (1, 278, 1, "TabKernelModel") := by decide +kernel
theorem xk_13_396 : xt_ci "TabKernelModel" 396 = some (1, 279, 1, "TabKernelModel") := by decide +kernel
theorem xk_13_399 : xt_ci "TabKernelModel" 399 = some (1, 280, 4, "TabKernelModel") := by decide +kernel
theorem xk_13_383 : xt_ci "TabKernelModel" 383 = some (1, 281, 1, "TabKernelModel") := by decide +kernel
theorem xk_13_386 : xt_ci "TabKernelModel" 386 = some (1, 282, 3, "TabKernelModel") := by decide +kernel
theorem xk_13_389 : xt_ci "TabKernelModel" 389 = some (1, 283, 1, "TabKernelModel") := by decide +kernel
theorem xk_13_370 : xt_ci "TabKernelModel" 370 = some (1, 284, 1, "TabKernelModel") := by decide +kernel
theorem xk_13_392 : xt_ci "TabKernelModel" 392 = some (1, 285, 3, "TabKernelModel") := by decide +kernel
theorem xk_13_366 : xt_ci "TabKernelModel" 366 = some (1, 286, 3, "TabKernelModel") := by decide +kernel
theorem xk_13_278 : xt_ci "TabKernelModel" 278 = some (1, 287, 1, "TabKernelModel") := by decide +kernel
theorem xk_13_343 : xt_ci "TabKernelModel" 343 = some (1, 288, 1, "TabKernelModel") := by decide +kernel
theorem xk_13_376 : xt_ci "TabKernelModel" 376 = some (1, 289, 3, "TabKernelModel") := by decide +kernel
theorem xk_12_94 : xt_ci "TabKernelLaw" 94 = some (1, 290, 1, "TabKernelModel") := by decide +kernel
theorem xk_13_415 : xt_ci "TabKernelModel" 415 = some (1, 291, 1, "TabKernelModel") := by decide +kernel
theorem xk_13_418 : xt_ci "TabKernelModel" 418 = some (1, 292, 2, "TabKernelModel") := by decide +kernel
theorem xk_13_422 : xt_ci "TabKernelModel" 422 = some (1, 293, 1, "TabKernelModel") := by decide +kernel
theorem xk_13_425 : xt_ci "TabKernelModel" 425 = some (1, 294, 0, "TabKernelModel") := by decide +kernel
theorem xk_12_100 : xt_ci "TabKernelLaw" 100 = some (1, 295, 1, "TabKernelModel") := by decide +kernel
theorem xk_12_104 : xt_ci "TabKernelLaw" 104 = some (1, 296, 0, "TabKernelModel") := by decide +kernel
theorem xk_12_108 : xt_ci "TabKernelLaw" 108 = some (1, 297, 1, "TabKernelModel") := by decide +kernel
theorem xk_13_428 : xt_ci "TabKernelModel" 428 = some (1, 298, 1, "TabKernelModel") := by decide +kernel
theorem xk_13_431 : xt_ci "TabKernelModel" 431 = some (1, 299, 1, "TabKernelModel") := by decide +kernel
theorem xk_13_434 : xt_ci "TabKernelModel" 434 = some (1, 300, 2, "TabKernelModel") := by decide +kernel
theorem xk_12_112 : xt_ci "TabKernelLaw" 112 = some (1, 301, 2, "TabKernelModel") := by decide +kernel
theorem xk_13_440 : xt_ci "TabKernelModel" 440 = some (1, 302, 2, "TabKernelModel") := by decide +kernel
theorem xk_13_437 : xt_ci "TabKernelModel" 437 = some (1, 303, 2, "TabKernelModel") := by decide +kernel
theorem xk_12_116 : xt_ci "TabKernelLaw" 116 = some (1, 304, 3, "TabKernelModel") := by decide +kernel
theorem xk_12_119 : xt_ci "TabKernelLaw" 119 = some (1, 305, 1, "TabKernelModel") := by decide +kernel
theorem xk_13_443 : xt_ci "TabKernelModel" 443 = some (1, 306, 1, "TabKernelModel") := by decide +kernel
theorem xk_13_446 : xt_ci "TabKernelModel" 446 = some (1, 307, 1, "TabKernelModel") := by decide +kernel
theorem xk_13_449 : xt_ci "TabKernelModel" 449 = some (1, 308, 1, "TabKernelModel") := by decide +kernel
theorem xk_12_122 : xt_ci "TabKernelLaw" 122 = some (1, 309, 1, "TabKernelModel") := by decide +kernel
theorem xk_13_452 : xt_ci "TabKernelModel" 452 = some (1, 310, 2, "TabKernelModel") := by decide +kernel
theorem xk_13_281 : xt_ci "TabKernelModel" 281 = some (1, 311, 1, "TabKernelModel") := by decide +kernel
theorem xk_13_268 : xt_ci "TabKernelModel" 268 = some (1, 312, 2, "TabKernelModel") := by decide +kernel
theorem xk_13_284 : xt_ci "TabKernelModel" 284 = some (1, 313, 3, "TabKernelModel") := by decide +kernel
theorem xk_13_288 : xt_ci "TabKernelModel" 288 = some (1, 314, 1, "TabKernelModel") := by decide +kernel
theorem xk_13_304 : xt_ci "TabKernelModel" 304 = some (1, 315, 2, "TabKernelModel") := by decide +kernel
theorem xk_13_291 : xt_ci "TabKernelModel" 291 = some (1, 316, 1, "TabKernelModel") := by decide +kernel
theorem xk_13_316 : xt_ci "TabKernelModel" 316 = some (1, 317, 2, "TabKernelModel") := by decide +kernel
theorem xk_13_320 : xt_ci "TabKernelModel" 320 = some (1, 318, 1, "TabKernelModel") := by decide +kernel
theorem xk_13_337 : xt_ci "TabKernelModel" 337 = some (1, 319, 0, "TabKernelModel") := by decide +kernel
theorem xk_13_294 : xt_ci "TabKernelModel" 294 = some (1, 320, 1, "TabKernelModel") := by decide +kernel
theorem xk_13_346 : xt_ci "TabKernelModel" 346 = some (1, 321, 0, "TabKernelModel") := by decide +kernel
theorem xk_13_349 : xt_ci "TabKernelModel" 349 = some (1, 322, 2, "TabKernelModel") := by decide +kernel
theorem xk_13_297 : xt_ci "TabKernelModel" 297 = some (1, 323, 1, "TabKernelModel") := by decide +kernel
theorem xk_13_300 : xt_ci "TabKernelModel" 300 = some (1, 324, 2, "TabKernelModel") := by decide +kernel
theorem xk_13_353 : xt_ci "TabKernelModel" 353 = some (1, 325, 0, "TabKernelModel") := by decide +kernel
theorem xk_13_356 : xt_ci "TabKernelModel" 356 = some (1, 326, 0, "TabKernelModel") := by decide +kernel
theorem xk_13_359 : xt_ci "TabKernelModel" 359 = some (1, 327, 2, "TabKernelModel") := by decide +kernel
theorem xk_13_257 : xt_ci "TabKernelModel" 257 = some (1, 328, 1, "TabKernelModel") := by decide +kernel
theorem xk_13_254 : xt_ci "TabKernelModel" 254 = some (1, 329, 2, "TabKernelModel") := by decide +kernel
theorem xk_12_126 : xt_ci "TabKernelLaw" 126 = some (1, 330, 2, "TabKernelModel") := by decide +kernel
theorem xk_12_129 : xt_ci "TabKernelLaw" 129 = some (1, 331, 1, "TabKernelModel") := by decide +kernel
theorem xk_12_132 : xt_ci "TabKernelLaw" 132 = some (1, 332, 1, "TabKernelModel") := by decide +kernel
theorem xk_13_458 : xt_ci "TabKernelModel" 458 = some (1, 333, 0, "TabKernelModel") := by decide +kernel
theorem xk_12_135 : xt_ci "TabKernelLaw" 135 = some (1, 334, 1, "TabKernelModel") := by decide +kernel
theorem xk_12_139 : xt_ci "TabKernelLaw" 139 = some (1, 335, 3, "TabKernelModel") := by decide +kernel
theorem xk_13_464 : xt_ci "TabKernelModel" 464 = some (1, 336, 1, "TabKernelModel") := by decide +kernel
theorem xk_12_142 : xt_ci "TabKernelLaw" 142 = some (1, 337, 2, "TabKernelModel") := by decide +kernel
theorem xk_12_145 : xt_ci "TabKernelLaw" 145 = some (1, 338, 3, "TabKernelModel") := by decide +kernel
theorem xk_13_471 : xt_ci "TabKernelModel" 471 = some (1, 339, 1, "TabKernelModel") := by decide +kernel
theorem xk_12_149 : xt_ci "TabKernelLaw" 149 = some (1, 340, 0, "TabKernelModel") := by decide +kernel
theorem xk_12_153 : xt_ci "TabKernelLaw" 153 = some (1, 341, 2, "TabKernelModel") := by decide +kernel
theorem xk_13_474 : xt_ci "TabKernelModel" 474 = some (1, 342, 2, "TabKernelModel") := by decide +kernel
theorem xk_13_477 : xt_ci "TabKernelModel" 477 = some (1, 343, 0, "TabKernelModel") := by decide +kernel
theorem xk_12_157 : xt_ci "TabKernelLaw" 157 = some (1, 344, 2, "TabKernelModel") := by decide +kernel
theorem xk_12_161 : xt_ci "TabKernelLaw" 161 = some (1, 345, 2, "TabKernelModel") := by decide +kernel
theorem xk_12_165 : xt_ci "TabKernelLaw" 165 = some (1, 346, 0, "TabKernelModel") := by decide +kernel
theorem xk_12_169 : xt_ci "TabKernelLaw" 169 = some (1, 347, 1, "TabKernelModel") := by decide +kernel
theorem xf_14_15 (fm : Value) : xm_fld (xt_X fm) "java/lang/AbstractStringBuilder" 15 = some (1, 0) := by
  show (xt_look xt_ftab "java/lang/AbstractStringBuilder" 15).map (fun e => (e.1, e.2.1)) = _
  rw [show xt_look xt_ftab "java/lang/AbstractStringBuilder" 15 = some (1, 0, 58) by decide +kernel]
  rfl
theorem xf_14_22 (fm : Value) : xm_fld (xt_X fm) "java/lang/AbstractStringBuilder" 22 = some (1, 1) := by
  show (xt_look xt_ftab "java/lang/AbstractStringBuilder" 22).map (fun e => (e.1, e.2.1)) = _
  rw [show xt_look xt_ftab "java/lang/AbstractStringBuilder" 22 = some (1, 1, 59) by decide +kernel]
  rfl
theorem xf_14_73 (fm : Value) : xm_fld (xt_X fm) "java/lang/AbstractStringBuilder" 73 = some (1, 2) := by
  show (xt_look xt_ftab "java/lang/AbstractStringBuilder" 73).map (fun e => (e.1, e.2.1)) = _
  rw [show xt_look xt_ftab "java/lang/AbstractStringBuilder" 73 = some (1, 2, 60) by decide +kernel]
  rfl
theorem xf_15_1048 (fm : Value) : xm_fld (xt_X fm) "java/lang/String" 1048 = some (1, 2) := by
  show (xt_look xt_ftab "java/lang/String" 1048).map (fun e => (e.1, e.2.1)) = _
  rw [show xt_look xt_ftab "java/lang/String" 1048 = some (1, 2, 61) by decide +kernel]
  rfl
theorem xf_14_79 (fm : Value) : xm_fld (xt_X fm) "java/lang/AbstractStringBuilder" 79 = some (1, 3) := by
  show (xt_look xt_ftab "java/lang/AbstractStringBuilder" 79).map (fun e => (e.1, e.2.1)) = _
  rw [show xt_look xt_ftab "java/lang/AbstractStringBuilder" 79 = some (1, 3, 62) by decide +kernel]
  rfl
theorem xf_2_12 (fm : Value) : xm_fld (xt_X fm) "TabKernel$AddressReader" 12 = some (2, 0) := by
  show (xt_look xt_ftab "TabKernel$AddressReader" 12).map (fun e => (e.1, e.2.1)) = _
  rw [show xt_look xt_ftab "TabKernel$AddressReader" 12 = some (2, 0, 82) by decide +kernel]
  rfl
theorem xf_2_20 (fm : Value) : xm_fld (xt_X fm) "TabKernel$AddressReader" 20 = some (2, 1) := by
  show (xt_look xt_ftab "TabKernel$AddressReader" 20).map (fun e => (e.1, e.2.1)) = _
  rw [show xt_look xt_ftab "TabKernel$AddressReader" 20 = some (2, 1, 83) by decide +kernel]
  rfl
theorem xf_2_33 (fm : Value) : xm_fld (xt_X fm) "TabKernel$AddressReader" 33 = some (2, 2) := by
  show (xt_look xt_ftab "TabKernel$AddressReader" 33).map (fun e => (e.1, e.2.1)) = _
  rw [show xt_look xt_ftab "TabKernel$AddressReader" 33 = some (2, 2, 84) by decide +kernel]
  rfl
theorem xf_2_58 (fm : Value) : xm_fld (xt_X fm) "TabKernel$AddressReader" 58 = some (2, 3) := by
  show (xt_look xt_ftab "TabKernel$AddressReader" 58).map (fun e => (e.1, e.2.1)) = _
  rw [show xt_look xt_ftab "TabKernel$AddressReader" 58 = some (2, 3, 85) by decide +kernel]
  rfl
theorem xf_2_24 (fm : Value) : xm_fld (xt_X fm) "TabKernel$AddressReader" 24 = some (2, 4) := by
  show (xt_look xt_ftab "TabKernel$AddressReader" 24).map (fun e => (e.1, e.2.1)) = _
  rw [show xt_look xt_ftab "TabKernel$AddressReader" 24 = some (2, 4, 86) by decide +kernel]
  rfl
theorem xf_2_115 (fm : Value) : xm_fld (xt_X fm) "TabKernel$AddressReader" 115 = some (2, 5) := by
  show (xt_look xt_ftab "TabKernel$AddressReader" 115).map (fun e => (e.1, e.2.1)) = _
  rw [show xt_look xt_ftab "TabKernel$AddressReader" 115 = some (2, 5, 87) by decide +kernel]
  rfl
theorem xf_2_27 (fm : Value) : xm_fld (xt_X fm) "TabKernel$AddressReader" 27 = some (2, 6) := by
  show (xt_look xt_ftab "TabKernel$AddressReader" 27).map (fun e => (e.1, e.2.1)) = _
  rw [show xt_look xt_ftab "TabKernel$AddressReader" 27 = some (2, 6, 88) by decide +kernel]
  rfl
theorem xf_2_30 (fm : Value) : xm_fld (xt_X fm) "TabKernel$AddressReader" 30 = some (2, 7) := by
  show (xt_look xt_ftab "TabKernel$AddressReader" 30).map (fun e => (e.1, e.2.1)) = _
  rw [show xt_look xt_ftab "TabKernel$AddressReader" 30 = some (2, 7, 89) by decide +kernel]
  rfl
theorem xf_9_11 (fm : Value) : xm_fld (xt_X fm) "TabKernel$Storage" 11 = some (3, 0) := by
  show (xt_look xt_ftab "TabKernel$Storage" 11).map (fun e => (e.1, e.2.1)) = _
  rw [show xt_look xt_ftab "TabKernel$Storage" 11 = some (3, 0, 115) by decide +kernel]
  rfl
theorem xf_9_17 (fm : Value) : xm_fld (xt_X fm) "TabKernel$Storage" 17 = some (3, 1) := by
  show (xt_look xt_ftab "TabKernel$Storage" 17).map (fun e => (e.1, e.2.1)) = _
  rw [show xt_look xt_ftab "TabKernel$Storage" 17 = some (3, 1, 116) by decide +kernel]
  rfl
theorem xf_9_29 (fm : Value) : xm_fld (xt_X fm) "TabKernel$Storage" 29 = some (3, 2) := by
  show (xt_look xt_ftab "TabKernel$Storage" 29).map (fun e => (e.1, e.2.1)) = _
  rw [show xt_look xt_ftab "TabKernel$Storage" 29 = some (3, 2, 117) by decide +kernel]
  rfl
theorem xf_11_11 (fm : Value) : xm_fld (xt_X fm) "TabKernel$Suffixes" 11 = some (5, 0) := by
  show (xt_look xt_ftab "TabKernel$Suffixes" 11).map (fun e => (e.1, e.2.1)) = _
  rw [show xt_look xt_ftab "TabKernel$Suffixes" 11 = some (5, 0, 153) by decide +kernel]
  rfl
theorem xf_11_17 (fm : Value) : xm_fld (xt_X fm) "TabKernel$Suffixes" 17 = some (5, 1) := by
  show (xt_look xt_ftab "TabKernel$Suffixes" 17).map (fun e => (e.1, e.2.1)) = _
  rw [show xt_look xt_ftab "TabKernel$Suffixes" 17 = some (5, 1, 154) by decide +kernel]
  rfl
theorem xf_6_27 (fm : Value) : xm_fld (xt_X fm) "TabKernel$Jar" 27 = some (4, 0) := by
  show (xt_look xt_ftab "TabKernel$Jar" 27).map (fun e => (e.1, e.2.1)) = _
  rw [show xt_look xt_ftab "TabKernel$Jar" 27 = some (4, 0, 162) by decide +kernel]
  rfl
theorem xf_6_12 (fm : Value) : xm_fld (xt_X fm) "TabKernel$Jar" 12 = some (4, 1) := by
  show (xt_look xt_ftab "TabKernel$Jar" 12).map (fun e => (e.1, e.2.1)) = _
  rw [show xt_look xt_ftab "TabKernel$Jar" 12 = some (4, 1, 163) by decide +kernel]
  rfl
theorem xf_0_108 (fm : Value) : xm_fld (xt_X fm) "TabKernel" 108 = some (4, 1) := by
  show (xt_look xt_ftab "TabKernel" 108).map (fun e => (e.1, e.2.1)) = _
  rw [show xt_look xt_ftab "TabKernel" 108 = some (4, 1, 164) by decide +kernel]
  rfl
theorem xf_6_20 (fm : Value) : xm_fld (xt_X fm) "TabKernel$Jar" 20 = some (4, 2) := by
  show (xt_look xt_ftab "TabKernel$Jar" 20).map (fun e => (e.1, e.2.1)) = _
  rw [show xt_look xt_ftab "TabKernel$Jar" 20 = some (4, 2, 165) by decide +kernel]
  rfl
theorem xf_6_35 (fm : Value) : xm_fld (xt_X fm) "TabKernel$Jar" 35 = some (4, 3) := by
  show (xt_look xt_ftab "TabKernel$Jar" 35).map (fun e => (e.1, e.2.1)) = _
  rw [show xt_look xt_ftab "TabKernel$Jar" 35 = some (4, 3, 166) by decide +kernel]
  rfl
theorem xf_6_24 (fm : Value) : xm_fld (xt_X fm) "TabKernel$Jar" 24 = some (4, 4) := by
  show (xt_look xt_ftab "TabKernel$Jar" 24).map (fun e => (e.1, e.2.1)) = _
  rw [show xt_look xt_ftab "TabKernel$Jar" 24 = some (4, 4, 167) by decide +kernel]
  rfl
theorem xf_6_31 (fm : Value) : xm_fld (xt_X fm) "TabKernel$Jar" 31 = some (4, 5) := by
  show (xt_look xt_ftab "TabKernel$Jar" 31).map (fun e => (e.1, e.2.1)) = _
  rw [show xt_look xt_ftab "TabKernel$Jar" 31 = some (4, 5, 168) by decide +kernel]
  rfl
theorem xf_0_10 (fm : Value) : xm_fld (xt_X fm) "TabKernel" 10 = some (0, 0) := by
  show (xt_look xt_ftab "TabKernel" 10).map (fun e => (e.1, e.2.1)) = _
  rw [show xt_look xt_ftab "TabKernel" 10 = some (0, 0, 182) by decide +kernel]
  rfl
theorem xf_0_16 (fm : Value) : xm_fld (xt_X fm) "TabKernel" 16 = some (0, 1) := by
  show (xt_look xt_ftab "TabKernel" 16).map (fun e => (e.1, e.2.1)) = _
  rw [show xt_look xt_ftab "TabKernel" 16 = some (0, 1, 183) by decide +kernel]
  rfl
theorem xf_0_22 (fm : Value) : xm_fld (xt_X fm) "TabKernel" 22 = some (0, 2) := by
  show (xt_look xt_ftab "TabKernel" 22).map (fun e => (e.1, e.2.1)) = _
  rw [show xt_look xt_ftab "TabKernel" 22 = some (0, 2, 184) by decide +kernel]
  rfl
theorem xf_0_78 (fm : Value) : xm_fld (xt_X fm) "TabKernel" 78 = some (0, 3) := by
  show (xt_look xt_ftab "TabKernel" 78).map (fun e => (e.1, e.2.1)) = _
  rw [show xt_look xt_ftab "TabKernel" 78 = some (0, 3, 185) by decide +kernel]
  rfl
theorem xf_0_29 (fm : Value) : xm_fld (xt_X fm) "TabKernel" 29 = some (0, 4) := by
  show (xt_look xt_ftab "TabKernel" 29).map (fun e => (e.1, e.2.1)) = _
  rw [show xt_look xt_ftab "TabKernel" 29 = some (0, 4, 186) by decide +kernel]
  rfl
theorem xf_0_35 (fm : Value) : xm_fld (xt_X fm) "TabKernel" 35 = some (0, 5) := by
  show (xt_look xt_ftab "TabKernel" 35).map (fun e => (e.1, e.2.1)) = _
  rw [show xt_look xt_ftab "TabKernel" 35 = some (0, 5, 187) by decide +kernel]
  rfl
theorem xf_0_293 (fm : Value) : xm_fld (xt_X fm) "TabKernel" 293 = some (0, 6) := by
  show (xt_look xt_ftab "TabKernel" 293).map (fun e => (e.1, e.2.1)) = _
  rw [show xt_look xt_ftab "TabKernel" 293 = some (0, 6, 188) by decide +kernel]
  rfl
theorem xf_0_41 (fm : Value) : xm_fld (xt_X fm) "TabKernel" 41 = some (0, 7) := by
  show (xt_look xt_ftab "TabKernel" 41).map (fun e => (e.1, e.2.1)) = _
  rw [show xt_look xt_ftab "TabKernel" 41 = some (0, 7, 189) by decide +kernel]
  rfl
theorem xf_0_45 (fm : Value) : xm_fld (xt_X fm) "TabKernel" 45 = some (0, 8) := by
  show (xt_look xt_ftab "TabKernel" 45).map (fun e => (e.1, e.2.1)) = _
  rw [show xt_look xt_ftab "TabKernel" 45 = some (0, 8, 190) by decide +kernel]
  rfl
theorem xf_0_50 (fm : Value) : xm_fld (xt_X fm) "TabKernel" 50 = some (0, 9) := by
  show (xt_look xt_ftab "TabKernel" 50).map (fun e => (e.1, e.2.1)) = _
  rw [show xt_look xt_ftab "TabKernel" 50 = some (0, 9, 191) by decide +kernel]
  rfl
theorem xf_0_54 (fm : Value) : xm_fld (xt_X fm) "TabKernel" 54 = some (0, 10) := by
  show (xt_look xt_ftab "TabKernel" 54).map (fun e => (e.1, e.2.1)) = _
  rw [show xt_look xt_ftab "TabKernel" 54 = some (0, 10, 192) by decide +kernel]
  rfl
theorem xf_0_60 (fm : Value) : xm_fld (xt_X fm) "TabKernel" 60 = some (0, 11) := by
  show (xt_look xt_ftab "TabKernel" 60).map (fun e => (e.1, e.2.1)) = _
  rw [show xt_look xt_ftab "TabKernel" 60 = some (0, 11, 193) by decide +kernel]
  rfl
theorem xf_15_9 (fm : Value) : xm_fld (xt_X fm) "java/lang/String" 9 = some (6, 0) := by
  show (xt_look xt_ftab "java/lang/String" 9).map (fun e => (e.1, e.2.1)) = _
  rw [show xt_look xt_ftab "java/lang/String" 9 = some (6, 0, 428) by decide +kernel]
  rfl
theorem xf_15_15 (fm : Value) : xm_fld (xt_X fm) "java/lang/String" 15 = some (6, 1) := by
  show (xt_look xt_ftab "java/lang/String" 15).map (fun e => (e.1, e.2.1)) = _
  rw [show xt_look xt_ftab "java/lang/String" 15 = some (6, 1, 429) by decide +kernel]
  rfl
theorem xf_10_7 (fm : Value) : xm_fld (xt_X fm) "TabKernel$Suffix" 7 = some (7, 0) := by
  show (xt_look xt_ftab "TabKernel$Suffix" 7).map (fun e => (e.1, e.2.1)) = _
  rw [show xt_look xt_ftab "TabKernel$Suffix" 7 = some (7, 0, 633) by decide +kernel]
  rfl
theorem xf_11_28 (fm : Value) : xm_fld (xt_X fm) "TabKernel$Suffixes" 28 = some (7, 0) := by
  show (xt_look xt_ftab "TabKernel$Suffixes" 28).map (fun e => (e.1, e.2.1)) = _
  rw [show xt_look xt_ftab "TabKernel$Suffixes" 28 = some (7, 0, 634) by decide +kernel]
  rfl
theorem xf_1_7 (fm : Value) : xm_fld (xt_X fm) "TabKernel$Address" 7 = some (8, 0) := by
  show (xt_look xt_ftab "TabKernel$Address" 7).map (fun e => (e.1, e.2.1)) = _
  rw [show xt_look xt_ftab "TabKernel$Address" 7 = some (8, 0, 792) by decide +kernel]
  rfl
theorem xf_3_64 (fm : Value) : xm_fld (xt_X fm) "TabKernel$Cookie" 64 = some (8, 0) := by
  show (xt_look xt_ftab "TabKernel$Cookie" 64).map (fun e => (e.1, e.2.1)) = _
  rw [show xt_look xt_ftab "TabKernel$Cookie" 64 = some (8, 0, 793) by decide +kernel]
  rfl
theorem xf_6_116 (fm : Value) : xm_fld (xt_X fm) "TabKernel$Jar" 116 = some (8, 0) := by
  show (xt_look xt_ftab "TabKernel$Jar" 116).map (fun e => (e.1, e.2.1)) = _
  rw [show xt_look xt_ftab "TabKernel$Jar" 116 = some (8, 0, 794) by decide +kernel]
  rfl
theorem xf_2_106 (fm : Value) : xm_fld (xt_X fm) "TabKernel$AddressReader" 106 = some (8, 0) := by
  show (xt_look xt_ftab "TabKernel$AddressReader" 106).map (fun e => (e.1, e.2.1)) = _
  rw [show xt_look xt_ftab "TabKernel$AddressReader" 106 = some (8, 0, 795) by decide +kernel]
  rfl
theorem xf_1_13 (fm : Value) : xm_fld (xt_X fm) "TabKernel$Address" 13 = some (8, 1) := by
  show (xt_look xt_ftab "TabKernel$Address" 13).map (fun e => (e.1, e.2.1)) = _
  rw [show xt_look xt_ftab "TabKernel$Address" 13 = some (8, 1, 796) by decide +kernel]
  rfl
theorem xf_3_50 (fm : Value) : xm_fld (xt_X fm) "TabKernel$Cookie" 50 = some (8, 1) := by
  show (xt_look xt_ftab "TabKernel$Cookie" 50).map (fun e => (e.1, e.2.1)) = _
  rw [show xt_look xt_ftab "TabKernel$Cookie" 50 = some (8, 1, 797) by decide +kernel]
  rfl
theorem xf_6_88 (fm : Value) : xm_fld (xt_X fm) "TabKernel$Jar" 88 = some (8, 1) := by
  show (xt_look xt_ftab "TabKernel$Jar" 88).map (fun e => (e.1, e.2.1)) = _
  rw [show xt_look xt_ftab "TabKernel$Jar" 88 = some (8, 1, 798) by decide +kernel]
  rfl
theorem xf_2_111 (fm : Value) : xm_fld (xt_X fm) "TabKernel$AddressReader" 111 = some (8, 1) := by
  show (xt_look xt_ftab "TabKernel$AddressReader" 111).map (fun e => (e.1, e.2.1)) = _
  rw [show xt_look xt_ftab "TabKernel$AddressReader" 111 = some (8, 1, 799) by decide +kernel]
  rfl
theorem xf_1_17 (fm : Value) : xm_fld (xt_X fm) "TabKernel$Address" 17 = some (8, 2) := by
  show (xt_look xt_ftab "TabKernel$Address" 17).map (fun e => (e.1, e.2.1)) = _
  rw [show xt_look xt_ftab "TabKernel$Address" 17 = some (8, 2, 800) by decide +kernel]
  rfl
theorem xf_2_112 (fm : Value) : xm_fld (xt_X fm) "TabKernel$AddressReader" 112 = some (8, 2) := by
  show (xt_look xt_ftab "TabKernel$AddressReader" 112).map (fun e => (e.1, e.2.1)) = _
  rw [show xt_look xt_ftab "TabKernel$AddressReader" 112 = some (8, 2, 801) by decide +kernel]
  rfl
theorem xf_1_21 (fm : Value) : xm_fld (xt_X fm) "TabKernel$Address" 21 = some (8, 3) := by
  show (xt_look xt_ftab "TabKernel$Address" 21).map (fun e => (e.1, e.2.1)) = _
  rw [show xt_look xt_ftab "TabKernel$Address" 21 = some (8, 3, 802) by decide +kernel]
  rfl
theorem xf_3_59 (fm : Value) : xm_fld (xt_X fm) "TabKernel$Cookie" 59 = some (8, 3) := by
  show (xt_look xt_ftab "TabKernel$Cookie" 59).map (fun e => (e.1, e.2.1)) = _
  rw [show xt_look xt_ftab "TabKernel$Cookie" 59 = some (8, 3, 803) by decide +kernel]
  rfl
theorem xf_6_108 (fm : Value) : xm_fld (xt_X fm) "TabKernel$Jar" 108 = some (8, 3) := by
  show (xt_look xt_ftab "TabKernel$Jar" 108).map (fun e => (e.1, e.2.1)) = _
  rw [show xt_look xt_ftab "TabKernel$Jar" 108 = some (8, 3, 804) by decide +kernel]
  rfl
theorem xf_2_116 (fm : Value) : xm_fld (xt_X fm) "TabKernel$AddressReader" 116 = some (8, 3) := by
  show (xt_look xt_ftab "TabKernel$AddressReader" 116).map (fun e => (e.1, e.2.1)) = _
  rw [show xt_look xt_ftab "TabKernel$AddressReader" 116 = some (8, 3, 805) by decide +kernel]
  rfl
theorem xf_1_24 (fm : Value) : xm_fld (xt_X fm) "TabKernel$Address" 24 = some (8, 4) := by
  show (xt_look xt_ftab "TabKernel$Address" 24).map (fun e => (e.1, e.2.1)) = _
  rw [show xt_look xt_ftab "TabKernel$Address" 24 = some (8, 4, 806) by decide +kernel]
  rfl
theorem xf_2_117 (fm : Value) : xm_fld (xt_X fm) "TabKernel$AddressReader" 117 = some (8, 4) := by
  show (xt_look xt_ftab "TabKernel$AddressReader" 117).map (fun e => (e.1, e.2.1)) = _
  rw [show xt_look xt_ftab "TabKernel$AddressReader" 117 = some (8, 4, 807) by decide +kernel]
  rfl
theorem xf_1_27 (fm : Value) : xm_fld (xt_X fm) "TabKernel$Address" 27 = some (8, 5) := by
  show (xt_look xt_ftab "TabKernel$Address" 27).map (fun e => (e.1, e.2.1)) = _
  rw [show xt_look xt_ftab "TabKernel$Address" 27 = some (8, 5, 808) by decide +kernel]
  rfl
theorem xf_0_274 (fm : Value) : xm_fld (xt_X fm) "TabKernel" 274 = some (8, 5) := by
  show (xt_look xt_ftab "TabKernel" 274).map (fun e => (e.1, e.2.1)) = _
  rw [show xt_look xt_ftab "TabKernel" 274 = some (8, 5, 809) by decide +kernel]
  rfl
theorem xf_5_7 (fm : Value) : xm_fld (xt_X fm) "TabKernel$Frame" 7 = some (9, 0) := by
  show (xt_look xt_ftab "TabKernel$Frame" 7).map (fun e => (e.1, e.2.1)) = _
  rw [show xt_look xt_ftab "TabKernel$Frame" 7 = some (9, 0, 844) by decide +kernel]
  rfl
theorem xf_0_216 (fm : Value) : xm_fld (xt_X fm) "TabKernel" 216 = some (9, 0) := by
  show (xt_look xt_ftab "TabKernel" 216).map (fun e => (e.1, e.2.1)) = _
  rw [show xt_look xt_ftab "TabKernel" 216 = some (9, 0, 845) by decide +kernel]
  rfl
theorem xf_5_13 (fm : Value) : xm_fld (xt_X fm) "TabKernel$Frame" 13 = some (9, 1) := by
  show (xt_look xt_ftab "TabKernel$Frame" 13).map (fun e => (e.1, e.2.1)) = _
  rw [show xt_look xt_ftab "TabKernel$Frame" 13 = some (9, 1, 846) by decide +kernel]
  rfl
theorem xf_0_177 (fm : Value) : xm_fld (xt_X fm) "TabKernel" 177 = some (9, 1) := by
  show (xt_look xt_ftab "TabKernel" 177).map (fun e => (e.1, e.2.1)) = _
  rw [show xt_look xt_ftab "TabKernel" 177 = some (9, 1, 847) by decide +kernel]
  rfl
theorem xf_5_16 (fm : Value) : xm_fld (xt_X fm) "TabKernel$Frame" 16 = some (9, 2) := by
  show (xt_look xt_ftab "TabKernel$Frame" 16).map (fun e => (e.1, e.2.1)) = _
  rw [show xt_look xt_ftab "TabKernel$Frame" 16 = some (9, 2, 848) by decide +kernel]
  rfl
theorem xf_0_344 (fm : Value) : xm_fld (xt_X fm) "TabKernel" 344 = some (9, 2) := by
  show (xt_look xt_ftab "TabKernel" 344).map (fun e => (e.1, e.2.1)) = _
  rw [show xt_look xt_ftab "TabKernel" 344 = some (9, 2, 849) by decide +kernel]
  rfl
theorem xf_5_20 (fm : Value) : xm_fld (xt_X fm) "TabKernel$Frame" 20 = some (9, 3) := by
  show (xt_look xt_ftab "TabKernel$Frame" 20).map (fun e => (e.1, e.2.1)) = _
  rw [show xt_look xt_ftab "TabKernel$Frame" 20 = some (9, 3, 850) by decide +kernel]
  rfl
theorem xf_0_170 (fm : Value) : xm_fld (xt_X fm) "TabKernel" 170 = some (9, 3) := by
  show (xt_look xt_ftab "TabKernel" 170).map (fun e => (e.1, e.2.1)) = _
  rw [show xt_look xt_ftab "TabKernel" 170 = some (9, 3, 851) by decide +kernel]
  rfl
theorem xf_8_30 (fm : Value) : xm_fld (xt_X fm) "TabKernel$Request" 30 = some (9, 4) := by
  show (xt_look xt_ftab "TabKernel$Request" 30).map (fun e => (e.1, e.2.1)) = _
  rw [show xt_look xt_ftab "TabKernel$Request" 30 = some (9, 4, 852) by decide +kernel]
  rfl
theorem xf_0_166 (fm : Value) : xm_fld (xt_X fm) "TabKernel" 166 = some (9, 4) := by
  show (xt_look xt_ftab "TabKernel" 166).map (fun e => (e.1, e.2.1)) = _
  rw [show xt_look xt_ftab "TabKernel" 166 = some (9, 4, 853) by decide +kernel]
  rfl
theorem xf_8_9 (fm : Value) : xm_fld (xt_X fm) "TabKernel$Request" 9 = some (10, 0) := by
  show (xt_look xt_ftab "TabKernel$Request" 9).map (fun e => (e.1, e.2.1)) = _
  rw [show xt_look xt_ftab "TabKernel$Request" 9 = some (10, 0, 882) by decide +kernel]
  rfl
theorem xf_0_340 (fm : Value) : xm_fld (xt_X fm) "TabKernel" 340 = some (10, 0) := by
  show (xt_look xt_ftab "TabKernel" 340).map (fun e => (e.1, e.2.1)) = _
  rw [show xt_look xt_ftab "TabKernel" 340 = some (10, 0, 883) by decide +kernel]
  rfl
theorem xf_8_15 (fm : Value) : xm_fld (xt_X fm) "TabKernel$Request" 15 = some (10, 1) := by
  show (xt_look xt_ftab "TabKernel$Request" 15).map (fun e => (e.1, e.2.1)) = _
  rw [show xt_look xt_ftab "TabKernel$Request" 15 = some (10, 1, 884) by decide +kernel]
  rfl
theorem xf_0_212 (fm : Value) : xm_fld (xt_X fm) "TabKernel" 212 = some (10, 1) := by
  show (xt_look xt_ftab "TabKernel" 212).map (fun e => (e.1, e.2.1)) = _
  rw [show xt_look xt_ftab "TabKernel" 212 = some (10, 1, 885) by decide +kernel]
  rfl
theorem xf_8_23 (fm : Value) : xm_fld (xt_X fm) "TabKernel$Request" 23 = some (10, 2) := by
  show (xt_look xt_ftab "TabKernel$Request" 23).map (fun e => (e.1, e.2.1)) = _
  rw [show xt_look xt_ftab "TabKernel$Request" 23 = some (10, 2, 886) by decide +kernel]
  rfl
theorem xf_8_26 (fm : Value) : xm_fld (xt_X fm) "TabKernel$Request" 26 = some (10, 3) := by
  show (xt_look xt_ftab "TabKernel$Request" 26).map (fun e => (e.1, e.2.1)) = _
  rw [show xt_look xt_ftab "TabKernel$Request" 26 = some (10, 3, 887) by decide +kernel]
  rfl
theorem xf_0_223 (fm : Value) : xm_fld (xt_X fm) "TabKernel" 223 = some (10, 3) := by
  show (xt_look xt_ftab "TabKernel" 223).map (fun e => (e.1, e.2.1)) = _
  rw [show xt_look xt_ftab "TabKernel" 223 = some (10, 3, 888) by decide +kernel]
  rfl
theorem xf_8_33 (fm : Value) : xm_fld (xt_X fm) "TabKernel$Request" 33 = some (10, 4) := by
  show (xt_look xt_ftab "TabKernel$Request" 33).map (fun e => (e.1, e.2.1)) = _
  rw [show xt_look xt_ftab "TabKernel$Request" 33 = some (10, 4, 889) by decide +kernel]
  rfl
theorem xf_8_19 (fm : Value) : xm_fld (xt_X fm) "TabKernel$Request" 19 = some (10, 5) := by
  show (xt_look xt_ftab "TabKernel$Request" 19).map (fun e => (e.1, e.2.1)) = _
  rw [show xt_look xt_ftab "TabKernel$Request" 19 = some (10, 5, 890) by decide +kernel]
  rfl
theorem xf_0_227 (fm : Value) : xm_fld (xt_X fm) "TabKernel" 227 = some (10, 5) := by
  show (xt_look xt_ftab "TabKernel" 227).map (fun e => (e.1, e.2.1)) = _
  rw [show xt_look xt_ftab "TabKernel" 227 = some (10, 5, 891) by decide +kernel]
  rfl
theorem xf_8_51 (fm : Value) : xm_fld (xt_X fm) "TabKernel$Request" 51 = some (10, 6) := by
  show (xt_look xt_ftab "TabKernel$Request" 51).map (fun e => (e.1, e.2.1)) = _
  rw [show xt_look xt_ftab "TabKernel$Request" 51 = some (10, 6, 892) by decide +kernel]
  rfl
theorem xf_8_36 (fm : Value) : xm_fld (xt_X fm) "TabKernel$Request" 36 = some (10, 7) := by
  show (xt_look xt_ftab "TabKernel$Request" 36).map (fun e => (e.1, e.2.1)) = _
  rw [show xt_look xt_ftab "TabKernel$Request" 36 = some (10, 7, 893) by decide +kernel]
  rfl
theorem xf_8_39 (fm : Value) : xm_fld (xt_X fm) "TabKernel$Request" 39 = some (10, 8) := by
  show (xt_look xt_ftab "TabKernel$Request" 39).map (fun e => (e.1, e.2.1)) = _
  rw [show xt_look xt_ftab "TabKernel$Request" 39 = some (10, 8, 894) by decide +kernel]
  rfl
theorem xf_8_42 (fm : Value) : xm_fld (xt_X fm) "TabKernel$Request" 42 = some (10, 9) := by
  show (xt_look xt_ftab "TabKernel$Request" 42).map (fun e => (e.1, e.2.1)) = _
  rw [show xt_look xt_ftab "TabKernel$Request" 42 = some (10, 9, 895) by decide +kernel]
  rfl
theorem xf_7_7 (fm : Value) : xm_fld (xt_X fm) "TabKernel$Message" 7 = some (12, 0) := by
  show (xt_look xt_ftab "TabKernel$Message" 7).map (fun e => (e.1, e.2.1)) = _
  rw [show xt_look xt_ftab "TabKernel$Message" 7 = some (12, 0, 967) by decide +kernel]
  rfl
theorem xf_0_300 (fm : Value) : xm_fld (xt_X fm) "TabKernel" 300 = some (12, 0) := by
  show (xt_look xt_ftab "TabKernel" 300).map (fun e => (e.1, e.2.1)) = _
  rw [show xt_look xt_ftab "TabKernel" 300 = some (12, 0, 968) by decide +kernel]
  rfl
theorem xf_7_13 (fm : Value) : xm_fld (xt_X fm) "TabKernel$Message" 13 = some (12, 1) := by
  show (xt_look xt_ftab "TabKernel$Message" 13).map (fun e => (e.1, e.2.1)) = _
  rw [show xt_look xt_ftab "TabKernel$Message" 13 = some (12, 1, 969) by decide +kernel]
  rfl
theorem xf_0_303 (fm : Value) : xm_fld (xt_X fm) "TabKernel" 303 = some (12, 1) := by
  show (xt_look xt_ftab "TabKernel" 303).map (fun e => (e.1, e.2.1)) = _
  rw [show xt_look xt_ftab "TabKernel" 303 = some (12, 1, 970) by decide +kernel]
  rfl
theorem xf_7_16 (fm : Value) : xm_fld (xt_X fm) "TabKernel$Message" 16 = some (12, 2) := by
  show (xt_look xt_ftab "TabKernel$Message" 16).map (fun e => (e.1, e.2.1)) = _
  rw [show xt_look xt_ftab "TabKernel$Message" 16 = some (12, 2, 971) by decide +kernel]
  rfl
theorem xf_0_306 (fm : Value) : xm_fld (xt_X fm) "TabKernel" 306 = some (12, 2) := by
  show (xt_look xt_ftab "TabKernel" 306).map (fun e => (e.1, e.2.1)) = _
  rw [show xt_look xt_ftab "TabKernel" 306 = some (12, 2, 972) by decide +kernel]
  rfl
theorem xf_7_19 (fm : Value) : xm_fld (xt_X fm) "TabKernel$Message" 19 = some (12, 3) := by
  show (xt_look xt_ftab "TabKernel$Message" 19).map (fun e => (e.1, e.2.1)) = _
  rw [show xt_look xt_ftab "TabKernel$Message" 19 = some (12, 3, 973) by decide +kernel]
  rfl
theorem xf_0_309 (fm : Value) : xm_fld (xt_X fm) "TabKernel" 309 = some (12, 3) := by
  show (xt_look xt_ftab "TabKernel" 309).map (fun e => (e.1, e.2.1)) = _
  rw [show xt_look xt_ftab "TabKernel" 309 = some (12, 3, 974) by decide +kernel]
  rfl
theorem xf_3_9 (fm : Value) : xm_fld (xt_X fm) "TabKernel$Cookie" 9 = some (13, 0) := by
  show (xt_look xt_ftab "TabKernel$Cookie" 9).map (fun e => (e.1, e.2.1)) = _
  rw [show xt_look xt_ftab "TabKernel$Cookie" 9 = some (13, 0, 1214) by decide +kernel]
  rfl
theorem xf_4_24 (fm : Value) : xm_fld (xt_X fm) "TabKernel$CookieText" 24 = some (13, 0) := by
  show (xt_look xt_ftab "TabKernel$CookieText" 24).map (fun e => (e.1, e.2.1)) = _
  rw [show xt_look xt_ftab "TabKernel$CookieText" 24 = some (13, 0, 1215) by decide +kernel]
  rfl
theorem xf_3_18 (fm : Value) : xm_fld (xt_X fm) "TabKernel$Cookie" 18 = some (13, 1) := by
  show (xt_look xt_ftab "TabKernel$Cookie" 18).map (fun e => (e.1, e.2.1)) = _
  rw [show xt_look xt_ftab "TabKernel$Cookie" 18 = some (13, 1, 1216) by decide +kernel]
  rfl
theorem xf_4_27 (fm : Value) : xm_fld (xt_X fm) "TabKernel$CookieText" 27 = some (13, 1) := by
  show (xt_look xt_ftab "TabKernel$CookieText" 27).map (fun e => (e.1, e.2.1)) = _
  rw [show xt_look xt_ftab "TabKernel$CookieText" 27 = some (13, 1, 1217) by decide +kernel]
  rfl
theorem xf_4_11 (fm : Value) : xm_fld (xt_X fm) "TabKernel$CookieText" 11 = some (13, 2) := by
  show (xt_look xt_ftab "TabKernel$CookieText" 11).map (fun e => (e.1, e.2.1)) = _
  rw [show xt_look xt_ftab "TabKernel$CookieText" 11 = some (13, 2, 1218) by decide +kernel]
  rfl
theorem xf_6_81 (fm : Value) : xm_fld (xt_X fm) "TabKernel$Jar" 81 = some (13, 2) := by
  show (xt_look xt_ftab "TabKernel$Jar" 81).map (fun e => (e.1, e.2.1)) = _
  rw [show xt_look xt_ftab "TabKernel$Jar" 81 = some (13, 2, 1219) by decide +kernel]
  rfl
theorem xf_4_17 (fm : Value) : xm_fld (xt_X fm) "TabKernel$CookieText" 17 = some (13, 3) := by
  show (xt_look xt_ftab "TabKernel$CookieText" 17).map (fun e => (e.1, e.2.1)) = _
  rw [show xt_look xt_ftab "TabKernel$CookieText" 17 = some (13, 3, 1220) by decide +kernel]
  rfl
theorem xf_6_105 (fm : Value) : xm_fld (xt_X fm) "TabKernel$Jar" 105 = some (13, 3) := by
  show (xt_look xt_ftab "TabKernel$Jar" 105).map (fun e => (e.1, e.2.1)) = _
  rw [show xt_look xt_ftab "TabKernel$Jar" 105 = some (13, 3, 1221) by decide +kernel]
  rfl
theorem xf_4_20 (fm : Value) : xm_fld (xt_X fm) "TabKernel$CookieText" 20 = some (13, 4) := by
  show (xt_look xt_ftab "TabKernel$CookieText" 20).map (fun e => (e.1, e.2.1)) = _
  rw [show xt_look xt_ftab "TabKernel$CookieText" 20 = some (13, 4, 1222) by decide +kernel]
  rfl
theorem xf_6_121 (fm : Value) : xm_fld (xt_X fm) "TabKernel$Jar" 121 = some (13, 4) := by
  show (xt_look xt_ftab "TabKernel$Jar" 121).map (fun e => (e.1, e.2.1)) = _
  rw [show xt_look xt_ftab "TabKernel$Jar" 121 = some (13, 4, 1223) by decide +kernel]
  rfl
theorem xf_3_22 (fm : Value) : xm_fld (xt_X fm) "TabKernel$Cookie" 22 = some (13, 5) := by
  show (xt_look xt_ftab "TabKernel$Cookie" 22).map (fun e => (e.1, e.2.1)) = _
  rw [show xt_look xt_ftab "TabKernel$Cookie" 22 = some (13, 5, 1224) by decide +kernel]
  rfl
theorem xf_4_86 (fm : Value) : xm_fld (xt_X fm) "TabKernel$CookieText" 86 = some (13, 5) := by
  show (xt_look xt_ftab "TabKernel$CookieText" 86).map (fun e => (e.1, e.2.1)) = _
  rw [show xt_look xt_ftab "TabKernel$CookieText" 86 = some (13, 5, 1225) by decide +kernel]
  rfl
theorem xf_6_113 (fm : Value) : xm_fld (xt_X fm) "TabKernel$Jar" 113 = some (13, 5) := by
  show (xt_look xt_ftab "TabKernel$Jar" 113).map (fun e => (e.1, e.2.1)) = _
  rw [show xt_look xt_ftab "TabKernel$Jar" 113 = some (13, 5, 1226) by decide +kernel]
  rfl
theorem xf_3_27 (fm : Value) : xm_fld (xt_X fm) "TabKernel$Cookie" 27 = some (13, 6) := by
  show (xt_look xt_ftab "TabKernel$Cookie" 27).map (fun e => (e.1, e.2.1)) = _
  rw [show xt_look xt_ftab "TabKernel$Cookie" 27 = some (13, 6, 1227) by decide +kernel]
  rfl
theorem xf_4_91 (fm : Value) : xm_fld (xt_X fm) "TabKernel$CookieText" 91 = some (13, 6) := by
  show (xt_look xt_ftab "TabKernel$CookieText" 91).map (fun e => (e.1, e.2.1)) = _
  rw [show xt_look xt_ftab "TabKernel$CookieText" 91 = some (13, 6, 1228) by decide +kernel]
  rfl
theorem xf_3_15 (fm : Value) : xm_fld (xt_X fm) "TabKernel$Cookie" 15 = some (11, 0) := by
  show (xt_look xt_ftab "TabKernel$Cookie" 15).map (fun e => (e.1, e.2.1)) = _
  rw [show xt_look xt_ftab "TabKernel$Cookie" 15 = some (11, 0, 1339) by decide +kernel]
  rfl
theorem xf_6_171 (fm : Value) : xm_fld (xt_X fm) "TabKernel$Jar" 171 = some (11, 0) := by
  show (xt_look xt_ftab "TabKernel$Jar" 171).map (fun e => (e.1, e.2.1)) = _
  rw [show xt_look xt_ftab "TabKernel$Jar" 171 = some (11, 0, 1340) by decide +kernel]
  rfl
theorem xf_3_21 (fm : Value) : xm_fld (xt_X fm) "TabKernel$Cookie" 21 = some (11, 1) := by
  show (xt_look xt_ftab "TabKernel$Cookie" 21).map (fun e => (e.1, e.2.1)) = _
  rw [show xt_look xt_ftab "TabKernel$Cookie" 21 = some (11, 1, 1341) by decide +kernel]
  rfl
theorem xf_6_177 (fm : Value) : xm_fld (xt_X fm) "TabKernel$Jar" 177 = some (11, 1) := by
  show (xt_look xt_ftab "TabKernel$Jar" 177).map (fun e => (e.1, e.2.1)) = _
  rw [show xt_look xt_ftab "TabKernel$Jar" 177 = some (11, 1, 1342) by decide +kernel]
  rfl
theorem xf_3_31 (fm : Value) : xm_fld (xt_X fm) "TabKernel$Cookie" 31 = some (11, 2) := by
  show (xt_look xt_ftab "TabKernel$Cookie" 31).map (fun e => (e.1, e.2.1)) = _
  rw [show xt_look xt_ftab "TabKernel$Cookie" 31 = some (11, 2, 1343) by decide +kernel]
  rfl
theorem xf_6_73 (fm : Value) : xm_fld (xt_X fm) "TabKernel$Jar" 73 = some (11, 2) := by
  show (xt_look xt_ftab "TabKernel$Jar" 73).map (fun e => (e.1, e.2.1)) = _
  rw [show xt_look xt_ftab "TabKernel$Jar" 73 = some (11, 2, 1344) by decide +kernel]
  rfl
theorem xf_3_34 (fm : Value) : xm_fld (xt_X fm) "TabKernel$Cookie" 34 = some (11, 3) := by
  show (xt_look xt_ftab "TabKernel$Cookie" 34).map (fun e => (e.1, e.2.1)) = _
  rw [show xt_look xt_ftab "TabKernel$Cookie" 34 = some (11, 3, 1345) by decide +kernel]
  rfl
theorem xf_3_37 (fm : Value) : xm_fld (xt_X fm) "TabKernel$Cookie" 37 = some (11, 4) := by
  show (xt_look xt_ftab "TabKernel$Cookie" 37).map (fun e => (e.1, e.2.1)) = _
  rw [show xt_look xt_ftab "TabKernel$Cookie" 37 = some (11, 4, 1346) by decide +kernel]
  rfl
theorem xf_6_180 (fm : Value) : xm_fld (xt_X fm) "TabKernel$Jar" 180 = some (11, 4) := by
  show (xt_look xt_ftab "TabKernel$Jar" 180).map (fun e => (e.1, e.2.1)) = _
  rw [show xt_look xt_ftab "TabKernel$Jar" 180 = some (11, 4, 1347) by decide +kernel]
  rfl
theorem xf_3_26 (fm : Value) : xm_fld (xt_X fm) "TabKernel$Cookie" 26 = some (11, 5) := by
  show (xt_look xt_ftab "TabKernel$Cookie" 26).map (fun e => (e.1, e.2.1)) = _
  rw [show xt_look xt_ftab "TabKernel$Cookie" 26 = some (11, 5, 1348) by decide +kernel]
  rfl
theorem xf_3_30 (fm : Value) : xm_fld (xt_X fm) "TabKernel$Cookie" 30 = some (11, 6) := by
  show (xt_look xt_ftab "TabKernel$Cookie" 30).map (fun e => (e.1, e.2.1)) = _
  rw [show xt_look xt_ftab "TabKernel$Cookie" 30 = some (11, 6, 1349) by decide +kernel]
  rfl
theorem xf_6_59 (fm : Value) : xm_fld (xt_X fm) "TabKernel$Jar" 59 = some (11, 6) := by
  show (xt_look xt_ftab "TabKernel$Jar" 59).map (fun e => (e.1, e.2.1)) = _
  rw [show xt_look xt_ftab "TabKernel$Jar" 59 = some (11, 6, 1350) by decide +kernel]
  rfl
theorem xf_3_40 (fm : Value) : xm_fld (xt_X fm) "TabKernel$Cookie" 40 = some (11, 7) := by
  show (xt_look xt_ftab "TabKernel$Cookie" 40).map (fun e => (e.1, e.2.1)) = _
  rw [show xt_look xt_ftab "TabKernel$Cookie" 40 = some (11, 7, 1351) by decide +kernel]
  rfl
theorem xf_13_146 (fm : Value) : xm_fld (xt_X fm) "TabKernelModel" 146 = some (14, 0) := by
  show (xt_look xt_ftab "TabKernelModel" 146).map (fun e => (e.1, e.2.1)) = _
  rw [show xt_look xt_ftab "TabKernelModel" 146 = some (14, 0, 1489) by decide +kernel]
  rfl
theorem xf_13_7 (fm : Value) : xm_fld (xt_X fm) "TabKernelModel" 7 = some (14, 1) := by
  show (xt_look xt_ftab "TabKernelModel" 7).map (fun e => (e.1, e.2.1)) = _
  rw [show xt_look xt_ftab "TabKernelModel" 7 = some (14, 1, 1490) by decide +kernel]
  rfl
theorem xf_13_149 (fm : Value) : xm_fld (xt_X fm) "TabKernelModel" 149 = some (14, 2) := by
  show (xt_look xt_ftab "TabKernelModel" 149).map (fun e => (e.1, e.2.1)) = _
  rw [show xt_look xt_ftab "TabKernelModel" 149 = some (14, 2, 1491) by decide +kernel]
  rfl
theorem xf_13_152 (fm : Value) : xm_fld (xt_X fm) "TabKernelModel" 152 = some (14, 3) := by
  show (xt_look xt_ftab "TabKernelModel" 152).map (fun e => (e.1, e.2.1)) = _
  rw [show xt_look xt_ftab "TabKernelModel" 152 = some (14, 3, 1492) by decide +kernel]
  rfl
theorem xf_13_13 (fm : Value) : xm_fld (xt_X fm) "TabKernelModel" 13 = some (14, 4) := by
  show (xt_look xt_ftab "TabKernelModel" 13).map (fun e => (e.1, e.2.1)) = _
  rw [show xt_look xt_ftab "TabKernelModel" 13 = some (14, 4, 1493) by decide +kernel]
  rfl
theorem xf_13_16 (fm : Value) : xm_fld (xt_X fm) "TabKernelModel" 16 = some (14, 5) := by
  show (xt_look xt_ftab "TabKernelModel" 16).map (fun e => (e.1, e.2.1)) = _
  rw [show xt_look xt_ftab "TabKernelModel" 16 = some (14, 5, 1494) by decide +kernel]
  rfl
theorem xf_13_19 (fm : Value) : xm_fld (xt_X fm) "TabKernelModel" 19 = some (14, 6) := by
  show (xt_look xt_ftab "TabKernelModel" 19).map (fun e => (e.1, e.2.1)) = _
  rw [show xt_look xt_ftab "TabKernelModel" 19 = some (14, 6, 1495) by decide +kernel]
  rfl
theorem xf_13_22 (fm : Value) : xm_fld (xt_X fm) "TabKernelModel" 22 = some (14, 7) := by
  show (xt_look xt_ftab "TabKernelModel" 22).map (fun e => (e.1, e.2.1)) = _
  rw [show xt_look xt_ftab "TabKernelModel" 22 = some (14, 7, 1496) by decide +kernel]
  rfl
theorem xf_13_25 (fm : Value) : xm_fld (xt_X fm) "TabKernelModel" 25 = some (14, 8) := by
  show (xt_look xt_ftab "TabKernelModel" 25).map (fun e => (e.1, e.2.1)) = _
  rw [show xt_look xt_ftab "TabKernelModel" 25 = some (14, 8, 1497) by decide +kernel]
  rfl
theorem xf_13_28 (fm : Value) : xm_fld (xt_X fm) "TabKernelModel" 28 = some (14, 9) := by
  show (xt_look xt_ftab "TabKernelModel" 28).map (fun e => (e.1, e.2.1)) = _
  rw [show xt_look xt_ftab "TabKernelModel" 28 = some (14, 9, 1498) by decide +kernel]
  rfl
theorem xf_13_185 (fm : Value) : xm_fld (xt_X fm) "TabKernelModel" 185 = some (14, 10) := by
  show (xt_look xt_ftab "TabKernelModel" 185).map (fun e => (e.1, e.2.1)) = _
  rw [show xt_look xt_ftab "TabKernelModel" 185 = some (14, 10, 1499) by decide +kernel]
  rfl
theorem xf_13_201 (fm : Value) : xm_fld (xt_X fm) "TabKernelModel" 201 = some (14, 11) := by
  show (xt_look xt_ftab "TabKernelModel" 201).map (fun e => (e.1, e.2.1)) = _
  rw [show xt_look xt_ftab "TabKernelModel" 201 = some (14, 11, 1500) by decide +kernel]
  rfl
theorem xf_13_204 (fm : Value) : xm_fld (xt_X fm) "TabKernelModel" 204 = some (14, 12) := by
  show (xt_look xt_ftab "TabKernelModel" 204).map (fun e => (e.1, e.2.1)) = _
  rw [show xt_look xt_ftab "TabKernelModel" 204 = some (14, 12, 1501) by decide +kernel]
  rfl
theorem xf_13_192 (fm : Value) : xm_fld (xt_X fm) "TabKernelModel" 192 = some (14, 13) := by
  show (xt_look xt_ftab "TabKernelModel" 192).map (fun e => (e.1, e.2.1)) = _
  rw [show xt_look xt_ftab "TabKernelModel" 192 = some (14, 13, 1502) by decide +kernel]
  rfl
theorem xf_13_31 (fm : Value) : xm_fld (xt_X fm) "TabKernelModel" 31 = some (14, 14) := by
  show (xt_look xt_ftab "TabKernelModel" 31).map (fun e => (e.1, e.2.1)) = _
  rw [show xt_look xt_ftab "TabKernelModel" 31 = some (14, 14, 1503) by decide +kernel]
  rfl
theorem xf_13_34 (fm : Value) : xm_fld (xt_X fm) "TabKernelModel" 34 = some (14, 15) := by
  show (xt_look xt_ftab "TabKernelModel" 34).map (fun e => (e.1, e.2.1)) = _
  rw [show xt_look xt_ftab "TabKernelModel" 34 = some (14, 15, 1504) by decide +kernel]
  rfl
theorem xf_13_247 (fm : Value) : xm_fld (xt_X fm) "TabKernelModel" 247 = some (14, 16) := by
  show (xt_look xt_ftab "TabKernelModel" 247).map (fun e => (e.1, e.2.1)) = _
  rw [show xt_look xt_ftab "TabKernelModel" 247 = some (14, 16, 1505) by decide +kernel]
  rfl
theorem xf_13_143 (fm : Value) : xm_fld (xt_X fm) "TabKernelModel" 143 = some (14, 17) := by
  show (xt_look xt_ftab "TabKernelModel" 143).map (fun e => (e.1, e.2.1)) = _
  rw [show xt_look xt_ftab "TabKernelModel" 143 = some (14, 17, 1506) by decide +kernel]
  rfl
theorem xf_13_260 (fm : Value) : xm_fld (xt_X fm) "TabKernelModel" 260 = some (14, 18) := by
  show (xt_look xt_ftab "TabKernelModel" 260).map (fun e => (e.1, e.2.1)) = _
  rw [show xt_look xt_ftab "TabKernelModel" 260 = some (14, 18, 1507) by decide +kernel]
  rfl
theorem xf_13_265 (fm : Value) : xm_fld (xt_X fm) "TabKernelModel" 265 = some (14, 19) := by
  show (xt_look xt_ftab "TabKernelModel" 265).map (fun e => (e.1, e.2.1)) = _
  rw [show xt_look xt_ftab "TabKernelModel" 265 = some (14, 19, 1508) by decide +kernel]
  rfl
theorem xf_13_37 (fm : Value) : xm_fld (xt_X fm) "TabKernelModel" 37 = some (14, 20) := by
  show (xt_look xt_ftab "TabKernelModel" 37).map (fun e => (e.1, e.2.1)) = _
  rw [show xt_look xt_ftab "TabKernelModel" 37 = some (14, 20, 1509) by decide +kernel]
  rfl
theorem xf_13_40 (fm : Value) : xm_fld (xt_X fm) "TabKernelModel" 40 = some (14, 21) := by
  show (xt_look xt_ftab "TabKernelModel" 40).map (fun e => (e.1, e.2.1)) = _
  rw [show xt_look xt_ftab "TabKernelModel" 40 = some (14, 21, 1510) by decide +kernel]
  rfl
theorem xf_13_43 (fm : Value) : xm_fld (xt_X fm) "TabKernelModel" 43 = some (14, 22) := by
  show (xt_look xt_ftab "TabKernelModel" 43).map (fun e => (e.1, e.2.1)) = _
  rw [show xt_look xt_ftab "TabKernelModel" 43 = some (14, 22, 1511) by decide +kernel]
  rfl
theorem xf_13_46 (fm : Value) : xm_fld (xt_X fm) "TabKernelModel" 46 = some (14, 23) := by
  show (xt_look xt_ftab "TabKernelModel" 46).map (fun e => (e.1, e.2.1)) = _
  rw [show xt_look xt_ftab "TabKernelModel" 46 = some (14, 23, 1512) by decide +kernel]
  rfl
theorem xf_13_49 (fm : Value) : xm_fld (xt_X fm) "TabKernelModel" 49 = some (14, 24) := by
  show (xt_look xt_ftab "TabKernelModel" 49).map (fun e => (e.1, e.2.1)) = _
  rw [show xt_look xt_ftab "TabKernelModel" 49 = some (14, 24, 1513) by decide +kernel]
  rfl
theorem xf_13_52 (fm : Value) : xm_fld (xt_X fm) "TabKernelModel" 52 = some (14, 25) := by
  show (xt_look xt_ftab "TabKernelModel" 52).map (fun e => (e.1, e.2.1)) = _
  rw [show xt_look xt_ftab "TabKernelModel" 52 = some (14, 25, 1514) by decide +kernel]
  rfl
theorem xf_13_55 (fm : Value) : xm_fld (xt_X fm) "TabKernelModel" 55 = some (14, 26) := by
  show (xt_look xt_ftab "TabKernelModel" 55).map (fun e => (e.1, e.2.1)) = _
  rw [show xt_look xt_ftab "TabKernelModel" 55 = some (14, 26, 1515) by decide +kernel]
  rfl
theorem xf_13_58 (fm : Value) : xm_fld (xt_X fm) "TabKernelModel" 58 = some (14, 27) := by
  show (xt_look xt_ftab "TabKernelModel" 58).map (fun e => (e.1, e.2.1)) = _
  rw [show xt_look xt_ftab "TabKernelModel" 58 = some (14, 27, 1516) by decide +kernel]
  rfl
theorem xf_13_61 (fm : Value) : xm_fld (xt_X fm) "TabKernelModel" 61 = some (14, 28) := by
  show (xt_look xt_ftab "TabKernelModel" 61).map (fun e => (e.1, e.2.1)) = _
  rw [show xt_look xt_ftab "TabKernelModel" 61 = some (14, 28, 1517) by decide +kernel]
  rfl
theorem xf_13_64 (fm : Value) : xm_fld (xt_X fm) "TabKernelModel" 64 = some (14, 29) := by
  show (xt_look xt_ftab "TabKernelModel" 64).map (fun e => (e.1, e.2.1)) = _
  rw [show xt_look xt_ftab "TabKernelModel" 64 = some (14, 29, 1518) by decide +kernel]
  rfl
theorem xf_13_68 (fm : Value) : xm_fld (xt_X fm) "TabKernelModel" 68 = some (14, 30) := by
  show (xt_look xt_ftab "TabKernelModel" 68).map (fun e => (e.1, e.2.1)) = _
  rw [show xt_look xt_ftab "TabKernelModel" 68 = some (14, 30, 1519) by decide +kernel]
  rfl
theorem xf_13_71 (fm : Value) : xm_fld (xt_X fm) "TabKernelModel" 71 = some (14, 31) := by
  show (xt_look xt_ftab "TabKernelModel" 71).map (fun e => (e.1, e.2.1)) = _
  rw [show xt_look xt_ftab "TabKernelModel" 71 = some (14, 31, 1520) by decide +kernel]
  rfl
theorem xf_13_74 (fm : Value) : xm_fld (xt_X fm) "TabKernelModel" 74 = some (14, 32) := by
  show (xt_look xt_ftab "TabKernelModel" 74).map (fun e => (e.1, e.2.1)) = _
  rw [show xt_look xt_ftab "TabKernelModel" 74 = some (14, 32, 1521) by decide +kernel]
  rfl
theorem xf_13_307 (fm : Value) : xm_fld (xt_X fm) "TabKernelModel" 307 = some (14, 33) := by
  show (xt_look xt_ftab "TabKernelModel" 307).map (fun e => (e.1, e.2.1)) = _
  rw [show xt_look xt_ftab "TabKernelModel" 307 = some (14, 33, 1522) by decide +kernel]
  rfl
theorem xf_13_310 (fm : Value) : xm_fld (xt_X fm) "TabKernelModel" 310 = some (14, 34) := by
  show (xt_look xt_ftab "TabKernelModel" 310).map (fun e => (e.1, e.2.1)) = _
  rw [show xt_look xt_ftab "TabKernelModel" 310 = some (14, 34, 1523) by decide +kernel]
  rfl
theorem xf_13_330 (fm : Value) : xm_fld (xt_X fm) "TabKernelModel" 330 = some (14, 35) := by
  show (xt_look xt_ftab "TabKernelModel" 330).map (fun e => (e.1, e.2.1)) = _
  rw [show xt_look xt_ftab "TabKernelModel" 330 = some (14, 35, 1524) by decide +kernel]
  rfl
theorem xf_13_340 (fm : Value) : xm_fld (xt_X fm) "TabKernelModel" 340 = some (14, 36) := by
  show (xt_look xt_ftab "TabKernelModel" 340).map (fun e => (e.1, e.2.1)) = _
  rw [show xt_look xt_ftab "TabKernelModel" 340 = some (14, 36, 1525) by decide +kernel]
  rfl
theorem xf_13_313 (fm : Value) : xm_fld (xt_X fm) "TabKernelModel" 313 = some (14, 37) := by
  show (xt_look xt_ftab "TabKernelModel" 313).map (fun e => (e.1, e.2.1)) = _
  rw [show xt_look xt_ftab "TabKernelModel" 313 = some (14, 37, 1526) by decide +kernel]
  rfl
theorem xf_13_272 (fm : Value) : xm_fld (xt_X fm) "TabKernelModel" 272 = some (14, 38) := by
  show (xt_look xt_ftab "TabKernelModel" 272).map (fun e => (e.1, e.2.1)) = _
  rw [show xt_look xt_ftab "TabKernelModel" 272 = some (14, 38, 1527) by decide +kernel]
  rfl
theorem xf_13_275 (fm : Value) : xm_fld (xt_X fm) "TabKernelModel" 275 = some (14, 39) := by
  show (xt_look xt_ftab "TabKernelModel" 275).map (fun e => (e.1, e.2.1)) = _
  rw [show xt_look xt_ftab "TabKernelModel" 275 = some (14, 39, 1528) by decide +kernel]
  rfl
theorem xf_13_77 (fm : Value) : xm_fld (xt_X fm) "TabKernelModel" 77 = some (14, 40) := by
  show (xt_look xt_ftab "TabKernelModel" 77).map (fun e => (e.1, e.2.1)) = _
  rw [show xt_look xt_ftab "TabKernelModel" 77 = some (14, 40, 1529) by decide +kernel]
  rfl
theorem xf_13_80 (fm : Value) : xm_fld (xt_X fm) "TabKernelModel" 80 = some (14, 41) := by
  show (xt_look xt_ftab "TabKernelModel" 80).map (fun e => (e.1, e.2.1)) = _
  rw [show xt_look xt_ftab "TabKernelModel" 80 = some (14, 41, 1530) by decide +kernel]
  rfl
theorem xf_13_84 (fm : Value) : xm_fld (xt_X fm) "TabKernelModel" 84 = some (14, 42) := by
  show (xt_look xt_ftab "TabKernelModel" 84).map (fun e => (e.1, e.2.1)) = _
  rw [show xt_look xt_ftab "TabKernelModel" 84 = some (14, 42, 1531) by decide +kernel]
  rfl
theorem xf_13_87 (fm : Value) : xm_fld (xt_X fm) "TabKernelModel" 87 = some (14, 43) := by
  show (xt_look xt_ftab "TabKernelModel" 87).map (fun e => (e.1, e.2.1)) = _
  rw [show xt_look xt_ftab "TabKernelModel" 87 = some (14, 43, 1532) by decide +kernel]
  rfl
theorem xf_13_90 (fm : Value) : xm_fld (xt_X fm) "TabKernelModel" 90 = some (14, 44) := by
  show (xt_look xt_ftab "TabKernelModel" 90).map (fun e => (e.1, e.2.1)) = _
  rw [show xt_look xt_ftab "TabKernelModel" 90 = some (14, 44, 1533) by decide +kernel]
  rfl
theorem xf_13_93 (fm : Value) : xm_fld (xt_X fm) "TabKernelModel" 93 = some (14, 45) := by
  show (xt_look xt_ftab "TabKernelModel" 93).map (fun e => (e.1, e.2.1)) = _
  rw [show xt_look xt_ftab "TabKernelModel" 93 = some (14, 45, 1534) by decide +kernel]
  rfl
theorem xf_13_96 (fm : Value) : xm_fld (xt_X fm) "TabKernelModel" 96 = some (14, 46) := by
  show (xt_look xt_ftab "TabKernelModel" 96).map (fun e => (e.1, e.2.1)) = _
  rw [show xt_look xt_ftab "TabKernelModel" 96 = some (14, 46, 1535) by decide +kernel]
  rfl
theorem xf_13_99 (fm : Value) : xm_fld (xt_X fm) "TabKernelModel" 99 = some (14, 47) := by
  show (xt_look xt_ftab "TabKernelModel" 99).map (fun e => (e.1, e.2.1)) = _
  rw [show xt_look xt_ftab "TabKernelModel" 99 = some (14, 47, 1536) by decide +kernel]
  rfl
theorem xf_13_102 (fm : Value) : xm_fld (xt_X fm) "TabKernelModel" 102 = some (14, 48) := by
  show (xt_look xt_ftab "TabKernelModel" 102).map (fun e => (e.1, e.2.1)) = _
  rw [show xt_look xt_ftab "TabKernelModel" 102 = some (14, 48, 1537) by decide +kernel]
  rfl
theorem xf_13_105 (fm : Value) : xm_fld (xt_X fm) "TabKernelModel" 105 = some (14, 49) := by
  show (xt_look xt_ftab "TabKernelModel" 105).map (fun e => (e.1, e.2.1)) = _
  rw [show xt_look xt_ftab "TabKernelModel" 105 = some (14, 49, 1538) by decide +kernel]
  rfl
theorem xf_13_108 (fm : Value) : xm_fld (xt_X fm) "TabKernelModel" 108 = some (14, 50) := by
  show (xt_look xt_ftab "TabKernelModel" 108).map (fun e => (e.1, e.2.1)) = _
  rw [show xt_look xt_ftab "TabKernelModel" 108 = some (14, 50, 1539) by decide +kernel]
  rfl
theorem xf_13_111 (fm : Value) : xm_fld (xt_X fm) "TabKernelModel" 111 = some (14, 51) := by
  show (xt_look xt_ftab "TabKernelModel" 111).map (fun e => (e.1, e.2.1)) = _
  rw [show xt_look xt_ftab "TabKernelModel" 111 = some (14, 51, 1540) by decide +kernel]
  rfl
theorem xf_13_114 (fm : Value) : xm_fld (xt_X fm) "TabKernelModel" 114 = some (14, 52) := by
  show (xt_look xt_ftab "TabKernelModel" 114).map (fun e => (e.1, e.2.1)) = _
  rw [show xt_look xt_ftab "TabKernelModel" 114 = some (14, 52, 1541) by decide +kernel]
  rfl
theorem xf_13_461 (fm : Value) : xm_fld (xt_X fm) "TabKernelModel" 461 = some (14, 53) := by
  show (xt_look xt_ftab "TabKernelModel" 461).map (fun e => (e.1, e.2.1)) = _
  rw [show xt_look xt_ftab "TabKernelModel" 461 = some (14, 53, 1542) by decide +kernel]
  rfl
theorem xf_13_117 (fm : Value) : xm_fld (xt_X fm) "TabKernelModel" 117 = some (14, 54) := by
  show (xt_look xt_ftab "TabKernelModel" 117).map (fun e => (e.1, e.2.1)) = _
  rw [show xt_look xt_ftab "TabKernelModel" 117 = some (14, 54, 1543) by decide +kernel]
  rfl
theorem xf_13_373 (fm : Value) : xm_fld (xt_X fm) "TabKernelModel" 373 = some (14, 55) := by
  show (xt_look xt_ftab "TabKernelModel" 373).map (fun e => (e.1, e.2.1)) = _
  rw [show xt_look xt_ftab "TabKernelModel" 373 = some (14, 55, 1544) by decide +kernel]
  rfl
theorem xf_13_120 (fm : Value) : xm_fld (xt_X fm) "TabKernelModel" 120 = some (14, 56) := by
  show (xt_look xt_ftab "TabKernelModel" 120).map (fun e => (e.1, e.2.1)) = _
  rw [show xt_look xt_ftab "TabKernelModel" 120 = some (14, 56, 1545) by decide +kernel]
  rfl
theorem xf_13_123 (fm : Value) : xm_fld (xt_X fm) "TabKernelModel" 123 = some (14, 57) := by
  show (xt_look xt_ftab "TabKernelModel" 123).map (fun e => (e.1, e.2.1)) = _
  rw [show xt_look xt_ftab "TabKernelModel" 123 = some (14, 57, 1546) by decide +kernel]
  rfl
theorem xf_13_126 (fm : Value) : xm_fld (xt_X fm) "TabKernelModel" 126 = some (14, 58) := by
  show (xt_look xt_ftab "TabKernelModel" 126).map (fun e => (e.1, e.2.1)) = _
  rw [show xt_look xt_ftab "TabKernelModel" 126 = some (14, 58, 1547) by decide +kernel]
  rfl
theorem xf_13_129 (fm : Value) : xm_fld (xt_X fm) "TabKernelModel" 129 = some (14, 59) := by
  show (xt_look xt_ftab "TabKernelModel" 129).map (fun e => (e.1, e.2.1)) = _
  rw [show xt_look xt_ftab "TabKernelModel" 129 = some (14, 59, 1548) by decide +kernel]
  rfl
theorem xf_13_133 (fm : Value) : xm_fld (xt_X fm) "TabKernelModel" 133 = some (14, 60) := by
  show (xt_look xt_ftab "TabKernelModel" 133).map (fun e => (e.1, e.2.1)) = _
  rw [show xt_look xt_ftab "TabKernelModel" 133 = some (14, 60, 1549) by decide +kernel]
  rfl
theorem xf_13_137 (fm : Value) : xm_fld (xt_X fm) "TabKernelModel" 137 = some (14, 61) := by
  show (xt_look xt_ftab "TabKernelModel" 137).map (fun e => (e.1, e.2.1)) = _
  rw [show xt_look xt_ftab "TabKernelModel" 137 = some (14, 61, 1550) by decide +kernel]
  rfl
theorem xf_13_363 (fm : Value) : xm_fld (xt_X fm) "TabKernelModel" 363 = some (14, 62) := by
  show (xt_look xt_ftab "TabKernelModel" 363).map (fun e => (e.1, e.2.1)) = _
  rw [show xt_look xt_ftab "TabKernelModel" 363 = some (14, 62, 1551) by decide +kernel]
  rfl
theorem xf_13_140 (fm : Value) : xm_fld (xt_X fm) "TabKernelModel" 140 = some (14, 63) := by
  show (xt_look xt_ftab "TabKernelModel" 140).map (fun e => (e.1, e.2.1)) = _
  rw [show xt_look xt_ftab "TabKernelModel" 140 = some (14, 63, 1552) by decide +kernel]
  rfl
theorem xf_13_455 (fm : Value) : xm_fld (xt_X fm) "TabKernelModel" 455 = some (14, 64) := by
  show (xt_look xt_ftab "TabKernelModel" 455).map (fun e => (e.1, e.2.1)) = _
  rw [show xt_look xt_ftab "TabKernelModel" 455 = some (14, 64, 1553) by decide +kernel]
  rfl
