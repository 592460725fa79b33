/-! the tables say what the Statement's words say -/
def xt_ckF (e : String × Nat × Nat × Nat × Nat) : Bool := match xt_cl[e.2.2.1]? with
  | some q => decide (e.2.2.2.1 < q.2.2) && xt_in e.2.2.2.2 (.fieldLink e.1 e.2.1 (q.2.1 e.2.2.2.1).1 (q.2.1 e.2.2.2.1).2.1 (q.2.1 e.2.2.2.1).2.2.1)
  | none => false
theorem xt_ckF_0 : xt_ftab_0.all xt_ckF = true := by decide +kernel
theorem xt_ckF_1 : xt_ftab_1.all xt_ckF = true := by decide +kernel
theorem xt_ckF_2 : xt_ftab_2.all xt_ckF = true := by decide +kernel
theorem xt_ckF_3 : xt_ftab_3.all xt_ckF = true := by decide +kernel
def xt_ckN (e : String × Nat × Nat × Nat × Nat × Nat) : Bool := match xt_cl[e.2.2.1]? with
  | some q => xt_in e.2.2.2.1 (.classLink e.1 e.2.1 q.1) && xt_in e.2.2.2.2.1 (.instantiable q.1 q.2.2) && xt_in e.2.2.2.2.2 (.initialized q.1)
  | none => false
theorem xt_ckN_0 : xt_ntab.all xt_ckN = true := by decide +kernel
def xt_ckA (e : String × Nat × Nat × Nat × Nat) : Bool := match xt_at[e.2.2.1]? with
  | some (.object C) => xt_in e.2.2.2.1 (.classLink e.1 e.2.1 C) && xt_in e.2.2.2.2 (.arrayOver (.object C))
  | _ => false
theorem xt_ckA_0 : xt_atab.all xt_ckA = true := by decide +kernel
def xt_ckS (e : String × Nat × Nat × Nat) : Bool := match e.2.2.1 with
  | 1 => xt_in e.2.2.2 (.methodLink e.1 e.2.1 objectInit)
  | 2 => xt_in e.2.2.2 (.methodLink e.1 e.2.1 arraycopyName)
  | 3 => xt_in e.2.2.2 (.methodLink e.1 e.2.1 ⟨"[B", "clone", "()Ljava/lang/Object;"⟩)
  | 4 => xt_in e.2.2.2 (.classLink e.1 e.2.1 "[B")
  | _ => false
theorem xt_ckS_0 : xt_stab.all xt_ckS = true := by decide +kernel
theorem xt_s1 : Cond.instanceMethod objectInit ∈ xt_tb ∧ Cond.code objectInit ⟨#[0xb1]⟩ 1 none ∈ xt_tb := ⟨xt_in_mem (i := 38) (by decide +kernel), xt_in_mem (i := 39) (by decide +kernel)⟩
theorem xt_s2 : Cond.native arraycopyName ∈ xt_tb ∧ Cond.static arraycopyName ∈ xt_tb ∧ Cond.initialized "java/lang/System" ∈ xt_tb := ⟨xt_in_mem (i := 286) (by decide +kernel), xt_in_mem (i := 285) (by decide +kernel), xt_in_mem (i := 19) (by decide +kernel)⟩
theorem xt_s3 : Cond.sameMethod "[B" "java/lang/Object" "clone" "()Ljava/lang/Object;" ∈ xt_tb ∧ Cond.native ⟨"java/lang/Object", "clone", "()Ljava/lang/Object;"⟩ ∈ xt_tb ∧ Cond.instanceMethod ⟨"java/lang/Object", "clone", "()Ljava/lang/Object;"⟩ ∈ xt_tb ∧ Cond.selects "[B" ⟨"[B", "clone", "()Ljava/lang/Object;"⟩ ⟨"java/lang/Object", "clone", "()Ljava/lang/Object;"⟩ ∈ xt_tb ∧ Cond.castable "[B" "java/lang/Cloneable" ∈ xt_tb :=
  ⟨xt_in_mem (i := 277) (by decide +kernel), xt_in_mem (i := 278) (by decide +kernel), xt_in_mem (i := 279) (by decide +kernel), xt_in_mem (i := 280) (by decide +kernel), xt_in_mem (i := 281) (by decide +kernel)⟩
theorem xt_a0 : Cond.arrayClass .int ∈ xt_tb := xt_in_mem (i := 125) (by decide +kernel)
theorem xt_a1 : Cond.arrayClass .byte ∈ xt_tb := xt_in_mem (i := 72) (by decide +kernel)
theorem xt_a2 : Cond.arrayClass .char ∈ xt_tb := xt_in_mem (i := 638) (by decide +kernel)
theorem xt_a3 : Cond.arrayClass .boolean ∈ xt_tb := xt_in_mem (i := 1685) (by decide +kernel)
theorem xt_a4 : Cond.arrayClass .long ∈ xt_tb := xt_in_mem (i := 2107) (by decide +kernel)
def xt_w0 : List Nat := [194, 196, 198, 200, 202, 204, 206, 208, 210, 212, 214, 216]
theorem xt_l0 : (List.range 12).all (fun k => xt_in (xt_w0.getD k 0) (u_lay "TabKernel" xt_T0 k)) = true := by decide +kernel
theorem xt_d0 : ∀ k, k < 12 → parseFieldDescriptor (xt_T0 k).2.2.1 = some (xt_t0 k) := by decide +kernel
theorem xt_n0 : ∀ a, a < 12 → ∀ b, b < 12 → a ≠ b → (xt_T0 a).2.1 ≠ (xt_T0 b).2.1 := by decide +kernel
def xt_w1 : List Nat := [63, 65, 67, 69]
theorem xt_l1 : (List.range 4).all (fun k => xt_in (xt_w1.getD k 0) (u_lay "java/lang/StringBuilder" xt_T1 k)) = true := by decide +kernel
theorem xt_d1 : ∀ k, k < 4 → parseFieldDescriptor (xt_T1 k).2.2.1 = some (xt_t1 k) := by decide +kernel
theorem xt_n1 : ∀ a, a < 4 → ∀ b, b < 4 → a ≠ b → (xt_T1 a).2.1 ≠ (xt_T1 b).2.1 := by decide +kernel
def xt_w2 : List Nat := [90, 92, 94, 96, 98, 100, 102, 104]
theorem xt_l2 : (List.range 8).all (fun k => xt_in (xt_w2.getD k 0) (u_lay "TabKernel$AddressReader" xt_T2 k)) = true := by decide +kernel
theorem xt_d2 : ∀ k, k < 8 → parseFieldDescriptor (xt_T2 k).2.2.1 = some (xt_t2 k) := by decide +kernel
theorem xt_n2 : ∀ a, a < 8 → ∀ b, b < 8 → a ≠ b → (xt_T2 a).2.1 ≠ (xt_T2 b).2.1 := by decide +kernel
def xt_w3 : List Nat := [118, 120, 122]
theorem xt_l3 : (List.range 3).all (fun k => xt_in (xt_w3.getD k 0) (u_lay "TabKernel$Storage" xt_T3 k)) = true := by decide +kernel
theorem xt_d3 : ∀ k, k < 3 → parseFieldDescriptor (xt_T3 k).2.2.1 = some (xt_t3 k) := by decide +kernel
theorem xt_n3 : ∀ a, a < 3 → ∀ b, b < 3 → a ≠ b → (xt_T3 a).2.1 ≠ (xt_T3 b).2.1 := by decide +kernel
def xt_w4 : List Nat := [169, 171, 173, 175, 177, 179]
theorem xt_l4 : (List.range 6).all (fun k => xt_in (xt_w4.getD k 0) (u_lay "TabKernel$Jar" xt_T4 k)) = true := by decide +kernel
theorem xt_d4 : ∀ k, k < 6 → parseFieldDescriptor (xt_T4 k).2.2.1 = some (xt_t4 k) := by decide +kernel
theorem xt_n4 : ∀ a, a < 6 → ∀ b, b < 6 → a ≠ b → (xt_T4 a).2.1 ≠ (xt_T4 b).2.1 := by decide +kernel
def xt_w5 : List Nat := [155, 157]
theorem xt_l5 : (List.range 2).all (fun k => xt_in (xt_w5.getD k 0) (u_lay "TabKernel$Suffixes" xt_T5 k)) = true := by decide +kernel
theorem xt_d5 : ∀ k, k < 2 → parseFieldDescriptor (xt_T5 k).2.2.1 = some (xt_t5 k) := by decide +kernel
theorem xt_n5 : ∀ a, a < 2 → ∀ b, b < 2 → a ≠ b → (xt_T5 a).2.1 ≠ (xt_T5 b).2.1 := by decide +kernel
def xt_w6 : List Nat := [430, 432, 434, 436]
theorem xt_l6 : (List.range 4).all (fun k => xt_in (xt_w6.getD k 0) (u_lay "java/lang/String" xt_T6 k)) = true := by decide +kernel
theorem xt_d6 : ∀ k, k < 4 → parseFieldDescriptor (xt_T6 k).2.2.1 = some (xt_t6 k) := by decide +kernel
theorem xt_n6 : ∀ a, a < 4 → ∀ b, b < 4 → a ≠ b → (xt_T6 a).2.1 ≠ (xt_T6 b).2.1 := by decide +kernel
def xt_w7 : List Nat := [635]
theorem xt_l7 : (List.range 1).all (fun k => xt_in (xt_w7.getD k 0) (u_lay "TabKernel$Suffix" xt_T7 k)) = true := by decide +kernel
theorem xt_d7 : ∀ k, k < 1 → parseFieldDescriptor (xt_T7 k).2.2.1 = some (xt_t7 k) := by decide +kernel
theorem xt_n7 : ∀ a, a < 1 → ∀ b, b < 1 → a ≠ b → (xt_T7 a).2.1 ≠ (xt_T7 b).2.1 := by decide +kernel
def xt_w8 : List Nat := [810, 812, 814, 816, 818, 820]
theorem xt_l8 : (List.range 6).all (fun k => xt_in (xt_w8.getD k 0) (u_lay "TabKernel$Address" xt_T8 k)) = true := by decide +kernel
theorem xt_d8 : ∀ k, k < 6 → parseFieldDescriptor (xt_T8 k).2.2.1 = some (xt_t8 k) := by decide +kernel
theorem xt_n8 : ∀ a, a < 6 → ∀ b, b < 6 → a ≠ b → (xt_T8 a).2.1 ≠ (xt_T8 b).2.1 := by decide +kernel
def xt_w9 : List Nat := [854, 856, 858, 860, 862]
theorem xt_l9 : (List.range 5).all (fun k => xt_in (xt_w9.getD k 0) (u_lay "TabKernel$Frame" xt_T9 k)) = true := by decide +kernel
theorem xt_d9 : ∀ k, k < 5 → parseFieldDescriptor (xt_T9 k).2.2.1 = some (xt_t9 k) := by decide +kernel
theorem xt_n9 : ∀ a, a < 5 → ∀ b, b < 5 → a ≠ b → (xt_T9 a).2.1 ≠ (xt_T9 b).2.1 := by decide +kernel
def xt_w10 : List Nat := [896, 898, 900, 902, 904, 906, 908, 910, 912, 914]
theorem xt_l10 : (List.range 10).all (fun k => xt_in (xt_w10.getD k 0) (u_lay "TabKernel$Request" xt_T10 k)) = true := by decide +kernel
theorem xt_d10 : ∀ k, k < 10 → parseFieldDescriptor (xt_T10 k).2.2.1 = some (xt_t10 k) := by decide +kernel
theorem xt_n10 : ∀ a, a < 10 → ∀ b, b < 10 → a ≠ b → (xt_T10 a).2.1 ≠ (xt_T10 b).2.1 := by decide +kernel
def xt_w11 : List Nat := [1352, 1354, 1356, 1358, 1360, 1362, 1364, 1366]
theorem xt_l11 : (List.range 8).all (fun k => xt_in (xt_w11.getD k 0) (u_lay "TabKernel$Cookie" xt_T11 k)) = true := by decide +kernel
theorem xt_d11 : ∀ k, k < 8 → parseFieldDescriptor (xt_T11 k).2.2.1 = some (xt_t11 k) := by decide +kernel
theorem xt_n11 : ∀ a, a < 8 → ∀ b, b < 8 → a ≠ b → (xt_T11 a).2.1 ≠ (xt_T11 b).2.1 := by decide +kernel
def xt_w12 : List Nat := [975, 977, 979, 981]
theorem xt_l12 : (List.range 4).all (fun k => xt_in (xt_w12.getD k 0) (u_lay "TabKernel$Message" xt_T12 k)) = true := by decide +kernel
theorem xt_d12 : ∀ k, k < 4 → parseFieldDescriptor (xt_T12 k).2.2.1 = some (xt_t12 k) := by decide +kernel
theorem xt_n12 : ∀ a, a < 4 → ∀ b, b < 4 → a ≠ b → (xt_T12 a).2.1 ≠ (xt_T12 b).2.1 := by decide +kernel
def xt_w13 : List Nat := [1229, 1231, 1233, 1235, 1237, 1239, 1241]
theorem xt_l13 : (List.range 7).all (fun k => xt_in (xt_w13.getD k 0) (u_lay "TabKernel$CookieText" xt_T13 k)) = true := by decide +kernel
theorem xt_d13 : ∀ k, k < 7 → parseFieldDescriptor (xt_T13 k).2.2.1 = some (xt_t13 k) := by decide +kernel
theorem xt_n13 : ∀ a, a < 7 → ∀ b, b < 7 → a ≠ b → (xt_T13 a).2.1 ≠ (xt_T13 b).2.1 := by decide +kernel
def xt_w14 : List Nat := [1554, 1556, 1558, 1560, 1562, 1564, 1566, 1568, 1570, 1572, 1574, 1576, 1578, 1580, 1582, 1584, 1586, 1588, 1590, 1592, 1594, 1596, 1598, 1600, 1602, 1604, 1606, 1608, 1610, 1612, 1614, 1616, 1618, 1620, 1622, 1624, 1626, 1628, 1630, 1632, 1634, 1636, 1638, 1640, 1642, 1644, 1646, 1648, 1650, 1652, 1654, 1656, 1658, 1660, 1662, 1664, 1666, 1668, 1670, 1672, 1674, 1676, 1678, 1680, 1682]
theorem xt_l14 : (List.range 65).all (fun k => xt_in (xt_w14.getD k 0) (u_lay "TabKernelModel" xt_T14 k)) = true := by decide +kernel
theorem xt_d14 : ∀ k, k < 65 → parseFieldDescriptor (xt_T14 k).2.2.1 = some (xt_t14 k) := by decide +kernel
theorem xt_n14 : ∀ a, a < 65 → ∀ b, b < 65 → a ≠ b → (xt_T14 a).2.1 ≠ (xt_T14 b).2.1 := by decide +kernel
theorem xt_lay {C : String} {T : u_T} {N : Nat} {ws : List Nat} (h : (List.range N).all (fun k => xt_in (ws.getD k 0) (u_lay C T k)) = true) : ∀ v ∈ u_ws C T N, v ∈ xt_tb := by
  intro v hv
  obtain ⟨k, hk, rfl⟩ := List.mem_map.mp hv
  exact xt_in_mem (List.all_eq_true.mp h k hk)
theorem xt_all_app {α : Type} {f : α → Bool} {a b : List α} (h1 : a.all f = true) (h2 : b.all f = true) : (a ++ b).all f = true := by rw [List.all_append, h1, h2]; rfl
theorem xt_TB_f (fm : Value) : xz_TBf (xt_X fm) xt_tb := by
  intro own idx ci k h
  have hall : xt_ftab.all xt_ckF = true := xt_all_app xt_ckF_0 (xt_all_app xt_ckF_1 (xt_all_app xt_ckF_2 (xt_ckF_3)))
  obtain ⟨e, he, h2⟩ := Option.map_eq_some_iff.mp (show (xt_look xt_ftab own idx).map (fun e => (e.1, e.2.1)) = some (ci, k) from h)
  have hm := List.all_eq_true.mp hall _ (xt_look_mem he)
  cases h2
  unfold xt_ckF at hm
  split at hm
  · rename_i q hq
    obtain ⟨C, T, N⟩ := q
    simp only [Bool.and_eq_true, decide_eq_true_eq] at hm
    exact ⟨C, T, N, _, hq, hm.1, Or.inl (xt_in_mem hm.2), Or.inl rfl⟩
  · cases hm
theorem xt_TB_c (fm : Value) : xz_TBc (xt_X fm) xt_tb := by
  intro ci C T N h
  have h : xt_cl[ci]? = some (C, T, N) := h
  have hlt : ci < 16 := (List.getElem?_eq_some_iff.mp h).1
  have hcs : ci = 0 ∨ ci = 1 ∨ ci = 2 ∨ ci = 3 ∨ ci = 4 ∨ ci = 5 ∨ ci = 6 ∨ ci = 7 ∨ ci = 8 ∨ ci = 9 ∨ ci = 10 ∨ ci = 11 ∨ ci = 12 ∨ ci = 13 ∨ ci = 14 ∨ ci = 15 := by omega
  rcases hcs with rfl | rfl | rfl | rfl | rfl | rfl | rfl | rfl | rfl | rfl | rfl | rfl | rfl | rfl | rfl | rfl
  · cases h
    exact ⟨xt_lay xt_l0, xt_d0, xt_n0⟩
  · cases h
    exact ⟨xt_lay xt_l1, xt_d1, xt_n1⟩
  · cases h
    exact ⟨xt_lay xt_l2, xt_d2, xt_n2⟩
  · cases h
    exact ⟨xt_lay xt_l3, xt_d3, xt_n3⟩
  · cases h
    exact ⟨xt_lay xt_l4, xt_d4, xt_n4⟩
  · cases h
    exact ⟨xt_lay xt_l5, xt_d5, xt_n5⟩
  · cases h
    exact ⟨xt_lay xt_l6, xt_d6, xt_n6⟩
  · cases h
    exact ⟨xt_lay xt_l7, xt_d7, xt_n7⟩
  · cases h
    exact ⟨xt_lay xt_l8, xt_d8, xt_n8⟩
  · cases h
    exact ⟨xt_lay xt_l9, xt_d9, xt_n9⟩
  · cases h
    exact ⟨xt_lay xt_l10, xt_d10, xt_n10⟩
  · cases h
    exact ⟨xt_lay xt_l11, xt_d11, xt_n11⟩
  · cases h
    exact ⟨xt_lay xt_l12, xt_d12, xt_n12⟩
  · cases h
    exact ⟨xt_lay xt_l13, xt_d13, xt_n13⟩
  · cases h
    exact ⟨xt_lay xt_l14, xt_d14, xt_n14⟩
  · cases h
    exact ⟨fun v hv => absurd (show v ∈ ([] : List Cond) from hv) List.not_mem_nil, fun k hk => absurd hk (Nat.not_lt_zero _), fun a ha => absurd ha (Nat.not_lt_zero _)⟩
theorem xt_TB_n (fm : Value) : xz_TBn (xt_X fm) xt_tb := by
  intro own idx ci h
  obtain ⟨e, he, h2⟩ := Option.map_eq_some_iff.mp (show (xt_look xt_ntab own idx).map (fun e => e.1) = some ci from h)
  have hm := List.all_eq_true.mp xt_ckN_0 _ (xt_look_mem he)
  cases h2
  unfold xt_ckN at hm
  split at hm
  · rename_i q hq
    obtain ⟨C, T, N⟩ := q
    simp only [Bool.and_eq_true] at hm
    exact ⟨C, T, N, hq, xt_in_mem hm.1.1, xt_in_mem hm.1.2, xt_in_mem hm.2⟩
  · cases hm
theorem xt_TB_a (fm : Value) : xz_TBa (xt_X fm) xt_tb := by
  refine ⟨?_, ?_⟩
  · intro own idx t h
    obtain ⟨e, he, h2⟩ := Option.map_eq_some_iff.mp (show (xt_look xt_atab own idx).map (fun e => e.1) = some t from h)
    have hm := List.all_eq_true.mp xt_ckA_0 _ (xt_look_mem he)
    cases h2
    unfold xt_ckA at hm
    split at hm
    · rename_i C hC
      simp only [Bool.and_eq_true] at hm
      exact ⟨C, hC, xt_in_mem hm.1, xt_in_mem hm.2⟩
    · cases hm
  · intro t ty h _
    cases ty <;> first | exact xt_a0 | exact xt_a1 | exact xt_a2 | exact xt_a3 | exact xt_a4 | cases h
theorem xt_TB_s (fm : Value) : xz_TBs (xt_X fm) xt_tb := by
  intro own idx
  have key : ∀ v : Nat, v ≠ 0 → xm_spc (xt_X fm) own idx = v → ∃ j, xt_ckS (own, idx, v, j) = true := by
    intro v hv h
    have h : ((xt_look xt_stab own idx).map (fun e => e.1)).getD 0 = v := h
    cases hl : xt_look xt_stab own idx with
    | none => rw [hl] at h; exact absurd h.symm hv
    | some e =>
      rw [hl] at h
      have h : e.1 = v := h
      have hm := List.all_eq_true.mp xt_ckS_0 _ (xt_look_mem hl)
      obtain ⟨e1, e2⟩ := e
      subst h
      exact ⟨e2, hm⟩
  refine ⟨fun h => ?_, fun h => ?_, fun h => ?_, fun h => ?_⟩
  · obtain ⟨j, hj⟩ := key 1 (by decide) h
    exact ⟨xt_in_mem hj, xt_s1.1, xt_s1.2⟩
  · obtain ⟨j, hj⟩ := key 2 (by decide) h
    exact ⟨xt_in_mem hj, xt_s2.1, xt_s2.2.1, xt_s2.2.2⟩
  · obtain ⟨j, hj⟩ := key 3 (by decide) h
    exact ⟨xt_in_mem hj, xt_s3.1, xt_s3.2.1, xt_s3.2.2.1, xt_s3.2.2.2.1, xt_s3.2.2.2.2⟩
  · obtain ⟨j, hj⟩ := key 4 (by decide) h
    exact xt_in_mem hj
theorem xt_TB (fm : Value) : xz_TB (xt_X fm) xt_tb := ⟨xt_TB_f fm, xt_TB_c fm, xt_TB_n fm, xt_TB_a fm, xt_TB_s fm⟩
