/-! the reference: its object m, its arrays one behind the other; scalars and arrays by the number of their field -/
def xo_A : List (Nat × Nat × Nat) := [(1, 0, 160), (4, 0, 5880), (5, 0, 98), (6, 0, 300), (7, 0, 300), (8, 0, 300), (9, 0, 160), (14, 0, 640), (15, 0, 8), (20, 0, 504), (21, 0, 504), (22, 0, 1680), (23, 0, 1260), (24, 0, 42), (25, 0, 42), (26, 0, 42), (27, 0, 42), (28, 0, 42), (29, 3, 42), (30, 3, 42), (31, 3, 42), (32, 0, 160), (40, 3, 4), (42, 0, 16), (43, 0, 16), (44, 3, 16), (45, 3, 16), (46, 0, 24), (47, 0, 24), (48, 0, 24), (49, 0, 24), (50, 0, 24), (51, 3, 24), (52, 3, 24), (54, 0, 64), (56, 0, 200), (57, 0, 200), (58, 0, 200), (59, 0, 200), (60, 1, 40000), (61, 0, 1400), (63, 0, 1400)]
def xo_rk : List (Option Nat) := [none, some 0, none, none, some 1, some 2, some 3, some 4, some 5, some 6, none, none, none, none, some 7, some 8, none, none, none, none, some 9, some 10, some 11, some 12, some 13, some 14, some 15, some 16, some 17, some 18, some 19, some 20, some 21, none, none, none, none, none, none, none, some 22, none, some 23, some 24, some 25, some 26, some 27, some 28, some 29, some 30, some 31, some 32, some 33, none, some 34, none, some 35, some 36, some 37, some 38, some 39, some 40, none, some 41, none]
def xo_v (m : Nat) (s : Nat → Int) (k : Nat) : Value := match xo_rk.getD k none with
  | some j => .ref (m + 1 + j)
  | none => xi (s k)
def xo_fs (m : Nat) (s : Nat → Int) : List Value := (List.range 65).map (xo_v m s)
def xo_a (ar : Nat → Nat → Int) (e : Nat × Nat × Nat) : va_E := .inl (e.2.1, e.2.2, .inl (fun j => Int32.ofInt (ar e.1 j)))
def xo (m : Nat) (s : Nat → Int) (ar : Nat → Nat → Int) (h0 : xm_H) : xm_H := fun i => if i = m then .inr (14, xo_fs m s) else if i < m then h0 i else match xo_A[i - m - 1]? with
  | some e => xo_a ar e
  | none => h0 i
def xo_u (s : Nat → Int) (k : Nat) (z : Int) (j : Nat) : Int := if j = k then z else s j
def xo_w (ar : Nat → Nat → Int) (k i : Nat) (z : Int) (a j : Nat) : Int := if a = k ∧ j = i then z else ar a j
def xo_wf (s : Nat → Int) (ar : Nat → Nat → Int) : Prop := (∀ k, xr (s k)) ∧ ∀ k i, xr (ar k i)
theorem xo_uS {s : Nat → Int} {k : Nat} {z : Int} : xo_u s k z k = z := by
  unfold xo_u
  rw [if_pos rfl]
theorem xo_uN {s : Nat → Int} {k j : Nat} {z : Int} (h : j ≠ k) : xo_u s k z j = s j := by
  unfold xo_u
  rw [if_neg h]
theorem xo_wN {ar : Nat → Nat → Int} {k i a j : Nat} {z : Int} (h : a ≠ k) : xo_w ar k i z a j = ar a j := by
  unfold xo_w
  rw [if_neg (fun e => h e.1)]
theorem xo_wf_u {s : Nat → Int} {ar : Nat → Nat → Int} {k : Nat} {z : Int} (h : xo_wf s ar) (hz : xr z) : xo_wf (xo_u s k z) ar := by
  refine ⟨fun j => ?_, h.2⟩
  unfold xo_u
  split
  · exact hz
  · exact h.1 j
theorem xo_wf_w {s : Nat → Int} {ar : Nat → Nat → Int} {k i : Nat} {z : Int} (h : xo_wf s ar) (hz : xr z) : xo_wf s (xo_w ar k i z) := by
  refine ⟨h.1, fun a j => ?_⟩
  unfold xo_w
  split
  · exact hz
  · exact h.2 a j
section XO
variable {m : Nat} {s : Nat → Int} {ar : Nat → Nat → Int} {h0 : xm_H}
theorem xo_at : xo m s ar h0 m = .inr (14, xo_fs m s) := by
  unfold xo
  rw [if_pos rfl]
theorem xo_arr {j k t n : Nat} (h : xo_A[j]? = some (k, t, n)) : xo m s ar h0 (m + 1 + j) = .inl (t, n, .inl (fun i => Int32.ofInt (ar k i))) := by
  unfold xo
  rw [if_neg (by omega), if_neg (by omega), show m + 1 + j - m - 1 = j by omega, h]
  rfl
theorem xo_get {k : Nat} (h : k < 65) : (xo_fs m s)[k]? = some (xo_v m s k) := by
  unfold xo_fs
  rw [List.getElem?_map, List.getElem?_range h]
  rfl
theorem xo_len : (xo_fs m s).length = 65 := by simp [xo_fs]
theorem xo_set {k : Nat} {z : Int} (h : k < 65) (hr : xo_rk.getD k none = none) : (xo_fs m s).set k (xi z) = xo_fs m (xo_u s k z) := by
  apply List.ext_getElem?
  intro j
  rw [List.getElem?_set]
  by_cases hj : j < 65
  · rw [xo_get hj, xo_get hj]
    by_cases hk : k = j
    · subst hk
      rw [if_pos rfl, if_pos (by rw [xo_len]; exact h)]
      unfold xo_v xo_u
      rw [hr]
      dsimp only
      rw [if_pos rfl]
    · rw [if_neg hk]
      unfold xo_v xo_u
      cases xo_rk.getD j none with
      | some a => rfl
      | none =>
        dsimp only
        rw [if_neg (fun e => hk e.symm)]
  · have e1 : (xo_fs m s)[j]? = none := List.getElem?_eq_none (by rw [xo_len]; omega)
    have e2 : (xo_fs m (xo_u s k z))[j]? = none := List.getElem?_eq_none (by rw [xo_len]; omega)
    rw [e1, e2, if_neg (by omega)]
theorem xo_put {k : Nat} {z : Int} (h : k < 65) (hr : xo_rk.getD k none = none) : va_up (xo m s ar h0) m (.inr (14, (xo_fs m s).set k (xi z))) = xo m (xo_u s k z) ar h0 := by
  rw [xo_set h hr]
  funext i
  unfold va_up xo
  by_cases hi : i = m
  · rw [if_pos hi, if_pos hi]
  · rw [if_neg hi, if_neg hi, if_neg hi]
theorem xo_two : ∀ j, j < 42 → ∀ j', j' < 42 → (xo_A.getD j (0, 0, 0)).1 = (xo_A.getD j' (0, 0, 0)).1 → j = j' := by decide +kernel
theorem xo_Alen : xo_A.length = 42 := by decide
theorem xo_one {j j' k t n t' n' : Nat} (h : xo_A[j]? = some (k, t, n)) (h' : xo_A[j']? = some (k, t', n')) : j = j' := by
  have l1 : j < 42 := by rw [← xo_Alen]; exact (List.getElem?_eq_some_iff.mp h).1
  have l2 : j' < 42 := by rw [← xo_Alen]; exact (List.getElem?_eq_some_iff.mp h').1
  refine xo_two j l1 j' l2 ?_
  simp [List.getD, h, h']
theorem xo_sto {j k t n i : Nat} {z : Int} (h : xo_A[j]? = some (k, t, n)) : va_up (xo m s ar h0) (m + 1 + j) (.inl (t, n, .inl (upd (fun i => Int32.ofInt (ar k i)) i (Int32.ofInt z)))) = xo m s (xo_w ar k i z) h0 := by
  funext q
  unfold va_up xo
  by_cases hq : q = m + 1 + j
  · subst hq
    rw [if_pos rfl, if_neg (by omega), if_neg (by omega), show m + 1 + j - m - 1 = j by omega, h]
    show _ = (Sum.inl (t, n, Sum.inl (fun x => Int32.ofInt (xo_w ar k i z k x))) : va_E)
    congr 3
    congr 1
    funext x
    unfold upd xo_w
    by_cases hx : x = i
    · simp [hx]
    · simp [hx]
  · rw [if_neg hq]
    by_cases hm : q = m
    · rw [if_pos hm, if_pos hm]
    · rw [if_neg hm, if_neg hm]
      by_cases hl : q < m
      · rw [if_pos hl, if_pos hl]
      · rw [if_neg hl, if_neg hl]
        cases he : xo_A[q - m - 1]? with
        | none => rfl
        | some e =>
          obtain ⟨k', t', n'⟩ := e
          show xo_a ar (k', t', n') = xo_a (xo_w ar k i z) (k', t', n')
          have hk : k' ≠ k := by
            intro e
            subst e
            have := xo_one he h
            omega
          unfold xo_a xo_w
          simp [hk]
end XO
section XOR
variable {fm : Value} {y pc q n c u m : Nat} {L : xm_L} {Q : xe_Q} {D : xt_D} {r : List Value} {s : Nat → Int} {ar : Nat → Nat → Int} {h0 : xm_H}
theorem xe_mgs {idx k : Nat} (hy : xt_md[y]? = some D) (hi : xt_lk D.2.2.2.2.2 pc = some (.getfield idx, 3)) (hq : pc + 3 = q) (hf : xm_fld (xt_X fm) D.1.cls idx = some (14, k)) (hk : k < 65) (hr : xo_rk.getD k none = none) (hm : m < n) (kk : xe fm y (q, L, xi (s k) :: r, (xo m s ar h0, n, c, u)) Q) : xe fm y (pc, L, .ref m :: r, (xo m s ar h0, n, c, u)) Q := by
  subst hq
  refine xe_s hy hi rfl rfl rfl (f := (pc + 3, L, xi (s k) :: r, (xo m s ar h0, n, c, u))) ?_ kk
  show xm_gf (xt_X fm) D.1.cls idx pc L (.ref m :: r) (xo m s ar h0, n, c, u) = _
  unfold xm_gf
  dsimp only
  rw [hf, xo_at]
  dsimp only
  rw [if_pos ⟨rfl, hm⟩, xo_get hk]
  unfold xo_v
  rw [hr]
  rfl
theorem xe_mga {idx k j : Nat} (hy : xt_md[y]? = some D) (hi : xt_lk D.2.2.2.2.2 pc = some (.getfield idx, 3)) (hq : pc + 3 = q) (hf : xm_fld (xt_X fm) D.1.cls idx = some (14, k)) (hk : k < 65) (hr : xo_rk.getD k none = some j) (hm : m < n) (kk : xe fm y (q, L, .ref (m + 1 + j) :: r, (xo m s ar h0, n, c, u)) Q) : xe fm y (pc, L, .ref m :: r, (xo m s ar h0, n, c, u)) Q := by
  subst hq
  refine xe_s hy hi rfl rfl rfl (f := (pc + 3, L, .ref (m + 1 + j) :: r, (xo m s ar h0, n, c, u))) ?_ kk
  show xm_gf (xt_X fm) D.1.cls idx pc L (.ref m :: r) (xo m s ar h0, n, c, u) = _
  unfold xm_gf
  dsimp only
  rw [hf, xo_at]
  dsimp only
  rw [if_pos ⟨rfl, hm⟩, xo_get hk]
  unfold xo_v
  rw [hr]
  rfl
/-- a scalar is written; of a boolean: 0 or 1 -/
theorem xe_mps {idx k : Nat} {z : Int} (hy : xt_md[y]? = some D) (hi : xt_lk D.2.2.2.2.2 pc = some (.putfield idx, 3)) (hq : pc + 3 = q) (hf : xm_fld (xt_X fm) D.1.cls idx = some (14, k)) (hk : k < 65) (hr : xo_rk.getD k none = none) (hm : 44 ≤ m) (hn : m < n) (hz : narrow (xt_t14 k) (xi z) = xi z ∧ fits (xt_t14 k) (xi z) = true) (hfin : (xt_T14 k).2.2.2 = false ∨ (decide (D.1.name = "<init>") = true ∧ (xt_T14 k).1 = D.1.cls)) (kk : xe fm y (q, L, r, (xo m (xo_u s k z) ar h0, n, c, u)) Q) : xe fm y (pc, L, xi z :: .ref m :: r, (xo m s ar h0, n, c, u)) Q := by
  subst hq
  refine xe_s hy hi rfl rfl rfl (f := (pc + 3, L, r, (xo m (xo_u s k z) ar h0, n, c, u))) ?_ kk
  show xm_pf (xt_X fm) D.1.cls (decide (D.1.name = "<init>")) 44 idx pc L (xi z :: .ref m :: r) (xo m s ar h0, n, c, u) = _
  unfold xm_pf
  dsimp only
  rw [hf, xo_at]
  dsimp only
  rw [show (xm_cl (xt_X fm))[14]? = some ("TabKernelModel", xt_T14, 65) from rfl]
  dsimp only
  rw [if_pos ⟨rfl, hm, hn, by rw [xo_len]; exact hk, hk, hz.1, hz.2, hfin⟩, xo_put hk hr]
theorem xi_bool {z : Int} (h : z = 0 ∨ z = 1) : narrow .boolean (xi z) = xi z ∧ fits .boolean (xi z) = true := by
  rcases h with rfl | rfl
  · exact ⟨by decide +kernel, by decide +kernel⟩
  · exact ⟨by decide +kernel, by decide +kernel⟩
theorem xi_nb {z : Int} (h : z = 0 ∨ z = 1) : vp_nar .boolean (Int32.ofInt z) = Int32.ofInt z := by
  rcases h with rfl | rfl
  · decide +kernel
  · decide +kernel
theorem xi_int {z : Int} : narrow .int (xi z) = xi z ∧ fits .int (xi z) = true := ⟨rfl, rfl⟩
theorem xe_mal {ins : Instr} {ok : FieldType → Bool} {j k t e : Nat} {ty : FieldType} {z : Int} (hy : xt_md[y]? = some D) (hi : xt_lk D.2.2.2.2.2 pc = some (ins, 1)) (hq : pc + 1 = q) (h1 : ∀ S M, xm_end (xt_y D) ins S = none ∧ xm_thr (xt_P fm) (xt_y D) ins pc S M = none ∧ xm_call (xt_P fm) D.1.cls ins S M = none ∧ xm_st (xt_X fm) D.1.cls (decide (D.1.name = "<init>")) D.2.2.1 44 ins pc L S M = xm_al (xt_X fm) ok pc L S M)
    (hA : xo_A[j]? = some (k, t, e)) (hty : xt_at[t]? = some ty) (hok : ok ty = true) (hn : m + 1 + j < n) (hz : xr z) (hz0 : 0 ≤ z) (hze : z < e) (kk : xe fm y (q, L, xi (ar k z.toNat) :: r, (xo m s ar h0, n, c, u)) Q) : xe fm y (pc, L, xi z :: .ref (m + 1 + j) :: r, (xo m s ar h0, n, c, u)) Q := by
  subst hq
  obtain ⟨g1, g2, g3, g4⟩ := h1 (xi z :: .ref (m + 1 + j) :: r) (xo m s ar h0, n, c, u)
  refine xe_s hy hi g1 g2 g3 (f := (pc + 1, L, xi (ar k z.toNat) :: r, (xo m s ar h0, n, c, u))) ?_ kk
  rw [g4]
  unfold xm_al
  dsimp only
  rw [xo_arr hA]
  dsimp only
  rw [show (xm_at (xt_X fm))[t]? = some ty from hty]
  dsimp only
  rw [if_pos ⟨hok, hn, xi_in hz hz0 hze⟩, xi_nat hz]
theorem xe_mas {ins : Instr} {ok : FieldType → Bool} {j k t e : Nat} {ty : FieldType} {z x : Int} (hy : xt_md[y]? = some D) (hi : xt_lk D.2.2.2.2.2 pc = some (ins, 1)) (hq : pc + 1 = q) (h1 : ∀ S M, xm_end (xt_y D) ins S = none ∧ xm_thr (xt_P fm) (xt_y D) ins pc S M = none ∧ xm_call (xt_P fm) D.1.cls ins S M = none ∧ xm_st (xt_X fm) D.1.cls (decide (D.1.name = "<init>")) D.2.2.1 44 ins pc L S M = xm_as (xt_X fm) ok 44 pc L S M)
    (hA : xo_A[j]? = some (k, t, e)) (hty : xt_at[t]? = some ty) (hok : ok ty = true) (hm : 44 ≤ m) (hn : m + 1 + j < n) (hz : xr z) (hz0 : 0 ≤ z) (hze : z < e) (hx : vp_nar ty (Int32.ofInt x) = Int32.ofInt x) (kk : xe fm y (q, L, r, (xo m s (xo_w ar k z.toNat x) h0, n, c, u)) Q) : xe fm y (pc, L, xi x :: xi z :: .ref (m + 1 + j) :: r, (xo m s ar h0, n, c, u)) Q := by
  subst hq
  obtain ⟨g1, g2, g3, g4⟩ := h1 (xi x :: xi z :: .ref (m + 1 + j) :: r) (xo m s ar h0, n, c, u)
  refine xe_s hy hi g1 g2 g3 (f := (pc + 1, L, r, (xo m s (xo_w ar k z.toNat x) h0, n, c, u))) ?_ kk
  rw [g4]
  unfold xm_as
  dsimp only
  rw [xo_arr hA]
  dsimp only
  rw [show (xm_at (xt_X fm))[t]? = some ty from hty]
  dsimp only
  rw [if_pos ⟨hok, by omega, hn, xi_in hz hz0 hze⟩, xi_nat hz, hx, xo_sto hA]
def xb (b : Bool) : Int := if b = true then 1 else 0
theorem xb_or (b : Bool) : xb b = 0 ∨ xb b = 1 := by cases b <;> simp [xb]
theorem xe_iret {ty : FieldType} {z : Int} {M : xm_M} (hy : xt_md[y]? = some D) (hi : xt_lk D.2.2.2.2.2 pc = some (.ireturn, 1)) (hr : D.2.2.2.1 = some ty) (hn : narrow ty (xi z) = xi z) (hq : Q (.inl (some (xi z))) M) : xe fm y (pc, L, [xi z], M) Q := by
  refine xe_ret hy hi (v := some (xi z)) ?_ hq
  show (match D.2.2.2.1 with
    | some ty => if narrow ty (xi z) = xi z then some (some (xi z)) else none
    | none => none) = _
  rw [hr]
  dsimp only
  rw [if_pos hn]
/-- what a method of the reference does: its answer, its cells behind it -/
def xv (fm : Value) (y m n : Nat) (h0 : xm_H) (s : Nat → Int) (ar : Nat → Nat → Int) (As : List Value) (v : Option Value) (s' : Nat → Int) (ar' : Nat → Nat → Int) : Prop := xe fm y (0, lv_args 0 As, [], (xo m s ar h0, n, 0, 0)) (fun r M => r = .inl v ∧ M = (xo m s' ar' h0, n, 0, 0))
/-- what a static method does that knows nothing of cells -/
def xw (fm : Value) (y : Nat) (As : List Value) (v : Option Value) : Prop := ∀ M : xm_M, xe fm y (0, lv_args 0 As, [], M) (fun r m => r = .inl v ∧ m = M)
theorem xe_mcv {idx y' k : Nat} {D' : xt_D} {S r0 : List Value} {v : Option Value} {s' : Nat → Int} {ar' : Nat → Nat → Int} (hy : xt_md[y]? = some D) (hi : xt_lk D.2.2.2.2.2 pc = some (.invokevirtual idx, 3)) (hq : pc + 3 = q) (hci : xt_ci D.1.cls idx = some (1, y', k, "TabKernelModel")) (hS : S.drop k = .ref m :: r0) (hm : m < n) (hy' : xt_md[y']? = some D') (hd : xt_dp y' < xt_dp y)
    (hsl : (lg_sl (.ref m :: (S.take k).reverse)).length ≤ D'.2.2.1 ∧ D'.2.2.1 ≤ 41 ∧ (r0.map fun v => v.category).sum ≤ 8) (hf : xv fm y' m n h0 s ar (.ref m :: (S.take k).reverse) v s' ar') (kk : xe fm y (q, L, v.toList ++ r0, (xo m s' ar' h0, n, c, u)) Q) : xe fm y (pc, L, S, (xo m s ar h0, n, c, u)) Q := by
  subst hq
  have hrcv : xm_rcv (xt_X fm) "TabKernelModel" (xo m s ar h0, n, c, u) (.ref m) = true := by
    show (match xo m s ar h0 m with
      | .inr (ci, _) => match (xm_cl (xt_X fm))[ci]? with
        | some q => decide (m < n ∧ q.1 = "TabKernelModel")
        | none => false
      | _ => false) = true
    rw [xo_at]
    exact decide_eq_true ⟨hm, rfl⟩
  refine xe_call hy hi rfl rfl (y' := y') (As := .ref m :: (S.take k).reverse) (r0 := r0) ?_ hy' hd hsl hf (fun v1 m1 h => ?_) (fun x m1 h => ?_)
  · show (match xt_ci D.1.cls idx with
      | some (k, y, n, C) => match S.drop n with
        | b :: r => if (k = 1 ∨ k = 2) ∧ xm_rcv (xt_X fm) C (xo m s ar h0, _, c, u) b = true then some (y, b :: (S.take n).reverse, r) else none
        | [] => none
      | none => none) = _
    rw [hci]
    dsimp only
    rw [hS]
    dsimp only
    rw [if_pos ⟨Or.inl rfl, hrcv⟩]
  · obtain ⟨h1, h2⟩ := h
    cases h1
    subst h2
    exact kk
  · cases h.1
theorem xe_mcs {idx y' k : Nat} {C : String} {D' : xt_D} {S : List Value} {M : xm_M} {v : Option Value} (hy : xt_md[y]? = some D) (hi : xt_lk D.2.2.2.2.2 pc = some (.invokestatic idx, 3)) (hq : pc + 3 = q) (hci : xt_ci D.1.cls idx = some (0, y', k, C)) (hk : k ≤ S.length) (hy' : xt_md[y']? = some D') (hd : xt_dp y' < xt_dp y)
    (hsl : (lg_sl (S.take k).reverse).length ≤ D'.2.2.1 ∧ D'.2.2.1 ≤ 41 ∧ ((S.drop k).map fun v => v.category).sum ≤ 8) (hf : xw fm y' (S.take k).reverse v) (kk : xe fm y (q, L, v.toList ++ S.drop k, M) Q) : xe fm y (pc, L, S, M) Q := by
  subst hq
  refine xe_call hy hi rfl rfl (y' := y') (As := (S.take k).reverse) (r0 := S.drop k) ?_ hy' hd hsl (hf _) (fun v1 m1 h => ?_) (fun x m1 h => ?_)
  · show (match xt_ci D.1.cls idx with
      | some (k, y, n, _) => if k = 0 ∧ n ≤ S.length then some (y, (S.take n).reverse, S.drop n) else none
      | none => none) = _
    rw [hci]
    dsimp only
    rw [if_pos ⟨rfl, hk⟩]
  · obtain ⟨h1, h2⟩ := h
    cases h1
    subst h2
    exact kk
  · cases h.1
end XOR
