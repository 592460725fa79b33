/-! rules for any cells -/
theorem va_up_s {T : Type} {h : Nat → T} {a : Nat} {e : T} : va_up h a e a = e := by
  unfold va_up
  rw [if_pos rfl]
theorem va_up_n {T : Type} {h : Nat → T} {a b : Nat} {e : T} (hb : b ≠ a) : va_up h a e b = h b := by
  unfold va_up
  rw [if_neg hb]
section XCR
variable {fm : Value} {y pc q n c u a ci k : Nat} {L : xm_L} {Q : xe_Q} {D : xt_D} {r : List Value} {h : xm_H} {fs : List Value} {v : Value}
theorem xe_gf {idx : Nat} (hy : xt_md[y]? = some D) (hi : xt_lk D.2.2.2.2.2 pc = some (.getfield idx, 3)) (hq : pc + 3 = q) (hf : xm_fld (xt_X fm) D.1.cls idx = some (ci, k)) (ha : h a = .inr (ci, fs)) (hn : a < n) (hv : fs[k]? = some v) (hk : xm_kn v = true) (kk : xe fm y (q, L, v :: r, (h, n, c, u)) Q) : xe fm y (pc, L, .ref a :: r, (h, n, c, u)) Q := by
  subst hq
  refine xe_s hy hi rfl rfl rfl (f := (pc + 3, L, v :: r, (h, n, c, u))) ?_ kk
  show xm_gf (xt_X fm) D.1.cls idx pc L (.ref a :: r) (h, n, c, u) = _
  unfold xm_gf
  dsimp only
  rw [hf, ha]
  dsimp only
  rw [if_pos ⟨rfl, hn⟩, hv]
  dsimp only
  rw [if_pos hk]
theorem xe_pf {idx : Nat} {C : vw_C} (hy : xt_md[y]? = some D) (hi : xt_lk D.2.2.2.2.2 pc = some (.putfield idx, 3)) (hq : pc + 3 = q) (hf : xm_fld (xt_X fm) D.1.cls idx = some (ci, k)) (ha : h a = .inr (ci, fs)) (h44 : 44 ≤ a) (hn : a < n) (hC : xt_cl[ci]? = some C) (hk1 : k < fs.length) (hk2 : k < C.2.2) (hz : narrow (xt_ty ci k) v = v ∧ fits (xt_ty ci k) v = true) (hfin : (C.2.1 k).2.2.2 = false ∨ (decide (D.1.name = "<init>") = true ∧ (C.2.1 k).1 = D.1.cls)) (kk : xe fm y (q, L, r, (va_up h a (.inr (ci, fs.set k v)), n, c, u)) Q) : xe fm y (pc, L, v :: .ref a :: r, (h, n, c, u)) Q := by
  subst hq
  refine xe_s hy hi rfl rfl rfl (f := (pc + 3, L, r, (va_up h a (.inr (ci, fs.set k v)), n, c, u))) ?_ kk
  show xm_pf (xt_X fm) D.1.cls (decide (D.1.name = "<init>")) 44 idx pc L (v :: .ref a :: r) (h, n, c, u) = _
  unfold xm_pf
  dsimp only
  rw [hf, ha]
  dsimp only
  rw [show (xm_cl (xt_X fm))[ci]? = some C from hC]
  dsimp only
  rw [if_pos ⟨rfl, h44, hn, hk1, hk2, hz.1, hz.2, hfin⟩]
/-- arrays of ints, bytes, chars, booleans -/
theorem xe_al {ins : Instr} {ok : FieldType → Bool} {t e : Nat} {ty : FieldType} {f : Nat → Int32} {z x : Int} (hy : xt_md[y]? = some D) (hi : xt_lk D.2.2.2.2.2 pc = some (ins, 1)) (hq : pc + 1 = q) (h1 : ∀ S M, xm_end (xt_y D) ins S = none ∧ xm_thr (xt_P fm) (xt_y D) ins pc S M = none ∧ xm_call (xt_P fm) D.1.cls ins S M = none ∧ xm_st (xt_X fm) D.1.cls (decide (D.1.name = "<init>")) D.2.2.1 44 ins pc L S M = xm_al (xt_X fm) ok pc L S M)
    (ha : h a = .inl (t, e, .inl f)) (hty : xt_at[t]? = some ty) (hok : ok ty = true) (hn : a < n) (hz : xr z) (hz0 : 0 ≤ z) (hze : z < e) (hx : f z.toNat = Int32.ofInt x) (kk : xe fm y (q, L, xi x :: r, (h, n, c, u)) Q) : xe fm y (pc, L, xi z :: .ref a :: r, (h, n, c, u)) Q := by
  subst hq
  obtain ⟨g1, g2, g3, g4⟩ := h1 (xi z :: .ref a :: r) (h, n, c, u)
  refine xe_s hy hi g1 g2 g3 (f := (pc + 1, L, xi x :: r, (h, n, c, u))) ?_ kk
  rw [g4]
  unfold xm_al
  dsimp only
  rw [ha]
  dsimp only
  rw [show (xm_at (xt_X fm))[t]? = some ty from hty]
  dsimp only
  rw [if_pos ⟨hok, hn, xi_in hz hz0 hze⟩, xi_nat hz, hx]
theorem xe_as {ins : Instr} {ok : FieldType → Bool} {t e : Nat} {ty : FieldType} {f : Nat → Int32} {z x : Int} (hy : xt_md[y]? = some D) (hi : xt_lk D.2.2.2.2.2 pc = some (ins, 1)) (hq : pc + 1 = q) (h1 : ∀ S M, xm_end (xt_y D) ins S = none ∧ xm_thr (xt_P fm) (xt_y D) ins pc S M = none ∧ xm_call (xt_P fm) D.1.cls ins S M = none ∧ xm_st (xt_X fm) D.1.cls (decide (D.1.name = "<init>")) D.2.2.1 44 ins pc L S M = xm_as (xt_X fm) ok 44 pc L S M)
    (ha : h a = .inl (t, e, .inl f)) (hty : xt_at[t]? = some ty) (hok : ok ty = true) (h44 : 44 ≤ a) (hn : a < n) (hz : xr z) (hz0 : 0 ≤ z) (hze : z < e) (hx : vp_nar ty (Int32.ofInt x) = Int32.ofInt x) (kk : xe fm y (q, L, r, (va_up h a (.inl (t, e, .inl (upd f z.toNat (Int32.ofInt x)))), n, c, u)) Q) : xe fm y (pc, L, xi x :: xi z :: .ref a :: r, (h, n, c, u)) Q := by
  subst hq
  obtain ⟨g1, g2, g3, g4⟩ := h1 (xi x :: xi z :: .ref a :: r) (h, n, c, u)
  refine xe_s hy hi g1 g2 g3 (f := (pc + 1, L, r, (va_up h a (.inl (t, e, .inl (upd f z.toNat (Int32.ofInt x)))), n, c, u))) ?_ kk
  rw [g4]
  unfold xm_as
  dsimp only
  rw [ha]
  dsimp only
  rw [show (xm_at (xt_X fm))[t]? = some ty from hty]
  dsimp only
  rw [if_pos ⟨hok, h44, hn, xi_in hz hz0 hze⟩, xi_nat hz, hx]
theorem xe_alen {t e : Nat} {b : (Nat → Int32) ⊕ (Nat → Int64) ⊕ (Nat → UInt32) ⊕ (Nat → UInt64) ⊕ (Nat → Option Nat)} (hy : xt_md[y]? = some D) (hi : xt_lk D.2.2.2.2.2 pc = some (.arraylength, 1)) (hq : pc + 1 = q) (ha : h a = .inl (t, e, b)) (ht : t < 11) (hn : a < n) (kk : xe fm y (q, L, xi (e : Int) :: r, (h, n, c, u)) Q) : xe fm y (pc, L, .ref a :: r, (h, n, c, u)) Q := by
  subst hq
  refine xe_s hy hi rfl rfl rfl (f := (pc + 1, L, xi (e : Int) :: r, (h, n, c, u))) ?_ kk
  show xm_alen (xt_X fm) pc L (.ref a :: r) (h, n, c, u) = _
  unfold xm_alen
  dsimp only
  rw [ha]
  dsimp only
  rw [if_pos ⟨hn, ht⟩]
  rfl
theorem xe_ifo {off : Int} {t : Nat} {o : Option Nat} (hy : xt_md[y]? = some D) (hi : xt_lk D.2.2.2.2.2 pc = some (.ifnull off, 3)) (hj : xm_j pc off = some t) (hq : pc + 3 = q) (k1 : o = none → xe fm y (t, L, r, (h, n, c, u)) Q) (k2 : ∀ x, o = some x → xe fm y (q, L, r, (h, n, c, u)) Q) : xe fm y (pc, L, va_rf o :: r, (h, n, c, u)) Q := by
  subst hq
  cases o with
  | none =>
    refine xe_s hy hi rfl rfl rfl (f := (t, L, r, (h, n, c, u))) ?_ (k1 rfl)
    show xm_br true off pc L r (h, n, c, u) = _
    unfold xm_br
    rw [hj]
    rfl
  | some x =>
    refine xe_s hy hi rfl rfl rfl (f := (pc + 3, L, r, (h, n, c, u))) ?_ (k2 x rfl)
    show xm_br false off pc L r (h, n, c, u) = _
    unfold xm_br
    rw [hj]
    rfl
theorem xe_ifno {off : Int} {t : Nat} {o : Option Nat} (hy : xt_md[y]? = some D) (hi : xt_lk D.2.2.2.2.2 pc = some (.ifnonnull off, 3)) (hj : xm_j pc off = some t) (hq : pc + 3 = q) (k1 : ∀ x, o = some x → xe fm y (t, L, r, (h, n, c, u)) Q) (k2 : o = none → xe fm y (q, L, r, (h, n, c, u)) Q) : xe fm y (pc, L, va_rf o :: r, (h, n, c, u)) Q := by
  subst hq
  cases o with
  | none =>
    refine xe_s hy hi rfl rfl rfl (f := (pc + 3, L, r, (h, n, c, u))) ?_ (k2 rfl)
    show xm_br false off pc L r (h, n, c, u) = _
    unfold xm_br
    rw [hj]
    rfl
  | some x =>
    refine xe_s hy hi rfl rfl rfl (f := (t, L, r, (h, n, c, u))) ?_ (k1 x rfl)
    show xm_br true off pc L r (h, n, c, u) = _
    unfold xm_br
    rw [hj]
    rfl
theorem xm_rf_va {o : Option Nat} : xm_rf (va_rf o) = some o := by
  cases o <;> rfl
/-- two references compared -/
theorem xe_ac_ne {off : Int} {t : Nat} {v w : Value} {o o' : Option Nat} (hy : xt_md[y]? = some D) (hi : xt_lk D.2.2.2.2.2 pc = some (.if_acmp .ne off, 3)) (hj : xm_j pc off = some t) (hq : pc + 3 = q) (hv : xm_rf v = some o) (hw : xm_rf w = some o') (k1 : o ≠ o' → xe fm y (t, L, r, (h, n, c, u)) Q) (k2 : o = o' → xe fm y (q, L, r, (h, n, c, u)) Q) : xe fm y (pc, L, w :: v :: r, (h, n, c, u)) Q := by
  subst hq
  by_cases e : o = o'
  · refine xe_s hy hi rfl rfl rfl (f := (pc + 3, L, r, (h, n, c, u))) ?_ (k2 e)
    show xm_ba (fun a b => !decide (a = b)) off pc L (w :: v :: r) (h, n, c, u) = _
    unfold xm_ba
    dsimp only
    rw [hv, hw]
    dsimp only
    unfold xm_br
    rw [hj, decide_eq_true e]
    rfl
  · refine xe_s hy hi rfl rfl rfl (f := (t, L, r, (h, n, c, u))) ?_ (k1 e)
    show xm_ba (fun a b => !decide (a = b)) off pc L (w :: v :: r) (h, n, c, u) = _
    unfold xm_ba
    dsimp only
    rw [hv, hw]
    dsimp only
    unfold xm_br
    rw [hj, decide_eq_false e]
    rfl
theorem xe_ac_eq {off : Int} {t : Nat} {v w : Value} {o o' : Option Nat} (hy : xt_md[y]? = some D) (hi : xt_lk D.2.2.2.2.2 pc = some (.if_acmp .eq off, 3)) (hj : xm_j pc off = some t) (hq : pc + 3 = q) (hv : xm_rf v = some o) (hw : xm_rf w = some o') (k1 : o = o' → xe fm y (t, L, r, (h, n, c, u)) Q) (k2 : o ≠ o' → xe fm y (q, L, r, (h, n, c, u)) Q) : xe fm y (pc, L, w :: v :: r, (h, n, c, u)) Q := by
  subst hq
  by_cases e : o = o'
  · refine xe_s hy hi rfl rfl rfl (f := (t, L, r, (h, n, c, u))) ?_ (k1 e)
    show xm_ba (fun a b => decide (a = b)) off pc L (w :: v :: r) (h, n, c, u) = _
    unfold xm_ba
    dsimp only
    rw [hv, hw]
    dsimp only
    unfold xm_br
    rw [hj, decide_eq_true e]
    rfl
  · refine xe_s hy hi rfl rfl rfl (f := (pc + 3, L, r, (h, n, c, u))) ?_ (k2 e)
    show xm_ba (fun a b => decide (a = b)) off pc L (w :: v :: r) (h, n, c, u) = _
    unfold xm_ba
    dsimp only
    rw [hv, hw]
    dsimp only
    unfold xm_br
    rw [hj, decide_eq_false e]
    rfl
/-- a new array of ints, bytes, chars, booleans -/
theorem xe_nwa {t : Nat} {A : ArrayType} {ty : FieldType} {z : Int} (hy : xt_md[y]? = some D) (hi : xt_lk D.2.2.2.2.2 pc = some (.newarray A, 2)) (hq : pc + 2 = q) (hA : newarray.typeOf A = ty) (htg : xm_tag ty = some t) (hty : xt_at[t]? = some ty) (h0 : xm_zero ty = .inl (fun _ => 0)) (hz : 0 ≤ z ∧ z < 100000) (hb : componentBytes ty ≤ 8) (kk : xe fm y (q, L, .ref n :: r, (va_up h n (.inl (t, z.toNat, .inl (fun _ => 0))), n + 1, c + 1, u + z.toNat)) Q) : xe fm y (pc, L, xi z :: r, (h, n, c, u)) Q := by
  subst hq
  refine xe_s hy hi rfl rfl rfl (f := (pc + 2, L, .ref n :: r, (va_up h n (.inl (t, z.toNat, .inl (fun _ => 0))), n + 1, c + 1, u + z.toNat))) ?_ kk
  show xm_nwa (xt_X fm) (newarray.typeOf A) pc L (xi z :: r) (h, n, c, u) = _
  unfold xm_nwa
  rw [hA]
  dsimp only
  rw [htg]
  dsimp only
  have hn : ¬ Int32.ofInt z < 0 := by
    rw [xi_0, xi_lt ⟨by omega, by omega⟩ ⟨by decide, by decide⟩]
    omega
  have hm : z.toNat * componentBytes ty ≤ 536870912 := Nat.le_trans (Nat.mul_le_mul_left _ hb) (by omega)
  rw [xi_nat ⟨by omega, by omega⟩, if_pos ⟨hty, hn, hm⟩, h0]
/-- a new array of references -/
theorem xe_nwq {t idx : Nat} {z : Int} (hy : xt_md[y]? = some D) (hi : xt_lk D.2.2.2.2.2 pc = some (.anewarray idx, 3)) (hq : pc + 3 = q) (ha : xm_arr (xt_X fm) D.1.cls idx = some t) (hz : 0 ≤ z ∧ z < 100000) (kk : xe fm y (q, L, .ref n :: r, (va_up h n (.inl (t, z.toNat, .inr (.inr (.inr (.inr (fun _ => none)))))), n + 1, c + 1, u + z.toNat)) Q) : xe fm y (pc, L, xi z :: r, (h, n, c, u)) Q := by
  subst hq
  refine xe_s hy hi rfl rfl rfl (f := (pc + 3, L, .ref n :: r, (va_up h n (.inl (t, z.toNat, .inr (.inr (.inr (.inr (fun _ => none)))))), n + 1, c + 1, u + z.toNat))) ?_ kk
  show xm_nwq (xt_X fm) D.1.cls idx pc L (xi z :: r) (h, n, c, u) = _
  unfold xm_nwq
  dsimp only
  rw [ha]
  dsimp only
  have hn : ¬ Int32.ofInt z < 0 := by
    rw [xi_0, xi_lt ⟨by omega, by omega⟩ ⟨by decide, by decide⟩]
    omega
  rw [xi_nat ⟨by omega, by omega⟩, if_pos ⟨hn, by omega⟩]
/-- a new object -/
theorem xe_new {idx k : Nat} {C : vw_C} {S : List Value} (hy : xt_md[y]? = some D) (hi : xt_lk D.2.2.2.2.2 pc = some (.new idx, 3)) (ht : xm_thr (xt_P fm) (xt_y D) (.new idx) pc S (h, n, c, u) = none) (hq : pc + 3 = q) (hx : xm_cls (xt_X fm) D.1.cls idx = some ci) (hC : xt_cl[ci]? = some C) (hk : C.2.2 = k) (hd : (List.range k).map (fun k => defaultValue (xt_ty ci k)) = fs) (kk : xe fm y (q, L, .ref n :: S, (va_up h n (.inr (ci, fs)), n + 1, c + 1, u + k)) Q) : xe fm y (pc, L, S, (h, n, c, u)) Q := by
  subst hq
  refine xe_s hy hi rfl ht rfl (f := (pc + 3, L, .ref n :: S, (va_up h n (.inr (ci, fs)), n + 1, c + 1, u + k))) ?_ kk
  show xm_new (xt_X fm) D.1.cls idx pc L S (h, n, c, u) = _
  unfold xm_new
  rw [hx]
  dsimp only
  rw [show (xm_cl (xt_X fm))[ci]? = some C from hC]
  dsimp only
  rw [hk, ← hd]
  rfl
/-- arrays of references -/
theorem xe_aa {t e : Nat} {C : String} {f : Nat → Option Nat} {z : Int} (hy : xt_md[y]? = some D) (hi : xt_lk D.2.2.2.2.2 pc = some (.aaload, 1)) (hq : pc + 1 = q) (ha : h a = .inl (t, e, .inr (.inr (.inr (.inr f))))) (hty : xt_at[t]? = some (.object C)) (hn : a < n) (hz0 : 0 ≤ z) (hze : z < e) (he : e < 100000) (kk : xe fm y (q, L, va_rf (f z.toNat) :: r, (h, n, c, u)) Q) : xe fm y (pc, L, xi z :: .ref a :: r, (h, n, c, u)) Q := by
  subst hq
  refine xe_s hy hi rfl rfl rfl (f := (pc + 1, L, va_rf (f z.toNat) :: r, (h, n, c, u))) ?_ kk
  show xm_aq (xt_X fm) pc L (xi z :: .ref a :: r) (h, n, c, u) = _
  unfold xm_aq
  dsimp only
  rw [ha]
  dsimp only
  rw [show (xm_at (xt_X fm))[t]? = some (.object C) from hty]
  dsimp only
  have hr : xr z := ⟨by omega, by omega⟩
  rw [if_pos ⟨hn, xi_in hr hz0 hze⟩, xi_nat hr]
theorem xe_aas {t e : Nat} {C : String} {f : Nat → Option Nat} {z : Int} {b cj : Nat} {Cc : vw_C} {gs : List Value} (hy : xt_md[y]? = some D) (hi : xt_lk D.2.2.2.2.2 pc = some (.aastore, 1)) (hq : pc + 1 = q) (ha : h a = .inl (t, e, .inr (.inr (.inr (.inr f))))) (hty : xt_at[t]? = some (.object C)) (h44 : 44 ≤ a) (hn : a < n) (hz0 : 0 ≤ z) (hze : z < e) (he : e < 100000) (hb : h b = .inr (cj, gs)) (hb4 : 44 ≤ b) (hbn : b < n) (hC : xt_cl[cj]? = some Cc) (hCc : Cc.1 = C) (kk : xe fm y (q, L, r, (va_up h a (.inl (t, e, .inr (.inr (.inr (.inr (va_up f z.toNat (some b))))))), n, c, u)) Q) : xe fm y (pc, L, .ref b :: xi z :: .ref a :: r, (h, n, c, u)) Q := by
  subst hq
  refine xe_s hy hi rfl rfl rfl (f := (pc + 1, L, r, (va_up h a (.inl (t, e, .inr (.inr (.inr (.inr (va_up f z.toNat (some b))))))), n, c, u))) ?_ kk
  show xm_asq (xt_X fm) 44 pc L (.ref b :: xi z :: .ref a :: r) (h, n, c, u) = _
  unfold xm_asq
  dsimp only
  rw [ha]
  dsimp only
  rw [show (xm_at (xt_X fm))[t]? = some (.object C) from hty]
  dsimp only
  have hr : xr z := ⟨by omega, by omega⟩
  rw [if_pos ⟨h44, hn, xi_in hr hz0 hze⟩, hb]
  dsimp only
  rw [show (xm_cl (xt_X fm))[cj]? = some Cc from hC]
  dsimp only
  rw [if_pos ⟨hb4, hbn, hCc⟩, xi_nat hr]
theorem xe_aan {t e : Nat} {C : String} {f : Nat → Option Nat} {z : Int} (hy : xt_md[y]? = some D) (hi : xt_lk D.2.2.2.2.2 pc = some (.aastore, 1)) (hq : pc + 1 = q) (ha : h a = .inl (t, e, .inr (.inr (.inr (.inr f))))) (hty : xt_at[t]? = some (.object C)) (h44 : 44 ≤ a) (hn : a < n) (hz0 : 0 ≤ z) (hze : z < e) (he : e < 100000) (kk : xe fm y (q, L, r, (va_up h a (.inl (t, e, .inr (.inr (.inr (.inr (va_up f z.toNat none)))))), n, c, u)) Q) : xe fm y (pc, L, .null :: xi z :: .ref a :: r, (h, n, c, u)) Q := by
  subst hq
  refine xe_s hy hi rfl rfl rfl (f := (pc + 1, L, r, (va_up h a (.inl (t, e, .inr (.inr (.inr (.inr (va_up f z.toNat none)))))), n, c, u))) ?_ kk
  show xm_asq (xt_X fm) 44 pc L (.null :: xi z :: .ref a :: r) (h, n, c, u) = _
  unfold xm_asq
  dsimp only
  rw [ha]
  dsimp only
  rw [show (xm_at (xt_X fm))[t]? = some (.object C) from hty]
  dsimp only
  have hr : xr z := ⟨by omega, by omega⟩
  rw [if_pos ⟨h44, hn, xi_in hr hz0 hze⟩, xi_nat hr]
theorem xe_ins {idx : Nat} (hy : xt_md[y]? = some D) (hi : xt_lk D.2.2.2.2.2 pc = some (.instanceof idx, 3)) (hq : pc + 3 = q) (hx : xm_cls (xt_X fm) D.1.cls idx = some ci) (ha : h a = .inr (ci, fs)) (hn : a < n) (kk : xe fm y (q, L, xi 1 :: r, (h, n, c, u)) Q) : xe fm y (pc, L, .ref a :: r, (h, n, c, u)) Q := by
  subst hq
  refine xe_s hy hi rfl rfl rfl (f := (pc + 3, L, xi 1 :: r, (h, n, c, u))) ?_ kk
  show xm_ins (xt_X fm) D.1.cls idx pc L (.ref a :: r) (h, n, c, u) = _
  unfold xm_ins
  dsimp only
  rw [hx, ha]
  dsimp only
  rw [if_pos ⟨rfl, hn⟩]
  rfl
theorem xe_cas {idx : Nat} (hy : xt_md[y]? = some D) (hi : xt_lk D.2.2.2.2.2 pc = some (.checkcast idx, 3)) (hq : pc + 3 = q) (hs : xm_spc (xt_X fm) D.1.cls idx ≠ 4) (hx : xm_cls (xt_X fm) D.1.cls idx = some ci) (ha : h a = .inr (ci, fs)) (hn : a < n) (kk : xe fm y (q, L, .ref a :: r, (h, n, c, u)) Q) : xe fm y (pc, L, .ref a :: r, (h, n, c, u)) Q := by
  subst hq
  refine xe_s hy hi rfl rfl rfl (f := (pc + 3, L, .ref a :: r, (h, n, c, u))) ?_ kk
  show (if xm_spc (xt_X fm) D.1.cls idx = 4 then xm_csa (xt_X fm) 44 pc L (.ref a :: r) (h, n, c, u) else xm_cas (xt_X fm) D.1.cls idx pc L (.ref a :: r) (h, n, c, u)) = _
  rw [if_neg hs]
  unfold xm_cas
  dsimp only
  rw [hx, ha]
  dsimp only
  rw [if_pos ⟨rfl, hn⟩]
theorem kc_0S {idx : Nat} {own : String} {S : List Value} {M : xm_M} (hci : xt_ci own idx = none) : xm_call (xt_P fm) own (.invokestatic idx) S M = none := by
  show (match xt_ci own idx with
      | some (k, y, n, _) => if k = 0 ∧ n ≤ S.length then some (y, (S.take n).reverse, S.drop n) else none
      | none => none) = _
  rw [hci]
theorem kc_0V {idx : Nat} {own : String} {S : List Value} {M : xm_M} (hci : xt_ci own idx = none) : xm_call (xt_P fm) own (.invokevirtual idx) S M = none := by
  show (match xt_ci own idx with
      | some (k, y, n, C) => match S.drop n with
        | b :: r => if (k = 1 ∨ k = 2) ∧ xm_rcv (xt_X fm) C M b = true then some (y, b :: (S.take n).reverse, r) else none
        | [] => none
      | none => none) = _
  rw [hci]
theorem kc_0P {idx : Nat} {own : String} {S : List Value} {M : xm_M} (hci : xt_ci own idx = none) : xm_call (xt_P fm) own (.invokespecial idx) S M = none := by
  show (match xt_ci own idx with
      | some (k, y, n, C) => match S.drop n with
        | b :: r => if (k = 3 ∧ xm_isA b = true ∧ b ≠ Value.null) ∨ (k = 4 ∧ xm_rcv (xt_X fm) C M b = true) then some (y, b :: (S.take n).reverse, r) else none
        | [] => none
      | none => none) = _
  rw [hci]
/-- Object's constructor -/
theorem xe_obj {idx : Nat} (hy : xt_md[y]? = some D) (hi : xt_lk D.2.2.2.2.2 pc = some (.invokespecial idx, 3)) (hq : pc + 3 = q) (hci : xt_ci D.1.cls idx = none) (hs : xm_spc (xt_X fm) D.1.cls idx = 1) (hr : (r.map fun v => v.category).sum ≤ 8) (kk : xe fm y (q, L, r, (h, n, c, u)) Q) : xe fm y (pc, L, .ref a :: r, (h, n, c, u)) Q := by
  subst hq
  refine xe_s hy hi rfl rfl ?_ (f := (pc + 3, L, r, (h, n, c, u))) ?_ kk
  · exact kc_0P hci
  · show (if xm_spc (xt_X fm) D.1.cls idx = 1 ∧ (r.map fun v => v.category).sum ≤ 8 then some (pc + 3, L, r, (h, n, c, u)) else none) = _
    rw [if_pos ⟨hs, hr⟩]
theorem xe_ishr0 {a : Int} (hy : xt_md[y]? = some D) (hi : xt_lk D.2.2.2.2.2 pc = some (.ishr, 1)) (hq : pc + 1 = q) (kk : xe fm y (q, L, xi a :: r, (h, n, c, u)) Q) : xe fm y (pc, L, xi 0 :: xi a :: r, (h, n, c, u)) Q := by
  subst hq
  refine xe_s hy hi rfl rfl rfl (f := (pc + 1, L, xi a :: r, (h, n, c, u))) ?_ kk
  show some (pc + 1, L, Value.int (Int32.ofInt a >>> (Int32.ofInt 0 &&& 31)) :: r, ((h, n, c, u) : xm_M)) = _
  rw [show Int32.ofInt a >>> (Int32.ofInt 0 &&& 31) = Int32.ofInt a from by
    rw [show (Int32.ofInt 0 &&& 31 : Int32) = 0 from by decide]
    exact Int32.shiftRight_zero]
theorem xe_ishl0 {a : Int} (hy : xt_md[y]? = some D) (hi : xt_lk D.2.2.2.2.2 pc = some (.ishl, 1)) (hq : pc + 1 = q) (kk : xe fm y (q, L, xi a :: r, (h, n, c, u)) Q) : xe fm y (pc, L, xi 0 :: xi a :: r, (h, n, c, u)) Q := by
  subst hq
  refine xe_s hy hi rfl rfl rfl (f := (pc + 1, L, xi a :: r, (h, n, c, u))) ?_ kk
  show some (pc + 1, L, Value.int (Int32.ofInt a <<< (Int32.ofInt 0 &&& 31)) :: r, ((h, n, c, u) : xm_M)) = _
  rw [show Int32.ofInt a <<< (Int32.ofInt 0 &&& 31) = Int32.ofInt a from by
    rw [show (Int32.ofInt 0 &&& 31 : Int32) = 0 from by decide]
    exact Int32.shiftLeft_zero]
theorem xe_and255 {a : Int} (hy : xt_md[y]? = some D) (hi : xt_lk D.2.2.2.2.2 pc = some (.iand, 1)) (hq : pc + 1 = q) (ha : 0 ≤ a ∧ a < 256) (kk : xe fm y (q, L, xi a :: r, (h, n, c, u)) Q) : xe fm y (pc, L, xi 255 :: xi a :: r, (h, n, c, u)) Q := by
  subst hq
  refine xe_s hy hi rfl rfl rfl (f := (pc + 1, L, xi a :: r, (h, n, c, u))) ?_ kk
  show some (pc + 1, L, Value.int (Int32.ofInt a &&& Int32.ofInt 255) :: r, ((h, n, c, u) : xm_M)) = _
  obtain ⟨k, rfl⟩ : ∃ k : Nat, a = (k : Int) := ⟨a.toNat, by omega⟩
  have hk : k < 256 := by omega
  have : ∀ k : Fin 256, (Int32.ofInt (k.val : Int) &&& Int32.ofInt 255) = Int32.ofInt (k.val : Int) := by decide +kernel
  rw [this ⟨k, hk⟩]
theorem xe_i2c {a : Int} (hy : xt_md[y]? = some D) (hi : xt_lk D.2.2.2.2.2 pc = some (.i2c, 1)) (hq : pc + 1 = q) (ha : 0 ≤ a ∧ a < 256) (kk : xe fm y (q, L, xi a :: r, (h, n, c, u)) Q) : xe fm y (pc, L, xi a :: r, (h, n, c, u)) Q := by
  subst hq
  refine xe_s hy hi rfl rfl rfl (f := (pc + 1, L, xi a :: r, (h, n, c, u))) ?_ kk
  show some (pc + 1, L, Value.int ((Int32.ofInt a).toUInt32 % 65536).toInt32 :: r, ((h, n, c, u) : xm_M)) = _
  obtain ⟨k, rfl⟩ : ∃ k : Nat, a = (k : Int) := ⟨a.toNat, by omega⟩
  have hk : k < 256 := by omega
  have : ∀ k : Fin 256, ((Int32.ofInt (k.val : Int)).toUInt32 % 65536).toInt32 = Int32.ofInt (k.val : Int) := by decide +kernel
  rw [this ⟨k, hk⟩]
theorem xe_ineg {a : Int} (hy : xt_md[y]? = some D) (hi : xt_lk D.2.2.2.2.2 pc = some (.ineg, 1)) (hq : pc + 1 = q) (kk : xe fm y (q, L, xi (-a) :: r, (h, n, c, u)) Q) : xe fm y (pc, L, xi a :: r, (h, n, c, u)) Q := by
  subst hq
  refine xe_s hy hi rfl rfl rfl (f := (pc + 1, L, xi (-a) :: r, (h, n, c, u))) ?_ kk
  show some (pc + 1, L, Value.int (-Int32.ofInt a) :: r, ((h, n, c, u) : xm_M)) = _
  rw [← Int32.ofInt_neg]
/-- arraycopy -/
theorem xe_acp {idx t b e e' : Nat} {ty : FieldType} {f g : Nat → Int32} {sp dp k : Int} (hy : xt_md[y]? = some D) (hi : xt_lk D.2.2.2.2.2 pc = some (.invokestatic idx, 3)) (hq : pc + 3 = q) (hci : xt_ci D.1.cls idx = none) (hs : xm_spc (xt_X fm) D.1.cls idx = 2) (ha : h a = .inl (t, e, .inl f)) (hb : h b = .inl (t, e', .inl g)) (hty : xt_at[t]? = some ty) (hP : xm_isP ty = true) (hn : a < n) (h44 : 44 ≤ b) (hbn : b < n) (hsp : 0 ≤ sp ∧ sp < 100000) (hdp : 0 ≤ dp ∧ dp < 100000) (hk : 0 ≤ k ∧ k < 100000) (h1 : sp + k ≤ e) (h2 : dp + k ≤ e') (hr : (r.map fun v => v.category).sum ≤ 8) (kk : xe fm y (q, L, r, (va_up h b (.inl (t, e', .inl (va_cpy f g sp.toNat dp.toNat k.toNat))), n, c, u)) Q) : xe fm y (pc, L, xi k :: xi dp :: .ref b :: xi sp :: .ref a :: r, (h, n, c, u)) Q := by
  subst hq
  refine xe_s hy hi rfl rfl ?_ (f := (pc + 3, L, r, (va_up h b (.inl (t, e', .inl (va_cpy f g sp.toNat dp.toNat k.toNat))), n, c, u))) ?_ kk
  · exact kc_0S hci
  · show (if xm_spc (xt_X fm) D.1.cls idx = 2 then xm_acp (xt_X fm) 44 pc L (xi k :: xi dp :: .ref b :: xi sp :: .ref a :: r) (h, n, c, u) else none) = _
    rw [if_pos hs]
    unfold xm_acp
    dsimp only
    rw [ha, hb]
    dsimp only
    rw [show (xm_at (xt_X fm))[t]? = some ty from hty]
    dsimp only
    have pos : ∀ z : Int, 0 ≤ z ∧ z < 100000 → ¬ Int32.ofInt z < 0 := by
      intro z hz
      rw [xi_0, xi_lt ⟨by omega, by omega⟩ ⟨by decide, by decide⟩]
      omega
    rw [xi_nat ⟨by omega, by omega⟩, xi_nat ⟨by omega, by omega⟩, xi_nat ⟨by omega, by omega⟩, if_pos ⟨hP, rfl, hn, h44, hbn, pos sp hsp, pos dp hdp, pos k hk, by omega, by omega, hr⟩]
/-- clone of an array of bytes, and the cast behind it -/
theorem xe_cln {idx e : Nat} {f : Nat → Int32} (hy : xt_md[y]? = some D) (hi : xt_lk D.2.2.2.2.2 pc = some (.invokevirtual idx, 3)) (hq : pc + 3 = q) (hci : xt_ci D.1.cls idx = none) (hs : xm_spc (xt_X fm) D.1.cls idx = 3) (ha : h a = .inl (1, e, .inl f)) (h44 : 44 ≤ a) (hn : a < n) (hr : (r.map fun v => v.category).sum ≤ 8) (kk : xe fm y (q, L, .ref n :: r, (va_up h n (.inl (1, e, .inl f)), n + 1, c + 1, u + e)) Q) : xe fm y (pc, L, .ref a :: r, (h, n, c, u)) Q := by
  subst hq
  refine xe_s hy hi rfl rfl ?_ (f := (pc + 3, L, .ref n :: r, (va_up h n (.inl (1, e, .inl f)), n + 1, c + 1, u + e))) ?_ kk
  · exact kc_0V hci
  · show (if xm_spc (xt_X fm) D.1.cls idx = 3 then xm_cln (xt_X fm) 44 pc L (.ref a :: r) (h, n, c, u) else none) = _
    rw [if_pos hs]
    unfold xm_cln
    dsimp only
    rw [ha]
    dsimp only
    rw [if_pos ⟨rfl, h44, hn, hr⟩]
theorem xe_csa {idx e : Nat} {f : Nat → Int32} (hy : xt_md[y]? = some D) (hi : xt_lk D.2.2.2.2.2 pc = some (.checkcast idx, 3)) (hq : pc + 3 = q) (hs : xm_spc (xt_X fm) D.1.cls idx = 4) (ha : h a = .inl (1, e, .inl f)) (h44 : 44 ≤ a) (hn : a < n) (kk : xe fm y (q, L, .ref a :: r, (h, n, c, u)) Q) : xe fm y (pc, L, .ref a :: r, (h, n, c, u)) Q := by
  subst hq
  refine xe_s hy hi rfl rfl rfl (f := (pc + 3, L, .ref a :: r, (h, n, c, u))) ?_ kk
  show (if xm_spc (xt_X fm) D.1.cls idx = 4 then xm_csa (xt_X fm) 44 pc L (.ref a :: r) (h, n, c, u) else xm_cas (xt_X fm) D.1.cls idx pc L (.ref a :: r) (h, n, c, u)) = _
  rw [if_pos hs]
  unfold xm_csa
  dsimp only
  rw [ha]
  dsimp only
  rw [if_pos ⟨rfl, h44, hn⟩]
/-- what a method of the class does: void, an int, a reference, perhaps none -/
def xN (fm : Value) (y : Nat) (h : xm_H) (n : Nat) (As : List Value) (P : xm_H → Nat → Nat → Prop) : Prop := xe fm y (0, lv_args 0 As, [], (h, n, 0, 0)) (fun r M => r = .inl none ∧ P M.1 M.2.1 M.2.2.2)
def xI (fm : Value) (y : Nat) (h : xm_H) (n : Nat) (As : List Value) (P : Int → xm_H → Nat → Nat → Prop) : Prop := xe fm y (0, lv_args 0 As, [], (h, n, 0, 0)) (fun r M => ∃ z : Int, r = .inl (some (xi z)) ∧ P z M.1 M.2.1 M.2.2.2)
def xA (fm : Value) (y : Nat) (h : xm_H) (n : Nat) (As : List Value) (P : Nat → xm_H → Nat → Nat → Prop) : Prop := xe fm y (0, lv_args 0 As, [], (h, n, 0, 0)) (fun r M => ∃ x : Nat, r = .inl (some (.ref x)) ∧ P x M.1 M.2.1 M.2.2.2)
def xO (fm : Value) (y : Nat) (h : xm_H) (n : Nat) (As : List Value) (P : Option Nat → xm_H → Nat → Nat → Prop) : Prop := xe fm y (0, lv_args 0 As, [], (h, n, 0, 0)) (fun r M => ∃ o : Option Nat, r = .inl (some (va_rf o)) ∧ P o M.1 M.2.1 M.2.2.2)
/-- a method that only reads -/
def xR (fm : Value) (y : Nat) (h : xm_H) (n : Nat) (As : List Value) (v : Option Value) : Prop := xe fm y (0, lv_args 0 As, [], (h, n, 0, 0)) (fun r M => r = .inl v ∧ M = (h, n, 0, 0))
theorem xR_w {As : List Value} {v : Option Value} (hh : xw fm y As v) : xR fm y h n As v := hh _
/-- the calls -/
theorem kc_S {idx y' j : Nat} {C own : String} {S : List Value} {M : xm_M} (hci : xt_ci own idx = some (0, y', j, C)) (hj : j ≤ S.length) : xm_call (xt_P fm) own (.invokestatic idx) S M = some (y', (S.take j).reverse, S.drop j) := by
  show (match xt_ci own idx with
      | some (k, y, n, _) => if k = 0 ∧ n ≤ S.length then some (y, (S.take n).reverse, S.drop n) else none
      | none => none) = _
  rw [hci]
  dsimp only
  rw [if_pos ⟨rfl, hj⟩]
theorem kc_V {idx y' j : Nat} {C own : String} {S r0 : List Value} {Cc : vw_C} (hci : xt_ci own idx = some (1, y', j, C)) (hS : S.drop j = .ref a :: r0) (ha : h a = .inr (ci, fs)) (hn : a < n) (hC : xt_cl[ci]? = some Cc) (hCc : Cc.1 = C) : xm_call (xt_P fm) own (.invokevirtual idx) S (h, n, c, u) = some (y', .ref a :: (S.take j).reverse, r0) := by
  have hrcv : xm_rcv (xt_X fm) C (h, n, c, u) (.ref a) = true := by
    show (match h a with
      | .inr (ci, _) => match (xm_cl (xt_X fm))[ci]? with
        | some q => decide (a < n ∧ q.1 = C)
        | none => false
      | _ => false) = true
    rw [ha]
    dsimp only
    rw [show (xm_cl (xt_X fm))[ci]? = some Cc from hC]
    exact decide_eq_true ⟨hn, hCc⟩
  show (match xt_ci own idx with
      | some (k, y, n, C) => match S.drop n with
        | b :: r => if (k = 1 ∨ k = 2) ∧ xm_rcv (xt_X fm) C (h, _, c, u) b = true then some (y, b :: (S.take n).reverse, r) else none
        | [] => none
      | none => none) = _
  rw [hci]
  dsimp only
  rw [hS]
  dsimp only
  rw [if_pos ⟨Or.inl rfl, hrcv⟩]
theorem kc_W {idx y' j : Nat} {C own : String} {S r0 : List Value} {Cc : vw_C} (hci : xt_ci own idx = some (2, y', j, C)) (hS : S.drop j = .ref a :: r0) (ha : h a = .inr (ci, fs)) (hn : a < n) (hC : xt_cl[ci]? = some Cc) (hCc : Cc.1 = C) : xm_call (xt_P fm) own (.invokevirtual idx) S (h, n, c, u) = some (y', .ref a :: (S.take j).reverse, r0) := by
  have hrcv : xm_rcv (xt_X fm) C (h, n, c, u) (.ref a) = true := by
    show (match h a with
      | .inr (ci, _) => match (xm_cl (xt_X fm))[ci]? with
        | some q => decide (a < n ∧ q.1 = C)
        | none => false
      | _ => false) = true
    rw [ha]
    dsimp only
    rw [show (xm_cl (xt_X fm))[ci]? = some Cc from hC]
    exact decide_eq_true ⟨hn, hCc⟩
  show (match xt_ci own idx with
      | some (k, y, n, C) => match S.drop n with
        | b :: r => if (k = 1 ∨ k = 2) ∧ xm_rcv (xt_X fm) C (h, _, c, u) b = true then some (y, b :: (S.take n).reverse, r) else none
        | [] => none
      | none => none) = _
  rw [hci]
  dsimp only
  rw [hS]
  dsimp only
  rw [if_pos ⟨Or.inr rfl, hrcv⟩]
theorem kc_Q {idx y' j : Nat} {C own : String} {S r0 : List Value} {Cc : vw_C} (hci : xt_ci own idx = some (4, y', j, C)) (hS : S.drop j = .ref a :: r0) (ha : h a = .inr (ci, fs)) (hn : a < n) (hC : xt_cl[ci]? = some Cc) (hCc : Cc.1 = C) : xm_call (xt_P fm) own (.invokespecial idx) S (h, n, c, u) = some (y', .ref a :: (S.take j).reverse, r0) := by
  have hrcv : xm_rcv (xt_X fm) C (h, n, c, u) (.ref a) = true := by
    show (match h a with
      | .inr (ci, _) => match (xm_cl (xt_X fm))[ci]? with
        | some q => decide (a < n ∧ q.1 = C)
        | none => false
      | _ => false) = true
    rw [ha]
    dsimp only
    rw [show (xm_cl (xt_X fm))[ci]? = some Cc from hC]
    exact decide_eq_true ⟨hn, hCc⟩
  show (match xt_ci own idx with
      | some (k, y, n, C) => match S.drop n with
        | b :: r => if (k = 3 ∧ xm_isA b = true ∧ b ≠ Value.null) ∨ (k = 4 ∧ xm_rcv (xt_X fm) C (h, _, c, u) b = true) then some (y, b :: (S.take n).reverse, r) else none
        | [] => none
      | none => none) = _
  rw [hci]
  dsimp only
  rw [hS]
  dsimp only
  rw [if_pos (Or.inr ⟨rfl, hrcv⟩)]
theorem kc_P {idx y' j : Nat} {C own : String} {S r0 : List Value} {M : xm_M} (hci : xt_ci own idx = some (3, y', j, C)) (hS : S.drop j = .ref a :: r0) : xm_call (xt_P fm) own (.invokespecial idx) S M = some (y', .ref a :: (S.take j).reverse, r0) := by
  show (match xt_ci own idx with
      | some (k, y, n, C) => match S.drop n with
        | b :: r => if (k = 3 ∧ xm_isA b = true ∧ b ≠ Value.null) ∨ (k = 4 ∧ xm_rcv (xt_X fm) C M b = true) then some (y, b :: (S.take n).reverse, r) else none
        | [] => none
      | none => none) = _
  rw [hci]
  dsimp only
  rw [hS]
  dsimp only
  rw [if_pos (Or.inl ⟨rfl, rfl, by intro e; cases e⟩)]
theorem xe_cR {ins : Instr} {ln y' : Nat} {S As r0 : List Value} {D' : xt_D} {w : Value} (hy : xt_md[y]? = some D) (hi : xt_lk D.2.2.2.2.2 pc = some (ins, ln)) (he : xm_end (xt_y D) ins S = none) (ht : xm_thr (xt_P fm) (xt_y D) ins pc S (h, n, c, u) = none) (hq : pc + 3 = q) (hc : xm_call (xt_P fm) D.1.cls ins S (h, n, c, u) = some (y', As, r0)) (hy' : xt_md[y']? = some D') (hd : xt_dp y' < xt_dp y) (hsl : (lg_sl As).length ≤ D'.2.2.1 ∧ D'.2.2.1 ≤ 41 ∧ (r0.map fun v => v.category).sum ≤ 8) (hf : xR fm y' h n As (some w)) (kk : xe fm y (q, L, w :: r0, (h, n, c, u)) Q) : xe fm y (pc, L, S, (h, n, c, u)) Q := by
  subst hq
  refine xe_call hy hi he ht hc hy' hd hsl hf (fun v m1 hm => ?_) (fun x m1 hm => ?_)
  · obtain ⟨e1, e2⟩ := hm
    cases e1
    subst e2
    exact kk
  · cases hm.1
theorem xe_cRn {ins : Instr} {ln y' : Nat} {S As r0 : List Value} {D' : xt_D} (hy : xt_md[y]? = some D) (hi : xt_lk D.2.2.2.2.2 pc = some (ins, ln)) (he : xm_end (xt_y D) ins S = none) (ht : xm_thr (xt_P fm) (xt_y D) ins pc S (h, n, c, u) = none) (hq : pc + 3 = q) (hc : xm_call (xt_P fm) D.1.cls ins S (h, n, c, u) = some (y', As, r0)) (hy' : xt_md[y']? = some D') (hd : xt_dp y' < xt_dp y) (hsl : (lg_sl As).length ≤ D'.2.2.1 ∧ D'.2.2.1 ≤ 41 ∧ (r0.map fun v => v.category).sum ≤ 8) (hf : xR fm y' h n As none) (kk : xe fm y (q, L, r0, (h, n, c, u)) Q) : xe fm y (pc, L, S, (h, n, c, u)) Q := by
  subst hq
  refine xe_call hy hi he ht hc hy' hd hsl hf (fun v m1 hm => ?_) (fun x m1 hm => ?_)
  · obtain ⟨e1, e2⟩ := hm
    cases e1
    subst e2
    exact kk
  · cases hm.1
theorem xe_cN {ins : Instr} {ln y' : Nat} {S As r0 : List Value} {D' : xt_D} {P : xm_H → Nat → Nat → Prop} (hy : xt_md[y]? = some D) (hi : xt_lk D.2.2.2.2.2 pc = some (ins, ln)) (he : xm_end (xt_y D) ins S = none) (ht : xm_thr (xt_P fm) (xt_y D) ins pc S (h, n, c, u) = none) (hq : pc + 3 = q) (hc : xm_call (xt_P fm) D.1.cls ins S (h, n, c, u) = some (y', As, r0)) (hy' : xt_md[y']? = some D') (hd : xt_dp y' < xt_dp y) (hsl : (lg_sl As).length ≤ D'.2.2.1 ∧ D'.2.2.1 ≤ 41 ∧ (r0.map fun v => v.category).sum ≤ 8) (hf : xN fm y' h n As P) (kk : ∀ h' n' c' u', P h' n' u' → xe fm y (q, L, r0, (h', n', c + c', u + u')) Q) : xe fm y (pc, L, S, (h, n, c, u)) Q := by
  subst hq
  refine xe_call hy hi he ht hc hy' hd hsl hf (fun v m1 hm => ?_) (fun x m1 hm => ?_)
  · obtain ⟨e1, e2⟩ := hm
    cases e1
    exact kk _ _ _ _ e2
  · cases hm.1
theorem xe_cI {ins : Instr} {ln y' : Nat} {S As r0 : List Value} {D' : xt_D} {P : Int → xm_H → Nat → Nat → Prop} (hy : xt_md[y]? = some D) (hi : xt_lk D.2.2.2.2.2 pc = some (ins, ln)) (he : xm_end (xt_y D) ins S = none) (ht : xm_thr (xt_P fm) (xt_y D) ins pc S (h, n, c, u) = none) (hq : pc + 3 = q) (hc : xm_call (xt_P fm) D.1.cls ins S (h, n, c, u) = some (y', As, r0)) (hy' : xt_md[y']? = some D') (hd : xt_dp y' < xt_dp y) (hsl : (lg_sl As).length ≤ D'.2.2.1 ∧ D'.2.2.1 ≤ 41 ∧ (r0.map fun v => v.category).sum ≤ 8) (hf : xI fm y' h n As P) (kk : ∀ z h' n' c' u', P z h' n' u' → xe fm y (q, L, xi z :: r0, (h', n', c + c', u + u')) Q) : xe fm y (pc, L, S, (h, n, c, u)) Q := by
  subst hq
  refine xe_call hy hi he ht hc hy' hd hsl hf (fun v m1 hm => ?_) (fun x m1 hm => ?_)
  · obtain ⟨z, e1, e2⟩ := hm
    cases e1
    exact kk _ _ _ _ _ e2
  · obtain ⟨z, e1, _⟩ := hm
    cases e1
theorem xe_cA {ins : Instr} {ln y' : Nat} {S As r0 : List Value} {D' : xt_D} {P : Nat → xm_H → Nat → Nat → Prop} (hy : xt_md[y]? = some D) (hi : xt_lk D.2.2.2.2.2 pc = some (ins, ln)) (he : xm_end (xt_y D) ins S = none) (ht : xm_thr (xt_P fm) (xt_y D) ins pc S (h, n, c, u) = none) (hq : pc + 3 = q) (hc : xm_call (xt_P fm) D.1.cls ins S (h, n, c, u) = some (y', As, r0)) (hy' : xt_md[y']? = some D') (hd : xt_dp y' < xt_dp y) (hsl : (lg_sl As).length ≤ D'.2.2.1 ∧ D'.2.2.1 ≤ 41 ∧ (r0.map fun v => v.category).sum ≤ 8) (hf : xA fm y' h n As P) (kk : ∀ x h' n' c' u', P x h' n' u' → xe fm y (q, L, .ref x :: r0, (h', n', c + c', u + u')) Q) : xe fm y (pc, L, S, (h, n, c, u)) Q := by
  subst hq
  refine xe_call hy hi he ht hc hy' hd hsl hf (fun v m1 hm => ?_) (fun x m1 hm => ?_)
  · obtain ⟨z, e1, e2⟩ := hm
    cases e1
    exact kk _ _ _ _ _ e2
  · obtain ⟨z, e1, _⟩ := hm
    cases e1
theorem xe_cO {ins : Instr} {ln y' : Nat} {S As r0 : List Value} {D' : xt_D} {P : Option Nat → xm_H → Nat → Nat → Prop} (hy : xt_md[y]? = some D) (hi : xt_lk D.2.2.2.2.2 pc = some (ins, ln)) (he : xm_end (xt_y D) ins S = none) (ht : xm_thr (xt_P fm) (xt_y D) ins pc S (h, n, c, u) = none) (hq : pc + 3 = q) (hc : xm_call (xt_P fm) D.1.cls ins S (h, n, c, u) = some (y', As, r0)) (hy' : xt_md[y']? = some D') (hd : xt_dp y' < xt_dp y) (hsl : (lg_sl As).length ≤ D'.2.2.1 ∧ D'.2.2.1 ≤ 41 ∧ (r0.map fun v => v.category).sum ≤ 8) (hf : xO fm y' h n As P) (kk : ∀ o h' n' c' u', P o h' n' u' → xe fm y (q, L, va_rf o :: r0, (h', n', c + c', u + u')) Q) : xe fm y (pc, L, S, (h, n, c, u)) Q := by
  subst hq
  refine xe_call hy hi he ht hc hy' hd hsl hf (fun v m1 hm => ?_) (fun x m1 hm => ?_)
  · obtain ⟨z, e1, e2⟩ := hm
    cases e1
    exact kk _ _ _ _ _ e2
  · obtain ⟨z, e1, _⟩ := hm
    cases e1
/-- the end of a method that answers a reference -/
theorem xe_aret {v : Value} {M : xm_M} (hy : xt_md[y]? = some D) (hi : xt_lk D.2.2.2.2.2 pc = some (.areturn, 1)) (hr : (∃ C, D.2.2.2.1 = some (.object C)) ∨ ∃ T, D.2.2.2.1 = some (.array T)) (hv : xm_isA v = true) (hq : Q (.inl (some v)) M) : xe fm y (pc, L, [v], M) Q := by
  refine xe_ret hy hi (v := some v) ?_ hq
  show (match D.2.2.2.1 with
      | some (.object _) => if xm_isA v = true then some (some v) else none
      | some (.array _) => if xm_isA v = true then some (some v) else none
      | _ => none) = _
  rcases hr with ⟨C, e⟩ | ⟨T, e⟩
  · rw [e]
    dsimp only
    rw [if_pos hv]
  · rw [e]
    dsimp only
    rw [if_pos hv]
end XCR
