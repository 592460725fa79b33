/-! the reference's constructor -/
/-- its default fields -/
def mD : List Value := [xi 0, .null, xi 0, xi 0, .null, .null, .null, .null, .null, .null, xi 0, xi 0, xi 0, xi 0, .null, .null, xi 0, xi 0, xi 0, xi 0, .null, .null, .null, .null, .null, .null, .null, .null, .null, .null, .null, .null, .null, xi 0, xi 0, xi 0, xi 0, xi 0, xi 0, xi 0, .null, xi 0, .null, .null, .null, .null, .null, .null, .null, .null, .null, .null, .null, xi 0, .null, xi 0, .null, .null, .null, .null, .null, .null, xi 0, .null, xi 0]
/-- the reference half made: fields g, cells behind it A -/
def mo (g : Nat → Value) (A h0 : xm_H) : xm_H := fun i => if i = 64 then .inr (14, (List.range 65).map g) else if 64 < i then A i else h0 i
/-- the first m are -1 -/
def mU (m : Nat) : Nat → Int32 := fun j => Int32.ofInt (if j < m then (-1 : Int) else 0)
theorem mU_0 : mU 0 = fun _ => 0 := by
  funext j
  unfold mU
  rw [if_neg (Nat.not_lt_zero j)]
  rfl
theorem mU_s {m : Nat} : upd (mU m) m (Int32.ofInt (-1)) = mU (m + 1) := by
  funext j
  unfold upd mU
  by_cases g : j = m
  · rw [if_pos g, if_pos (by omega)]
  · rw [if_neg g]
    by_cases g2 : j < m
    · rw [if_pos g2, if_pos (by omega)]
    · rw [if_neg g2, if_neg (by omega)]
section XC9
variable {g : Nat → Value} {A h0 h : xm_H} {n a : Nat}
theorem mo_at : mo g A h0 64 = .inr (14, (List.range 65).map g) := by
  unfold mo
  rw [if_pos rfl]
theorem mo_ar (hn : 64 < n) : mo g A h0 n = A n := by
  unfold mo
  rw [if_neg (by omega), if_pos hn]
theorem mo_up {e : va_E} (hn : 64 < n) : va_up (mo g A h0) n e = mo g (va_up A n e) h0 := by
  funext i
  by_cases q : i = n
  · rw [q, va_up_s, mo_ar hn, va_up_s]
  · rw [va_up_n q]
    unfold mo
    rw [va_up_n q]
theorem mo_set {k : Nat} {v : Value} (hk : k < 65) : va_up (mo g A h0) 64 (.inr (14, ((List.range 65).map g).set k v)) = mo (va_up g k v) A h0 := by
  have e : ((List.range 65).map g).set k v = (List.range 65).map (va_up g k v) := by
    apply List.ext_getElem?
    intro j
    rw [List.getElem?_set, List.length_map, List.length_range, List.getElem?_map, List.getElem?_map]
    by_cases hj : k = j
    · subst hj
      rw [if_pos rfl, if_pos hk, List.getElem?_range hk]
      show some v = some (va_up g k v k)
      rw [va_up_s]
    · rw [if_neg hj]
      by_cases h65 : j < 65
      · rw [List.getElem?_range h65]
        show some (g j) = some (va_up g k v j)
        rw [va_up_n (fun e => hj e.symm)]
      · rw [List.getElem?_eq_none (by rw [List.length_range]; omega)]
        rfl
  funext i
  by_cases q : i = 64
  · rw [q, va_up_s, mo_at, e]
  · rw [va_up_n q]
    unfold mo
    rw [if_neg q, if_neg q]
theorem mo_0 (ha : h 64 = .inr (14, mD)) : h = mo (fun k => mD.getD k .null) h h := by
  funext i
  by_cases q : i = 64
  · rw [q, ha]
    rfl
  · unfold mo
    rw [if_neg q]
    by_cases q2 : 64 < i
    · rw [if_pos q2]
    · rw [if_neg q2]
variable {fm : Value} {y pc q c u : Nat} {L : xm_L} {Q : xe_Q} {D : xt_D} {r : List Value}
theorem xe_mnw {t : Nat} {Ty : ArrayType} {ty : FieldType} {z : Int} (hy : xt_md[y]? = some D) (hi : xt_lk D.2.2.2.2.2 pc = some (.newarray Ty, 2)) (hq : pc + 2 = q) (hA : newarray.typeOf Ty = ty) (htg : xm_tag ty = some t) (hty : xt_at[t]? = some ty) (hz0 : xm_zero ty = .inl (fun _ => 0)) (hz : 0 ≤ z ∧ z < 100000) (hb : componentBytes ty ≤ 8) (hn : 64 < n) (kk : xe fm y (q, L, .ref n :: r, (mo g (va_up A n (.inl (t, z.toNat, .inl (fun _ => 0)))) h0, n + 1, c + 1, u + z.toNat)) Q) : xe fm y (pc, L, xi z :: r, (mo g A h0, n, c, u)) Q := xe_nwa hy hi hq hA htg hty hz0 hz hb (xe_hp (mo_up hn) kk)
theorem xe_mnU {t : Nat} {Ty : ArrayType} {ty : FieldType} {z : Int} (hy : xt_md[y]? = some D) (hi : xt_lk D.2.2.2.2.2 pc = some (.newarray Ty, 2)) (hq : pc + 2 = q) (hA : newarray.typeOf Ty = ty) (htg : xm_tag ty = some t) (hty : xt_at[t]? = some ty) (hz0 : xm_zero ty = .inl (fun _ => 0)) (hz : 0 ≤ z ∧ z < 100000) (hb : componentBytes ty ≤ 8) (hn : 64 < n) (kk : xe fm y (q, L, .ref n :: r, (mo g (va_up A n (.inl (t, z.toNat, .inl (mU 0)))) h0, n + 1, c + 1, u + z.toNat)) Q) : xe fm y (pc, L, xi z :: r, (mo g A h0, n, c, u)) Q := xe_nwa hy hi hq hA htg hty hz0 hz hb (xe_hp (by rw [mo_up hn, mU_0]) kk)
theorem xe_mpf {idx k : Nat} {v : Value} {C : vw_C} (hy : xt_md[y]? = some D) (hi : xt_lk D.2.2.2.2.2 pc = some (.putfield idx, 3)) (hq : pc + 3 = q) (hf : xm_fld (xt_X fm) D.1.cls idx = some (14, k)) (hk : k < 65) (hn : 64 < n) (hC : xt_cl[14]? = some C) (hk2 : k < C.2.2) (hz : narrow (xt_ty 14 k) v = v ∧ fits (xt_ty 14 k) v = true) (hfin : (C.2.1 k).2.2.2 = false ∨ (decide (D.1.name = "<init>") = true ∧ (C.2.1 k).1 = D.1.cls)) (kk : xe fm y (q, L, r, (mo (va_up g k v) A h0, n, c, u)) Q) : xe fm y (pc, L, v :: .ref 64 :: r, (mo g A h0, n, c, u)) Q := xe_pf hy hi hq hf mo_at (by omega) hn hC (by rw [List.length_map, List.length_range]; exact hk) hk2 hz hfin (xe_hp (mo_set hk) kk)
theorem xe_mia {m e : Nat} {z : Int} (hy : xt_md[y]? = some D) (hi : xt_lk D.2.2.2.2.2 pc = some (.iastore, 1)) (hq : pc + 1 = q) (h1 : ∀ S M, xm_end (xt_y D) .iastore S = none ∧ xm_thr (xt_P fm) (xt_y D) .iastore pc S M = none ∧ xm_call (xt_P fm) D.1.cls .iastore S M = none ∧ xm_st (xt_X fm) D.1.cls (decide (D.1.name = "<init>")) D.2.2.1 44 .iastore pc L S M = xm_as (xt_X fm) xm_isN 44 pc L S M) (hz : z = (m : Int)) (ha : 64 < a) (hn : a < n) (hm : m < e) (he : e < 1000) (kk : xe fm y (q, L, r, (mo g (va_up A a (.inl (0, e, .inl (mU (m + 1))))) h0, n, c, u)) Q) : xe fm y (pc, L, xi (-1) :: xi z :: .ref a :: r, (mo g (va_up A a (.inl (0, e, .inl (mU m)))) h0, n, c, u)) Q := by
  subst hz
  refine xe_as (ok := xm_isN) (ty := .int) (t := 0) (e := e) (f := mU m) hy hi hq h1 ((mo_ar ha).trans va_up_s) rfl rfl (by omega) hn (by omega) (by omega) (by omega) rfl ?_
  refine xe_hp ?_ kk
  rw [mo_up ha, va_u2, Int.toNat_natCast, mU_s]
end XC9
/-- its fields and cells when it is made -/
def gM (z : Int) : Nat → Value := va_up (va_up (va_up (va_up (va_up (va_up (va_up (va_up (va_up (va_up (va_up (va_up (va_up (va_up (va_up (va_up (va_up (va_up (va_up (va_up (va_up (va_up (va_up (va_up (va_up (va_up (va_up (va_up (va_up (va_up (va_up (va_up (va_up (va_up (va_up (va_up (va_up (va_up (va_up (va_up (va_up (va_up (va_up (va_up ((fun k => mD.getD k .null)) 1 (.ref 65)) 4 (.ref 66)) 5 (.ref 67)) 6 (.ref 68)) 7 (.ref 69)) 8 (.ref 70)) 9 (.ref 71)) 14 (.ref 72)) 15 (.ref 73)) 20 (.ref 74)) 21 (.ref 75)) 22 (.ref 76)) 23 (.ref 77)) 24 (.ref 78)) 25 (.ref 79)) 26 (.ref 80)) 27 (.ref 81)) 28 (.ref 82)) 29 (.ref 83)) 30 (.ref 84)) 31 (.ref 85)) 32 (.ref 86)) 40 (.ref 87)) 41 (xi (-1))) 42 (.ref 88)) 43 (.ref 89)) 44 (.ref 90)) 45 (.ref 91)) 46 (.ref 92)) 47 (.ref 93)) 48 (.ref 94)) 49 (.ref 95)) 50 (.ref 96)) 51 (.ref 97)) 52 (.ref 98)) 54 (.ref 99)) 56 (.ref 100)) 57 (.ref 101)) 58 (.ref 102)) 59 (.ref 103)) 60 (.ref 104)) 61 (.ref 105)) 63 (.ref 106)) 17 (xi z)
def aM (h : xm_H) : xm_H := va_up (va_up (va_up (va_up (va_up (va_up (va_up (va_up (va_up (va_up (va_up (va_up (va_up (va_up (va_up (va_up (va_up (va_up (va_up (va_up (va_up (va_up (va_up (va_up (va_up (va_up (va_up (va_up (va_up (va_up (va_up (va_up (va_up (va_up (va_up (va_up (va_up (va_up (va_up (va_up (va_up (va_up h 65 (.inl (0, 160, .inl (fun _ => 0)))) 66 (.inl (0, 5880, .inl (fun _ => 0)))) 67 (.inl (0, 98, .inl (fun _ => 0)))) 68 (.inl (0, 300, .inl (fun _ => 0)))) 69 (.inl (0, 300, .inl (fun _ => 0)))) 70 (.inl (0, 300, .inl (fun _ => 0)))) 71 (.inl (0, 160, .inl (fun _ => 0)))) 72 (.inl (0, 640, .inl (fun _ => 0)))) 73 (.inl (0, 8, .inl (fun _ => 0)))) 74 (.inl (0, 504, .inl (fun _ => 0)))) 75 (.inl (0, 504, .inl (fun _ => 0)))) 76 (.inl (0, 1680, .inl (fun _ => 0)))) 77 (.inl (0, 1260, .inl (fun _ => 0)))) 78 (.inl (0, 42, .inl (fun _ => 0)))) 79 (.inl (0, 42, .inl (fun _ => 0)))) 80 (.inl (0, 42, .inl (fun _ => 0)))) 81 (.inl (0, 42, .inl (fun _ => 0)))) 82 (.inl (0, 42, .inl (fun _ => 0)))) 83 (.inl (3, 42, .inl (fun _ => 0)))) 84 (.inl (3, 42, .inl (fun _ => 0)))) 85 (.inl (3, 42, .inl (fun _ => 0)))) 86 (.inl (0, 160, .inl (fun _ => 0)))) 87 (.inl (3, 4, .inl (fun _ => 0)))) 88 (.inl (0, 16, .inl (mU 16)))) 89 (.inl (0, 16, .inl (fun _ => 0)))) 90 (.inl (3, 16, .inl (fun _ => 0)))) 91 (.inl (3, 16, .inl (fun _ => 0)))) 92 (.inl (0, 24, .inl (mU 24)))) 93 (.inl (0, 24, .inl (fun _ => 0)))) 94 (.inl (0, 24, .inl (fun _ => 0)))) 95 (.inl (0, 24, .inl (fun _ => 0)))) 96 (.inl (0, 24, .inl (fun _ => 0)))) 97 (.inl (3, 24, .inl (fun _ => 0)))) 98 (.inl (3, 24, .inl (fun _ => 0)))) 99 (.inl (0, 64, .inl (fun _ => 0)))) 100 (.inl (0, 200, .inl (fun _ => 0)))) 101 (.inl (0, 200, .inl (fun _ => 0)))) 102 (.inl (0, 200, .inl (fun _ => 0)))) 103 (.inl (0, 200, .inl (fun _ => 0)))) 104 (.inl (1, 40000, .inl (fun _ => 0)))) 105 (.inl (0, 1400, .inl (fun _ => 0)))) 106 (.inl (0, 1400, .inl (fun _ => 0)))
def qz (q : Int) : Int := if q < 1 then 1 else if 40 < q then 40 else q
def m_s (z : Int) : Nat → Int := xo_u (xo_u (fun _ => 0) 41 (-1)) 17 z
def m_ar (k j : Nat) : Int := if k = 42 then (if j < 16 then -1 else 0) else if k = 46 then (if j < 24 then -1 else 0) else 0
section XC9b
variable {fm : Value} {h : xm_H}
set_option maxRecDepth 100000 in
set_option maxHeartbeats 4000000 in
theorem k243 {q : Int} (hq : xr q) (ha : h 64 = .inr (14, mD)) : xN fm 243 h 65 [.ref 64, xi q] (fun h' n' u' => n' = 107 ∧ u' ≤ 60000 ∧ h' = mo (gM (qz q)) (aM h) h) := by
  unfold xN
  refine xe_hp (mo_0 ha) ?_
  refine xe_s (f := (1, _, _, _)) xt_g243 rfl rfl rfl rfl rfl ?_
  refine xe_obj xt_g243 rfl (q := 4) rfl xz0_13_1 (xp_13_1 fm) (Nat.le_of_ble_eq_true rfl) ?_
  refine xe_s (f := (5, _, _, _)) xt_g243 rfl rfl rfl rfl rfl ?_
  refine xe_sipush xt_g243 rfl (q := 8) rfl (by decide) (by decide) ?_
  refine xe_mnw (t := 0) (ty := .int) xt_g243 rfl (q := 10) rfl rfl rfl rfl rfl (by omega) (by decide) (by omega) ?_
  show xe fm 243 (_, _, _, (_, 66, _, _)) _
  refine xe_mpf xt_g243 rfl (q := 13) rfl (xf_13_7 fm) (by decide) (by omega) rfl (Nat.le_of_ble_eq_true rfl) ⟨rfl, rfl⟩ (Or.inr ⟨by decide, rfl⟩) ?_
  refine xe_s (f := (14, _, _, _)) xt_g243 rfl rfl rfl rfl rfl ?_
  refine xe_sipush xt_g243 rfl (q := 17) rfl (by decide) (by decide) ?_
  refine xe_mnw (t := 0) (ty := .int) xt_g243 rfl (q := 19) rfl rfl rfl rfl rfl (by omega) (by decide) (by omega) ?_
  show xe fm 243 (_, _, _, (_, 67, _, _)) _
  refine xe_mpf xt_g243 rfl (q := 22) rfl (xf_13_13 fm) (by decide) (by omega) rfl (Nat.le_of_ble_eq_true rfl) ⟨rfl, rfl⟩ (Or.inr ⟨by decide, rfl⟩) ?_
  refine xe_s (f := (23, _, _, _)) xt_g243 rfl rfl rfl rfl rfl ?_
  refine xe_bipush xt_g243 rfl (q := 25) rfl (by decide) (by decide) ?_
  refine xe_mnw (t := 0) (ty := .int) xt_g243 rfl (q := 27) rfl rfl rfl rfl rfl (by omega) (by decide) (by omega) ?_
  show xe fm 243 (_, _, _, (_, 68, _, _)) _
  refine xe_mpf xt_g243 rfl (q := 30) rfl (xf_13_16 fm) (by decide) (by omega) rfl (Nat.le_of_ble_eq_true rfl) ⟨rfl, rfl⟩ (Or.inr ⟨by decide, rfl⟩) ?_
  refine xe_s (f := (31, _, _, _)) xt_g243 rfl rfl rfl rfl rfl ?_
  refine xe_sipush xt_g243 rfl (q := 34) rfl (by decide) (by decide) ?_
  refine xe_mnw (t := 0) (ty := .int) xt_g243 rfl (q := 36) rfl rfl rfl rfl rfl (by omega) (by decide) (by omega) ?_
  show xe fm 243 (_, _, _, (_, 69, _, _)) _
  refine xe_mpf xt_g243 rfl (q := 39) rfl (xf_13_19 fm) (by decide) (by omega) rfl (Nat.le_of_ble_eq_true rfl) ⟨rfl, rfl⟩ (Or.inr ⟨by decide, rfl⟩) ?_
  refine xe_s (f := (40, _, _, _)) xt_g243 rfl rfl rfl rfl rfl ?_
  refine xe_sipush xt_g243 rfl (q := 43) rfl (by decide) (by decide) ?_
  refine xe_mnw (t := 0) (ty := .int) xt_g243 rfl (q := 45) rfl rfl rfl rfl rfl (by omega) (by decide) (by omega) ?_
  show xe fm 243 (_, _, _, (_, 70, _, _)) _
  refine xe_mpf xt_g243 rfl (q := 48) rfl (xf_13_22 fm) (by decide) (by omega) rfl (Nat.le_of_ble_eq_true rfl) ⟨rfl, rfl⟩ (Or.inr ⟨by decide, rfl⟩) ?_
  refine xe_s (f := (49, _, _, _)) xt_g243 rfl rfl rfl rfl rfl ?_
  refine xe_sipush xt_g243 rfl (q := 52) rfl (by decide) (by decide) ?_
  refine xe_mnw (t := 0) (ty := .int) xt_g243 rfl (q := 54) rfl rfl rfl rfl rfl (by omega) (by decide) (by omega) ?_
  show xe fm 243 (_, _, _, (_, 71, _, _)) _
  refine xe_mpf xt_g243 rfl (q := 57) rfl (xf_13_25 fm) (by decide) (by omega) rfl (Nat.le_of_ble_eq_true rfl) ⟨rfl, rfl⟩ (Or.inr ⟨by decide, rfl⟩) ?_
  refine xe_s (f := (58, _, _, _)) xt_g243 rfl rfl rfl rfl rfl ?_
  refine xe_sipush xt_g243 rfl (q := 61) rfl (by decide) (by decide) ?_
  refine xe_mnw (t := 0) (ty := .int) xt_g243 rfl (q := 63) rfl rfl rfl rfl rfl (by omega) (by decide) (by omega) ?_
  show xe fm 243 (_, _, _, (_, 72, _, _)) _
  refine xe_mpf xt_g243 rfl (q := 66) rfl (xf_13_28 fm) (by decide) (by omega) rfl (Nat.le_of_ble_eq_true rfl) ⟨rfl, rfl⟩ (Or.inr ⟨by decide, rfl⟩) ?_
  refine xe_s (f := (67, _, _, _)) xt_g243 rfl rfl rfl rfl rfl ?_
  refine xe_sipush xt_g243 rfl (q := 70) rfl (by decide) (by decide) ?_
  refine xe_mnw (t := 0) (ty := .int) xt_g243 rfl (q := 72) rfl rfl rfl rfl rfl (by omega) (by decide) (by omega) ?_
  show xe fm 243 (_, _, _, (_, 73, _, _)) _
  refine xe_mpf xt_g243 rfl (q := 75) rfl (xf_13_31 fm) (by decide) (by omega) rfl (Nat.le_of_ble_eq_true rfl) ⟨rfl, rfl⟩ (Or.inr ⟨by decide, rfl⟩) ?_
  refine xe_s (f := (76, _, _, _)) xt_g243 rfl rfl rfl rfl rfl ?_
  refine xe_bipush xt_g243 rfl (q := 78) rfl (by decide) (by decide) ?_
  refine xe_mnw (t := 0) (ty := .int) xt_g243 rfl (q := 80) rfl rfl rfl rfl rfl (by omega) (by decide) (by omega) ?_
  show xe fm 243 (_, _, _, (_, 74, _, _)) _
  refine xe_mpf xt_g243 rfl (q := 83) rfl (xf_13_34 fm) (by decide) (by omega) rfl (Nat.le_of_ble_eq_true rfl) ⟨rfl, rfl⟩ (Or.inr ⟨by decide, rfl⟩) ?_
  refine xe_s (f := (84, _, _, _)) xt_g243 rfl rfl rfl rfl rfl ?_
  refine xe_sipush xt_g243 rfl (q := 87) rfl (by decide) (by decide) ?_
  refine xe_mnw (t := 0) (ty := .int) xt_g243 rfl (q := 89) rfl rfl rfl rfl rfl (by omega) (by decide) (by omega) ?_
  show xe fm 243 (_, _, _, (_, 75, _, _)) _
  refine xe_mpf xt_g243 rfl (q := 92) rfl (xf_13_37 fm) (by decide) (by omega) rfl (Nat.le_of_ble_eq_true rfl) ⟨rfl, rfl⟩ (Or.inr ⟨by decide, rfl⟩) ?_
  refine xe_s (f := (93, _, _, _)) xt_g243 rfl rfl rfl rfl rfl ?_
  refine xe_sipush xt_g243 rfl (q := 96) rfl (by decide) (by decide) ?_
  refine xe_mnw (t := 0) (ty := .int) xt_g243 rfl (q := 98) rfl rfl rfl rfl rfl (by omega) (by decide) (by omega) ?_
  show xe fm 243 (_, _, _, (_, 76, _, _)) _
  refine xe_mpf xt_g243 rfl (q := 101) rfl (xf_13_40 fm) (by decide) (by omega) rfl (Nat.le_of_ble_eq_true rfl) ⟨rfl, rfl⟩ (Or.inr ⟨by decide, rfl⟩) ?_
  refine xe_s (f := (102, _, _, _)) xt_g243 rfl rfl rfl rfl rfl ?_
  refine xe_sipush xt_g243 rfl (q := 105) rfl (by decide) (by decide) ?_
  refine xe_mnw (t := 0) (ty := .int) xt_g243 rfl (q := 107) rfl rfl rfl rfl rfl (by omega) (by decide) (by omega) ?_
  show xe fm 243 (_, _, _, (_, 77, _, _)) _
  refine xe_mpf xt_g243 rfl (q := 110) rfl (xf_13_43 fm) (by decide) (by omega) rfl (Nat.le_of_ble_eq_true rfl) ⟨rfl, rfl⟩ (Or.inr ⟨by decide, rfl⟩) ?_
  refine xe_s (f := (111, _, _, _)) xt_g243 rfl rfl rfl rfl rfl ?_
  refine xe_sipush xt_g243 rfl (q := 114) rfl (by decide) (by decide) ?_
  refine xe_mnw (t := 0) (ty := .int) xt_g243 rfl (q := 116) rfl rfl rfl rfl rfl (by omega) (by decide) (by omega) ?_
  show xe fm 243 (_, _, _, (_, 78, _, _)) _
  refine xe_mpf xt_g243 rfl (q := 119) rfl (xf_13_46 fm) (by decide) (by omega) rfl (Nat.le_of_ble_eq_true rfl) ⟨rfl, rfl⟩ (Or.inr ⟨by decide, rfl⟩) ?_
  refine xe_s (f := (120, _, _, _)) xt_g243 rfl rfl rfl rfl rfl ?_
  refine xe_bipush xt_g243 rfl (q := 122) rfl (by decide) (by decide) ?_
  refine xe_mnw (t := 0) (ty := .int) xt_g243 rfl (q := 124) rfl rfl rfl rfl rfl (by omega) (by decide) (by omega) ?_
  show xe fm 243 (_, _, _, (_, 79, _, _)) _
  refine xe_mpf xt_g243 rfl (q := 127) rfl (xf_13_49 fm) (by decide) (by omega) rfl (Nat.le_of_ble_eq_true rfl) ⟨rfl, rfl⟩ (Or.inr ⟨by decide, rfl⟩) ?_
  refine xe_s (f := (128, _, _, _)) xt_g243 rfl rfl rfl rfl rfl ?_
  refine xe_bipush xt_g243 rfl (q := 130) rfl (by decide) (by decide) ?_
  refine xe_mnw (t := 0) (ty := .int) xt_g243 rfl (q := 132) rfl rfl rfl rfl rfl (by omega) (by decide) (by omega) ?_
  show xe fm 243 (_, _, _, (_, 80, _, _)) _
  refine xe_mpf xt_g243 rfl (q := 135) rfl (xf_13_52 fm) (by decide) (by omega) rfl (Nat.le_of_ble_eq_true rfl) ⟨rfl, rfl⟩ (Or.inr ⟨by decide, rfl⟩) ?_
  refine xe_s (f := (136, _, _, _)) xt_g243 rfl rfl rfl rfl rfl ?_
  refine xe_bipush xt_g243 rfl (q := 138) rfl (by decide) (by decide) ?_
  refine xe_mnw (t := 0) (ty := .int) xt_g243 rfl (q := 140) rfl rfl rfl rfl rfl (by omega) (by decide) (by omega) ?_
  show xe fm 243 (_, _, _, (_, 81, _, _)) _
  refine xe_mpf xt_g243 rfl (q := 143) rfl (xf_13_55 fm) (by decide) (by omega) rfl (Nat.le_of_ble_eq_true rfl) ⟨rfl, rfl⟩ (Or.inr ⟨by decide, rfl⟩) ?_
  refine xe_s (f := (144, _, _, _)) xt_g243 rfl rfl rfl rfl rfl ?_
  refine xe_bipush xt_g243 rfl (q := 146) rfl (by decide) (by decide) ?_
  refine xe_mnw (t := 0) (ty := .int) xt_g243 rfl (q := 148) rfl rfl rfl rfl rfl (by omega) (by decide) (by omega) ?_
  show xe fm 243 (_, _, _, (_, 82, _, _)) _
  refine xe_mpf xt_g243 rfl (q := 151) rfl (xf_13_58 fm) (by decide) (by omega) rfl (Nat.le_of_ble_eq_true rfl) ⟨rfl, rfl⟩ (Or.inr ⟨by decide, rfl⟩) ?_
  refine xe_s (f := (152, _, _, _)) xt_g243 rfl rfl rfl rfl rfl ?_
  refine xe_bipush xt_g243 rfl (q := 154) rfl (by decide) (by decide) ?_
  refine xe_mnw (t := 0) (ty := .int) xt_g243 rfl (q := 156) rfl rfl rfl rfl rfl (by omega) (by decide) (by omega) ?_
  show xe fm 243 (_, _, _, (_, 83, _, _)) _
  refine xe_mpf xt_g243 rfl (q := 159) rfl (xf_13_61 fm) (by decide) (by omega) rfl (Nat.le_of_ble_eq_true rfl) ⟨rfl, rfl⟩ (Or.inr ⟨by decide, rfl⟩) ?_
  refine xe_s (f := (160, _, _, _)) xt_g243 rfl rfl rfl rfl rfl ?_
  refine xe_bipush xt_g243 rfl (q := 162) rfl (by decide) (by decide) ?_
  refine xe_mnw (t := 3) (ty := .boolean) xt_g243 rfl (q := 164) rfl rfl rfl rfl rfl (by omega) (by decide) (by omega) ?_
  show xe fm 243 (_, _, _, (_, 84, _, _)) _
  refine xe_mpf xt_g243 rfl (q := 167) rfl (xf_13_64 fm) (by decide) (by omega) rfl (Nat.le_of_ble_eq_true rfl) ⟨rfl, rfl⟩ (Or.inr ⟨by decide, rfl⟩) ?_
  refine xe_s (f := (168, _, _, _)) xt_g243 rfl rfl rfl rfl rfl ?_
  refine xe_bipush xt_g243 rfl (q := 170) rfl (by decide) (by decide) ?_
  refine xe_mnw (t := 3) (ty := .boolean) xt_g243 rfl (q := 172) rfl rfl rfl rfl rfl (by omega) (by decide) (by omega) ?_
  show xe fm 243 (_, _, _, (_, 85, _, _)) _
  refine xe_mpf xt_g243 rfl (q := 175) rfl (xf_13_68 fm) (by decide) (by omega) rfl (Nat.le_of_ble_eq_true rfl) ⟨rfl, rfl⟩ (Or.inr ⟨by decide, rfl⟩) ?_
  refine xe_s (f := (176, _, _, _)) xt_g243 rfl rfl rfl rfl rfl ?_
  refine xe_bipush xt_g243 rfl (q := 178) rfl (by decide) (by decide) ?_
  refine xe_mnw (t := 3) (ty := .boolean) xt_g243 rfl (q := 180) rfl rfl rfl rfl rfl (by omega) (by decide) (by omega) ?_
  show xe fm 243 (_, _, _, (_, 86, _, _)) _
  refine xe_mpf xt_g243 rfl (q := 183) rfl (xf_13_71 fm) (by decide) (by omega) rfl (Nat.le_of_ble_eq_true rfl) ⟨rfl, rfl⟩ (Or.inr ⟨by decide, rfl⟩) ?_
  refine xe_s (f := (184, _, _, _)) xt_g243 rfl rfl rfl rfl rfl ?_
  refine xe_sipush xt_g243 rfl (q := 187) rfl (by decide) (by decide) ?_
  refine xe_mnw (t := 0) (ty := .int) xt_g243 rfl (q := 189) rfl rfl rfl rfl rfl (by omega) (by decide) (by omega) ?_
  show xe fm 243 (_, _, _, (_, 87, _, _)) _
  refine xe_mpf xt_g243 rfl (q := 192) rfl (xf_13_74 fm) (by decide) (by omega) rfl (Nat.le_of_ble_eq_true rfl) ⟨rfl, rfl⟩ (Or.inr ⟨by decide, rfl⟩) ?_
  refine xe_s (f := (193, _, _, _)) xt_g243 rfl rfl rfl rfl rfl ?_
  refine xe_s (f := (194, _, xi 4 :: _, _)) xt_g243 rfl rfl rfl rfl rfl ?_
  refine xe_mnw (t := 3) (ty := .boolean) xt_g243 rfl (q := 196) rfl rfl rfl rfl rfl (by omega) (by decide) (by omega) ?_
  show xe fm 243 (_, _, _, (_, 88, _, _)) _
  refine xe_mpf xt_g243 rfl (q := 199) rfl (xf_13_77 fm) (by decide) (by omega) rfl (Nat.le_of_ble_eq_true rfl) ⟨rfl, rfl⟩ (Or.inr ⟨by decide, rfl⟩) ?_
  refine xe_s (f := (200, _, _, _)) xt_g243 rfl rfl rfl rfl rfl ?_
  refine xe_s (f := (201, _, xi (-1) :: _, _)) xt_g243 rfl rfl rfl rfl rfl ?_
  refine xe_mpf xt_g243 rfl (q := 204) rfl (xf_13_80 fm) (by decide) (by omega) rfl (Nat.le_of_ble_eq_true rfl) xi_int (Or.inl rfl) ?_
  refine xe_s (f := (205, _, _, _)) xt_g243 rfl rfl rfl rfl rfl ?_
  refine xe_bipush xt_g243 rfl (q := 207) rfl (by decide) (by decide) ?_
  refine xe_mnU (t := 0) (ty := .int) xt_g243 rfl (q := 209) rfl rfl rfl rfl rfl (by omega) (by decide) (by omega) ?_
  show xe fm 243 (_, _, _, (_, 89, _, _)) _
  refine xe_s (f := (210, _, _, _)) xt_g243 rfl rfl rfl rfl rfl ?_
  refine xe_s (f := (211, _, xi 0 :: _, _)) xt_g243 rfl rfl rfl rfl rfl ?_
  refine xe_s (f := (212, _, xi (-1) :: _, _)) xt_g243 rfl rfl rfl rfl rfl ?_
  refine xe_mia (m := 0) xt_g243 rfl (q := 213) rfl (fun _ _ => ⟨rfl, rfl, rfl, rfl⟩) (by decide) (by omega) (by omega) (by decide) (by decide) ?_
  refine xe_s (f := (214, _, _, _)) xt_g243 rfl rfl rfl rfl rfl ?_
  refine xe_s (f := (215, _, xi 1 :: _, _)) xt_g243 rfl rfl rfl rfl rfl ?_
  refine xe_s (f := (216, _, xi (-1) :: _, _)) xt_g243 rfl rfl rfl rfl rfl ?_
  refine xe_mia (m := 1) xt_g243 rfl (q := 217) rfl (fun _ _ => ⟨rfl, rfl, rfl, rfl⟩) (by decide) (by omega) (by omega) (by decide) (by decide) ?_
  refine xe_s (f := (218, _, _, _)) xt_g243 rfl rfl rfl rfl rfl ?_
  refine xe_s (f := (219, _, xi 2 :: _, _)) xt_g243 rfl rfl rfl rfl rfl ?_
  refine xe_s (f := (220, _, xi (-1) :: _, _)) xt_g243 rfl rfl rfl rfl rfl ?_
  refine xe_mia (m := 2) xt_g243 rfl (q := 221) rfl (fun _ _ => ⟨rfl, rfl, rfl, rfl⟩) (by decide) (by omega) (by omega) (by decide) (by decide) ?_
  refine xe_s (f := (222, _, _, _)) xt_g243 rfl rfl rfl rfl rfl ?_
  refine xe_s (f := (223, _, xi 3 :: _, _)) xt_g243 rfl rfl rfl rfl rfl ?_
  refine xe_s (f := (224, _, xi (-1) :: _, _)) xt_g243 rfl rfl rfl rfl rfl ?_
  refine xe_mia (m := 3) xt_g243 rfl (q := 225) rfl (fun _ _ => ⟨rfl, rfl, rfl, rfl⟩) (by decide) (by omega) (by omega) (by decide) (by decide) ?_
  refine xe_s (f := (226, _, _, _)) xt_g243 rfl rfl rfl rfl rfl ?_
  refine xe_s (f := (227, _, xi 4 :: _, _)) xt_g243 rfl rfl rfl rfl rfl ?_
  refine xe_s (f := (228, _, xi (-1) :: _, _)) xt_g243 rfl rfl rfl rfl rfl ?_
  refine xe_mia (m := 4) xt_g243 rfl (q := 229) rfl (fun _ _ => ⟨rfl, rfl, rfl, rfl⟩) (by decide) (by omega) (by omega) (by decide) (by decide) ?_
  refine xe_s (f := (230, _, _, _)) xt_g243 rfl rfl rfl rfl rfl ?_
  refine xe_s (f := (231, _, xi 5 :: _, _)) xt_g243 rfl rfl rfl rfl rfl ?_
  refine xe_s (f := (232, _, xi (-1) :: _, _)) xt_g243 rfl rfl rfl rfl rfl ?_
  refine xe_mia (m := 5) xt_g243 rfl (q := 233) rfl (fun _ _ => ⟨rfl, rfl, rfl, rfl⟩) (by decide) (by omega) (by omega) (by decide) (by decide) ?_
  refine xe_s (f := (234, _, _, _)) xt_g243 rfl rfl rfl rfl rfl ?_
  refine xe_bipush xt_g243 rfl (q := 236) rfl (by decide) (by decide) ?_
  refine xe_s (f := (237, _, xi (-1) :: _, _)) xt_g243 rfl rfl rfl rfl rfl ?_
  refine xe_mia (m := 6) xt_g243 rfl (q := 238) rfl (fun _ _ => ⟨rfl, rfl, rfl, rfl⟩) (by decide) (by omega) (by omega) (by decide) (by decide) ?_
  refine xe_s (f := (239, _, _, _)) xt_g243 rfl rfl rfl rfl rfl ?_
  refine xe_bipush xt_g243 rfl (q := 241) rfl (by decide) (by decide) ?_
  refine xe_s (f := (242, _, xi (-1) :: _, _)) xt_g243 rfl rfl rfl rfl rfl ?_
  refine xe_mia (m := 7) xt_g243 rfl (q := 243) rfl (fun _ _ => ⟨rfl, rfl, rfl, rfl⟩) (by decide) (by omega) (by omega) (by decide) (by decide) ?_
  refine xe_s (f := (244, _, _, _)) xt_g243 rfl rfl rfl rfl rfl ?_
  refine xe_bipush xt_g243 rfl (q := 246) rfl (by decide) (by decide) ?_
  refine xe_s (f := (247, _, xi (-1) :: _, _)) xt_g243 rfl rfl rfl rfl rfl ?_
  refine xe_mia (m := 8) xt_g243 rfl (q := 248) rfl (fun _ _ => ⟨rfl, rfl, rfl, rfl⟩) (by decide) (by omega) (by omega) (by decide) (by decide) ?_
  refine xe_s (f := (249, _, _, _)) xt_g243 rfl rfl rfl rfl rfl ?_
  refine xe_bipush xt_g243 rfl (q := 251) rfl (by decide) (by decide) ?_
  refine xe_s (f := (252, _, xi (-1) :: _, _)) xt_g243 rfl rfl rfl rfl rfl ?_
  refine xe_mia (m := 9) xt_g243 rfl (q := 253) rfl (fun _ _ => ⟨rfl, rfl, rfl, rfl⟩) (by decide) (by omega) (by omega) (by decide) (by decide) ?_
  refine xe_s (f := (254, _, _, _)) xt_g243 rfl rfl rfl rfl rfl ?_
  refine xe_bipush xt_g243 rfl (q := 256) rfl (by decide) (by decide) ?_
  refine xe_s (f := (257, _, xi (-1) :: _, _)) xt_g243 rfl rfl rfl rfl rfl ?_
  refine xe_mia (m := 10) xt_g243 rfl (q := 258) rfl (fun _ _ => ⟨rfl, rfl, rfl, rfl⟩) (by decide) (by omega) (by omega) (by decide) (by decide) ?_
  refine xe_s (f := (259, _, _, _)) xt_g243 rfl rfl rfl rfl rfl ?_
  refine xe_bipush xt_g243 rfl (q := 261) rfl (by decide) (by decide) ?_
  refine xe_s (f := (262, _, xi (-1) :: _, _)) xt_g243 rfl rfl rfl rfl rfl ?_
  refine xe_mia (m := 11) xt_g243 rfl (q := 263) rfl (fun _ _ => ⟨rfl, rfl, rfl, rfl⟩) (by decide) (by omega) (by omega) (by decide) (by decide) ?_
  refine xe_s (f := (264, _, _, _)) xt_g243 rfl rfl rfl rfl rfl ?_
  refine xe_bipush xt_g243 rfl (q := 266) rfl (by decide) (by decide) ?_
  refine xe_s (f := (267, _, xi (-1) :: _, _)) xt_g243 rfl rfl rfl rfl rfl ?_
  refine xe_mia (m := 12) xt_g243 rfl (q := 268) rfl (fun _ _ => ⟨rfl, rfl, rfl, rfl⟩) (by decide) (by omega) (by omega) (by decide) (by decide) ?_
  refine xe_s (f := (269, _, _, _)) xt_g243 rfl rfl rfl rfl rfl ?_
  refine xe_bipush xt_g243 rfl (q := 271) rfl (by decide) (by decide) ?_
  refine xe_s (f := (272, _, xi (-1) :: _, _)) xt_g243 rfl rfl rfl rfl rfl ?_
  refine xe_mia (m := 13) xt_g243 rfl (q := 273) rfl (fun _ _ => ⟨rfl, rfl, rfl, rfl⟩) (by decide) (by omega) (by omega) (by decide) (by decide) ?_
  refine xe_s (f := (274, _, _, _)) xt_g243 rfl rfl rfl rfl rfl ?_
  refine xe_bipush xt_g243 rfl (q := 276) rfl (by decide) (by decide) ?_
  refine xe_s (f := (277, _, xi (-1) :: _, _)) xt_g243 rfl rfl rfl rfl rfl ?_
  refine xe_mia (m := 14) xt_g243 rfl (q := 278) rfl (fun _ _ => ⟨rfl, rfl, rfl, rfl⟩) (by decide) (by omega) (by omega) (by decide) (by decide) ?_
  refine xe_s (f := (279, _, _, _)) xt_g243 rfl rfl rfl rfl rfl ?_
  refine xe_bipush xt_g243 rfl (q := 281) rfl (by decide) (by decide) ?_
  refine xe_s (f := (282, _, xi (-1) :: _, _)) xt_g243 rfl rfl rfl rfl rfl ?_
  refine xe_mia (m := 15) xt_g243 rfl (q := 283) rfl (fun _ _ => ⟨rfl, rfl, rfl, rfl⟩) (by decide) (by omega) (by omega) (by decide) (by decide) ?_
  refine xe_mpf xt_g243 rfl (q := 286) rfl (xf_13_84 fm) (by decide) (by omega) rfl (Nat.le_of_ble_eq_true rfl) ⟨rfl, rfl⟩ (Or.inr ⟨by decide, rfl⟩) ?_
  refine xe_s (f := (287, _, _, _)) xt_g243 rfl rfl rfl rfl rfl ?_
  refine xe_bipush xt_g243 rfl (q := 289) rfl (by decide) (by decide) ?_
  refine xe_mnw (t := 0) (ty := .int) xt_g243 rfl (q := 291) rfl rfl rfl rfl rfl (by omega) (by decide) (by omega) ?_
  show xe fm 243 (_, _, _, (_, 90, _, _)) _
  refine xe_mpf xt_g243 rfl (q := 294) rfl (xf_13_87 fm) (by decide) (by omega) rfl (Nat.le_of_ble_eq_true rfl) ⟨rfl, rfl⟩ (Or.inr ⟨by decide, rfl⟩) ?_
  refine xe_s (f := (295, _, _, _)) xt_g243 rfl rfl rfl rfl rfl ?_
  refine xe_bipush xt_g243 rfl (q := 297) rfl (by decide) (by decide) ?_
  refine xe_mnw (t := 3) (ty := .boolean) xt_g243 rfl (q := 299) rfl rfl rfl rfl rfl (by omega) (by decide) (by omega) ?_
  show xe fm 243 (_, _, _, (_, 91, _, _)) _
  refine xe_mpf xt_g243 rfl (q := 302) rfl (xf_13_90 fm) (by decide) (by omega) rfl (Nat.le_of_ble_eq_true rfl) ⟨rfl, rfl⟩ (Or.inr ⟨by decide, rfl⟩) ?_
  refine xe_s (f := (303, _, _, _)) xt_g243 rfl rfl rfl rfl rfl ?_
  refine xe_bipush xt_g243 rfl (q := 305) rfl (by decide) (by decide) ?_
  refine xe_mnw (t := 3) (ty := .boolean) xt_g243 rfl (q := 307) rfl rfl rfl rfl rfl (by omega) (by decide) (by omega) ?_
  show xe fm 243 (_, _, _, (_, 92, _, _)) _
  refine xe_mpf xt_g243 rfl (q := 310) rfl (xf_13_93 fm) (by decide) (by omega) rfl (Nat.le_of_ble_eq_true rfl) ⟨rfl, rfl⟩ (Or.inr ⟨by decide, rfl⟩) ?_
  refine xe_s (f := (311, _, _, _)) xt_g243 rfl rfl rfl rfl rfl ?_
  refine xe_bipush xt_g243 rfl (q := 313) rfl (by decide) (by decide) ?_
  refine xe_mnU (t := 0) (ty := .int) xt_g243 rfl (q := 315) rfl rfl rfl rfl rfl (by omega) (by decide) (by omega) ?_
  show xe fm 243 (_, _, _, (_, 93, _, _)) _
  refine xe_s (f := (316, _, _, _)) xt_g243 rfl rfl rfl rfl rfl ?_
  refine xe_s (f := (317, _, xi 0 :: _, _)) xt_g243 rfl rfl rfl rfl rfl ?_
  refine xe_s (f := (318, _, xi (-1) :: _, _)) xt_g243 rfl rfl rfl rfl rfl ?_
  refine xe_mia (m := 0) xt_g243 rfl (q := 319) rfl (fun _ _ => ⟨rfl, rfl, rfl, rfl⟩) (by decide) (by omega) (by omega) (by decide) (by decide) ?_
  refine xe_s (f := (320, _, _, _)) xt_g243 rfl rfl rfl rfl rfl ?_
  refine xe_s (f := (321, _, xi 1 :: _, _)) xt_g243 rfl rfl rfl rfl rfl ?_
  refine xe_s (f := (322, _, xi (-1) :: _, _)) xt_g243 rfl rfl rfl rfl rfl ?_
  refine xe_mia (m := 1) xt_g243 rfl (q := 323) rfl (fun _ _ => ⟨rfl, rfl, rfl, rfl⟩) (by decide) (by omega) (by omega) (by decide) (by decide) ?_
  refine xe_s (f := (324, _, _, _)) xt_g243 rfl rfl rfl rfl rfl ?_
  refine xe_s (f := (325, _, xi 2 :: _, _)) xt_g243 rfl rfl rfl rfl rfl ?_
  refine xe_s (f := (326, _, xi (-1) :: _, _)) xt_g243 rfl rfl rfl rfl rfl ?_
  refine xe_mia (m := 2) xt_g243 rfl (q := 327) rfl (fun _ _ => ⟨rfl, rfl, rfl, rfl⟩) (by decide) (by omega) (by omega) (by decide) (by decide) ?_
  refine xe_s (f := (328, _, _, _)) xt_g243 rfl rfl rfl rfl rfl ?_
  refine xe_s (f := (329, _, xi 3 :: _, _)) xt_g243 rfl rfl rfl rfl rfl ?_
  refine xe_s (f := (330, _, xi (-1) :: _, _)) xt_g243 rfl rfl rfl rfl rfl ?_
  refine xe_mia (m := 3) xt_g243 rfl (q := 331) rfl (fun _ _ => ⟨rfl, rfl, rfl, rfl⟩) (by decide) (by omega) (by omega) (by decide) (by decide) ?_
  refine xe_s (f := (332, _, _, _)) xt_g243 rfl rfl rfl rfl rfl ?_
  refine xe_s (f := (333, _, xi 4 :: _, _)) xt_g243 rfl rfl rfl rfl rfl ?_
  refine xe_s (f := (334, _, xi (-1) :: _, _)) xt_g243 rfl rfl rfl rfl rfl ?_
  refine xe_mia (m := 4) xt_g243 rfl (q := 335) rfl (fun _ _ => ⟨rfl, rfl, rfl, rfl⟩) (by decide) (by omega) (by omega) (by decide) (by decide) ?_
  refine xe_s (f := (336, _, _, _)) xt_g243 rfl rfl rfl rfl rfl ?_
  refine xe_s (f := (337, _, xi 5 :: _, _)) xt_g243 rfl rfl rfl rfl rfl ?_
  refine xe_s (f := (338, _, xi (-1) :: _, _)) xt_g243 rfl rfl rfl rfl rfl ?_
  refine xe_mia (m := 5) xt_g243 rfl (q := 339) rfl (fun _ _ => ⟨rfl, rfl, rfl, rfl⟩) (by decide) (by omega) (by omega) (by decide) (by decide) ?_
  refine xe_s (f := (340, _, _, _)) xt_g243 rfl rfl rfl rfl rfl ?_
  refine xe_bipush xt_g243 rfl (q := 342) rfl (by decide) (by decide) ?_
  refine xe_s (f := (343, _, xi (-1) :: _, _)) xt_g243 rfl rfl rfl rfl rfl ?_
  refine xe_mia (m := 6) xt_g243 rfl (q := 344) rfl (fun _ _ => ⟨rfl, rfl, rfl, rfl⟩) (by decide) (by omega) (by omega) (by decide) (by decide) ?_
  refine xe_s (f := (345, _, _, _)) xt_g243 rfl rfl rfl rfl rfl ?_
  refine xe_bipush xt_g243 rfl (q := 347) rfl (by decide) (by decide) ?_
  refine xe_s (f := (348, _, xi (-1) :: _, _)) xt_g243 rfl rfl rfl rfl rfl ?_
  refine xe_mia (m := 7) xt_g243 rfl (q := 349) rfl (fun _ _ => ⟨rfl, rfl, rfl, rfl⟩) (by decide) (by omega) (by omega) (by decide) (by decide) ?_
  refine xe_s (f := (350, _, _, _)) xt_g243 rfl rfl rfl rfl rfl ?_
  refine xe_bipush xt_g243 rfl (q := 352) rfl (by decide) (by decide) ?_
  refine xe_s (f := (353, _, xi (-1) :: _, _)) xt_g243 rfl rfl rfl rfl rfl ?_
  refine xe_mia (m := 8) xt_g243 rfl (q := 354) rfl (fun _ _ => ⟨rfl, rfl, rfl, rfl⟩) (by decide) (by omega) (by omega) (by decide) (by decide) ?_
  refine xe_s (f := (355, _, _, _)) xt_g243 rfl rfl rfl rfl rfl ?_
  refine xe_bipush xt_g243 rfl (q := 357) rfl (by decide) (by decide) ?_
  refine xe_s (f := (358, _, xi (-1) :: _, _)) xt_g243 rfl rfl rfl rfl rfl ?_
  refine xe_mia (m := 9) xt_g243 rfl (q := 359) rfl (fun _ _ => ⟨rfl, rfl, rfl, rfl⟩) (by decide) (by omega) (by omega) (by decide) (by decide) ?_
  refine xe_s (f := (360, _, _, _)) xt_g243 rfl rfl rfl rfl rfl ?_
  refine xe_bipush xt_g243 rfl (q := 362) rfl (by decide) (by decide) ?_
  refine xe_s (f := (363, _, xi (-1) :: _, _)) xt_g243 rfl rfl rfl rfl rfl ?_
  refine xe_mia (m := 10) xt_g243 rfl (q := 364) rfl (fun _ _ => ⟨rfl, rfl, rfl, rfl⟩) (by decide) (by omega) (by omega) (by decide) (by decide) ?_
  refine xe_s (f := (365, _, _, _)) xt_g243 rfl rfl rfl rfl rfl ?_
  refine xe_bipush xt_g243 rfl (q := 367) rfl (by decide) (by decide) ?_
  refine xe_s (f := (368, _, xi (-1) :: _, _)) xt_g243 rfl rfl rfl rfl rfl ?_
  refine xe_mia (m := 11) xt_g243 rfl (q := 369) rfl (fun _ _ => ⟨rfl, rfl, rfl, rfl⟩) (by decide) (by omega) (by omega) (by decide) (by decide) ?_
  refine xe_s (f := (370, _, _, _)) xt_g243 rfl rfl rfl rfl rfl ?_
  refine xe_bipush xt_g243 rfl (q := 372) rfl (by decide) (by decide) ?_
  refine xe_s (f := (373, _, xi (-1) :: _, _)) xt_g243 rfl rfl rfl rfl rfl ?_
  refine xe_mia (m := 12) xt_g243 rfl (q := 374) rfl (fun _ _ => ⟨rfl, rfl, rfl, rfl⟩) (by decide) (by omega) (by omega) (by decide) (by decide) ?_
  refine xe_s (f := (375, _, _, _)) xt_g243 rfl rfl rfl rfl rfl ?_
  refine xe_bipush xt_g243 rfl (q := 377) rfl (by decide) (by decide) ?_
  refine xe_s (f := (378, _, xi (-1) :: _, _)) xt_g243 rfl rfl rfl rfl rfl ?_
  refine xe_mia (m := 13) xt_g243 rfl (q := 379) rfl (fun _ _ => ⟨rfl, rfl, rfl, rfl⟩) (by decide) (by omega) (by omega) (by decide) (by decide) ?_
  refine xe_s (f := (380, _, _, _)) xt_g243 rfl rfl rfl rfl rfl ?_
  refine xe_bipush xt_g243 rfl (q := 382) rfl (by decide) (by decide) ?_
  refine xe_s (f := (383, _, xi (-1) :: _, _)) xt_g243 rfl rfl rfl rfl rfl ?_
  refine xe_mia (m := 14) xt_g243 rfl (q := 384) rfl (fun _ _ => ⟨rfl, rfl, rfl, rfl⟩) (by decide) (by omega) (by omega) (by decide) (by decide) ?_
  refine xe_s (f := (385, _, _, _)) xt_g243 rfl rfl rfl rfl rfl ?_
  refine xe_bipush xt_g243 rfl (q := 387) rfl (by decide) (by decide) ?_
  refine xe_s (f := (388, _, xi (-1) :: _, _)) xt_g243 rfl rfl rfl rfl rfl ?_
  refine xe_mia (m := 15) xt_g243 rfl (q := 389) rfl (fun _ _ => ⟨rfl, rfl, rfl, rfl⟩) (by decide) (by omega) (by omega) (by decide) (by decide) ?_
  refine xe_s (f := (390, _, _, _)) xt_g243 rfl rfl rfl rfl rfl ?_
  refine xe_bipush xt_g243 rfl (q := 392) rfl (by decide) (by decide) ?_
  refine xe_s (f := (393, _, xi (-1) :: _, _)) xt_g243 rfl rfl rfl rfl rfl ?_
  refine xe_mia (m := 16) xt_g243 rfl (q := 394) rfl (fun _ _ => ⟨rfl, rfl, rfl, rfl⟩) (by decide) (by omega) (by omega) (by decide) (by decide) ?_
  refine xe_s (f := (395, _, _, _)) xt_g243 rfl rfl rfl rfl rfl ?_
  refine xe_bipush xt_g243 rfl (q := 397) rfl (by decide) (by decide) ?_
  refine xe_s (f := (398, _, xi (-1) :: _, _)) xt_g243 rfl rfl rfl rfl rfl ?_
  refine xe_mia (m := 17) xt_g243 rfl (q := 399) rfl (fun _ _ => ⟨rfl, rfl, rfl, rfl⟩) (by decide) (by omega) (by omega) (by decide) (by decide) ?_
  refine xe_s (f := (400, _, _, _)) xt_g243 rfl rfl rfl rfl rfl ?_
  refine xe_bipush xt_g243 rfl (q := 402) rfl (by decide) (by decide) ?_
  refine xe_s (f := (403, _, xi (-1) :: _, _)) xt_g243 rfl rfl rfl rfl rfl ?_
  refine xe_mia (m := 18) xt_g243 rfl (q := 404) rfl (fun _ _ => ⟨rfl, rfl, rfl, rfl⟩) (by decide) (by omega) (by omega) (by decide) (by decide) ?_
  refine xe_s (f := (405, _, _, _)) xt_g243 rfl rfl rfl rfl rfl ?_
  refine xe_bipush xt_g243 rfl (q := 407) rfl (by decide) (by decide) ?_
  refine xe_s (f := (408, _, xi (-1) :: _, _)) xt_g243 rfl rfl rfl rfl rfl ?_
  refine xe_mia (m := 19) xt_g243 rfl (q := 409) rfl (fun _ _ => ⟨rfl, rfl, rfl, rfl⟩) (by decide) (by omega) (by omega) (by decide) (by decide) ?_
  refine xe_s (f := (410, _, _, _)) xt_g243 rfl rfl rfl rfl rfl ?_
  refine xe_bipush xt_g243 rfl (q := 412) rfl (by decide) (by decide) ?_
  refine xe_s (f := (413, _, xi (-1) :: _, _)) xt_g243 rfl rfl rfl rfl rfl ?_
  refine xe_mia (m := 20) xt_g243 rfl (q := 414) rfl (fun _ _ => ⟨rfl, rfl, rfl, rfl⟩) (by decide) (by omega) (by omega) (by decide) (by decide) ?_
  refine xe_s (f := (415, _, _, _)) xt_g243 rfl rfl rfl rfl rfl ?_
  refine xe_bipush xt_g243 rfl (q := 417) rfl (by decide) (by decide) ?_
  refine xe_s (f := (418, _, xi (-1) :: _, _)) xt_g243 rfl rfl rfl rfl rfl ?_
  refine xe_mia (m := 21) xt_g243 rfl (q := 419) rfl (fun _ _ => ⟨rfl, rfl, rfl, rfl⟩) (by decide) (by omega) (by omega) (by decide) (by decide) ?_
  refine xe_s (f := (420, _, _, _)) xt_g243 rfl rfl rfl rfl rfl ?_
  refine xe_bipush xt_g243 rfl (q := 422) rfl (by decide) (by decide) ?_
  refine xe_s (f := (423, _, xi (-1) :: _, _)) xt_g243 rfl rfl rfl rfl rfl ?_
  refine xe_mia (m := 22) xt_g243 rfl (q := 424) rfl (fun _ _ => ⟨rfl, rfl, rfl, rfl⟩) (by decide) (by omega) (by omega) (by decide) (by decide) ?_
  refine xe_s (f := (425, _, _, _)) xt_g243 rfl rfl rfl rfl rfl ?_
  refine xe_bipush xt_g243 rfl (q := 427) rfl (by decide) (by decide) ?_
  refine xe_s (f := (428, _, xi (-1) :: _, _)) xt_g243 rfl rfl rfl rfl rfl ?_
  refine xe_mia (m := 23) xt_g243 rfl (q := 429) rfl (fun _ _ => ⟨rfl, rfl, rfl, rfl⟩) (by decide) (by omega) (by omega) (by decide) (by decide) ?_
  refine xe_mpf xt_g243 rfl (q := 432) rfl (xf_13_96 fm) (by decide) (by omega) rfl (Nat.le_of_ble_eq_true rfl) ⟨rfl, rfl⟩ (Or.inr ⟨by decide, rfl⟩) ?_
  refine xe_s (f := (433, _, _, _)) xt_g243 rfl rfl rfl rfl rfl ?_
  refine xe_bipush xt_g243 rfl (q := 435) rfl (by decide) (by decide) ?_
  refine xe_mnw (t := 0) (ty := .int) xt_g243 rfl (q := 437) rfl rfl rfl rfl rfl (by omega) (by decide) (by omega) ?_
  show xe fm 243 (_, _, _, (_, 94, _, _)) _
  refine xe_mpf xt_g243 rfl (q := 440) rfl (xf_13_99 fm) (by decide) (by omega) rfl (Nat.le_of_ble_eq_true rfl) ⟨rfl, rfl⟩ (Or.inr ⟨by decide, rfl⟩) ?_
  refine xe_s (f := (441, _, _, _)) xt_g243 rfl rfl rfl rfl rfl ?_
  refine xe_bipush xt_g243 rfl (q := 443) rfl (by decide) (by decide) ?_
  refine xe_mnw (t := 0) (ty := .int) xt_g243 rfl (q := 445) rfl rfl rfl rfl rfl (by omega) (by decide) (by omega) ?_
  show xe fm 243 (_, _, _, (_, 95, _, _)) _
  refine xe_mpf xt_g243 rfl (q := 448) rfl (xf_13_102 fm) (by decide) (by omega) rfl (Nat.le_of_ble_eq_true rfl) ⟨rfl, rfl⟩ (Or.inr ⟨by decide, rfl⟩) ?_
  refine xe_s (f := (449, _, _, _)) xt_g243 rfl rfl rfl rfl rfl ?_
  refine xe_bipush xt_g243 rfl (q := 451) rfl (by decide) (by decide) ?_
  refine xe_mnw (t := 0) (ty := .int) xt_g243 rfl (q := 453) rfl rfl rfl rfl rfl (by omega) (by decide) (by omega) ?_
  show xe fm 243 (_, _, _, (_, 96, _, _)) _
  refine xe_mpf xt_g243 rfl (q := 456) rfl (xf_13_105 fm) (by decide) (by omega) rfl (Nat.le_of_ble_eq_true rfl) ⟨rfl, rfl⟩ (Or.inr ⟨by decide, rfl⟩) ?_
  refine xe_s (f := (457, _, _, _)) xt_g243 rfl rfl rfl rfl rfl ?_
  refine xe_bipush xt_g243 rfl (q := 459) rfl (by decide) (by decide) ?_
  refine xe_mnw (t := 0) (ty := .int) xt_g243 rfl (q := 461) rfl rfl rfl rfl rfl (by omega) (by decide) (by omega) ?_
  show xe fm 243 (_, _, _, (_, 97, _, _)) _
  refine xe_mpf xt_g243 rfl (q := 464) rfl (xf_13_108 fm) (by decide) (by omega) rfl (Nat.le_of_ble_eq_true rfl) ⟨rfl, rfl⟩ (Or.inr ⟨by decide, rfl⟩) ?_
  refine xe_s (f := (465, _, _, _)) xt_g243 rfl rfl rfl rfl rfl ?_
  refine xe_bipush xt_g243 rfl (q := 467) rfl (by decide) (by decide) ?_
  refine xe_mnw (t := 3) (ty := .boolean) xt_g243 rfl (q := 469) rfl rfl rfl rfl rfl (by omega) (by decide) (by omega) ?_
  show xe fm 243 (_, _, _, (_, 98, _, _)) _
  refine xe_mpf xt_g243 rfl (q := 472) rfl (xf_13_111 fm) (by decide) (by omega) rfl (Nat.le_of_ble_eq_true rfl) ⟨rfl, rfl⟩ (Or.inr ⟨by decide, rfl⟩) ?_
  refine xe_s (f := (473, _, _, _)) xt_g243 rfl rfl rfl rfl rfl ?_
  refine xe_bipush xt_g243 rfl (q := 475) rfl (by decide) (by decide) ?_
  refine xe_mnw (t := 3) (ty := .boolean) xt_g243 rfl (q := 477) rfl rfl rfl rfl rfl (by omega) (by decide) (by omega) ?_
  show xe fm 243 (_, _, _, (_, 99, _, _)) _
  refine xe_mpf xt_g243 rfl (q := 480) rfl (xf_13_114 fm) (by decide) (by omega) rfl (Nat.le_of_ble_eq_true rfl) ⟨rfl, rfl⟩ (Or.inr ⟨by decide, rfl⟩) ?_
  refine xe_s (f := (481, _, _, _)) xt_g243 rfl rfl rfl rfl rfl ?_
  refine xe_bipush xt_g243 rfl (q := 483) rfl (by decide) (by decide) ?_
  refine xe_mnw (t := 0) (ty := .int) xt_g243 rfl (q := 485) rfl rfl rfl rfl rfl (by omega) (by decide) (by omega) ?_
  show xe fm 243 (_, _, _, (_, 100, _, _)) _
  refine xe_mpf xt_g243 rfl (q := 488) rfl (xf_13_117 fm) (by decide) (by omega) rfl (Nat.le_of_ble_eq_true rfl) ⟨rfl, rfl⟩ (Or.inr ⟨by decide, rfl⟩) ?_
  refine xe_s (f := (489, _, _, _)) xt_g243 rfl rfl rfl rfl rfl ?_
  refine xe_sipush xt_g243 rfl (q := 492) rfl (by decide) (by decide) ?_
  refine xe_mnw (t := 0) (ty := .int) xt_g243 rfl (q := 494) rfl rfl rfl rfl rfl (by omega) (by decide) (by omega) ?_
  show xe fm 243 (_, _, _, (_, 101, _, _)) _
  refine xe_mpf xt_g243 rfl (q := 497) rfl (xf_13_120 fm) (by decide) (by omega) rfl (Nat.le_of_ble_eq_true rfl) ⟨rfl, rfl⟩ (Or.inr ⟨by decide, rfl⟩) ?_
  refine xe_s (f := (498, _, _, _)) xt_g243 rfl rfl rfl rfl rfl ?_
  refine xe_sipush xt_g243 rfl (q := 501) rfl (by decide) (by decide) ?_
  refine xe_mnw (t := 0) (ty := .int) xt_g243 rfl (q := 503) rfl rfl rfl rfl rfl (by omega) (by decide) (by omega) ?_
  show xe fm 243 (_, _, _, (_, 102, _, _)) _
  refine xe_mpf xt_g243 rfl (q := 506) rfl (xf_13_123 fm) (by decide) (by omega) rfl (Nat.le_of_ble_eq_true rfl) ⟨rfl, rfl⟩ (Or.inr ⟨by decide, rfl⟩) ?_
  refine xe_s (f := (507, _, _, _)) xt_g243 rfl rfl rfl rfl rfl ?_
  refine xe_sipush xt_g243 rfl (q := 510) rfl (by decide) (by decide) ?_
  refine xe_mnw (t := 0) (ty := .int) xt_g243 rfl (q := 512) rfl rfl rfl rfl rfl (by omega) (by decide) (by omega) ?_
  show xe fm 243 (_, _, _, (_, 103, _, _)) _
  refine xe_mpf xt_g243 rfl (q := 515) rfl (xf_13_126 fm) (by decide) (by omega) rfl (Nat.le_of_ble_eq_true rfl) ⟨rfl, rfl⟩ (Or.inr ⟨by decide, rfl⟩) ?_
  refine xe_s (f := (516, _, _, _)) xt_g243 rfl rfl rfl rfl rfl ?_
  refine xe_sipush xt_g243 rfl (q := 519) rfl (by decide) (by decide) ?_
  refine xe_mnw (t := 0) (ty := .int) xt_g243 rfl (q := 521) rfl rfl rfl rfl rfl (by omega) (by decide) (by omega) ?_
  show xe fm 243 (_, _, _, (_, 104, _, _)) _
  refine xe_mpf xt_g243 rfl (q := 524) rfl (xf_13_129 fm) (by decide) (by omega) rfl (Nat.le_of_ble_eq_true rfl) ⟨rfl, rfl⟩ (Or.inr ⟨by decide, rfl⟩) ?_
  refine xe_s (f := (525, _, _, _)) xt_g243 rfl rfl rfl rfl rfl ?_
  refine xe_ldci (z := 40000) xt_g243 rfl (q := 527) rfl rfl (by decide) ?_
  refine xe_mnw (t := 1) (ty := .byte) xt_g243 rfl (q := 529) rfl rfl rfl rfl rfl (by omega) (by decide) (by omega) ?_
  show xe fm 243 (_, _, _, (_, 105, _, _)) _
  refine xe_mpf xt_g243 rfl (q := 532) rfl (xf_13_133 fm) (by decide) (by omega) rfl (Nat.le_of_ble_eq_true rfl) ⟨rfl, rfl⟩ (Or.inr ⟨by decide, rfl⟩) ?_
  refine xe_s (f := (533, _, _, _)) xt_g243 rfl rfl rfl rfl rfl ?_
  refine xe_sipush xt_g243 rfl (q := 536) rfl (by decide) (by decide) ?_
  refine xe_mnw (t := 0) (ty := .int) xt_g243 rfl (q := 538) rfl rfl rfl rfl rfl (by omega) (by decide) (by omega) ?_
  show xe fm 243 (_, _, _, (_, 106, _, _)) _
  refine xe_mpf xt_g243 rfl (q := 541) rfl (xf_13_137 fm) (by decide) (by omega) rfl (Nat.le_of_ble_eq_true rfl) ⟨rfl, rfl⟩ (Or.inr ⟨by decide, rfl⟩) ?_
  refine xe_s (f := (542, _, _, _)) xt_g243 rfl rfl rfl rfl rfl ?_
  refine xe_sipush xt_g243 rfl (q := 545) rfl (by decide) (by decide) ?_
  refine xe_mnw (t := 0) (ty := .int) xt_g243 rfl (q := 547) rfl rfl rfl rfl rfl (by omega) (by decide) (by omega) ?_
  show xe fm 243 (_, _, _, (_, 107, _, _)) _
  refine xe_mpf xt_g243 rfl (q := 550) rfl (xf_13_140 fm) (by decide) (by omega) rfl (Nat.le_of_ble_eq_true rfl) ⟨rfl, rfl⟩ (Or.inr ⟨by decide, rfl⟩) ?_
  refine xe_s (f := (551, _, _, _)) xt_g243 rfl rfl rfl rfl rfl ?_
  refine xe_s (f := (552, _, _, _)) xt_g243 rfl rfl rfl rfl rfl ?_
  refine xe_s (f := (553, _, xi 1 :: _, _)) xt_g243 rfl rfl rfl rfl rfl ?_
  have e1 : q < 1 → qz q = 1 := fun e => if_pos e
  have e2 : ¬ q < 1 → 40 < q → qz q = 40 := fun e e' => (if_neg e).trans (if_pos e')
  have e3 : ¬ q < 1 → ¬ 40 < q → qz q = q := fun e e' => (if_neg e).trans (if_neg e')
  refine xe_ic_ge xt_g243 rfl (t := 560) rfl (q := 556) rfl (by first | omega | exact xb_r _) (by first | omega | exact xb_r _) (fun b553 => ?_) (fun b553 => ?_)
  · try simp only [xb_0, xb_1, ne_eq, Decidable.not_not, Bool.not_eq_false, Bool.not_eq_true, decide_eq_true_eq, decide_eq_false_iff_not] at b553
    refine xe_s (f := (561, _, _, _)) xt_g243 rfl rfl rfl rfl rfl ?_
    refine xe_bipush xt_g243 rfl (q := 563) rfl (by decide) (by decide) ?_
    refine xe_ic_le xt_g243 rfl (t := 571) rfl (q := 566) rfl (by first | omega | exact xb_r _) (by first | omega | exact xb_r _) (fun b563 => ?_) (fun b563 => ?_)
    · try simp only [xb_0, xb_1, ne_eq, Decidable.not_not, Bool.not_eq_false, Bool.not_eq_true, decide_eq_true_eq, decide_eq_false_iff_not] at b563
      refine xe_s (f := (572, _, _, _)) xt_g243 rfl rfl rfl rfl rfl ?_
      refine xe_mpf xt_g243 rfl (q := 575) rfl (xf_13_143 fm) (by decide) (by omega) rfl (Nat.le_of_ble_eq_true rfl) xi_int (Or.inr ⟨by decide, rfl⟩) ?_
      refine xe_ret xt_g243 rfl rfl ?_
      try dsimp only
      refine ⟨rfl, rfl, Nat.le_of_ble_eq_true rfl, ?_⟩
      rw [e3 (by omega) (by omega)]
      rfl
    · try simp only [xb_0, xb_1, ne_eq, Decidable.not_not, Bool.not_eq_false, Bool.not_eq_true, decide_eq_true_eq, decide_eq_false_iff_not] at b563
      refine xe_bipush xt_g243 rfl (q := 568) rfl (by decide) (by decide) ?_
      refine xe_s (f := (572, _, _, _)) xt_g243 rfl rfl rfl rfl rfl ?_
      refine xe_mpf xt_g243 rfl (q := 575) rfl (xf_13_143 fm) (by decide) (by omega) rfl (Nat.le_of_ble_eq_true rfl) xi_int (Or.inr ⟨by decide, rfl⟩) ?_
      refine xe_ret xt_g243 rfl rfl ?_
      try dsimp only
      refine ⟨rfl, rfl, Nat.le_of_ble_eq_true rfl, ?_⟩
      rw [e2 (by omega) (by omega)]
      rfl
  · try simp only [xb_0, xb_1, ne_eq, Decidable.not_not, Bool.not_eq_false, Bool.not_eq_true, decide_eq_true_eq, decide_eq_false_iff_not] at b553
    refine xe_s (f := (557, _, xi 1 :: _, _)) xt_g243 rfl rfl rfl rfl rfl ?_
    refine xe_s (f := (572, _, _, _)) xt_g243 rfl rfl rfl rfl rfl ?_
    refine xe_mpf xt_g243 rfl (q := 575) rfl (xf_13_143 fm) (by decide) (by omega) rfl (Nat.le_of_ble_eq_true rfl) xi_int (Or.inr ⟨by decide, rfl⟩) ?_
    refine xe_ret xt_g243 rfl rfl ?_
    try dsimp only
    refine ⟨rfl, rfl, Nat.le_of_ble_eq_true rfl, ?_⟩
    rw [e1 (by omega)]
    rfl
theorem gM_v {z : Int} : ∀ k, k < 65 → gM z k = xo_v 64 (m_s z) k := by
  intro k hk
  have c : k = 0 ∨ k = 1 ∨ k = 2 ∨ k = 3 ∨ k = 4 ∨ k = 5 ∨ k = 6 ∨ k = 7 ∨ k = 8 ∨ k = 9 ∨ k = 10 ∨ k = 11 ∨ k = 12 ∨ k = 13 ∨ k = 14 ∨ k = 15 ∨ k = 16 ∨ k = 17 ∨ k = 18 ∨ k = 19 ∨ k = 20 ∨ k = 21 ∨ k = 22 ∨ k = 23 ∨ k = 24 ∨ k = 25 ∨ k = 26 ∨ k = 27 ∨ k = 28 ∨ k = 29 ∨ k = 30 ∨ k = 31 ∨ k = 32 ∨ k = 33 ∨ k = 34 ∨ k = 35 ∨ k = 36 ∨ k = 37 ∨ k = 38 ∨ k = 39 ∨ k = 40 ∨ k = 41 ∨ k = 42 ∨ k = 43 ∨ k = 44 ∨ k = 45 ∨ k = 46 ∨ k = 47 ∨ k = 48 ∨ k = 49 ∨ k = 50 ∨ k = 51 ∨ k = 52 ∨ k = 53 ∨ k = 54 ∨ k = 55 ∨ k = 56 ∨ k = 57 ∨ k = 58 ∨ k = 59 ∨ k = 60 ∨ k = 61 ∨ k = 62 ∨ k = 63 ∨ k = 64 := by omega
  rcases c with g | g | g | g | g | g | g | g | g | g | g | g | g | g | g | g | g | g | g | g | g | g | g | g | g | g | g | g | g | g | g | g | g | g | g | g | g | g | g | g | g | g | g | g | g | g | g | g | g | g | g | g | g | g | g | g | g | g | g | g | g | g | g | g | g <;> (subst g; rfl)
set_option maxHeartbeats 4000000 in
theorem m_fin {z : Int} : mo (gM z) (aM h) h = xo 64 (m_s z) m_ar h := by
  funext i
  by_cases g1 : i = 64
  · rw [g1, mo_at, xo_at]
    unfold xo_fs
    rw [List.map_congr_left (fun k hk => gM_v k (List.mem_range.mp hk))]
  · by_cases g2 : i < 64
    · rw [xo_ou (by omega)]
      unfold mo
      rw [if_neg g1, if_neg (by omega)]
    · by_cases g3 : i ≤ 106
      · have c : i = 65 ∨ i = 66 ∨ i = 67 ∨ i = 68 ∨ i = 69 ∨ i = 70 ∨ i = 71 ∨ i = 72 ∨ i = 73 ∨ i = 74 ∨ i = 75 ∨ i = 76 ∨ i = 77 ∨ i = 78 ∨ i = 79 ∨ i = 80 ∨ i = 81 ∨ i = 82 ∨ i = 83 ∨ i = 84 ∨ i = 85 ∨ i = 86 ∨ i = 87 ∨ i = 88 ∨ i = 89 ∨ i = 90 ∨ i = 91 ∨ i = 92 ∨ i = 93 ∨ i = 94 ∨ i = 95 ∨ i = 96 ∨ i = 97 ∨ i = 98 ∨ i = 99 ∨ i = 100 ∨ i = 101 ∨ i = 102 ∨ i = 103 ∨ i = 104 ∨ i = 105 ∨ i = 106 := by omega
        rcases c with g | g | g | g | g | g | g | g | g | g | g | g | g | g | g | g | g | g | g | g | g | g | g | g | g | g | g | g | g | g | g | g | g | g | g | g | g | g | g | g | g | g <;> (subst g; rfl)
      · rw [xo_ou (by omega), mo_ar (by omega)]
        unfold aM
        repeat rw [va_up_n (by omega)]
/-- the state at the beginning -/
def mu_0 (q : Int) : mu_T := ([], [], q, 0, [], fun _ => false, -1, fun _ => none, fun _ => none, [], fun _ => 0, [], [])
theorem rf_0 {z : Int} (h1 : 1 ≤ z ∧ z ≤ 40) : rf (m_s z) m_ar (mu_0 z) := by
  refine ⟨⟨fun k => ?_, fun k i => ?_⟩, fun F i hF => ?_, rfl, ⟨rfl, Nat.zero_le _, fun i hi => absurd hi (Nat.not_lt_zero i), fun c hc => by have hc' : c ∈ ([] : List Int) := hc; cases hc'⟩, ⟨rfl, Nat.zero_le _, fun i hi => absurd hi (Nat.not_lt_zero i)⟩, ⟨rfl, h1.1, h1.2, rfl, Int.le_refl 0, show (0 : Int) ≤ 1000000000 from by decide⟩, ⟨⟨rfl, Nat.zero_le _, fun i hi => absurd hi (Nat.not_lt_zero i)⟩, Nat.zero_le _, fun c hc => by have hc' : c ∈ ([] : List ck_T) := hc; cases hc'⟩, ⟨fun t _ => rfl, rfl, show (-1 : Int) ≤ -1 from by decide, show (-1 : Int) < 4 from by decide⟩, fun f hf => ⟨?_, rfl⟩, fun r hr => ?_, ⟨rfl, Nat.zero_le _, fun i hi => absurd hi (Nat.not_lt_zero i)⟩, fun i _ => rfl, ⟨rfl, Nat.zero_le _, fun i => ?_, fun i hi => absurd hi (Nat.not_lt_zero i)⟩, ⟨rfl, Nat.zero_le _, fun i hi => absurd hi (Nat.not_lt_zero i)⟩⟩
  · by_cases g : k = 17
    · subst g
      show xr z
      omega
    · by_cases g2 : k = 41
      · subst g2
        show xr (-1)
        decide
      · have e : m_s z k = 0 := (xo_uN g).trans (xo_uN g2)
        rw [e]
        decide
  · unfold m_ar
    split
    · split <;> omega
    · split
      · split <;> omega
      · omega
  · simp only [List.mem_cons, List.not_mem_nil, or_false] at hF
    rcases hF with g | g | g | g | g | g | g | g <;> (subst g; exact Or.inl rfl)
  · show (if f < 16 then (-1 : Int) else 0) < 0
    rw [if_pos hf]
    decide
  · show (if r < 24 then (-1 : Int) else 0) < 0
    rw [if_pos hr]
    decide
  · show (0 : Int) ≤ 200
    decide
theorem mI_0 {q : Int} {dp : Nat → Nat} : mI (mu_0 q) dp := by
  refine ⟨fun f _ x e => ?_, fun r _ q' e => ?_, fun r r' q1 q2 _ _ e => ?_, fun f _ x e => ?_, fun i _ e => ?_, fun f g x y _ _ e => ?_, fun e => ?_⟩
  · have e' : (none : Option mf_T) = some x := e
    cases e'
  · have e' : (none : Option mq_T) = some q' := e
    cases e'
  · have e' : (none : Option mq_T) = some q1 := e
    cases e'
  · have e' : (none : Option mf_T) = some x := e
    cases e'
  · have e' : false = true := e
    cases e'
  · have e' : (none : Option mf_T) = some x := e
    cases e'
  · have e' : (0 : Int) ≤ -1 := e
    exact absurd e' (by decide)
end XC9b
