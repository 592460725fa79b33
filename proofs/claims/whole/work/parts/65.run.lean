/-! the pure machine runs: methods by number, calls, ends, exceptions -/
abbrev xm_Y : Type := MethodName × ByteArray × Nat × Option FieldType × List (Nat × Nat × Nat × Nat) × (Nat → Option (Instr × Nat))
abbrev xm_K : Type := String → Nat → Option (Nat × Nat × Nat × String)
/-- tables; methods; call sites (kind, method, arguments, receiver's class); catch types (class); exceptions to be made (class, constructor, slots) -/
abbrev xm_P : Type := xm_T × (Nat → Option xm_Y) × xm_K × (String → Nat → Option Nat) × (String → Nat → Option (Nat × Nat × Nat))
def xm_X (P : xm_P) : xm_T := P.1
def xm_mt (P : xm_P) : Nat → Option xm_Y := P.2.1
def xm_ci (P : xm_P) : xm_K := P.2.2.1
def xm_ct (P : xm_P) : String → Nat → Option Nat := P.2.2.2.1
def xm_ex (P : xm_P) : String → Nat → Option (Nat × Nat × Nat) := P.2.2.2.2
abbrev xm_R : Type := (Option Value ⊕ Nat) × xm_M
def xm_rcv (X : xm_T) (C : String) (m : xm_M) : Value → Bool
  | .ref b => match m.1 b with
    | .inr (ci, _) => match (xm_cl X)[ci]? with
      | some q => decide (b < m.2.1 ∧ q.1 = C)
      | none => false
    | _ => false
  | _ => false
def xm_call (P : xm_P) (own : String) (ins : Instr) (S : List Value) (m : xm_M) : Option (Nat × List Value × List Value) := match ins with
  | .invokestatic idx => match xm_ci P own idx with
    | some (k, y, n, _) => if k = 0 ∧ n ≤ S.length then some (y, (S.take n).reverse, S.drop n) else none
    | none => none
  | .invokevirtual idx => match xm_ci P own idx with
    | some (k, y, n, C) => match S.drop n with
      | b :: r => if (k = 1 ∨ k = 2) ∧ xm_rcv (xm_X P) C m b = true then some (y, b :: (S.take n).reverse, r) else none
      | [] => none
    | none => none
  | .invokespecial idx => match xm_ci P own idx with
    | some (k, y, n, C) => match S.drop n with
      | b :: r => if (k = 3 ∧ xm_isA b = true ∧ b ≠ .null) ∨ (k = 4 ∧ xm_rcv (xm_X P) C m b = true) then some (y, b :: (S.take n).reverse, r) else none
      | [] => none
    | none => none
  | _ => none
def xm_hnd (P : xm_P) (Y : xm_Y) (pc x : Nat) (m : xm_M) : Option (Option Nat) := match Y.2.2.2.2.1 with
  | [] => some none
  | [(a, b, h, ct)] => if a ≤ pc ∧ pc < b then match xm_ct P Y.1.cls ct, m.1 x with
      | some ci, .inr (cj, _) => if ci = cj ∧ x < m.2.1 ∧ ct ≠ 0 then some (some h) else none
      | _, _ => none
    else some none
  | _ => none
def xm_end (Y : xm_Y) (ins : Instr) (S : List Value) : Option (Option Value) := match ins with
  | .return_ => if Y.2.2.2.1 = none ∧ S = [] then some none else none
  | .ireturn => match S with
    | [.int v] => match Y.2.2.2.1 with
      | some ty => if narrow ty (.int v) = .int v then some (some (.int v)) else none
      | none => none
    | _ => none
  | .lreturn => match S with
    | [.long v] => if Y.2.2.2.1 = some .long then some (some (.long v)) else none
    | _ => none
  | .areturn => match S with
    | [v] => match Y.2.2.2.1 with
      | some (.object _) => if xm_isA v = true then some (some v) else none
      | some (.array _) => if xm_isA v = true then some (some v) else none
      | _ => none
    | _ => none
  | _ => none
/-- a new exception of the one kind that is thrown, made with a constant text and thrown at once -/
def xm_thr (P : xm_P) (Y : xm_Y) (ins : Instr) (pc : Nat) (S : List Value) (m : xm_M) : Option xm_R := match ins with
  | .new idx => match xm_ex P Y.1.cls idx, Y.2.2.2.2.2 (pc + 4) with
    | some (cx, ic, ns), some (.ldc_w k, 3) => match xm_con (xm_X P) Y.1.cls k with
      | some (.ref _) => if S = [] ∧ Y.2.2.2.2.1 = [] ∧ Y.2.2.2.2.2 (pc + 3) = some (.dup, 1) ∧ Y.2.2.2.2.2 (pc + 7) = some (.invokespecial ic, 3) ∧ Y.2.2.2.2.2 (pc + 10) = some (.athrow, 1) then
          some (.inr m.2.1, (va_up m.1 m.2.1 (.inr (cx, [])), m.2.1 + 1, m.2.2.1 + 1, m.2.2.2 + ns))
        else none
      | _ => none
    | _, _ => none
  | _ => none
def xm_add (m m' : xm_M) : xm_M := (m'.1, m'.2.1, m.2.2.1 + m'.2.2.1, m.2.2.2 + m'.2.2.2)
def xm_run (P : xm_P) (n0 : Nat) : Nat → Nat → Nat → xm_F → Option xm_R
  | 0, _, _, _ => none
  | k + 1, d, y, f => match xm_mt P y with
    | none => none
    | some Y => match Y.2.2.2.2.2 f.1 with
      | none => none
      | some (ins, ln) => match xm_end Y ins f.2.2.1 with
        | some v => some (.inl v, f.2.2.2)
        | none => match xm_thr P Y ins f.1 f.2.2.1 f.2.2.2 with
          | some r => some r
          | none => match xm_call P Y.1.cls ins f.2.2.1 f.2.2.2 with
            | some (y', As, r) => match d, xm_mt P y' with
              | d' + 1, some Y' => if (lg_sl As).length ≤ Y'.2.2.1 ∧ Y'.2.2.1 ≤ 41 ∧ (r.map fun v => v.category).sum ≤ 8 then
                  match xm_run P n0 k d' y' (0, lv_args 0 As, [], (f.2.2.2.1, f.2.2.2.2.1, 0, 0)) with
                  | some (.inl v, m') => xm_run P n0 k (d' + 1) y (f.1 + 3, f.2.1, v.toList ++ r, xm_add f.2.2.2 m')
                  | some (.inr x, m') => match xm_hnd P Y f.1 x m' with
                    | some (some h) => xm_run P n0 k (d' + 1) y (h, f.2.1, [.ref x], xm_add f.2.2.2 m')
                    | some none => some (.inr x, xm_add f.2.2.2 m')
                    | none => none
                  | none => none
                else none
              | _, _ => none
            | none => match xm_st (xm_X P) Y.1.cls (decide (Y.1.name = "<init>")) Y.2.2.1 n0 ins f.1 f.2.1 f.2.2.1 f.2.2.2 with
              | some f' => xm_run P n0 k d y f'
              | none => none
set_option maxHeartbeats 4000000 in
theorem xm_st_up {X : xm_T} {own : String} {ini : Bool} {nL n0 pc : Nat} {ins : Instr} {L : xm_L} {S : List Value} {m : xm_M} {f : xm_F} (h : xm_st X own ini nL n0 ins pc L S m = some f) : m.2.2.1 ≤ f.2.2.2.2.2.1 ∧ m.2.2.2 ≤ f.2.2.2.2.2.2 := by
  unfold xm_st at h
  split at h <;> (try simp only [xm_ld, xm_sto, xm_stl, xm_inc, xm_ii, xm_id, xm_c1, xm_il, xm_li, xm_ll, xm_ldv, xm_lsh, xm_lc, xm_sk, xm_b1, xm_b2, xm_ba, xm_bn, xm_br, xm_lsw, xm_tsw, xm_gf, xm_pf, xm_pus, xm_al, xm_aq, xm_lal, xm_las, xm_ins, xm_cas, xm_csa, xm_cln, xm_as, xm_asq, xm_alen, xm_new, xm_nwa, xm_nwq, xm_acp] at h) <;> (repeat' (split at h)) <;>
    first
    | (cases h; done)
    | (cases h; exact ⟨Nat.le_refl _, Nat.le_refl _⟩)
    | (cases h; exact ⟨Nat.le_succ _, Nat.le_add_right _ _⟩)
theorem xm_run_up {P : xm_P} {n0 : Nat} : ∀ (k d y : Nat) (f : xm_F) (r : xm_R), xm_run P n0 k d y f = some r → f.2.2.2.2.2.1 ≤ r.2.2.2.1 ∧ f.2.2.2.2.2.2 ≤ r.2.2.2.2 := by
  intro k
  induction k with
  | zero => intro d y f r h; cases h
  | succ k ih =>
    intro d y f r h
    unfold xm_run at h
    split at h
    · cases h
    · rename_i Y hY
      split at h
      · cases h
      · rename_i ins ln hi
        split at h
        · cases h
          exact ⟨Nat.le_refl _, Nat.le_refl _⟩
        · split at h
          · rename_i r' hr
            cases h
            unfold xm_thr at hr
            split at hr
            · split at hr
              · split at hr
                · split at hr
                  · cases hr
                    exact ⟨Nat.le_succ _, Nat.le_add_right _ _⟩
                  · cases hr
                · cases hr
              · cases hr
            · cases hr
          · split at h
            · split at h
              · split at h
                · split at h
                  · obtain ⟨h1, h2⟩ := ih _ _ _ _ h
                    exact ⟨Nat.le_trans (Nat.le_add_right _ _) h1, Nat.le_trans (Nat.le_add_right _ _) h2⟩
                  · split at h
                    · obtain ⟨h1, h2⟩ := ih _ _ _ _ h
                      exact ⟨Nat.le_trans (Nat.le_add_right _ _) h1, Nat.le_trans (Nat.le_add_right _ _) h2⟩
                    · cases h
                      exact ⟨Nat.le_add_right _ _, Nat.le_add_right _ _⟩
                    · cases h
                  · cases h
                · cases h
              · cases h
            · split at h
              · rename_i f' hf
                obtain ⟨h1, h2⟩ := ih _ _ _ _ h
                obtain ⟨h3, h4⟩ := xm_st_up hf
                exact ⟨Nat.le_trans h3 h1, Nat.le_trans h4 h2⟩
              · cases h
