/-! the pure machine: frames with abstract references, a heap as a function of them -/
abbrev xm_L : Type := List (Nat × Value)
abbrev xm_H : Type := Nat → va_E
abbrev xm_M : Type := xm_H × Nat × Nat × Nat
abbrev xm_F : Type := Nat × xm_L × List Value × xm_M
/-- the tables: fields (class, place), classes to be made, arrays to be made, constants, statics, calls of Object's constructor, of arraycopy, of another class's cast; the classes, their fields' types, the array types -/
abbrev xm_T : Type := (String → Nat → Option (Nat × Nat)) × (String → Nat → Option Nat) × (String → Nat → Option Nat) × (String → Nat → Option Value) × (String → Nat → Option Value) × (String → Nat → Nat) × List vw_C × (Nat → Nat → FieldType) × List FieldType
def xm_fld (X : xm_T) : String → Nat → Option (Nat × Nat) := X.1
def xm_cls (X : xm_T) : String → Nat → Option Nat := X.2.1
def xm_arr (X : xm_T) : String → Nat → Option Nat := X.2.2.1
def xm_con (X : xm_T) : String → Nat → Option Value := X.2.2.2.1
def xm_sta (X : xm_T) : String → Nat → Option Value := X.2.2.2.2.1
def xm_spc (X : xm_T) : String → Nat → Nat := X.2.2.2.2.2.1
def xm_cl (X : xm_T) : List vw_C := X.2.2.2.2.2.2.1
def xm_ty (X : xm_T) : Nat → Nat → FieldType := X.2.2.2.2.2.2.2.1
def xm_at (X : xm_T) : List FieldType := X.2.2.2.2.2.2.2.2
def xm_get : xm_L → Nat → Option Value
  | [], _ => none
  | q :: r, i => if q.1 = i then some q.2 else xm_get r i
def xm_s1 (L : xm_L) (i : Nat) (v : Value) : xm_L := (i, v) :: L.filter (fun q => !(q.1 == i) && !(q.1 + 1 == i && q.2.category == 2))
def xm_s2 (L : xm_L) (i : Nat) (v : Value) : xm_L := (i, v) :: L.filter (fun q => !(q.1 == i) && (!(q.1 == i + 1) && !(q.1 + 1 == i && q.2.category == 2)))
def xm_j (pc : Nat) (off : Int) : Option Nat := if (pc : Int) + off < 0 then none else some ((pc : Int) + off).toNat
def xm_isI : Value → Bool
  | .int _ => true
  | _ => false
def xm_isL : Value → Bool
  | .long _ => true
  | _ => false
def xm_isA : Value → Bool
  | .ref _ => true
  | .null => true
  | _ => false
def xm_kn : Value → Bool
  | .int _ => true
  | .long _ => true
  | .ref _ => true
  | .null => true
  | _ => false
def xm_ld (ok : Value → Bool) (ln i pc : Nat) (L : xm_L) (S : List Value) (m : xm_M) : Option xm_F := match xm_get L i with
  | some v => if ok v = true then some (pc + ln, L, v :: S, m) else none
  | none => none
def xm_sto (ok : Value → Bool) (ln i nL pc : Nat) (L : xm_L) (S : List Value) (m : xm_M) : Option xm_F := match S with
  | v :: r => if ok v = true ∧ i < nL then some (pc + ln, xm_s1 L i v, r, m) else none
  | [] => none
def xm_stl (ln i nL pc : Nat) (L : xm_L) (S : List Value) (m : xm_M) : Option xm_F := match S with
  | .long x :: r => if i + 1 < nL then some (pc + ln, xm_s2 L i (.long x), r, m) else none
  | _ => none
def xm_ii (f : Int32 → Int32 → Int32) (pc : Nat) (L : xm_L) (S : List Value) (m : xm_M) : Option xm_F := match S with
  | .int y :: .int x :: r => some (pc + 1, L, .int (f x y) :: r, m)
  | _ => none
def xm_id (f : Int32 → Int32 → Int32) (pc : Nat) (L : xm_L) (S : List Value) (m : xm_M) : Option xm_F := match S with
  | .int y :: .int x :: r => if y = 0 then none else some (pc + 1, L, .int (f x y) :: r, m)
  | _ => none
def xm_ll (f : Int64 → Int64 → Int64) (pc : Nat) (L : xm_L) (S : List Value) (m : xm_M) : Option xm_F := match S with
  | .long y :: .long x :: r => some (pc + 1, L, .long (f x y) :: r, m)
  | _ => none
def xm_ldv (f : Int64 → Int64 → Int64) (pc : Nat) (L : xm_L) (S : List Value) (m : xm_M) : Option xm_F := match S with
  | .long y :: .long x :: r => if y = 0 then none else some (pc + 1, L, .long (f x y) :: r, m)
  | _ => none
def xm_lsh (f : Int64 → Int32 → Int64) (pc : Nat) (L : xm_L) (S : List Value) (m : xm_M) : Option xm_F := match S with
  | .int y :: .long x :: r => some (pc + 1, L, .long (f x y) :: r, m)
  | _ => none
def xm_c1 (f : Int32 → Int32) (pc : Nat) (L : xm_L) (S : List Value) (m : xm_M) : Option xm_F := match S with
  | .int x :: r => some (pc + 1, L, .int (f x) :: r, m)
  | _ => none
def xm_br (c : Bool) (off : Int) (pc : Nat) (L : xm_L) (r : List Value) (m : xm_M) : Option xm_F := match xm_j pc off with
  | some t => some ((if c = true then t else pc + 3), L, r, m)
  | none => none
def xm_b1 (c : Int32 → Bool) (off : Int) (pc : Nat) (L : xm_L) (S : List Value) (m : xm_M) : Option xm_F := match S with
  | .int x :: r => xm_br (c x) off pc L r m
  | _ => none
def xm_b2 (c : Int32 → Int32 → Bool) (off : Int) (pc : Nat) (L : xm_L) (S : List Value) (m : xm_M) : Option xm_F := match S with
  | .int y :: .int x :: r => xm_br (c x y) off pc L r m
  | _ => none
def xm_rf : Value → Option (Option Nat)
  | .ref a => some (some a)
  | .null => some none
  | _ => none
def xm_ba (c : Option Nat → Option Nat → Bool) (off : Int) (pc : Nat) (L : xm_L) (S : List Value) (m : xm_M) : Option xm_F := match S with
  | y :: x :: r => match xm_rf x, xm_rf y with
    | some a, some b => xm_br (c a b) off pc L r m
    | _, _ => none
  | _ => none
def xm_bn (c : Bool → Bool) (off : Int) (pc : Nat) (L : xm_L) (S : List Value) (m : xm_M) : Option xm_F := match S with
  | .null :: r => xm_br (c true) off pc L r m
  | .ref _ :: r => xm_br (c false) off pc L r m
  | _ => none
def xm_tag : FieldType → Option Nat
  | .int => some 0
  | .byte => some 1
  | .char => some 2
  | .boolean => some 3
  | .long => some 4
  | _ => none
def xm_zero : FieldType → (Nat → Int32) ⊕ (Nat → Int64) ⊕ (Nat → UInt32) ⊕ (Nat → UInt64) ⊕ (Nat → Option Nat)
  | .long => .inr (.inl (fun _ => 0))
  | _ => .inl (fun _ => 0)
def xm_out (i : Int32) (k : Nat) : Bool := decide (i < 0) || decide (k ≤ i.toNatClampNeg)
def xm_gf (X : xm_T) (own : String) (idx pc : Nat) (L : xm_L) (S : List Value) (m : xm_M) : Option xm_F := match S with
  | .ref a :: r => match xm_fld X own idx, m.1 a with
    | some (ci, k), .inr (cj, fs) => if ci = cj ∧ a < m.2.1 then match fs[k]? with
        | some v => if xm_kn v = true then some (pc + 3, L, v :: r, m) else none
        | none => none
      else none
    | _, _ => none
  | _ => none
def xm_pf (X : xm_T) (own : String) (ini : Bool) (n0 idx pc : Nat) (L : xm_L) (S : List Value) (m : xm_M) : Option xm_F := match S with
  | v :: .ref a :: r => match xm_fld X own idx, m.1 a with
    | some (ci, k), .inr (cj, fs) => match (xm_cl X)[ci]? with
      | some q => if ci = cj ∧ n0 ≤ a ∧ a < m.2.1 ∧ k < fs.length ∧ k < q.2.2 ∧ narrow (xm_ty X ci k) v = v ∧ fits (xm_ty X ci k) v = true ∧ ((q.2.1 k).2.2.2 = false ∨ (ini = true ∧ (q.2.1 k).1 = own)) then
          some (pc + 3, L, r, (va_up m.1 a (.inr (cj, fs.set k v)), m.2.1, m.2.2.1, m.2.2.2))
        else none
      | none => none
    | _, _ => none
  | _ => none
def xm_al (X : xm_T) (ok : FieldType → Bool) (pc : Nat) (L : xm_L) (S : List Value) (m : xm_M) : Option xm_F := match S with
  | .int i :: .ref a :: r => match m.1 a with
    | .inl (t, k, .inl f) => match (xm_at X)[t]? with
      | some ty => if ok ty = true ∧ a < m.2.1 ∧ xm_out i k = false then some (pc + 1, L, .int (f i.toNatClampNeg) :: r, m) else none
      | none => none
    | _ => none
  | _ => none
def xm_aq (X : xm_T) (pc : Nat) (L : xm_L) (S : List Value) (m : xm_M) : Option xm_F := match S with
  | .int i :: .ref a :: r => match m.1 a with
    | .inl (t, k, .inr (.inr (.inr (.inr f)))) => match (xm_at X)[t]? with
      | some (.object _) => if a < m.2.1 ∧ xm_out i k = false then some (pc + 1, L, va_rf (f i.toNatClampNeg) :: r, m) else none
      | _ => none
    | _ => none
  | _ => none
def xm_as (X : xm_T) (ok : FieldType → Bool) (n0 pc : Nat) (L : xm_L) (S : List Value) (m : xm_M) : Option xm_F := match S with
  | .int x :: .int i :: .ref a :: r => match m.1 a with
    | .inl (t, k, .inl f) => match (xm_at X)[t]? with
      | some ty => if ok ty = true ∧ n0 ≤ a ∧ a < m.2.1 ∧ xm_out i k = false then some (pc + 1, L, r, (va_up m.1 a (.inl (t, k, .inl (upd f i.toNatClampNeg (vp_nar ty x)))), m.2.1, m.2.2.1, m.2.2.2)) else none
      | none => none
    | _ => none
  | _ => none
def xm_asq (X : xm_T) (n0 pc : Nat) (L : xm_L) (S : List Value) (m : xm_M) : Option xm_F := match S with
  | v :: .int i :: .ref a :: r => match m.1 a with
    | .inl (t, k, .inr (.inr (.inr (.inr f)))) => match (xm_at X)[t]? with
      | some (.object C) => if n0 ≤ a ∧ a < m.2.1 ∧ xm_out i k = false then match v with
          | .null => some (pc + 1, L, r, (va_up m.1 a (.inl (t, k, .inr (.inr (.inr (.inr (va_up f i.toNatClampNeg none)))))), m.2.1, m.2.2.1, m.2.2.2))
          | .ref b => match m.1 b with
            | .inr (ci, _) => match (xm_cl X)[ci]? with
              | some q => if n0 ≤ b ∧ b < m.2.1 ∧ q.1 = C then some (pc + 1, L, r, (va_up m.1 a (.inl (t, k, .inr (.inr (.inr (.inr (va_up f i.toNatClampNeg (some b))))))), m.2.1, m.2.2.1, m.2.2.2)) else none
              | none => none
            | _ => none
          | _ => none
        else none
      | _ => none
    | _ => none
  | _ => none
def xm_alen (X : xm_T) (pc : Nat) (L : xm_L) (S : List Value) (m : xm_M) : Option xm_F := match S with
  | .ref a :: r => match m.1 a with
    | .inl (t, k, _) => if a < m.2.1 ∧ t < (xm_at X).length then some (pc + 1, L, .int (Int32.ofNat k) :: r, m) else none
    | _ => none
  | _ => none
def xm_new (X : xm_T) (own : String) (idx pc : Nat) (L : xm_L) (S : List Value) (m : xm_M) : Option xm_F := match xm_cls X own idx with
  | some ci => match (xm_cl X)[ci]? with
    | some q => some (pc + 3, L, .ref m.2.1 :: S, (va_up m.1 m.2.1 (.inr (ci, (List.range q.2.2).map (fun k => defaultValue (xm_ty X ci k)))), m.2.1 + 1, m.2.2.1 + 1, m.2.2.2 + q.2.2))
    | none => none
  | none => none
def xm_nwa (X : xm_T) (ty : FieldType) (pc : Nat) (L : xm_L) (S : List Value) (m : xm_M) : Option xm_F := match S with
  | .int k :: r => match xm_tag ty with
    | some t => if (xm_at X)[t]? = some ty ∧ ¬ k < 0 ∧ k.toNatClampNeg * componentBytes ty ≤ 536870912 then some (pc + 2, L, .ref m.2.1 :: r, (va_up m.1 m.2.1 (.inl (t, k.toNatClampNeg, xm_zero ty)), m.2.1 + 1, m.2.2.1 + 1, m.2.2.2 + k.toNatClampNeg)) else none
    | none => none
  | _ => none
def xm_nwq (X : xm_T) (own : String) (idx pc : Nat) (L : xm_L) (S : List Value) (m : xm_M) : Option xm_F := match S with
  | .int k :: r => match xm_arr X own idx with
    | some t => if ¬ k < 0 ∧ k.toNatClampNeg * 4 ≤ 536870912 then some (pc + 3, L, .ref m.2.1 :: r, (va_up m.1 m.2.1 (.inl (t, k.toNatClampNeg, .inr (.inr (.inr (.inr (fun _ => none)))))), m.2.1 + 1, m.2.2.1 + 1, m.2.2.2 + k.toNatClampNeg)) else none
    | none => none
  | _ => none
def xm_pus (ok : Value → Bool) (v : Option Value) (ln pc : Nat) (L : xm_L) (S : List Value) (m : xm_M) : Option xm_F := match v with
  | some v => if ok v = true then some (pc + ln, L, v :: S, m) else none
  | none => none
def xm_isR : Value → Bool
  | .int _ => true
  | .ref _ => true
  | _ => false
def xm_isP (t : FieldType) : Bool := match t with
  | .int => true
  | .byte => true
  | .boolean => true
  | .char => true
  | _ => false
/-- System.arraycopy of bytes, chars or ints -/
def xm_acp (X : xm_T) (n0 pc : Nat) (L : xm_L) (S : List Value) (m : xm_M) : Option xm_F := match S with
  | .int n :: .int dp :: .ref b :: .int sp :: .ref a :: r => match m.1 a, m.1 b with
    | .inl (t, k, .inl f), .inl (t', k', .inl g) => match (xm_at X)[t]? with
      | some ty => if xm_isP ty = true ∧ t = t' ∧ a < m.2.1 ∧ n0 ≤ b ∧ b < m.2.1 ∧ ¬ sp < 0 ∧ ¬ dp < 0 ∧ ¬ n < 0 ∧ sp.toNatClampNeg + n.toNatClampNeg ≤ k ∧ dp.toNatClampNeg + n.toNatClampNeg ≤ k' ∧ (r.map fun v => v.category).sum ≤ 8 then
          some (pc + 3, L, r, (va_up m.1 b (.inl (t', k', .inl (va_cpy f g sp.toNatClampNeg dp.toNatClampNeg n.toNatClampNeg))), m.2.1, m.2.2.1, m.2.2.2))
        else none
      | none => none
    | _, _ => none
  | _ => none
def xm_pop1 : List Value → Option (List Value)
  | .ref _ :: r => some r
  | _ => none
def xm_lal (X : xm_T) (pc : Nat) (L : xm_L) (S : List Value) (m : xm_M) : Option xm_F := match S with
  | .int i :: .ref a :: r => match m.1 a with
    | .inl (t, k, .inr (.inl f)) => if (xm_at X)[t]? = some .long ∧ a < m.2.1 ∧ xm_out i k = false then some (pc + 1, L, .long (f i.toNatClampNeg) :: r, m) else none
    | _ => none
  | _ => none
def xm_las (X : xm_T) (n0 pc : Nat) (L : xm_L) (S : List Value) (m : xm_M) : Option xm_F := match S with
  | .long x :: .int i :: .ref a :: r => match m.1 a with
    | .inl (t, k, .inr (.inl f)) => if (xm_at X)[t]? = some .long ∧ n0 ≤ a ∧ a < m.2.1 ∧ xm_out i k = false then some (pc + 1, L, r, (va_up m.1 a (.inl (t, k, .inr (.inl (vp_updL f i.toNatClampNeg x)))), m.2.1, m.2.2.1, m.2.2.2)) else none
    | _ => none
  | _ => none
/-- instanceof and checkcast of a class that is the object's own -/
def xm_ins (X : xm_T) (own : String) (idx pc : Nat) (L : xm_L) (S : List Value) (m : xm_M) : Option xm_F := match S with
  | .null :: r => some (pc + 3, L, .int 0 :: r, m)
  | .ref a :: r => match xm_cls X own idx, m.1 a with
    | some ci, .inr (cj, _) => if ci = cj ∧ a < m.2.1 then some (pc + 3, L, .int 1 :: r, m) else none
    | _, _ => none
  | _ => none
def xm_cas (X : xm_T) (own : String) (idx pc : Nat) (L : xm_L) (S : List Value) (m : xm_M) : Option xm_F := match S with
  | .null :: r => some (pc + 3, L, .null :: r, m)
  | .ref a :: r => match xm_cls X own idx, m.1 a with
    | some ci, .inr (cj, _) => if ci = cj ∧ a < m.2.1 then some (pc + 3, L, .ref a :: r, m) else none
    | _, _ => none
  | _ => none
/-- clone of an own array of bytes, and the cast behind it -/
def xm_cln (X : xm_T) (n0 pc : Nat) (L : xm_L) (S : List Value) (m : xm_M) : Option xm_F := match S with
  | .ref a :: r => match m.1 a with
    | .inl (t, k, .inl f) => if (xm_at X)[t]? = some .byte ∧ n0 ≤ a ∧ a < m.2.1 ∧ (r.map fun v => v.category).sum ≤ 8 then some (pc + 3, L, .ref m.2.1 :: r, (va_up m.1 m.2.1 (.inl (t, k, .inl f)), m.2.1 + 1, m.2.2.1 + 1, m.2.2.2 + k)) else none
    | _ => none
  | _ => none
def xm_csa (X : xm_T) (n0 pc : Nat) (L : xm_L) (S : List Value) (m : xm_M) : Option xm_F := match S with
  | .ref a :: r => match m.1 a with
    | .inl (t, _, .inl _) => if (xm_at X)[t]? = some .byte ∧ n0 ≤ a ∧ a < m.2.1 then some (pc + 3, L, .ref a :: r, m) else none
    | _ => none
  | _ => none
def xm_dup : List Value → Option (List Value)
  | v :: r => if v.category = 1 then some (v :: v :: r) else none
  | _ => none
def xm_popv : List Value → Option (List Value)
  | v :: r => if v.category = 1 then some r else none
  | _ => none
def xm_dx1 : List Value → Option (List Value)
  | v :: w :: r => if v.category = 1 ∧ w.category = 1 then some (v :: w :: v :: r) else none
  | _ => none
def xm_dx2 : List Value → Option (List Value)
  | v :: w :: z :: r => if v.category = 1 ∧ w.category = 1 ∧ z.category = 1 then some (v :: w :: z :: v :: r) else none
  | _ => none
def xm_d2 : List Value → Option (List Value)
  | v :: w :: r => if v.category = 2 then some (v :: v :: w :: r) else if w.category = 1 ∧ v.category = 1 then some (v :: w :: v :: w :: r) else none
  | [v] => if v.category = 2 then some [v, v] else none
  | _ => none
def xm_p2 : List Value → Option (List Value)
  | v :: w :: r => if v.category = 2 then some (w :: r) else if w.category = 1 ∧ v.category = 1 then some r else none
  | [v] => if v.category = 2 then some [] else none
  | _ => none
def xm_sk (S' : Option (List Value)) (pc : Nat) (L : xm_L) (m : xm_M) : Option xm_F := match S' with
  | some S => some (pc + 1, L, S, m)
  | none => none
def xm_inc (i : Nat) (k : Int) (nL pc : Nat) (L : xm_L) (S : List Value) (m : xm_M) : Option xm_F := match xm_get L i with
  | some (.int x) => if i < nL then some (pc + 3, xm_s1 L i (.int (x + Int32.ofInt k)), S, m) else none
  | _ => none
def xm_lsw (d : Int) (ps : Array (Int × Int)) (pc : Nat) (L : xm_L) (S : List Value) (m : xm_M) : Option xm_F := match S with
  | .int x :: r => if (ps.toList.zip (ps.toList.drop 1)).all (fun (a, next) => a.1 < next.1) = true then match xm_j pc (Op.lookupswitch.offset ps.toList d x.toInt) with
      | some t => some (t, L, r, m)
      | none => none
    else none
  | _ => none
def xm_tsw (d lo hi : Int) (os : Array Int) (pc : Nat) (L : xm_L) (S : List Value) (m : xm_M) : Option xm_F := match S with
  | .int x :: r => match (if x.toInt < lo ∨ hi < x.toInt then some d else os[(x.toInt - lo).toNat]?) with
    | some o => match xm_j pc o with
      | some t => some (t, L, r, m)
      | none => none
    | none => none
  | _ => none
def xm_li (pc : Nat) (L : xm_L) (S : List Value) (m : xm_M) : Option xm_F := match S with
  | .long x :: r => some (pc + 1, L, .int x.toInt32 :: r, m)
  | _ => none
def xm_il (pc : Nat) (L : xm_L) (S : List Value) (m : xm_M) : Option xm_F := match S with
  | .int x :: r => some (pc + 1, L, .long x.toInt64 :: r, m)
  | _ => none
def xm_lc (pc : Nat) (L : xm_L) (S : List Value) (m : xm_M) : Option xm_F := match S with
  | .long y :: .long x :: r => some (pc + 1, L, .int (lg_cmp x y) :: r, m)
  | _ => none
def xm_isB (t : FieldType) : Bool := match t with
  | .byte => true
  | .boolean => true
  | _ => false
def xm_isC (t : FieldType) : Bool := match t with
  | .char => true
  | _ => false
def xm_isN (t : FieldType) : Bool := match t with
  | .int => true
  | _ => false
/-- one instruction that is no call and no end -/
def xm_st (X : xm_T) (own : String) (ini : Bool) (nL n0 : Nat) (ins : Instr) (pc : Nat) (L : xm_L) (S : List Value) (m : xm_M) : Option xm_F := match ins with
  | .iconst k => some (pc + 1, L, .int (Int32.ofInt k) :: S, m)
  | .bipush k => some (pc + 2, L, .int (Int8.ofInt k).toInt32 :: S, m)
  | .sipush k => some (pc + 3, L, .int (Int16.ofInt k).toInt32 :: S, m)
  | .lconst k => some (pc + 1, L, .long (Int64.ofNat (k : Nat)) :: S, m)
  | .aconst_null => some (pc + 1, L, .null :: S, m)
  | .iload i => xm_ld xm_isI 2 i pc L S m
  | .iload_n i => xm_ld xm_isI 1 i pc L S m
  | .lload i => xm_ld xm_isL 2 i pc L S m
  | .lload_n i => xm_ld xm_isL 1 i pc L S m
  | .aload i => xm_ld xm_isA 2 i pc L S m
  | .aload_n i => xm_ld xm_isA 1 i pc L S m
  | .istore i => xm_sto xm_isI 2 i nL pc L S m
  | .istore_n i => xm_sto xm_isI 1 i nL pc L S m
  | .astore i => xm_sto xm_isA 2 i nL pc L S m
  | .astore_n i => xm_sto xm_isA 1 i nL pc L S m
  | .lstore i => xm_stl 2 i nL pc L S m
  | .lstore_n i => xm_stl 1 i nL pc L S m
  | .iinc i k => xm_inc i k nL pc L S m
  | .iadd => xm_ii (fun x y => x + y) pc L S m
  | .isub => xm_ii (fun x y => x - y) pc L S m
  | .imul => xm_ii (fun x y => x * y) pc L S m
  | .iand => xm_ii (fun x y => x &&& y) pc L S m
  | .ior => xm_ii (fun x y => x ||| y) pc L S m
  | .ixor => xm_ii (fun x y => x ^^^ y) pc L S m
  | .idiv => xm_id (fun x y => x / y) pc L S m
  | .irem => xm_id (fun x y => x - x / y * y) pc L S m
  | .ishl => xm_ii (fun x y => x <<< (y &&& 31)) pc L S m
  | .ishr => xm_ii (fun x y => x >>> (y &&& 31)) pc L S m
  | .iushr => xm_ii (fun x y => (x.toUInt32 >>> (y.toUInt32 &&& Int32.toUInt32 31)).toInt32) pc L S m
  | .ineg => xm_c1 (fun x => -x) pc L S m
  | .i2b => xm_c1 (fun x => x.toInt8.toInt32) pc L S m
  | .i2s => xm_c1 (fun x => x.toInt16.toInt32) pc L S m
  | .i2c => xm_c1 (fun x => (x.toUInt32 % 65536).toInt32) pc L S m
  | .i2l => xm_il pc L S m
  | .l2i => xm_li pc L S m
  | .ladd => xm_ll (fun x y => x + y) pc L S m
  | .lsub => xm_ll (fun x y => x - y) pc L S m
  | .lmul => xm_ll (fun x y => x * y) pc L S m
  | .land => xm_ll (fun x y => x &&& y) pc L S m
  | .lor => xm_ll (fun x y => x ||| y) pc L S m
  | .ldiv => xm_ldv (fun x y => x / y) pc L S m
  | .lrem => xm_ldv (fun x y => x - x / y * y) pc L S m
  | .lneg => (match S with
    | .long x :: r => some (pc + 1, L, .long (-x) :: r, m)
    | _ => none)
  | .lshl => xm_lsh (fun x y => x <<< (y.toInt64 &&& 63)) pc L S m
  | .lushr => xm_lsh (fun x y => (x.toUInt64 >>> (y.toInt64.toUInt64 &&& Int64.toUInt64 63)).toInt64) pc L S m
  | .lcmp => xm_lc pc L S m
  | .dup => xm_sk (xm_dup S) pc L m
  | .pop => xm_sk (xm_popv S) pc L m
  | .dup_x1 => xm_sk (xm_dx1 S) pc L m
  | .dup_x2 => xm_sk (xm_dx2 S) pc L m
  | .dup2 => xm_sk (xm_d2 S) pc L m
  | .pop2 => xm_sk (xm_p2 S) pc L m
  | .ifCond .eq off => xm_b1 (fun x => decide (x = 0)) off pc L S m
  | .ifCond .ne off => xm_b1 (fun x => !decide (x = 0)) off pc L S m
  | .ifCond .lt off => xm_b1 (fun x => decide (x < 0)) off pc L S m
  | .ifCond .ge off => xm_b1 (fun x => decide (0 ≤ x)) off pc L S m
  | .ifCond .gt off => xm_b1 (fun x => decide (0 < x)) off pc L S m
  | .ifCond .le off => xm_b1 (fun x => decide (x ≤ 0)) off pc L S m
  | .if_icmp .eq off => xm_b2 (fun x y => decide (x = y)) off pc L S m
  | .if_icmp .ne off => xm_b2 (fun x y => !decide (x = y)) off pc L S m
  | .if_icmp .lt off => xm_b2 (fun x y => decide (x < y)) off pc L S m
  | .if_icmp .ge off => xm_b2 (fun x y => decide (y ≤ x)) off pc L S m
  | .if_icmp .gt off => xm_b2 (fun x y => decide (y < x)) off pc L S m
  | .if_icmp .le off => xm_b2 (fun x y => decide (x ≤ y)) off pc L S m
  | .if_acmp .eq off => xm_ba (fun a b => decide (a = b)) off pc L S m
  | .if_acmp .ne off => xm_ba (fun a b => !decide (a = b)) off pc L S m
  | .ifnull off => xm_bn (fun z => z) off pc L S m
  | .ifnonnull off => xm_bn (fun z => !z) off pc L S m
  | .goto off => (match xm_j pc off with
    | some t => some (t, L, S, m)
    | none => none)
  | .lookupswitch d ps => xm_lsw d ps pc L S m
  | .tableswitch d lo hi os => xm_tsw d lo hi os pc L S m
  | .getfield idx => xm_gf X own idx pc L S m
  | .putfield idx => xm_pf X own ini n0 idx pc L S m
  | .getstatic idx => xm_pus xm_kn (xm_sta X own idx) 3 pc L S m
  | .ldc idx => xm_pus xm_isR (xm_con X own idx) 2 pc L S m
  | .ldc_w idx => xm_pus xm_isR (xm_con X own idx) 3 pc L S m
  | .ldc2_w idx => xm_pus xm_isL (xm_con X own idx) 3 pc L S m
  | .iaload => xm_al X xm_isN pc L S m
  | .baload => xm_al X xm_isB pc L S m
  | .caload => xm_al X xm_isC pc L S m
  | .aaload => xm_aq X pc L S m
  | .laload => xm_lal X pc L S m
  | .lastore => xm_las X n0 pc L S m
  | .instanceof idx => xm_ins X own idx pc L S m
  | .checkcast idx => if xm_spc X own idx = 4 then xm_csa X n0 pc L S m else xm_cas X own idx pc L S m
  | .invokevirtual idx => if xm_spc X own idx = 3 then xm_cln X n0 pc L S m else none
  | .iastore => xm_as X xm_isN n0 pc L S m
  | .bastore => xm_as X xm_isB n0 pc L S m
  | .castore => xm_as X xm_isC n0 pc L S m
  | .aastore => xm_asq X n0 pc L S m
  | .arraylength => xm_alen X pc L S m
  | .new idx => xm_new X own idx pc L S m
  | .newarray a => xm_nwa X (newarray.typeOf a) pc L S m
  | .anewarray idx => xm_nwq X own idx pc L S m
  | .invokespecial idx => (match S with
    | .ref _ :: r => if xm_spc X own idx = 1 ∧ (r.map fun v => v.category).sum ≤ 8 then some (pc + 3, L, r, m) else none
    | _ => none)
  | .invokestatic idx => if xm_spc X own idx = 2 then xm_acp X n0 pc L S m else none
  | _ => none
