/-! what is there at the start: the script, the texts, the tables of digits -/
def xs_D1 : List Int32 := [48, 49, 50, 51, 52, 53, 54, 55, 56, 57, 48, 49, 50, 51, 52, 53, 54, 55, 56, 57, 48, 49, 50, 51, 52, 53, 54, 55, 56, 57, 48, 49, 50, 51, 52, 53, 54, 55, 56, 57, 48, 49, 50, 51, 52, 53, 54, 55, 56, 57, 48, 49, 50, 51, 52, 53, 54, 55, 56, 57, 48, 49, 50, 51, 52, 53, 54, 55, 56, 57, 48, 49, 50, 51, 52, 53, 54, 55, 56, 57, 48, 49, 50, 51, 52, 53, 54, 55, 56, 57, 48, 49, 50, 51, 52, 53, 54, 55, 56, 57]
def xs_D2 : List Int32 := [48, 48, 48, 48, 48, 48, 48, 48, 48, 48, 49, 49, 49, 49, 49, 49, 49, 49, 49, 49, 50, 50, 50, 50, 50, 50, 50, 50, 50, 50, 51, 51, 51, 51, 51, 51, 51, 51, 51, 51, 52, 52, 52, 52, 52, 52, 52, 52, 52, 52, 53, 53, 53, 53, 53, 53, 53, 53, 53, 53, 54, 54, 54, 54, 54, 54, 54, 54, 54, 54, 55, 55, 55, 55, 55, 55, 55, 55, 55, 55, 56, 56, 56, 56, 56, 56, 56, 56, 56, 56, 57, 57, 57, 57, 57, 57, 57, 57, 57, 57]
/-- the texts, by their bytes -/
def xs_B : List (List Int32) := [[], [83, 116, 114, 105, 110, 103, 32, 105, 110, 100, 101, 120, 32, 111, 117, 116, 32, 111, 102, 32, 114, 97, 110, 103, 101, 58, 32], [65, 114, 114, 97, 121, 32, 105, 110, 100, 101, 120, 32, 111, 117, 116, 32, 111, 102, 32, 114, 97, 110, 103, 101, 58, 32], [104, 116, 116, 112, 115, 58, 47, 47], [104, 116, 116, 112, 58, 47, 47], [47], [47, 47], [46, 46], [46], [59, 32], [110, 111, 32, 115, 117, 99, 104, 32, 116, 97, 98], [110, 111, 32, 115, 117, 99, 104, 32, 102, 114, 97, 109, 101], [110, 111, 32, 115, 117, 99, 104, 32, 114, 101, 113, 117, 101, 115, 116], [100, 111, 109, 97, 105, 110], [112, 97, 116, 104], [109, 97, 120, 45, 97, 103, 101], [45], [115, 101, 99, 117, 114, 101], [104, 116, 116, 112, 111, 110, 108, 121], [42]]
def xs_X : List String := ["", "String index out of range: ", "Array index out of range: ", "https://", "http://", "/", "//", "..", ".", "; ", "no such tab", "no such frame", "no such request", "domain", "path", "max-age", "-", "secure", "httponly", "*"]
def xs_R : List (String × Nat) := [("TabKernel$AddressReader", 18), ("java/lang/StringIndexOutOfBoundsException", 13), ("java/lang/ArrayIndexOutOfBoundsException", 13), ("TabKernel$AddressReader", 52), ("TabKernel$AddressReader", 62), ("TabKernel$AddressReader", 101), ("TabKernel$AddressReader", 109), ("TabKernel$AddressReader", 161), ("TabKernel$AddressReader", 166), ("TabKernel$Jar", 163), ("TabKernel", 317), ("TabKernel", 322), ("TabKernel", 324), ("TabKernel$CookieText", 63), ("TabKernel$CookieText", 72), ("TabKernel$CookieText", 79), ("TabKernel$CookieText", 100), ("TabKernel$CookieText", 84), ("TabKernel$CookieText", 89), ("TabKernel", 232)]
/-- every constant text of the Statement: class, place, bytes, those ahead of it that are the same object -/
def xs_K : List (String × Nat × List Int32 × List (String × Nat)) := [("TabKernel$AddressReader", 18, [], []),
  ("TabKernel", 58, [], [("TabKernel$AddressReader", 18)]),
  ("java/lang/StringIndexOutOfBoundsException", 13, [83, 116, 114, 105, 110, 103, 32, 105, 110, 100, 101, 120, 32, 111, 117, 116, 32, 111, 102, 32, 114, 97, 110, 103, 101, 58, 32], []),
  ("java/lang/ArrayIndexOutOfBoundsException", 13, [65, 114, 114, 97, 121, 32, 105, 110, 100, 101, 120, 32, 111, 117, 116, 32, 111, 102, 32, 114, 97, 110, 103, 101, 58, 32], []),
  ("java/lang/String", 7, [], [("TabKernel$AddressReader", 18), ("TabKernel", 58)]),
  ("TabKernel$AddressReader", 52, [104, 116, 116, 112, 115, 58, 47, 47], []),
  ("java/lang/StringLatin1", 151, [], [("TabKernel$AddressReader", 18), ("TabKernel", 58), ("java/lang/String", 7)]),
  ("java/lang/StringUTF16", 295, [], [("TabKernel$AddressReader", 18), ("TabKernel", 58), ("java/lang/String", 7), ("java/lang/StringLatin1", 151)]),
  ("TabKernel$AddressReader", 62, [104, 116, 116, 112, 58, 47, 47], []),
  ("TabKernel$AddressReader", 101, [47], []),
  ("TabKernel$AddressReader", 109, [47, 47], []),
  ("TabKernel$AddressReader", 161, [46, 46], []),
  ("TabKernel$AddressReader", 166, [46], []),
  ("TabKernel$Cookie", 73, [47], [("TabKernel$AddressReader", 101)]),
  ("TabKernel$Jar", 163, [59, 32], []),
  ("TabKernel", 317, [110, 111, 32, 115, 117, 99, 104, 32, 116, 97, 98], []),
  ("TabKernel", 322, [110, 111, 32, 115, 117, 99, 104, 32, 102, 114, 97, 109, 101], []),
  ("TabKernel", 324, [110, 111, 32, 115, 117, 99, 104, 32, 114, 101, 113, 117, 101, 115, 116], []),
  ("TabKernel$CookieText", 9, [], [("TabKernel$AddressReader", 18), ("TabKernel", 58), ("java/lang/String", 7), ("java/lang/StringLatin1", 151), ("java/lang/StringUTF16", 295)]),
  ("TabKernel$CookieText", 63, [100, 111, 109, 97, 105, 110], []),
  ("TabKernel$CookieText", 94, [46], [("TabKernel$AddressReader", 166)]),
  ("TabKernel$CookieText", 72, [112, 97, 116, 104], []),
  ("TabKernel$CookieText", 73, [47], [("TabKernel$AddressReader", 101), ("TabKernel$Cookie", 73)]),
  ("TabKernel$CookieText", 79, [109, 97, 120, 45, 97, 103, 101], []),
  ("TabKernel$CookieText", 100, [45], []),
  ("TabKernel$CookieText", 84, [115, 101, 99, 117, 114, 101], []),
  ("TabKernel$CookieText", 89, [104, 116, 116, 112, 111, 110, 108, 121], []),
  ("TabKernel$Jar", 131, [47], [("TabKernel$AddressReader", 101), ("TabKernel$Cookie", 73), ("TabKernel$CookieText", 73)]),
  ("TabKernel", 232, [42], []),
  ("TabKernel", 347, [47], [("TabKernel$AddressReader", 101), ("TabKernel$Cookie", 73), ("TabKernel$CookieText", 73), ("TabKernel$Jar", 131)])]
def xs_val (own : String) (idx : Nat) : Term := .field (.string own idx) "java/lang/String" "value" "[B"
def xs_cond (c : String × Nat × List Int32 × List (String × Nat)) : List Cond := [Cond.exactly (.string c.1 c.2.1) "java/lang/String", Cond.eq (.field (.string c.1 c.2.1) "java/lang/String" "coder" "B") (.int 0), Cond.arrayOf (xs_val c.1 c.2.1) .byte, Cond.eq (.length (xs_val c.1 c.2.1)) (.int (Int32.ofNat c.2.2.1.length))] ++ ((List.range c.2.2.1.length).map (fun j => Cond.eq (.elem (xs_val c.1 c.2.1) (.int (Int32.ofNat j))) (.int (c.2.2.1.getD j 0))) ++ c.2.2.2.map (fun q => Cond.eq (.string q.1 q.2) (.string c.1 c.2.1)))
def xs_tab (t : Term) (ds : List Int32) : List Cond := [Cond.isRef t, Cond.arrayOf t .byte, Cond.eq (.length t) (.int (Int32.ofNat ds.length))] ++ (List.range ds.length).map (fun j => Cond.eq (.elem t (.int (Int32.ofNat j))) (.int (ds.getD j 0)))
def xs_L : List Cond := flatC (Jvm.Cond.and given_1 narrow_1)
theorem xs_f0 : xs_L.drop 250 = xs_K.flatMap xs_cond := by decide +kernel
theorem xs_f1 : (xs_L.drop 9).take 103 = xs_tab (.static "java/lang/Integer" "DigitOnes" "[B") xs_D1 := by decide +kernel
theorem xs_f2 : (xs_L.drop 112).take 103 = xs_tab (.static "java/lang/Integer" "DigitTens" "[B") xs_D2 := by decide +kernel
theorem xs_gc : Cond.eq (.static "java/lang/String" "COMPACT_STRINGS" "Z") (.int 1) ∈ xs_L := List.mem_of_getElem? (i := 4) (by decide +kernel)
theorem xs_gf : Cond.isRef (.static "jdk/internal/util/Preconditions" "SIOOBE_FORMATTER" "Ljava/util/function/BiFunction;") ∈ xs_L := List.mem_of_getElem? (i := 5) (by decide +kernel)
theorem xs_ga : Cond.eq (.static "java/lang/StringUTF16" "$assertionsDisabled" "Z") (.int 1) ∈ xs_L := List.mem_of_getElem? (i := 6) (by decide +kernel)
theorem xs_gh : Cond.eq (.static "java/lang/StringUTF16" "HI_BYTE_SHIFT" "I") (.int 0) ∈ xs_L := List.mem_of_getElem? (i := 7) (by decide +kernel)
theorem xs_gl : Cond.eq (.static "java/lang/StringUTF16" "LO_BYTE_SHIFT" "I") (.int 8) ∈ xs_L := List.mem_of_getElem? (i := 8) (by decide +kernel)
theorem xs_gu : Cond.isRef (.static "java/lang/Throwable" "UNASSIGNED_STACK" "[Ljava/lang/StackTraceElement;") ∈ xs_L := List.mem_of_getElem? (i := 215) (by decide +kernel)
theorem xs_gs : Cond.isRef (.static "java/lang/Throwable" "SUPPRESSED_SENTINEL" "Ljava/util/List;") ∈ xs_L := List.mem_of_getElem? (i := 216) (by decide +kernel)
theorem xs_inst : ∀ q ∈ xt_cl, ∃ n : Nat, Cond.instantiable q.1 n ∈ xt_tb := List.forall_mem_cons.mpr ⟨⟨12, xt_in_mem (i := 33) (by decide +kernel)⟩, List.forall_mem_cons.mpr ⟨⟨4, xt_in_mem (i := 41) (by decide +kernel)⟩, List.forall_mem_cons.mpr ⟨⟨8, xt_in_mem (i := 74) (by decide +kernel)⟩, List.forall_mem_cons.mpr ⟨⟨3, xt_in_mem (i := 108) (by decide +kernel)⟩, List.forall_mem_cons.mpr ⟨⟨6, xt_in_mem (i := 134) (by decide +kernel)⟩, List.forall_mem_cons.mpr ⟨⟨2, xt_in_mem (i := 146) (by decide +kernel)⟩, List.forall_mem_cons.mpr ⟨⟨4, xt_in_mem (i := 391) (by decide +kernel)⟩, List.forall_mem_cons.mpr ⟨⟨1, xt_in_mem (i := 628) (by decide +kernel)⟩, List.forall_mem_cons.mpr ⟨⟨6, xt_in_mem (i := 787) (by decide +kernel)⟩, List.forall_mem_cons.mpr ⟨⟨5, xt_in_mem (i := 839) (by decide +kernel)⟩, List.forall_mem_cons.mpr ⟨⟨10, xt_in_mem (i := 877) (by decide +kernel)⟩, List.forall_mem_cons.mpr ⟨⟨8, xt_in_mem (i := 944) (by decide +kernel)⟩, List.forall_mem_cons.mpr ⟨⟨4, xt_in_mem (i := 962) (by decide +kernel)⟩, List.forall_mem_cons.mpr ⟨⟨7, xt_in_mem (i := 1208) (by decide +kernel)⟩, List.forall_mem_cons.mpr ⟨⟨65, xt_in_mem (i := 1483) (by decide +kernel)⟩, List.forall_mem_cons.mpr ⟨⟨6, xt_in_mem (i := 1062) (by decide +kernel)⟩, fun _ h => absurd h List.not_mem_nil⟩⟩⟩⟩⟩⟩⟩⟩⟩⟩⟩⟩⟩⟩⟩⟩
theorem xs_arr : ∀ ty ∈ xt_at, (Cond.arrayClass ty ∈ xt_tb ∧ ∀ C : String, ty ≠ .object C) ∨ ∃ C : String, ty = .object C ∧ Cond.arrayOver (.object C) ∈ xt_tb := List.forall_mem_cons.mpr ⟨Or.inl ⟨xt_in_mem (i := 125) (by decide +kernel), fun _ h => by cases h⟩, List.forall_mem_cons.mpr ⟨Or.inl ⟨xt_in_mem (i := 72) (by decide +kernel), fun _ h => by cases h⟩, List.forall_mem_cons.mpr ⟨Or.inl ⟨xt_in_mem (i := 638) (by decide +kernel), fun _ h => by cases h⟩, List.forall_mem_cons.mpr ⟨Or.inl ⟨xt_in_mem (i := 1685) (by decide +kernel), fun _ h => by cases h⟩, List.forall_mem_cons.mpr ⟨Or.inl ⟨xt_in_mem (i := 2107) (by decide +kernel), fun _ h => by cases h⟩, List.forall_mem_cons.mpr ⟨Or.inr ⟨_, rfl, xt_in_mem (i := 114) (by decide +kernel)⟩, List.forall_mem_cons.mpr ⟨Or.inr ⟨_, rfl, xt_in_mem (i := 127) (by decide +kernel)⟩, List.forall_mem_cons.mpr ⟨Or.inr ⟨_, rfl, xt_in_mem (i := 129) (by decide +kernel)⟩, List.forall_mem_cons.mpr ⟨Or.inr ⟨_, rfl, xt_in_mem (i := 131) (by decide +kernel)⟩, List.forall_mem_cons.mpr ⟨Or.inr ⟨_, rfl, xt_in_mem (i := 152) (by decide +kernel)⟩, List.forall_mem_cons.mpr ⟨Or.inr ⟨_, rfl, xt_in_mem (i := 161) (by decide +kernel)⟩, fun _ h => absurd h List.not_mem_nil⟩⟩⟩⟩⟩⟩⟩⟩⟩⟩⟩
def xs_ck (e : String × Nat × Value × Nat) : Bool := match e.2.2.1 with
  | .int x => xt_in e.2.2.2 (.constant e.1 e.2.1 x)
  | .long x => xt_in e.2.2.2 (.constantLong e.1 e.2.1 x)
  | .ref i => decide (i = 1 + 2 * ((i - 1) / 2) ∧ (i - 1) / 2 < 20) && xt_in e.2.2.2 (.stringRef e.1 e.2.1 (xs_X.getD ((i - 1) / 2) "")) && (decide (xs_R[(i - 1) / 2]? = some (e.1, e.2.1)) || xs_K.any (fun c => decide (c.1 = e.1 ∧ c.2.1 = e.2.1 ∧ c.2.2.2.head? = xs_R[(i - 1) / 2]?)))
  | _ => false
theorem xs_cks : xt_ctab.all xs_ck = true := by decide +kernel
theorem xs_reps : (List.range 20).all (fun j => decide (((xs_R.getD j ("", 0)).1, (xs_R.getD j ("", 0)).2, xs_B.getD j [], ([] : List (String × Nat))) ∈ xs_K)) = true := by decide +kernel
def xs_A : List (List Int32) := xs_B ++ [xs_D1, xs_D2]
theorem xs_nodup : xs_A.Nodup := by decide +kernel
theorem xs_short : ∀ b ∈ xs_A, b.length < 2 ^ 31 := by decide +kernel
theorem xs_bytes : xs_A.all (fun b => b.all (fun v => fits .byte (.int v))) = true := by decide +kernel
def xs_bi (k : Nat) : Nat := if k < 20 then 2 + 2 * k else k + 21
/-- the old cells: the script, the texts and their bytes, the digits, one that nobody looks at -/
def xs_ho (L : Nat) (xs : Nat → Int32) (i : Nat) : va_E :=
  if i = 0 then .inl (0, L, .inl xs)
  else if i < 41 then (if i % 2 = 1 then .inr (6, [.ref (i + 1), .int 0, .retAddr 0, .retAddr 0]) else .inl (1, (xs_A.getD ((i - 2) / 2) []).length, .inl (fun j => (xs_A.getD ((i - 2) / 2) []).getD j 0)))
  else if i < 43 then .inl (1, (xs_A.getD (i - 21) []).length, .inl (fun j => (xs_A.getD (i - 21) []).getD j 0))
  else .inl (11, 0, .inr (.inl (fun _ => 0)))
theorem xs_AB : ∀ j, j < 20 → xs_A.getD j [] = xs_B.getD j [] := by decide +kernel
theorem xs_Rg : ∀ j, j < 20 → xs_R[j]? = some (xs_R.getD j ("", 0)) := by decide +kernel
theorem xs_AD : xs_A.getD 20 [] = xs_D1 ∧ xs_A.getD 21 [] = xs_D2 := by decide +kernel
theorem xs_Am : ∀ j, j < 22 → xs_A[j]? = some (xs_A.getD j []) := by decide +kernel
theorem xs_TT {s : State} {A : Nat → Prop} {ty ty' : FieldType} {t N N' : Nat} {f f' : Nat → Value} {H : Heap} (h : va_T ty t N f A s H) (h' : va_T ty' t N' f' A s H) : ty = ty' ∧ Int32.ofNat N = Int32.ofNat N' ∧ ∀ j, j < N → j < N' → f j = f' j := by
  obtain ⟨cell, h1, h2, h3, h4, h5, h6, h7⟩ := h
  obtain ⟨cell', g1, g2, g3, g4, g5, g6, g7⟩ := h'
  cases h1.symm.trans g1
  refine ⟨?_, h5.symm.trans g5, fun j hj hj' => Option.some.inj ((h6 j hj).symm.trans (g6 j hj'))⟩
  obtain ⟨-, k, hk, comp, hc⟩ := h2
  obtain ⟨-, k', hk', comp', hc'⟩ := g2
  cases hk.symm.trans hk'
  cases hc.symm.trans hc'
  rfl
theorem xs_bb {s : State} {A : Nat → Prop} {t : Nat} {H : Heap} {b b' : List Int32} (hb : b.length < 2 ^ 31) (hb' : b'.length < 2 ^ 31) (h : va_T .byte t b.length (fun j => .int (b.getD j 0)) A s H) (h' : va_T .byte t b'.length (fun j => .int (b'.getD j 0)) A s H) : b = b' := by
  obtain ⟨-, e, hj⟩ := xs_TT h h'
  have el : b.length = b'.length := by
    have e2 := congrArg Int32.toNatClampNeg e
    rwa [Int32.toNatClampNeg_ofNat_of_lt hb, Int32.toNatClampNeg_ofNat_of_lt hb'] at e2
  refine List.ext_getElem el (fun j h1 h2 => ?_)
  have e3 := Value.int.inj (hj j h1 h2)
  simpa [List.getD, h1, h2] using e3
theorem xs_OT {args : Array Value} {s : State} {A : Nat → Prop} {E : String} {n t N : Nat} {ty : FieldType} {f : Nat → Value} (hi : (Cond.instantiable E n).before args s = true) (h : va_O E t A s s.heap) (h' : va_T ty t N f A s s.heap) : False := by
  obtain ⟨cC, kC, hfc, hk, hkind, -⟩ := Cond.instantiable_spec hi
  obtain ⟨cell, h1, h2, h3, h4⟩ := h
  obtain ⟨cell', g1, ⟨g2, k, gk, comp, gc⟩, -⟩ := h'
  cases h1.symm.trans g1
  cases hfc.symm.trans h3
  cases hk.symm.trans gk
  rw [hkind] at gc
  cases gc
theorem xs_OFV {s : State} {A : Nat → Prop} {o n d : String} {v v' : Value} {t : Nat} {H : Heap} (h : va_OF o n d v t A s H) (h' : va_OF o n d v' t A s H) : v = v' := by
  obtain ⟨cf, k, i, f, cell, h1, h2, h3, h4, h5, h6⟩ := h
  obtain ⟨cf', k', i', f', cell', g1, g2, g3, g4, g5, g6⟩ := h'
  cases h1.symm.trans g1
  cases h3.symm.trans g3
  exact Option.some.inj (h5.symm.trans g5)
theorem xs_ST {s : State} {A : Nat → Prop} {ty : FieldType} {t N : Nat} {f : Nat → Value} {H : Heap} {cell : Cell} (h1 : H[t]? = some cell) (hs : cell.vm.isStatics = true) (h : va_T ty t N f A s H) : False := by
  obtain ⟨cell', g1, ⟨g2, -⟩, -⟩ := h
  cases h1.symm.trans g1
  cases hv : cell.vm with
  | statics k => exact g2 k hv
  | _ => rw [hv] at hs; cases hs
theorem xs_str {args : Array Value} {s : State} {A : Nat → Prop} {own : String} {idx : Nat} {bs : List Int32} {es : List (String × Nat)} (hA : ∀ a : Nat, a < s.heap.size → ¬ A a) (hlen : bs.length < 2 ^ 31) (h : ∀ v ∈ xs_cond (own, idx, bs, es), v.before args s = true) :
    ∃ a v : Nat, (Term.string own idx).eval args s none [] s = some (.ref a) ∧ va_O "java/lang/String" a A s s.heap ∧ va_OF "java/lang/String" "coder" "B" (.int 0) a A s s.heap ∧ va_OF "java/lang/String" "value" "[B" (.ref v) a A s s.heap ∧ va_T .byte v bs.length (fun j => .int (bs.getD j 0)) A s s.heap := by
  have z : ∀ i : Nat, i < 1 → i = 0 := fun i hi => by omega
  obtain ⟨adK, adV, ⟨h1, -⟩, h2⟩ := vk_Sof (args := args) (s := s) (N := 1) (tm := fun _ => .string own idx) (len := [bs.length]) (byt := [bs]) (A := A)
    (fun i hi => by cases z i hi; exact hlen)
    (fun i hi => h _ (List.mem_append_left _ List.mem_cons_self))
    (fun i hi => h _ (List.mem_append_left _ (List.mem_cons_of_mem _ List.mem_cons_self)))
    (fun i hi => h _ (List.mem_append_left _ (List.mem_cons_of_mem _ (List.mem_cons_of_mem _ List.mem_cons_self))))
    (fun i hi => by cases z i hi; exact h _ (List.mem_append_left _ (List.mem_cons_of_mem _ (List.mem_cons_of_mem _ (List.mem_cons_of_mem _ List.mem_cons_self)))))
    (fun i hi j hj => by cases z i hi; exact h _ (List.mem_append_right _ (List.mem_append_left _ (List.mem_map.mpr ⟨j, List.mem_range.mpr hj, rfl⟩))))
    (fun i j hi hj hne => absurd ((z i hi).trans (z j hj).symm) hne) hA
  exact ⟨adK 0, adV 0, h2 0 Nat.one_pos, h1 0 Nat.one_pos⟩
theorem xs_tabT {args : Array Value} {s : State} {A : Nat → Prop} {t : Term} {ds : List Int32} (hA : ∀ a : Nat, a < s.heap.size → ¬ A a) (hl : ds.length < 2 ^ 31) (h : ∀ v ∈ xs_tab t ds, v.before args s = true) : ∃ a : Nat, t.eval args s none [] s = some (.ref a) ∧ va_T .byte a ds.length (fun j => .int (ds.getD j 0)) A s s.heap :=
  va_Tof (f := fun j => .int (ds.getD j 0)) hl (h _ (List.mem_append_left _ (List.mem_cons_of_mem _ List.mem_cons_self))) (va_eqt (h _ (List.mem_append_left _ (List.mem_cons_of_mem _ (List.mem_cons_of_mem _ List.mem_cons_self)))))
    (fun j hj => va_eqt (h _ (List.mem_append_right _ (List.mem_map.mpr ⟨j, List.mem_range.mpr hj, rfl⟩)))) hA
theorem xs_fit (fm : Value) (L : Nat) (xs : Nat → Int32) : xz_fit (xt_X fm) (xs_ho L xs, 44, 0, 0) := by
  have hb : ∀ (k j : Nat), fits .byte (.int ((xs_A.getD k []).getD j 0)) = true := by
    intro k j
    cases hk : xs_A[k]? with
    | none => simp [List.getD, hk]; rfl
    | some b =>
      have h1 := List.all_eq_true.mp xs_bytes b (List.mem_of_getElem? hk)
      cases hj : b[j]? with
      | none => simp [List.getD, hk, hj]; rfl
      | some v =>
        have h2 := List.all_eq_true.mp h1 v (List.mem_of_getElem? hj)
        simpa [List.getD, hk, hj] using h2
  intro i t k f ty hi hf ht j
  have hf : xs_ho L xs i = .inl (t, k, .inl f) := hf
  have ht : xt_at[t]? = some ty := ht
  unfold xs_ho at hf
  split at hf
  · cases hf
    cases ht
    rfl
  · split at hf
    · split at hf
      · cases hf
      · cases hf
        cases ht
        exact hb _ j
    · split at hf
      · cases hf
        cases ht
        exact hb _ j
      · cases hf
set_option maxHeartbeats 4000000 in
theorem xs_start {args : Array Value} {s : State} {b L : Nat} {xs : Nat → Int32} (hal : ∀ v ∈ xt_al, v.before args s = true) (hL : ∀ v ∈ xs_L, v.before args s = true) (hx : va_X b L xs s s.heap) :
    ∃ (fm : Value) (D : va_G) (dA : Nat → ClassId) (ao : Nat → Nat), (fm = .null ∨ ∃ i : Nat, fm = .ref i) ∧ ao 0 = b ∧ xz_K (xt_X fm) xt_tb D dA s.heap.size 44 ao (xs_ho L xs) s := by
  have hts : ∀ v ∈ xt_tb, v.before args s = true := fun v hv => hal v (List.mem_filter.mp hv).1
  have hA : ∀ a : Nat, a < s.heap.size → ¬ s.heap.size ≤ a := fun a h => Nat.not_le.mpr h
  have hD : ∀ ci : Nat, ∃ d : ClassId × (Nat → Nat), ∀ q : vw_C, xt_cl[ci]? = some q → u_Kn s q.1 q.2.1 q.2.2 d.1 d.2 := by
    intro ci
    cases hc : xt_cl[ci]? with
    | none => exact ⟨(0, fun _ => 0), fun q h => by cases h⟩
    | some q =>
      obtain ⟨C, T, N⟩ := q
      obtain ⟨n, hn⟩ := xs_inst _ (List.mem_of_getElem? hc)
      obtain ⟨cC, iS, h⟩ := u_known (ws := xt_tb) (C := C) (T := T) (N := N) (n := n) hts ((xt_TB_c .null) ci C T N hc).1 (hts _ hn)
      exact ⟨(cC, iS), fun q' h' => by cases h'; exact h⟩
  obtain ⟨dd, hdd⟩ := Classical.axiomOfChoice hD
  have hAA : ∀ t : Nat, ∃ cA : ClassId, ∀ ty : FieldType, xt_at[t]? = some ty → ArrOfT s cA ty ∧ va_RA s cA ty := by
    intro t
    cases hc : xt_at[t]? with
    | none => exact ⟨0, fun q h => by cases h⟩
    | some ty =>
      rcases xs_arr ty (List.mem_of_getElem? hc) with ⟨h1, h2⟩ | ⟨C, rfl, h1⟩
      · obtain ⟨c, k, comp, g1, g2, g3⟩ := Cond.arrayClass_spec (hts _ h1)
        refine ⟨c, fun ty' h' => ?_⟩
        cases h'
        refine ⟨fun n z => ⟨fun k h => (by cases h), k, g2, comp, g3⟩, ?_⟩
        cases ty with
        | object C => exact absurd rfl (h2 C)
        | _ => exact g1
      · obtain ⟨comp, c, k, g1, -, g2, g3, g4⟩ := Cond.arrayOver_spec (hts _ h1)
        exact ⟨c, fun ty' h' => by cases h'; exact ⟨fun n z => ⟨fun k h => (by cases h), k, g2, comp, g3⟩, k, comp, g2, g3, g1, g4⟩⟩
  obtain ⟨dA, hdA⟩ := Classical.axiomOfChoice hAA
  have hK : ∀ c ∈ xs_K, ∀ v ∈ xs_cond c, v.before args s = true := by
    intro c hc v hv
    have h : v ∈ xs_L.drop 250 := by rw [xs_f0]; exact List.mem_flatMap.mpr ⟨c, hc, hv⟩
    exact hL v (List.mem_of_mem_drop h)
  have hS : ∀ j : Nat, ∃ q : Nat × Nat, j < 20 → (Term.string (xs_R.getD j ("", 0)).1 (xs_R.getD j ("", 0)).2).eval args s none [] s = some (.ref q.1) ∧ va_O "java/lang/String" q.1 (fun q => s.heap.size ≤ q) s s.heap ∧ va_OF "java/lang/String" "coder" "B" (.int 0) q.1 (fun q => s.heap.size ≤ q) s s.heap ∧ va_OF "java/lang/String" "value" "[B" (.ref q.2) q.1 (fun q => s.heap.size ≤ q) s s.heap ∧ va_T .byte q.2 (xs_A.getD j []).length (fun i => .int ((xs_A.getD j []).getD i 0)) (fun q => s.heap.size ≤ q) s s.heap := by
    intro j
    by_cases hj : j < 20
    · have hm := of_decide_eq_true (List.all_eq_true.mp xs_reps j (List.mem_range.mpr hj))
      rw [← xs_AB j hj] at hm
      obtain ⟨a, v, h⟩ := xs_str (args := args) (s := s) hA (xs_short _ (List.mem_of_getElem? (xs_Am j (by omega)))) (hK _ hm)
      exact ⟨(a, v), fun _ => h⟩
    · exact ⟨(0, 0), fun h => absurd h hj⟩
  obtain ⟨ad, had⟩ := Classical.axiomOfChoice hS
  obtain ⟨d1, hd1, hT1⟩ := xs_tabT (args := args) (s := s) (A := fun q => s.heap.size ≤ q) (t := .static "java/lang/Integer" "DigitOnes" "[B") (ds := xs_D1) hA (by decide +kernel) (fun v hv => by
    have h : v ∈ (xs_L.drop 9).take 103 := by rw [xs_f1]; exact hv
    exact hL v (List.mem_of_mem_drop (List.mem_of_mem_take h)))
  obtain ⟨d2, hd2, hT2⟩ := xs_tabT (args := args) (s := s) (A := fun q => s.heap.size ≤ q) (t := .static "java/lang/Integer" "DigitTens" "[B") (ds := xs_D2) hA (by decide +kernel) (fun v hv => by
    have h : v ∈ (xs_L.drop 112).take 103 := by rw [xs_f2]; exact hv
    exact hL v (List.mem_of_mem_drop (List.mem_of_mem_take h)))
  have hT0 : va_T .int b L (fun j => .int (xs j)) (fun q => s.heap.size ≤ q) s s.heap := by
    obtain ⟨scr, h1, h2, h3, h4, h5⟩ := hx
    exact ⟨scr, h1, h2, h3, by omega, by rw [h4], h5, hA b (Array.getElem?_eq_some_iff.mp h1).1⟩
  generalize hao : (fun i : Nat => if i = 0 then b else if i < 41 then (if i % 2 = 1 then (ad ((i - 1) / 2)).1 else (ad ((i - 2) / 2)).2) else if i = 41 then d1 else d2) = ao1
  have ha0 : ao1 0 = b := by rw [← hao]; rfl
  have haS : ∀ a, a < 20 → ao1 (1 + 2 * a) = (ad a).1 := by
    intro a ha
    rw [← hao]
    show (if 1 + 2 * a = 0 then b else _) = _
    rw [if_neg (by omega), if_pos (by omega), if_pos (by omega), show (1 + 2 * a - 1) / 2 = a by omega]
  have haV : ∀ a, a < 20 → ao1 (2 + 2 * a) = (ad a).2 := by
    intro a ha
    rw [← hao]
    show (if 2 + 2 * a = 0 then b else _) = _
    rw [if_neg (by omega), if_pos (by omega), if_neg (by omega), show (2 + 2 * a - 2) / 2 = a by omega]
  have ha1 : ao1 41 = d1 := by rw [← hao]; rfl
  have ha2 : ao1 42 = d2 := by rw [← hao]; rfl
  have hTB : ∀ k, k < 22 → va_T .byte (ao1 (xs_bi k)) (xs_A.getD k []).length (fun i => .int ((xs_A.getD k []).getD i 0)) (fun q => s.heap.size ≤ q) s s.heap := by
    intro k hk
    by_cases h20 : k < 20
    · unfold xs_bi
      rw [if_pos h20, haV k h20]
      exact (had k h20).2.2.2.2
    · unfold xs_bi
      rw [if_neg h20]
      by_cases h21 : k = 20
      · subst h21
        rw [xs_AD.1]
        show va_T .byte (ao1 41) _ _ _ _ _
        rw [ha1]
        exact hT1
      · obtain rfl : k = 21 := by omega
        rw [xs_AD.2]
        show va_T .byte (ao1 42) _ _ _ _ _
        rw [ha2]
        exact hT2
  have hOS : ∀ a, a < 20 → va_O "java/lang/String" (ao1 (1 + 2 * a)) (fun q => s.heap.size ≤ q) s s.heap := fun a ha => by rw [haS a ha]; exact (had a ha).2.1
  have hFC : ∀ a, a < 20 → va_OF "java/lang/String" "coder" "B" (.int 0) (ao1 (1 + 2 * a)) (fun q => s.heap.size ≤ q) s s.heap := fun a ha => by rw [haS a ha]; exact (had a ha).2.2.1
  have hFV : ∀ a, a < 20 → va_OF "java/lang/String" "value" "[B" (.ref (ao1 (2 + 2 * a))) (ao1 (1 + 2 * a)) (fun q => s.heap.size ≤ q) s s.heap := fun a ha => by rw [haS a ha, haV a ha]; exact (had a ha).2.2.2.1
  have hcl : ∀ i, i < 43 → i = 0 ∨ (∃ a, a < 20 ∧ i = 1 + 2 * a) ∨ ∃ k, k < 22 ∧ i = xs_bi k := by
    intro i hi
    by_cases h0 : i = 0
    · exact Or.inl h0
    · by_cases h1 : i < 41
      · by_cases h2 : i % 2 = 1
        · exact Or.inr (Or.inl ⟨(i - 1) / 2, by omega, by omega⟩)
        · exact Or.inr (Or.inr ⟨(i - 2) / 2, by omega, by unfold xs_bi; rw [if_pos (by omega)]; omega⟩)
      · exact Or.inr (Or.inr ⟨i - 21, by omega, by unfold xs_bi; rw [if_neg (by omega)]; omega⟩)
  have hstr : (Cond.instantiable "java/lang/String" 4).before args s = true := hts _ (xt_in_mem (i := 391) (by decide +kernel))
  have hinj : ∀ i j, i < 43 → j < 43 → ao1 i = ao1 j → i = j := by
    have hTBn : ∀ k k', k < 22 → k' < 22 → ao1 (xs_bi k) = ao1 (xs_bi k') → k = k' := by
      intro k k' hk hk' e
      have h1 := hTB k hk
      rw [e] at h1
      have h2 := xs_bb (xs_short _ (List.mem_of_getElem? (xs_Am k hk))) (xs_short _ (List.mem_of_getElem? (xs_Am k' hk'))) h1 (hTB k' hk')
      have h3 : xs_A[k]? = xs_A[k']? := by rw [xs_Am k hk, xs_Am k' hk', h2]
      exact (List.getElem?_inj (by show k < 22; exact hk) xs_nodup).mp h3
    intro i j hi hj e
    rcases hcl i hi with rfl | ⟨a, ha, rfl⟩ | ⟨k, hk, rfl⟩ <;> rcases hcl j hj with rfl | ⟨a', ha', rfl⟩ | ⟨k', hk', rfl⟩
    · rfl
    · rw [ha0] at e
      subst e
      exact (xs_OT hstr (hOS a' ha') hT0).elim
    · rw [ha0] at e
      subst e
      exact absurd (xs_TT hT0 (hTB k' hk')).1 (by intro h; cases h)
    · rw [ha0] at e
      have h1 := hOS a ha
      rw [e] at h1
      exact (xs_OT hstr h1 hT0).elim
    · have h1 := hFV a ha
      rw [e] at h1
      have h2 := xs_OFV h1 (hFV a' ha')
      have h3 : ao1 (2 + 2 * a) = ao1 (2 + 2 * a') := Value.ref.inj h2
      have h4 := hTBn a a' (by omega) (by omega) (by unfold xs_bi; rw [if_pos ha, if_pos ha']; exact h3)
      rw [h4]
    · have h1 := hOS a ha
      rw [e] at h1
      exact (xs_OT hstr h1 (hTB k' hk')).elim
    · rw [ha0] at e
      have h1 := hTB k hk
      rw [e] at h1
      exact absurd (xs_TT hT0 h1).1 (by intro h; cases h)
    · have h1 := hTB k hk
      rw [e] at h1
      exact (xs_OT hstr (hOS a' ha') h1).elim
    · rw [hTBn k k' hk hk' e]
  have hlt : ∀ i, i < 43 → ao1 i < s.heap.size := by
    intro i hi
    rcases hcl i hi with rfl | ⟨a, ha, rfl⟩ | ⟨k, hk, rfl⟩
    · obtain ⟨cell, h1, -⟩ := hT0
      rw [ha0]
      exact (Array.getElem?_eq_some_iff.mp h1).1
    · obtain ⟨cell, h1, -⟩ := hOS a ha
      exact (Array.getElem?_eq_some_iff.mp h1).1
    · obtain ⟨cell, h1, -⟩ := hTB k hk
      exact (Array.getElem?_eq_some_iff.mp h1).1
  have zc : va_Z "java/lang/String" "COMPACT_STRINGS" "Z" (.int 1) (fun q => s.heap.size ≤ q) s s.heap := va_Zof (hal _ (xt_ia_mem (i := 50) (by decide +kernel))) (hts _ (xt_in_mem (i := 4) (by decide +kernel))) (va_eqi (hL _ xs_gc)) hA
  have za : va_Z "java/lang/StringUTF16" "$assertionsDisabled" "Z" (.int 1) (fun q => s.heap.size ≤ q) s s.heap := va_Zof (hal _ (xt_ia_mem (i := 313) (by decide +kernel))) (hts _ (xt_in_mem (i := 5) (by decide +kernel))) (va_eqi (hL _ xs_ga)) hA
  have zh : va_Z "java/lang/StringUTF16" "HI_BYTE_SHIFT" "I" (.int 0) (fun q => s.heap.size ≤ q) s s.heap := va_Zof (hal _ (xt_ia_mem (i := 315) (by decide +kernel))) (hts _ (xt_in_mem (i := 5) (by decide +kernel))) (va_eqi (hL _ xs_gh)) hA
  have zl : va_Z "java/lang/StringUTF16" "LO_BYTE_SHIFT" "I" (.int 8) (fun q => s.heap.size ≤ q) s s.heap := va_Zof (hal _ (xt_ia_mem (i := 317) (by decide +kernel))) (hts _ (xt_in_mem (i := 5) (by decide +kernel))) (va_eqi (hL _ xs_gl)) hA
  have z1 : va_Z "java/lang/Integer" "DigitOnes" "[B" (.ref d1) (fun q => s.heap.size ≤ q) s s.heap := va_Zof (hal _ (xt_ia_mem (i := 375) (by decide +kernel))) (hts _ (xt_in_mem (i := 22) (by decide +kernel))) hd1 hA
  have z2 : va_Z "java/lang/Integer" "DigitTens" "[B" (.ref d2) (fun q => s.heap.size ≤ q) s s.heap := va_Zof (hal _ (xt_ia_mem (i := 377) (by decide +kernel))) (hts _ (xt_in_mem (i := 22) (by decide +kernel))) hd2 hA
  have kz1 := va_Zqof (A := fun q => s.heap.size ≤ q) (hal _ (xt_ia_mem (i := 453) (by decide +kernel))) (hts _ (xt_in_mem (i := 12) (by decide +kernel))) (hL _ xs_gu) hA
  have kz2 := va_Zqof (A := fun q => s.heap.size ≤ q) (hal _ (xt_ia_mem (i := 455) (by decide +kernel))) (hts _ (xt_in_mem (i := 12) (by decide +kernel))) (hL _ xs_gs) hA
  have kl1 : (Cond.laysStatic "java/lang/Throwable" "UNASSIGNED_STACK" "[Ljava/lang/StackTraceElement;").before args s = true := hal _ (xt_ia_mem (i := 453) (by decide +kernel))
  have kl2 : (Cond.laysStatic "java/lang/Throwable" "SUPPRESSED_SENTINEL" "Ljava/util/List;").before args s = true := hal _ (xt_ia_mem (i := 455) (by decide +kernel))
  have kzf := va_Zqof (A := fun q => s.heap.size ≤ q) (hal _ (xt_ia_mem (i := 305) (by decide +kernel))) (hts _ (xt_in_mem (i := 20) (by decide +kernel))) (hL _ xs_gf) hA
  obtain ⟨aS, haSl, haSn⟩ : ∃ aS : Nat, aS < s.heap.size ∧ ∀ i, i < 43 → ao1 i ≠ aS := by
    obtain ⟨cf, kf, fi, f, a, cell, q1, q2, q3, q4, q5, q6, q7, q8⟩ := zc
    refine ⟨a, (Array.getElem?_eq_some_iff.mp q5).1, fun i hi e => ?_⟩
    rcases hcl i hi with rfl | ⟨a', ha', rfl⟩ | ⟨k, hk, rfl⟩
    · rw [ha0] at e
      subst e
      exact xs_ST q5 q6 hT0
    · obtain ⟨cell', g1, g2, -⟩ := hOS a' ha'
      rw [e] at g1
      cases q5.symm.trans g1
      rw [q6] at g2
      cases g2
    · have h1 := hTB k hk
      rw [e] at h1
      exact xs_ST q5 q6 h1
  obtain ⟨fm, z, hfm, hzl, hzn, zf⟩ : ∃ (fm : Value) (z : Nat), (fm = .null ∨ ∃ i : Nat, fm = .ref i) ∧ z < s.heap.size ∧ (∀ i, i < 43 → ao1 i ≠ z) ∧ va_Z "jdk/internal/util/Preconditions" "SIOOBE_FORMATTER" "Ljava/util/function/BiFunction;" (xz_v (xz_ad 44 s.heap.size (fun i => if i = 43 then z else ao1 i)) fm) (fun q => s.heap.size ≤ q) s s.heap := by
    rcases kzf with h | ⟨t, h⟩
    · exact ⟨.null, aS, Or.inl rfl, haSl, haSn, h⟩
    · by_cases ht : t < s.heap.size
      · by_cases he : ∃ i, i < 43 ∧ ao1 i = t
        · obtain ⟨i, hi, rfl⟩ := he
          refine ⟨.ref i, aS, Or.inr ⟨i, rfl⟩, haSl, haSn, ?_⟩
          show va_Z _ _ _ (.ref (xz_ad 44 s.heap.size (fun i => if i = 43 then aS else ao1 i) i)) _ _ _
          rw [xz_old (by omega)]
          show va_Z _ _ _ (.ref (if i = 43 then aS else ao1 i)) _ _ _
          rw [if_neg (by omega)]
          exact h
        · refine ⟨.ref 43, t, Or.inr ⟨43, rfl⟩, ht, fun i hi e => he ⟨i, hi, e⟩, ?_⟩
          show va_Z _ _ _ (.ref (xz_ad 44 s.heap.size (fun i => if i = 43 then t else ao1 i) 43)) _ _ _
          rw [xz_old (by omega)]
          exact h
      · refine ⟨.ref (44 + (t - s.heap.size)), aS, Or.inr ⟨_, rfl⟩, haSl, haSn, ?_⟩
        show va_Z _ _ _ (.ref (xz_ad 44 s.heap.size (fun i => if i = 43 then aS else ao1 i) (44 + (t - s.heap.size)))) _ _ _
        rw [xz_own (by omega), show s.heap.size + (44 + (t - s.heap.size) - 44) = t by omega]
        exact h
  generalize hao2 : (fun i : Nat => if i = 43 then z else ao1 i) = ao at zf
  have hao3 : ∀ i, i < 43 → ao i = ao1 i := by
    intro i hi
    rw [← hao2]
    show (if i = 43 then z else ao1 i) = _
    rw [if_neg (by omega)]
  have haoz : ao 43 = z := by rw [← hao2]; rfl
  refine ⟨fm, (fun c => (dd c).1, fun c => (dd c).2), dA, ao, hfm, (hao3 0 (by omega)).trans ha0, ⟨fun c q h => hdd c q h, fun k q h => by simp at h⟩, fun t ty h => hdA t ty h, fun i hi => ?_, ?_, ?_, ?_, Nat.le_refl _, kz1, kz2, kl1, kl2⟩
  · by_cases h43 : i = 43
    · subst h43
      rw [haoz]
      exact ⟨hzl, Nat.le_refl _⟩
    · have hi' : i < 43 := by omega
      rw [hao3 i hi']
      refine ⟨hlt i hi', ?_⟩
      rcases hcl i hi' with rfl | ⟨a, ha, rfl⟩ | ⟨k, hk, rfl⟩
      · rw [ha0]
        exact ⟨.int, rfl, hT0⟩
      · have e : xs_ho L xs (1 + 2 * a) = .inr (6, [.ref (1 + 2 * a + 1), .int 0, .retAddr 0, .retAddr 0]) := by
          unfold xs_ho
          rw [if_neg (by omega), if_pos (by omega), if_pos (by omega)]
        rw [e]
        refine ⟨"java/lang/String", xt_T6, 4, rfl, hOS a ha, fun k v hk hv => ?_⟩
        match k, hk with
        | 0, hk =>
          cases hk
          show va_OF "java/lang/String" "value" "[B" (.ref (xz_ad 44 s.heap.size ao (1 + 2 * a + 1))) _ _ _ _
          rw [xz_old (by omega), hao3 _ (by omega), show 1 + 2 * a + 1 = 2 + 2 * a by omega]
          exact hFV a ha
        | 1, hk =>
          cases hk
          exact hFC a ha
        | 2, hk => cases hk; cases hv
        | 3, hk => cases hk; cases hv
        | k + 4, hk => cases hk
      · have e : xs_ho L xs (xs_bi k) = .inl (1, (xs_A.getD k []).length, .inl (fun j => (xs_A.getD k []).getD j 0)) := by
          unfold xs_bi xs_ho
          by_cases h20 : k < 20
          · rw [if_pos h20, if_neg (by omega), if_pos (by omega), if_neg (by omega), show (2 + 2 * k - 2) / 2 = k by omega]
          · rw [if_neg h20, if_neg (by omega), if_neg (by omega), if_pos (by omega), show k + 21 - 21 = k by omega]
        rw [e]
        exact ⟨.byte, rfl, hTB k hk⟩
  · intro own idx v h
    obtain ⟨e, he, rfl⟩ := Option.map_eq_some_iff.mp (show (xt_look (xt_gtab fm) own idx).map (fun e => e.1) = some v from h)
    have hm := xt_look_mem he
    have z1 : va_Z "java/lang/Integer" "DigitOnes" "[B" (xz_v (xz_ad 44 s.heap.size ao) (.ref 41)) (fun q => s.heap.size ≤ q) s s.heap := by
      show va_Z _ _ _ (.ref (xz_ad 44 s.heap.size ao 41)) _ _ _
      rw [xz_old (by omega), hao3 _ (by omega), ha1]
      exact z1
    have z2 : va_Z "java/lang/Integer" "DigitTens" "[B" (xz_v (xz_ad 44 s.heap.size ao) (.ref 42)) (fun q => s.heap.size ≤ q) s s.heap := by
      show va_Z _ _ _ (.ref (xz_ad 44 s.heap.size ao 42)) _ _ _
      rw [xz_old (by omega), hao3 _ (by omega), ha2]
      exact z2
    obtain ⟨v, i⟩ := e
    simp only [xt_gtab, List.mem_cons, List.not_mem_nil, or_false, Prod.mk.injEq] at hm
    rcases hm with h | h | h | h | h | h | h | h | h | h | h <;> obtain ⟨rfl, rfl, rfl, rfl⟩ := h
    · exact ⟨"java/lang/String", "COMPACT_STRINGS", "Z", "java/lang/String", zc, xt_in_mem (i := 49) (by decide +kernel), Or.inl rfl⟩
    · exact ⟨"jdk/internal/util/Preconditions", "SIOOBE_FORMATTER", "Ljava/util/function/BiFunction;", "jdk/internal/util/Preconditions", zf, xt_in_mem (i := 304) (by decide +kernel), Or.inl rfl⟩
    · exact ⟨"java/lang/StringUTF16", "$assertionsDisabled", "Z", "java/lang/StringUTF16", za, xt_in_mem (i := 312) (by decide +kernel), Or.inl rfl⟩
    · exact ⟨"java/lang/StringUTF16", "HI_BYTE_SHIFT", "I", "java/lang/StringUTF16", zh, xt_in_mem (i := 314) (by decide +kernel), Or.inl rfl⟩
    · exact ⟨"java/lang/StringUTF16", "LO_BYTE_SHIFT", "I", "java/lang/StringUTF16", zl, xt_in_mem (i := 316) (by decide +kernel), Or.inl rfl⟩
    · exact ⟨"java/lang/String", "COMPACT_STRINGS", "Z", "java/lang/String", zc, xt_in_mem (i := 326) (by decide +kernel), Or.inl rfl⟩
    · exact ⟨"java/lang/Integer", "DigitOnes", "[B", "java/lang/Integer", z1, xt_in_mem (i := 374) (by decide +kernel), Or.inl rfl⟩
    · exact ⟨"java/lang/Integer", "DigitTens", "[B", "java/lang/Integer", z2, xt_in_mem (i := 376) (by decide +kernel), Or.inl rfl⟩
    · exact ⟨"java/lang/Integer", "DigitOnes", "[B", "java/lang/Integer", z1, xt_in_mem (i := 384) (by decide +kernel), Or.inl rfl⟩
    · exact ⟨"java/lang/Integer", "DigitTens", "[B", "java/lang/Integer", z2, xt_in_mem (i := 385) (by decide +kernel), Or.inl rfl⟩
    · exact ⟨"java/lang/String", "COMPACT_STRINGS", "Z", "java/lang/String", zc, xt_in_mem (i := 693) (by decide +kernel), Or.inl rfl⟩
  · intro own idx v h
    obtain ⟨e, he, rfl⟩ := Option.map_eq_some_iff.mp (show (xt_look xt_ctab own idx).map (fun e => e.1) = some v from h)
    have hc := List.all_eq_true.mp xs_cks _ (xt_look_mem he)
    obtain ⟨v, i⟩ := e
    cases v with
    | int x => exact Or.inl ⟨x, rfl, xt_in_mem (i := i) hc⟩
    | long x => exact Or.inr (Or.inl ⟨x, rfl, xt_in_mem (i := i) hc⟩)
    | ref r1 =>
      obtain ⟨r, hr1⟩ : ∃ r : Nat, r = r1 := ⟨r1, rfl⟩
      subst hr1
      have hc : (decide (r = 1 + 2 * ((r - 1) / 2) ∧ (r - 1) / 2 < 20) && xt_in i (.stringRef own idx (xs_X.getD ((r - 1) / 2) "")) && (decide (xs_R[(r - 1) / 2]? = some (own, idx)) || xs_K.any (fun c => decide (c.1 = own ∧ c.2.1 = idx ∧ c.2.2.2.head? = xs_R[(r - 1) / 2]?)))) = true := hc
      simp only [Bool.and_eq_true, Bool.or_eq_true, decide_eq_true_eq] at hc
      obtain ⟨⟨⟨h1, h2⟩, h3⟩, h4⟩ := hc
      generalize hj : (r - 1) / 2 = j at h1 h2 h3 h4
      subst h1
      have ev : (Term.string own idx).eval args s none [] s = some (.ref (ad j).1) := by
        have h0 := (had j h2).1
        have hR := xs_Rg j h2
        rcases h4 with h4 | h4
        · have e : xs_R.getD j ("", 0) = (own, idx) := Option.some.inj (hR.symm.trans h4)
          rw [e] at h0
          exact h0
        · obtain ⟨c, hcm, hc2⟩ := List.any_eq_true.mp h4
          have hc2 := of_decide_eq_true hc2
          obtain ⟨e1, e2, e3⟩ := hc2
          rw [hR] at e3
          have hmem : xs_R.getD j ("", 0) ∈ c.2.2.2 := List.mem_of_mem_head? e3
          have heq := hK c hcm _ (List.mem_append_right _ (List.mem_append_right _ (List.mem_map.mpr ⟨_, hmem, rfl⟩)))
          rw [e1, e2] at heq
          exact va_eqR heq h0
      have h5 : j < 20 := h2
      have h6 : 1 + 2 * j < 43 := by omega
      refine Or.inr (Or.inr ⟨1 + 2 * j, xs_X.getD j "", rfl, Nat.lt_succ_of_lt h6, ?_⟩)
      rw [hao3 _ h6, haS j h2]
      exact vk_R.of (A := args) (hts _ (xt_in_mem (i := i) h3)) ev
    | _ => cases hc
  · intro i j hi hj e
    by_cases h1 : i = 43
    · by_cases h2 : j = 43
      · rw [h1, h2]
      · subst h1
        rw [haoz, hao3 j (by omega)] at e
        exact absurd e.symm (hzn j (by omega))
    · by_cases h2 : j = 43
      · subst h2
        rw [haoz, hao3 i (by omega)] at e
        exact absurd e (hzn i (by omega))
      · rw [hao3 i (by omega), hao3 j (by omega)] at e
        exact hinj i j (by omega) (by omega) e
