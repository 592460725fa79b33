/-! what the tables must say, what holds at a method's entry, and one step of the machine for one of the pure machine -/
def xz_TBf (X : xm_T) (tb : List Cond) : Prop := ∀ (own : String) (idx ci k : Nat), xm_fld X own idx = some (ci, k) → ∃ (C : String) (T : u_T) (N : Nat) (ref : String), (xm_cl X)[ci]? = some (C, T, N) ∧ k < N ∧ (Cond.fieldLink own idx ref (T k).2.1 (T k).2.2.1 ∈ tb ∨ ((T k).2.2.2 = false ∧ ∃ host : String, Cond.fieldLinkNest own idx ref (T k).2.1 (T k).2.2.1 host ∈ tb)) ∧ (ref = (T k).1 ∨ Cond.sameField ref (T k).1 (T k).2.1 (T k).2.2.1 ∈ tb)
def xz_TBc (X : xm_T) (tb : List Cond) : Prop := ∀ (ci : Nat) (C : String) (T : u_T) (N : Nat), (xm_cl X)[ci]? = some (C, T, N) → (∀ w ∈ u_ws C T N, w ∈ tb) ∧ (∀ k, k < N → parseFieldDescriptor (T k).2.2.1 = some (xm_ty X ci k)) ∧ ∀ a, a < N → ∀ b, b < N → a ≠ b → (T a).2.1 ≠ (T b).2.1
def xz_TBn (X : xm_T) (tb : List Cond) : Prop := ∀ (own : String) (idx ci : Nat), xm_cls X own idx = some ci → ∃ (C : String) (T : u_T) (N : Nat), (xm_cl X)[ci]? = some (C, T, N) ∧ Cond.classLink own idx C ∈ tb ∧ Cond.instantiable C N ∈ tb ∧ Cond.initialized C ∈ tb
def xz_TBa (X : xm_T) (tb : List Cond) : Prop := (∀ (own : String) (idx t : Nat), xm_arr X own idx = some t → ∃ C : String, (xm_at X)[t]? = some (.object C) ∧ Cond.classLink own idx C ∈ tb ∧ Cond.arrayOver (.object C) ∈ tb) ∧ ∀ (t : Nat) (ty : FieldType), xm_tag ty = some t → (xm_at X)[t]? = some ty → Cond.arrayClass ty ∈ tb
def xz_TBs (X : xm_T) (tb : List Cond) : Prop := ∀ (own : String) (idx : Nat), (xm_spc X own idx = 1 → Cond.methodLink own idx objectInit ∈ tb ∧ Cond.instanceMethod objectInit ∈ tb ∧ Cond.code objectInit ⟨#[0xb1]⟩ 1 none ∈ tb) ∧ (xm_spc X own idx = 2 → Cond.methodLink own idx arraycopyName ∈ tb ∧ Cond.native arraycopyName ∈ tb ∧ Cond.static arraycopyName ∈ tb ∧ Cond.initialized "java/lang/System" ∈ tb) ∧ (xm_spc X own idx = 3 → Cond.methodLink own idx ⟨"[B", "clone", "()Ljava/lang/Object;"⟩ ∈ tb ∧ Cond.sameMethod "[B" "java/lang/Object" "clone" "()Ljava/lang/Object;" ∈ tb ∧ Cond.native ⟨"java/lang/Object", "clone", "()Ljava/lang/Object;"⟩ ∈ tb ∧ Cond.instanceMethod ⟨"java/lang/Object", "clone", "()Ljava/lang/Object;"⟩ ∈ tb ∧ Cond.selects "[B" ⟨"[B", "clone", "()Ljava/lang/Object;"⟩ ⟨"java/lang/Object", "clone", "()Ljava/lang/Object;"⟩ ∈ tb ∧ Cond.castable "[B" "java/lang/Cloneable" ∈ tb) ∧ (xm_spc X own idx = 4 → Cond.classLink own idx "[B" ∈ tb)
def xz_TB (X : xm_T) (tb : List Cond) : Prop := xz_TBf X tb ∧ xz_TBc X tb ∧ xz_TBn X tb ∧ xz_TBa X tb ∧ xz_TBs X tb
/-- an old cell -/
def xz_O (X : xm_T) (lo n0 : Nat) (ao : Nat → Nat) (U : State) (H : Heap) (a : Nat) (e : va_E) : Prop := match e with
  | .inl (t, k, .inl f) => ∃ ty, (xm_at X)[t]? = some ty ∧ va_T ty a k (fun j => .int (f j)) (fun q => lo ≤ q) U H
  | .inl (t, _, .inr _) => (xm_at X).length ≤ t
  | .inr (ci, fs) => ∃ (C : String) (T : u_T) (N : Nat), (xm_cl X)[ci]? = some (C, T, N) ∧ va_O C a (fun q => lo ≤ q) U H ∧ ∀ (k : Nat) (v : Value), fs[k]? = some v → xm_kn v = true → va_OF (T k).1 (T k).2.1 (T k).2.2.1 (xz_v (xz_ad n0 lo ao) v) a (fun q => lo ≤ q) U H
/-- what the tables and the old cells say at a state -/
def xz_K (X : xm_T) (tb : List Cond) (D : va_G) (dA : Nat → ClassId) (lo n0 : Nat) (ao : Nat → Nat) (ho : Nat → va_E) (U : State) : Prop :=
  va_K D (xm_cl X) [] U ∧ (∀ (t : Nat) (ty : FieldType), (xm_at X)[t]? = some ty → ArrOfT U (dA t) ty ∧ va_RA U (dA t) ty) ∧ (∀ i, i < n0 → ao i < lo ∧ xz_O X lo n0 ao U U.heap (ao i) (ho i)) ∧
  (∀ (own : String) (idx : Nat) (v : Value), xm_sta X own idx = some v → ∃ C n d ref : String, va_Z C n d (xz_v (xz_ad n0 lo ao) v) (fun q => lo ≤ q) U U.heap ∧ Cond.fieldLink own idx ref n d ∈ tb ∧ (ref = C ∨ Cond.sameField ref C n d ∈ tb)) ∧
  (∀ (own : String) (idx : Nat) (v : Value), xm_con X own idx = some v → (∃ x : Int32, v = .int x ∧ Cond.constant own idx x ∈ tb) ∨ (∃ x : Int64, v = .long x ∧ Cond.constantLong own idx x ∈ tb) ∨ ∃ (i : Nat) (tx : String), v = .ref i ∧ i < n0 ∧ vk_R own idx tx (ao i) U) ∧
  (∀ i j, i < n0 → j < n0 → ao i = ao j → i = j) ∧ lo ≤ U.heap.size ∧ va_Zq "java/lang/Throwable" "UNASSIGNED_STACK" "[Ljava/lang/StackTraceElement;" (fun q => lo ≤ q) U U.heap ∧ va_Zq "java/lang/Throwable" "SUPPRESSED_SENTINEL" "Ljava/util/List;" (fun q => lo ≤ q) U U.heap ∧ (Cond.laysStatic "java/lang/Throwable" "UNASSIGNED_STACK" "[Ljava/lang/StackTraceElement;").before #[] U = true ∧ (Cond.laysStatic "java/lang/Throwable" "SUPPRESSED_SENTINEL" "Ljava/util/List;").before #[] U = true
def xz_C (X : xm_T) (tb : List Cond) (own : String) (cc : ByteArray) (nL : Nat) (ini : Bool) (p : Program) (s : State) (m : MethodId) (args : Array Value) (meth : Method) (c : Code) (D : va_G) (dA : Nat → ClassId) (lo n0 : Nat) (ao : Nat → Nat) (ho : Nat → va_E) : Prop :=
  (p.tables.exec = Jvm.exec ∧ c.code = cc ∧ c.maxLocals = nL ∧ s.vm.findClass own = some m.cls ∧ (∀ w ∈ tb, w.before args s = true) ∧ (ini = true → meth.name = "<init>")) ∧ xz_TB X tb ∧ xz_K X tb D dA lo n0 ao ho s
/-- at every heap that holds the pure one, the machine at this frame comes to Q -/
def xz_G (p : Program) (l : Launch) (e : Env) (R : Room) (s : State) (m : MethodId) (args : Array Value) (below : List Frame) (meth : Method) (c : Code) (X : xm_T) (nL : Nat) (D : va_G) (dA : Nat → ClassId) (lo n0 : Nat) (ao : Nat → Nat) (ho : Nat → va_E) (Q : State → Prop) (f : xm_F) : Prop :=
  ∀ (H : Heap) (locs : List Loc) (ls : Array Slot), xz_W X D dA lo n0 ao ho f.2.2.2 H → va_S (fun q => lo ≤ q) s.heap H locs → lv_has ls nL (f.2.1.map (fun q => (q.1, xz_v (xz_ad n0 lo ao) q.2))) →
    W p l e R s m args below meth c H locs f.2.2.2.2.2.1 f.2.2.2.2.2.2 Q (F0 m f.1 ls (f.2.2.1.map (xz_v (xz_ad n0 lo ao))))
def xz_S (p : Program) (l : Launch) (e : Env) (R : Room) (s : State) (m : MethodId) (args : Array Value) (below : List Frame) (meth : Method) (c : Code) (X : xm_T) (own : String) (cc : ByteArray) (nL : Nat) (ini : Bool) (D : va_G) (dA : Nat → ClassId) (lo n0 : Nat) (ao : Nat → Nat) (ho : Nat → va_E) (Q : State → Prop) (ins : Instr) (ln : Nat) : Prop :=
  ∀ (pc : Nat) (L : xm_L) (S : List Value) (M : xm_M) (f : xm_F), decode cc pc = .ok (ins, ln) → xm_st X own ini nL n0 ins pc L S M = some f → f.2.2.2.2.2.1 ≤ R.cells → f.2.2.2.2.2.2 ≤ R.slots → 1 ≤ R.frames → 60 ≤ R.locals → xz_G p l e R s m args below meth c X nL D dA lo n0 ao ho Q f → xz_G p l e R s m args below meth c X nL D dA lo n0 ao ho Q (pc, L, S, M)
theorem xm_get_mem {L : xm_L} {i : Nat} {v : Value} (h : xm_get L i = some v) : (i, v) ∈ L := by
  induction L with
  | nil => cases h
  | cons q r ih =>
    unfold xm_get at h
    split at h
    · rename_i hq
      cases h
      subst hq
      exact List.mem_cons_self
    · exact List.mem_cons_of_mem _ (ih h)
theorem xz_lget {ls : Array Slot} {nL : Nat} {L : xm_L} {ad : Nat → Nat} {i : Nat} {v : Value} (hl : lv_has ls nL (L.map (fun q => (q.1, xz_v ad q.2)))) (h : xm_get L i = some v) : ls[i]? = some (.val (xz_v ad v)) :=
  hl.2.2 (i, xz_v ad v) (List.mem_map.mpr ⟨(i, v), xm_get_mem h, rfl⟩)
theorem xz_cat (ad : Nat → Nat) (v : Value) : (xz_v ad v).category = v.category := by cases v <;> rfl
theorem xz_s1 {L : xm_L} {ad : Nat → Nat} {i : Nat} {v : Value} : (i, xz_v ad v) :: (L.map (fun q => (q.1, xz_v ad q.2))).filter (fun q => !(q.1 == i) && !(q.1 + 1 == i && q.2.category == 2)) = (xm_s1 L i v).map (fun q => (q.1, xz_v ad q.2)) := by
  unfold xm_s1
  rw [List.map_cons, List.filter_map]
  congr 2
  apply List.filter_congr
  intro q _
  simp [Function.comp, xz_cat]
theorem xz_s2 {L : xm_L} {ad : Nat → Nat} {i : Nat} {v : Value} : (i, xz_v ad v) :: (L.map (fun q => (q.1, xz_v ad q.2))).filter (fun q => !(q.1 == i) && (!(q.1 == i + 1) && !(q.1 + 1 == i && q.2.category == 2))) = (xm_s2 L i v).map (fun q => (q.1, xz_v ad q.2)) := by
  unfold xm_s2
  rw [List.map_cons, List.filter_map]
  congr 2
  apply List.filter_congr
  intro q _
  simp [Function.comp, xz_cat]
theorem xz_j {pc t : Nat} {off : Int} (h : xm_j pc off = some t) : (pc : Int) + off = (t : Int) := by
  unfold xm_j at h
  split at h
  · cases h
  · cases h
    omega

section XZ
variable {p : Program} {l : Launch} {e : Env} {R : Room} {s : State} {m : MethodId} {args : Array Value} {below : List Frame} {meth : Method} {c : Code} {X : xm_T} {tb : List Cond} {own : String} {cc : ByteArray} {nL : Nat} {ini : Bool} {D : va_G} {dA : Nat → ClassId} {lo n0 : Nat} {ao : Nat → Nat} {ho : Nat → va_E} {Q : State → Prop}
theorem xz_iconst {z : Int} (C : xz_C X tb own cc nL ini p s m args meth c D dA lo n0 ao ho) : xz_S p l e R s m args below meth c X own cc nL ini D dA lo n0 ao ho Q (.iconst z) 1 := by
  intro pc L S M f hd hs _ _ _ _ k H locs ls hW hS hl
  obtain ⟨⟨hx, hb, hml, hown, hts, hin⟩, -, -⟩ := C
  cases hs
  exact lv_iconst hx hb hd rfl (k H locs ls hW hS hl)
theorem xz_bipush {z : Int} (C : xz_C X tb own cc nL ini p s m args meth c D dA lo n0 ao ho) : xz_S p l e R s m args below meth c X own cc nL ini D dA lo n0 ao ho Q (.bipush z) 2 := by
  intro pc L S M f hd hs _ _ _ _ k H locs ls hW hS hl
  obtain ⟨⟨hx, hb, hml, hown, hts, hin⟩, -, -⟩ := C
  cases hs
  exact lv_bipush hx hb hd rfl (k H locs ls hW hS hl)
theorem xz_sipush {z : Int} (C : xz_C X tb own cc nL ini p s m args meth c D dA lo n0 ao ho) : xz_S p l e R s m args below meth c X own cc nL ini D dA lo n0 ao ho Q (.sipush z) 3 := by
  intro pc L S M f hd hs _ _ _ _ k H locs ls hW hS hl
  obtain ⟨⟨hx, hb, hml, hown, hts, hin⟩, -, -⟩ := C
  cases hs
  exact lv_sipush hx hb hd rfl (k H locs ls hW hS hl)
theorem xz_lconst {z : Fin 2} (C : xz_C X tb own cc nL ini p s m args meth c D dA lo n0 ao ho) : xz_S p l e R s m args below meth c X own cc nL ini D dA lo n0 ao ho Q (.lconst z) 1 := by
  intro pc L S M f hd hs _ _ _ _ k H locs ls hW hS hl
  obtain ⟨⟨hx, hb, hml, hown, hts, hin⟩, -, -⟩ := C
  cases hs
  exact lv_lconst hx hb hd rfl (k H locs ls hW hS hl)
theorem xz_aconst_null (C : xz_C X tb own cc nL ini p s m args meth c D dA lo n0 ao ho) : xz_S p l e R s m args below meth c X own cc nL ini D dA lo n0 ao ho Q (.aconst_null) 1 := by
  intro pc L S M f hd hs _ _ _ _ k H locs ls hW hS hl
  obtain ⟨⟨hx, hb, hml, hown, hts, hin⟩, -, -⟩ := C
  cases hs
  exact lv_null hx hb hd (k H locs ls hW hS hl)
theorem xz_iload {i : Nat} (C : xz_C X tb own cc nL ini p s m args meth c D dA lo n0 ao ho) : xz_S p l e R s m args below meth c X own cc nL ini D dA lo n0 ao ho Q (.iload i) 2 := by
  intro pc L S M f hd hs _ _ _ _ k H locs ls hW hS hl
  obtain ⟨⟨hx, hb, hml, hown, hts, hin⟩, -, -⟩ := C
  simp only [xm_st, xm_ld] at hs
  split at hs
  · rename_i v hv
    split at hs
    · rename_i hok
      have hg := xz_lget hl hv
      cases hs
      cases v with
      | int x => exact lv_iload hx hb hd hg (k H locs ls hW hS hl)
      | _ => exact absurd hok (by simp [xm_isI])
    · cases hs
  · cases hs
theorem xz_iload_n {i : Fin 4} (C : xz_C X tb own cc nL ini p s m args meth c D dA lo n0 ao ho) : xz_S p l e R s m args below meth c X own cc nL ini D dA lo n0 ao ho Q (.iload_n i) 1 := by
  intro pc L S M f hd hs _ _ _ _ k H locs ls hW hS hl
  obtain ⟨⟨hx, hb, hml, hown, hts, hin⟩, -, -⟩ := C
  simp only [xm_st, xm_ld] at hs
  split at hs
  · rename_i v hv
    split at hs
    · rename_i hok
      have hg := xz_lget hl hv
      cases hs
      cases v with
      | int x => exact lv_iload_n hx hb hd rfl hg (k H locs ls hW hS hl)
      | _ => exact absurd hok (by simp [xm_isI])
    · cases hs
  · cases hs
theorem xz_lload {i : Nat} (C : xz_C X tb own cc nL ini p s m args meth c D dA lo n0 ao ho) : xz_S p l e R s m args below meth c X own cc nL ini D dA lo n0 ao ho Q (.lload i) 2 := by
  intro pc L S M f hd hs _ _ _ _ k H locs ls hW hS hl
  obtain ⟨⟨hx, hb, hml, hown, hts, hin⟩, -, -⟩ := C
  simp only [xm_st, xm_ld] at hs
  split at hs
  · rename_i v hv
    split at hs
    · rename_i hok
      have hg := xz_lget hl hv
      cases hs
      cases v with
      | long x => exact lv_lload hx hb hd hg (k H locs ls hW hS hl)
      | _ => exact absurd hok (by simp [xm_isL])
    · cases hs
  · cases hs
theorem xz_lload_n {i : Fin 4} (C : xz_C X tb own cc nL ini p s m args meth c D dA lo n0 ao ho) : xz_S p l e R s m args below meth c X own cc nL ini D dA lo n0 ao ho Q (.lload_n i) 1 := by
  intro pc L S M f hd hs _ _ _ _ k H locs ls hW hS hl
  obtain ⟨⟨hx, hb, hml, hown, hts, hin⟩, -, -⟩ := C
  simp only [xm_st, xm_ld] at hs
  split at hs
  · rename_i v hv
    split at hs
    · rename_i hok
      have hg := xz_lget hl hv
      cases hs
      cases v with
      | long x => exact lv_lload_n hx hb hd rfl hg (k H locs ls hW hS hl)
      | _ => exact absurd hok (by simp [xm_isL])
    · cases hs
  · cases hs
theorem xz_aload {i : Nat} (C : xz_C X tb own cc nL ini p s m args meth c D dA lo n0 ao ho) : xz_S p l e R s m args below meth c X own cc nL ini D dA lo n0 ao ho Q (.aload i) 2 := by
  intro pc L S M f hd hs _ _ _ _ k H locs ls hW hS hl
  obtain ⟨⟨hx, hb, hml, hown, hts, hin⟩, -, -⟩ := C
  simp only [xm_st, xm_ld] at hs
  split at hs
  · rename_i v hv
    split at hs
    · rename_i hok
      have hg := xz_lget hl hv
      cases hs
      cases v with
      | ref x => exact lv_aload hx hb hd hg (k H locs ls hW hS hl)
      | null => exact lv_aloadN hx hb hd hg (k H locs ls hW hS hl)
      | _ => exact absurd hok (by simp [xm_isA])
    · cases hs
  · cases hs
theorem xz_aload_n {i : Fin 4} (C : xz_C X tb own cc nL ini p s m args meth c D dA lo n0 ao ho) : xz_S p l e R s m args below meth c X own cc nL ini D dA lo n0 ao ho Q (.aload_n i) 1 := by
  intro pc L S M f hd hs _ _ _ _ k H locs ls hW hS hl
  obtain ⟨⟨hx, hb, hml, hown, hts, hin⟩, -, -⟩ := C
  simp only [xm_st, xm_ld] at hs
  split at hs
  · rename_i v hv
    split at hs
    · rename_i hok
      have hg := xz_lget hl hv
      cases hs
      cases v with
      | ref x => exact lv_aload_n hx hb hd rfl hg (k H locs ls hW hS hl)
      | null => exact lv_aload_nN hx hb hd rfl hg (k H locs ls hW hS hl)
      | _ => exact absurd hok (by simp [xm_isA])
    · cases hs
  · cases hs
theorem xz_istore {i : Nat} (C : xz_C X tb own cc nL ini p s m args meth c D dA lo n0 ao ho) : xz_S p l e R s m args below meth c X own cc nL ini D dA lo n0 ao ho Q (.istore i) 2 := by
  intro pc L S M f hd hs _ _ _ _ k H locs ls hW hS hl
  obtain ⟨⟨hx, hb, hml, hown, hts, hin⟩, -, -⟩ := C
  simp only [xm_st, xm_sto] at hs
  split at hs
  · rename_i v r
    split at hs
    · rename_i hok
      obtain ⟨hok, hlt⟩ := hok
      cases hs
      cases v with
      | int x => exact lv_istore hx hb hd hl hlt (xz_s1 (L := L) (ad := xz_ad n0 lo ao) (i := i) (v := .int x)) (fun ls' h' => k H locs ls' hW hS h')
      | _ => exact absurd hok (by simp [xm_isI])
    · cases hs
  · cases hs
theorem xz_istore_n {i : Fin 4} (C : xz_C X tb own cc nL ini p s m args meth c D dA lo n0 ao ho) : xz_S p l e R s m args below meth c X own cc nL ini D dA lo n0 ao ho Q (.istore_n i) 1 := by
  intro pc L S M f hd hs _ _ _ _ k H locs ls hW hS hl
  obtain ⟨⟨hx, hb, hml, hown, hts, hin⟩, -, -⟩ := C
  simp only [xm_st, xm_sto] at hs
  split at hs
  · rename_i v r
    split at hs
    · rename_i hok
      obtain ⟨hok, hlt⟩ := hok
      cases hs
      cases v with
      | int x => exact lv_istore_n hx hb hd rfl hl hlt (xz_s1 (L := L) (ad := xz_ad n0 lo ao) (i := i) (v := .int x)) (fun ls' h' => k H locs ls' hW hS h')
      | _ => exact absurd hok (by simp [xm_isI])
    · cases hs
  · cases hs
theorem xz_astore {i : Nat} (C : xz_C X tb own cc nL ini p s m args meth c D dA lo n0 ao ho) : xz_S p l e R s m args below meth c X own cc nL ini D dA lo n0 ao ho Q (.astore i) 2 := by
  intro pc L S M f hd hs _ _ _ _ k H locs ls hW hS hl
  obtain ⟨⟨hx, hb, hml, hown, hts, hin⟩, -, -⟩ := C
  simp only [xm_st, xm_sto] at hs
  split at hs
  · rename_i v r
    split at hs
    · rename_i hok
      obtain ⟨hok, hlt⟩ := hok
      cases hs
      cases v with
      | ref x => exact lv_astore hx hb hd hl hlt (xz_s1 (L := L) (ad := xz_ad n0 lo ao) (i := i) (v := .ref x)) (fun ls' h' => k H locs ls' hW hS h')
      | null => exact lv_astoreN hx hb hd hl hlt (xz_s1 (L := L) (ad := xz_ad n0 lo ao) (i := i) (v := .null)) (fun ls' h' => k H locs ls' hW hS h')
      | _ => exact absurd hok (by simp [xm_isA])
    · cases hs
  · cases hs
theorem xz_astore_n {i : Fin 4} (C : xz_C X tb own cc nL ini p s m args meth c D dA lo n0 ao ho) : xz_S p l e R s m args below meth c X own cc nL ini D dA lo n0 ao ho Q (.astore_n i) 1 := by
  intro pc L S M f hd hs _ _ _ _ k H locs ls hW hS hl
  obtain ⟨⟨hx, hb, hml, hown, hts, hin⟩, -, -⟩ := C
  simp only [xm_st, xm_sto] at hs
  split at hs
  · rename_i v r
    split at hs
    · rename_i hok
      obtain ⟨hok, hlt⟩ := hok
      cases hs
      cases v with
      | ref x => exact lv_astore_n hx hb hd rfl hl hlt (xz_s1 (L := L) (ad := xz_ad n0 lo ao) (i := i) (v := .ref x)) (fun ls' h' => k H locs ls' hW hS h')
      | null => exact lv_astore_nN hx hb hd rfl hl hlt (xz_s1 (L := L) (ad := xz_ad n0 lo ao) (i := i) (v := .null)) (fun ls' h' => k H locs ls' hW hS h')
      | _ => exact absurd hok (by simp [xm_isA])
    · cases hs
  · cases hs
theorem xz_lstore {i : Nat} (C : xz_C X tb own cc nL ini p s m args meth c D dA lo n0 ao ho) : xz_S p l e R s m args below meth c X own cc nL ini D dA lo n0 ao ho Q (.lstore i) 2 := by
  intro pc L S M f hd hs _ _ _ _ k H locs ls hW hS hl
  obtain ⟨⟨hx, hb, hml, hown, hts, hin⟩, -, -⟩ := C
  simp only [xm_st, xm_stl] at hs
  split at hs
  · rename_i x r
    split at hs
    · rename_i hlt
      cases hs
      exact lv_lstore hx hb hd hl hlt (xz_s2 (L := L) (ad := xz_ad n0 lo ao) (i := i) (v := .long x)) (fun ls' h' => k H locs ls' hW hS h')
    · cases hs
  · cases hs
theorem xz_lstore_n {i : Fin 4} (C : xz_C X tb own cc nL ini p s m args meth c D dA lo n0 ao ho) : xz_S p l e R s m args below meth c X own cc nL ini D dA lo n0 ao ho Q (.lstore_n i) 1 := by
  intro pc L S M f hd hs _ _ _ _ k H locs ls hW hS hl
  obtain ⟨⟨hx, hb, hml, hown, hts, hin⟩, -, -⟩ := C
  simp only [xm_st, xm_stl] at hs
  split at hs
  · rename_i x r
    split at hs
    · rename_i hlt
      cases hs
      exact lv_lstore_n hx hb hd rfl hl hlt (xz_s2 (L := L) (ad := xz_ad n0 lo ao) (i := i) (v := .long x)) (fun ls' h' => k H locs ls' hW hS h')
    · cases hs
  · cases hs
theorem xz_iinc {i : Nat} {z : Int} (C : xz_C X tb own cc nL ini p s m args meth c D dA lo n0 ao ho) : xz_S p l e R s m args below meth c X own cc nL ini D dA lo n0 ao ho Q (.iinc i z) 3 := by
  intro pc L S M f hd hs _ _ _ _ k H locs ls hW hS hl
  obtain ⟨⟨hx, hb, hml, hown, hts, hin⟩, -, -⟩ := C
  simp only [xm_st, xm_inc] at hs
  split at hs
  · rename_i x hv
    split at hs
    · rename_i hlt
      cases hs
      obtain ⟨j, hj⟩ := List.getElem?_of_mem (List.mem_map.mpr ⟨(i, Value.int x), xm_get_mem hv, rfl⟩ : (i, xz_v (xz_ad n0 lo ao) (Value.int x)) ∈ L.map (fun q => (q.1, xz_v (xz_ad n0 lo ao) q.2)))
      exact lv_iinc (k := j) hx hb hd hl hj rfl hlt (xz_s1 (L := L) (ad := xz_ad n0 lo ao) (i := i) (v := .int (x + Int32.ofInt z))) (fun ls' h' => k H locs ls' hW hS h')
    · cases hs
  · cases hs
theorem xz_iadd (C : xz_C X tb own cc nL ini p s m args meth c D dA lo n0 ao ho) : xz_S p l e R s m args below meth c X own cc nL ini D dA lo n0 ao ho Q (.iadd) 1 := by
  intro pc L S M f hd hs _ _ _ _ k H locs ls hW hS hl
  obtain ⟨⟨hx, hb, hml, hown, hts, hin⟩, -, -⟩ := C
  simp only [xm_st, xm_ii] at hs
  split at hs
  · cases hs
    exact lv_iadd hx hb hd (k H locs ls hW hS hl)
  · cases hs
theorem xz_isub (C : xz_C X tb own cc nL ini p s m args meth c D dA lo n0 ao ho) : xz_S p l e R s m args below meth c X own cc nL ini D dA lo n0 ao ho Q (.isub) 1 := by
  intro pc L S M f hd hs _ _ _ _ k H locs ls hW hS hl
  obtain ⟨⟨hx, hb, hml, hown, hts, hin⟩, -, -⟩ := C
  simp only [xm_st, xm_ii] at hs
  split at hs
  · cases hs
    exact lv_isub hx hb hd (k H locs ls hW hS hl)
  · cases hs
theorem xz_imul (C : xz_C X tb own cc nL ini p s m args meth c D dA lo n0 ao ho) : xz_S p l e R s m args below meth c X own cc nL ini D dA lo n0 ao ho Q (.imul) 1 := by
  intro pc L S M f hd hs _ _ _ _ k H locs ls hW hS hl
  obtain ⟨⟨hx, hb, hml, hown, hts, hin⟩, -, -⟩ := C
  simp only [xm_st, xm_ii] at hs
  split at hs
  · cases hs
    exact lv_imul hx hb hd (k H locs ls hW hS hl)
  · cases hs
theorem xz_iand (C : xz_C X tb own cc nL ini p s m args meth c D dA lo n0 ao ho) : xz_S p l e R s m args below meth c X own cc nL ini D dA lo n0 ao ho Q (.iand) 1 := by
  intro pc L S M f hd hs _ _ _ _ k H locs ls hW hS hl
  obtain ⟨⟨hx, hb, hml, hown, hts, hin⟩, -, -⟩ := C
  simp only [xm_st, xm_ii] at hs
  split at hs
  · cases hs
    exact lv_iand hx hb hd (k H locs ls hW hS hl)
  · cases hs
theorem xz_ior (C : xz_C X tb own cc nL ini p s m args meth c D dA lo n0 ao ho) : xz_S p l e R s m args below meth c X own cc nL ini D dA lo n0 ao ho Q (.ior) 1 := by
  intro pc L S M f hd hs _ _ _ _ k H locs ls hW hS hl
  obtain ⟨⟨hx, hb, hml, hown, hts, hin⟩, -, -⟩ := C
  simp only [xm_st, xm_ii] at hs
  split at hs
  · cases hs
    exact lv_ior hx hb hd (k H locs ls hW hS hl)
  · cases hs
theorem xz_ixor (C : xz_C X tb own cc nL ini p s m args meth c D dA lo n0 ao ho) : xz_S p l e R s m args below meth c X own cc nL ini D dA lo n0 ao ho Q (.ixor) 1 := by
  intro pc L S M f hd hs _ _ _ _ k H locs ls hW hS hl
  obtain ⟨⟨hx, hb, hml, hown, hts, hin⟩, -, -⟩ := C
  simp only [xm_st, xm_ii] at hs
  split at hs
  · cases hs
    exact lv_ixor hx hb hd (k H locs ls hW hS hl)
  · cases hs
theorem xz_ishl (C : xz_C X tb own cc nL ini p s m args meth c D dA lo n0 ao ho) : xz_S p l e R s m args below meth c X own cc nL ini D dA lo n0 ao ho Q (.ishl) 1 := by
  intro pc L S M f hd hs _ _ _ _ k H locs ls hW hS hl
  obtain ⟨⟨hx, hb, hml, hown, hts, hin⟩, -, -⟩ := C
  simp only [xm_st, xm_ii] at hs
  split at hs
  · cases hs
    exact lv_ishl hx hb hd (k H locs ls hW hS hl)
  · cases hs
theorem xz_ishr (C : xz_C X tb own cc nL ini p s m args meth c D dA lo n0 ao ho) : xz_S p l e R s m args below meth c X own cc nL ini D dA lo n0 ao ho Q (.ishr) 1 := by
  intro pc L S M f hd hs _ _ _ _ k H locs ls hW hS hl
  obtain ⟨⟨hx, hb, hml, hown, hts, hin⟩, -, -⟩ := C
  simp only [xm_st, xm_ii] at hs
  split at hs
  · cases hs
    exact lv_ishr hx hb hd (k H locs ls hW hS hl)
  · cases hs
theorem xz_iushr (C : xz_C X tb own cc nL ini p s m args meth c D dA lo n0 ao ho) : xz_S p l e R s m args below meth c X own cc nL ini D dA lo n0 ao ho Q (.iushr) 1 := by
  intro pc L S M f hd hs _ _ _ _ k H locs ls hW hS hl
  obtain ⟨⟨hx, hb, hml, hown, hts, hin⟩, -, -⟩ := C
  simp only [xm_st, xm_ii] at hs
  split at hs
  · cases hs
    exact lv_iushr hx hb hd rfl (k H locs ls hW hS hl)
  · cases hs
theorem xz_idiv (C : xz_C X tb own cc nL ini p s m args meth c D dA lo n0 ao ho) : xz_S p l e R s m args below meth c X own cc nL ini D dA lo n0 ao ho Q (.idiv) 1 := by
  intro pc L S M f hd hs _ _ _ _ k H locs ls hW hS hl
  obtain ⟨⟨hx, hb, hml, hown, hts, hin⟩, -, -⟩ := C
  simp only [xm_st, xm_id] at hs
  split at hs
  · split at hs
    · cases hs
    · rename_i hne
      cases hs
      exact lv_idiv hx hb hd hne (k H locs ls hW hS hl)
  · cases hs
theorem xz_irem (C : xz_C X tb own cc nL ini p s m args meth c D dA lo n0 ao ho) : xz_S p l e R s m args below meth c X own cc nL ini D dA lo n0 ao ho Q (.irem) 1 := by
  intro pc L S M f hd hs _ _ _ _ k H locs ls hW hS hl
  obtain ⟨⟨hx, hb, hml, hown, hts, hin⟩, -, -⟩ := C
  simp only [xm_st, xm_id] at hs
  split at hs
  · split at hs
    · cases hs
    · rename_i hne
      cases hs
      exact lv_irem hx hb hd hne (k H locs ls hW hS hl)
  · cases hs
theorem xz_ineg (C : xz_C X tb own cc nL ini p s m args meth c D dA lo n0 ao ho) : xz_S p l e R s m args below meth c X own cc nL ini D dA lo n0 ao ho Q (.ineg) 1 := by
  intro pc L S M f hd hs _ _ _ _ k H locs ls hW hS hl
  obtain ⟨⟨hx, hb, hml, hown, hts, hin⟩, -, -⟩ := C
  simp only [xm_st, xm_c1] at hs
  split at hs
  · cases hs
    exact lv_ineg hx hb hd (k H locs ls hW hS hl)
  · cases hs
theorem xz_i2b (C : xz_C X tb own cc nL ini p s m args meth c D dA lo n0 ao ho) : xz_S p l e R s m args below meth c X own cc nL ini D dA lo n0 ao ho Q (.i2b) 1 := by
  intro pc L S M f hd hs _ _ _ _ k H locs ls hW hS hl
  obtain ⟨⟨hx, hb, hml, hown, hts, hin⟩, -, -⟩ := C
  simp only [xm_st, xm_c1] at hs
  split at hs
  · cases hs
    exact lv_i2b hx hb hd rfl (k H locs ls hW hS hl)
  · cases hs
theorem xz_i2s (C : xz_C X tb own cc nL ini p s m args meth c D dA lo n0 ao ho) : xz_S p l e R s m args below meth c X own cc nL ini D dA lo n0 ao ho Q (.i2s) 1 := by
  intro pc L S M f hd hs _ _ _ _ k H locs ls hW hS hl
  obtain ⟨⟨hx, hb, hml, hown, hts, hin⟩, -, -⟩ := C
  simp only [xm_st, xm_c1] at hs
  split at hs
  · cases hs
    exact lv_i2s hx hb hd rfl (k H locs ls hW hS hl)
  · cases hs
theorem xz_i2c (C : xz_C X tb own cc nL ini p s m args meth c D dA lo n0 ao ho) : xz_S p l e R s m args below meth c X own cc nL ini D dA lo n0 ao ho Q (.i2c) 1 := by
  intro pc L S M f hd hs _ _ _ _ k H locs ls hW hS hl
  obtain ⟨⟨hx, hb, hml, hown, hts, hin⟩, -, -⟩ := C
  simp only [xm_st, xm_c1] at hs
  split at hs
  · cases hs
    exact lv_i2c hx hb hd rfl (k H locs ls hW hS hl)
  · cases hs
theorem xz_i2l (C : xz_C X tb own cc nL ini p s m args meth c D dA lo n0 ao ho) : xz_S p l e R s m args below meth c X own cc nL ini D dA lo n0 ao ho Q (.i2l) 1 := by
  intro pc L S M f hd hs _ _ _ _ k H locs ls hW hS hl
  obtain ⟨⟨hx, hb, hml, hown, hts, hin⟩, -, -⟩ := C
  simp only [xm_st, xm_il] at hs
  split at hs
  · cases hs
    exact lv_i2l hx hb hd rfl (k H locs ls hW hS hl)
  · cases hs
theorem xz_l2i (C : xz_C X tb own cc nL ini p s m args meth c D dA lo n0 ao ho) : xz_S p l e R s m args below meth c X own cc nL ini D dA lo n0 ao ho Q (.l2i) 1 := by
  intro pc L S M f hd hs _ _ _ _ k H locs ls hW hS hl
  obtain ⟨⟨hx, hb, hml, hown, hts, hin⟩, -, -⟩ := C
  simp only [xm_st, xm_li] at hs
  split at hs
  · cases hs
    exact lv_l2i hx hb hd rfl (k H locs ls hW hS hl)
  · cases hs
theorem xz_ladd (C : xz_C X tb own cc nL ini p s m args meth c D dA lo n0 ao ho) : xz_S p l e R s m args below meth c X own cc nL ini D dA lo n0 ao ho Q (.ladd) 1 := by
  intro pc L S M f hd hs _ _ _ _ k H locs ls hW hS hl
  obtain ⟨⟨hx, hb, hml, hown, hts, hin⟩, -, -⟩ := C
  simp only [xm_st, xm_ll] at hs
  split at hs
  · cases hs
    exact lv_ladd hx hb hd (k H locs ls hW hS hl)
  · cases hs
theorem xz_lsub (C : xz_C X tb own cc nL ini p s m args meth c D dA lo n0 ao ho) : xz_S p l e R s m args below meth c X own cc nL ini D dA lo n0 ao ho Q (.lsub) 1 := by
  intro pc L S M f hd hs _ _ _ _ k H locs ls hW hS hl
  obtain ⟨⟨hx, hb, hml, hown, hts, hin⟩, -, -⟩ := C
  simp only [xm_st, xm_ll] at hs
  split at hs
  · cases hs
    exact lv_lsub hx hb hd (k H locs ls hW hS hl)
  · cases hs
theorem xz_lmul (C : xz_C X tb own cc nL ini p s m args meth c D dA lo n0 ao ho) : xz_S p l e R s m args below meth c X own cc nL ini D dA lo n0 ao ho Q (.lmul) 1 := by
  intro pc L S M f hd hs _ _ _ _ k H locs ls hW hS hl
  obtain ⟨⟨hx, hb, hml, hown, hts, hin⟩, -, -⟩ := C
  simp only [xm_st, xm_ll] at hs
  split at hs
  · cases hs
    exact lv_lmul hx hb hd (k H locs ls hW hS hl)
  · cases hs
theorem xz_land (C : xz_C X tb own cc nL ini p s m args meth c D dA lo n0 ao ho) : xz_S p l e R s m args below meth c X own cc nL ini D dA lo n0 ao ho Q (.land) 1 := by
  intro pc L S M f hd hs _ _ _ _ k H locs ls hW hS hl
  obtain ⟨⟨hx, hb, hml, hown, hts, hin⟩, -, -⟩ := C
  simp only [xm_st, xm_ll] at hs
  split at hs
  · cases hs
    exact lv_land hx hb hd (k H locs ls hW hS hl)
  · cases hs
theorem xz_lor (C : xz_C X tb own cc nL ini p s m args meth c D dA lo n0 ao ho) : xz_S p l e R s m args below meth c X own cc nL ini D dA lo n0 ao ho Q (.lor) 1 := by
  intro pc L S M f hd hs _ _ _ _ k H locs ls hW hS hl
  obtain ⟨⟨hx, hb, hml, hown, hts, hin⟩, -, -⟩ := C
  simp only [xm_st, xm_ll] at hs
  split at hs
  · cases hs
    exact lv_lor hx hb hd (k H locs ls hW hS hl)
  · cases hs
theorem xz_ldiv (C : xz_C X tb own cc nL ini p s m args meth c D dA lo n0 ao ho) : xz_S p l e R s m args below meth c X own cc nL ini D dA lo n0 ao ho Q (.ldiv) 1 := by
  intro pc L S M f hd hs _ _ _ _ k H locs ls hW hS hl
  obtain ⟨⟨hx, hb, hml, hown, hts, hin⟩, -, -⟩ := C
  simp only [xm_st, xm_ldv] at hs
  split at hs
  · split at hs
    · cases hs
    · rename_i hne
      cases hs
      exact lv_ldiv hx hb hd hne (k H locs ls hW hS hl)
  · cases hs
theorem xz_lrem (C : xz_C X tb own cc nL ini p s m args meth c D dA lo n0 ao ho) : xz_S p l e R s m args below meth c X own cc nL ini D dA lo n0 ao ho Q (.lrem) 1 := by
  intro pc L S M f hd hs _ _ _ _ k H locs ls hW hS hl
  obtain ⟨⟨hx, hb, hml, hown, hts, hin⟩, -, -⟩ := C
  simp only [xm_st, xm_ldv] at hs
  split at hs
  · split at hs
    · cases hs
    · rename_i hne
      cases hs
      exact lv_lrem hx hb hd hne (k H locs ls hW hS hl)
  · cases hs
theorem xz_lneg (C : xz_C X tb own cc nL ini p s m args meth c D dA lo n0 ao ho) : xz_S p l e R s m args below meth c X own cc nL ini D dA lo n0 ao ho Q (.lneg) 1 := by
  intro pc L S M f hd hs _ _ _ _ k H locs ls hW hS hl
  obtain ⟨⟨hx, hb, hml, hown, hts, hin⟩, -, -⟩ := C
  simp only [xm_st] at hs
  split at hs
  · cases hs
    exact lv_lneg hx hb hd (k H locs ls hW hS hl)
  · cases hs
theorem xz_lshl (C : xz_C X tb own cc nL ini p s m args meth c D dA lo n0 ao ho) : xz_S p l e R s m args below meth c X own cc nL ini D dA lo n0 ao ho Q (.lshl) 1 := by
  intro pc L S M f hd hs _ _ _ _ k H locs ls hW hS hl
  obtain ⟨⟨hx, hb, hml, hown, hts, hin⟩, -, -⟩ := C
  simp only [xm_st, xm_lsh] at hs
  split at hs
  · cases hs
    exact lv_lshl hx hb hd rfl (k H locs ls hW hS hl)
  · cases hs
theorem xz_lushr (C : xz_C X tb own cc nL ini p s m args meth c D dA lo n0 ao ho) : xz_S p l e R s m args below meth c X own cc nL ini D dA lo n0 ao ho Q (.lushr) 1 := by
  intro pc L S M f hd hs _ _ _ _ k H locs ls hW hS hl
  obtain ⟨⟨hx, hb, hml, hown, hts, hin⟩, -, -⟩ := C
  simp only [xm_st, xm_lsh] at hs
  split at hs
  · cases hs
    exact lv_lushr hx hb hd rfl (k H locs ls hW hS hl)
  · cases hs
theorem xz_lcmp (C : xz_C X tb own cc nL ini p s m args meth c D dA lo n0 ao ho) : xz_S p l e R s m args below meth c X own cc nL ini D dA lo n0 ao ho Q (.lcmp) 1 := by
  intro pc L S M f hd hs _ _ _ _ k H locs ls hW hS hl
  obtain ⟨⟨hx, hb, hml, hown, hts, hin⟩, -, -⟩ := C
  simp only [xm_st, xm_lc] at hs
  split at hs
  · cases hs
    exact W.lcmp hx hb hd (k H locs ls hW hS hl)
  · cases hs
theorem xz_dup (C : xz_C X tb own cc nL ini p s m args meth c D dA lo n0 ao ho) : xz_S p l e R s m args below meth c X own cc nL ini D dA lo n0 ao ho Q (.dup) 1 := by
  intro pc L S M f hd hs _ _ _ _ k H locs ls hW hS hl
  obtain ⟨⟨hx, hb, hml, hown, hts, hin⟩, -, -⟩ := C
  simp only [xm_st, xm_sk, xm_dup] at hs
  split at hs
  · rename_i S' hS'
    cases hs
    split at hS'
    · split at hS'
      · rename_i h1
        cases hS'
        exact lv_dup hx hb hd (by rw [xz_cat]; exact h1) (k H locs ls hW hS hl)
      · cases hS'
    · cases hS'
  · cases hs
theorem xz_pop (C : xz_C X tb own cc nL ini p s m args meth c D dA lo n0 ao ho) : xz_S p l e R s m args below meth c X own cc nL ini D dA lo n0 ao ho Q (.pop) 1 := by
  intro pc L S M f hd hs _ _ _ _ k H locs ls hW hS hl
  obtain ⟨⟨hx, hb, hml, hown, hts, hin⟩, -, -⟩ := C
  simp only [xm_st, xm_sk, xm_popv] at hs
  split at hs
  · rename_i S' hS'
    cases hs
    split at hS'
    · split at hS'
      · rename_i h1
        cases hS'
        exact lv_pop hx hb hd (by rw [xz_cat]; exact h1) (k H locs ls hW hS hl)
      · cases hS'
    · cases hS'
  · cases hs
theorem xz_dup_x1 (C : xz_C X tb own cc nL ini p s m args meth c D dA lo n0 ao ho) : xz_S p l e R s m args below meth c X own cc nL ini D dA lo n0 ao ho Q (.dup_x1) 1 := by
  intro pc L S M f hd hs _ _ _ _ k H locs ls hW hS hl
  obtain ⟨⟨hx, hb, hml, hown, hts, hin⟩, -, -⟩ := C
  simp only [xm_st, xm_sk, xm_dx1] at hs
  split at hs
  · rename_i S' hS'
    cases hs
    split at hS'
    · split at hS'
      · rename_i h1
        cases hS'
        exact lv_dup_x1 hx hb hd (by rw [xz_cat]; exact h1.1) (by rw [xz_cat]; exact h1.2) (k H locs ls hW hS hl)
      · cases hS'
    · cases hS'
  · cases hs
theorem xz_dup_x2 (C : xz_C X tb own cc nL ini p s m args meth c D dA lo n0 ao ho) : xz_S p l e R s m args below meth c X own cc nL ini D dA lo n0 ao ho Q (.dup_x2) 1 := by
  intro pc L S M f hd hs _ _ _ _ k H locs ls hW hS hl
  obtain ⟨⟨hx, hb, hml, hown, hts, hin⟩, -, -⟩ := C
  simp only [xm_st, xm_sk, xm_dx2] at hs
  split at hs
  · rename_i S' hS'
    cases hs
    split at hS'
    · split at hS'
      · rename_i h1
        cases hS'
        exact lv_dup_x2 hx hb hd (by rw [xz_cat]; exact h1.1) (by rw [xz_cat]; exact h1.2.1) (by rw [xz_cat]; exact h1.2.2) (k H locs ls hW hS hl)
      · cases hS'
    · cases hS'
  · cases hs
theorem xz_dup2 (C : xz_C X tb own cc nL ini p s m args meth c D dA lo n0 ao ho) : xz_S p l e R s m args below meth c X own cc nL ini D dA lo n0 ao ho Q (.dup2) 1 := by
  intro pc L S M f hd hs _ _ _ _ k H locs ls hW hS hl
  obtain ⟨⟨hx, hb, hml, hown, hts, hin⟩, -, -⟩ := C
  simp only [xm_st, xm_sk, xm_d2] at hs
  split at hs
  · rename_i S' hS'
    cases hs
    split at hS'
    · split at hS'
      · rename_i h1
        cases hS'
        exact lv_dup2_2 hx hb hd (by rw [xz_cat]; exact h1) (k H locs ls hW hS hl)
      · split at hS'
        · rename_i h1
          cases hS'
          exact lv_dup2_11 hx hb hd (by rw [xz_cat]; exact h1.2) (by rw [xz_cat]; exact h1.1) (k H locs ls hW hS hl)
        · cases hS'
    · split at hS'
      · rename_i h1
        cases hS'
        exact lv_dup2_2 hx hb hd (by rw [xz_cat]; exact h1) (k H locs ls hW hS hl)
      · cases hS'
    · cases hS'
  · cases hs
theorem xz_pop2 (C : xz_C X tb own cc nL ini p s m args meth c D dA lo n0 ao ho) : xz_S p l e R s m args below meth c X own cc nL ini D dA lo n0 ao ho Q (.pop2) 1 := by
  intro pc L S M f hd hs _ _ _ _ k H locs ls hW hS hl
  obtain ⟨⟨hx, hb, hml, hown, hts, hin⟩, -, -⟩ := C
  simp only [xm_st, xm_sk, xm_p2] at hs
  split at hs
  · rename_i S' hS'
    cases hs
    split at hS'
    · split at hS'
      · rename_i h1
        cases hS'
        exact lv_pop2_2 hx hb hd (by rw [xz_cat]; exact h1) (k H locs ls hW hS hl)
      · split at hS'
        · rename_i h1
          cases hS'
          exact lv_pop2_11 hx hb hd (by rw [xz_cat]; exact h1.2) (by rw [xz_cat]; exact h1.1) (k H locs ls hW hS hl)
        · cases hS'
    · split at hS'
      · rename_i h1
        cases hS'
        exact lv_pop2_2 hx hb hd (by rw [xz_cat]; exact h1) (k H locs ls hW hS hl)
      · cases hS'
    · cases hS'
  · cases hs
theorem xz_if_eq {off : Int} (C : xz_C X tb own cc nL ini p s m args meth c D dA lo n0 ao ho) : xz_S p l e R s m args below meth c X own cc nL ini D dA lo n0 ao ho Q (.ifCond .eq off) 3 := by
  intro pc L S M f hd hs _ _ _ _ k H locs ls hW hS hl
  obtain ⟨⟨hx, hb, hml, hown, hts, hin⟩, -, -⟩ := C
  simp only [xm_st, xm_b1] at hs
  split at hs
  · simp only [xm_br] at hs
    split at hs
    · rename_i t ht
      cases hs
      refine lv_if_eq hx hb hd (xz_j ht) (fun hc => ?_) (fun hc => ?_)
      · have k := k H locs ls hW hS hl
        simp only [hc, decide_true, decide_false, Bool.not_true, Bool.not_false, if_true, if_false, Bool.false_eq_true] at k
        exact k
      · have k := k H locs ls hW hS hl
        simp only [hc, decide_true, decide_false, Bool.not_true, Bool.not_false, if_true, if_false, Bool.false_eq_true] at k
        exact k
    · cases hs
  · cases hs
theorem xz_icmp_eq {off : Int} (C : xz_C X tb own cc nL ini p s m args meth c D dA lo n0 ao ho) : xz_S p l e R s m args below meth c X own cc nL ini D dA lo n0 ao ho Q (.if_icmp .eq off) 3 := by
  intro pc L S M f hd hs _ _ _ _ k H locs ls hW hS hl
  obtain ⟨⟨hx, hb, hml, hown, hts, hin⟩, -, -⟩ := C
  simp only [xm_st, xm_b2] at hs
  split at hs
  · simp only [xm_br] at hs
    split at hs
    · rename_i t ht
      cases hs
      refine lv_icmp_eq hx hb hd (xz_j ht) (fun hc => ?_) (fun hc => ?_)
      · have k := k H locs ls hW hS hl
        simp only [hc, decide_true, decide_false, Bool.not_true, Bool.not_false, if_true, if_false, Bool.false_eq_true] at k
        exact k
      · have k := k H locs ls hW hS hl
        simp only [hc, decide_true, decide_false, Bool.not_true, Bool.not_false, if_true, if_false, Bool.false_eq_true] at k
        exact k
    · cases hs
  · cases hs
theorem xz_if_ne {off : Int} (C : xz_C X tb own cc nL ini p s m args meth c D dA lo n0 ao ho) : xz_S p l e R s m args below meth c X own cc nL ini D dA lo n0 ao ho Q (.ifCond .ne off) 3 := by
  intro pc L S M f hd hs _ _ _ _ k H locs ls hW hS hl
  obtain ⟨⟨hx, hb, hml, hown, hts, hin⟩, -, -⟩ := C
  simp only [xm_st, xm_b1] at hs
  split at hs
  · simp only [xm_br] at hs
    split at hs
    · rename_i t ht
      cases hs
      refine lv_if_ne hx hb hd (xz_j ht) (fun hc => ?_) (fun hc => ?_)
      · have k := k H locs ls hW hS hl
        simp only [hc, decide_true, decide_false, Bool.not_true, Bool.not_false, if_true, if_false, Bool.false_eq_true] at k
        exact k
      · have k := k H locs ls hW hS hl
        simp only [hc, decide_true, decide_false, Bool.not_true, Bool.not_false, if_true, if_false, Bool.false_eq_true] at k
        exact k
    · cases hs
  · cases hs
theorem xz_icmp_ne {off : Int} (C : xz_C X tb own cc nL ini p s m args meth c D dA lo n0 ao ho) : xz_S p l e R s m args below meth c X own cc nL ini D dA lo n0 ao ho Q (.if_icmp .ne off) 3 := by
  intro pc L S M f hd hs _ _ _ _ k H locs ls hW hS hl
  obtain ⟨⟨hx, hb, hml, hown, hts, hin⟩, -, -⟩ := C
  simp only [xm_st, xm_b2] at hs
  split at hs
  · simp only [xm_br] at hs
    split at hs
    · rename_i t ht
      cases hs
      refine lv_icmp_ne hx hb hd (xz_j ht) (fun hc => ?_) (fun hc => ?_)
      · have k := k H locs ls hW hS hl
        simp only [hc, decide_true, decide_false, Bool.not_true, Bool.not_false, if_true, if_false, Bool.false_eq_true] at k
        exact k
      · have k := k H locs ls hW hS hl
        simp only [hc, decide_true, decide_false, Bool.not_true, Bool.not_false, if_true, if_false, Bool.false_eq_true] at k
        exact k
    · cases hs
  · cases hs
theorem xz_if_lt {off : Int} (C : xz_C X tb own cc nL ini p s m args meth c D dA lo n0 ao ho) : xz_S p l e R s m args below meth c X own cc nL ini D dA lo n0 ao ho Q (.ifCond .lt off) 3 := by
  intro pc L S M f hd hs _ _ _ _ k H locs ls hW hS hl
  obtain ⟨⟨hx, hb, hml, hown, hts, hin⟩, -, -⟩ := C
  simp only [xm_st, xm_b1] at hs
  split at hs
  · simp only [xm_br] at hs
    split at hs
    · rename_i t ht
      cases hs
      refine lv_if_lt hx hb hd (xz_j ht) (fun hc => ?_) (fun hc => ?_)
      · have k := k H locs ls hW hS hl
        simp only [hc, decide_true, decide_false, Bool.not_true, Bool.not_false, if_true, if_false, Bool.false_eq_true] at k
        exact k
      · have k := k H locs ls hW hS hl
        simp only [hc, decide_true, decide_false, Bool.not_true, Bool.not_false, if_true, if_false, Bool.false_eq_true] at k
        exact k
    · cases hs
  · cases hs
theorem xz_icmp_lt {off : Int} (C : xz_C X tb own cc nL ini p s m args meth c D dA lo n0 ao ho) : xz_S p l e R s m args below meth c X own cc nL ini D dA lo n0 ao ho Q (.if_icmp .lt off) 3 := by
  intro pc L S M f hd hs _ _ _ _ k H locs ls hW hS hl
  obtain ⟨⟨hx, hb, hml, hown, hts, hin⟩, -, -⟩ := C
  simp only [xm_st, xm_b2] at hs
  split at hs
  · simp only [xm_br] at hs
    split at hs
    · rename_i t ht
      cases hs
      refine lv_icmp_lt hx hb hd (xz_j ht) (fun hc => ?_) (fun hc => ?_)
      · have k := k H locs ls hW hS hl
        simp only [hc, decide_true, decide_false, Bool.not_true, Bool.not_false, if_true, if_false, Bool.false_eq_true] at k
        exact k
      · have k := k H locs ls hW hS hl
        simp only [hc, decide_true, decide_false, Bool.not_true, Bool.not_false, if_true, if_false, Bool.false_eq_true] at k
        exact k
    · cases hs
  · cases hs
theorem xz_if_ge {off : Int} (C : xz_C X tb own cc nL ini p s m args meth c D dA lo n0 ao ho) : xz_S p l e R s m args below meth c X own cc nL ini D dA lo n0 ao ho Q (.ifCond .ge off) 3 := by
  intro pc L S M f hd hs _ _ _ _ k H locs ls hW hS hl
  obtain ⟨⟨hx, hb, hml, hown, hts, hin⟩, -, -⟩ := C
  simp only [xm_st, xm_b1] at hs
  split at hs
  · simp only [xm_br] at hs
    split at hs
    · rename_i t ht
      cases hs
      refine lv_if_ge hx hb hd (xz_j ht) (fun hc => ?_) (fun hc => ?_)
      · have k := k H locs ls hW hS hl
        simp only [hc, decide_true, decide_false, Bool.not_true, Bool.not_false, if_true, if_false, Bool.false_eq_true] at k
        exact k
      · have k := k H locs ls hW hS hl
        simp only [hc, decide_true, decide_false, Bool.not_true, Bool.not_false, if_true, if_false, Bool.false_eq_true] at k
        exact k
    · cases hs
  · cases hs
theorem xz_icmp_ge {off : Int} (C : xz_C X tb own cc nL ini p s m args meth c D dA lo n0 ao ho) : xz_S p l e R s m args below meth c X own cc nL ini D dA lo n0 ao ho Q (.if_icmp .ge off) 3 := by
  intro pc L S M f hd hs _ _ _ _ k H locs ls hW hS hl
  obtain ⟨⟨hx, hb, hml, hown, hts, hin⟩, -, -⟩ := C
  simp only [xm_st, xm_b2] at hs
  split at hs
  · simp only [xm_br] at hs
    split at hs
    · rename_i t ht
      cases hs
      refine lv_icmp_ge hx hb hd (xz_j ht) (fun hc => ?_) (fun hc => ?_)
      · have k := k H locs ls hW hS hl
        simp only [hc, decide_true, decide_false, Bool.not_true, Bool.not_false, if_true, if_false, Bool.false_eq_true] at k
        exact k
      · have k := k H locs ls hW hS hl
        simp only [hc, decide_true, decide_false, Bool.not_true, Bool.not_false, if_true, if_false, Bool.false_eq_true] at k
        exact k
    · cases hs
  · cases hs
theorem xz_if_gt {off : Int} (C : xz_C X tb own cc nL ini p s m args meth c D dA lo n0 ao ho) : xz_S p l e R s m args below meth c X own cc nL ini D dA lo n0 ao ho Q (.ifCond .gt off) 3 := by
  intro pc L S M f hd hs _ _ _ _ k H locs ls hW hS hl
  obtain ⟨⟨hx, hb, hml, hown, hts, hin⟩, -, -⟩ := C
  simp only [xm_st, xm_b1] at hs
  split at hs
  · simp only [xm_br] at hs
    split at hs
    · rename_i t ht
      cases hs
      refine lv_if_gt hx hb hd (xz_j ht) (fun hc => ?_) (fun hc => ?_)
      · have k := k H locs ls hW hS hl
        simp only [hc, decide_true, decide_false, Bool.not_true, Bool.not_false, if_true, if_false, Bool.false_eq_true] at k
        exact k
      · have k := k H locs ls hW hS hl
        simp only [hc, decide_true, decide_false, Bool.not_true, Bool.not_false, if_true, if_false, Bool.false_eq_true] at k
        exact k
    · cases hs
  · cases hs
theorem xz_icmp_gt {off : Int} (C : xz_C X tb own cc nL ini p s m args meth c D dA lo n0 ao ho) : xz_S p l e R s m args below meth c X own cc nL ini D dA lo n0 ao ho Q (.if_icmp .gt off) 3 := by
  intro pc L S M f hd hs _ _ _ _ k H locs ls hW hS hl
  obtain ⟨⟨hx, hb, hml, hown, hts, hin⟩, -, -⟩ := C
  simp only [xm_st, xm_b2] at hs
  split at hs
  · simp only [xm_br] at hs
    split at hs
    · rename_i t ht
      cases hs
      refine lv_icmp_gt hx hb hd (xz_j ht) (fun hc => ?_) (fun hc => ?_)
      · have k := k H locs ls hW hS hl
        simp only [hc, decide_true, decide_false, Bool.not_true, Bool.not_false, if_true, if_false, Bool.false_eq_true] at k
        exact k
      · have k := k H locs ls hW hS hl
        simp only [hc, decide_true, decide_false, Bool.not_true, Bool.not_false, if_true, if_false, Bool.false_eq_true] at k
        exact k
    · cases hs
  · cases hs
theorem xz_if_le {off : Int} (C : xz_C X tb own cc nL ini p s m args meth c D dA lo n0 ao ho) : xz_S p l e R s m args below meth c X own cc nL ini D dA lo n0 ao ho Q (.ifCond .le off) 3 := by
  intro pc L S M f hd hs _ _ _ _ k H locs ls hW hS hl
  obtain ⟨⟨hx, hb, hml, hown, hts, hin⟩, -, -⟩ := C
  simp only [xm_st, xm_b1] at hs
  split at hs
  · simp only [xm_br] at hs
    split at hs
    · rename_i t ht
      cases hs
      refine lv_if_le hx hb hd (xz_j ht) (fun hc => ?_) (fun hc => ?_)
      · have k := k H locs ls hW hS hl
        simp only [hc, decide_true, decide_false, Bool.not_true, Bool.not_false, if_true, if_false, Bool.false_eq_true] at k
        exact k
      · have k := k H locs ls hW hS hl
        simp only [hc, decide_true, decide_false, Bool.not_true, Bool.not_false, if_true, if_false, Bool.false_eq_true] at k
        exact k
    · cases hs
  · cases hs
theorem xz_icmp_le {off : Int} (C : xz_C X tb own cc nL ini p s m args meth c D dA lo n0 ao ho) : xz_S p l e R s m args below meth c X own cc nL ini D dA lo n0 ao ho Q (.if_icmp .le off) 3 := by
  intro pc L S M f hd hs _ _ _ _ k H locs ls hW hS hl
  obtain ⟨⟨hx, hb, hml, hown, hts, hin⟩, -, -⟩ := C
  simp only [xm_st, xm_b2] at hs
  split at hs
  · simp only [xm_br] at hs
    split at hs
    · rename_i t ht
      cases hs
      refine lv_icmp_le hx hb hd (xz_j ht) (fun hc => ?_) (fun hc => ?_)
      · have k := k H locs ls hW hS hl
        simp only [hc, decide_true, decide_false, Bool.not_true, Bool.not_false, if_true, if_false, Bool.false_eq_true] at k
        exact k
      · have k := k H locs ls hW hS hl
        simp only [hc, decide_true, decide_false, Bool.not_true, Bool.not_false, if_true, if_false, Bool.false_eq_true] at k
        exact k
    · cases hs
  · cases hs
theorem xz_goto {off : Int} (C : xz_C X tb own cc nL ini p s m args meth c D dA lo n0 ao ho) : xz_S p l e R s m args below meth c X own cc nL ini D dA lo n0 ao ho Q (.goto off) 3 := by
  intro pc L S M f hd hs _ _ _ _ k H locs ls hW hS hl
  obtain ⟨⟨hx, hb, hml, hown, hts, hin⟩, -, -⟩ := C
  simp only [xm_st] at hs
  split at hs
  · rename_i t ht
    cases hs
    exact lv_goto hx hb hd (xz_j ht) (k H locs ls hW hS hl)
  · cases hs
theorem xz_ifnull {off : Int} (C : xz_C X tb own cc nL ini p s m args meth c D dA lo n0 ao ho) : xz_S p l e R s m args below meth c X own cc nL ini D dA lo n0 ao ho Q (.ifnull off) 3 := by
  intro pc L S M f hd hs _ _ _ _ k H locs ls hW hS hl
  obtain ⟨⟨hx, hb, hml, hown, hts, hin⟩, -, -⟩ := C
  simp only [xm_st, xm_bn] at hs
  split at hs
  · simp only [xm_br] at hs
    split at hs
    · rename_i t ht
      cases hs
      exact lv_ifnullN hx hb hd (xz_j ht) (k H locs ls hW hS hl)
    · cases hs
  · simp only [xm_br] at hs
    split at hs
    · rename_i t ht
      cases hs
      exact lv_ifnull hx hb hd (k H locs ls hW hS hl)
    · cases hs
  · cases hs
theorem xz_ifnonnull {off : Int} (C : xz_C X tb own cc nL ini p s m args meth c D dA lo n0 ao ho) : xz_S p l e R s m args below meth c X own cc nL ini D dA lo n0 ao ho Q (.ifnonnull off) 3 := by
  intro pc L S M f hd hs _ _ _ _ k H locs ls hW hS hl
  obtain ⟨⟨hx, hb, hml, hown, hts, hin⟩, -, -⟩ := C
  simp only [xm_st, xm_bn] at hs
  split at hs
  · simp only [xm_br] at hs
    split at hs
    · rename_i t ht
      cases hs
      exact lv_ifnonnullN hx hb hd (k H locs ls hW hS hl)
    · cases hs
  · simp only [xm_br] at hs
    split at hs
    · rename_i t ht
      cases hs
      exact lv_ifnonnull hx hb hd (xz_j ht) (k H locs ls hW hS hl)
    · cases hs
  · cases hs
theorem xz_lookupswitch {dv : Int} {ps : Array (Int × Int)} {ln : Nat} (C : xz_C X tb own cc nL ini p s m args meth c D dA lo n0 ao ho) : xz_S p l e R s m args below meth c X own cc nL ini D dA lo n0 ao ho Q (.lookupswitch dv ps) ln := by
  intro pc L S M f hd hs _ _ _ _ k H locs ls hW hS hl
  obtain ⟨⟨hx, hb, hml, hown, hts, hin⟩, -, -⟩ := C
  simp only [xm_st, xm_lsw] at hs
  split at hs
  · split at hs
    · rename_i hp
      split at hs
      · rename_i t ht
        cases hs
        exact lv_lookup hx hb hd hp rfl (xz_j ht) (k H locs ls hW hS hl)
      · cases hs
    · cases hs
  · cases hs
theorem xz_tableswitch {dv lw hg : Int} {os : Array Int} {ln : Nat} (C : xz_C X tb own cc nL ini p s m args meth c D dA lo n0 ao ho) : xz_S p l e R s m args below meth c X own cc nL ini D dA lo n0 ao ho Q (.tableswitch dv lw hg os) ln := by
  intro pc L S M f hd hs _ _ _ _ k H locs ls hW hS hl
  obtain ⟨⟨hx, hb, hml, hown, hts, hin⟩, -, -⟩ := C
  simp only [xm_st, xm_tsw] at hs
  split at hs
  · split at hs
    · rename_i o ho
      split at hs
      · rename_i t ht
        cases hs
        split at ho
        · rename_i hc
          cases ho
          exact lv_tableOut hx hb hd hc (xz_j ht) (k H locs ls hW hS hl)
        · rename_i hc
          exact lv_tableIn hx hb hd (fun q => hc (Or.inl q)) (fun q => hc (Or.inr q)) ho (xz_j ht) (k H locs ls hW hS hl)
      · cases hs
    · cases hs
  · cases hs
end XZ
