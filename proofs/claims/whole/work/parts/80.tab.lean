/-! the tables of this claim, written by a program out of the Statement -/
def xt_al : List Cond := Cond.code x code maxLocals ret :: lw_tbl
/-- of these words alone the heap has a say in laysStatic -/
def xt_nl (v : Cond) : Bool := match v with
  | .laysStatic .. => false
  | _ => true
def xt_tb : List Cond := xt_al.filter xt_nl
def xt_look {α : Type} : List (String × Nat × α) → String → Nat → Option α
  | [], _, _ => none
  | e :: r, own, idx => if e.2.1 = idx ∧ e.1 = own then some e.2.2 else xt_look r own idx
theorem xt_look_mem {α : Type} : ∀ {t : List (String × Nat × α)} {own : String} {idx : Nat} {v : α}, xt_look t own idx = some v → (own, idx, v) ∈ t
  | [], _, _, _, h => by cases h
  | e :: r, own, idx, v, h => by
    unfold xt_look at h
    split at h
    · rename_i hc
      obtain ⟨h1, h2⟩ := hc
      cases h
      subst h1
      subst h2
      exact List.mem_cons_self
    · exact List.mem_cons_of_mem _ (xt_look_mem h)
def xt_lk : List (Nat × Instr × Nat) → Nat → Option (Instr × Nat)
  | [], _ => none
  | e :: r, pc => if e.1 = pc then some e.2 else xt_lk r pc
theorem xt_lk_mem : ∀ {t : List (Nat × Instr × Nat)} {pc : Nat} {v : Instr × Nat}, xt_lk t pc = some v → (pc, v) ∈ t
  | [], _, _, h => by cases h
  | e :: r, pc, v, h => by
    unfold xt_lk at h
    split at h
    · rename_i hc
      cases h
      subst hc
      exact List.mem_cons_self
    · exact List.mem_cons_of_mem _ (xt_lk_mem h)
def xt_ia (i : Nat) (v : Cond) : Bool := decide (tables_1[i]? = some v)
def xt_in (i : Nat) (v : Cond) : Bool := xt_nl v && decide (tables_1[i]? = some v)
def xt_ps (i : Nat) (v : Cond) : Bool := xt_nl v && decide ((k2_sels lw_privs)[i]? = some v)
theorem xt_ia_mem {i : Nat} {v : Cond} (h : xt_ia i v = true) : v ∈ xt_al := List.mem_cons_of_mem _ (List.mem_append_right _ (List.mem_of_getElem? (of_decide_eq_true h)))
theorem xt_in_mem {i : Nat} {v : Cond} (h : xt_in i v = true) : v ∈ xt_tb := by
  unfold xt_in at h
  rw [Bool.and_eq_true] at h
  exact List.mem_filter.mpr ⟨List.mem_cons_of_mem _ (List.mem_append_right _ (List.mem_of_getElem? (of_decide_eq_true h.2))), h.1⟩
theorem xt_ps_mem {i : Nat} {v : Cond} (h : xt_ps i v = true) : v ∈ xt_tb := by
  unfold xt_ps at h
  rw [Bool.and_eq_true] at h
  exact List.mem_filter.mpr ⟨List.mem_cons_of_mem _ (List.mem_append_left _ (List.mem_of_getElem? (of_decide_eq_true h.2))), h.1⟩
def xt_T0 : u_T := fun k => match k with
  | 0 => ("TabKernel", "line", "Ljava/lang/StringBuilder;", true)
  | 1 => ("TabKernel", "scratch", "Ljava/lang/StringBuilder;", true)
  | 2 => ("TabKernel", "reader", "LTabKernel$AddressReader;", true)
  | 3 => ("TabKernel", "jar", "LTabKernel$Jar;", true)
  | 4 => ("TabKernel", "storage", "LTabKernel$Storage;", true)
  | 5 => ("TabKernel", "messages", "[LTabKernel$Message;", true)
  | 6 => ("TabKernel", "messageCount", "I", false)
  | 7 => ("TabKernel", "tops", "[LTabKernel$Frame;", true)
  | 8 => ("TabKernel", "frames", "[LTabKernel$Frame;", true)
  | 9 => ("TabKernel", "requests", "[LTabKernel$Request;", true)
  | 10 => ("TabKernel", "focused", "I", false)
  | _ => ("TabKernel", "latest", "Ljava/lang/String;", false)
def xt_t0 : Nat → FieldType := fun k => match k with
  | 0 => .object "java/lang/StringBuilder"
  | 1 => .object "java/lang/StringBuilder"
  | 2 => .object "TabKernel$AddressReader"
  | 3 => .object "TabKernel$Jar"
  | 4 => .object "TabKernel$Storage"
  | 5 => .array (.object "TabKernel$Message")
  | 6 => .int
  | 7 => .array (.object "TabKernel$Frame")
  | 8 => .array (.object "TabKernel$Frame")
  | 9 => .array (.object "TabKernel$Request")
  | 10 => .int
  | _ => .object "java/lang/String"
def xt_T1 : u_T := fun k => match k with
  | 0 => ("java/lang/AbstractStringBuilder", "value", "[B", false)
  | 1 => ("java/lang/AbstractStringBuilder", "coder", "B", false)
  | 2 => ("java/lang/AbstractStringBuilder", "maybeLatin1", "Z", false)
  | _ => ("java/lang/AbstractStringBuilder", "count", "I", false)
def xt_t1 : Nat → FieldType := fun k => match k with
  | 0 => .array (.byte)
  | 1 => .byte
  | 2 => .boolean
  | _ => .int
def xt_T2 : u_T := fun k => match k with
  | 0 => ("TabKernel$AddressReader", "scratch", "Ljava/lang/StringBuilder;", true)
  | 1 => ("TabKernel$AddressReader", "text", "Ljava/lang/String;", false)
  | 2 => ("TabKernel$AddressReader", "at", "I", false)
  | 3 => ("TabKernel$AddressReader", "secure", "Z", false)
  | 4 => ("TabKernel$AddressReader", "host", "Ljava/lang/String;", false)
  | 5 => ("TabKernel$AddressReader", "port", "I", false)
  | 6 => ("TabKernel$AddressReader", "path", "Ljava/lang/String;", false)
  | _ => ("TabKernel$AddressReader", "query", "Ljava/lang/String;", false)
def xt_t2 : Nat → FieldType := fun k => match k with
  | 0 => .object "java/lang/StringBuilder"
  | 1 => .object "java/lang/String"
  | 2 => .int
  | 3 => .boolean
  | 4 => .object "java/lang/String"
  | 5 => .int
  | 6 => .object "java/lang/String"
  | _ => .object "java/lang/String"
def xt_T3 : u_T := fun k => match k with
  | 0 => ("TabKernel$Storage", "origins", "[LTabKernel$Address;", true)
  | 1 => ("TabKernel$Storage", "values", "[I", true)
  | _ => ("TabKernel$Storage", "size", "I", false)
def xt_t3 : Nat → FieldType := fun k => match k with
  | 0 => .array (.object "TabKernel$Address")
  | 1 => .array (.int)
  | _ => .int
def xt_T4 : u_T := fun k => match k with
  | 0 => ("TabKernel$Jar", "quota", "I", true)
  | 1 => ("TabKernel$Jar", "suffixes", "LTabKernel$Suffixes;", true)
  | 2 => ("TabKernel$Jar", "rows", "[LTabKernel$Cookie;", true)
  | 3 => ("TabKernel$Jar", "size", "I", false)
  | 4 => ("TabKernel$Jar", "going", "[LTabKernel$Cookie;", true)
  | _ => ("TabKernel$Jar", "time", "I", false)
def xt_t4 : Nat → FieldType := fun k => match k with
  | 0 => .int
  | 1 => .object "TabKernel$Suffixes"
  | 2 => .array (.object "TabKernel$Cookie")
  | 3 => .int
  | 4 => .array (.object "TabKernel$Cookie")
  | _ => .int
def xt_T5 : u_T := fun k => match k with
  | 0 => ("TabKernel$Suffixes", "rows", "[LTabKernel$Suffix;", true)
  | _ => ("TabKernel$Suffixes", "size", "I", false)
def xt_t5 : Nat → FieldType := fun k => match k with
  | 0 => .array (.object "TabKernel$Suffix")
  | _ => .int
def xt_T6 : u_T := fun k => match k with
  | 0 => ("java/lang/String", "value", "[B", true)
  | 1 => ("java/lang/String", "coder", "B", true)
  | 2 => ("java/lang/String", "hash", "I", false)
  | _ => ("java/lang/String", "hashIsZero", "Z", false)
def xt_t6 : Nat → FieldType := fun k => match k with
  | 0 => .array (.byte)
  | 1 => .byte
  | 2 => .int
  | _ => .boolean
def xt_T7 : u_T := fun k => match k with
  | _ => ("TabKernel$Suffix", "host", "Ljava/lang/String;", true)
def xt_t7 : Nat → FieldType := fun k => match k with
  | _ => .object "java/lang/String"
def xt_T8 : u_T := fun k => match k with
  | 0 => ("TabKernel$Address", "secure", "Z", true)
  | 1 => ("TabKernel$Address", "host", "Ljava/lang/String;", true)
  | 2 => ("TabKernel$Address", "port", "I", true)
  | 3 => ("TabKernel$Address", "path", "Ljava/lang/String;", true)
  | 4 => ("TabKernel$Address", "query", "Ljava/lang/String;", true)
  | _ => ("TabKernel$Address", "text", "Ljava/lang/String;", true)
def xt_t8 : Nat → FieldType := fun k => match k with
  | 0 => .boolean
  | 1 => .object "java/lang/String"
  | 2 => .int
  | 3 => .object "java/lang/String"
  | 4 => .object "java/lang/String"
  | _ => .object "java/lang/String"
def xt_T9 : u_T := fun k => match k with
  | 0 => ("TabKernel$Frame", "number", "I", true)
  | 1 => ("TabKernel$Frame", "tab", "I", true)
  | 2 => ("TabKernel$Frame", "parent", "LTabKernel$Frame;", true)
  | 3 => ("TabKernel$Frame", "depth", "I", true)
  | _ => ("TabKernel$Frame", "address", "LTabKernel$Address;", false)
def xt_t9 : Nat → FieldType := fun k => match k with
  | 0 => .int
  | 1 => .int
  | 2 => .object "TabKernel$Frame"
  | 3 => .int
  | _ => .object "TabKernel$Address"
def xt_T10 : u_T := fun k => match k with
  | 0 => ("TabKernel$Request", "number", "I", true)
  | 1 => ("TabKernel$Request", "frame", "LTabKernel$Frame;", true)
  | 2 => ("TabKernel$Request", "mode", "I", true)
  | 3 => ("TabKernel$Request", "with", "Z", true)
  | 4 => ("TabKernel$Request", "asker", "LTabKernel$Address;", true)
  | 5 => ("TabKernel$Request", "address", "LTabKernel$Address;", false)
  | 6 => ("TabKernel$Request", "leads", "I", false)
  | 7 => ("TabKernel$Request", "leaveForAll", "Z", false)
  | 8 => ("TabKernel$Request", "leaveFor", "LTabKernel$Address;", false)
  | _ => ("TabKernel$Request", "leaveWith", "Z", false)
def xt_t10 : Nat → FieldType := fun k => match k with
  | 0 => .int
  | 1 => .object "TabKernel$Frame"
  | 2 => .int
  | 3 => .boolean
  | 4 => .object "TabKernel$Address"
  | 5 => .object "TabKernel$Address"
  | 6 => .int
  | 7 => .boolean
  | 8 => .object "TabKernel$Address"
  | _ => .boolean
def xt_T11 : u_T := fun k => match k with
  | 0 => ("TabKernel$Cookie", "name", "Ljava/lang/String;", true)
  | 1 => ("TabKernel$Cookie", "value", "Ljava/lang/String;", true)
  | 2 => ("TabKernel$Cookie", "domain", "Ljava/lang/String;", true)
  | 3 => ("TabKernel$Cookie", "hostAlone", "Z", true)
  | 4 => ("TabKernel$Cookie", "path", "Ljava/lang/String;", true)
  | 5 => ("TabKernel$Cookie", "secure", "Z", true)
  | 6 => ("TabKernel$Cookie", "hidden", "Z", true)
  | _ => ("TabKernel$Cookie", "end", "I", true)
def xt_t11 : Nat → FieldType := fun k => match k with
  | 0 => .object "java/lang/String"
  | 1 => .object "java/lang/String"
  | 2 => .object "java/lang/String"
  | 3 => .boolean
  | 4 => .object "java/lang/String"
  | 5 => .boolean
  | 6 => .boolean
  | _ => .int
def xt_T12 : u_T := fun k => match k with
  | 0 => ("TabKernel$Message", "kind", "I", true)
  | 1 => ("TabKernel$Message", "first", "I", true)
  | 2 => ("TabKernel$Message", "second", "I", true)
  | _ => ("TabKernel$Message", "text", "Ljava/lang/String;", true)
def xt_t12 : Nat → FieldType := fun k => match k with
  | 0 => .int
  | 1 => .int
  | 2 => .int
  | _ => .object "java/lang/String"
def xt_T13 : u_T := fun k => match k with
  | 0 => ("TabKernel$CookieText", "name", "Ljava/lang/String;", true)
  | 1 => ("TabKernel$CookieText", "value", "Ljava/lang/String;", true)
  | 2 => ("TabKernel$CookieText", "domain", "Ljava/lang/String;", false)
  | 3 => ("TabKernel$CookieText", "path", "Ljava/lang/String;", false)
  | 4 => ("TabKernel$CookieText", "age", "I", false)
  | 5 => ("TabKernel$CookieText", "secure", "Z", false)
  | _ => ("TabKernel$CookieText", "hidden", "Z", false)
def xt_t13 : Nat → FieldType := fun k => match k with
  | 0 => .object "java/lang/String"
  | 1 => .object "java/lang/String"
  | 2 => .object "java/lang/String"
  | 3 => .object "java/lang/String"
  | 4 => .int
  | 5 => .boolean
  | _ => .boolean
def xt_T14 : u_T := fun k => match k with
  | 0 => ("TabKernelModel", "thrown", "I", false)
  | 1 => ("TabKernelModel", "line", "[I", true)
  | 2 => ("TabKernelModel", "lineSize", "I", false)
  | 3 => ("TabKernelModel", "at", "I", false)
  | 4 => ("TabKernelModel", "text", "[I", true)
  | 5 => ("TabKernelModel", "textSize", "[I", true)
  | 6 => ("TabKernelModel", "head", "[I", true)
  | 7 => ("TabKernelModel", "path", "[I", true)
  | 8 => ("TabKernelModel", "clean", "[I", true)
  | 9 => ("TabKernelModel", "query", "[I", true)
  | 10 => ("TabKernelModel", "headSize", "I", false)
  | 11 => ("TabKernelModel", "pathSize", "I", false)
  | 12 => ("TabKernelModel", "querySize", "I", false)
  | 13 => ("TabKernelModel", "secure", "Z", false)
  | 14 => ("TabKernelModel", "suffix", "[I", true)
  | 15 => ("TabKernelModel", "suffixSize", "[I", true)
  | 16 => ("TabKernelModel", "suffixes", "I", false)
  | 17 => ("TabKernelModel", "quota", "I", true)
  | 18 => ("TabKernelModel", "time", "I", false)
  | 19 => ("TabKernelModel", "cookies", "I", false)
  | 20 => ("TabKernelModel", "name", "[I", true)
  | 21 => ("TabKernelModel", "value", "[I", true)
  | 22 => ("TabKernelModel", "domain", "[I", true)
  | 23 => ("TabKernelModel", "where", "[I", true)
  | 24 => ("TabKernelModel", "nameSize", "[I", true)
  | 25 => ("TabKernelModel", "valueSize", "[I", true)
  | 26 => ("TabKernelModel", "domainSize", "[I", true)
  | 27 => ("TabKernelModel", "whereSize", "[I", true)
  | 28 => ("TabKernelModel", "over", "[I", true)
  | 29 => ("TabKernelModel", "alone", "[Z", true)
  | 30 => ("TabKernelModel", "safe", "[Z", true)
  | 31 => ("TabKernelModel", "hidden", "[Z", true)
  | 32 => ("TabKernelModel", "told", "[I", true)
  | 33 => ("TabKernelModel", "toldSize", "I", false)
  | 34 => ("TabKernelModel", "pathFrom", "I", false)
  | 35 => ("TabKernelModel", "pathTo", "I", false)
  | 36 => ("TabKernelModel", "age", "I", false)
  | 37 => ("TabKernelModel", "aged", "Z", false)
  | 38 => ("TabKernelModel", "from", "I", false)
  | 39 => ("TabKernelModel", "to", "I", false)
  | 40 => ("TabKernelModel", "isTab", "[Z", true)
  | 41 => ("TabKernelModel", "focused", "I", false)
  | 42 => ("TabKernelModel", "tabOf", "[I", true)
  | 43 => ("TabKernelModel", "parent", "[I", true)
  | 44 => ("TabKernelModel", "committed", "[Z", true)
  | 45 => ("TabKernelModel", "gone", "[Z", true)
  | 46 => ("TabKernelModel", "frameOf", "[I", true)
  | 47 => ("TabKernelModel", "fetches", "[I", true)
  | 48 => ("TabKernelModel", "mode", "[I", true)
  | 49 => ("TabKernelModel", "led", "[I", true)
  | 50 => ("TabKernelModel", "leave", "[I", true)
  | 51 => ("TabKernelModel", "with", "[Z", true)
  | 52 => ("TabKernelModel", "leaveWith", "[Z", true)
  | 53 => ("TabKernelModel", "origins", "I", false)
  | 54 => ("TabKernelModel", "store", "[I", true)
  | 55 => ("TabKernelModel", "messages", "I", false)
  | 56 => ("TabKernelModel", "kind", "[I", true)
  | 57 => ("TabKernelModel", "first", "[I", true)
  | 58 => ("TabKernelModel", "second", "[I", true)
  | 59 => ("TabKernelModel", "messageSize", "[I", true)
  | 60 => ("TabKernelModel", "letters", "[B", true)
  | 61 => ("TabKernelModel", "made", "[I", true)
  | 62 => ("TabKernelModel", "madeSize", "I", false)
  | 63 => ("TabKernelModel", "shown", "[I", true)
  | _ => ("TabKernelModel", "shownSize", "I", false)
def xt_t14 : Nat → FieldType := fun k => match k with
  | 0 => .int
  | 1 => .array (.int)
  | 2 => .int
  | 3 => .int
  | 4 => .array (.int)
  | 5 => .array (.int)
  | 6 => .array (.int)
  | 7 => .array (.int)
  | 8 => .array (.int)
  | 9 => .array (.int)
  | 10 => .int
  | 11 => .int
  | 12 => .int
  | 13 => .boolean
  | 14 => .array (.int)
  | 15 => .array (.int)
  | 16 => .int
  | 17 => .int
  | 18 => .int
  | 19 => .int
  | 20 => .array (.int)
  | 21 => .array (.int)
  | 22 => .array (.int)
  | 23 => .array (.int)
  | 24 => .array (.int)
  | 25 => .array (.int)
  | 26 => .array (.int)
  | 27 => .array (.int)
  | 28 => .array (.int)
  | 29 => .array (.boolean)
  | 30 => .array (.boolean)
  | 31 => .array (.boolean)
  | 32 => .array (.int)
  | 33 => .int
  | 34 => .int
  | 35 => .int
  | 36 => .int
  | 37 => .boolean
  | 38 => .int
  | 39 => .int
  | 40 => .array (.boolean)
  | 41 => .int
  | 42 => .array (.int)
  | 43 => .array (.int)
  | 44 => .array (.boolean)
  | 45 => .array (.boolean)
  | 46 => .array (.int)
  | 47 => .array (.int)
  | 48 => .array (.int)
  | 49 => .array (.int)
  | 50 => .array (.int)
  | 51 => .array (.boolean)
  | 52 => .array (.boolean)
  | 53 => .int
  | 54 => .array (.int)
  | 55 => .int
  | 56 => .array (.int)
  | 57 => .array (.int)
  | 58 => .array (.int)
  | 59 => .array (.int)
  | 60 => .array (.byte)
  | 61 => .array (.int)
  | 62 => .int
  | 63 => .array (.int)
  | _ => .int
def xt_TX : u_T := fun _ => ("", "", "", false)
def xt_cl : List vw_C := [("TabKernel", xt_T0, 12), ("java/lang/StringBuilder", xt_T1, 4), ("TabKernel$AddressReader", xt_T2, 8), ("TabKernel$Storage", xt_T3, 3), ("TabKernel$Jar", xt_T4, 6), ("TabKernel$Suffixes", xt_T5, 2), ("java/lang/String", xt_T6, 4), ("TabKernel$Suffix", xt_T7, 1), ("TabKernel$Address", xt_T8, 6), ("TabKernel$Frame", xt_T9, 5), ("TabKernel$Request", xt_T10, 10), ("TabKernel$Cookie", xt_T11, 8), ("TabKernel$Message", xt_T12, 4), ("TabKernel$CookieText", xt_T13, 7), ("TabKernelModel", xt_T14, 65), ("java/lang/IndexOutOfBoundsException", xt_TX, 0)]
def xt_ty (ci : Nat) : Nat → FieldType := match ci with
  | 0 => xt_t0
  | 1 => xt_t1
  | 2 => xt_t2
  | 3 => xt_t3
  | 4 => xt_t4
  | 5 => xt_t5
  | 6 => xt_t6
  | 7 => xt_t7
  | 8 => xt_t8
  | 9 => xt_t9
  | 10 => xt_t10
  | 11 => xt_t11
  | 12 => xt_t12
  | 13 => xt_t13
  | 14 => xt_t14
  | _ => fun _ => .int
def xt_at : List FieldType := [.int, .byte, .char, .boolean, .long, .object "TabKernel$Address", .object "TabKernel$Message", .object "TabKernel$Frame", .object "TabKernel$Request", .object "TabKernel$Suffix", .object "TabKernel$Cookie"]
def xt_ftab_0 : List (String × Nat × Nat × Nat × Nat) := [("java/lang/AbstractStringBuilder", 15, 1, 0, 58),
  ("java/lang/AbstractStringBuilder", 22, 1, 1, 59),
  ("java/lang/AbstractStringBuilder", 73, 1, 2, 60),
  ("java/lang/String", 1048, 1, 2, 61),
  ("java/lang/AbstractStringBuilder", 79, 1, 3, 62),
  ("TabKernel$AddressReader", 12, 2, 0, 82),
  ("TabKernel$AddressReader", 20, 2, 1, 83),
  ("TabKernel$AddressReader", 33, 2, 2, 84),
  ("TabKernel$AddressReader", 58, 2, 3, 85),
  ("TabKernel$AddressReader", 24, 2, 4, 86),
  ("TabKernel$AddressReader", 115, 2, 5, 87),
  ("TabKernel$AddressReader", 27, 2, 6, 88),
  ("TabKernel$AddressReader", 30, 2, 7, 89),
  ("TabKernel$Storage", 11, 3, 0, 115),
  ("TabKernel$Storage", 17, 3, 1, 116),
  ("TabKernel$Storage", 29, 3, 2, 117),
  ("TabKernel$Suffixes", 11, 5, 0, 153),
  ("TabKernel$Suffixes", 17, 5, 1, 154),
  ("TabKernel$Jar", 27, 4, 0, 162),
  ("TabKernel$Jar", 12, 4, 1, 163),
  ("TabKernel", 108, 4, 1, 164),
  ("TabKernel$Jar", 20, 4, 2, 165),
  ("TabKernel$Jar", 35, 4, 3, 166),
  ("TabKernel$Jar", 24, 4, 4, 167),
  ("TabKernel$Jar", 31, 4, 5, 168),
  ("TabKernel", 10, 0, 0, 182),
  ("TabKernel", 16, 0, 1, 183),
  ("TabKernel", 22, 0, 2, 184),
  ("TabKernel", 78, 0, 3, 185),
  ("TabKernel", 29, 0, 4, 186),
  ("TabKernel", 35, 0, 5, 187),
  ("TabKernel", 293, 0, 6, 188),
  ("TabKernel", 41, 0, 7, 189),
  ("TabKernel", 45, 0, 8, 190),
  ("TabKernel", 50, 0, 9, 191),
  ("TabKernel", 54, 0, 10, 192),
  ("TabKernel", 60, 0, 11, 193),
  ("java/lang/String", 9, 6, 0, 428),
  ("java/lang/String", 15, 6, 1, 429),
  ("TabKernel$Suffix", 7, 7, 0, 633),
  ("TabKernel$Suffixes", 28, 7, 0, 634),
  ("TabKernel$Address", 7, 8, 0, 792),
  ("TabKernel$Cookie", 64, 8, 0, 793),
  ("TabKernel$Jar", 116, 8, 0, 794),
  ("TabKernel$AddressReader", 106, 8, 0, 795),
  ("TabKernel$Address", 13, 8, 1, 796),
  ("TabKernel$Cookie", 50, 8, 1, 797),
  ("TabKernel$Jar", 88, 8, 1, 798),
  ("TabKernel$AddressReader", 111, 8, 1, 799),
  ("TabKernel$Address", 17, 8, 2, 800),
  ("TabKernel$AddressReader", 112, 8, 2, 801),
  ("TabKernel$Address", 21, 8, 3, 802),
  ("TabKernel$Cookie", 59, 8, 3, 803),
  ("TabKernel$Jar", 108, 8, 3, 804),
  ("TabKernel$AddressReader", 116, 8, 3, 805),
  ("TabKernel$Address", 24, 8, 4, 806),
  ("TabKernel$AddressReader", 117, 8, 4, 807),
  ("TabKernel$Address", 27, 8, 5, 808),
  ("TabKernel", 274, 8, 5, 809),
  ("TabKernel$Frame", 7, 9, 0, 844)]
def xt_ftab_1 : List (String × Nat × Nat × Nat × Nat) := [("TabKernel", 216, 9, 0, 845),
  ("TabKernel$Frame", 13, 9, 1, 846),
  ("TabKernel", 177, 9, 1, 847),
  ("TabKernel$Frame", 16, 9, 2, 848),
  ("TabKernel", 344, 9, 2, 849),
  ("TabKernel$Frame", 20, 9, 3, 850),
  ("TabKernel", 170, 9, 3, 851),
  ("TabKernel$Request", 30, 9, 4, 852),
  ("TabKernel", 166, 9, 4, 853),
  ("TabKernel$Request", 9, 10, 0, 882),
  ("TabKernel", 340, 10, 0, 883),
  ("TabKernel$Request", 15, 10, 1, 884),
  ("TabKernel", 212, 10, 1, 885),
  ("TabKernel$Request", 23, 10, 2, 886),
  ("TabKernel$Request", 26, 10, 3, 887),
  ("TabKernel", 223, 10, 3, 888),
  ("TabKernel$Request", 33, 10, 4, 889),
  ("TabKernel$Request", 19, 10, 5, 890),
  ("TabKernel", 227, 10, 5, 891),
  ("TabKernel$Request", 51, 10, 6, 892),
  ("TabKernel$Request", 36, 10, 7, 893),
  ("TabKernel$Request", 39, 10, 8, 894),
  ("TabKernel$Request", 42, 10, 9, 895),
  ("TabKernel$Message", 7, 12, 0, 967),
  ("TabKernel", 300, 12, 0, 968),
  ("TabKernel$Message", 13, 12, 1, 969),
  ("TabKernel", 303, 12, 1, 970),
  ("TabKernel$Message", 16, 12, 2, 971),
  ("TabKernel", 306, 12, 2, 972),
  ("TabKernel$Message", 19, 12, 3, 973),
  ("TabKernel", 309, 12, 3, 974),
  ("TabKernel$Cookie", 9, 13, 0, 1214),
  ("TabKernel$CookieText", 24, 13, 0, 1215),
  ("TabKernel$Cookie", 18, 13, 1, 1216),
  ("TabKernel$CookieText", 27, 13, 1, 1217),
  ("TabKernel$CookieText", 11, 13, 2, 1218),
  ("TabKernel$Jar", 81, 13, 2, 1219),
  ("TabKernel$CookieText", 17, 13, 3, 1220),
  ("TabKernel$Jar", 105, 13, 3, 1221),
  ("TabKernel$CookieText", 20, 13, 4, 1222),
  ("TabKernel$Jar", 121, 13, 4, 1223),
  ("TabKernel$Cookie", 22, 13, 5, 1224),
  ("TabKernel$CookieText", 86, 13, 5, 1225),
  ("TabKernel$Jar", 113, 13, 5, 1226),
  ("TabKernel$Cookie", 27, 13, 6, 1227),
  ("TabKernel$CookieText", 91, 13, 6, 1228),
  ("TabKernel$Cookie", 15, 11, 0, 1339),
  ("TabKernel$Jar", 171, 11, 0, 1340),
  ("TabKernel$Cookie", 21, 11, 1, 1341),
  ("TabKernel$Jar", 177, 11, 1, 1342),
  ("TabKernel$Cookie", 31, 11, 2, 1343),
  ("TabKernel$Jar", 73, 11, 2, 1344),
  ("TabKernel$Cookie", 34, 11, 3, 1345),
  ("TabKernel$Cookie", 37, 11, 4, 1346),
  ("TabKernel$Jar", 180, 11, 4, 1347),
  ("TabKernel$Cookie", 26, 11, 5, 1348),
  ("TabKernel$Cookie", 30, 11, 6, 1349),
  ("TabKernel$Jar", 59, 11, 6, 1350),
  ("TabKernel$Cookie", 40, 11, 7, 1351),
  ("TabKernelModel", 146, 14, 0, 1489)]
def xt_ftab_2 : List (String × Nat × Nat × Nat × Nat) := [("TabKernelModel", 7, 14, 1, 1490),
  ("TabKernelModel", 149, 14, 2, 1491),
  ("TabKernelModel", 152, 14, 3, 1492),
  ("TabKernelModel", 13, 14, 4, 1493),
  ("TabKernelModel", 16, 14, 5, 1494),
  ("TabKernelModel", 19, 14, 6, 1495),
  ("TabKernelModel", 22, 14, 7, 1496),
  ("TabKernelModel", 25, 14, 8, 1497),
  ("TabKernelModel", 28, 14, 9, 1498),
  ("TabKernelModel", 185, 14, 10, 1499),
  ("TabKernelModel", 201, 14, 11, 1500),
  ("TabKernelModel", 204, 14, 12, 1501),
  ("TabKernelModel", 192, 14, 13, 1502),
  ("TabKernelModel", 31, 14, 14, 1503),
  ("TabKernelModel", 34, 14, 15, 1504),
  ("TabKernelModel", 247, 14, 16, 1505),
  ("TabKernelModel", 143, 14, 17, 1506),
  ("TabKernelModel", 260, 14, 18, 1507),
  ("TabKernelModel", 265, 14, 19, 1508),
  ("TabKernelModel", 37, 14, 20, 1509),
  ("TabKernelModel", 40, 14, 21, 1510),
  ("TabKernelModel", 43, 14, 22, 1511),
  ("TabKernelModel", 46, 14, 23, 1512),
  ("TabKernelModel", 49, 14, 24, 1513),
  ("TabKernelModel", 52, 14, 25, 1514),
  ("TabKernelModel", 55, 14, 26, 1515),
  ("TabKernelModel", 58, 14, 27, 1516),
  ("TabKernelModel", 61, 14, 28, 1517),
  ("TabKernelModel", 64, 14, 29, 1518),
  ("TabKernelModel", 68, 14, 30, 1519),
  ("TabKernelModel", 71, 14, 31, 1520),
  ("TabKernelModel", 74, 14, 32, 1521),
  ("TabKernelModel", 307, 14, 33, 1522),
  ("TabKernelModel", 310, 14, 34, 1523),
  ("TabKernelModel", 330, 14, 35, 1524),
  ("TabKernelModel", 340, 14, 36, 1525),
  ("TabKernelModel", 313, 14, 37, 1526),
  ("TabKernelModel", 272, 14, 38, 1527),
  ("TabKernelModel", 275, 14, 39, 1528),
  ("TabKernelModel", 77, 14, 40, 1529),
  ("TabKernelModel", 80, 14, 41, 1530),
  ("TabKernelModel", 84, 14, 42, 1531),
  ("TabKernelModel", 87, 14, 43, 1532),
  ("TabKernelModel", 90, 14, 44, 1533),
  ("TabKernelModel", 93, 14, 45, 1534),
  ("TabKernelModel", 96, 14, 46, 1535),
  ("TabKernelModel", 99, 14, 47, 1536),
  ("TabKernelModel", 102, 14, 48, 1537),
  ("TabKernelModel", 105, 14, 49, 1538),
  ("TabKernelModel", 108, 14, 50, 1539),
  ("TabKernelModel", 111, 14, 51, 1540),
  ("TabKernelModel", 114, 14, 52, 1541),
  ("TabKernelModel", 461, 14, 53, 1542),
  ("TabKernelModel", 117, 14, 54, 1543),
  ("TabKernelModel", 373, 14, 55, 1544),
  ("TabKernelModel", 120, 14, 56, 1545),
  ("TabKernelModel", 123, 14, 57, 1546),
  ("TabKernelModel", 126, 14, 58, 1547),
  ("TabKernelModel", 129, 14, 59, 1548),
  ("TabKernelModel", 133, 14, 60, 1549)]
def xt_ftab_3 : List (String × Nat × Nat × Nat × Nat) := [("TabKernelModel", 137, 14, 61, 1550),
  ("TabKernelModel", 363, 14, 62, 1551),
  ("TabKernelModel", 140, 14, 63, 1552),
  ("TabKernelModel", 455, 14, 64, 1553)]
def xt_ftab : List (String × Nat × Nat × Nat × Nat) := xt_ftab_0 ++ (xt_ftab_1 ++ (xt_ftab_2 ++ (xt_ftab_3)))
def xt_ntab_0 : List (String × Nat × Nat × Nat × Nat × Nat) := [("TabKernelLaw", 8, 0, 32, 33, 1),
  ("TabKernel", 7, 1, 40, 41, 3),
  ("TabKernel", 19, 2, 73, 74, 6),
  ("TabKernel$AddressReader", 9, 1, 79, 41, 3),
  ("TabKernel", 26, 3, 107, 108, 7),
  ("TabKernel", 33, 12, 126, 962, 28),
  ("TabKernel", 39, 9, 128, 839, 26),
  ("TabKernel", 48, 10, 130, 877, 27),
  ("TabKernel", 64, 4, 133, 134, 8),
  ("TabKernel$Jar", 9, 5, 145, 146, 10),
  ("TabKernel$Suffixes", 9, 7, 151, 628, 24),
  ("TabKernel$Jar", 18, 11, 160, 944, 31),
  ("java/lang/StringBuilder", 18, 6, 390, 391, 4),
  ("TabKernel", 106, 6, 572, 391, 4),
  ("java/lang/String", 10, 6, 624, 391, 4),
  ("java/lang/StringLatin1", 1, 6, 684, 391, 4),
  ("java/lang/StringUTF16", 3, 6, 696, 391, 4),
  ("TabKernel$AddressReader", 107, 8, 786, 787, 25),
  ("TabKernel$CookieText", 12, 13, 1207, 1208, 29),
  ("TabKernelLaw", 68, 14, 1482, 1483, 11)]
def xt_ntab : List (String × Nat × Nat × Nat × Nat × Nat) := xt_ntab_0
def xt_atab_0 : List (String × Nat × Nat × Nat × Nat) := [("TabKernel$Storage", 9, 5, 113, 114),
  ("TabKernel", 33, 6, 126, 127),
  ("TabKernel", 39, 7, 128, 129),
  ("TabKernel", 48, 8, 130, 131),
  ("TabKernel$Suffixes", 9, 9, 151, 152),
  ("TabKernel$Jar", 18, 10, 160, 161)]
def xt_atab : List (String × Nat × Nat × Nat × Nat) := xt_atab_0
def xt_ctab_0 : List (String × Nat × Value × Nat) := [("java/lang/StringUTF16", 20, .int 1073741823, 57),
  ("TabKernel$AddressReader", 18, .ref 1, 81),
  ("TabKernel", 58, .ref 1, 132),
  ("java/lang/StringIndexOutOfBoundsException", 13, .ref 3, 244),
  ("jdk/internal/util/ArraysSupport", 200, .int 2147483639, 268),
  ("java/lang/AbstractStringBuilder", 39, .int 2147483647, 272),
  ("java/lang/ArrayIndexOutOfBoundsException", 13, .ref 5, 502),
  ("java/lang/String", 7, .ref 1, 579),
  ("TabKernel$Jar", 34, .int 1000000000, 651),
  ("TabKernel$AddressReader", 52, .ref 7, 668),
  ("java/lang/StringLatin1", 151, .ref 1, 683),
  ("java/lang/StringUTF16", 295, .ref 1, 692),
  ("TabKernel$AddressReader", 62, .ref 9, 700),
  ("TabKernel$AddressReader", 132, .int 65535, 720),
  ("TabKernel$AddressReader", 101, .ref 11, 732),
  ("TabKernel$AddressReader", 109, .ref 13, 748),
  ("TabKernel$AddressReader", 161, .ref 15, 767),
  ("TabKernel$AddressReader", 166, .ref 17, 783),
  ("TabKernel$Cookie", 73, .ref 11, 948),
  ("TabKernel$Jar", 163, .ref 19, 955),
  ("TabKernel", 317, .ref 21, 1085),
  ("TabKernel", 322, .ref 23, 1123),
  ("TabKernel", 324, .ref 25, 1162),
  ("TabKernel$CookieText", 9, .ref 1, 1213),
  ("TabKernel$CookieText", 63, .ref 27, 1249),
  ("TabKernel$CookieText", 94, .ref 17, 1255),
  ("TabKernel$CookieText", 72, .ref 29, 1262),
  ("TabKernel$CookieText", 73, .ref 11, 1263),
  ("TabKernel$CookieText", 79, .ref 31, 1264),
  ("TabKernel$CookieText", 100, .ref 33, 1269),
  ("TabKernel$CookieText", 84, .ref 35, 1271),
  ("TabKernel$CookieText", 89, .ref 37, 1272),
  ("java/lang/StringUTF16", 227, .int 65536, 1307),
  ("java/lang/Character", 110, .int 55232, 1323),
  ("java/lang/Character", 76, .int 56320, 1327),
  ("TabKernel$Jar", 131, .ref 11, 1333),
  ("TabKernel", 232, .ref 39, 1403),
  ("TabKernel", 347, .ref 11, 1480),
  ("TabKernelModel", 132, .int 40000, 1488),
  ("TabKernelModel", 263, .long 1000000000, 1731),
  ("TabKernelModel", 200, .int 65535, 1756),
  ("TabKernelModel", 324, .long 126879297532517, 1983),
  ("TabKernelModel", 326, .long 7526768903497608313, 1984),
  ("TabKernelModel", 328, .long 1885434984, 1985),
  ("TabKernelModel", 333, .long 110429739247982, 1986),
  ("TabKernelModel", 335, .long 30787941246789477, 1987),
  ("TabKernelModel", 467, .long 48, 2072),
  ("TabKernelModel", 469, .long 10, 2073),
  ("TabKernelLaw", 71, .long 4294967295, 2106)]
def xt_ctab : List (String × Nat × Value × Nat) := xt_ctab_0
def xt_stab_0 : List (String × Nat × Nat × Nat) := [("java/util/Arrays", 311, 4, 282),
  ("TabKernel", 1, 1, 37),
  ("java/lang/AbstractStringBuilder", 3, 1, 48),
  ("TabKernel$AddressReader", 3, 1, 78),
  ("TabKernel$Storage", 3, 1, 112),
  ("TabKernel$Jar", 3, 1, 144),
  ("TabKernel$Suffixes", 3, 1, 150),
  ("java/util/Arrays", 310, 3, 276),
  ("java/util/Arrays", 150, 2, 284),
  ("java/lang/String", 212, 2, 359),
  ("java/lang/String", 1, 1, 398),
  ("TabKernel$Suffix", 1, 1, 632),
  ("TabKernel$Address", 1, 1, 791),
  ("TabKernel$Frame", 1, 1, 843),
  ("TabKernel$Request", 3, 1, 881),
  ("TabKernel$Message", 1, 1, 966),
  ("TabKernel$CookieText", 3, 1, 1212),
  ("TabKernel$Cookie", 3, 1, 1338),
  ("TabKernelModel", 1, 1, 1487)]
def xt_stab : List (String × Nat × Nat × Nat) := xt_stab_0
/-- the formatter that the JDK's bounds checks load: a reference or null; it is never used -/
def xt_gtab (fm : Value) : List (String × Nat × Value × Nat) := [("java/lang/AbstractStringBuilder", 18, .int 1, 49),
  ("java/lang/String", 1053, fm, 304),
  ("java/lang/StringUTF16", 44, .int 1, 312),
  ("java/lang/StringUTF16", 59, .int 0, 314),
  ("java/lang/StringUTF16", 63, .int 8, 316),
  ("java/lang/String", 38, .int 1, 326),
  ("java/lang/Integer", 83, .ref 41, 374),
  ("java/lang/Integer", 87, .ref 42, 376),
  ("java/lang/StringUTF16", 403, .ref 41, 384),
  ("java/lang/StringUTF16", 407, .ref 42, 385),
  ("java/lang/StringUTF16", 251, .int 1, 693)]
def xt_X (fm : Value) : xm_T := (fun own idx => (xt_look xt_ftab own idx).map (fun e => (e.1, e.2.1)), fun own idx => (xt_look xt_ntab own idx).map (fun e => e.1), fun own idx => (xt_look xt_atab own idx).map (fun e => e.1), fun own idx => (xt_look xt_ctab own idx).map (fun e => e.1), fun own idx => (xt_look (xt_gtab fm) own idx).map (fun e => e.1), fun own idx => ((xt_look xt_stab own idx).map (fun e => e.1)).getD 0, xt_cl, xt_ty, xt_at)
