/-! from the pure machine to the machine: addresses, values, cells, worlds -/
def xz_ad (n0 lo : Nat) (ao : Nat → Nat) (i : Nat) : Nat := if i < n0 then ao i else lo + (i - n0)
def xz_v (ad : Nat → Nat) : Value → Value
  | .ref i => .ref (ad i)
  | v => v
abbrev xz_AT : Type := (Nat → Int32) ⊕ (Nat → Int64) ⊕ (Nat → UInt32) ⊕ (Nat → UInt64) ⊕ (Nat → Option Nat)
def xz_a (ad : Nat → Nat) (a : xz_AT) : xz_AT := match a with
  | .inr (.inr (.inr (.inr f))) => .inr (.inr (.inr (.inr (fun j => (f j).map ad))))
  | .inr (.inr (.inr (.inl f))) => .inr (.inr (.inr (.inl f)))
  | .inr (.inr (.inl f)) => .inr (.inr (.inl f))
  | .inr (.inl f) => .inr (.inl f)
  | .inl f => .inl f
def xz_e (dA : Nat → ClassId) (ad : Nat → Nat) (e : va_E) : va_E := match e with
  | .inr o => .inr (o.1, o.2.map (xz_v ad))
  | .inl a => .inl (dA a.1, a.2.1, xz_a ad a.2.2)
def xz_l (lo n0 n : Nat) (E : Nat → va_E) : va_W := (List.range (n - n0)).map (fun k => (lo + k, E (n0 + k)))
theorem xz_own {n0 lo : Nat} {ao : Nat → Nat} {i : Nat} (h : n0 ≤ i) : xz_ad n0 lo ao i = lo + (i - n0) := by
  unfold xz_ad; rw [if_neg (by omega)]
theorem xz_old {n0 lo : Nat} {ao : Nat → Nat} {i : Nat} (h : i < n0) : xz_ad n0 lo ao i = ao i := by
  unfold xz_ad; rw [if_pos h]
theorem xz_l_get {lo n0 n i : Nat} {E : Nat → va_E} (h0 : n0 ≤ i) (h1 : i < n) : (xz_l lo n0 n E)[i - n0]? = some (lo + (i - n0), E i) := by
  unfold xz_l
  rw [List.getElem?_map, List.getElem?_range (by omega)]
  show some (lo + (i - n0), E (n0 + (i - n0))) = _
  rw [show n0 + (i - n0) = i by omega]
theorem xz_l_at {lo n0 n k : Nat} {E : Nat → va_E} {q : Nat × va_E} (h : (xz_l lo n0 n E)[k]? = some q) : k < n - n0 ∧ q = (lo + k, E (n0 + k)) := by
  unfold xz_l at h
  rw [List.getElem?_map] at h
  by_cases hk : k < n - n0
  · rw [List.getElem?_range hk] at h
    exact ⟨hk, (Option.some.inj h).symm⟩
  · rw [List.getElem?_eq_none (by simp; omega)] at h
    cases h
theorem xz_l_D {lo n0 n : Nat} {E : Nat → va_E} : va_D (fun q => lo ≤ q) (xz_l lo n0 n E) := by
  refine ⟨fun i j p q hi hj e => ?_, fun k q h => ?_⟩
  · obtain ⟨-, rfl⟩ := xz_l_at hi
    obtain ⟨-, rfl⟩ := xz_l_at hj
    have e : lo + i = lo + j := e
    omega
  · obtain ⟨-, rfl⟩ := xz_l_at h
    exact Nat.le_add_right _ _
theorem xz_l_set {lo n0 n i : Nat} {E : Nat → va_E} {e : va_E} (h0 : n0 ≤ i) (h1 : i < n) : (xz_l lo n0 n E).set (i - n0) (lo + (i - n0), e) = xz_l lo n0 n (va_up E i e) := by
  apply List.ext_getElem?
  intro k
  rw [List.getElem?_set]
  by_cases hk : k < n - n0
  · have e1 := xz_l_get (lo := lo) (n0 := n0) (n := n) (i := n0 + k) (E := va_up E i e) (by omega) (by omega)
    have e2 := xz_l_get (lo := lo) (n0 := n0) (n := n) (i := n0 + k) (E := E) (by omega) (by omega)
    rw [show n0 + k - n0 = k by omega] at e1 e2
    rw [e1]
    by_cases hi : i - n0 = k
    · subst hi
      rw [if_pos rfl, if_pos (by simp [xz_l]; omega), show n0 + (i - n0) = i by omega]
      simp [va_up]
    · rw [if_neg hi, e2]
      simp only [va_up]
      rw [if_neg (by omega)]
  · have f1 : (xz_l lo n0 n (va_up E i e))[k]? = none := List.getElem?_eq_none (by simp [xz_l]; omega)
    have f2 : (xz_l lo n0 n E)[k]? = none := List.getElem?_eq_none (by simp [xz_l]; omega)
    rw [f1, f2]
    rw [if_neg (by omega)]
theorem xz_l_push {lo n0 n : Nat} {E : Nat → va_E} {e : va_E} (h : n0 ≤ n) : xz_l lo n0 n E ++ [(lo + (n - n0), e)] = xz_l lo n0 (n + 1) (va_up E n e) := by
  unfold xz_l
  rw [show n + 1 - n0 = (n - n0) + 1 by omega, List.range_succ, List.map_append]
  congr 1
  · apply List.map_congr_left
    intro k hk
    have hk : k < n - n0 := List.mem_range.mp hk
    simp only [va_up]
    rw [if_neg (by omega)]
  · simp only [List.map, va_up]
    rw [if_pos (by omega)]
def xz_fit (X : xm_T) (m : xm_M) : Prop := ∀ (i t k : Nat) (f : Nat → Int32) (ty : FieldType), i < m.2.1 → m.1 i = .inl (t, k, .inl f) → (xm_at X)[t]? = some ty → ∀ j : Nat, fits ty (.int (f j)) = true
/-- the heap holds the pure heap: old cells as they were, own cells one behind the other from lo on -/
def xz_W (X : xm_T) (D : va_G) (dA : Nat → ClassId) (lo n0 : Nat) (ao : Nat → Nat) (ho : Nat → va_E) (m : xm_M) (H : Heap) : Prop :=
  n0 ≤ m.2.1 ∧ H.size = lo + (m.2.1 - n0) ∧ (∀ i, i < n0 → m.1 i = ho i) ∧ xz_fit X m ∧ va_P D (xm_cl X) (xz_l lo n0 m.2.1 (fun i => xz_e dA (xz_ad n0 lo ao) (m.1 i))) H
theorem xz_up {dA : Nat → ClassId} {ad : Nat → Nat} {h : xm_H} {i : Nat} {e : va_E} : (fun j => xz_e dA ad (va_up h i e j)) = va_up (fun j => xz_e dA ad (h j)) i (xz_e dA ad e) := by
  funext j
  simp only [va_up]
  split <;> rfl
theorem xz_fit_set {X : xm_T} {m : xm_M} {i : Nat} {e : va_E} (h : xz_fit X m) (he : ∀ (t k : Nat) (f : Nat → Int32) (ty : FieldType), e = .inl (t, k, .inl f) → (xm_at X)[t]? = some ty → ∀ j : Nat, fits ty (.int (f j)) = true) {n uc us : Nat} (hn : n ≤ m.2.1 ∨ (n = m.2.1 + 1 ∧ i = m.2.1)) : xz_fit X (va_up m.1 i e, n, uc, us) := by
  intro j t k f ty hj hf ht q
  have hj : j < n := hj
  have hf : va_up m.1 i e j = .inl (t, k, .inl f) := hf
  simp only [va_up] at hf
  split at hf
  · exact he t k f ty hf ht q
  · exact h j t k f ty (by omega) hf ht q
/-- a cell of the world is written -/
theorem xz_W_set {X : xm_T} {D : va_G} {dA : Nat → ClassId} {lo n0 : Nat} {ao : Nat → Nat} {ho : Nat → va_E} {m : xm_M} {H H1 : Heap} (h : xz_W X D dA lo n0 ao ho m H) {i : Nat} {e : va_E} (h0 : n0 ≤ i) (h1 : i < m.2.1)
    (he : ∀ (t k : Nat) (f : Nat → Int32) (ty : FieldType), e = .inl (t, k, .inl f) → (xm_at X)[t]? = some ty → ∀ j : Nat, fits ty (.int (f j)) = true)
    (z : H1.size = H.size) (o : ∀ q : Nat, q ≠ lo + (i - n0) → H1[q]? = H[q]?) (ha : va_at D (xm_cl X) (lo + (i - n0), xz_e dA (xz_ad n0 lo ao) e) H1) (uc us : Nat) : xz_W X D dA lo n0 ao ho (va_up m.1 i e, m.2.1, uc, us) H1 := by
  obtain ⟨w1, w2, w3, w4, w5⟩ := h
  refine ⟨w1, by rw [z]; exact w2, fun j hj => ?_, xz_fit_set w4 he (Or.inl (Nat.le_refl _)), ?_⟩
  · show va_up m.1 i e j = ho j
    simp only [va_up]
    rw [if_neg (by omega)]
    exact w3 j hj
  · show va_P D (xm_cl X) (xz_l lo n0 m.2.1 (fun j => xz_e dA (xz_ad n0 lo ao) (va_up m.1 i e j))) H1
    rw [xz_up, ← xz_l_set h0 h1]
    exact w5.set xz_l_D (xz_l_get h0 h1) ha o
/-- a cell comes -/
theorem xz_W_push {X : xm_T} {D : va_G} {dA : Nat → ClassId} {lo n0 : Nat} {ao : Nat → Nat} {ho : Nat → va_E} {m : xm_M} {H H1 : Heap} (h : xz_W X D dA lo n0 ao ho m H) {e : va_E}
    (he : ∀ (t k : Nat) (f : Nat → Int32) (ty : FieldType), e = .inl (t, k, .inl f) → (xm_at X)[t]? = some ty → ∀ j : Nat, fits ty (.int (f j)) = true)
    (z : H1.size = H.size + 1) (o : ∀ q : Nat, q < H.size → H1[q]? = H[q]?) (ha : va_at D (xm_cl X) (H.size, xz_e dA (xz_ad n0 lo ao) e) H1) (uc us : Nat) : xz_W X D dA lo n0 ao ho (va_up m.1 m.2.1 e, m.2.1 + 1, uc, us) H1 := by
  obtain ⟨w1, w2, w3, w4, w5⟩ := h
  refine ⟨by show n0 ≤ m.2.1 + 1; omega, by show H1.size = lo + (m.2.1 + 1 - n0); rw [z, w2]; omega, fun j hj => ?_, xz_fit_set w4 he (Or.inr ⟨rfl, rfl⟩), ?_⟩
  · show va_up m.1 m.2.1 e j = ho j
    simp only [va_up]
    rw [if_neg (by omega)]
    exact w3 j hj
  · show va_P D (xm_cl X) (xz_l lo n0 (m.2.1 + 1) (fun j => xz_e dA (xz_ad n0 lo ao) (va_up m.1 m.2.1 e j))) H1
    rw [xz_up, ← xz_l_push w1]
    refine (w5.kept (fun k q hq => o q.1 ((w5 k q hq).lt))).app (fun k q hq => ?_)
    have hz : k < 1 := (List.getElem?_eq_some_iff.mp hq).1
    rw [show k = 0 by omega] at hq
    cases hq
    rw [← w2]
    exact ha
theorem xz_W_at {X : xm_T} {D : va_G} {dA : Nat → ClassId} {lo n0 : Nat} {ao : Nat → Nat} {ho : Nat → va_E} {m : xm_M} {H : Heap} (h : xz_W X D dA lo n0 ao ho m H) {i : Nat} (h0 : n0 ≤ i) (h1 : i < m.2.1) : va_at D (xm_cl X) (lo + (i - n0), xz_e dA (xz_ad n0 lo ao) (m.1 i)) H :=
  h.2.2.2.2 _ _ (xz_l_get h0 h1)
/-- counters don't matter for the world -/
theorem xz_W_c {X : xm_T} {D : va_G} {dA : Nat → ClassId} {lo n0 : Nat} {ao : Nat → Nat} {ho : Nat → va_E} {h : xm_H} {n a b c d : Nat} {H : Heap} (w : xz_W X D dA lo n0 ao ho (h, n, a, b) H) : xz_W X D dA lo n0 ao ho (h, n, c, d) H := w
