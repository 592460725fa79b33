/-! addresses, and the slots of the reference that hold them -/
abbrev pa_A : Type := Bool × List Int × Int × List Int × List Int
def pa_hd (a : pa_A) : List Int := pa_scm a.1 ++ a.2.1 ++ pa_pt a.1 a.2.2.1
def pa_text (a : pa_A) : List Int := pa_hd a ++ a.2.2.2.1 ++ a.2.2.2.2
def pa_ok (a : pa_A) : Prop := (∀ c, c ∈ a.2.1 → c ≠ 47 ∧ c ≠ 58 ∧ c ≠ 63) ∧ (∃ p, a.2.2.2.1 = 47 :: p) ∧ (∀ c, c ∈ a.2.2.2.1 → c ≠ 63) ∧ (a.2.2.2.2 = [] ∨ ∃ q, a.2.2.2.2 = 63 :: q) ∧ (pa_text a).length ≤ 60 ∧ 1 ≤ a.2.2.1 ∧ a.2.2.1 ≤ 65535 ∧ a.2.1 ≠ [] ∧ ∀ c, c ∈ pa_text a → 32 < c ∧ c < 127
def pa_at (ar : Nat → Nat → Int) (b : Int) (l : List Int) : Prop := ar 5 b.toNat = l.length ∧ l.length ≤ 60 ∧ xh (ar 4) (60 * b).toNat l
def lc (l : List Int) (k : Int) : Int := l.getD k.toNat 0
theorem xg_mem {l : List Int} {i : Nat} (h : i < l.length) : l.getD i 0 ∈ l := by
  rw [List.getD_eq_getElem?_getD, List.getElem?_eq_getElem h]
  exact List.getElem_mem h
theorem lc_sl {l1 l2 l3 : List Int} : pa_sl (lc (l1 ++ l2 ++ l3)) l1.length (l1.length + l2.length) = l2 := by
  apply xg_ext
  · rw [pa_sl_len]
    omega
  · intro i hi
    rw [pa_sl_len] at hi
    rw [pa_sl_get hi]
    unfold lc
    rw [xg_l (by rw [List.length_append]; omega), xg_r (by omega)]
    congr 1
    omega
theorem lc_sl0 {l1 l2 : List Int} : pa_sl (lc (l1 ++ l2)) 0 l1.length = l1 := by
  have := lc_sl (l1 := []) (l2 := l1) (l3 := l2)
  simpa using this
theorem xd_fnd_eq {f : Nat → Int} {c e : Int} : ∀ (N : Nat) (k : Int), k ≤ e → e ≤ k + N → (∀ j, k ≤ j → j < e → f j.toNat ≠ c) → (e = k + N ∨ f e.toNat = c) → xd_fnd f c N k = e
  | 0, k, h1, h2, h3, h4 => by
    unfold xd_fnd
    omega
  | N + 1, k, h1, h2, h3, h4 => by
    unfold xd_fnd
    by_cases hk : k = e
    · subst hk
      rcases h4 with h4 | h4
      · omega
      · rw [if_pos h4]
    · rw [if_neg (h3 k (Int.le_refl _) (by omega))]
      exact xd_fnd_eq N (k + 1) (by omega) (by omega) (fun j h5 h6 => h3 j (by omega) h6) (h4.imp (fun h => by omega) id)
section XSL
variable {ar ar' : Nat → Nat → Int} {b : Int} {a : pa_A}
theorem pa_at_get {l : List Int} (h : pa_at ar b l) (hb : 0 ≤ b) {k : Int} (h0 : 0 ≤ k) (hk : k < l.length) : ar 4 (60 * b + k).toNat = lc l k := by
  have := h.2.2 k.toNat (by omega)
  unfold lc
  rw [← this]
  congr 1
  omega
theorem pa_fnd {l1 l2 l3 : List Int} {c : Int} {N : Nat} (h : pa_at ar b (l1 ++ l2 ++ l3)) (hb : 0 ≤ b) (hn : ∀ x, x ∈ l2 → x ≠ c) (hN : N = l2.length ∨ (l2.length < N ∧ ∃ r, l3 = c :: r)) : xd_fnd (fun k => ar 4 (60 * b + k).toNat) c N l1.length = l1.length + l2.length := by
  refine xd_fnd_eq N _ (by omega) (by omega) (fun j h1 h2 => ?_) ?_
  · show ar 4 (60 * b + (j.toNat : Int)).toNat ≠ c
    rw [pa_at_get h hb (by omega) (by rw [List.length_append, List.length_append]; omega)]
    unfold lc
    rw [xg_l (by rw [List.length_append]; omega), xg_r (by omega)]
    exact hn _ (xg_mem (by omega))
  · rcases hN with hN | ⟨hN, r, hr⟩
    · exact Or.inl (by omega)
    · refine Or.inr ?_
      show ar 4 (60 * b + (((l1.length : Int) + l2.length).toNat : Int)).toNat = c
      rw [pa_at_get h hb (by omega) (by rw [List.length_append, List.length_append, hr, List.length_cons]; omega)]
      unfold lc
      rw [xg_r (by rw [List.length_append]; omega), List.length_append, hr, show (((((l1.length : Int) + l2.length).toNat : Int)).toNat - (l1.length + l2.length)) = 0 by omega]
      rfl
theorem pa_dgs_c {v : Int} {bs : List Int} {c : Int} (h : c ∈ pa_dgs v bs) : 48 ≤ c ∧ c ≤ 57 := by
  unfold pa_dgs at h
  obtain ⟨x, _, rfl⟩ := List.mem_map.mp h
  have h1 := Int.emod_nonneg (v / x) (b := 10) (by decide)
  have h2 := Int.emod_lt_of_pos (v / x) (b := 10) (by decide)
  omega
theorem pa_pt_c {sec : Bool} {v c : Int} (h : c ∈ pa_pt sec v) : 48 ≤ c ∧ c ≤ 58 := by
  unfold pa_pt at h
  split at h
  · cases h
  · rcases List.mem_cons.mp h with h | h
    · omega
    · have := pa_dgs_c h
      omega
theorem pa_safe {r : List Int} (h : pa_at ar b (pa_scm a.1 ++ r)) (hb : 0 ≤ b) : xd_safe ar b = a.1 := by
  unfold xd_safe
  rw [pa_at_get h hb (by omega) (by rw [List.length_append]; unfold pa_scm; split <;> simp <;> omega)]
  unfold lc pa_scm
  cases a.1
  · rfl
  · rfl
theorem pa_hf {r : List Int} (h : pa_at ar b (pa_scm a.1 ++ r)) (hb : 0 ≤ b) : xd_hf ar b = (pa_scm a.1).length := by
  unfold xd_hf
  rw [pa_safe h hb]
  unfold pa_scm
  cases a.1 <;> rfl
/-- a slot with the head of an address, and behind it nothing or its path -/
theorem pa_oe {r : List Int} (h : pa_at ar b (pa_hd a ++ r)) (hb : 0 ≤ b) (ho : pa_ok a) (hr : r = [] ∨ ∃ p, r = 47 :: p) : xd_oe ar b = (pa_hd a).length := by
  have h1 : pa_at ar b (pa_scm a.1 ++ (a.2.1 ++ pa_pt a.1 a.2.2.1) ++ r) := by
    unfold pa_hd at h
    rw [List.append_assoc] at h ⊢
    rw [List.append_assoc] at h ⊢
    exact h
  have h2 : pa_at ar b (pa_scm a.1 ++ ((a.2.1 ++ pa_pt a.1 a.2.2.1) ++ r)) := by
    rw [List.append_assoc] at h1
    exact h1
  have hn : ∀ x, x ∈ a.2.1 ++ pa_pt a.1 a.2.2.1 → x ≠ 47 := by
    intro x hx
    rcases List.mem_append.mp hx with hx | hx
    · exact (ho.1 x hx).1
    · have := pa_pt_c hx
      omega
  unfold xd_oe
  rw [pa_hf h2 hb, pa_fnd h1 hb hn ?_]
  · unfold pa_hd
    simp [Nat.add_assoc]
  · rw [h1.1]
    rcases hr with hr | ⟨p, hr⟩
    · left
      rw [hr]
      simp
      omega
    · right
      refine ⟨?_, p, hr⟩
      rw [hr]
      simp
      omega
theorem pa_he {r : List Int} (h : pa_at ar b (pa_hd a ++ r)) (hb : 0 ≤ b) (ho : pa_ok a) (hr : r = [] ∨ ∃ p, r = 47 :: p) : xd_he ar b = (pa_scm a.1 ++ a.2.1).length := by
  have h1 : pa_at ar b (pa_scm a.1 ++ a.2.1 ++ (pa_pt a.1 a.2.2.1 ++ r)) := by
    unfold pa_hd at h
    rw [List.append_assoc] at h
    exact h
  have h2 : pa_at ar b (pa_scm a.1 ++ (a.2.1 ++ (pa_pt a.1 a.2.2.1 ++ r))) := by
    rw [List.append_assoc] at h1
    exact h1
  unfold xd_he
  rw [pa_oe h hb ho hr, pa_hf h2 hb, pa_fnd h1 hb (fun x hx => (ho.1 x hx).2.1) ?_]
  · simp
  · unfold pa_hd pa_pt
    split
    · left
      simp
      omega
    · right
      exact ⟨by simp; omega, _, rfl⟩
theorem pa_pe (h : pa_at ar b (pa_text a)) (hb : 0 ≤ b) (ho : pa_ok a) : xd_pe ar b = (pa_hd a ++ a.2.2.2.1).length := by
  have h1 : pa_at ar b (pa_hd a ++ (a.2.2.2.1 ++ a.2.2.2.2)) := by
    unfold pa_text at h
    rw [List.append_assoc] at h
    exact h
  obtain ⟨p, hp⟩ := ho.2.1
  unfold xd_pe
  rw [pa_oe h1 hb ho (Or.inr ⟨p ++ a.2.2.2.2, by rw [hp]; rfl⟩), pa_fnd h hb (fun x hx => ho.2.2.1 x hx) ?_]
  · simp
  · rw [h.1]
    unfold pa_text
    rcases ho.2.2.2.1 with hq | ⟨q, hq⟩
    · left
      rw [hq]
      simp
      omega
    · right
      exact ⟨by rw [hq]; simp; omega, q, hq⟩
theorem pa_at_c {l : List Int} (h : pa_at ar b l) (h4 : ar' 4 = ar 4) (h5 : ar' 5 = ar 5) : pa_at ar' b l := by
  unfold pa_at
  rw [h4, h5]
  exact h
end XSL
/-- behind the last c ahead of a place -/
def pa_bl (l : List Int) (c : Int) : Nat → Nat
  | 0 => 0
  | n + 1 => if l.getD n 0 = c then n + 1 else pa_bl l c n
def pa_fold (p : List Int) : List Int := p.take (pa_bl p 47 p.length)
theorem pa_bl_le {l : List Int} {c : Int} : ∀ n, pa_bl l c n ≤ n
  | 0 => Nat.le_refl _
  | n + 1 => by
    unfold pa_bl
    split
    · exact Nat.le_refl _
    · exact Nat.le_succ_of_le (pa_bl_le n)
theorem pa_bl_pos {l : List Int} {c : Int} (h : l.getD 0 0 = c) : ∀ n, 0 < n → 0 < pa_bl l c n
  | 0, h0 => absurd h0 (by omega)
  | n + 1, _ => by
    unfold pa_bl
    split
    · omega
    · rename_i hn
      cases n with
      | zero => exact absurd h hn
      | succ k => exact pa_bl_pos h (k + 1) (by omega)
section XTQ
variable (fm : Value) {m n : Nat} {h0 : xm_H} {s : Nat → Int} {ar : Nat → Nat → Int}
theorem xU_takeQuery (hmn : xo_in m n) (hw : xo_wf s ar) {b : Int} {a : pa_A} (hb : 0 ≤ b ∧ b < 98) (hs : pa_at ar b (pa_text a)) (ho : pa_ok a) (h12 : s 12 = -1) : xU fm 274 m n h0 s ar [.ref m, xi b] (fun s' ar' => xo_wf s' ar' ∧ xq [12] [9] s ar s' ar' ∧ pa_qs s' ar' a.2.2.2.2) := by
  show xe fm 274 (0, [(0, .ref m), (1, xi b)], [], (xo m s ar h0, n, 0, 0)) _
  have h5 : 0 ≤ ar 5 b.toNat ∧ ar 5 b.toNat ≤ 60 := by
    have := hs.1
    have := hs.2.1
    omega
  have hpe := pa_pe hs hb.1 ho
  have hlen : ar 5 b.toNat = (pa_hd a ++ a.2.2.2.1).length + a.2.2.2.2.length := by
    rw [hs.1]
    unfold pa_text
    simp
    omega
  generalize hP : (pa_hd a ++ a.2.2.2.1).length = P at *
  have fin : a.2.2.2.2 = [] → xe fm 274 (8, [(2, xi ((P : Int) + 1)), (0, .ref m), (1, xi b)], [], (xo m s ar h0, n, 0, 0)) (xQU m n h0 (fun s' ar' => xo_wf s' ar' ∧ xq [12] [9] s ar s' ar' ∧ pa_qs s' ar' a.2.2.2.2)) := by
    intro hq
    rw [hq] at hlen ⊢
    simp at hlen
    refine xe_s (f := (9, _, _, _)) xt_g274 rfl rfl rfl rfl rfl ?_
    refine xe_s (f := (10, _, _, _)) xt_g274 rfl rfl rfl rfl rfl ?_
    refine xe_mga xt_g274 rfl (q := 13) rfl (xf_13_16 fm) (by decide) rfl (by omega) ?_
    try simp only [xo_u, xo_w, Nat.reduceEqDiff, reduceIte, false_and, true_and]
    refine xe_s (f := (14, _, _, _)) xt_g274 rfl rfl rfl rfl rfl ?_
    refine xe_mal (ok := xm_isN) (ty := .int) xt_g274 rfl (q := 15) rfl (fun _ _ => ⟨rfl, rfl, rfl, rfl⟩) rfl rfl rfl (by omega) (by omega) (by omega) (by omega) ?_
    try simp only [xo_u, xo_w, Nat.reduceEqDiff, reduceIte, false_and, true_and]
    refine xe_ic_gt xt_g274 rfl (t := 62) rfl (q := 18) rfl (by first | omega | exact hw.1 _ | exact hw.2 _ _ | exact xb_r _) (by first | omega | exact hw.1 _ | exact hw.2 _ _ | exact xb_r _) (fun h15 => ?_) (fun h15 => ?_)
    · refine xe_ret xt_g274 rfl rfl ?_
      exact ⟨_, _, rfl, rfl, hw, xq_r, Or.inl ⟨rfl, h12⟩⟩
    · exact absurd h15 (by omega)
  have loop : ∀ q : List Int, a.2.2.2.2 = 63 :: q → ∀ (N c : Nat) (s1 : Nat → Int) (ar1 : Nat → Nat → Int), c + N = q.length + 1 → xo_wf s1 ar1 → xq [12] [9] s ar s1 ar1 → (c = 0 ∨ s1 12 = (c : Int) - 1) → xh (ar1 9) 0 (q.take c) → xe fm 274 (8, [(2, xi ((P : Int) + 1 + c)), (0, .ref m), (1, xi b)], [], (xo m s1 ar1 h0, n, 0, 0)) (xQU m n h0 (fun s' ar' => xo_wf s' ar' ∧ xq [12] [9] s ar s' ar' ∧ pa_qs s' ar' a.2.2.2.2)) := by
    intro q hq N
    rw [hq, List.length_cons] at hlen
    induction N with
    | zero =>
      intro c s1 ar1 hc w1 q1 hc2 hx
      have e5 : ar1 5 = ar 5 := q1.2 5 (by decide)
      have e6 : ar1 5 b.toNat = ar 5 b.toNat := by rw [e5]
      refine xe_s (f := (9, _, _, _)) xt_g274 rfl rfl rfl rfl rfl ?_
      refine xe_s (f := (10, _, _, _)) xt_g274 rfl rfl rfl rfl rfl ?_
      refine xe_mga xt_g274 rfl (q := 13) rfl (xf_13_16 fm) (by decide) rfl (by omega) ?_
      try simp only [xo_u, xo_w, Nat.reduceEqDiff, reduceIte, false_and, true_and]
      refine xe_s (f := (14, _, _, _)) xt_g274 rfl rfl rfl rfl rfl ?_
      refine xe_mal (ok := xm_isN) (ty := .int) xt_g274 rfl (q := 15) rfl (fun _ _ => ⟨rfl, rfl, rfl, rfl⟩) rfl rfl rfl (by omega) (by omega) (by omega) (by omega) ?_
      try simp only [xo_u, xo_w, Nat.reduceEqDiff, reduceIte, false_and, true_and]
      refine xe_ic_gt xt_g274 rfl (t := 62) rfl (q := 18) rfl (by first | omega | exact hw.1 _ | exact hw.2 _ _ | exact xb_r _) (by first | omega | exact hw.1 _ | exact hw.2 _ _ | exact xb_r _) (fun h15 => ?_) (fun h15 => ?_)
      · refine xe_ret xt_g274 rfl rfl ?_
        refine ⟨_, _, rfl, rfl, w1, q1, Or.inr ⟨q, hq, by omega, ?_, by omega⟩⟩
        rw [show c = q.length + 1 by omega, List.take_of_length_le (by omega)] at hx
        exact hx
      · exact absurd h15 (by omega)
    | succ N ih =>
      intro c s1 ar1 hc w1 q1 hc2 hx
      have e5 : ar1 5 = ar 5 := q1.2 5 (by decide)
      have e4 : ar1 4 = ar 4 := q1.2 4 (by decide)
      have e6 : ar1 5 b.toNat = ar 5 b.toNat := by rw [e5]
      have hs1 := pa_at_c hs e4 e5
      have hpe1 : xd_pe ar1 b = P := by rw [pa_pe hs1 hb.1 ho]; exact congrArg Nat.cast hP
      have ep : (P : Int) + 1 + c - P - 1 = c := by omega
      refine xe_s (f := (9, _, _, _)) xt_g274 rfl rfl rfl rfl rfl ?_
      refine xe_s (f := (10, _, _, _)) xt_g274 rfl rfl rfl rfl rfl ?_
      refine xe_mga xt_g274 rfl (q := 13) rfl (xf_13_16 fm) (by decide) rfl (by omega) ?_
      try simp only [xo_u, xo_w, Nat.reduceEqDiff, reduceIte, false_and, true_and]
      refine xe_s (f := (14, _, _, _)) xt_g274 rfl rfl rfl rfl rfl ?_
      refine xe_mal (ok := xm_isN) (ty := .int) xt_g274 rfl (q := 15) rfl (fun _ _ => ⟨rfl, rfl, rfl, rfl⟩) rfl rfl rfl (by omega) (by omega) (by omega) (by omega) ?_
      try simp only [xo_u, xo_w, Nat.reduceEqDiff, reduceIte, false_and, true_and]
      refine xe_ic_gt xt_g274 rfl (t := 62) rfl (q := 18) rfl (by first | omega | exact hw.1 _ | exact hw.2 _ _ | exact xb_r _) (by first | omega | exact hw.1 _ | exact hw.2 _ _ | exact xb_r _) (fun h15 => ?_) (fun h15 => ?_)
      · exact absurd h15 (by omega)
      · refine xe_s (f := (19, _, _, _)) xt_g274 rfl rfl rfl rfl rfl ?_
        refine xe_s (f := (20, _, _, _)) xt_g274 rfl rfl rfl rfl rfl ?_
        refine xe_s (f := (21, _, _, _)) xt_g274 rfl rfl rfl rfl rfl ?_
        refine xe_s (f := (22, _, _, _)) xt_g274 rfl rfl rfl rfl rfl ?_
        refine xe_cvI xt_g274 rfl (q := 25) rfl xk_13_238 rfl (by omega) xt_g273 (by decide) ⟨Nat.le_of_ble_eq_true rfl, Nat.le_of_ble_eq_true rfl, Nat.le_of_ble_eq_true rfl⟩ (xv_pathEnd fm hmn w1 hb.1 hb.2 (by omega)) ?_
        rw [hpe1]
        refine xe_isub xt_g274 rfl (q := 26) rfl ?_
        refine xe_s (f := (27, _, xi 1 :: _, _)) xt_g274 rfl rfl rfl rfl rfl ?_
        refine xe_isub xt_g274 rfl (q := 28) rfl ?_
        rw [ep]
        refine xe_mps xt_g274 rfl (q := 31) rfl (xf_13_204 fm) (by decide) rfl (by omega) (by omega) xi_int (Or.inl rfl) ?_
        refine xe_s (f := (32, _, _, _)) xt_g274 rfl rfl rfl rfl rfl ?_
        refine xe_s (f := (33, _, _, _)) xt_g274 rfl rfl rfl rfl rfl ?_
        refine xe_mga xt_g274 rfl (q := 36) rfl (xf_13_16 fm) (by decide) rfl (by omega) ?_
        try simp only [xo_u, xo_w, Nat.reduceEqDiff, reduceIte, false_and, true_and]
        refine xe_s (f := (37, _, _, _)) xt_g274 rfl rfl rfl rfl rfl ?_
        refine xe_mal (ok := xm_isN) (ty := .int) xt_g274 rfl (q := 38) rfl (fun _ _ => ⟨rfl, rfl, rfl, rfl⟩) rfl rfl rfl (by omega) (by omega) (by omega) (by omega) ?_
        try simp only [xo_u, xo_w, Nat.reduceEqDiff, reduceIte, false_and, true_and]
        refine xe_ic_ge xt_g274 rfl (t := 56) rfl (q := 41) rfl (by first | omega | exact hw.1 _ | exact hw.2 _ _ | exact xb_r _) (by first | omega | exact hw.1 _ | exact hw.2 _ _ | exact xb_r _) (fun h38 => ?_) (fun h38 => ?_)
        · refine xe_iinc xt_g274 rfl (q := 59) rfl rfl (by decide) (L1 := [(2, _), (0, _), (1, _)]) rfl ?_
          refine xe_s (f := (8, _, _, _)) xt_g274 rfl rfl rfl rfl rfl ?_
          rw [show (P : Int) + 1 + c + 1 = (P : Int) + 1 + ((c + 1 : Nat) : Int) by omega]
          refine ih (c + 1) _ _ (by omega) (xo_wf_u w1 (by omega)) (xq_u q1 (by decide)) (Or.inr (by rw [xo_uS]; omega)) ?_
          rw [List.take_of_length_le (by omega)]
          rw [List.take_of_length_le (by omega)] at hx
          exact hx
        · refine xe_s (f := (42, _, _, _)) xt_g274 rfl rfl rfl rfl rfl ?_
          refine xe_mga xt_g274 rfl (q := 45) rfl (xf_13_28 fm) (by decide) rfl (by omega) ?_
          try simp only [xo_u, xo_w, Nat.reduceEqDiff, reduceIte, false_and, true_and]
          refine xe_s (f := (46, _, _, _)) xt_g274 rfl rfl rfl rfl rfl ?_
          refine xe_mgs xt_g274 rfl (q := 49) rfl (xf_13_204 fm) (by decide) rfl (by omega) ?_
          try simp only [xo_u, xo_w, Nat.reduceEqDiff, reduceIte, false_and, true_and]
          refine xe_s (f := (50, _, _, _)) xt_g274 rfl rfl rfl rfl rfl ?_
          refine xe_s (f := (51, _, _, _)) xt_g274 rfl rfl rfl rfl rfl ?_
          refine xe_s (f := (52, _, _, _)) xt_g274 rfl rfl rfl rfl rfl ?_
          refine xe_cvI xt_g274 rfl (q := 55) rfl xk_13_172 rfl (by omega) xt_g270 (by decide) ⟨Nat.le_of_ble_eq_true rfl, Nat.le_of_ble_eq_true rfl, Nat.le_of_ble_eq_true rfl⟩ (xv_textAt fm hmn (by omega) (by omega)) ?_
          refine xe_mas (ok := xm_isN) (ty := .int) xt_g274 rfl (q := 56) rfl (fun _ _ => ⟨rfl, rfl, rfl, rfl⟩) rfl rfl rfl (by omega) (by omega) (by omega) (by omega) (by omega) rfl ?_
          refine xe_iinc xt_g274 rfl (q := 59) rfl rfl (by decide) (L1 := [(2, _), (0, _), (1, _)]) rfl ?_
          refine xe_s (f := (8, _, _, _)) xt_g274 rfl rfl rfl rfl rfl ?_
          rw [show (P : Int) + 1 + c + 1 = (P : Int) + 1 + ((c + 1 : Nat) : Int) by omega]
          have hlt : c < q.length := by omega
          refine ih (c + 1) _ _ (by omega) (xo_wf_w (xo_wf_u w1 (by omega)) (w1.2 _ _)) (xq_w (xq_u q1 (by decide)) (by decide)) (Or.inr (by rw [xo_uS]; omega)) ?_
          have e7 : ar1 4 (60 * b + ((P : Int) + 1 + c)).toNat = q.getD c 0 := by
            rw [pa_at_get hs1 hb.1 (by omega) (by rw [← hs.1]; omega)]
            unfold lc pa_text
            rw [xg_r (by rw [hP]; omega), hP, hq, show ((P : Int) + 1 + c).toNat - P = c + 1 by omega]
            rfl
          rw [e7, List.take_succ_eq_append_getElem hlt, show q[c] = q.getD c 0 by simp [List.getD, hlt]]
          exact xh_w (by rw [List.length_take]; omega) hx
  refine xe_s (f := (1, _, _, _)) xt_g274 rfl rfl rfl rfl rfl ?_
  refine xe_s (f := (2, _, _, _)) xt_g274 rfl rfl rfl rfl rfl ?_
  refine xe_cvI xt_g274 rfl (q := 5) rfl xk_13_238 rfl (by omega) xt_g273 (by decide) ⟨Nat.le_of_ble_eq_true rfl, Nat.le_of_ble_eq_true rfl, Nat.le_of_ble_eq_true rfl⟩ (xv_pathEnd fm hmn hw hb.1 hb.2 h5) ?_
  rw [hpe]
  refine xe_s (f := (6, _, xi 1 :: _, _)) xt_g274 rfl rfl rfl rfl rfl ?_
  refine xe_iadd xt_g274 rfl (q := 7) rfl ?_
  refine xe_s (f := (8, [(2, _), (0, _), (1, _)], _, _)) xt_g274 rfl rfl rfl rfl rfl ?_
  rcases ho.2.2.2.1 with hq | ⟨q, hq⟩
  · exact fin hq
  · have h := loop q hq (q.length + 1) 0 s ar (by omega) hw xq_r (Or.inl rfl) xh_nil
    simpa using h
end XTQ
