/-! the reference: cookies are copied and dropped -/
def xo_B (ar : Nat → Nat → Int) : Prop := ∀ F i, F ∈ [29, 30, 31, 40, 44, 45, 51, 52] → ar F i = 0 ∨ ar F i = 1
theorem xo_B_w {ar : Nat → Nat → Int} {F i : Nat} {z : Int} (h : xo_B ar) (hz : F ∈ [29, 30, 31, 40, 44, 45, 51, 52] → z = 0 ∨ z = 1) : xo_B (xo_w ar F i z) := by
  intro G j hG
  unfold xo_w
  split
  · rename_i e
    exact hz (e.1 ▸ hG)
  · exact h G j hG
theorem xo_B_q {S A : List Nat} {s s1 : Nat → Int} {ar ar1 : Nat → Nat → Int} (h : xo_B ar) (q : xq S A s ar s1 ar1) (hA : [29, 30, 31, 40, 44, 45, 51, 52].all (fun k => !decide (k ∈ A)) = true) : xo_B ar1 := by
  intro G j hG
  have := List.all_eq_true.mp hA G hG
  rw [q.2 G (by simpa using this)]
  exact h G j hG
def ck_cp (F w a b k : Nat) (ar ar1 : Nat → Nat → Int) : Prop := (∀ j, j < k → ar1 F (w * b + j) = ar F (w * a + j)) ∧ ∀ i, i < w * b ∨ w * b + w ≤ i → ar1 F i = ar F i
theorem ck_cp_0 {F w a b : Nat} {ar ar1 : Nat → Nat → Int} (h : ar1 F = ar F) : ck_cp F w a b 0 ar ar1 := ⟨fun _ h => absurd h (Nat.not_lt_zero _), fun i _ => by rw [h]⟩
theorem ck_row {w a b j : Nat} (h : a ≠ b) (hj : j < w) : w * a + j < w * b ∨ w * b + w ≤ w * a + j := by
  rcases Nat.lt_or_ge a b with h1 | h1
  · left
    have := Nat.mul_le_mul_left w (show a + 1 ≤ b from h1)
    rw [Nat.mul_add, Nat.mul_one] at this
    omega
  · right
    have := Nat.mul_le_mul_left w (show b + 1 ≤ a by omega)
    rw [Nat.mul_add, Nat.mul_one] at this
    omega
theorem ck_cp_s {F w a b k i : Nat} {z : Int} {ar ar1 : Nat → Nat → Int} (h : ck_cp F w a b k ar ar1) (hab : a ≠ b) (hk : k < w) (hi : i = w * b + k) (hz : z = ar1 F (w * a + k)) : ck_cp F w a b (k + 1) ar (xo_w ar1 F i z) := by
  subst hi
  subst hz
  refine ⟨fun j hj => ?_, fun i hi => ?_⟩
  · by_cases hjk : j = k
    · subst hjk
      rw [xo_wS, h.2 _ (ck_row hab hk)]
    · rw [xo_wI (by omega), h.1 j (by omega)]
  · rw [xo_wI (by omega), h.2 i hi]
theorem ck_cp_K {F w a b k G i : Nat} {z : Int} {ar ar1 : Nat → Nat → Int} (h : ck_cp F w a b k ar ar1) (hF : F ≠ G) : ck_cp F w a b k ar (xo_w ar1 G i z) := ⟨fun j hj => by rw [xo_wK hF]; exact h.1 j hj, fun i hi => by rw [xo_wK hF]; exact h.2 i hi⟩
/-- row b of the second holds what row a of the first holds -/
def ck_eq (ar : Nat → Nat → Int) (a : Nat) (ar1 : Nat → Nat → Int) (b : Nat) : Prop := (∀ j, j < 12 → ar1 20 (12 * b + j) = ar 20 (12 * a + j)) ∧ (∀ j, j < 12 → ar1 21 (12 * b + j) = ar 21 (12 * a + j)) ∧ (∀ j, j < 40 → ar1 22 (40 * b + j) = ar 22 (40 * a + j)) ∧ (∀ j, j < 30 → ar1 23 (30 * b + j) = ar 23 (30 * a + j)) ∧ ar1 24 b = ar 24 a ∧ ar1 25 b = ar 25 a ∧ ar1 26 b = ar 26 a ∧ ar1 27 b = ar 27 a ∧ ar1 28 b = ar 28 a ∧ ar1 29 b = ar 29 a ∧ ar1 30 b = ar 30 a ∧ ar1 31 b = ar 31 a
theorem ck_eq_r {ar : Nat → Nat → Int} {a : Nat} : ck_eq ar a ar a := ⟨fun _ _ => rfl, fun _ _ => rfl, fun _ _ => rfl, fun _ _ => rfl, rfl, rfl, rfl, rfl, rfl, rfl, rfl, rfl⟩
theorem ck_eq_t {ar ar1 ar2 : Nat → Nat → Int} {a b c : Nat} (h : ck_eq ar a ar1 b) (h' : ck_eq ar1 b ar2 c) : ck_eq ar a ar2 c := by
  obtain ⟨a1, a2, a3, a4, a5, a6, a7, a8, a9, a10, a11, a12⟩ := h
  obtain ⟨b1, b2, b3, b4, b5, b6, b7, b8, b9, b10, b11, b12⟩ := h'
  exact ⟨fun j hj => (b1 j hj).trans (a1 j hj), fun j hj => (b2 j hj).trans (a2 j hj), fun j hj => (b3 j hj).trans (a3 j hj), fun j hj => (b4 j hj).trans (a4 j hj), b5.trans a5, b6.trans a6, b7.trans a7, b8.trans a8, b9.trans a9, b10.trans a10, b11.trans a11, b12.trans a12⟩
theorem ck_eq_q {ar ar1 : Nat → Nat → Int} {a : Nat} (h : ∀ F, 20 ≤ F → F ≤ 31 → ar1 F = ar F) : ck_eq ar a ar1 a := by
  unfold ck_eq
  rw [h 20 (by decide) (by decide), h 21 (by decide) (by decide), h 22 (by decide) (by decide), h 23 (by decide) (by decide), h 24 (by decide) (by decide), h 25 (by decide) (by decide), h 26 (by decide) (by decide), h 27 (by decide) (by decide), h 28 (by decide) (by decide), h 29 (by decide) (by decide), h 30 (by decide) (by decide), h 31 (by decide) (by decide)]
  exact ck_eq_r
section XCK
variable (fm : Value) {m n : Nat} {h0 : xm_H} {s : Nat → Int} {ar : Nat → Nat → Int}
theorem xU_copyCookie (hmn : xo_in m n) (hw : xo_wf s ar) (hB : xo_B ar) {a b : Nat} (ha : a < 42) (hb : b < 42) (hab : a ≠ b) : xU fm 312 m n h0 s ar [.ref m, xi a, xi b] (fun s' ar' => s' = s ∧ xo_wf s' ar' ∧ xo_B ar' ∧ xq [] [20, 21, 22, 23, 24, 25, 26, 27, 28, 29, 30, 31] s ar s' ar' ∧ ck_eq ar a ar' b ∧ ∀ j, j ≠ b → ck_eq ar j ar' j) := by
  show xe fm 312 (0, [(0, .ref m), (1, xi a), (2, xi b)], [], (xo m s ar h0, n, 0, 0)) _
  have e130 : ∀ (ar1 : Nat → Nat → Int) (v3 : Int), xo_wf s ar1 → xq [] [20, 21, 22, 23] s ar s ar1 → ck_cp 20 12 a b 12 ar ar1 → ck_cp 21 12 a b 12 ar ar1 → ck_cp 22 40 a b 40 ar ar1 → ck_cp 23 30 a b 30 ar ar1 → xe fm 312 (130, [(3, xi v3), (0, .ref m), (1, xi a), (2, xi b)], [], (xo m s ar1 h0, n, 0, 0)) (xQU m n h0 (fun s' ar' => s' = s ∧ xo_wf s' ar' ∧ xo_B ar' ∧ xq [] [20, 21, 22, 23, 24, 25, 26, 27, 28, 29, 30, 31] s ar s' ar' ∧ ck_eq ar a ar' b ∧ ∀ j, j ≠ b → ck_eq ar j ar' j)) := by
    intro ar1 v3 w1 q1 c20 c21 c22 c23
    have b29 : ar1 29 (a : Int).toNat = 0 ∨ ar1 29 (a : Int).toNat = 1 := by rw [q1.2 29 (by decide)]; exact hB 29 _ (by decide)
    have b30 : ar1 30 (a : Int).toNat = 0 ∨ ar1 30 (a : Int).toNat = 1 := by rw [q1.2 30 (by decide)]; exact hB 30 _ (by decide)
    have b31 : ar1 31 (a : Int).toNat = 0 ∨ ar1 31 (a : Int).toNat = 1 := by rw [q1.2 31 (by decide)]; exact hB 31 _ (by decide)
    have hab' : (a : Int).toNat ≠ (b : Int).toNat := by omega
    have hB1 : xo_B ar1 := by
      intro F i hF
      rw [q1.2 F (by intro h; revert hF h; simp; omega)]
      exact hB F i hF
    refine xe_s (f := (131, _, _, _)) xt_g312 rfl rfl rfl rfl rfl ?_
    refine xe_mga xt_g312 rfl (q := 134) rfl (xf_13_49 fm) (by decide) rfl (by omega) ?_
    try simp only [xo_u, xo_w, Nat.reduceEqDiff, reduceIte, false_and, true_and]
    refine xe_s (f := (135, _, _, _)) xt_g312 rfl rfl rfl rfl rfl ?_
    refine xe_s (f := (136, _, _, _)) xt_g312 rfl rfl rfl rfl rfl ?_
    refine xe_mga xt_g312 rfl (q := 139) rfl (xf_13_49 fm) (by decide) rfl (by omega) ?_
    try simp only [xo_u, xo_w, Nat.reduceEqDiff, reduceIte, false_and, true_and]
    refine xe_s (f := (140, _, _, _)) xt_g312 rfl rfl rfl rfl rfl ?_
    refine xe_mal (ok := xm_isN) (ty := .int) xt_g312 rfl (q := 141) rfl (fun _ _ => ⟨rfl, rfl, rfl, rfl⟩) rfl rfl rfl (by omega) (by omega) (by omega) (by omega) ?_
    try simp only [xo_u, xo_w, Nat.reduceEqDiff, reduceIte, false_and, true_and]
    refine xe_mas (ok := xm_isN) (ty := .int) xt_g312 rfl (q := 142) rfl (fun _ _ => ⟨rfl, rfl, rfl, rfl⟩) rfl rfl rfl (by omega) (by omega) (by omega) (by omega) (by omega) rfl ?_
    refine xe_s (f := (143, _, _, _)) xt_g312 rfl rfl rfl rfl rfl ?_
    refine xe_mga xt_g312 rfl (q := 146) rfl (xf_13_52 fm) (by decide) rfl (by omega) ?_
    try simp only [xo_u, xo_w, Nat.reduceEqDiff, reduceIte, false_and, true_and]
    refine xe_s (f := (147, _, _, _)) xt_g312 rfl rfl rfl rfl rfl ?_
    refine xe_s (f := (148, _, _, _)) xt_g312 rfl rfl rfl rfl rfl ?_
    refine xe_mga xt_g312 rfl (q := 151) rfl (xf_13_52 fm) (by decide) rfl (by omega) ?_
    try simp only [xo_u, xo_w, Nat.reduceEqDiff, reduceIte, false_and, true_and]
    refine xe_s (f := (152, _, _, _)) xt_g312 rfl rfl rfl rfl rfl ?_
    refine xe_mal (ok := xm_isN) (ty := .int) xt_g312 rfl (q := 153) rfl (fun _ _ => ⟨rfl, rfl, rfl, rfl⟩) rfl rfl rfl (by omega) (by omega) (by omega) (by omega) ?_
    try simp only [xo_u, xo_w, Nat.reduceEqDiff, reduceIte, false_and, true_and]
    refine xe_mas (ok := xm_isN) (ty := .int) xt_g312 rfl (q := 154) rfl (fun _ _ => ⟨rfl, rfl, rfl, rfl⟩) rfl rfl rfl (by omega) (by omega) (by omega) (by omega) (by omega) rfl ?_
    refine xe_s (f := (155, _, _, _)) xt_g312 rfl rfl rfl rfl rfl ?_
    refine xe_mga xt_g312 rfl (q := 158) rfl (xf_13_55 fm) (by decide) rfl (by omega) ?_
    try simp only [xo_u, xo_w, Nat.reduceEqDiff, reduceIte, false_and, true_and]
    refine xe_s (f := (159, _, _, _)) xt_g312 rfl rfl rfl rfl rfl ?_
    refine xe_s (f := (160, _, _, _)) xt_g312 rfl rfl rfl rfl rfl ?_
    refine xe_mga xt_g312 rfl (q := 163) rfl (xf_13_55 fm) (by decide) rfl (by omega) ?_
    try simp only [xo_u, xo_w, Nat.reduceEqDiff, reduceIte, false_and, true_and]
    refine xe_s (f := (164, _, _, _)) xt_g312 rfl rfl rfl rfl rfl ?_
    refine xe_mal (ok := xm_isN) (ty := .int) xt_g312 rfl (q := 165) rfl (fun _ _ => ⟨rfl, rfl, rfl, rfl⟩) rfl rfl rfl (by omega) (by omega) (by omega) (by omega) ?_
    try simp only [xo_u, xo_w, Nat.reduceEqDiff, reduceIte, false_and, true_and]
    refine xe_mas (ok := xm_isN) (ty := .int) xt_g312 rfl (q := 166) rfl (fun _ _ => ⟨rfl, rfl, rfl, rfl⟩) rfl rfl rfl (by omega) (by omega) (by omega) (by omega) (by omega) rfl ?_
    refine xe_s (f := (167, _, _, _)) xt_g312 rfl rfl rfl rfl rfl ?_
    refine xe_mga xt_g312 rfl (q := 170) rfl (xf_13_58 fm) (by decide) rfl (by omega) ?_
    try simp only [xo_u, xo_w, Nat.reduceEqDiff, reduceIte, false_and, true_and]
    refine xe_s (f := (171, _, _, _)) xt_g312 rfl rfl rfl rfl rfl ?_
    refine xe_s (f := (172, _, _, _)) xt_g312 rfl rfl rfl rfl rfl ?_
    refine xe_mga xt_g312 rfl (q := 175) rfl (xf_13_58 fm) (by decide) rfl (by omega) ?_
    try simp only [xo_u, xo_w, Nat.reduceEqDiff, reduceIte, false_and, true_and]
    refine xe_s (f := (176, _, _, _)) xt_g312 rfl rfl rfl rfl rfl ?_
    refine xe_mal (ok := xm_isN) (ty := .int) xt_g312 rfl (q := 177) rfl (fun _ _ => ⟨rfl, rfl, rfl, rfl⟩) rfl rfl rfl (by omega) (by omega) (by omega) (by omega) ?_
    try simp only [xo_u, xo_w, Nat.reduceEqDiff, reduceIte, false_and, true_and]
    refine xe_mas (ok := xm_isN) (ty := .int) xt_g312 rfl (q := 178) rfl (fun _ _ => ⟨rfl, rfl, rfl, rfl⟩) rfl rfl rfl (by omega) (by omega) (by omega) (by omega) (by omega) rfl ?_
    refine xe_s (f := (179, _, _, _)) xt_g312 rfl rfl rfl rfl rfl ?_
    refine xe_mga xt_g312 rfl (q := 182) rfl (xf_13_61 fm) (by decide) rfl (by omega) ?_
    try simp only [xo_u, xo_w, Nat.reduceEqDiff, reduceIte, false_and, true_and]
    refine xe_s (f := (183, _, _, _)) xt_g312 rfl rfl rfl rfl rfl ?_
    refine xe_s (f := (184, _, _, _)) xt_g312 rfl rfl rfl rfl rfl ?_
    refine xe_mga xt_g312 rfl (q := 187) rfl (xf_13_61 fm) (by decide) rfl (by omega) ?_
    try simp only [xo_u, xo_w, Nat.reduceEqDiff, reduceIte, false_and, true_and]
    refine xe_s (f := (188, _, _, _)) xt_g312 rfl rfl rfl rfl rfl ?_
    refine xe_mal (ok := xm_isN) (ty := .int) xt_g312 rfl (q := 189) rfl (fun _ _ => ⟨rfl, rfl, rfl, rfl⟩) rfl rfl rfl (by omega) (by omega) (by omega) (by omega) ?_
    try simp only [xo_u, xo_w, Nat.reduceEqDiff, reduceIte, false_and, true_and]
    refine xe_mas (ok := xm_isN) (ty := .int) xt_g312 rfl (q := 190) rfl (fun _ _ => ⟨rfl, rfl, rfl, rfl⟩) rfl rfl rfl (by omega) (by omega) (by omega) (by omega) (by omega) rfl ?_
    refine xe_s (f := (191, _, _, _)) xt_g312 rfl rfl rfl rfl rfl ?_
    refine xe_mga xt_g312 rfl (q := 194) rfl (xf_13_64 fm) (by decide) rfl (by omega) ?_
    try simp only [xo_u, xo_w, Nat.reduceEqDiff, reduceIte, false_and, true_and]
    refine xe_s (f := (195, _, _, _)) xt_g312 rfl rfl rfl rfl rfl ?_
    refine xe_s (f := (196, _, _, _)) xt_g312 rfl rfl rfl rfl rfl ?_
    refine xe_mga xt_g312 rfl (q := 199) rfl (xf_13_64 fm) (by decide) rfl (by omega) ?_
    try simp only [xo_u, xo_w, Nat.reduceEqDiff, reduceIte, false_and, true_and]
    refine xe_s (f := (200, _, _, _)) xt_g312 rfl rfl rfl rfl rfl ?_
    refine xe_mal (ok := xm_isB) (ty := .boolean) xt_g312 rfl (q := 201) rfl (fun _ _ => ⟨rfl, rfl, rfl, rfl⟩) rfl rfl rfl (by omega) (by omega) (by omega) (by omega) ?_
    try simp only [xo_u, xo_w, Nat.reduceEqDiff, reduceIte, false_and, true_and]
    refine xe_mas (ok := xm_isB) (ty := .boolean) xt_g312 rfl (q := 202) rfl (fun _ _ => ⟨rfl, rfl, rfl, rfl⟩) rfl rfl rfl (by omega) (by omega) (by omega) (by omega) (by omega) (xi_nb (by first | omega | exact xb_or _)) ?_
    refine xe_s (f := (203, _, _, _)) xt_g312 rfl rfl rfl rfl rfl ?_
    refine xe_mga xt_g312 rfl (q := 206) rfl (xf_13_68 fm) (by decide) rfl (by omega) ?_
    try simp only [xo_u, xo_w, Nat.reduceEqDiff, reduceIte, false_and, true_and]
    refine xe_s (f := (207, _, _, _)) xt_g312 rfl rfl rfl rfl rfl ?_
    refine xe_s (f := (208, _, _, _)) xt_g312 rfl rfl rfl rfl rfl ?_
    refine xe_mga xt_g312 rfl (q := 211) rfl (xf_13_68 fm) (by decide) rfl (by omega) ?_
    try simp only [xo_u, xo_w, Nat.reduceEqDiff, reduceIte, false_and, true_and]
    refine xe_s (f := (212, _, _, _)) xt_g312 rfl rfl rfl rfl rfl ?_
    refine xe_mal (ok := xm_isB) (ty := .boolean) xt_g312 rfl (q := 213) rfl (fun _ _ => ⟨rfl, rfl, rfl, rfl⟩) rfl rfl rfl (by omega) (by omega) (by omega) (by omega) ?_
    try simp only [xo_u, xo_w, Nat.reduceEqDiff, reduceIte, false_and, true_and]
    refine xe_mas (ok := xm_isB) (ty := .boolean) xt_g312 rfl (q := 214) rfl (fun _ _ => ⟨rfl, rfl, rfl, rfl⟩) rfl rfl rfl (by omega) (by omega) (by omega) (by omega) (by omega) (xi_nb (by first | omega | exact xb_or _)) ?_
    refine xe_s (f := (215, _, _, _)) xt_g312 rfl rfl rfl rfl rfl ?_
    refine xe_mga xt_g312 rfl (q := 218) rfl (xf_13_71 fm) (by decide) rfl (by omega) ?_
    try simp only [xo_u, xo_w, Nat.reduceEqDiff, reduceIte, false_and, true_and]
    refine xe_s (f := (219, _, _, _)) xt_g312 rfl rfl rfl rfl rfl ?_
    refine xe_s (f := (220, _, _, _)) xt_g312 rfl rfl rfl rfl rfl ?_
    refine xe_mga xt_g312 rfl (q := 223) rfl (xf_13_71 fm) (by decide) rfl (by omega) ?_
    try simp only [xo_u, xo_w, Nat.reduceEqDiff, reduceIte, false_and, true_and]
    refine xe_s (f := (224, _, _, _)) xt_g312 rfl rfl rfl rfl rfl ?_
    refine xe_mal (ok := xm_isB) (ty := .boolean) xt_g312 rfl (q := 225) rfl (fun _ _ => ⟨rfl, rfl, rfl, rfl⟩) rfl rfl rfl (by omega) (by omega) (by omega) (by omega) ?_
    try simp only [xo_u, xo_w, Nat.reduceEqDiff, reduceIte, false_and, true_and]
    refine xe_mas (ok := xm_isB) (ty := .boolean) xt_g312 rfl (q := 226) rfl (fun _ _ => ⟨rfl, rfl, rfl, rfl⟩) rfl rfl rfl (by omega) (by omega) (by omega) (by omega) (by omega) (xi_nb (by first | omega | exact xb_or _)) ?_
    refine xe_ret xt_g312 rfl rfl ?_
    refine ⟨_, _, rfl, rfl, rfl, ?_, ?_, ?_, ?_, ?_⟩
    · exact xo_wf_w (xo_wf_w (xo_wf_w (xo_wf_w (xo_wf_w (xo_wf_w (xo_wf_w (xo_wf_w w1 (w1.2 _ _)) (w1.2 _ _)) (w1.2 _ _)) (w1.2 _ _)) (w1.2 _ _)) (w1.2 _ _)) (w1.2 _ _)) (w1.2 _ _)
    · exact xo_B_w (xo_B_w (xo_B_w (xo_B_w (xo_B_w (xo_B_w (xo_B_w (xo_B_w hB1 (fun h => absurd h (by decide))) (fun h => absurd h (by decide))) (fun h => absurd h (by decide))) (fun h => absurd h (by decide))) (fun h => absurd h (by decide))) (fun _ => b29)) (fun _ => b30)) (fun _ => b31)
    · exact xq_w (xq_w (xq_w (xq_w (xq_w (xq_w (xq_w (xq_w (xq_mm q1 (by decide) (by decide)) (by decide)) (by decide)) (by decide)) (by decide)) (by decide)) (by decide)) (by decide)) (by decide)
    · refine ⟨fun j hj => ?_, fun j hj => ?_, fun j hj => ?_, fun j hj => ?_, ?_, ?_, ?_, ?_, ?_, ?_, ?_, ?_⟩ <;> simp only [xo_w, Nat.reduceEqDiff, reduceIte, false_and, true_and, Int.toNat_natCast]
      · exact c20.1 j hj
      · exact c21.1 j hj
      · exact c22.1 j hj
      · exact c23.1 j hj
      · rw [q1.2 24 (by decide)]
      · rw [q1.2 25 (by decide)]
      · rw [q1.2 26 (by decide)]
      · rw [q1.2 27 (by decide)]
      · rw [q1.2 28 (by decide)]
      · rw [q1.2 29 (by decide)]
      · rw [q1.2 30 (by decide)]
      · rw [q1.2 31 (by decide)]
    · intro j hj
      refine ⟨fun i hi => ?_, fun i hi => ?_, fun i hi => ?_, fun i hi => ?_, ?_, ?_, ?_, ?_, ?_, ?_, ?_, ?_⟩ <;> simp only [xo_w, Nat.reduceEqDiff, reduceIte, false_and, true_and, Int.toNat_natCast, hj]
      · exact c20.2 _ (ck_row hj hi)
      · exact c21.2 _ (ck_row hj hi)
      · exact c22.2 _ (ck_row hj hi)
      · exact c23.2 _ (ck_row hj hi)
      · rw [q1.2 24 (by decide)]
      · rw [q1.2 25 (by decide)]
      · rw [q1.2 26 (by decide)]
      · rw [q1.2 27 (by decide)]
      · rw [q1.2 28 (by decide)]
      · rw [q1.2 29 (by decide)]
      · rw [q1.2 30 (by decide)]
      · rw [q1.2 31 (by decide)]
  have l96 : ∀ (N k : Nat) (ar1 : Nat → Nat → Int), k + N = 30 → xo_wf s ar1 → xq [] [20, 21, 22, 23] s ar s ar1 → ck_cp 20 12 a b 12 ar ar1 → ck_cp 21 12 a b 12 ar ar1 → ck_cp 22 40 a b 40 ar ar1 → ck_cp 23 30 a b k ar ar1 → xe fm 312 (96, [(3, xi k), (0, .ref m), (1, xi a), (2, xi b)], [], (xo m s ar1 h0, n, 0, 0)) (xQU m n h0 (fun s' ar' => s' = s ∧ xo_wf s' ar' ∧ xo_B ar' ∧ xq [] [20, 21, 22, 23, 24, 25, 26, 27, 28, 29, 30, 31] s ar s' ar' ∧ ck_eq ar a ar' b ∧ ∀ j, j ≠ b → ck_eq ar j ar' j)) := by
    intro N
    induction N with
    | zero =>
      intro k ar1 hk w1 q1 c20 c21 c22 c23
      rw [show k = 30 by omega] at c23
      refine xe_s (f := (97, _, _, _)) xt_g312 rfl rfl rfl rfl rfl ?_
      refine xe_bipush xt_g312 rfl (q := 99) rfl (by decide) (by decide) ?_
      refine xe_ic_ge xt_g312 rfl (t := 130) rfl (q := 102) rfl (by first | omega | exact hw.1 _ | exact hw.2 _ _ | exact xb_r _) (by first | omega | exact hw.1 _ | exact hw.2 _ _ | exact xb_r _) (fun h99 => ?_) (fun h99 => ?_)
      · exact e130 ar1 k w1 q1 c20 c21 c22 c23
      · exact absurd h99 (by omega)
    | succ N ih =>
      intro k ar1 hk w1 q1 c20 c21 c22 c23
      refine xe_s (f := (97, _, _, _)) xt_g312 rfl rfl rfl rfl rfl ?_
      refine xe_bipush xt_g312 rfl (q := 99) rfl (by decide) (by decide) ?_
      refine xe_ic_ge xt_g312 rfl (t := 130) rfl (q := 102) rfl (by first | omega | exact hw.1 _ | exact hw.2 _ _ | exact xb_r _) (by first | omega | exact hw.1 _ | exact hw.2 _ _ | exact xb_r _) (fun h99 => ?_) (fun h99 => ?_)
      · exact absurd h99 (by omega)
      · refine xe_s (f := (103, _, _, _)) xt_g312 rfl rfl rfl rfl rfl ?_
        refine xe_mga xt_g312 rfl (q := 106) rfl (xf_13_46 fm) (by decide) rfl (by omega) ?_
        try simp only [xo_u, xo_w, Nat.reduceEqDiff, reduceIte, false_and, true_and]
        refine xe_bipush xt_g312 rfl (q := 108) rfl (by decide) (by decide) ?_
        refine xe_s (f := (109, _, _, _)) xt_g312 rfl rfl rfl rfl rfl ?_
        refine xe_imul xt_g312 rfl (q := 110) rfl ?_
        refine xe_s (f := (111, _, _, _)) xt_g312 rfl rfl rfl rfl rfl ?_
        refine xe_iadd xt_g312 rfl (q := 112) rfl ?_
        refine xe_s (f := (113, _, _, _)) xt_g312 rfl rfl rfl rfl rfl ?_
        refine xe_mga xt_g312 rfl (q := 116) rfl (xf_13_46 fm) (by decide) rfl (by omega) ?_
        try simp only [xo_u, xo_w, Nat.reduceEqDiff, reduceIte, false_and, true_and]
        refine xe_bipush xt_g312 rfl (q := 118) rfl (by decide) (by decide) ?_
        refine xe_s (f := (119, _, _, _)) xt_g312 rfl rfl rfl rfl rfl ?_
        refine xe_imul xt_g312 rfl (q := 120) rfl ?_
        refine xe_s (f := (121, _, _, _)) xt_g312 rfl rfl rfl rfl rfl ?_
        refine xe_iadd xt_g312 rfl (q := 122) rfl ?_
        refine xe_mal (ok := xm_isN) (ty := .int) xt_g312 rfl (q := 123) rfl (fun _ _ => ⟨rfl, rfl, rfl, rfl⟩) rfl rfl rfl (by omega) (by omega) (by omega) (by omega) ?_
        try simp only [xo_u, xo_w, Nat.reduceEqDiff, reduceIte, false_and, true_and]
        refine xe_mas (ok := xm_isN) (ty := .int) xt_g312 rfl (q := 124) rfl (fun _ _ => ⟨rfl, rfl, rfl, rfl⟩) rfl rfl rfl (by omega) (by omega) (by omega) (by omega) (by omega) rfl ?_
        refine xe_iinc xt_g312 rfl (q := 127) rfl rfl (by decide) (L1 := [(3, _), (0, _), (1, _), (2, _)]) rfl ?_
        refine xe_s (f := (96, _, _, _)) xt_g312 rfl rfl rfl rfl rfl ?_
        rw [show ((k : Int) + 1) = ((k + 1 : Nat) : Int) by omega]
        refine ih (k + 1) _ (by omega) (xo_wf_w w1 (w1.2 _ _)) (xq_w q1 (by decide)) (ck_cp_K c20 (by decide)) (ck_cp_K c21 (by decide)) (ck_cp_K c22 (by decide)) (ck_cp_s c23 hab (by omega) (by omega) ?_)
        congr 1
  have l60 : ∀ (N k : Nat) (ar1 : Nat → Nat → Int), k + N = 40 → xo_wf s ar1 → xq [] [20, 21, 22, 23] s ar s ar1 → ck_cp 20 12 a b 12 ar ar1 → ck_cp 21 12 a b 12 ar ar1 → ck_cp 22 40 a b k ar ar1 → ar1 23 = ar 23 → xe fm 312 (60, [(3, xi k), (0, .ref m), (1, xi a), (2, xi b)], [], (xo m s ar1 h0, n, 0, 0)) (xQU m n h0 (fun s' ar' => s' = s ∧ xo_wf s' ar' ∧ xo_B ar' ∧ xq [] [20, 21, 22, 23, 24, 25, 26, 27, 28, 29, 30, 31] s ar s' ar' ∧ ck_eq ar a ar' b ∧ ∀ j, j ≠ b → ck_eq ar j ar' j)) := by
    intro N
    induction N with
    | zero =>
      intro k ar1 hk w1 q1 c20 c21 c22 c23
      rw [show k = 40 by omega] at c22
      refine xe_s (f := (61, _, _, _)) xt_g312 rfl rfl rfl rfl rfl ?_
      refine xe_bipush xt_g312 rfl (q := 63) rfl (by decide) (by decide) ?_
      refine xe_ic_ge xt_g312 rfl (t := 94) rfl (q := 66) rfl (by first | omega | exact hw.1 _ | exact hw.2 _ _ | exact xb_r _) (by first | omega | exact hw.1 _ | exact hw.2 _ _ | exact xb_r _) (fun h63 => ?_) (fun h63 => ?_)
      · refine xe_s (f := (95, _, xi 0 :: _, _)) xt_g312 rfl rfl rfl rfl rfl ?_
        refine xe_s (f := (96, [(3, _), (0, _), (1, _), (2, _)], _, _)) xt_g312 rfl rfl rfl rfl rfl ?_
        exact l96 30 0 ar1 (by omega) w1 q1 c20 c21 c22 (ck_cp_0 c23)
      · exact absurd h63 (by omega)
    | succ N ih =>
      intro k ar1 hk w1 q1 c20 c21 c22 c23
      refine xe_s (f := (61, _, _, _)) xt_g312 rfl rfl rfl rfl rfl ?_
      refine xe_bipush xt_g312 rfl (q := 63) rfl (by decide) (by decide) ?_
      refine xe_ic_ge xt_g312 rfl (t := 94) rfl (q := 66) rfl (by first | omega | exact hw.1 _ | exact hw.2 _ _ | exact xb_r _) (by first | omega | exact hw.1 _ | exact hw.2 _ _ | exact xb_r _) (fun h63 => ?_) (fun h63 => ?_)
      · exact absurd h63 (by omega)
      · refine xe_s (f := (67, _, _, _)) xt_g312 rfl rfl rfl rfl rfl ?_
        refine xe_mga xt_g312 rfl (q := 70) rfl (xf_13_43 fm) (by decide) rfl (by omega) ?_
        try simp only [xo_u, xo_w, Nat.reduceEqDiff, reduceIte, false_and, true_and]
        refine xe_bipush xt_g312 rfl (q := 72) rfl (by decide) (by decide) ?_
        refine xe_s (f := (73, _, _, _)) xt_g312 rfl rfl rfl rfl rfl ?_
        refine xe_imul xt_g312 rfl (q := 74) rfl ?_
        refine xe_s (f := (75, _, _, _)) xt_g312 rfl rfl rfl rfl rfl ?_
        refine xe_iadd xt_g312 rfl (q := 76) rfl ?_
        refine xe_s (f := (77, _, _, _)) xt_g312 rfl rfl rfl rfl rfl ?_
        refine xe_mga xt_g312 rfl (q := 80) rfl (xf_13_43 fm) (by decide) rfl (by omega) ?_
        try simp only [xo_u, xo_w, Nat.reduceEqDiff, reduceIte, false_and, true_and]
        refine xe_bipush xt_g312 rfl (q := 82) rfl (by decide) (by decide) ?_
        refine xe_s (f := (83, _, _, _)) xt_g312 rfl rfl rfl rfl rfl ?_
        refine xe_imul xt_g312 rfl (q := 84) rfl ?_
        refine xe_s (f := (85, _, _, _)) xt_g312 rfl rfl rfl rfl rfl ?_
        refine xe_iadd xt_g312 rfl (q := 86) rfl ?_
        refine xe_mal (ok := xm_isN) (ty := .int) xt_g312 rfl (q := 87) rfl (fun _ _ => ⟨rfl, rfl, rfl, rfl⟩) rfl rfl rfl (by omega) (by omega) (by omega) (by omega) ?_
        try simp only [xo_u, xo_w, Nat.reduceEqDiff, reduceIte, false_and, true_and]
        refine xe_mas (ok := xm_isN) (ty := .int) xt_g312 rfl (q := 88) rfl (fun _ _ => ⟨rfl, rfl, rfl, rfl⟩) rfl rfl rfl (by omega) (by omega) (by omega) (by omega) (by omega) rfl ?_
        refine xe_iinc xt_g312 rfl (q := 91) rfl rfl (by decide) (L1 := [(3, _), (0, _), (1, _), (2, _)]) rfl ?_
        refine xe_s (f := (60, _, _, _)) xt_g312 rfl rfl rfl rfl rfl ?_
        rw [show ((k : Int) + 1) = ((k + 1 : Nat) : Int) by omega]
        refine ih (k + 1) _ (by omega) (xo_wf_w w1 (w1.2 _ _)) (xq_w q1 (by decide)) (ck_cp_K c20 (by decide)) (ck_cp_K c21 (by decide)) (ck_cp_s c22 hab (by omega) (by omega) ?_) (by rw [xo_wK (by decide)]; exact c23)
        congr 1
  have l2 : ∀ (N k : Nat) (ar1 : Nat → Nat → Int), k + N = 12 → xo_wf s ar1 → xq [] [20, 21, 22, 23] s ar s ar1 → ck_cp 20 12 a b k ar ar1 → ck_cp 21 12 a b k ar ar1 → ar1 22 = ar 22 → ar1 23 = ar 23 → xe fm 312 (2, [(3, xi k), (0, .ref m), (1, xi a), (2, xi b)], [], (xo m s ar1 h0, n, 0, 0)) (xQU m n h0 (fun s' ar' => s' = s ∧ xo_wf s' ar' ∧ xo_B ar' ∧ xq [] [20, 21, 22, 23, 24, 25, 26, 27, 28, 29, 30, 31] s ar s' ar' ∧ ck_eq ar a ar' b ∧ ∀ j, j ≠ b → ck_eq ar j ar' j)) := by
    intro N
    induction N with
    | zero =>
      intro k ar1 hk w1 q1 c20 c21 c22 c23
      rw [show k = 12 by omega] at c20 c21
      refine xe_s (f := (3, _, _, _)) xt_g312 rfl rfl rfl rfl rfl ?_
      refine xe_bipush xt_g312 rfl (q := 5) rfl (by decide) (by decide) ?_
      refine xe_ic_ge xt_g312 rfl (t := 58) rfl (q := 8) rfl (by first | omega | exact hw.1 _ | exact hw.2 _ _ | exact xb_r _) (by first | omega | exact hw.1 _ | exact hw.2 _ _ | exact xb_r _) (fun h5 => ?_) (fun h5 => ?_)
      · refine xe_s (f := (59, _, xi 0 :: _, _)) xt_g312 rfl rfl rfl rfl rfl ?_
        refine xe_s (f := (60, [(3, _), (0, _), (1, _), (2, _)], _, _)) xt_g312 rfl rfl rfl rfl rfl ?_
        exact l60 40 0 ar1 (by omega) w1 q1 c20 c21 (ck_cp_0 c22) c23
      · exact absurd h5 (by omega)
    | succ N ih =>
      intro k ar1 hk w1 q1 c20 c21 c22 c23
      refine xe_s (f := (3, _, _, _)) xt_g312 rfl rfl rfl rfl rfl ?_
      refine xe_bipush xt_g312 rfl (q := 5) rfl (by decide) (by decide) ?_
      refine xe_ic_ge xt_g312 rfl (t := 58) rfl (q := 8) rfl (by first | omega | exact hw.1 _ | exact hw.2 _ _ | exact xb_r _) (by first | omega | exact hw.1 _ | exact hw.2 _ _ | exact xb_r _) (fun h5 => ?_) (fun h5 => ?_)
      · exact absurd h5 (by omega)
      · refine xe_s (f := (9, _, _, _)) xt_g312 rfl rfl rfl rfl rfl ?_
        refine xe_mga xt_g312 rfl (q := 12) rfl (xf_13_37 fm) (by decide) rfl (by omega) ?_
        try simp only [xo_u, xo_w, Nat.reduceEqDiff, reduceIte, false_and, true_and]
        refine xe_bipush xt_g312 rfl (q := 14) rfl (by decide) (by decide) ?_
        refine xe_s (f := (15, _, _, _)) xt_g312 rfl rfl rfl rfl rfl ?_
        refine xe_imul xt_g312 rfl (q := 16) rfl ?_
        refine xe_s (f := (17, _, _, _)) xt_g312 rfl rfl rfl rfl rfl ?_
        refine xe_iadd xt_g312 rfl (q := 18) rfl ?_
        refine xe_s (f := (19, _, _, _)) xt_g312 rfl rfl rfl rfl rfl ?_
        refine xe_mga xt_g312 rfl (q := 22) rfl (xf_13_37 fm) (by decide) rfl (by omega) ?_
        try simp only [xo_u, xo_w, Nat.reduceEqDiff, reduceIte, false_and, true_and]
        refine xe_bipush xt_g312 rfl (q := 24) rfl (by decide) (by decide) ?_
        refine xe_s (f := (25, _, _, _)) xt_g312 rfl rfl rfl rfl rfl ?_
        refine xe_imul xt_g312 rfl (q := 26) rfl ?_
        refine xe_s (f := (27, _, _, _)) xt_g312 rfl rfl rfl rfl rfl ?_
        refine xe_iadd xt_g312 rfl (q := 28) rfl ?_
        refine xe_mal (ok := xm_isN) (ty := .int) xt_g312 rfl (q := 29) rfl (fun _ _ => ⟨rfl, rfl, rfl, rfl⟩) rfl rfl rfl (by omega) (by omega) (by omega) (by omega) ?_
        try simp only [xo_u, xo_w, Nat.reduceEqDiff, reduceIte, false_and, true_and]
        refine xe_mas (ok := xm_isN) (ty := .int) xt_g312 rfl (q := 30) rfl (fun _ _ => ⟨rfl, rfl, rfl, rfl⟩) rfl rfl rfl (by omega) (by omega) (by omega) (by omega) (by omega) rfl ?_
        refine xe_s (f := (31, _, _, _)) xt_g312 rfl rfl rfl rfl rfl ?_
        refine xe_mga xt_g312 rfl (q := 34) rfl (xf_13_40 fm) (by decide) rfl (by omega) ?_
        try simp only [xo_u, xo_w, Nat.reduceEqDiff, reduceIte, false_and, true_and]
        refine xe_bipush xt_g312 rfl (q := 36) rfl (by decide) (by decide) ?_
        refine xe_s (f := (37, _, _, _)) xt_g312 rfl rfl rfl rfl rfl ?_
        refine xe_imul xt_g312 rfl (q := 38) rfl ?_
        refine xe_s (f := (39, _, _, _)) xt_g312 rfl rfl rfl rfl rfl ?_
        refine xe_iadd xt_g312 rfl (q := 40) rfl ?_
        refine xe_s (f := (41, _, _, _)) xt_g312 rfl rfl rfl rfl rfl ?_
        refine xe_mga xt_g312 rfl (q := 44) rfl (xf_13_40 fm) (by decide) rfl (by omega) ?_
        try simp only [xo_u, xo_w, Nat.reduceEqDiff, reduceIte, false_and, true_and]
        refine xe_bipush xt_g312 rfl (q := 46) rfl (by decide) (by decide) ?_
        refine xe_s (f := (47, _, _, _)) xt_g312 rfl rfl rfl rfl rfl ?_
        refine xe_imul xt_g312 rfl (q := 48) rfl ?_
        refine xe_s (f := (49, _, _, _)) xt_g312 rfl rfl rfl rfl rfl ?_
        refine xe_iadd xt_g312 rfl (q := 50) rfl ?_
        refine xe_mal (ok := xm_isN) (ty := .int) xt_g312 rfl (q := 51) rfl (fun _ _ => ⟨rfl, rfl, rfl, rfl⟩) rfl rfl rfl (by omega) (by omega) (by omega) (by omega) ?_
        try simp only [xo_u, xo_w, Nat.reduceEqDiff, reduceIte, false_and, true_and]
        refine xe_mas (ok := xm_isN) (ty := .int) xt_g312 rfl (q := 52) rfl (fun _ _ => ⟨rfl, rfl, rfl, rfl⟩) rfl rfl rfl (by omega) (by omega) (by omega) (by omega) (by omega) rfl ?_
        refine xe_iinc xt_g312 rfl (q := 55) rfl rfl (by decide) (L1 := [(3, _), (0, _), (1, _), (2, _)]) rfl ?_
        refine xe_s (f := (2, _, _, _)) xt_g312 rfl rfl rfl rfl rfl ?_
        rw [show ((k : Int) + 1) = ((k + 1 : Nat) : Int) by omega]
        refine ih (k + 1) _ (by omega) (xo_wf_w (xo_wf_w w1 (w1.2 _ _)) (w1.2 _ _)) (xq_w (xq_w q1 (by decide)) (by decide)) (ck_cp_K (ck_cp_s c20 hab (by omega) (by omega) ?_) (by decide)) (ck_cp_s (ck_cp_K c21 (by decide)) hab (by omega) (by omega) ?_) (by rw [xo_wK (by decide), xo_wK (by decide)]; exact c22) (by rw [xo_wK (by decide), xo_wK (by decide)]; exact c23)
        · congr 1
        · rw [xo_wK (by decide)]
          congr 1
  refine xe_s (f := (1, _, xi 0 :: _, _)) xt_g312 rfl rfl rfl rfl rfl ?_
  refine xe_s (f := (2, [(3, _), (0, _), (1, _), (2, _)], _, _)) xt_g312 rfl rfl rfl rfl rfl ?_
  exact l2 12 0 ar (by omega) hw xq_r (ck_cp_0 rfl) (ck_cp_0 rfl) rfl rfl
theorem xU_dropCookie (hmn : xo_in m n) (hw : xo_wf s ar) (hB : xo_B ar) {i c : Nat} (h19 : s 19 = c) (hi : i < c) (hc : c ≤ 41) : xU fm 311 m n h0 s ar [.ref m, xi i] (fun s' ar' => s' = xo_u s 19 ((c : Int) - 1) ∧ xo_wf s' ar' ∧ xo_B ar' ∧ xq [19] [20, 21, 22, 23, 24, 25, 26, 27, 28, 29, 30, 31] s ar s' ar' ∧ (∀ j, j < i → ck_eq ar j ar' j) ∧ (∀ j, i ≤ j → j + 1 < c → ck_eq ar (j + 1) ar' j) ∧ ∀ j, c ≤ j → ck_eq ar j ar' j) := by
  show xe fm 311 (0, [(0, .ref m), (1, xi i)], [], (xo m s ar h0, n, 0, 0)) _
  have loop : ∀ (N k : Nat) (ar1 : Nat → Nat → Int), k + N + 1 = c → i ≤ k → xo_wf s ar1 → xo_B ar1 → xq [] [20, 21, 22, 23, 24, 25, 26, 27, 28, 29, 30, 31] s ar s ar1 → (∀ j, j < i → ck_eq ar j ar1 j) → (∀ j, i ≤ j → j < k → ck_eq ar (j + 1) ar1 j) → (∀ j, k ≤ j → ck_eq ar j ar1 j) → xe fm 311 (2, [(2, xi k), (0, .ref m), (1, xi i)], [], (xo m s ar1 h0, n, 0, 0)) (xQU m n h0 (fun s' ar' => s' = xo_u s 19 ((c : Int) - 1) ∧ xo_wf s' ar' ∧ xo_B ar' ∧ xq [19] [20, 21, 22, 23, 24, 25, 26, 27, 28, 29, 30, 31] s ar s' ar' ∧ (∀ j, j < i → ck_eq ar j ar' j) ∧ (∀ j, i ≤ j → j + 1 < c → ck_eq ar (j + 1) ar' j) ∧ ∀ j, c ≤ j → ck_eq ar j ar' j)) := by
    intro N
    induction N with
    | zero =>
      intro k ar1 hk hik w1 B1 q1 f1 f2 f3
      refine xe_s (f := (3, _, _, _)) xt_g311 rfl rfl rfl rfl rfl ?_
      refine xe_s (f := (4, _, xi 1 :: _, _)) xt_g311 rfl rfl rfl rfl rfl ?_
      refine xe_iadd xt_g311 rfl (q := 5) rfl ?_
      refine xe_s (f := (6, _, _, _)) xt_g311 rfl rfl rfl rfl rfl ?_
      refine xe_mgs xt_g311 rfl (q := 9) rfl (xf_13_265 fm) (by decide) rfl (by omega) ?_
      try simp only [xo_u, xo_w, Nat.reduceEqDiff, reduceIte, false_and, true_and]
      rw [h19]
      refine xe_ic_ge xt_g311 rfl (t := 26) rfl (q := 12) rfl (by first | omega | exact hw.1 _ | exact hw.2 _ _ | exact xb_r _) (by first | omega | exact hw.1 _ | exact hw.2 _ _ | exact xb_r _) (fun h9 => ?_) (fun h9 => ?_)
      · refine xe_s (f := (27, _, _, _)) xt_g311 rfl rfl rfl rfl rfl ?_
        refine xe_s (f := (28, _, _, _)) xt_g311 rfl rfl rfl rfl rfl ?_
        refine xe_mgs xt_g311 rfl (q := 31) rfl (xf_13_265 fm) (by decide) rfl (by omega) ?_
        try simp only [xo_u, xo_w, Nat.reduceEqDiff, reduceIte, false_and, true_and]
        rw [h19]
        refine xe_s (f := (32, _, xi 1 :: _, _)) xt_g311 rfl rfl rfl rfl rfl ?_
        refine xe_isub xt_g311 rfl (q := 33) rfl ?_
        refine xe_mps xt_g311 rfl (q := 36) rfl (xf_13_265 fm) (by decide) rfl (by omega) (by omega) xi_int (Or.inl rfl) ?_
        refine xe_ret xt_g311 rfl rfl ?_
        exact ⟨_, _, rfl, rfl, rfl, xo_wf_u w1 (by omega), B1, xq_u (xq_mm q1 (by decide) (by decide)) (by decide), f1, fun j h1 h2 => f2 j h1 (by omega), fun j h1 => f3 j (by omega)⟩
      · exact absurd h9 (by omega)
    | succ N ih =>
      intro k ar1 hk hik w1 B1 q1 f1 f2 f3
      have hcp := xU_copyCookie fm hmn (h0 := h0) w1 B1 (a := k + 1) (b := k) (by omega) (by omega) (by omega)
      rw [show ((k + 1 : Nat) : Int) = (k : Int) + 1 by omega] at hcp
      refine xe_s (f := (3, _, _, _)) xt_g311 rfl rfl rfl rfl rfl ?_
      refine xe_s (f := (4, _, xi 1 :: _, _)) xt_g311 rfl rfl rfl rfl rfl ?_
      refine xe_iadd xt_g311 rfl (q := 5) rfl ?_
      refine xe_s (f := (6, _, _, _)) xt_g311 rfl rfl rfl rfl rfl ?_
      refine xe_mgs xt_g311 rfl (q := 9) rfl (xf_13_265 fm) (by decide) rfl (by omega) ?_
      try simp only [xo_u, xo_w, Nat.reduceEqDiff, reduceIte, false_and, true_and]
      rw [h19]
      refine xe_ic_ge xt_g311 rfl (t := 26) rfl (q := 12) rfl (by first | omega | exact hw.1 _ | exact hw.2 _ _ | exact xb_r _) (by first | omega | exact hw.1 _ | exact hw.2 _ _ | exact xb_r _) (fun h9 => ?_) (fun h9 => ?_)
      · exact absurd h9 (by omega)
      · refine xe_s (f := (13, _, _, _)) xt_g311 rfl rfl rfl rfl rfl ?_
        refine xe_s (f := (14, _, _, _)) xt_g311 rfl rfl rfl rfl rfl ?_
        refine xe_s (f := (15, _, xi 1 :: _, _)) xt_g311 rfl rfl rfl rfl rfl ?_
        refine xe_iadd xt_g311 rfl (q := 16) rfl ?_
        refine xe_s (f := (17, _, _, _)) xt_g311 rfl rfl rfl rfl rfl ?_
        refine xe_chV xt_g311 rfl (q := 20) rfl xk_13_268 rfl (by omega) xt_g312 (by decide) ⟨Nat.le_of_ble_eq_true rfl, Nat.le_of_ble_eq_true rfl, Nat.le_of_ble_eq_true rfl⟩ (hcp) (fun s2 ar2 hp2 => ?_)
        refine xe_iinc xt_g311 rfl (q := 23) rfl rfl (by decide) (L1 := [(2, _), (0, _), (1, _)]) rfl ?_
        refine xe_s (f := (2, _, _, _)) xt_g311 rfl rfl rfl rfl rfl ?_
        obtain ⟨es, w2, B2, q2, g1, g2⟩ := hp2
        subst es
        rw [show ((k : Int) + 1) = ((k + 1 : Nat) : Int) by omega]
        refine ih (k + 1) ar2 (by omega) (by omega) w2 B2 (xq_t q1 q2) (fun j hj => ck_eq_t (f1 j hj) (g2 j (by omega))) (fun j h1 h2 => ?_) (fun j hj => ck_eq_t (f3 j (by omega)) (g2 j (by omega)))
        by_cases hjk : j = k
        · subst hjk
          exact ck_eq_t (f3 (j + 1) (by omega)) g1
        · exact ck_eq_t (f2 j h1 (by omega)) (g2 j hjk)
  refine xe_s (f := (1, _, _, _)) xt_g311 rfl rfl rfl rfl rfl ?_
  refine xe_s (f := (2, [(2, _), (0, _), (1, _)], _, _)) xt_g311 rfl rfl rfl rfl rfl ?_
  exact loop (c - i - 1) i ar (by omega) (Nat.le_refl _) hw hB xq_r (fun _ _ => ck_eq_r) (fun j h1 h2 => absurd h2 (by omega)) (fun _ _ => ck_eq_r)
end XCK
