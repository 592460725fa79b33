/-! the class's world: good cells, what is kept -/
def gd (w : kW) (a : Nat) : Prop := dy a ∧ a ≠ w.1 0 ∧ a ≠ w.1 1 ∧ a ≠ w.1 2 ∧ (a < 64 ∨ 108 ≤ a)
def kw1 (b n : Nat) : Prop := dy b ∧ 44 ≤ b ∧ b < n ∧ (b < 64 ∨ 108 ≤ b)
def kw (w : kW) (n : Nat) : Prop := 108 ≤ n ∧ kw1 (w.1 0) n ∧ kw1 (w.1 1) n ∧ kw1 (w.1 2) n ∧ w.1 0 ≠ w.1 1 ∧ w.1 0 ≠ w.1 2 ∧ w.1 1 ≠ w.1 2
/-- cells that are none of the class's own are kept -/
def kf (h : xm_H) (n : Nat) (h' : xm_H) : Prop := ∀ a, a < n → (a = 0 ∨ 64 ≤ a) → a < 108 → h' a = h a
/-- good cells are kept -/
def kp (w : kW) (h : xm_H) (n : Nat) (w' : kW) (h' : xm_H) (n' : Nat) : Prop := n ≤ n' ∧ (∀ a, a < n → gd w a → h' a = h a ∧ gd w' a) ∧ kf h n h'
/-- all is kept -/
def ke (h : xm_H) (n : Nat) (h' : xm_H) (n' : Nat) : Prop := n ≤ n' ∧ ∀ a, a < n → dy a → h' a = h a
def kb (w : kW) (h : xm_H) (j : Nat) (l : List Int) (k : Nat) : Prop := sA h (w.1 j) k l ∧ w.2.1 j = l.length ∧ (w.2.2 j = 0 ∨ w.2.2 j = 1) ∧ asc l ∧ k < 20000
/-- the three StringBuilders -/
def KW (w : kW) (h : xm_H) (n : Nat) (t : Nat → List Int) (kc : Nat → Nat) : Prop := kw w n ∧ kb w h 0 (t 0) (kc 0) ∧ kb w h 1 (t 1) (kc 1) ∧ kb w h 2 (t 2) (kc 2)
def tu (t : Nat → List Int) (j : Nat) (l : List Int) : Nat → List Int := fun i => if i = j then l else t i
def wu (w : kW) (j b : Nat) (c m : Int) : kW := (pu w.1 j b, xo_u w.2.1 j c, xo_u w.2.2 j m)
section XAZ
variable {fm : Value} {w w' w'' : kW} {s : Nat → Int} {p : Nat → Nat} {ar : Nat → Nat → Option Nat} {v : Nat → Int} {h0 h h' h'' : xm_H} {n n' n'' r k u' : Nat} {l L : List Int} {t : Nat → List Int} {kc : Nat → Nat}
theorem kp_refl : kp w h n w h n := ⟨Nat.le_refl _, fun _ _ g => ⟨rfl, g⟩, fun _ _ _ _ => rfl⟩
theorem kp_trans (a : kp w h n w' h' n') (b : kp w' h' n' w'' h'' n'') : kp w h n w'' h'' n'' := by
  refine ⟨Nat.le_trans a.1 b.1, fun i hi g => ?_, fun i hi g g' => (b.2.2 i (Nat.lt_of_lt_of_le hi a.1) g g').trans (a.2.2 i hi g g')⟩
  have a1 := a.2.1 i hi g
  have b1 := b.2.1 i (Nat.lt_of_lt_of_le hi a.1) a1.2
  exact ⟨b1.1.trans a1.1, b1.2⟩
theorem ke_refl : ke h n h n := ⟨Nat.le_refl _, fun _ _ _ => rfl⟩
theorem ke_trans (a : ke h n h' n') (b : ke h' n' h'' n'') : ke h n h'' n'' := ⟨Nat.le_trans a.1 b.1, fun i hi d => (b.2 i (Nat.lt_of_lt_of_le hi a.1) d).trans (a.2 i hi d)⟩
theorem ke_kp (a : ke h n h' n') : kp w h n w h' n' := ⟨a.1, fun i hi g => ⟨a.2 i hi g.1, g⟩, fun i hi g _ => a.2 i hi (by unfold dy; omega)⟩
theorem sS_kp (H : sS (gd w) h n r l) (e : kp w h n w' h' n') : sS (gd w') h' n' r l := by
  obtain ⟨b, x, y, h1, ⟨f, h2, h6, h7⟩, h3, h4, h5, h8, h9⟩ := H
  have e1 := e.2.1 r h5 h3
  have e2 := e.2.1 b h8 h4
  exact ⟨b, x, y, e1.1.trans h1, ⟨f, e2.1.trans h2, h6, h7⟩, e1.2, e2.2, Nat.lt_of_lt_of_le h5 e.1, Nat.lt_of_lt_of_le h8 e.1, h9⟩
theorem sS_ke (H : sS (gd w) h n r l) (e : ke h n h' n') : sS (gd w) h' n' r l := sS_kp H (ke_kp e)
theorem sS_ko (H : sS (gd w) h0 n r l) : sS (gd w) (ko w s p ar v h0) n r l := sS_h H (Nat.le_refl _) (fun _ g _ => ko_d g.1)
theorem gd_new (W : kw w n) {a : Nat} (h : nf (gd w) n a) : gd w a := by
  rcases h with h | h
  · exact h
  · obtain ⟨W0, ⟨a1, a2, a3, a4⟩, ⟨b1, b2, b3, b4⟩, ⟨c1, c2, c3, c4⟩, W4⟩ := W
    exact ⟨Or.inr (Or.inr (Or.inr (Or.inr (by omega)))), by omega, by omega, by omega, by omega⟩
theorem dy_cases {a : Nat} (h : ¬ dy a) : a = 44 ∨ a = 45 ∨ a = 47 ∨ a = 49 ∨ a = 50 ∨ a = 52 ∨ a = 53 ∨ a = 54 ∨ a = 55 ∨ a = 56 ∨ a = 57 ∨ a = 58 ∨ a = 59 ∨ a = 60 ∨ a = 61 ∨ a = 62 ∨ a = 63 := by
  unfold dy at h
  omega
theorem ko_fix {w' : kW} {s' : Nat → Int} {p' : Nat → Nat} {ar' : Nat → Nat → Option Nat} {v' : Nat → Int} {h1 : xm_H} (e : ∀ a, ¬ dy a → h1 a = ko w' s' p' ar' v' h0 a) : h1 = ko w' s' p' ar' v' h1 := by
  funext a
  by_cases d : dy a
  · rw [ko_d d]
  · rw [e a d]
    rcases dy_cases d with h | h | h | h | h | h | h | h | h | h | h | h | h | h | h | h | h <;> (subst h; rfl)
theorem ko_lift (W : kw w n) (e : ex (ko w s p ar v h0) n h' n') : ∃ h1, h' = ko w s p ar v h1 ∧ ke h0 n h1 n' ∧ ∀ x l, sS (nf (gd w) n) h' n' x l → sS (gd w) h1 n' x l := by
  have W0 := W.1
  refine ⟨h', ko_fix (h0 := h0) (fun a d => e.2 a ?_), ⟨e.1, fun a ha d => (e.2 a ha).trans (ko_d d)⟩, fun x l H => sS_F H (fun i g => gd_new W g)⟩
  unfold dy at d
  omega
theorem kb_ke {j : Nat} (H : kb w h j l k) (hn : w.1 j < n) (d : dy (w.1 j)) (e : ke h n h' n') : kb w h' j l k := ⟨sA_h H.1 (e.2 _ hn d), H.2⟩
theorem kw_n (W : kw w n) (h : n ≤ n') : kw w n' := by
  obtain ⟨W0, ⟨a1, a2, a3, a4⟩, ⟨b1, b2, b3, b4⟩, ⟨c1, c2, c3, c4⟩, W4⟩ := W
  exact ⟨by omega, ⟨a1, a2, by omega, a4⟩, ⟨b1, b2, by omega, b4⟩, ⟨c1, c2, by omega, c4⟩, W4⟩
theorem KW_ke (H : KW w h n t kc) (e : ke h n h' n') : KW w h' n' t kc := by
  obtain ⟨W, a, b, c⟩ := H
  exact ⟨kw_n W e.1, kb_ke a W.2.1.2.2.1 W.2.1.1 e, kb_ke b W.2.2.1.2.2.1 W.2.2.1.1 e, kb_ke c W.2.2.2.1.2.2.1 W.2.2.2.1.1 e⟩
theorem pu_s {p : Nat → Nat} {j x : Nat} : pu p j x j = x := if_pos rfl
theorem pu_n {p : Nat → Nat} {j x i : Nat} (h : i ≠ j) : pu p j x i = p i := if_neg h
/-- the result of an operation on StringBuilder j -/
def kR (w : kW) (h0 : xm_H) (n : Nat) (t : Nat → List Int) (kc : Nat → Nat) (j : Nat) (L : List Int) (w' : kW) (h1 : xm_H) (n' u' k' : Nat) : Prop := KW w' h1 n' (tu t j L) (pu kc j k') ∧ kp w h0 n w' h1 n' ∧ n' ≤ n + (k' - kc j) ∧ kc j ≤ k' ∧ u' ≤ 2 * (k' - kc j) ∧ k' ≤ max (kc j) (2 * L.length + 2)
theorem KW_B0 (H : KW w h0 n t kc) : sB (ko w s p ar v h0) n 45 (w.1 0) (kc 0) (t 0) := by
  obtain ⟨W, a, b, c⟩ := H
  obtain ⟨W0, ⟨a1, a2, a3, a4⟩, ⟨b1, b2, b3, b4⟩, ⟨c1, c2, c3, c4⟩, W4⟩ := W
  exact ⟨w.2.2 0, by rw [ko_45, a.2.1], a.2.2.1, sA_h a.1 (ko_d a1), by omega, by omega, a2, a3, a.2.2.2.1, a.2.2.2.2⟩
theorem kb_R0 (H : KW w h0 n t kc) (R : sbR (ko w s p ar v h0) n 45 (w.1 0) (kc 0) L h' n' u') : ∃ w' h1 k', h' = ko w' s p ar v h1 ∧ kR w h0 n t kc 0 L w' h1 n' u' k' := by
  obtain ⟨W, a, b, c⟩ := H
  have W' := W
  obtain ⟨W0, ⟨a1, a2, a3, a4⟩, ⟨b1, b2, b3, b4⟩, ⟨c1, c2, c3, c4⟩, W4, W5, W6⟩ := W
  obtain ⟨b', k', ⟨m, r1, r2, r3, r4, r5, r6, r7, r8, r9⟩, q2, q3, q4, q5, q6, q7, q8⟩ := R
  have hb : dy b' ∧ 44 ≤ b' ∧ (b' < 64 ∨ 108 ≤ b') ∧ (b' = w.1 0 ∨ n ≤ b') := by
    rcases q2 with e | e
    · rw [e]
      exact ⟨a1, a2, a4, Or.inl rfl⟩
    · exact ⟨Or.inr (Or.inr (Or.inr (Or.inr (by omega)))), by omega, Or.inr (by omega), Or.inr (by omega)⟩
  obtain ⟨e1, e2, e3, e4⟩ := hb
  have keep : ∀ a, a < n → dy a → a ≠ w.1 0 → h' a = h0 a := by
    intro a ha d hne
    refine (q5 a ha ?_ hne).trans (ko_d d)
    intro e
    subst e
    unfold dy at d
    omega
  refine ⟨wu w 0 b' L.length m, h', k', ko_fix (h0 := h0) (fun a d => ?_), ⟨⟨?_, ?_, ?_, ?_⟩, ⟨q3, fun i hi g => ⟨keep i hi g.1 g.2.1, ?_⟩, fun i hi g g' => keep i hi (by unfold dy; omega) (by omega)⟩, q4, q6, q7, q8⟩⟩
  · have hne : a ≠ w.1 0 := fun e => d (e ▸ a1)
    have han : a < n := by
      unfold dy at d
      omega
    by_cases ea : a = 45
    · subst ea
      exact r1
    · rw [q5 a han ea hne]
      rcases dy_cases d with h | h | h | h | h | h | h | h | h | h | h | h | h | h | h | h | h
      all_goals subst h
      all_goals first
        | exact absurd rfl ea
        | rfl
  · refine ⟨by omega, ?_, ?_, ?_, ?_, ?_, ?_⟩
    · show kw1 (pu w.1 0 b' 0) n'
      exact ⟨e1, e2, r7, e3⟩
    · show kw1 (pu w.1 0 b' 1) n'
      exact ⟨b1, b2, by show w.1 1 < n'; omega, b4⟩
    · show kw1 (pu w.1 0 b' 2) n'
      exact ⟨c1, c2, by show w.1 2 < n'; omega, c4⟩
    all_goals simp only [wu, pu, Nat.reduceEqDiff, reduceIte]
    all_goals omega
  · exact ⟨r3, rfl, r2, r8, r9⟩
  · exact ⟨sA_h b.1 (keep (w.1 1) b3 b1 (by omega)), b.2⟩
  · exact ⟨sA_h c.1 (keep (w.1 2) c3 c1 (by omega)), c.2⟩
  · refine ⟨g.1, ?_, ?_, ?_, g.2.2.2.2⟩
    all_goals obtain ⟨g0, g1, g2, g3, g4⟩ := g
    all_goals simp only [wu, pu, Nat.reduceEqDiff, reduceIte]
    all_goals omega
theorem KW_B1 (H : KW w h0 n t kc) : sB (ko w s p ar v h0) n 47 (w.1 1) (kc 1) (t 1) := by
  obtain ⟨W, a, b, c⟩ := H
  obtain ⟨W0, ⟨a1, a2, a3, a4⟩, ⟨b1, b2, b3, b4⟩, ⟨c1, c2, c3, c4⟩, W4⟩ := W
  exact ⟨w.2.2 1, by rw [ko_47, b.2.1], b.2.2.1, sA_h b.1 (ko_d b1), by omega, by omega, b2, b3, b.2.2.2.1, b.2.2.2.2⟩
theorem kb_R1 (H : KW w h0 n t kc) (R : sbR (ko w s p ar v h0) n 47 (w.1 1) (kc 1) L h' n' u') : ∃ w' h1 k', h' = ko w' s p ar v h1 ∧ kR w h0 n t kc 1 L w' h1 n' u' k' := by
  obtain ⟨W, a, b, c⟩ := H
  have W' := W
  obtain ⟨W0, ⟨a1, a2, a3, a4⟩, ⟨b1, b2, b3, b4⟩, ⟨c1, c2, c3, c4⟩, W4, W5, W6⟩ := W
  obtain ⟨b', k', ⟨m, r1, r2, r3, r4, r5, r6, r7, r8, r9⟩, q2, q3, q4, q5, q6, q7, q8⟩ := R
  have hb : dy b' ∧ 44 ≤ b' ∧ (b' < 64 ∨ 108 ≤ b') ∧ (b' = w.1 1 ∨ n ≤ b') := by
    rcases q2 with e | e
    · rw [e]
      exact ⟨b1, b2, b4, Or.inl rfl⟩
    · exact ⟨Or.inr (Or.inr (Or.inr (Or.inr (by omega)))), by omega, Or.inr (by omega), Or.inr (by omega)⟩
  obtain ⟨e1, e2, e3, e4⟩ := hb
  have keep : ∀ a, a < n → dy a → a ≠ w.1 1 → h' a = h0 a := by
    intro a ha d hne
    refine (q5 a ha ?_ hne).trans (ko_d d)
    intro e
    subst e
    unfold dy at d
    omega
  refine ⟨wu w 1 b' L.length m, h', k', ko_fix (h0 := h0) (fun a d => ?_), ⟨⟨?_, ?_, ?_, ?_⟩, ⟨q3, fun i hi g => ⟨keep i hi g.1 g.2.2.1, ?_⟩, fun i hi g g' => keep i hi (by unfold dy; omega) (by omega)⟩, q4, q6, q7, q8⟩⟩
  · have hne : a ≠ w.1 1 := fun e => d (e ▸ b1)
    have han : a < n := by
      unfold dy at d
      omega
    by_cases ea : a = 47
    · subst ea
      exact r1
    · rw [q5 a han ea hne]
      rcases dy_cases d with h | h | h | h | h | h | h | h | h | h | h | h | h | h | h | h | h
      all_goals subst h
      all_goals first
        | exact absurd rfl ea
        | rfl
  · refine ⟨by omega, ?_, ?_, ?_, ?_, ?_, ?_⟩
    · show kw1 (pu w.1 1 b' 0) n'
      exact ⟨a1, a2, by show w.1 0 < n'; omega, a4⟩
    · show kw1 (pu w.1 1 b' 1) n'
      exact ⟨e1, e2, r7, e3⟩
    · show kw1 (pu w.1 1 b' 2) n'
      exact ⟨c1, c2, by show w.1 2 < n'; omega, c4⟩
    all_goals simp only [wu, pu, Nat.reduceEqDiff, reduceIte]
    all_goals omega
  · exact ⟨sA_h a.1 (keep (w.1 0) a3 a1 (by omega)), a.2⟩
  · exact ⟨r3, rfl, r2, r8, r9⟩
  · exact ⟨sA_h c.1 (keep (w.1 2) c3 c1 (by omega)), c.2⟩
  · refine ⟨g.1, ?_, ?_, ?_, g.2.2.2.2⟩
    all_goals obtain ⟨g0, g1, g2, g3, g4⟩ := g
    all_goals simp only [wu, pu, Nat.reduceEqDiff, reduceIte]
    all_goals omega
theorem KW_B2 (H : KW w h0 n t kc) : sB (ko w s p ar v h0) n 50 (w.1 2) (kc 2) (t 2) := by
  obtain ⟨W, a, b, c⟩ := H
  obtain ⟨W0, ⟨a1, a2, a3, a4⟩, ⟨b1, b2, b3, b4⟩, ⟨c1, c2, c3, c4⟩, W4⟩ := W
  exact ⟨w.2.2 2, by rw [ko_50, c.2.1], c.2.2.1, sA_h c.1 (ko_d c1), by omega, by omega, c2, c3, c.2.2.2.1, c.2.2.2.2⟩
theorem kb_R2 (H : KW w h0 n t kc) (R : sbR (ko w s p ar v h0) n 50 (w.1 2) (kc 2) L h' n' u') : ∃ w' h1 k', h' = ko w' s p ar v h1 ∧ kR w h0 n t kc 2 L w' h1 n' u' k' := by
  obtain ⟨W, a, b, c⟩ := H
  have W' := W
  obtain ⟨W0, ⟨a1, a2, a3, a4⟩, ⟨b1, b2, b3, b4⟩, ⟨c1, c2, c3, c4⟩, W4, W5, W6⟩ := W
  obtain ⟨b', k', ⟨m, r1, r2, r3, r4, r5, r6, r7, r8, r9⟩, q2, q3, q4, q5, q6, q7, q8⟩ := R
  have hb : dy b' ∧ 44 ≤ b' ∧ (b' < 64 ∨ 108 ≤ b') ∧ (b' = w.1 2 ∨ n ≤ b') := by
    rcases q2 with e | e
    · rw [e]
      exact ⟨c1, c2, c4, Or.inl rfl⟩
    · exact ⟨Or.inr (Or.inr (Or.inr (Or.inr (by omega)))), by omega, Or.inr (by omega), Or.inr (by omega)⟩
  obtain ⟨e1, e2, e3, e4⟩ := hb
  have keep : ∀ a, a < n → dy a → a ≠ w.1 2 → h' a = h0 a := by
    intro a ha d hne
    refine (q5 a ha ?_ hne).trans (ko_d d)
    intro e
    subst e
    unfold dy at d
    omega
  refine ⟨wu w 2 b' L.length m, h', k', ko_fix (h0 := h0) (fun a d => ?_), ⟨⟨?_, ?_, ?_, ?_⟩, ⟨q3, fun i hi g => ⟨keep i hi g.1 g.2.2.2.1, ?_⟩, fun i hi g g' => keep i hi (by unfold dy; omega) (by omega)⟩, q4, q6, q7, q8⟩⟩
  · have hne : a ≠ w.1 2 := fun e => d (e ▸ c1)
    have han : a < n := by
      unfold dy at d
      omega
    by_cases ea : a = 50
    · subst ea
      exact r1
    · rw [q5 a han ea hne]
      rcases dy_cases d with h | h | h | h | h | h | h | h | h | h | h | h | h | h | h | h | h
      all_goals subst h
      all_goals first
        | exact absurd rfl ea
        | rfl
  · refine ⟨by omega, ?_, ?_, ?_, ?_, ?_, ?_⟩
    · show kw1 (pu w.1 2 b' 0) n'
      exact ⟨a1, a2, by show w.1 0 < n'; omega, a4⟩
    · show kw1 (pu w.1 2 b' 1) n'
      exact ⟨b1, b2, by show w.1 1 < n'; omega, b4⟩
    · show kw1 (pu w.1 2 b' 2) n'
      exact ⟨e1, e2, r7, e3⟩
    all_goals simp only [wu, pu, Nat.reduceEqDiff, reduceIte]
    all_goals omega
  · exact ⟨sA_h a.1 (keep (w.1 0) a3 a1 (by omega)), a.2⟩
  · exact ⟨sA_h b.1 (keep (w.1 1) b3 b1 (by omega)), b.2⟩
  · exact ⟨r3, rfl, r2, r8, r9⟩
  · refine ⟨g.1, ?_, ?_, ?_, g.2.2.2.2⟩
    all_goals obtain ⟨g0, g1, g2, g3, g4⟩ := g
    all_goals simp only [wu, pu, Nat.reduceEqDiff, reduceIte]
    all_goals omega
end XAZ
