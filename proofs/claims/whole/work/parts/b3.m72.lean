/-! StringBuilders of the class -/
section XB3
variable {fm : Value} {w w' w1 w2 : kW} {s s' s1 s2 : Nat → Int} {p p' p1 p2 : Nat → Nat} {ar : Nat → Nat → Option Nat} {v : Nat → Int} {h h' h1 h2 : xm_H} {n n' n1 n2 r k k' u' u1 u2 : Nat} {l L W : List Int} {t t' t1 t2 : Nat → List Int} {kc kc' kc1 kc2 : Nat → Nat}
theorem tu_s {t : Nat → List Int} {j : Nat} {l : List Int} : tu t j l j = l := if_pos rfl
theorem tu_n {t : Nat → List Int} {j i : Nat} {l : List Int} (h : i ≠ j) : tu t j l i = t i := if_neg h
theorem k12_0 (K : KW w h n t kc) : xR fm 12 (ko w s p ar v h) n [.ref 45] (some (xi (t 0).length)) := s12 (KW_B0 K)
theorem k123_0 {i : Int} (hfm : fm = .null ∨ ∃ j, fm = .ref j) (K : KW w h n t kc) (hi : 0 ≤ i) (hk : i < (t 0).length) : xR fm 123 (ko w s p ar v h) n [.ref 45, xi i] (some (xi ((t 0).getD i.toNat 0))) := s123 hfm (KW_B0 K) hi hk
theorem k14_0 {m : Int} (K : KW w h n t kc) (h0 : 0 ≤ m) (hm : m ≤ (t 0).length) (hl : (t 0).length < 9000) : xN fm 14 (ko w s p ar v h) n [.ref 45, xi m] (fun h' n' u' => ∃ w' h1 k', h' = ko w' s p ar v h1 ∧ kR w h n t kc 0 ((t 0).take m.toNat) w' h1 n' u' k') := by
  have W0 := K.1.1
  refine xe_mono (s14 (by omega) (KW_B0 K) h0 hm hl) (fun q M hM => ?_)
  obtain ⟨e1, e2, e3, e4, e5⟩ := hM
  refine ⟨e1, kb_R0 K ⟨w.1 0, kc 0, ?_, Or.inl rfl, by omega, by omega, fun a _ h1 _ => e5 a h1, Nat.le_refl _, by omega, Nat.le_max_left _ _⟩⟩
  rw [e3]
  exact e2
theorem k16_0 (K : KW w h n t kc) (H : sS (gd w) h n r l) (hl : (t 0).length + l.length < 8000) : xA fm 16 (ko w s p ar v h) n [.ref 45, .ref r] (fun x h' n' u' => x = 45 ∧ ∃ w' h1 k', h' = ko w' s p ar v h1 ∧ kR w h n t kc 0 (t 0 ++ l) w' h1 n' u' k') := by
  have W0 := K.1.1
  refine xe_mono (s16 (by omega) (KW_B0 K) (sS_ko H) (fun g => g.2.1 rfl) (fun g => by have := g.1; unfold dy at this; omega) hl) (fun q M hM => ?_)
  obtain ⟨x, e1, e2, e3⟩ := hM
  exact ⟨x, e1, e2, kb_R0 K e3⟩
theorem k63_0 {c : Int} (K : KW w h n t kc) (hc : 0 ≤ c ∧ c < 128) (hl : (t 0).length < 8000) : xA fm 63 (ko w s p ar v h) n [.ref 45, xi c] (fun x h' n' u' => x = 45 ∧ ∃ w' h1 k', h' = ko w' s p ar v h1 ∧ kR w h n t kc 0 (t 0 ++ [c]) w' h1 n' u' k') := by
  have W0 := K.1.1
  refine xe_mono (s63 (by omega) (KW_B0 K) hc hl) (fun q M hM => ?_)
  obtain ⟨x, e1, e2, e3⟩ := hM
  exact ⟨x, e1, e2, kb_R0 K e3⟩
theorem k42_0 {z : Int} (K : KW w h n t kc) (C : cst w h n) (hz : xr z) (hl : (t 0).length < 8000) : xA fm 42 (ko w s p ar v h) n [.ref 45, xi z] (fun x h' n' u' => x = 45 ∧ ∃ w' h1 k', h' = ko w' s p ar v h1 ∧ kR w h n t kc 0 (t 0 ++ nm_txt z) w' h1 n' u' k') := by
  have W0 := K.1.1
  have D : dgT (ko w s p ar v h) := by
    obtain ⟨⟨f1, d1, d2⟩, f2, d3, d4⟩ := C.2
    exact ⟨⟨f1, (ko_d (Or.inl (by omega))).trans d1, d2⟩, f2, (ko_d (Or.inl (by omega))).trans d3, d4⟩
  refine xe_mono (s42 (by omega) D (KW_B0 K) hz hl) (fun q M hM => ?_)
  obtain ⟨x, e1, e2, e3⟩ := hM
  exact ⟨x, e1, e2, kb_R0 K e3⟩
theorem k48_0 (K : KW w h n t kc) (hl : (t 0).length < 9000) : xA fm 48 (ko w s p ar v h) n [.ref 45] (fun x h' n' u' => ∃ h1, h' = ko w s p ar v h1 ∧ ke h n h1 n' ∧ sS (gd w) h1 n' x (t 0) ∧ n' ≤ n + 2 ∧ u' ≤ 4 + (t 0).length) := by
  have W0 := K.1.1
  refine xe_mono (s48 (F := gd w) (by omega) (KW_B0 K) hl) (fun q M hM => ?_)
  obtain ⟨x, e1, e2, e3, e4, e5⟩ := hM
  obtain ⟨h1, g1, g2, g3⟩ := ko_lift K.1 e4
  exact ⟨x, e1, h1, g1, g2, g3 _ _ e2, e5⟩
theorem k12_1 (K : KW w h n t kc) : xR fm 12 (ko w s p ar v h) n [.ref 47] (some (xi (t 1).length)) := s12 (KW_B1 K)
theorem k123_1 {i : Int} (hfm : fm = .null ∨ ∃ j, fm = .ref j) (K : KW w h n t kc) (hi : 0 ≤ i) (hk : i < (t 1).length) : xR fm 123 (ko w s p ar v h) n [.ref 47, xi i] (some (xi ((t 1).getD i.toNat 0))) := s123 hfm (KW_B1 K) hi hk
theorem k14_1 {m : Int} (K : KW w h n t kc) (h0 : 0 ≤ m) (hm : m ≤ (t 1).length) (hl : (t 1).length < 9000) : xN fm 14 (ko w s p ar v h) n [.ref 47, xi m] (fun h' n' u' => ∃ w' h1 k', h' = ko w' s p ar v h1 ∧ kR w h n t kc 1 ((t 1).take m.toNat) w' h1 n' u' k') := by
  have W0 := K.1.1
  refine xe_mono (s14 (by omega) (KW_B1 K) h0 hm hl) (fun q M hM => ?_)
  obtain ⟨e1, e2, e3, e4, e5⟩ := hM
  refine ⟨e1, kb_R1 K ⟨w.1 1, kc 1, ?_, Or.inl rfl, by omega, by omega, fun a _ h1 _ => e5 a h1, Nat.le_refl _, by omega, Nat.le_max_left _ _⟩⟩
  rw [e3]
  exact e2
theorem k16_1 (K : KW w h n t kc) (H : sS (gd w) h n r l) (hl : (t 1).length + l.length < 8000) : xA fm 16 (ko w s p ar v h) n [.ref 47, .ref r] (fun x h' n' u' => x = 47 ∧ ∃ w' h1 k', h' = ko w' s p ar v h1 ∧ kR w h n t kc 1 (t 1 ++ l) w' h1 n' u' k') := by
  have W0 := K.1.1
  refine xe_mono (s16 (by omega) (KW_B1 K) (sS_ko H) (fun g => g.2.2.1 rfl) (fun g => by have := g.1; unfold dy at this; omega) hl) (fun q M hM => ?_)
  obtain ⟨x, e1, e2, e3⟩ := hM
  exact ⟨x, e1, e2, kb_R1 K e3⟩
theorem k63_1 {c : Int} (K : KW w h n t kc) (hc : 0 ≤ c ∧ c < 128) (hl : (t 1).length < 8000) : xA fm 63 (ko w s p ar v h) n [.ref 47, xi c] (fun x h' n' u' => x = 47 ∧ ∃ w' h1 k', h' = ko w' s p ar v h1 ∧ kR w h n t kc 1 (t 1 ++ [c]) w' h1 n' u' k') := by
  have W0 := K.1.1
  refine xe_mono (s63 (by omega) (KW_B1 K) hc hl) (fun q M hM => ?_)
  obtain ⟨x, e1, e2, e3⟩ := hM
  exact ⟨x, e1, e2, kb_R1 K e3⟩
theorem k42_1 {z : Int} (K : KW w h n t kc) (C : cst w h n) (hz : xr z) (hl : (t 1).length < 8000) : xA fm 42 (ko w s p ar v h) n [.ref 47, xi z] (fun x h' n' u' => x = 47 ∧ ∃ w' h1 k', h' = ko w' s p ar v h1 ∧ kR w h n t kc 1 (t 1 ++ nm_txt z) w' h1 n' u' k') := by
  have W0 := K.1.1
  have D : dgT (ko w s p ar v h) := by
    obtain ⟨⟨f1, d1, d2⟩, f2, d3, d4⟩ := C.2
    exact ⟨⟨f1, (ko_d (Or.inl (by omega))).trans d1, d2⟩, f2, (ko_d (Or.inl (by omega))).trans d3, d4⟩
  refine xe_mono (s42 (by omega) D (KW_B1 K) hz hl) (fun q M hM => ?_)
  obtain ⟨x, e1, e2, e3⟩ := hM
  exact ⟨x, e1, e2, kb_R1 K e3⟩
theorem k48_1 (K : KW w h n t kc) (hl : (t 1).length < 9000) : xA fm 48 (ko w s p ar v h) n [.ref 47] (fun x h' n' u' => ∃ h1, h' = ko w s p ar v h1 ∧ ke h n h1 n' ∧ sS (gd w) h1 n' x (t 1) ∧ n' ≤ n + 2 ∧ u' ≤ 4 + (t 1).length) := by
  have W0 := K.1.1
  refine xe_mono (s48 (F := gd w) (by omega) (KW_B1 K) hl) (fun q M hM => ?_)
  obtain ⟨x, e1, e2, e3, e4, e5⟩ := hM
  obtain ⟨h1, g1, g2, g3⟩ := ko_lift K.1 e4
  exact ⟨x, e1, h1, g1, g2, g3 _ _ e2, e5⟩
theorem k12_2 (K : KW w h n t kc) : xR fm 12 (ko w s p ar v h) n [.ref 50] (some (xi (t 2).length)) := s12 (KW_B2 K)
theorem k123_2 {i : Int} (hfm : fm = .null ∨ ∃ j, fm = .ref j) (K : KW w h n t kc) (hi : 0 ≤ i) (hk : i < (t 2).length) : xR fm 123 (ko w s p ar v h) n [.ref 50, xi i] (some (xi ((t 2).getD i.toNat 0))) := s123 hfm (KW_B2 K) hi hk
theorem k14_2 {m : Int} (K : KW w h n t kc) (h0 : 0 ≤ m) (hm : m ≤ (t 2).length) (hl : (t 2).length < 9000) : xN fm 14 (ko w s p ar v h) n [.ref 50, xi m] (fun h' n' u' => ∃ w' h1 k', h' = ko w' s p ar v h1 ∧ kR w h n t kc 2 ((t 2).take m.toNat) w' h1 n' u' k') := by
  have W0 := K.1.1
  refine xe_mono (s14 (by omega) (KW_B2 K) h0 hm hl) (fun q M hM => ?_)
  obtain ⟨e1, e2, e3, e4, e5⟩ := hM
  refine ⟨e1, kb_R2 K ⟨w.1 2, kc 2, ?_, Or.inl rfl, by omega, by omega, fun a _ h1 _ => e5 a h1, Nat.le_refl _, by omega, Nat.le_max_left _ _⟩⟩
  rw [e3]
  exact e2
theorem k16_2 (K : KW w h n t kc) (H : sS (gd w) h n r l) (hl : (t 2).length + l.length < 8000) : xA fm 16 (ko w s p ar v h) n [.ref 50, .ref r] (fun x h' n' u' => x = 50 ∧ ∃ w' h1 k', h' = ko w' s p ar v h1 ∧ kR w h n t kc 2 (t 2 ++ l) w' h1 n' u' k') := by
  have W0 := K.1.1
  refine xe_mono (s16 (by omega) (KW_B2 K) (sS_ko H) (fun g => g.2.2.2.1 rfl) (fun g => by have := g.1; unfold dy at this; omega) hl) (fun q M hM => ?_)
  obtain ⟨x, e1, e2, e3⟩ := hM
  exact ⟨x, e1, e2, kb_R2 K e3⟩
theorem k63_2 {c : Int} (K : KW w h n t kc) (hc : 0 ≤ c ∧ c < 128) (hl : (t 2).length < 8000) : xA fm 63 (ko w s p ar v h) n [.ref 50, xi c] (fun x h' n' u' => x = 50 ∧ ∃ w' h1 k', h' = ko w' s p ar v h1 ∧ kR w h n t kc 2 (t 2 ++ [c]) w' h1 n' u' k') := by
  have W0 := K.1.1
  refine xe_mono (s63 (by omega) (KW_B2 K) hc hl) (fun q M hM => ?_)
  obtain ⟨x, e1, e2, e3⟩ := hM
  exact ⟨x, e1, e2, kb_R2 K e3⟩
theorem k42_2 {z : Int} (K : KW w h n t kc) (C : cst w h n) (hz : xr z) (hl : (t 2).length < 8000) : xA fm 42 (ko w s p ar v h) n [.ref 50, xi z] (fun x h' n' u' => x = 50 ∧ ∃ w' h1 k', h' = ko w' s p ar v h1 ∧ kR w h n t kc 2 (t 2 ++ nm_txt z) w' h1 n' u' k') := by
  have W0 := K.1.1
  have D : dgT (ko w s p ar v h) := by
    obtain ⟨⟨f1, d1, d2⟩, f2, d3, d4⟩ := C.2
    exact ⟨⟨f1, (ko_d (Or.inl (by omega))).trans d1, d2⟩, f2, (ko_d (Or.inl (by omega))).trans d3, d4⟩
  refine xe_mono (s42 (by omega) D (KW_B2 K) hz hl) (fun q M hM => ?_)
  obtain ⟨x, e1, e2, e3⟩ := hM
  exact ⟨x, e1, e2, kb_R2 K e3⟩
theorem k48_2 (K : KW w h n t kc) (hl : (t 2).length < 9000) : xA fm 48 (ko w s p ar v h) n [.ref 50] (fun x h' n' u' => ∃ h1, h' = ko w s p ar v h1 ∧ ke h n h1 n' ∧ sS (gd w) h1 n' x (t 2) ∧ n' ≤ n + 2 ∧ u' ≤ 4 + (t 2).length) := by
  have W0 := K.1.1
  refine xe_mono (s48 (F := gd w) (by omega) (KW_B2 K) hl) (fun q M hM => ?_)
  obtain ⟨x, e1, e2, e3, e4, e5⟩ := hM
  obtain ⟨h1, g1, g2, g3⟩ := ko_lift K.1 e4
  exact ⟨x, e1, h1, g1, g2, g3 _ _ e2, e5⟩
theorem k103 {i j : Int} (hfm : fm = .null ∨ ∃ j, fm = .ref j) (K : KW w h n t kc) (C : cst w h n) (H : sS (gd w) h n r l) (hi : 0 ≤ i) (hj : i ≤ j) (hl : j ≤ l.length) : xA fm 103 (ko w s p ar v h) n [.ref r, xi i, xi j] (fun x h' n' u' => ∃ h1, h' = ko w s p ar v h1 ∧ ke h n h1 n' ∧ sS (gd w) h1 n' x (sl l i j) ∧ n' ≤ n + 2 ∧ u' ≤ 4 + (j - i).toNat) := by
  have W0 := K.1.1
  refine xe_mono (s103 (F := gd w) hfm (by omega) (sS_ko (C.1 (1, []) (by decide))) (sS_ko H) hi hj hl) (fun q M hM => ?_)
  obtain ⟨x, e1, e2, e4, e5⟩ := hM
  obtain ⟨h1, g1, g2, g3⟩ := ko_lift K.1 e4
  exact ⟨x, e1, h1, g1, g2, g3 _ _ e2, e5⟩
theorem k72 (K : KW w h n t kc) (C : cst w h n) (H : sS (gd w) h n r l) : xA fm 72 (ko w s p ar v h) n [.ref r] (fun x h' n' u' => ∃ h1, h' = ko w s p ar v h1 ∧ ke h n h1 n' ∧ sS (gd w) h1 n' x (l.map xd_sml) ∧ n' ≤ n + 3 ∧ u' ≤ 4 + 2 * l.length) := by
  have W0 := K.1.1
  refine xe_mono (s72x (F := gd w) (by omega) (sS_ko (C.1 (1, []) (by decide))) (sS_ko H)) (fun q M hM => ?_)
  obtain ⟨x, e1, e2, e4, e5⟩ := hM
  obtain ⟨h1, g1, g2, g3⟩ := ko_lift K.1 e4
  exact ⟨x, e1, h1, g1, g2, g3 _ _ e2, e5⟩
theorem kR_RR2 (R : kR w h n t kc 2 L w' h1 n' u' k') : RR [] [] 0 0 w s p h n t kc w' s p h1 n' (tu t 2 L) (pu kc 2 k') u' := by
  obtain ⟨a1, a2, a3, a4, a5, a6⟩ := R
  exact ⟨a1, a2, fun _ _ => rfl, fun _ _ => rfl, ⟨rfl, rfl⟩, ⟨rfl, rfl⟩, a4, by rw [Nat.add_zero]; exact a3, by rw [Nat.zero_add]; exact a5⟩
/-- the object of a String, seen through the fixed cells -/
theorem sS_at (H : sS (gd w) h n r l) : ∃ fs, (∀ (s : Nat → Int) (p : Nat → Nat) (ar : Nat → Nat → Option Nat) (v : Nat → Int) (w' : kW), ko w' s p ar v h r = .inr (6, fs)) ∧ r < n ∧ asc l ∧ l.length < 10000 := by
  obtain ⟨b, x, y, e1, e2, e3, e4, e5, e6, e7, e8⟩ := H
  exact ⟨_, fun s p ar v w' => (ko_d e3.1).trans e1, e5, e7, e8⟩
end XB3
