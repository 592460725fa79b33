/-! the reference: rows of cookies; alike, oldestOfSite -/
abbrev ck_T : Type := List Int × List Int × List Int × List Int × Int × Bool × Bool × Bool
def ck_txt (ar : Nat → Nat → Int) (Fs Fx w i : Nat) (l : List Int) : Prop := ar Fs i = l.length ∧ l.length ≤ w ∧ xh (ar Fx) (w * i) l
def ck_at (ar : Nat → Nat → Int) (i : Nat) (c : ck_T) : Prop := ck_txt ar 24 20 12 i c.1 ∧ ck_txt ar 25 21 12 i c.2.1 ∧ ck_dom ar i c.2.2.1 ∧ ck_txt ar 27 23 30 i c.2.2.2.1 ∧ ar 28 i = c.2.2.2.2.1 ∧ ar 29 i = xb c.2.2.2.2.2.1 ∧ ar 30 i = xb c.2.2.2.2.2.2.1 ∧ ar 31 i = xb c.2.2.2.2.2.2.2
def ck_0 : ck_T := ([], [], [], [], -1, false, false, false)
def ck_all (s : Nat → Int) (ar : Nat → Nat → Int) (C : List ck_T) : Prop := s 19 = C.length ∧ C.length ≤ 41 ∧ ∀ i, i < C.length → ck_at ar i (C.getD i ck_0)
theorem xh_mv {f g : Nat → Int} {p q w : Nat} {l : List Int} (h : xh f p l) (hl : l.length ≤ w) (he : ∀ j, j < w → g (q + j) = f (p + j)) : xh g q l := fun i hi => by rw [he i (by omega), h i hi]
theorem ck_at_eq {ar ar1 : Nat → Nat → Int} {a b : Nat} {c : ck_T} (h : ck_at ar a c) (e : ck_eq ar a ar1 b) : ck_at ar1 b c := by
  obtain ⟨⟨a1, a2, a3⟩, ⟨a4, a5, a6⟩, ⟨a7, a8, a9⟩, ⟨a10, a11, a12⟩, a13, a14, a15, a16⟩ := h
  obtain ⟨b1, b2, b3, b4, b5, b6, b7, b8, b9, b10, b11, b12⟩ := e
  exact ⟨⟨b5.trans a1, a2, xh_mv a3 a2 b1⟩, ⟨b6.trans a4, a5, xh_mv a6 a5 b2⟩, ⟨b7.trans a7, a8, xh_mv a9 a8 b3⟩, ⟨b8.trans a10, a11, xh_mv a12 a11 b4⟩, b9.trans a13, b10.trans a14, b11.trans a15, b12.trans a16⟩
theorem ck_at_q {S A : List Nat} {s s1 : Nat → Int} {ar ar1 : Nat → Nat → Int} {a : Nat} {c : ck_T} (h : ck_at ar a c) (q : xq S A s ar s1 ar1) (hA : A.all (fun k => decide (k < 20 ∨ 31 < k)) = true) : ck_at ar1 a c := by
  refine ck_at_eq h (ck_eq_q (fun F h1 h2 => q.2 F (fun hF => ?_)))
  have := of_decide_eq_true (List.all_eq_true.mp hA F hF)
  omega
theorem ck_all_q {S A : List Nat} {s s1 : Nat → Int} {ar ar1 : Nat → Nat → Int} {C : List ck_T} (h : ck_all s ar C) (q : xq S A s ar s1 ar1) (hS : 19 ∉ S) (hA : A.all (fun k => decide (k < 20 ∨ 31 < k)) = true) : ck_all s1 ar1 C := ⟨(q.1 19 hS).trans h.1, h.2.1, fun i hi => ck_at_q (h.2.2 i hi) q hA⟩
def ck_same (c f : ck_T) : Bool := decide (c.1 = f.1) && (decide (c.2.2.1 = f.2.2.1) && decide (c.2.2.2.1 = f.2.2.2.1))
def ck_fi : List ck_T → ck_T → Nat → Int
  | [], _, _ => -1
  | c :: C, f, k => if ck_same c f = true then k else ck_fi C f (k + 1)
section XAL
variable (fm : Value) {m n : Nat} {h0 : xm_H} {s : Nat → Int} {ar : Nat → Nat → Int}
theorem xe_alike (hmn : xo_in m n) (hw : xo_wf s ar) {i : Nat} {c f : ck_T} {Q : xe_Q} (hi : i < 41) (hc : ck_at ar i c) (hf : ck_at ar 41 f) (h19 : s 19 ≤ 41) (hi9 : (i : Int) < s 19)
    (ky : ck_same c f = true → ∀ v3 v2, xe fm 325 (224, [(3, xi v3), (2, xi v2), (1, xi i), (0, .ref m)], [], (xo m s ar h0, n, 0, 0)) Q)
    (kn : ck_same c f = false → ∀ v3 v2, xe fm 325 (226, [(3, xi v3), (2, xi v2), (1, xi i), (0, .ref m)], [], (xo m s ar h0, n, 0, 0)) Q) :
    xe fm 325 (2, [(1, xi i), (0, .ref m)], [], (xo m s ar h0, n, 0, 0)) Q := by
  obtain ⟨⟨a1, a2, a3⟩, _, ⟨a7, a8, a9⟩, ⟨a10, a11, a12⟩, _⟩ := hc
  obtain ⟨⟨f1, f2, f3⟩, _, ⟨f7, f8, f9⟩, ⟨f10, f11, f12⟩, _⟩ := hf
  have b1 : ar 24 (i : Int).toNat = c.1.length := a1
  have b2 : ar 26 (i : Int).toNat = c.2.2.1.length := a7
  have b3 : ar 27 (i : Int).toNat = c.2.2.2.1.length := a10
  have g1 : ar 24 (41 : Int).toNat = f.1.length := f1
  have g2 : ar 26 (41 : Int).toNat = f.2.2.1.length := f7
  have g3 : ar 27 (41 : Int).toNat = f.2.2.2.1.length := f10
  have e220 : ∀ b : Bool, b = ck_same c f → ∀ v3, xe fm 325 (220, [(3, xi v3), (2, xi (xb b)), (1, xi i), (0, .ref m)], [], (xo m s ar h0, n, 0, 0)) Q := by
    intro b hb v3
    refine xe_s (f := (221, _, _, _)) xt_g325 rfl rfl rfl rfl rfl ?_
    refine xe_if_eq xt_g325 rfl (t := 226) rfl (q := 224) rfl (by first | omega | exact hw.1 _ | exact hw.2 _ _ | exact xb_r _) (fun h221 => ?_) (fun h221 => ?_)
    · try simp only [xb_0, xb_1, ne_eq, Decidable.not_not, decide_eq_true_eq, decide_eq_false_iff_not] at h221
      exact kn (by rw [← hb]; exact h221) _ _
    · try simp only [xb_0, xb_1, ne_eq, Decidable.not_not, decide_eq_true_eq, decide_eq_false_iff_not] at h221
      exact ky (by rw [← hb]; simpa using h221) _ _
  have l170 : ∀ b : Bool, (b = true → c.2.2.2.1.length = f.2.2.2.1.length) → (b && decide (c.2.2.2.1 = f.2.2.2.1)) = ck_same c f → xe fm 325 (170, [(3, xi ((0 : Nat) : Int)), (2, xi (xb b)), (1, xi i), (0, .ref m)], [], (xo m s ar h0, n, 0, 0)) Q := by
    intro b hbl hb
    refine xc_loop (n := c.2.2.2.1.length) (B := fun k => decide (c.2.2.2.1.getD k 0 = f.2.2.2.1.getD k 0)) (P := fun k b => (b = true → c.2.2.2.1.length = f.2.2.2.1.length) → xe fm 325 (170, [(3, xi (k : Nat)), (2, xi (xb b)), (1, xi i), (0, .ref m)], [], (xo m s ar h0, n, 0, 0)) Q) (E := fun b => b = ck_same c f) b ?_ ?_ ?_ hbl
    · cases b with
      | false => rw [Bool.false_and] at hb ⊢; exact hb
      | true => rw [xc_all_eq rfl (hbl rfl).symm (fun _ _ => rfl)]; exact hb
    · intro k b hk hkb hE _
      refine xe_s (f := (171, _, _, _)) xt_g325 rfl rfl rfl rfl rfl ?_
      refine xe_s (f := (172, _, _, _)) xt_g325 rfl rfl rfl rfl rfl ?_
      refine xe_mga xt_g325 rfl (q := 175) rfl (xf_13_58 fm) (by decide) rfl (by omega) ?_
      try simp only [xo_u, xo_w, Nat.reduceEqDiff, reduceIte, false_and, true_and]
      refine xe_s (f := (176, _, _, _)) xt_g325 rfl rfl rfl rfl rfl ?_
      refine xe_mal (ok := xm_isN) (ty := .int) xt_g325 rfl (q := 177) rfl (fun _ _ => ⟨rfl, rfl, rfl, rfl⟩) rfl rfl rfl (by omega) (by omega) (by omega) (by omega) ?_
      try simp only [xo_u, xo_w, Nat.reduceEqDiff, reduceIte, false_and, true_and]
      rw [b3]
      refine xe_ic_ge xt_g325 rfl (t := 220) rfl (q := 180) rfl (by first | omega | exact hw.1 _ | exact hw.2 _ _ | exact xb_r _) (by first | omega | exact hw.1 _ | exact hw.2 _ _ | exact xb_r _) (fun h177 => ?_) (fun h177 => ?_)
      · exact e220 b hE _
      · refine xe_s (f := (181, _, _, _)) xt_g325 rfl rfl rfl rfl rfl ?_
        refine xe_if_eq xt_g325 rfl (t := 220) rfl (q := 184) rfl (by first | omega | exact hw.1 _ | exact hw.2 _ _ | exact xb_r _) (fun h181 => ?_) (fun h181 => ?_)
        · try simp only [xb_0, xb_1, ne_eq, Decidable.not_not, decide_eq_true_eq, decide_eq_false_iff_not] at h181
          exact e220 b hE _
        · try simp only [xb_0, xb_1, ne_eq, Decidable.not_not, decide_eq_true_eq, decide_eq_false_iff_not] at h181
          exfalso
          rcases hkb with h | h
          · omega
          · rw [h] at h181; exact absurd rfl h181
    · intro k hk ih hlt
      have hl := hlt rfl
      have y1 : ar 23 (30 * (i : Int) + k).toNat = c.2.2.2.1.getD k 0 := by
        rw [← a12 k (by omega)]
        congr 1
      have y2 : ar 23 (1230 + (k : Int)).toNat = f.2.2.2.1.getD k 0 := by
        rw [← f12 k (by omega)]
        congr 1
      have r1 := hw.2 23 (30 * (i : Int) + k).toNat
      have r2 := hw.2 23 (1230 + (k : Int)).toNat
      have ih' := ih (fun _ => hl)
      refine xe_s (f := (171, _, _, _)) xt_g325 rfl rfl rfl rfl rfl ?_
      refine xe_s (f := (172, _, _, _)) xt_g325 rfl rfl rfl rfl rfl ?_
      refine xe_mga xt_g325 rfl (q := 175) rfl (xf_13_58 fm) (by decide) rfl (by omega) ?_
      try simp only [xo_u, xo_w, Nat.reduceEqDiff, reduceIte, false_and, true_and]
      refine xe_s (f := (176, _, _, _)) xt_g325 rfl rfl rfl rfl rfl ?_
      refine xe_mal (ok := xm_isN) (ty := .int) xt_g325 rfl (q := 177) rfl (fun _ _ => ⟨rfl, rfl, rfl, rfl⟩) rfl rfl rfl (by omega) (by omega) (by omega) (by omega) ?_
      try simp only [xo_u, xo_w, Nat.reduceEqDiff, reduceIte, false_and, true_and]
      rw [b3]
      refine xe_ic_ge xt_g325 rfl (t := 220) rfl (q := 180) rfl (by first | omega | exact hw.1 _ | exact hw.2 _ _ | exact xb_r _) (by first | omega | exact hw.1 _ | exact hw.2 _ _ | exact xb_r _) (fun h177 => ?_) (fun h177 => ?_)
      · exact absurd h177 (by omega)
      · refine xe_s (f := (181, _, _, _)) xt_g325 rfl rfl rfl rfl rfl ?_
        refine xe_if_eq xt_g325 rfl (t := 220) rfl (q := 184) rfl (by first | omega | exact hw.1 _ | exact hw.2 _ _ | exact xb_r _) (fun h181 => ?_) (fun h181 => ?_)
        · exact absurd h181 (by decide)
        · try simp only [xb_0, xb_1, ne_eq, Decidable.not_not, decide_eq_true_eq, decide_eq_false_iff_not] at h181
          refine xe_s (f := (185, _, _, _)) xt_g325 rfl rfl rfl rfl rfl ?_
          refine xe_mga xt_g325 rfl (q := 188) rfl (xf_13_46 fm) (by decide) rfl (by omega) ?_
          try simp only [xo_u, xo_w, Nat.reduceEqDiff, reduceIte, false_and, true_and]
          refine xe_bipush xt_g325 rfl (q := 190) rfl (by decide) (by decide) ?_
          refine xe_s (f := (191, _, _, _)) xt_g325 rfl rfl rfl rfl rfl ?_
          refine xe_imul xt_g325 rfl (q := 192) rfl ?_
          refine xe_s (f := (193, _, _, _)) xt_g325 rfl rfl rfl rfl rfl ?_
          refine xe_iadd xt_g325 rfl (q := 194) rfl ?_
          refine xe_mal (ok := xm_isN) (ty := .int) xt_g325 rfl (q := 195) rfl (fun _ _ => ⟨rfl, rfl, rfl, rfl⟩) rfl rfl rfl (by omega) (by omega) (by omega) (by omega) ?_
          try simp only [xo_u, xo_w, Nat.reduceEqDiff, reduceIte, false_and, true_and]
          refine xe_s (f := (196, _, _, _)) xt_g325 rfl rfl rfl rfl rfl ?_
          refine xe_mga xt_g325 rfl (q := 199) rfl (xf_13_46 fm) (by decide) rfl (by omega) ?_
          try simp only [xo_u, xo_w, Nat.reduceEqDiff, reduceIte, false_and, true_and]
          refine xe_sipush xt_g325 rfl (q := 202) rfl (by decide) (by decide) ?_
          refine xe_s (f := (203, _, _, _)) xt_g325 rfl rfl rfl rfl rfl ?_
          refine xe_iadd xt_g325 rfl (q := 204) rfl ?_
          refine xe_mal (ok := xm_isN) (ty := .int) xt_g325 rfl (q := 205) rfl (fun _ _ => ⟨rfl, rfl, rfl, rfl⟩) rfl rfl rfl (by omega) (by omega) (by omega) (by omega) ?_
          try simp only [xo_u, xo_w, Nat.reduceEqDiff, reduceIte, false_and, true_and]
          refine xe_ic_ne xt_g325 rfl (t := 212) rfl (q := 208) rfl (by first | omega | exact hw.1 _ | exact hw.2 _ _ | exact xb_r _) (by first | omega | exact hw.1 _ | exact hw.2 _ _ | exact xb_r _) (fun h205 => ?_) (fun h205 => ?_)
          · refine xe_s (f := (213, _, xi 0 :: _, _)) xt_g325 rfl rfl rfl rfl rfl ?_
            refine xe_s (f := (214, [(2, _), (3, _), (1, _), (0, _)], _, _)) xt_g325 rfl rfl rfl rfl rfl ?_
            refine xe_iinc xt_g325 rfl (q := 217) rfl rfl (by decide) (L1 := [(3, _), (2, _), (1, _), (0, _)]) rfl ?_
            refine xe_s (f := (170, _, _, _)) xt_g325 rfl rfl rfl rfl rfl ?_
            rw [y1, y2] at h205
            rw [decide_eq_false h205] at ih'
            rw [show ((k : Int) + 1) = ((k + 1 : Nat) : Int) by omega]
            exact xe_loc (by intro q hq; simp only [List.mem_cons, List.not_mem_nil, or_false] at hq; rcases hq with rfl | rfl | rfl | rfl <;> rfl) (ih')
          · refine xe_s (f := (209, _, xi 1 :: _, _)) xt_g325 rfl rfl rfl rfl rfl ?_
            refine xe_s (f := (213, _, _, _)) xt_g325 rfl rfl rfl rfl rfl ?_
            refine xe_s (f := (214, [(2, _), (3, _), (1, _), (0, _)], _, _)) xt_g325 rfl rfl rfl rfl rfl ?_
            refine xe_iinc xt_g325 rfl (q := 217) rfl rfl (by decide) (L1 := [(3, _), (2, _), (1, _), (0, _)]) rfl ?_
            refine xe_s (f := (170, _, _, _)) xt_g325 rfl rfl rfl rfl rfl ?_
            rw [y1, y2] at h205
            rw [decide_eq_true (Decidable.not_not.mp h205)] at ih'
            rw [show ((k : Int) + 1) = ((k + 1 : Nat) : Int) by omega]
            exact xe_loc (by intro q hq; simp only [List.mem_cons, List.not_mem_nil, or_false] at hq; rcases hq with rfl | rfl | rfl | rfl <;> rfl) (ih')
  have l118 : ∀ b : Bool, (b = true → c.2.2.1.length = f.2.2.1.length ∧ c.2.2.2.1.length = f.2.2.2.1.length) → (b && decide (c.2.2.1 = f.2.2.1) && decide (c.2.2.2.1 = f.2.2.2.1)) = ck_same c f → xe fm 325 (118, [(3, xi ((0 : Nat) : Int)), (2, xi (xb b)), (1, xi i), (0, .ref m)], [], (xo m s ar h0, n, 0, 0)) Q := by
    intro b hbl hb
    refine xc_loop (n := c.2.2.1.length) (B := fun k => decide (c.2.2.1.getD k 0 = f.2.2.1.getD k 0)) (P := fun k b => (b = true → c.2.2.1.length = f.2.2.1.length ∧ c.2.2.2.1.length = f.2.2.2.1.length) → xe fm 325 (118, [(3, xi (k : Nat)), (2, xi (xb b)), (1, xi i), (0, .ref m)], [], (xo m s ar h0, n, 0, 0)) Q) (E := fun b => (b && decide (c.2.2.2.1 = f.2.2.2.1)) = ck_same c f) b ?_ ?_ ?_ hbl
    · cases b with
      | false => rw [Bool.false_and] at hb ⊢; exact hb
      | true => rw [xc_all_eq rfl (hbl rfl).1.symm (fun _ _ => rfl)]; exact hb
    · intro k b hk hkb hE hbb
      refine xe_s (f := (119, _, _, _)) xt_g325 rfl rfl rfl rfl rfl ?_
      refine xe_s (f := (120, _, _, _)) xt_g325 rfl rfl rfl rfl rfl ?_
      refine xe_mga xt_g325 rfl (q := 123) rfl (xf_13_55 fm) (by decide) rfl (by omega) ?_
      try simp only [xo_u, xo_w, Nat.reduceEqDiff, reduceIte, false_and, true_and]
      refine xe_s (f := (124, _, _, _)) xt_g325 rfl rfl rfl rfl rfl ?_
      refine xe_mal (ok := xm_isN) (ty := .int) xt_g325 rfl (q := 125) rfl (fun _ _ => ⟨rfl, rfl, rfl, rfl⟩) rfl rfl rfl (by omega) (by omega) (by omega) (by omega) ?_
      try simp only [xo_u, xo_w, Nat.reduceEqDiff, reduceIte, false_and, true_and]
      rw [b2]
      refine xe_ic_ge xt_g325 rfl (t := 168) rfl (q := 128) rfl (by first | omega | exact hw.1 _ | exact hw.2 _ _ | exact xb_r _) (by first | omega | exact hw.1 _ | exact hw.2 _ _ | exact xb_r _) (fun h125 => ?_) (fun h125 => ?_)
      · refine xe_s (f := (169, _, xi 0 :: _, _)) xt_g325 rfl rfl rfl rfl rfl ?_
        refine xe_s (f := (170, [(3, _), (2, _), (1, _), (0, _)], _, _)) xt_g325 rfl rfl rfl rfl rfl ?_
        exact l170 b (fun h => (hbb h).2) hE
      · refine xe_s (f := (129, _, _, _)) xt_g325 rfl rfl rfl rfl rfl ?_
        refine xe_if_eq xt_g325 rfl (t := 168) rfl (q := 132) rfl (by first | omega | exact hw.1 _ | exact hw.2 _ _ | exact xb_r _) (fun h129 => ?_) (fun h129 => ?_)
        · try simp only [xb_0, xb_1, ne_eq, Decidable.not_not, decide_eq_true_eq, decide_eq_false_iff_not] at h129
          refine xe_s (f := (169, _, xi 0 :: _, _)) xt_g325 rfl rfl rfl rfl rfl ?_
          refine xe_s (f := (170, [(3, _), (2, _), (1, _), (0, _)], _, _)) xt_g325 rfl rfl rfl rfl rfl ?_
          exact l170 b (fun h => (hbb h).2) hE
        · try simp only [xb_0, xb_1, ne_eq, Decidable.not_not, decide_eq_true_eq, decide_eq_false_iff_not] at h129
          exfalso
          rcases hkb with h | h
          · omega
          · rw [h] at h129; exact absurd rfl h129
    · intro k hk ih hlt
      have hl := (hlt rfl).1
      have y1 : ar 22 (40 * (i : Int) + k).toNat = c.2.2.1.getD k 0 := by
        rw [← a9 k (by omega)]
        congr 1
      have y2 : ar 22 (1640 + (k : Int)).toNat = f.2.2.1.getD k 0 := by
        rw [← f9 k (by omega)]
        congr 1
      have r1 := hw.2 22 (40 * (i : Int) + k).toNat
      have r2 := hw.2 22 (1640 + (k : Int)).toNat
      have ih' := ih (fun _ => hlt rfl)
      refine xe_s (f := (119, _, _, _)) xt_g325 rfl rfl rfl rfl rfl ?_
      refine xe_s (f := (120, _, _, _)) xt_g325 rfl rfl rfl rfl rfl ?_
      refine xe_mga xt_g325 rfl (q := 123) rfl (xf_13_55 fm) (by decide) rfl (by omega) ?_
      try simp only [xo_u, xo_w, Nat.reduceEqDiff, reduceIte, false_and, true_and]
      refine xe_s (f := (124, _, _, _)) xt_g325 rfl rfl rfl rfl rfl ?_
      refine xe_mal (ok := xm_isN) (ty := .int) xt_g325 rfl (q := 125) rfl (fun _ _ => ⟨rfl, rfl, rfl, rfl⟩) rfl rfl rfl (by omega) (by omega) (by omega) (by omega) ?_
      try simp only [xo_u, xo_w, Nat.reduceEqDiff, reduceIte, false_and, true_and]
      rw [b2]
      refine xe_ic_ge xt_g325 rfl (t := 168) rfl (q := 128) rfl (by first | omega | exact hw.1 _ | exact hw.2 _ _ | exact xb_r _) (by first | omega | exact hw.1 _ | exact hw.2 _ _ | exact xb_r _) (fun h125 => ?_) (fun h125 => ?_)
      · exact absurd h125 (by omega)
      · refine xe_s (f := (129, _, _, _)) xt_g325 rfl rfl rfl rfl rfl ?_
        refine xe_if_eq xt_g325 rfl (t := 168) rfl (q := 132) rfl (by first | omega | exact hw.1 _ | exact hw.2 _ _ | exact xb_r _) (fun h129 => ?_) (fun h129 => ?_)
        · exact absurd h129 (by decide)
        · try simp only [xb_0, xb_1, ne_eq, Decidable.not_not, decide_eq_true_eq, decide_eq_false_iff_not] at h129
          refine xe_s (f := (133, _, _, _)) xt_g325 rfl rfl rfl rfl rfl ?_
          refine xe_mga xt_g325 rfl (q := 136) rfl (xf_13_43 fm) (by decide) rfl (by omega) ?_
          try simp only [xo_u, xo_w, Nat.reduceEqDiff, reduceIte, false_and, true_and]
          refine xe_bipush xt_g325 rfl (q := 138) rfl (by decide) (by decide) ?_
          refine xe_s (f := (139, _, _, _)) xt_g325 rfl rfl rfl rfl rfl ?_
          refine xe_imul xt_g325 rfl (q := 140) rfl ?_
          refine xe_s (f := (141, _, _, _)) xt_g325 rfl rfl rfl rfl rfl ?_
          refine xe_iadd xt_g325 rfl (q := 142) rfl ?_
          refine xe_mal (ok := xm_isN) (ty := .int) xt_g325 rfl (q := 143) rfl (fun _ _ => ⟨rfl, rfl, rfl, rfl⟩) rfl rfl rfl (by omega) (by omega) (by omega) (by omega) ?_
          try simp only [xo_u, xo_w, Nat.reduceEqDiff, reduceIte, false_and, true_and]
          refine xe_s (f := (144, _, _, _)) xt_g325 rfl rfl rfl rfl rfl ?_
          refine xe_mga xt_g325 rfl (q := 147) rfl (xf_13_43 fm) (by decide) rfl (by omega) ?_
          try simp only [xo_u, xo_w, Nat.reduceEqDiff, reduceIte, false_and, true_and]
          refine xe_sipush xt_g325 rfl (q := 150) rfl (by decide) (by decide) ?_
          refine xe_s (f := (151, _, _, _)) xt_g325 rfl rfl rfl rfl rfl ?_
          refine xe_iadd xt_g325 rfl (q := 152) rfl ?_
          refine xe_mal (ok := xm_isN) (ty := .int) xt_g325 rfl (q := 153) rfl (fun _ _ => ⟨rfl, rfl, rfl, rfl⟩) rfl rfl rfl (by omega) (by omega) (by omega) (by omega) ?_
          try simp only [xo_u, xo_w, Nat.reduceEqDiff, reduceIte, false_and, true_and]
          refine xe_ic_ne xt_g325 rfl (t := 160) rfl (q := 156) rfl (by first | omega | exact hw.1 _ | exact hw.2 _ _ | exact xb_r _) (by first | omega | exact hw.1 _ | exact hw.2 _ _ | exact xb_r _) (fun h153 => ?_) (fun h153 => ?_)
          · refine xe_s (f := (161, _, xi 0 :: _, _)) xt_g325 rfl rfl rfl rfl rfl ?_
            refine xe_s (f := (162, [(2, _), (3, _), (1, _), (0, _)], _, _)) xt_g325 rfl rfl rfl rfl rfl ?_
            refine xe_iinc xt_g325 rfl (q := 165) rfl rfl (by decide) (L1 := [(3, _), (2, _), (1, _), (0, _)]) rfl ?_
            refine xe_s (f := (118, _, _, _)) xt_g325 rfl rfl rfl rfl rfl ?_
            rw [y1, y2] at h153
            rw [decide_eq_false h153] at ih'
            rw [show ((k : Int) + 1) = ((k + 1 : Nat) : Int) by omega]
            exact xe_loc (by intro q hq; simp only [List.mem_cons, List.not_mem_nil, or_false] at hq; rcases hq with rfl | rfl | rfl | rfl <;> rfl) (ih')
          · refine xe_s (f := (157, _, xi 1 :: _, _)) xt_g325 rfl rfl rfl rfl rfl ?_
            refine xe_s (f := (161, _, _, _)) xt_g325 rfl rfl rfl rfl rfl ?_
            refine xe_s (f := (162, [(2, _), (3, _), (1, _), (0, _)], _, _)) xt_g325 rfl rfl rfl rfl rfl ?_
            refine xe_iinc xt_g325 rfl (q := 165) rfl rfl (by decide) (L1 := [(3, _), (2, _), (1, _), (0, _)]) rfl ?_
            refine xe_s (f := (118, _, _, _)) xt_g325 rfl rfl rfl rfl rfl ?_
            rw [y1, y2] at h153
            rw [decide_eq_true (Decidable.not_not.mp h153)] at ih'
            rw [show ((k : Int) + 1) = ((k + 1 : Nat) : Int) by omega]
            exact xe_loc (by intro q hq; simp only [List.mem_cons, List.not_mem_nil, or_false] at hq; rcases hq with rfl | rfl | rfl | rfl <;> rfl) (ih')
  have l66 : ∀ b : Bool, (b = true → c.1.length = f.1.length ∧ c.2.2.1.length = f.2.2.1.length ∧ c.2.2.2.1.length = f.2.2.2.1.length) → (b && decide (c.1 = f.1) && decide (c.2.2.1 = f.2.2.1) && decide (c.2.2.2.1 = f.2.2.2.1)) = ck_same c f → xe fm 325 (66, [(3, xi ((0 : Nat) : Int)), (2, xi (xb b)), (1, xi i), (0, .ref m)], [], (xo m s ar h0, n, 0, 0)) Q := by
    intro b hbl hb
    refine xc_loop (n := c.1.length) (B := fun k => decide (c.1.getD k 0 = f.1.getD k 0)) (P := fun k b => (b = true → c.1.length = f.1.length ∧ c.2.2.1.length = f.2.2.1.length ∧ c.2.2.2.1.length = f.2.2.2.1.length) → xe fm 325 (66, [(3, xi (k : Nat)), (2, xi (xb b)), (1, xi i), (0, .ref m)], [], (xo m s ar h0, n, 0, 0)) Q) (E := fun b => (b && decide (c.2.2.1 = f.2.2.1) && decide (c.2.2.2.1 = f.2.2.2.1)) = ck_same c f) b ?_ ?_ ?_ hbl
    · cases b with
      | false => rw [Bool.false_and] at hb ⊢; exact hb
      | true => rw [xc_all_eq rfl (hbl rfl).1.symm (fun _ _ => rfl)]; exact hb
    · intro k b hk hkb hE hbb
      refine xe_s (f := (67, _, _, _)) xt_g325 rfl rfl rfl rfl rfl ?_
      refine xe_s (f := (68, _, _, _)) xt_g325 rfl rfl rfl rfl rfl ?_
      refine xe_mga xt_g325 rfl (q := 71) rfl (xf_13_49 fm) (by decide) rfl (by omega) ?_
      try simp only [xo_u, xo_w, Nat.reduceEqDiff, reduceIte, false_and, true_and]
      refine xe_s (f := (72, _, _, _)) xt_g325 rfl rfl rfl rfl rfl ?_
      refine xe_mal (ok := xm_isN) (ty := .int) xt_g325 rfl (q := 73) rfl (fun _ _ => ⟨rfl, rfl, rfl, rfl⟩) rfl rfl rfl (by omega) (by omega) (by omega) (by omega) ?_
      try simp only [xo_u, xo_w, Nat.reduceEqDiff, reduceIte, false_and, true_and]
      rw [b1]
      refine xe_ic_ge xt_g325 rfl (t := 116) rfl (q := 76) rfl (by first | omega | exact hw.1 _ | exact hw.2 _ _ | exact xb_r _) (by first | omega | exact hw.1 _ | exact hw.2 _ _ | exact xb_r _) (fun h73 => ?_) (fun h73 => ?_)
      · refine xe_s (f := (117, _, xi 0 :: _, _)) xt_g325 rfl rfl rfl rfl rfl ?_
        refine xe_s (f := (118, [(3, _), (2, _), (1, _), (0, _)], _, _)) xt_g325 rfl rfl rfl rfl rfl ?_
        exact l118 b (fun h => (hbb h).2) hE
      · refine xe_s (f := (77, _, _, _)) xt_g325 rfl rfl rfl rfl rfl ?_
        refine xe_if_eq xt_g325 rfl (t := 116) rfl (q := 80) rfl (by first | omega | exact hw.1 _ | exact hw.2 _ _ | exact xb_r _) (fun h77 => ?_) (fun h77 => ?_)
        · try simp only [xb_0, xb_1, ne_eq, Decidable.not_not, decide_eq_true_eq, decide_eq_false_iff_not] at h77
          refine xe_s (f := (117, _, xi 0 :: _, _)) xt_g325 rfl rfl rfl rfl rfl ?_
          refine xe_s (f := (118, [(3, _), (2, _), (1, _), (0, _)], _, _)) xt_g325 rfl rfl rfl rfl rfl ?_
          exact l118 b (fun h => (hbb h).2) hE
        · try simp only [xb_0, xb_1, ne_eq, Decidable.not_not, decide_eq_true_eq, decide_eq_false_iff_not] at h77
          exfalso
          rcases hkb with h | h
          · omega
          · rw [h] at h77; exact absurd rfl h77
    · intro k hk ih hlt
      have hl := (hlt rfl).1
      have y1 : ar 20 (12 * (i : Int) + k).toNat = c.1.getD k 0 := by
        rw [← a3 k (by omega)]
        congr 1
      have y2 : ar 20 (492 + (k : Int)).toNat = f.1.getD k 0 := by
        rw [← f3 k (by omega)]
        congr 1
      have r1 := hw.2 20 (12 * (i : Int) + k).toNat
      have r2 := hw.2 20 (492 + (k : Int)).toNat
      have ih' := ih (fun _ => hlt rfl)
      refine xe_s (f := (67, _, _, _)) xt_g325 rfl rfl rfl rfl rfl ?_
      refine xe_s (f := (68, _, _, _)) xt_g325 rfl rfl rfl rfl rfl ?_
      refine xe_mga xt_g325 rfl (q := 71) rfl (xf_13_49 fm) (by decide) rfl (by omega) ?_
      try simp only [xo_u, xo_w, Nat.reduceEqDiff, reduceIte, false_and, true_and]
      refine xe_s (f := (72, _, _, _)) xt_g325 rfl rfl rfl rfl rfl ?_
      refine xe_mal (ok := xm_isN) (ty := .int) xt_g325 rfl (q := 73) rfl (fun _ _ => ⟨rfl, rfl, rfl, rfl⟩) rfl rfl rfl (by omega) (by omega) (by omega) (by omega) ?_
      try simp only [xo_u, xo_w, Nat.reduceEqDiff, reduceIte, false_and, true_and]
      rw [b1]
      refine xe_ic_ge xt_g325 rfl (t := 116) rfl (q := 76) rfl (by first | omega | exact hw.1 _ | exact hw.2 _ _ | exact xb_r _) (by first | omega | exact hw.1 _ | exact hw.2 _ _ | exact xb_r _) (fun h73 => ?_) (fun h73 => ?_)
      · exact absurd h73 (by omega)
      · refine xe_s (f := (77, _, _, _)) xt_g325 rfl rfl rfl rfl rfl ?_
        refine xe_if_eq xt_g325 rfl (t := 116) rfl (q := 80) rfl (by first | omega | exact hw.1 _ | exact hw.2 _ _ | exact xb_r _) (fun h77 => ?_) (fun h77 => ?_)
        · exact absurd h77 (by decide)
        · try simp only [xb_0, xb_1, ne_eq, Decidable.not_not, decide_eq_true_eq, decide_eq_false_iff_not] at h77
          refine xe_s (f := (81, _, _, _)) xt_g325 rfl rfl rfl rfl rfl ?_
          refine xe_mga xt_g325 rfl (q := 84) rfl (xf_13_37 fm) (by decide) rfl (by omega) ?_
          try simp only [xo_u, xo_w, Nat.reduceEqDiff, reduceIte, false_and, true_and]
          refine xe_bipush xt_g325 rfl (q := 86) rfl (by decide) (by decide) ?_
          refine xe_s (f := (87, _, _, _)) xt_g325 rfl rfl rfl rfl rfl ?_
          refine xe_imul xt_g325 rfl (q := 88) rfl ?_
          refine xe_s (f := (89, _, _, _)) xt_g325 rfl rfl rfl rfl rfl ?_
          refine xe_iadd xt_g325 rfl (q := 90) rfl ?_
          refine xe_mal (ok := xm_isN) (ty := .int) xt_g325 rfl (q := 91) rfl (fun _ _ => ⟨rfl, rfl, rfl, rfl⟩) rfl rfl rfl (by omega) (by omega) (by omega) (by omega) ?_
          try simp only [xo_u, xo_w, Nat.reduceEqDiff, reduceIte, false_and, true_and]
          refine xe_s (f := (92, _, _, _)) xt_g325 rfl rfl rfl rfl rfl ?_
          refine xe_mga xt_g325 rfl (q := 95) rfl (xf_13_37 fm) (by decide) rfl (by omega) ?_
          try simp only [xo_u, xo_w, Nat.reduceEqDiff, reduceIte, false_and, true_and]
          refine xe_sipush xt_g325 rfl (q := 98) rfl (by decide) (by decide) ?_
          refine xe_s (f := (99, _, _, _)) xt_g325 rfl rfl rfl rfl rfl ?_
          refine xe_iadd xt_g325 rfl (q := 100) rfl ?_
          refine xe_mal (ok := xm_isN) (ty := .int) xt_g325 rfl (q := 101) rfl (fun _ _ => ⟨rfl, rfl, rfl, rfl⟩) rfl rfl rfl (by omega) (by omega) (by omega) (by omega) ?_
          try simp only [xo_u, xo_w, Nat.reduceEqDiff, reduceIte, false_and, true_and]
          refine xe_ic_ne xt_g325 rfl (t := 108) rfl (q := 104) rfl (by first | omega | exact hw.1 _ | exact hw.2 _ _ | exact xb_r _) (by first | omega | exact hw.1 _ | exact hw.2 _ _ | exact xb_r _) (fun h101 => ?_) (fun h101 => ?_)
          · refine xe_s (f := (109, _, xi 0 :: _, _)) xt_g325 rfl rfl rfl rfl rfl ?_
            refine xe_s (f := (110, [(2, _), (3, _), (1, _), (0, _)], _, _)) xt_g325 rfl rfl rfl rfl rfl ?_
            refine xe_iinc xt_g325 rfl (q := 113) rfl rfl (by decide) (L1 := [(3, _), (2, _), (1, _), (0, _)]) rfl ?_
            refine xe_s (f := (66, _, _, _)) xt_g325 rfl rfl rfl rfl rfl ?_
            rw [y1, y2] at h101
            rw [decide_eq_false h101] at ih'
            rw [show ((k : Int) + 1) = ((k + 1 : Nat) : Int) by omega]
            exact xe_loc (by intro q hq; simp only [List.mem_cons, List.not_mem_nil, or_false] at hq; rcases hq with rfl | rfl | rfl | rfl <;> rfl) (ih')
          · refine xe_s (f := (105, _, xi 1 :: _, _)) xt_g325 rfl rfl rfl rfl rfl ?_
            refine xe_s (f := (109, _, _, _)) xt_g325 rfl rfl rfl rfl rfl ?_
            refine xe_s (f := (110, [(2, _), (3, _), (1, _), (0, _)], _, _)) xt_g325 rfl rfl rfl rfl rfl ?_
            refine xe_iinc xt_g325 rfl (q := 113) rfl rfl (by decide) (L1 := [(3, _), (2, _), (1, _), (0, _)]) rfl ?_
            refine xe_s (f := (66, _, _, _)) xt_g325 rfl rfl rfl rfl rfl ?_
            rw [y1, y2] at h101
            rw [decide_eq_true (Decidable.not_not.mp h101)] at ih'
            rw [show ((k : Int) + 1) = ((k + 1 : Nat) : Int) by omega]
            exact xe_loc (by intro q hq; simp only [List.mem_cons, List.not_mem_nil, or_false] at hq; rcases hq with rfl | rfl | rfl | rfl <;> rfl) (ih')
  have no : ¬ (c.1.length = f.1.length ∧ c.2.2.1.length = f.2.2.1.length ∧ c.2.2.2.1.length = f.2.2.2.1.length) → ck_same c f = false := by
    intro h
    cases hs : ck_same c f with
    | false => rfl
    | true =>
      unfold ck_same at hs
      simp only [Bool.and_eq_true, decide_eq_true_eq] at hs
      exact absurd ⟨congrArg _ hs.1, congrArg _ hs.2.1, congrArg _ hs.2.2⟩ h
  have h63 : ∀ z : Int, z = xb (decide (c.1.length = f.1.length ∧ c.2.2.1.length = f.2.2.1.length ∧ c.2.2.2.1.length = f.2.2.2.1.length)) → xe fm 325 (63, [(1, xi i), (0, .ref m)], [xi z], (xo m s ar h0, n, 0, 0)) Q := by
    intro z hz
    rw [hz]
    by_cases hl : c.1.length = f.1.length ∧ c.2.2.1.length = f.2.2.1.length ∧ c.2.2.2.1.length = f.2.2.2.1.length
    · rw [decide_eq_true hl]
      refine xe_s (f := (64, [(2, _), (1, _), (0, _)], _, _)) xt_g325 rfl rfl rfl rfl rfl ?_
      refine xe_s (f := (65, _, xi 0 :: _, _)) xt_g325 rfl rfl rfl rfl rfl ?_
      refine xe_s (f := (66, [(3, _), (2, _), (1, _), (0, _)], _, _)) xt_g325 rfl rfl rfl rfl rfl ?_
      exact l66 true (fun _ => hl) (by unfold ck_same; rw [Bool.true_and, Bool.and_assoc])
    · rw [decide_eq_false hl]
      refine xe_s (f := (64, [(2, _), (1, _), (0, _)], _, _)) xt_g325 rfl rfl rfl rfl rfl ?_
      refine xe_s (f := (65, _, xi 0 :: _, _)) xt_g325 rfl rfl rfl rfl rfl ?_
      refine xe_s (f := (66, [(3, _), (2, _), (1, _), (0, _)], _, _)) xt_g325 rfl rfl rfl rfl rfl ?_
      exact l66 false (fun h => by cases h) (by rw [no hl]; rfl)
  refine xe_s (f := (3, _, _, _)) xt_g325 rfl rfl rfl rfl rfl ?_
  refine xe_s (f := (4, _, _, _)) xt_g325 rfl rfl rfl rfl rfl ?_
  refine xe_mgs xt_g325 rfl (q := 7) rfl (xf_13_265 fm) (by decide) rfl (by omega) ?_
  try simp only [xo_u, xo_w, Nat.reduceEqDiff, reduceIte, false_and, true_and]
  refine xe_ic_ge xt_g325 rfl (t := 232) rfl (q := 10) rfl (by first | omega | exact hw.1 _ | exact hw.2 _ _ | exact xb_r _) (by first | omega | exact hw.1 _ | exact hw.2 _ _ | exact xb_r _) (fun h7 => ?_) (fun h7 => ?_)
  · exact absurd h7 (by omega)
  · refine xe_s (f := (11, _, _, _)) xt_g325 rfl rfl rfl rfl rfl ?_
    refine xe_mga xt_g325 rfl (q := 14) rfl (xf_13_49 fm) (by decide) rfl (by omega) ?_
    try simp only [xo_u, xo_w, Nat.reduceEqDiff, reduceIte, false_and, true_and]
    refine xe_s (f := (15, _, _, _)) xt_g325 rfl rfl rfl rfl rfl ?_
    refine xe_mal (ok := xm_isN) (ty := .int) xt_g325 rfl (q := 16) rfl (fun _ _ => ⟨rfl, rfl, rfl, rfl⟩) rfl rfl rfl (by omega) (by omega) (by omega) (by omega) ?_
    try simp only [xo_u, xo_w, Nat.reduceEqDiff, reduceIte, false_and, true_and]
    rw [b1]
    refine xe_s (f := (17, _, _, _)) xt_g325 rfl rfl rfl rfl rfl ?_
    refine xe_mga xt_g325 rfl (q := 20) rfl (xf_13_49 fm) (by decide) rfl (by omega) ?_
    try simp only [xo_u, xo_w, Nat.reduceEqDiff, reduceIte, false_and, true_and]
    refine xe_bipush xt_g325 rfl (q := 22) rfl (by decide) (by decide) ?_
    refine xe_mal (ok := xm_isN) (ty := .int) xt_g325 rfl (q := 23) rfl (fun _ _ => ⟨rfl, rfl, rfl, rfl⟩) rfl rfl rfl (by omega) (by omega) (by omega) (by omega) ?_
    try simp only [xo_u, xo_w, Nat.reduceEqDiff, reduceIte, false_and, true_and]
    rw [g1]
    refine xe_ic_ne xt_g325 rfl (t := 62) rfl (q := 26) rfl (by first | omega | exact hw.1 _ | exact hw.2 _ _ | exact xb_r _) (by first | omega | exact hw.1 _ | exact hw.2 _ _ | exact xb_r _) (fun h23 => ?_) (fun h23 => ?_)
    · refine xe_s (f := (63, _, xi 0 :: _, _)) xt_g325 rfl rfl rfl rfl rfl ?_
      exact h63 _ (by rw [decide_eq_false (by omega)]; rfl)
    · refine xe_s (f := (27, _, _, _)) xt_g325 rfl rfl rfl rfl rfl ?_
      refine xe_mga xt_g325 rfl (q := 30) rfl (xf_13_55 fm) (by decide) rfl (by omega) ?_
      try simp only [xo_u, xo_w, Nat.reduceEqDiff, reduceIte, false_and, true_and]
      refine xe_s (f := (31, _, _, _)) xt_g325 rfl rfl rfl rfl rfl ?_
      refine xe_mal (ok := xm_isN) (ty := .int) xt_g325 rfl (q := 32) rfl (fun _ _ => ⟨rfl, rfl, rfl, rfl⟩) rfl rfl rfl (by omega) (by omega) (by omega) (by omega) ?_
      try simp only [xo_u, xo_w, Nat.reduceEqDiff, reduceIte, false_and, true_and]
      rw [b2]
      refine xe_s (f := (33, _, _, _)) xt_g325 rfl rfl rfl rfl rfl ?_
      refine xe_mga xt_g325 rfl (q := 36) rfl (xf_13_55 fm) (by decide) rfl (by omega) ?_
      try simp only [xo_u, xo_w, Nat.reduceEqDiff, reduceIte, false_and, true_and]
      refine xe_bipush xt_g325 rfl (q := 38) rfl (by decide) (by decide) ?_
      refine xe_mal (ok := xm_isN) (ty := .int) xt_g325 rfl (q := 39) rfl (fun _ _ => ⟨rfl, rfl, rfl, rfl⟩) rfl rfl rfl (by omega) (by omega) (by omega) (by omega) ?_
      try simp only [xo_u, xo_w, Nat.reduceEqDiff, reduceIte, false_and, true_and]
      rw [g2]
      refine xe_ic_ne xt_g325 rfl (t := 62) rfl (q := 42) rfl (by first | omega | exact hw.1 _ | exact hw.2 _ _ | exact xb_r _) (by first | omega | exact hw.1 _ | exact hw.2 _ _ | exact xb_r _) (fun h39 => ?_) (fun h39 => ?_)
      · refine xe_s (f := (63, _, xi 0 :: _, _)) xt_g325 rfl rfl rfl rfl rfl ?_
        exact h63 _ (by rw [decide_eq_false (by omega)]; rfl)
      · refine xe_s (f := (43, _, _, _)) xt_g325 rfl rfl rfl rfl rfl ?_
        refine xe_mga xt_g325 rfl (q := 46) rfl (xf_13_58 fm) (by decide) rfl (by omega) ?_
        try simp only [xo_u, xo_w, Nat.reduceEqDiff, reduceIte, false_and, true_and]
        refine xe_s (f := (47, _, _, _)) xt_g325 rfl rfl rfl rfl rfl ?_
        refine xe_mal (ok := xm_isN) (ty := .int) xt_g325 rfl (q := 48) rfl (fun _ _ => ⟨rfl, rfl, rfl, rfl⟩) rfl rfl rfl (by omega) (by omega) (by omega) (by omega) ?_
        try simp only [xo_u, xo_w, Nat.reduceEqDiff, reduceIte, false_and, true_and]
        rw [b3]
        refine xe_s (f := (49, _, _, _)) xt_g325 rfl rfl rfl rfl rfl ?_
        refine xe_mga xt_g325 rfl (q := 52) rfl (xf_13_58 fm) (by decide) rfl (by omega) ?_
        try simp only [xo_u, xo_w, Nat.reduceEqDiff, reduceIte, false_and, true_and]
        refine xe_bipush xt_g325 rfl (q := 54) rfl (by decide) (by decide) ?_
        refine xe_mal (ok := xm_isN) (ty := .int) xt_g325 rfl (q := 55) rfl (fun _ _ => ⟨rfl, rfl, rfl, rfl⟩) rfl rfl rfl (by omega) (by omega) (by omega) (by omega) ?_
        try simp only [xo_u, xo_w, Nat.reduceEqDiff, reduceIte, false_and, true_and]
        rw [g3]
        refine xe_ic_ne xt_g325 rfl (t := 62) rfl (q := 58) rfl (by first | omega | exact hw.1 _ | exact hw.2 _ _ | exact xb_r _) (by first | omega | exact hw.1 _ | exact hw.2 _ _ | exact xb_r _) (fun h55 => ?_) (fun h55 => ?_)
        · refine xe_s (f := (63, _, xi 0 :: _, _)) xt_g325 rfl rfl rfl rfl rfl ?_
          exact h63 _ (by rw [decide_eq_false (by omega)]; rfl)
        · refine xe_s (f := (59, _, xi 1 :: _, _)) xt_g325 rfl rfl rfl rfl rfl ?_
          refine xe_s (f := (63, _, _, _)) xt_g325 rfl rfl rfl rfl rfl ?_
          exact h63 _ (by rw [decide_eq_true (by omega)]; rfl)
theorem ck_getD {C : List ck_T} {k : Nat} (h : k < C.length) : C.drop k = C.getD k ck_0 :: C.drop (k + 1) := by
  rw [List.drop_eq_getElem_cons h]
  simp [List.getD, h]
theorem xv_alike (hmn : xo_in m n) (hw : xo_wf s ar) {C : List ck_T} {f : ck_T} (hC : ck_all s ar C) (hf : ck_at ar 41 f) : xv fm 325 m n h0 s ar [.ref m] (some (xi (ck_fi C f 0))) s ar := by
  show xe fm 325 (0, [(0, .ref m)], [], (xo m s ar h0, n, 0, 0)) _
  have hCl := hC.2.1
  have h19 := hC.1
  have loop : ∀ (N k : Nat), k + N = C.length → ck_fi (C.drop k) f k = ck_fi C f 0 → xe fm 325 (2, [(1, xi k), (0, .ref m)], [], (xo m s ar h0, n, 0, 0)) (fun r M => r = .inl (some (xi (ck_fi C f 0))) ∧ M = (xo m s ar h0, n, 0, 0)) := by
    intro N
    induction N with
    | zero =>
      intro k hk he
      rw [List.drop_of_length_le (by omega), ck_fi] at he
      rw [← he]
      refine xe_s (f := (3, _, _, _)) xt_g325 rfl rfl rfl rfl rfl ?_
      refine xe_s (f := (4, _, _, _)) xt_g325 rfl rfl rfl rfl rfl ?_
      refine xe_mgs xt_g325 rfl (q := 7) rfl (xf_13_265 fm) (by decide) rfl (by omega) ?_
      try simp only [xo_u, xo_w, Nat.reduceEqDiff, reduceIte, false_and, true_and]
      refine xe_ic_ge xt_g325 rfl (t := 232) rfl (q := 10) rfl (by first | omega | exact hw.1 _ | exact hw.2 _ _ | exact xb_r _) (by first | omega | exact hw.1 _ | exact hw.2 _ _ | exact xb_r _) (fun h7 => ?_) (fun h7 => ?_)
      · refine xe_s (f := (233, _, xi (-1) :: _, _)) xt_g325 rfl rfl rfl rfl rfl ?_
        refine xe_iret xt_g325 rfl rfl xi_int.1 ?_
        exact ⟨rfl, rfl⟩
      · exact absurd h7 (by omega)
    | succ N ih =>
      intro k hk he
      rw [ck_getD (by omega), ck_fi] at he
      refine xe_alike fm hmn hw (by omega) (hC.2.2 k (by omega)) hf (by omega) (by omega) (fun hy v3 v2 => ?_) (fun hn v3 v2 => ?_)
      · rw [if_pos hy] at he
        rw [← he]
        refine xe_s (f := (225, _, _, _)) xt_g325 rfl rfl rfl rfl rfl ?_
        refine xe_iret xt_g325 rfl rfl xi_int.1 ?_
        exact ⟨rfl, rfl⟩
      · rw [if_neg (by rw [hn]; decide)] at he
        refine xe_iinc xt_g325 rfl (q := 229) rfl rfl (by decide) (L1 := [(1, _), (3, _), (2, _), (0, _)]) rfl ?_
        refine xe_s (f := (2, _, _, _)) xt_g325 rfl rfl rfl rfl rfl ?_
        rw [show ((k : Int) + 1) = ((k + 1 : Nat) : Int) by omega]
        exact xe_loc (by intro q hq; simp only [List.mem_cons, List.not_mem_nil, or_false] at hq; rcases hq with rfl | rfl <;> rfl) (ih (k + 1) (by omega) he)
  refine xe_s (f := (1, _, xi 0 :: _, _)) xt_g325 rfl rfl rfl rfl rfl ?_
  refine xe_s (f := (2, [(1, _), (0, _)], _, _)) xt_g325 rfl rfl rfl rfl rfl ?_
  exact loop C.length 0 (by omega) rfl
/-- the oldest of the site of D, if there are more than q -/
def ck_cnt (L : List (List Int)) (D : List Int) (C : List ck_T) : Nat := (C.filter (fun c => decide (st_tail c.2.2.1 L = st_tail D L))).length
def ck_old (L : List (List Int)) (D : List Int) : List ck_T → Nat → Int
  | [], _ => -1
  | c :: C, k => if st_tail c.2.2.1 L = st_tail D L then k else ck_old L D C (k + 1)
theorem xv_oldestOfSite (hmn : xo_in m n) (hw : xo_wf s ar) {C : List ck_T} {D : List Int} {L : List (List Int)} (hC : ck_all s ar C) (hD : ck_dom ar 41 D) (hL : sf_at s ar L) : xv fm 326 m n h0 s ar [.ref m] (some (xi (if s 17 < (ck_cnt L D C : Int) then ck_old L D C 0 else -1))) s ar := by
  show xe fm 326 (0, [(0, .ref m)], [], (xo m s ar h0, n, 0, 0)) _
  have hCl := hC.2.1
  have h19 := hC.1
  have h17 := hw.1 17
  have cntl : ∀ X : List ck_T, ck_cnt L D X ≤ X.length := fun X => List.length_filter_le _ _
  have loop : ∀ (k : Nat), k ≤ C.length → ∀ v : Int, v = ck_old L D (C.drop k) k → xe fm 326 (11, [(3, xi ((k : Int) - 1)), (2, xi v), (1, xi (ck_cnt L D (C.drop k) : Nat)), (0, .ref m)], [], (xo m s ar h0, n, 0, 0)) (fun r M => r = .inl (some (xi (if s 17 < (ck_cnt L D C : Int) then ck_old L D C 0 else -1))) ∧ M = (xo m s ar h0, n, 0, 0)) := by
    intro k
    induction k with
    | zero =>
      intro hk v hv
      have hc2 := cntl C
      rw [List.drop_zero] at hv ⊢
      refine xe_s (f := (12, _, _, _)) xt_g326 rfl rfl rfl rfl rfl ?_
      refine xe_if_lt xt_g326 rfl (t := 39) rfl (q := 15) rfl (by first | omega | exact hw.1 _ | exact hw.2 _ _ | exact xb_r _) (fun h12 => ?_) (fun h12 => ?_)
      · try simp only [xb_0, xb_1, ne_eq, Decidable.not_not, decide_eq_true_eq, decide_eq_false_iff_not] at h12
        refine xe_s (f := (40, _, _, _)) xt_g326 rfl rfl rfl rfl rfl ?_
        refine xe_s (f := (41, _, _, _)) xt_g326 rfl rfl rfl rfl rfl ?_
        refine xe_mgs xt_g326 rfl (q := 44) rfl (xf_13_143 fm) (by decide) rfl (by omega) ?_
        try simp only [xo_u, xo_w, Nat.reduceEqDiff, reduceIte, false_and, true_and]
        refine xe_ic_le xt_g326 rfl (t := 51) rfl (q := 47) rfl (by first | omega | exact hw.1 _ | exact hw.2 _ _ | exact xb_r _) (by first | omega | exact hw.1 _ | exact hw.2 _ _ | exact xb_r _) (fun h44 => ?_) (fun h44 => ?_)
        · refine xe_s (f := (52, _, xi (-1) :: _, _)) xt_g326 rfl rfl rfl rfl rfl ?_
          refine xe_iret xt_g326 rfl rfl xi_int.1 ?_
          rw [if_neg (by omega)]
          exact ⟨rfl, rfl⟩
        · refine xe_s (f := (48, _, _, _)) xt_g326 rfl rfl rfl rfl rfl ?_
          refine xe_s (f := (52, _, _, _)) xt_g326 rfl rfl rfl rfl rfl ?_
          refine xe_iret xt_g326 rfl rfl xi_int.1 ?_
          rw [if_pos (by omega), hv]
          exact ⟨rfl, rfl⟩
      · exact absurd h12 (by omega)
    | succ k ih =>
      intro hk v hv
      have hc := hC.2.2 k (by omega)
      have hs := xv_isOfSite fm hmn (h0 := h0) hw (i := k) (j := 41) (by omega) (by decide) hc.2.2.1 hD hL
      have ek : ((k + 1 : Nat) : Int) - 1 = k := by omega
      rw [ek]
      have hd := ck_getD (C := C) (k := k) (by omega)
      refine xe_s (f := (12, _, _, _)) xt_g326 rfl rfl rfl rfl rfl ?_
      refine xe_if_lt xt_g326 rfl (t := 39) rfl (q := 15) rfl (by first | omega | exact hw.1 _ | exact hw.2 _ _ | exact xb_r _) (fun h12 => ?_) (fun h12 => ?_)
      · exact absurd h12 (by omega)
      · try simp only [xb_0, xb_1, ne_eq, Decidable.not_not, decide_eq_true_eq, decide_eq_false_iff_not] at h12
        refine xe_s (f := (16, _, _, _)) xt_g326 rfl rfl rfl rfl rfl ?_
        refine xe_s (f := (17, _, _, _)) xt_g326 rfl rfl rfl rfl rfl ?_
        refine xe_bipush xt_g326 rfl (q := 19) rfl (by decide) (by decide) ?_
        refine xe_cvI xt_g326 rfl (q := 22) rfl xk_13_359 rfl (by omega) xt_g327 (by decide) ⟨Nat.le_of_ble_eq_true rfl, Nat.le_of_ble_eq_true rfl, Nat.le_of_ble_eq_true rfl⟩ (hs) ?_
        refine xe_if_ne xt_g326 rfl (t := 28) rfl (q := 25) rfl (by first | omega | exact hw.1 _ | exact hw.2 _ _ | exact xb_r _) (fun h22 => ?_) (fun h22 => ?_)
        · try simp only [xb_0, xb_1, ne_eq, Decidable.not_not, decide_eq_true_eq, decide_eq_false_iff_not] at h22
          refine xe_iinc xt_g326 rfl (q := 31) rfl rfl (by decide) (L1 := [(1, _), (3, _), (2, _), (0, _)]) rfl ?_
          refine xe_s (f := (32, _, _, _)) xt_g326 rfl rfl rfl rfl rfl ?_
          refine xe_s (f := (33, [(2, _), (1, _), (3, _), (0, _)], _, _)) xt_g326 rfl rfl rfl rfl rfl ?_
          refine xe_iinc xt_g326 rfl (q := 36) rfl rfl (by decide) (L1 := [(3, _), (2, _), (1, _), (0, _)]) rfl ?_
          refine xe_s (f := (11, _, _, _)) xt_g326 rfl rfl rfl rfl rfl ?_
          have e1 : ck_cnt L D (C.drop k) = ck_cnt L D (C.drop (k + 1)) + 1 := by
            unfold ck_cnt
            rw [hd, List.filter_cons_of_pos (by simpa using h22)]
            rfl
          have h := ih (by omega) k (by rw [hd, ck_old, if_pos h22])
          rw [e1] at h
          exact xe_loc (by intro q hq; simp only [List.mem_cons, List.not_mem_nil, or_false] at hq; rcases hq with rfl | rfl | rfl | rfl <;> rfl) (h)
        · try simp only [xb_0, xb_1, ne_eq, Decidable.not_not, decide_eq_true_eq, decide_eq_false_iff_not] at h22
          refine xe_s (f := (33, _, _, _)) xt_g326 rfl rfl rfl rfl rfl ?_
          refine xe_iinc xt_g326 rfl (q := 36) rfl rfl (by decide) (L1 := [(3, _), (2, _), (1, _), (0, _)]) rfl ?_
          refine xe_s (f := (11, _, _, _)) xt_g326 rfl rfl rfl rfl rfl ?_
          have e1 : ck_cnt L D (C.drop k) = ck_cnt L D (C.drop (k + 1)) := by
            unfold ck_cnt
            rw [hd, List.filter_cons_of_neg (by simpa using h22)]
          have h := ih (by omega) v (by rw [hd, ck_old, if_neg h22]; exact hv)
          rw [e1] at h
          exact xe_loc (by intro q hq; simp only [List.mem_cons, List.not_mem_nil, or_false] at hq; rcases hq with rfl | rfl | rfl | rfl <;> rfl) (h)
  have h := loop C.length (Nat.le_refl _) (-1) (by rw [List.drop_of_length_le (Nat.le_refl _)]; rfl)
  rw [List.drop_of_length_le (Nat.le_refl _)] at h
  refine xe_s (f := (1, _, xi 0 :: _, _)) xt_g326 rfl rfl rfl rfl rfl ?_
  refine xe_s (f := (2, [(1, _), (0, _)], _, _)) xt_g326 rfl rfl rfl rfl rfl ?_
  refine xe_s (f := (3, _, xi (-1) :: _, _)) xt_g326 rfl rfl rfl rfl rfl ?_
  refine xe_s (f := (4, [(2, _), (1, _), (0, _)], _, _)) xt_g326 rfl rfl rfl rfl rfl ?_
  refine xe_s (f := (5, _, _, _)) xt_g326 rfl rfl rfl rfl rfl ?_
  refine xe_mgs xt_g326 rfl (q := 8) rfl (xf_13_265 fm) (by decide) rfl (by omega) ?_
  rw [h19]
  refine xe_s (f := (9, _, xi 1 :: _, _)) xt_g326 rfl rfl rfl rfl rfl ?_
  refine xe_isub xt_g326 rfl (q := 10) rfl ?_
  refine xe_s (f := (11, [(3, _), (2, _), (1, _), (0, _)], _, _)) xt_g326 rfl rfl rfl rfl rfl ?_
  exact h
end XAL
