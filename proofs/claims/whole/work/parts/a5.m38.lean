/-! the reference: goes, makeCookies -/
def go_h0 (al : Bool) (H D : List Int) : Bool := decide (D.length = H.length) || (!al && decide (D.length < H.length ∧ H.getD (H.length - D.length - 1) 0 = 46))
def go_h (al : Bool) (H D : List Int) : Bool := go_h0 al H D && decide (H.drop (H.length - D.length) = D)
def go_p (P W : List Int) : Bool := decide (W.length ≤ P.length) && decide (P.take W.length = W)
def go_e (P W : List Int) : Bool := decide (W.length = P.length ∨ W.getD (W.length - 1) 0 = 47 ∨ P.getD W.length 0 = 47)
def go_0 (t : Int) (c : ck_T) (a : pa_A) (net : Bool) : Bool := !(ck_io t c) && (!c.2.2.2.2.2.2.1 || a.1) && (!c.2.2.2.2.2.2.2 || net)
def ck_go (t : Int) (c : ck_T) (a : pa_A) (net : Bool) : Bool := go_0 t c a net && (go_h c.2.2.2.2.2.1 a.2.1 c.2.2.1 && (go_p a.2.2.2.1 c.2.2.2.1 && go_e a.2.2.2.1 c.2.2.2.1))
section XGO
variable (fm : Value) {m n : Nat} {h0 : xm_H} {s : Nat → Int} {ar : Nat → Nat → Int}
set_option maxRecDepth 4096 in
theorem xv_goes (hmn : xo_in m n) (hw : xo_wf s ar) {i : Nat} {c : ck_T} {b : Int} {a : pa_A} {net : Bool} (hi : i < 42) (hc : ck_at ar i c) (hW : 1 ≤ c.2.2.2.1.length) (hb : 0 ≤ b ∧ b < 97) (hs : pa_at ar b (pa_text a)) (ho : pa_ok a) : xv fm 286 m n h0 s ar [.ref m, xi i, xi b, xi (xb net)] (some (xi (xb (ck_go (s 18) c a net)))) s ar := by
  show xe fm 286 (0, [(0, .ref m), (1, xi i), (2, xi b), (3, xi (xb net))], [], (xo m s ar h0, n, 0, 0)) _
  obtain ⟨e1, e2, e3, e4, e5, e6, e7, e8, e9, e10, e11, e12⟩ := pa_slot hs ho hb.1
  have hov := xd_over_c (s := s) hc
  obtain ⟨_, _, ⟨d1, d2, d3⟩, ⟨w1, w2, w3⟩, _, c29, c30, c31⟩ := hc
  generalize hH : a.2.1 = H at *
  generalize hP : a.2.2.2.1 = P at *
  generalize hD : c.2.2.1 = D at *
  generalize hWW : c.2.2.2.1 = W at *
  generalize hsl : (pa_scm a.1).length = sl at *
  generalize hhd : (pa_hd a).length = hd at *
  have a26 : ar 26 (i : Int).toNat = D.length := d1
  have a27 : ar 27 (i : Int).toNat = W.length := w1
  have a29 : ar 29 (i : Int).toNat = xb c.2.2.2.2.2.1 := c29
  have a30 : ar 30 (i : Int).toNat = xb c.2.2.2.2.2.2.1 := c30
  have a31 : ar 31 (i : Int).toNat = xb c.2.2.2.2.2.2.2 := c31
  have eT : ck_go (s 18) c a net = (go_0 (s 18) c a net && (go_h c.2.2.2.2.2.1 H D && (go_p P W && go_e P W))) := by
    unfold ck_go
    rw [hH, hP, hD, hWW]
  rw [eT]
  generalize hQ : (fun r M => r = (Sum.inl (some (xi (xb (go_0 (s 18) c a net && (go_h c.2.2.2.2.2.1 H D && (go_p P W && go_e P W)))))) : Option Value ⊕ Nat) ∧ M = (xo m s ar h0, n, 0, 0)) = Q
  have ret : ∀ (z : Int) (L : xm_L), z = xb (go_0 (s 18) c a net && (go_h c.2.2.2.2.2.1 H D && (go_p P W && go_e P W))) → xe fm 286 (325, L, [xi z], (xo m s ar h0, n, 0, 0)) Q := by
    intro z L hz
    rw [hz, ← hQ]
    refine xe_iret xt_g286 rfl rfl (xi_bool (by first | omega | exact xb_or _)).1 ?_
    exact ⟨rfl, rfl⟩
  have no : go_0 (s 18) c a net = false → ∀ L, xe fm 286 (38, L, [], (xo m s ar h0, n, 0, 0)) Q := by
    intro h L
    rw [← hQ, h]
    refine xe_s (f := (39, _, xi 0 :: _, _)) xt_g286 rfl rfl rfl rfl rfl ?_
    refine xe_iret xt_g286 rfl rfl (xi_bool (by first | omega | exact xb_or _)).1 ?_
    exact ⟨rfl, rfl⟩
  -- the path
  have e262 : ∀ b' : Bool, go_0 (s 18) c a net = true → b' = (go_h c.2.2.2.2.2.1 H D && go_p P W) → ∀ v9 v5 v4, xe fm 286 (262, [(9, xi v9), (6, xi (xb b')), (8, xi (P.length : Nat)), (7, xi (hd : Nat)), (5, xi v5), (4, xi v4), (0, .ref m), (1, xi i), (2, xi b), (3, xi (xb net))], [], (xo m s ar h0, n, 0, 0)) Q := by
    intro b' hg hb' v9 v5 v4
    have rr : ∀ (z : Int) (L : xm_L), z = xb (b' && go_e P W) → xe fm 286 (325, L, [xi z], (xo m s ar h0, n, 0, 0)) Q := by
      intro z L hz
      refine ret z L ?_
      rw [hz, hb', hg, Bool.true_and, Bool.and_assoc]
    have rW := hw.2 23 (30 * (i : Int) + W.length - 1).toNat
    have yW : ar 23 (30 * (i : Int) + W.length - 1).toNat = W.getD (W.length - 1) 0 := by
      rw [← w3 (W.length - 1) (by omega)]
      congr 1
      omega
    have rP := hw.2 4 (60 * b + ((hd : Int) + W.length)).toNat
    have yP : W.length < P.length → ar 4 (60 * b + ((hd : Int) + W.length)).toNat = P.getD W.length 0 := by
      intro h
      have := e7 W.length h
      rw [show (60 * b + ((hd + W.length : Nat) : Int)).toNat = (60 * b + ((hd : Int) + W.length)).toNat by omega] at this
      exact this
    have hle : b' = true → W.length ≤ P.length := by
      intro h
      rw [h] at hb'
      have := hb'.symm
      rw [Bool.and_eq_true] at this
      have h2 := this.2
      unfold go_p at h2
      rw [Bool.and_eq_true] at h2
      exact of_decide_eq_true h2.1
    refine xe_s (f := (264, _, _, _)) xt_g286 rfl rfl rfl rfl rfl ?_
    refine xe_if_eq xt_g286 rfl (t := 324) rfl (q := 267) rfl (by first | omega | exact hw.1 _ | exact hw.2 _ _ | exact xb_r _) (fun h264 => ?_) (fun h264 => ?_)
    · try simp only [xb_0, xb_1, ne_eq, Decidable.not_not, decide_eq_true_eq, decide_eq_false_iff_not] at h264
      refine xe_s (f := (325, _, xi 0 :: _, _)) xt_g286 rfl rfl rfl rfl rfl ?_
      exact rr _ _ (by rw [h264]; rfl)
    · try simp only [xb_0, xb_1, ne_eq, Decidable.not_not, decide_eq_true_eq, decide_eq_false_iff_not] at h264
      refine xe_s (f := (268, _, _, _)) xt_g286 rfl rfl rfl rfl rfl ?_
      refine xe_mga xt_g286 rfl (q := 271) rfl (xf_13_58 fm) (by decide) rfl (by omega) ?_
      try simp only [xo_u, xo_w, Nat.reduceEqDiff, reduceIte, false_and, true_and]
      refine xe_s (f := (272, _, _, _)) xt_g286 rfl rfl rfl rfl rfl ?_
      refine xe_mal (ok := xm_isN) (ty := .int) xt_g286 rfl (q := 273) rfl (fun _ _ => ⟨rfl, rfl, rfl, rfl⟩) rfl rfl rfl (by omega) (by omega) (by omega) (by omega) ?_
      try simp only [xo_u, xo_w, Nat.reduceEqDiff, reduceIte, false_and, true_and]
      rw [a27]
      refine xe_s (f := (275, _, _, _)) xt_g286 rfl rfl rfl rfl rfl ?_
      refine xe_ic_eq xt_g286 rfl (t := 320) rfl (q := 278) rfl (by first | omega | exact hw.1 _ | exact hw.2 _ _ | exact xb_r _) (by first | omega | exact hw.1 _ | exact hw.2 _ _ | exact xb_r _) (fun h275 => ?_) (fun h275 => ?_)
      · refine xe_s (f := (321, _, xi 1 :: _, _)) xt_g286 rfl rfl rfl rfl rfl ?_
        refine xe_s (f := (325, _, _, _)) xt_g286 rfl rfl rfl rfl rfl ?_
        exact rr _ _ (by rw [show b' = true by simpa using h264]; unfold go_e; rw [decide_eq_true (Or.inl (by omega))]; rfl)
      · refine xe_s (f := (279, _, _, _)) xt_g286 rfl rfl rfl rfl rfl ?_
        refine xe_mga xt_g286 rfl (q := 282) rfl (xf_13_46 fm) (by decide) rfl (by omega) ?_
        try simp only [xo_u, xo_w, Nat.reduceEqDiff, reduceIte, false_and, true_and]
        refine xe_bipush xt_g286 rfl (q := 284) rfl (by decide) (by decide) ?_
        refine xe_s (f := (285, _, _, _)) xt_g286 rfl rfl rfl rfl rfl ?_
        refine xe_imul xt_g286 rfl (q := 286) rfl ?_
        refine xe_s (f := (287, _, _, _)) xt_g286 rfl rfl rfl rfl rfl ?_
        refine xe_mga xt_g286 rfl (q := 290) rfl (xf_13_58 fm) (by decide) rfl (by omega) ?_
        try simp only [xo_u, xo_w, Nat.reduceEqDiff, reduceIte, false_and, true_and]
        refine xe_s (f := (291, _, _, _)) xt_g286 rfl rfl rfl rfl rfl ?_
        refine xe_mal (ok := xm_isN) (ty := .int) xt_g286 rfl (q := 292) rfl (fun _ _ => ⟨rfl, rfl, rfl, rfl⟩) rfl rfl rfl (by omega) (by omega) (by omega) (by omega) ?_
        try simp only [xo_u, xo_w, Nat.reduceEqDiff, reduceIte, false_and, true_and]
        rw [a27]
        refine xe_iadd xt_g286 rfl (q := 293) rfl ?_
        refine xe_s (f := (294, _, xi 1 :: _, _)) xt_g286 rfl rfl rfl rfl rfl ?_
        refine xe_isub xt_g286 rfl (q := 295) rfl ?_
        refine xe_mal (ok := xm_isN) (ty := .int) xt_g286 rfl (q := 296) rfl (fun _ _ => ⟨rfl, rfl, rfl, rfl⟩) rfl rfl rfl (by omega) (by omega) (by omega) (by omega) ?_
        try simp only [xo_u, xo_w, Nat.reduceEqDiff, reduceIte, false_and, true_and]
        refine xe_bipush xt_g286 rfl (q := 298) rfl (by decide) (by decide) ?_
        refine xe_ic_eq xt_g286 rfl (t := 320) rfl (q := 301) rfl (by first | omega | exact hw.1 _ | exact hw.2 _ _ | exact xb_r _) (by first | omega | exact hw.1 _ | exact hw.2 _ _ | exact xb_r _) (fun h298 => ?_) (fun h298 => ?_)
        · refine xe_s (f := (321, _, xi 1 :: _, _)) xt_g286 rfl rfl rfl rfl rfl ?_
          refine xe_s (f := (325, _, _, _)) xt_g286 rfl rfl rfl rfl rfl ?_
          exact rr _ _ (by rw [show b' = true by simpa using h264]; unfold go_e; rw [yW] at h298; rw [decide_eq_true (Or.inr (Or.inl h298))]; rfl)
        · have hl := hle (by simpa using h264)
          refine xe_s (f := (302, _, _, _)) xt_g286 rfl rfl rfl rfl rfl ?_
          refine xe_s (f := (303, _, _, _)) xt_g286 rfl rfl rfl rfl rfl ?_
          refine xe_s (f := (305, _, _, _)) xt_g286 rfl rfl rfl rfl rfl ?_
          refine xe_s (f := (306, _, _, _)) xt_g286 rfl rfl rfl rfl rfl ?_
          refine xe_mga xt_g286 rfl (q := 309) rfl (xf_13_58 fm) (by decide) rfl (by omega) ?_
          try simp only [xo_u, xo_w, Nat.reduceEqDiff, reduceIte, false_and, true_and]
          refine xe_s (f := (310, _, _, _)) xt_g286 rfl rfl rfl rfl rfl ?_
          refine xe_mal (ok := xm_isN) (ty := .int) xt_g286 rfl (q := 311) rfl (fun _ _ => ⟨rfl, rfl, rfl, rfl⟩) rfl rfl rfl (by omega) (by omega) (by omega) (by omega) ?_
          try simp only [xo_u, xo_w, Nat.reduceEqDiff, reduceIte, false_and, true_and]
          rw [a27]
          refine xe_iadd xt_g286 rfl (q := 312) rfl ?_
          refine xe_cvI xt_g286 rfl (q := 315) rfl xk_13_172 rfl (by omega) xt_g270 (by decide) ⟨Nat.le_of_ble_eq_true rfl, Nat.le_of_ble_eq_true rfl, Nat.le_of_ble_eq_true rfl⟩ (xv_textAt fm hmn (by omega) (by omega)) ?_
          refine xe_bipush xt_g286 rfl (q := 317) rfl (by decide) (by decide) ?_
          refine xe_ic_ne xt_g286 rfl (t := 324) rfl (q := 320) rfl (by first | omega | exact hw.1 _ | exact hw.2 _ _ | exact xb_r _) (by first | omega | exact hw.1 _ | exact hw.2 _ _ | exact xb_r _) (fun h317 => ?_) (fun h317 => ?_)
          · refine xe_s (f := (325, _, xi 0 :: _, _)) xt_g286 rfl rfl rfl rfl rfl ?_
            rw [yP (by omega)] at h317
            rw [yW] at h298
            exact rr _ _ (by unfold go_e; rw [decide_eq_false (fun h => h.elim (fun h => by omega) (fun h => h.elim (fun h => h298 h) (fun h => h317 h))), Bool.and_false]; rfl)
          · refine xe_s (f := (321, _, xi 1 :: _, _)) xt_g286 rfl rfl rfl rfl rfl ?_
            refine xe_s (f := (325, _, _, _)) xt_g286 rfl rfl rfl rfl rfl ?_
            rw [yP (by omega)] at h317
            exact rr _ _ (by rw [show b' = true by simpa using h264]; unfold go_e; rw [decide_eq_true (Or.inr (Or.inr (Decidable.not_not.mp h317)))]; rfl)
  have l208 : ∀ b' : Bool, go_0 (s 18) c a net = true → (b' = true → W.length ≤ P.length) → (b' && decide (P.take W.length = W)) = (go_h c.2.2.2.2.2.1 H D && go_p P W) → ∀ v5 v4, xe fm 286 (208, [(9, xi ((0 : Nat) : Int)), (6, xi (xb b')), (8, xi (P.length : Nat)), (7, xi (hd : Nat)), (5, xi v5), (4, xi v4), (0, .ref m), (1, xi i), (2, xi b), (3, xi (xb net))], [], (xo m s ar h0, n, 0, 0)) Q := by
    intro b' hg hbl hb' v5 v4
    refine xc_loop (n := W.length) (B := fun k => decide ((P.take W.length).getD k 0 = W.getD k 0)) (P := fun k b' => (b' = true → W.length ≤ P.length) → xe fm 286 (208, [(9, xi (k : Nat)), (6, xi (xb b')), (8, xi (P.length : Nat)), (7, xi (hd : Nat)), (5, xi v5), (4, xi v4), (0, .ref m), (1, xi i), (2, xi b), (3, xi (xb net))], [], (xo m s ar h0, n, 0, 0)) Q) (E := fun b' => b' = (go_h c.2.2.2.2.2.1 H D && go_p P W)) b' ?_ ?_ ?_ hbl
    · cases b' with
      | false => rw [Bool.false_and] at hb' ⊢; exact hb'
      | true => rw [xc_all_eq (by rw [List.length_take]; have := hbl rfl; omega) rfl (fun _ _ => rfl)]; exact hb'
    · intro k b' hk hkb hE _
      refine xe_s (f := (210, _, _, _)) xt_g286 rfl rfl rfl rfl rfl ?_
      refine xe_s (f := (211, _, _, _)) xt_g286 rfl rfl rfl rfl rfl ?_
      refine xe_mga xt_g286 rfl (q := 214) rfl (xf_13_58 fm) (by decide) rfl (by omega) ?_
      try simp only [xo_u, xo_w, Nat.reduceEqDiff, reduceIte, false_and, true_and]
      refine xe_s (f := (215, _, _, _)) xt_g286 rfl rfl rfl rfl rfl ?_
      refine xe_mal (ok := xm_isN) (ty := .int) xt_g286 rfl (q := 216) rfl (fun _ _ => ⟨rfl, rfl, rfl, rfl⟩) rfl rfl rfl (by omega) (by omega) (by omega) (by omega) ?_
      try simp only [xo_u, xo_w, Nat.reduceEqDiff, reduceIte, false_and, true_and]
      rw [a27]
      refine xe_ic_ge xt_g286 rfl (t := 262) rfl (q := 219) rfl (by first | omega | exact hw.1 _ | exact hw.2 _ _ | exact xb_r _) (by first | omega | exact hw.1 _ | exact hw.2 _ _ | exact xb_r _) (fun h216 => ?_) (fun h216 => ?_)
      · exact e262 b' hg hE _ _ _
      · refine xe_s (f := (221, _, _, _)) xt_g286 rfl rfl rfl rfl rfl ?_
        refine xe_if_eq xt_g286 rfl (t := 262) rfl (q := 224) rfl (by first | omega | exact hw.1 _ | exact hw.2 _ _ | exact xb_r _) (fun h221 => ?_) (fun h221 => ?_)
        · try simp only [xb_0, xb_1, ne_eq, Decidable.not_not, decide_eq_true_eq, decide_eq_false_iff_not] at h221
          exact e262 b' hg hE _ _ _
        · try simp only [xb_0, xb_1, ne_eq, Decidable.not_not, decide_eq_true_eq, decide_eq_false_iff_not] at h221
          exfalso
          rcases hkb with h | h
          · omega
          · rw [h] at h221; exact absurd rfl h221
    · intro k hk ih hlt
      have hl := hlt rfl
      have y1 : ar 4 (60 * b + ((hd : Int) + k)).toNat = (P.take W.length).getD k 0 := by
        have := e7 k (by omega)
        rw [show (60 * b + ((hd + k : Nat) : Int)).toNat = (60 * b + ((hd : Int) + k)).toNat by omega] at this
        rw [this, xg_take hk]
      have y2 : ar 23 (30 * (i : Int) + k).toNat = W.getD k 0 := by
        rw [← w3 k hk]
        congr 1
      have r1 := hw.2 4 (60 * b + ((hd : Int) + k)).toNat
      have r2 := hw.2 23 (30 * (i : Int) + k).toNat
      have ih' := ih (fun _ => hl)
      refine xe_s (f := (210, _, _, _)) xt_g286 rfl rfl rfl rfl rfl ?_
      refine xe_s (f := (211, _, _, _)) xt_g286 rfl rfl rfl rfl rfl ?_
      refine xe_mga xt_g286 rfl (q := 214) rfl (xf_13_58 fm) (by decide) rfl (by omega) ?_
      try simp only [xo_u, xo_w, Nat.reduceEqDiff, reduceIte, false_and, true_and]
      refine xe_s (f := (215, _, _, _)) xt_g286 rfl rfl rfl rfl rfl ?_
      refine xe_mal (ok := xm_isN) (ty := .int) xt_g286 rfl (q := 216) rfl (fun _ _ => ⟨rfl, rfl, rfl, rfl⟩) rfl rfl rfl (by omega) (by omega) (by omega) (by omega) ?_
      try simp only [xo_u, xo_w, Nat.reduceEqDiff, reduceIte, false_and, true_and]
      rw [a27]
      refine xe_ic_ge xt_g286 rfl (t := 262) rfl (q := 219) rfl (by first | omega | exact hw.1 _ | exact hw.2 _ _ | exact xb_r _) (by first | omega | exact hw.1 _ | exact hw.2 _ _ | exact xb_r _) (fun h216 => ?_) (fun h216 => ?_)
      · exact absurd h216 (by omega)
      · refine xe_s (f := (221, _, _, _)) xt_g286 rfl rfl rfl rfl rfl ?_
        refine xe_if_eq xt_g286 rfl (t := 262) rfl (q := 224) rfl (by first | omega | exact hw.1 _ | exact hw.2 _ _ | exact xb_r _) (fun h221 => ?_) (fun h221 => ?_)
        · exact absurd h221 (by decide)
        · try simp only [xb_0, xb_1, ne_eq, Decidable.not_not, decide_eq_true_eq, decide_eq_false_iff_not] at h221
          refine xe_s (f := (225, _, _, _)) xt_g286 rfl rfl rfl rfl rfl ?_
          refine xe_s (f := (226, _, _, _)) xt_g286 rfl rfl rfl rfl rfl ?_
          refine xe_s (f := (228, _, _, _)) xt_g286 rfl rfl rfl rfl rfl ?_
          refine xe_s (f := (230, _, _, _)) xt_g286 rfl rfl rfl rfl rfl ?_
          refine xe_iadd xt_g286 rfl (q := 231) rfl ?_
          refine xe_cvI xt_g286 rfl (q := 234) rfl xk_13_172 rfl (by omega) xt_g270 (by decide) ⟨Nat.le_of_ble_eq_true rfl, Nat.le_of_ble_eq_true rfl, Nat.le_of_ble_eq_true rfl⟩ (xv_textAt fm hmn (by omega) (by omega)) ?_
          refine xe_s (f := (235, _, _, _)) xt_g286 rfl rfl rfl rfl rfl ?_
          refine xe_mga xt_g286 rfl (q := 238) rfl (xf_13_46 fm) (by decide) rfl (by omega) ?_
          try simp only [xo_u, xo_w, Nat.reduceEqDiff, reduceIte, false_and, true_and]
          refine xe_bipush xt_g286 rfl (q := 240) rfl (by decide) (by decide) ?_
          refine xe_s (f := (241, _, _, _)) xt_g286 rfl rfl rfl rfl rfl ?_
          refine xe_imul xt_g286 rfl (q := 242) rfl ?_
          refine xe_s (f := (244, _, _, _)) xt_g286 rfl rfl rfl rfl rfl ?_
          refine xe_iadd xt_g286 rfl (q := 245) rfl ?_
          refine xe_mal (ok := xm_isN) (ty := .int) xt_g286 rfl (q := 246) rfl (fun _ _ => ⟨rfl, rfl, rfl, rfl⟩) rfl rfl rfl (by omega) (by omega) (by omega) (by omega) ?_
          try simp only [xo_u, xo_w, Nat.reduceEqDiff, reduceIte, false_and, true_and]
          refine xe_ic_ne xt_g286 rfl (t := 253) rfl (q := 249) rfl (by first | omega | exact hw.1 _ | exact hw.2 _ _ | exact xb_r _) (by first | omega | exact hw.1 _ | exact hw.2 _ _ | exact xb_r _) (fun h246 => ?_) (fun h246 => ?_)
          · refine xe_s (f := (254, _, xi 0 :: _, _)) xt_g286 rfl rfl rfl rfl rfl ?_
            refine xe_s (f := (256, [(6, _), (9, _), (8, _), (7, _), (5, _), (4, _), (0, _), (1, _), (2, _), (3, _)], _, _)) xt_g286 rfl rfl rfl rfl rfl ?_
            refine xe_iinc xt_g286 rfl (q := 259) rfl rfl (by decide) (L1 := [(9, _), (6, _), (8, _), (7, _), (5, _), (4, _), (0, _), (1, _), (2, _), (3, _)]) rfl ?_
            refine xe_s (f := (208, _, _, _)) xt_g286 rfl rfl rfl rfl rfl ?_
            rw [y1, y2] at h246
            rw [decide_eq_false h246] at ih'
            rw [show ((k : Int) + 1) = ((k + 1 : Nat) : Int) by omega]
            exact xe_loc (by intro q hq; simp only [List.mem_cons, List.not_mem_nil, or_false] at hq; rcases hq with rfl | rfl | rfl | rfl | rfl | rfl | rfl | rfl | rfl | rfl <;> rfl) (ih')
          · refine xe_s (f := (250, _, xi 1 :: _, _)) xt_g286 rfl rfl rfl rfl rfl ?_
            refine xe_s (f := (254, _, _, _)) xt_g286 rfl rfl rfl rfl rfl ?_
            refine xe_s (f := (256, [(6, _), (9, _), (8, _), (7, _), (5, _), (4, _), (0, _), (1, _), (2, _), (3, _)], _, _)) xt_g286 rfl rfl rfl rfl rfl ?_
            refine xe_iinc xt_g286 rfl (q := 259) rfl rfl (by decide) (L1 := [(9, _), (6, _), (8, _), (7, _), (5, _), (4, _), (0, _), (1, _), (2, _), (3, _)]) rfl ?_
            refine xe_s (f := (208, _, _, _)) xt_g286 rfl rfl rfl rfl rfl ?_
            rw [y1, y2] at h246
            rw [decide_eq_true (Decidable.not_not.mp h246)] at ih'
            rw [show ((k : Int) + 1) = ((k + 1 : Nat) : Int) by omega]
            exact xe_loc (by intro q hq; simp only [List.mem_cons, List.not_mem_nil, or_false] at hq; rcases hq with rfl | rfl | rfl | rfl | rfl | rfl | rfl | rfl | rfl | rfl <;> rfl) (ih')
  have e203 : ∀ b' : Bool, go_0 (s 18) c a net = true → b' = (go_h c.2.2.2.2.2.1 H D && decide (W.length ≤ P.length)) → ∀ (z v5 v4 v6 : Int), z = xb b' → xe fm 286 (203, [(8, xi (P.length : Nat)), (7, xi (hd : Nat)), (6, xi v6), (5, xi v5), (4, xi v4), (0, .ref m), (1, xi i), (2, xi b), (3, xi (xb net))], [xi z], (xo m s ar h0, n, 0, 0)) Q := by
    intro b' hg hb' z v5 v4 v6 hz
    rw [hz]
    refine xe_s (f := (205, [(6, _), (8, _), (7, _), (5, _), (4, _), (0, _), (1, _), (2, _), (3, _)], _, _)) xt_g286 rfl rfl rfl rfl rfl ?_
    refine xe_s (f := (206, _, xi 0 :: _, _)) xt_g286 rfl rfl rfl rfl rfl ?_
    refine xe_s (f := (208, [(9, _), (6, _), (8, _), (7, _), (5, _), (4, _), (0, _), (1, _), (2, _), (3, _)], _, _)) xt_g286 rfl rfl rfl rfl rfl ?_
    have h := l208 b' hg (fun h => by
      rw [h] at hb'
      have := hb'.symm
      rw [Bool.and_eq_true] at this
      exact of_decide_eq_true this.2) (by rw [hb']; unfold go_p; rw [Bool.and_assoc]) v5 v4
    exact xe_loc (by intro q hq; simp only [List.mem_cons, List.not_mem_nil, or_false] at hq; rcases hq with rfl | rfl | rfl | rfl | rfl | rfl | rfl | rfl | rfl | rfl <;> rfl) (h)
  have e165 : ∀ b' : Bool, go_0 (s 18) c a net = true → b' = go_h c.2.2.2.2.2.1 H D → ∀ (v7 v5 v4 : Int), xe fm 286 (165, [(7, xi v7), (6, xi (xb b')), (5, xi v5), (4, xi v4), (0, .ref m), (1, xi i), (2, xi b), (3, xi (xb net))], [], (xo m s ar h0, n, 0, 0)) Q := by
    intro b' hg hb' v7 v5 v4
    have ep : ((hd : Int) + P.length) - hd = (P.length : Nat) := by omega
    refine xe_s (f := (166, _, _, _)) xt_g286 rfl rfl rfl rfl rfl ?_
    refine xe_s (f := (167, _, _, _)) xt_g286 rfl rfl rfl rfl rfl ?_
    refine xe_cvI xt_g286 rfl (q := 170) rfl xk_13_182 rfl (by omega) xt_g271 (by decide) ⟨Nat.le_of_ble_eq_true rfl, Nat.le_of_ble_eq_true rfl, Nat.le_of_ble_eq_true rfl⟩ (xv_originEnd fm hmn hw hb.1 (by omega) e10) ?_
    rw [e2]
    refine xe_s (f := (172, [(7, _), (6, _), (5, _), (4, _), (0, _), (1, _), (2, _), (3, _)], _, _)) xt_g286 rfl rfl rfl rfl rfl ?_
    refine xe_s (f := (173, _, _, _)) xt_g286 rfl rfl rfl rfl rfl ?_
    refine xe_s (f := (174, _, _, _)) xt_g286 rfl rfl rfl rfl rfl ?_
    refine xe_cvI xt_g286 rfl (q := 177) rfl xk_13_238 rfl (by omega) xt_g273 (by decide) ⟨Nat.le_of_ble_eq_true rfl, Nat.le_of_ble_eq_true rfl, Nat.le_of_ble_eq_true rfl⟩ (xv_pathEnd fm hmn hw hb.1 (by omega) e10) ?_
    rw [e4]
    refine xe_s (f := (179, _, _, _)) xt_g286 rfl rfl rfl rfl rfl ?_
    refine xe_isub xt_g286 rfl (q := 180) rfl ?_
    rw [ep]
    refine xe_s (f := (182, [(8, _), (7, _), (6, _), (5, _), (4, _), (0, _), (1, _), (2, _), (3, _)], _, _)) xt_g286 rfl rfl rfl rfl rfl ?_
    refine xe_s (f := (184, _, _, _)) xt_g286 rfl rfl rfl rfl rfl ?_
    refine xe_if_eq xt_g286 rfl (t := 202) rfl (q := 187) rfl (by first | omega | exact hw.1 _ | exact hw.2 _ _ | exact xb_r _) (fun h184 => ?_) (fun h184 => ?_)
    · try simp only [xb_0, xb_1, ne_eq, Decidable.not_not, decide_eq_true_eq, decide_eq_false_iff_not] at h184
      refine xe_s (f := (203, _, xi 0 :: _, _)) xt_g286 rfl rfl rfl rfl rfl ?_
      have h := e203 false hg (by rw [← hb', h184]; rfl) 0 v5 v4 (xb b') rfl
      exact xe_loc (by intro q hq; simp only [List.mem_cons, List.not_mem_nil, or_false] at hq; rcases hq with rfl | rfl | rfl | rfl | rfl | rfl | rfl | rfl | rfl <;> rfl) (h)
    · try simp only [xb_0, xb_1, ne_eq, Decidable.not_not, decide_eq_true_eq, decide_eq_false_iff_not] at h184
      refine xe_s (f := (188, _, _, _)) xt_g286 rfl rfl rfl rfl rfl ?_
      refine xe_mga xt_g286 rfl (q := 191) rfl (xf_13_58 fm) (by decide) rfl (by omega) ?_
      try simp only [xo_u, xo_w, Nat.reduceEqDiff, reduceIte, false_and, true_and]
      refine xe_s (f := (192, _, _, _)) xt_g286 rfl rfl rfl rfl rfl ?_
      refine xe_mal (ok := xm_isN) (ty := .int) xt_g286 rfl (q := 193) rfl (fun _ _ => ⟨rfl, rfl, rfl, rfl⟩) rfl rfl rfl (by omega) (by omega) (by omega) (by omega) ?_
      try simp only [xo_u, xo_w, Nat.reduceEqDiff, reduceIte, false_and, true_and]
      rw [a27]
      refine xe_s (f := (195, _, _, _)) xt_g286 rfl rfl rfl rfl rfl ?_
      refine xe_ic_gt xt_g286 rfl (t := 202) rfl (q := 198) rfl (by first | omega | exact hw.1 _ | exact hw.2 _ _ | exact xb_r _) (by first | omega | exact hw.1 _ | exact hw.2 _ _ | exact xb_r _) (fun h195 => ?_) (fun h195 => ?_)
      · refine xe_s (f := (203, _, xi 0 :: _, _)) xt_g286 rfl rfl rfl rfl rfl ?_
        have h := e203 false hg (by rw [decide_eq_false (by omega), Bool.and_false]) 0 v5 v4 (xb b') rfl
        exact xe_loc (by intro q hq; simp only [List.mem_cons, List.not_mem_nil, or_false] at hq; rcases hq with rfl | rfl | rfl | rfl | rfl | rfl | rfl | rfl | rfl <;> rfl) (h)
      · refine xe_s (f := (199, _, xi 1 :: _, _)) xt_g286 rfl rfl rfl rfl rfl ?_
        refine xe_s (f := (203, _, _, _)) xt_g286 rfl rfl rfl rfl rfl ?_
        have h := e203 true hg (by rw [← hb', show b' = true by simpa using h184, decide_eq_true (by omega)]; rfl) 1 v5 v4 (xb b') rfl
        exact xe_loc (by intro q hq; simp only [List.mem_cons, List.not_mem_nil, or_false] at hq; rcases hq with rfl | rfl | rfl | rfl | rfl | rfl | rfl | rfl | rfl <;> rfl) (h)
  -- the host
  have l111 : ∀ b' : Bool, go_0 (s 18) c a net = true → b' = go_h0 c.2.2.2.2.2.1 H D → xe fm 286 (111, [(7, xi ((0 : Nat) : Int)), (6, xi (xb b')), (5, xi ((sl : Int) + H.length - D.length)), (4, xi ((sl : Int) + H.length)), (0, .ref m), (1, xi i), (2, xi b), (3, xi (xb net))], [], (xo m s ar h0, n, 0, 0)) Q := by
    intro b' hg hb'
    have hle : b' = true → D.length ≤ H.length := by
      intro h
      rw [h] at hb'
      have := hb'.symm
      unfold go_h0 at this
      rw [Bool.or_eq_true, Bool.and_eq_true, decide_eq_true_eq, decide_eq_true_eq] at this
      omega
    refine xc_loop (n := D.length) (B := fun k => decide ((H.drop (H.length - D.length)).getD k 0 = D.getD k 0)) (P := fun k b' => (b' = true → D.length ≤ H.length) → xe fm 286 (111, [(7, xi (k : Nat)), (6, xi (xb b')), (5, xi ((sl : Int) + H.length - D.length)), (4, xi ((sl : Int) + H.length)), (0, .ref m), (1, xi i), (2, xi b), (3, xi (xb net))], [], (xo m s ar h0, n, 0, 0)) Q) (E := fun b' => b' = go_h c.2.2.2.2.2.1 H D) b' ?_ ?_ ?_ hle
    · unfold go_h
      rw [← hb']
      cases b' with
      | false => rfl
      | true => rw [xc_all_eq (by rw [List.length_drop]; have := hle rfl; omega) rfl (fun _ _ => rfl)]
    · intro k b' hk hkb hE _
      refine xe_s (f := (113, _, _, _)) xt_g286 rfl rfl rfl rfl rfl ?_
      refine xe_s (f := (114, _, _, _)) xt_g286 rfl rfl rfl rfl rfl ?_
      refine xe_mga xt_g286 rfl (q := 117) rfl (xf_13_55 fm) (by decide) rfl (by omega) ?_
      try simp only [xo_u, xo_w, Nat.reduceEqDiff, reduceIte, false_and, true_and]
      refine xe_s (f := (118, _, _, _)) xt_g286 rfl rfl rfl rfl rfl ?_
      refine xe_mal (ok := xm_isN) (ty := .int) xt_g286 rfl (q := 119) rfl (fun _ _ => ⟨rfl, rfl, rfl, rfl⟩) rfl rfl rfl (by omega) (by omega) (by omega) (by omega) ?_
      try simp only [xo_u, xo_w, Nat.reduceEqDiff, reduceIte, false_and, true_and]
      rw [a26]
      refine xe_ic_ge xt_g286 rfl (t := 165) rfl (q := 122) rfl (by first | omega | exact hw.1 _ | exact hw.2 _ _ | exact xb_r _) (by first | omega | exact hw.1 _ | exact hw.2 _ _ | exact xb_r _) (fun h119 => ?_) (fun h119 => ?_)
      · exact e165 b' hg hE _ _ _
      · refine xe_s (f := (124, _, _, _)) xt_g286 rfl rfl rfl rfl rfl ?_
        refine xe_if_eq xt_g286 rfl (t := 165) rfl (q := 127) rfl (by first | omega | exact hw.1 _ | exact hw.2 _ _ | exact xb_r _) (fun h124 => ?_) (fun h124 => ?_)
        · try simp only [xb_0, xb_1, ne_eq, Decidable.not_not, decide_eq_true_eq, decide_eq_false_iff_not] at h124
          exact e165 b' hg hE _ _ _
        · try simp only [xb_0, xb_1, ne_eq, Decidable.not_not, decide_eq_true_eq, decide_eq_false_iff_not] at h124
          exfalso
          rcases hkb with h | h
          · omega
          · rw [h] at h124; exact absurd rfl h124
    · intro k hk ih hlt
      have hl := hlt rfl
      have y1 : ar 4 (60 * b + ((sl : Int) + H.length - D.length + k)).toNat = (H.drop (H.length - D.length)).getD k 0 := by
        have := e6 (H.length - D.length + k) (by omega)
        rw [show (60 * b + ((sl + (H.length - D.length + k) : Nat) : Int)).toNat = (60 * b + ((sl : Int) + H.length - D.length + k)).toNat by omega] at this
        rw [this, xg_drop]
      have y2 : ar 22 (40 * (i : Int) + k).toNat = D.getD k 0 := by
        rw [← d3 k hk]
        congr 1
      have r1 := hw.2 4 (60 * b + ((sl : Int) + H.length - D.length + k)).toNat
      have r2 := hw.2 22 (40 * (i : Int) + k).toNat
      have ih' := ih (fun _ => hl)
      refine xe_s (f := (113, _, _, _)) xt_g286 rfl rfl rfl rfl rfl ?_
      refine xe_s (f := (114, _, _, _)) xt_g286 rfl rfl rfl rfl rfl ?_
      refine xe_mga xt_g286 rfl (q := 117) rfl (xf_13_55 fm) (by decide) rfl (by omega) ?_
      try simp only [xo_u, xo_w, Nat.reduceEqDiff, reduceIte, false_and, true_and]
      refine xe_s (f := (118, _, _, _)) xt_g286 rfl rfl rfl rfl rfl ?_
      refine xe_mal (ok := xm_isN) (ty := .int) xt_g286 rfl (q := 119) rfl (fun _ _ => ⟨rfl, rfl, rfl, rfl⟩) rfl rfl rfl (by omega) (by omega) (by omega) (by omega) ?_
      try simp only [xo_u, xo_w, Nat.reduceEqDiff, reduceIte, false_and, true_and]
      rw [a26]
      refine xe_ic_ge xt_g286 rfl (t := 165) rfl (q := 122) rfl (by first | omega | exact hw.1 _ | exact hw.2 _ _ | exact xb_r _) (by first | omega | exact hw.1 _ | exact hw.2 _ _ | exact xb_r _) (fun h119 => ?_) (fun h119 => ?_)
      · exact absurd h119 (by omega)
      · refine xe_s (f := (124, _, _, _)) xt_g286 rfl rfl rfl rfl rfl ?_
        refine xe_if_eq xt_g286 rfl (t := 165) rfl (q := 127) rfl (by first | omega | exact hw.1 _ | exact hw.2 _ _ | exact xb_r _) (fun h124 => ?_) (fun h124 => ?_)
        · exact absurd h124 (by decide)
        · try simp only [xb_0, xb_1, ne_eq, Decidable.not_not, decide_eq_true_eq, decide_eq_false_iff_not] at h124
          refine xe_s (f := (128, _, _, _)) xt_g286 rfl rfl rfl rfl rfl ?_
          refine xe_s (f := (129, _, _, _)) xt_g286 rfl rfl rfl rfl rfl ?_
          refine xe_s (f := (131, _, _, _)) xt_g286 rfl rfl rfl rfl rfl ?_
          refine xe_s (f := (133, _, _, _)) xt_g286 rfl rfl rfl rfl rfl ?_
          refine xe_iadd xt_g286 rfl (q := 134) rfl ?_
          refine xe_cvI xt_g286 rfl (q := 137) rfl xk_13_172 rfl (by omega) xt_g270 (by decide) ⟨Nat.le_of_ble_eq_true rfl, Nat.le_of_ble_eq_true rfl, Nat.le_of_ble_eq_true rfl⟩ (xv_textAt fm hmn (by omega) (by omega)) ?_
          refine xe_s (f := (138, _, _, _)) xt_g286 rfl rfl rfl rfl rfl ?_
          refine xe_mga xt_g286 rfl (q := 141) rfl (xf_13_43 fm) (by decide) rfl (by omega) ?_
          try simp only [xo_u, xo_w, Nat.reduceEqDiff, reduceIte, false_and, true_and]
          refine xe_bipush xt_g286 rfl (q := 143) rfl (by decide) (by decide) ?_
          refine xe_s (f := (144, _, _, _)) xt_g286 rfl rfl rfl rfl rfl ?_
          refine xe_imul xt_g286 rfl (q := 145) rfl ?_
          refine xe_s (f := (147, _, _, _)) xt_g286 rfl rfl rfl rfl rfl ?_
          refine xe_iadd xt_g286 rfl (q := 148) rfl ?_
          refine xe_mal (ok := xm_isN) (ty := .int) xt_g286 rfl (q := 149) rfl (fun _ _ => ⟨rfl, rfl, rfl, rfl⟩) rfl rfl rfl (by omega) (by omega) (by omega) (by omega) ?_
          try simp only [xo_u, xo_w, Nat.reduceEqDiff, reduceIte, false_and, true_and]
          refine xe_ic_ne xt_g286 rfl (t := 156) rfl (q := 152) rfl (by first | omega | exact hw.1 _ | exact hw.2 _ _ | exact xb_r _) (by first | omega | exact hw.1 _ | exact hw.2 _ _ | exact xb_r _) (fun h149 => ?_) (fun h149 => ?_)
          · refine xe_s (f := (157, _, xi 0 :: _, _)) xt_g286 rfl rfl rfl rfl rfl ?_
            refine xe_s (f := (159, [(6, _), (7, _), (5, _), (4, _), (0, _), (1, _), (2, _), (3, _)], _, _)) xt_g286 rfl rfl rfl rfl rfl ?_
            refine xe_iinc xt_g286 rfl (q := 162) rfl rfl (by decide) (L1 := [(7, _), (6, _), (5, _), (4, _), (0, _), (1, _), (2, _), (3, _)]) rfl ?_
            refine xe_s (f := (111, _, _, _)) xt_g286 rfl rfl rfl rfl rfl ?_
            rw [y1, y2] at h149
            rw [decide_eq_false h149] at ih'
            rw [show ((k : Int) + 1) = ((k + 1 : Nat) : Int) by omega]
            exact xe_loc (by intro q hq; simp only [List.mem_cons, List.not_mem_nil, or_false] at hq; rcases hq with rfl | rfl | rfl | rfl | rfl | rfl | rfl | rfl <;> rfl) (ih')
          · refine xe_s (f := (153, _, xi 1 :: _, _)) xt_g286 rfl rfl rfl rfl rfl ?_
            refine xe_s (f := (157, _, _, _)) xt_g286 rfl rfl rfl rfl rfl ?_
            refine xe_s (f := (159, [(6, _), (7, _), (5, _), (4, _), (0, _), (1, _), (2, _), (3, _)], _, _)) xt_g286 rfl rfl rfl rfl rfl ?_
            refine xe_iinc xt_g286 rfl (q := 162) rfl rfl (by decide) (L1 := [(7, _), (6, _), (5, _), (4, _), (0, _), (1, _), (2, _), (3, _)]) rfl ?_
            refine xe_s (f := (111, _, _, _)) xt_g286 rfl rfl rfl rfl rfl ?_
            rw [y1, y2] at h149
            rw [decide_eq_true (Decidable.not_not.mp h149)] at ih'
            rw [show ((k : Int) + 1) = ((k + 1 : Nat) : Int) by omega]
            exact xe_loc (by intro q hq; simp only [List.mem_cons, List.not_mem_nil, or_false] at hq; rcases hq with rfl | rfl | rfl | rfl | rfl | rfl | rfl | rfl <;> rfl) (ih')
  have e106 : ∀ z : Int, go_0 (s 18) c a net = true → z = xb (go_h0 c.2.2.2.2.2.1 H D) → xe fm 286 (106, [(5, xi ((sl : Int) + H.length - D.length)), (4, xi ((sl : Int) + H.length)), (0, .ref m), (1, xi i), (2, xi b), (3, xi (xb net))], [xi z], (xo m s ar h0, n, 0, 0)) Q := by
    intro z hg hz
    rw [hz]
    refine xe_s (f := (108, [(6, _), (5, _), (4, _), (0, _), (1, _), (2, _), (3, _)], _, _)) xt_g286 rfl rfl rfl rfl rfl ?_
    refine xe_s (f := (109, _, xi 0 :: _, _)) xt_g286 rfl rfl rfl rfl rfl ?_
    refine xe_s (f := (111, [(7, _), (6, _), (5, _), (4, _), (0, _), (1, _), (2, _), (3, _)], _, _)) xt_g286 rfl rfl rfl rfl rfl ?_
    exact l111 _ hg rfl
  have y46 : D.length < H.length → ar 4 (60 * b + ((sl : Int) + H.length - D.length - 1)).toNat = H.getD (H.length - D.length - 1) 0 := by
    intro h
    have := e6 (H.length - D.length - 1) (by omega)
    rw [show (60 * b + ((sl + (H.length - D.length - 1) : Nat) : Int)).toNat = (60 * b + ((sl : Int) + H.length - D.length - 1)).toNat by omega] at this
    exact this
  have r46 := hw.2 4 (60 * b + ((sl : Int) + H.length - D.length - 1)).toNat
  have e40 : go_0 (s 18) c a net = true → xe fm 286 (40, [(0, .ref m), (1, xi i), (2, xi b), (3, xi (xb net))], [], (xo m s ar h0, n, 0, 0)) Q := by
    intro hg
    refine xe_s (f := (41, _, _, _)) xt_g286 rfl rfl rfl rfl rfl ?_
    refine xe_s (f := (42, _, _, _)) xt_g286 rfl rfl rfl rfl rfl ?_
    refine xe_cvI xt_g286 rfl (q := 45) rfl xk_13_343 rfl (by omega) xt_g288 (by decide) ⟨Nat.le_of_ble_eq_true rfl, Nat.le_of_ble_eq_true rfl, Nat.le_of_ble_eq_true rfl⟩ (xv_hostEnd fm hmn hw hb.1 (by omega) e10) ?_
    rw [e3]
    refine xe_s (f := (47, [(4, _), (0, _), (1, _), (2, _), (3, _)], _, _)) xt_g286 rfl rfl rfl rfl rfl ?_
    refine xe_s (f := (49, _, _, _)) xt_g286 rfl rfl rfl rfl rfl ?_
    refine xe_s (f := (50, _, _, _)) xt_g286 rfl rfl rfl rfl rfl ?_
    refine xe_mga xt_g286 rfl (q := 53) rfl (xf_13_55 fm) (by decide) rfl (by omega) ?_
    try simp only [xo_u, xo_w, Nat.reduceEqDiff, reduceIte, false_and, true_and]
    refine xe_s (f := (54, _, _, _)) xt_g286 rfl rfl rfl rfl rfl ?_
    refine xe_mal (ok := xm_isN) (ty := .int) xt_g286 rfl (q := 55) rfl (fun _ _ => ⟨rfl, rfl, rfl, rfl⟩) rfl rfl rfl (by omega) (by omega) (by omega) (by omega) ?_
    try simp only [xo_u, xo_w, Nat.reduceEqDiff, reduceIte, false_and, true_and]
    rw [a26]
    refine xe_isub xt_g286 rfl (q := 56) rfl ?_
    refine xe_s (f := (58, [(5, _), (4, _), (0, _), (1, _), (2, _), (3, _)], _, _)) xt_g286 rfl rfl rfl rfl rfl ?_
    refine xe_s (f := (60, _, _, _)) xt_g286 rfl rfl rfl rfl rfl ?_
    refine xe_s (f := (61, _, _, _)) xt_g286 rfl rfl rfl rfl rfl ?_
    refine xe_s (f := (62, _, _, _)) xt_g286 rfl rfl rfl rfl rfl ?_
    refine xe_cvI xt_g286 rfl (q := 65) rfl xk_13_179 rfl (by omega) xt_g272 (by decide) ⟨Nat.le_of_ble_eq_true rfl, Nat.le_of_ble_eq_true rfl, Nat.le_of_ble_eq_true rfl⟩ (xv_hostFrom fm hmn hw hb.1 (by omega)) ?_
    rw [e1]
    refine xe_ic_eq xt_g286 rfl (t := 101) rfl (q := 68) rfl (by first | omega | exact hw.1 _ | exact hw.2 _ _ | exact xb_r _) (by first | omega | exact hw.1 _ | exact hw.2 _ _ | exact xb_r _) (fun h65 => ?_) (fun h65 => ?_)
    · refine xe_s (f := (102, _, xi 1 :: _, _)) xt_g286 rfl rfl rfl rfl rfl ?_
      refine xe_s (f := (106, _, _, _)) xt_g286 rfl rfl rfl rfl rfl ?_
      exact e106 _ hg (by unfold go_h0; rw [decide_eq_true (by omega)]; rfl)
    · refine xe_s (f := (69, _, _, _)) xt_g286 rfl rfl rfl rfl rfl ?_
      refine xe_mga xt_g286 rfl (q := 72) rfl (xf_13_64 fm) (by decide) rfl (by omega) ?_
      try simp only [xo_u, xo_w, Nat.reduceEqDiff, reduceIte, false_and, true_and]
      refine xe_s (f := (73, _, _, _)) xt_g286 rfl rfl rfl rfl rfl ?_
      refine xe_mal (ok := xm_isB) (ty := .boolean) xt_g286 rfl (q := 74) rfl (fun _ _ => ⟨rfl, rfl, rfl, rfl⟩) rfl rfl rfl (by omega) (by omega) (by omega) (by omega) ?_
      try simp only [xo_u, xo_w, Nat.reduceEqDiff, reduceIte, false_and, true_and]
      rw [a29]
      refine xe_if_ne xt_g286 rfl (t := 105) rfl (q := 77) rfl (by first | omega | exact hw.1 _ | exact hw.2 _ _ | exact xb_r _) (fun h74 => ?_) (fun h74 => ?_)
      · try simp only [xb_0, xb_1, ne_eq, Decidable.not_not, decide_eq_true_eq, decide_eq_false_iff_not] at h74
        refine xe_s (f := (106, _, xi 0 :: _, _)) xt_g286 rfl rfl rfl rfl rfl ?_
        exact e106 _ hg (by unfold go_h0; rw [decide_eq_false (by omega), show c.2.2.2.2.2.1 = true by simpa using h74]; rfl)
      · try simp only [xb_0, xb_1, ne_eq, Decidable.not_not, decide_eq_true_eq, decide_eq_false_iff_not] at h74
        refine xe_s (f := (79, _, _, _)) xt_g286 rfl rfl rfl rfl rfl ?_
        refine xe_s (f := (80, _, _, _)) xt_g286 rfl rfl rfl rfl rfl ?_
        refine xe_s (f := (81, _, _, _)) xt_g286 rfl rfl rfl rfl rfl ?_
        refine xe_cvI xt_g286 rfl (q := 84) rfl xk_13_179 rfl (by omega) xt_g272 (by decide) ⟨Nat.le_of_ble_eq_true rfl, Nat.le_of_ble_eq_true rfl, Nat.le_of_ble_eq_true rfl⟩ (xv_hostFrom fm hmn hw hb.1 (by omega)) ?_
        rw [e1]
        refine xe_ic_le xt_g286 rfl (t := 105) rfl (q := 87) rfl (by first | omega | exact hw.1 _ | exact hw.2 _ _ | exact xb_r _) (by first | omega | exact hw.1 _ | exact hw.2 _ _ | exact xb_r _) (fun h84 => ?_) (fun h84 => ?_)
        · refine xe_s (f := (106, _, xi 0 :: _, _)) xt_g286 rfl rfl rfl rfl rfl ?_
          exact e106 _ hg (by unfold go_h0; rw [decide_eq_false (show ¬ D.length = H.length by omega), decide_eq_false (fun h => absurd h.1 (by omega)), h74]; rfl)
        · refine xe_s (f := (88, _, _, _)) xt_g286 rfl rfl rfl rfl rfl ?_
          refine xe_s (f := (89, _, _, _)) xt_g286 rfl rfl rfl rfl rfl ?_
          refine xe_s (f := (91, _, _, _)) xt_g286 rfl rfl rfl rfl rfl ?_
          refine xe_s (f := (92, _, xi 1 :: _, _)) xt_g286 rfl rfl rfl rfl rfl ?_
          refine xe_isub xt_g286 rfl (q := 93) rfl ?_
          refine xe_cvI xt_g286 rfl (q := 96) rfl xk_13_172 rfl (by omega) xt_g270 (by decide) ⟨Nat.le_of_ble_eq_true rfl, Nat.le_of_ble_eq_true rfl, Nat.le_of_ble_eq_true rfl⟩ (xv_textAt fm hmn (by omega) (by omega)) ?_
          refine xe_bipush xt_g286 rfl (q := 98) rfl (by decide) (by decide) ?_
          refine xe_ic_ne xt_g286 rfl (t := 105) rfl (q := 101) rfl (by first | omega | exact hw.1 _ | exact hw.2 _ _ | exact xb_r _) (by first | omega | exact hw.1 _ | exact hw.2 _ _ | exact xb_r _) (fun h98 => ?_) (fun h98 => ?_)
          · refine xe_s (f := (106, _, xi 0 :: _, _)) xt_g286 rfl rfl rfl rfl rfl ?_
            exact e106 _ hg (by rw [y46 (by omega)] at h98; unfold go_h0; rw [decide_eq_false (show ¬ D.length = H.length by omega), decide_eq_false (fun h => h98 h.2), h74]; rfl)
          · refine xe_s (f := (102, _, xi 1 :: _, _)) xt_g286 rfl rfl rfl rfl rfl ?_
            refine xe_s (f := (106, _, _, _)) xt_g286 rfl rfl rfl rfl rfl ?_
            exact e106 _ hg (by rw [y46 (by omega)] at h98; unfold go_h0; rw [decide_eq_false (show ¬ D.length = H.length by omega), decide_eq_true (show D.length < H.length ∧ H.getD (H.length - D.length - 1) 0 = 46 from ⟨by omega, Decidable.not_not.mp h98⟩), h74]; rfl)
  have hx := xb_or net
  refine xe_s (f := (1, _, _, _)) xt_g286 rfl rfl rfl rfl rfl ?_
  refine xe_s (f := (2, _, _, _)) xt_g286 rfl rfl rfl rfl rfl ?_
  refine xe_cvI xt_g286 rfl (q := 5) rfl xk_13_278 rfl (by omega) xt_g287 (by decide) ⟨Nat.le_of_ble_eq_true rfl, Nat.le_of_ble_eq_true rfl, Nat.le_of_ble_eq_true rfl⟩ (xv_isOver fm hmn hw (by omega)) ?_
  rw [hov]
  refine xe_if_ne xt_g286 rfl (t := 38) rfl (q := 8) rfl (by first | omega | exact hw.1 _ | exact hw.2 _ _ | exact xb_r _) (fun h5 => ?_) (fun h5 => ?_)
  · try simp only [xb_0, xb_1, ne_eq, Decidable.not_not, decide_eq_true_eq, decide_eq_false_iff_not] at h5
    exact no (by unfold go_0; rw [show ck_io (s 18) c = true by simpa using h5]; rfl) _
  · try simp only [xb_0, xb_1, ne_eq, Decidable.not_not, decide_eq_true_eq, decide_eq_false_iff_not] at h5
    refine xe_s (f := (9, _, _, _)) xt_g286 rfl rfl rfl rfl rfl ?_
    refine xe_mga xt_g286 rfl (q := 12) rfl (xf_13_68 fm) (by decide) rfl (by omega) ?_
    try simp only [xo_u, xo_w, Nat.reduceEqDiff, reduceIte, false_and, true_and]
    refine xe_s (f := (13, _, _, _)) xt_g286 rfl rfl rfl rfl rfl ?_
    refine xe_mal (ok := xm_isB) (ty := .boolean) xt_g286 rfl (q := 14) rfl (fun _ _ => ⟨rfl, rfl, rfl, rfl⟩) rfl rfl rfl (by omega) (by omega) (by omega) (by omega) ?_
    try simp only [xo_u, xo_w, Nat.reduceEqDiff, reduceIte, false_and, true_and]
    rw [a30]
    refine xe_if_eq xt_g286 rfl (t := 25) rfl (q := 17) rfl (by first | omega | exact hw.1 _ | exact hw.2 _ _ | exact xb_r _) (fun h14 => ?_) (fun h14 => ?_)
    · try simp only [xb_0, xb_1, ne_eq, Decidable.not_not, decide_eq_true_eq, decide_eq_false_iff_not] at h14
      refine xe_s (f := (26, _, _, _)) xt_g286 rfl rfl rfl rfl rfl ?_
      refine xe_mga xt_g286 rfl (q := 29) rfl (xf_13_71 fm) (by decide) rfl (by omega) ?_
      try simp only [xo_u, xo_w, Nat.reduceEqDiff, reduceIte, false_and, true_and]
      refine xe_s (f := (30, _, _, _)) xt_g286 rfl rfl rfl rfl rfl ?_
      refine xe_mal (ok := xm_isB) (ty := .boolean) xt_g286 rfl (q := 31) rfl (fun _ _ => ⟨rfl, rfl, rfl, rfl⟩) rfl rfl rfl (by omega) (by omega) (by omega) (by omega) ?_
      try simp only [xo_u, xo_w, Nat.reduceEqDiff, reduceIte, false_and, true_and]
      rw [a31]
      refine xe_if_eq xt_g286 rfl (t := 40) rfl (q := 34) rfl (by first | omega | exact hw.1 _ | exact hw.2 _ _ | exact xb_r _) (fun h31 => ?_) (fun h31 => ?_)
      · try simp only [xb_0, xb_1, ne_eq, Decidable.not_not, decide_eq_true_eq, decide_eq_false_iff_not] at h31
        first
          | exact e40 (by unfold go_0; rw [h5, h14, h31]; rfl)
          | exact e40 (by unfold go_0; rw [h5, show a.1 = true by simpa using h22, h31]; simp)
      · try simp only [xb_0, xb_1, ne_eq, Decidable.not_not, decide_eq_true_eq, decide_eq_false_iff_not] at h31
        refine xe_s (f := (35, _, _, _)) xt_g286 rfl rfl rfl rfl rfl ?_
        refine xe_if_ne xt_g286 rfl (t := 40) rfl (q := 38) rfl (by first | omega | exact hw.1 _ | exact hw.2 _ _ | exact xb_r _) (fun h35 => ?_) (fun h35 => ?_)
        · try simp only [xb_0, xb_1, ne_eq, Decidable.not_not, decide_eq_true_eq, decide_eq_false_iff_not] at h35
          first
            | exact e40 (by unfold go_0; rw [h5, h14, show net = true by simpa using h35]; simp)
            | exact e40 (by unfold go_0; rw [h5, show a.1 = true by simpa using h22, show net = true by simpa using h35]; simp)
        · try simp only [xb_0, xb_1, ne_eq, Decidable.not_not, decide_eq_true_eq, decide_eq_false_iff_not] at h35
          exact no (by unfold go_0; rw [show c.2.2.2.2.2.2.2 = true by simpa using h31, h35]; simp) _
    · try simp only [xb_0, xb_1, ne_eq, Decidable.not_not, decide_eq_true_eq, decide_eq_false_iff_not] at h14
      refine xe_s (f := (18, _, _, _)) xt_g286 rfl rfl rfl rfl rfl ?_
      refine xe_s (f := (19, _, _, _)) xt_g286 rfl rfl rfl rfl rfl ?_
      refine xe_cvI xt_g286 rfl (q := 22) rfl xk_13_176 rfl (by omega) xt_g269 (by decide) ⟨Nat.le_of_ble_eq_true rfl, Nat.le_of_ble_eq_true rfl, Nat.le_of_ble_eq_true rfl⟩ (xv_isSafe fm hmn hw hb.1 (by omega)) ?_
      rw [e5]
      refine xe_if_eq xt_g286 rfl (t := 38) rfl (q := 25) rfl (by first | omega | exact hw.1 _ | exact hw.2 _ _ | exact xb_r _) (fun h22 => ?_) (fun h22 => ?_)
      · try simp only [xb_0, xb_1, ne_eq, Decidable.not_not, decide_eq_true_eq, decide_eq_false_iff_not] at h22
        exact no (by unfold go_0; rw [show c.2.2.2.2.2.2.1 = true by simpa using h14, h22]; simp) _
      · try simp only [xb_0, xb_1, ne_eq, Decidable.not_not, decide_eq_true_eq, decide_eq_false_iff_not] at h22
        refine xe_s (f := (26, _, _, _)) xt_g286 rfl rfl rfl rfl rfl ?_
        refine xe_mga xt_g286 rfl (q := 29) rfl (xf_13_71 fm) (by decide) rfl (by omega) ?_
        try simp only [xo_u, xo_w, Nat.reduceEqDiff, reduceIte, false_and, true_and]
        refine xe_s (f := (30, _, _, _)) xt_g286 rfl rfl rfl rfl rfl ?_
        refine xe_mal (ok := xm_isB) (ty := .boolean) xt_g286 rfl (q := 31) rfl (fun _ _ => ⟨rfl, rfl, rfl, rfl⟩) rfl rfl rfl (by omega) (by omega) (by omega) (by omega) ?_
        try simp only [xo_u, xo_w, Nat.reduceEqDiff, reduceIte, false_and, true_and]
        rw [a31]
        refine xe_if_eq xt_g286 rfl (t := 40) rfl (q := 34) rfl (by first | omega | exact hw.1 _ | exact hw.2 _ _ | exact xb_r _) (fun h31 => ?_) (fun h31 => ?_)
        · try simp only [xb_0, xb_1, ne_eq, Decidable.not_not, decide_eq_true_eq, decide_eq_false_iff_not] at h31
          first
            | exact e40 (by unfold go_0; rw [h5, h14, h31]; rfl)
            | exact e40 (by unfold go_0; rw [h5, show a.1 = true by simpa using h22, h31]; simp)
        · try simp only [xb_0, xb_1, ne_eq, Decidable.not_not, decide_eq_true_eq, decide_eq_false_iff_not] at h31
          refine xe_s (f := (35, _, _, _)) xt_g286 rfl rfl rfl rfl rfl ?_
          refine xe_if_ne xt_g286 rfl (t := 40) rfl (q := 38) rfl (by first | omega | exact hw.1 _ | exact hw.2 _ _ | exact xb_r _) (fun h35 => ?_) (fun h35 => ?_)
          · try simp only [xb_0, xb_1, ne_eq, Decidable.not_not, decide_eq_true_eq, decide_eq_false_iff_not] at h35
            first
              | exact e40 (by unfold go_0; rw [h5, h14, show net = true by simpa using h35]; simp)
              | exact e40 (by unfold go_0; rw [h5, show a.1 = true by simpa using h22, show net = true by simpa using h35]; simp)
          · try simp only [xb_0, xb_1, ne_eq, Decidable.not_not, decide_eq_true_eq, decide_eq_false_iff_not] at h35
            exact no (by unfold go_0; rw [show c.2.2.2.2.2.2.2 = true by simpa using h31, h35]; simp) _
end XGO
