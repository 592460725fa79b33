/-! the reader of addresses: on a base -/
/-- an Address -/
def aO (w : kW) (h : xm_H) (n x : Nat) (A : pa_A) : Prop := ∃ ho pa qu te, h x = .inr (8, [xi (xb A.1), .ref ho, xi A.2.2.1, .ref pa, .ref qu, .ref te]) ∧ gd w x ∧ 44 ≤ x ∧ x < n ∧ sS (gd w) h n ho A.2.1 ∧ sS (gd w) h n pa A.2.2.2.1 ∧ sS (gd w) h n qu A.2.2.2.2 ∧ sS (gd w) h n te (pa_text A) ∧ pa_ok A
section XB6
variable {fm : Value} {w w' w1 w2 : kW} {s s' s1 s2 : Nat → Int} {p p' p1 p2 : Nat → Nat} {ar : Nat → Nat → Option Nat} {v : Nat → Int} {h h' h1 h2 : xm_H} {n n' n1 n2 r k k' u' u1 u2 x : Nat} {l L W : List Int} {A : pa_A} {t t' t1 t2 : Nat → List Int} {kc kc' kc1 kc2 : Nat → Nat}
theorem aO_kp (H : aO w h n x A) (e : kp w h n w' h' n') : aO w' h' n' x A := by
  obtain ⟨ho, pa, qu, te, a1, a2, a3, a4, a5, a6, a7, a8, a9⟩ := H
  have e1 := e.2.1 x a4 a2
  exact ⟨ho, pa, qu, te, e1.1.trans a1, e1.2, a3, Nat.lt_of_lt_of_le a4 e.1, sS_kp a5 e, sS_kp a6 e, sS_kp a7 e, sS_kp a8 e, a9⟩
theorem pa_blp {q : List Int} : ∀ (k : Nat), 1 ≤ k → 1 ≤ pa_bl (47 :: q) 47 k
  | 0, h => by omega
  | 1, _ => by
    unfold pa_bl
    rw [if_pos (by rfl)]
    omega
  | k + 2, _ => by
    unfold pa_bl
    split
    · omega
    · exact pa_blp (k + 1) (by omega)
theorem pa_fold_hd {q : List Int} : ∃ q', pa_fold (47 :: q) = 47 :: q' ∧ q'.length ≤ q.length := by
  unfold pa_fold
  have h1 := pa_blp (q := q) (47 :: q).length (by simp)
  obtain ⟨m, hm⟩ : ∃ m, pa_bl (47 :: q) 47 (47 :: q).length = m + 1 := ⟨_, (Nat.sub_add_cancel h1).symm⟩
  rw [hm, List.take_succ_cons]
  exact ⟨_, rfl, by rw [List.length_take]; omega⟩
theorem pa_ok_len (hA : pa_ok A) : A.2.2.2.1.length ≤ 60 ∧ A.2.1.length ≤ 60 ∧ A.2.2.2.2.length ≤ 60 := by
  have := hA.2.2.2.2.1
  unfold pa_text pa_hd at this
  simp only [List.length_append] at this
  omega
theorem sk_2 {l : List Int} : skM l 0 [47, 47] = decide (lt l 0 = 47 ∧ lt l 1 = 47) := by
  rw [Bool.eq_iff_iff, skM_iff (Int.le_refl 0) (by omega) (by decide), decide_eq_true_eq]
  constructor
  · intro hh
    have e0 := hh 0 (by decide)
    have e1 := hh 1 (by decide)
    exact ⟨(sml_e (by omega) (by omega)).mp e0, (sml_e (by omega) (by omega)).mp e1⟩
  · rintro ⟨e0, e1⟩ i hi
    match i, hi with
    | 0, _ => exact (sml_e (by decide) (by decide)).mpr e0
    | 1, _ => exact (sml_e (by decide) (by decide)).mpr e1
    | i + 2, h => exact absurd h (by simp)
def rdP (w : kW) (s : Nat → Int) (p : Nat → Nat) (h : xm_H) (n : Nat) (o : Option pa_A) (z : Int) : Prop := (o = none → z = 0) ∧ ∀ a, o = some a → z = 1 ∧ s 9 = xb a.1 ∧ rdA w s p h n a.2
theorem rdO_z {o : Option (List Int × Int × List Int × List Int)} {z : Int} (H : rdO w s p h n o z) : z = 0 ∨ z = 1 := by
  cases o with
  | none => exact Or.inl (H.1 rfl)
  | some x => exact Or.inr (H.2 x rfl).1
theorem rdP_z {o : Option pa_A} {z : Int} (H : rdP w s p h n o z) : z = 0 ∨ z = 1 := by
  cases o with
  | none => exact Or.inl (H.1 rfl)
  | some x => exact Or.inr (H.2 x rfl).1
theorem rdO_P {sec : Bool} {o : Option (List Int × Int × List Int × List Int)} {z : Int} (H : rdO w s p h n o z) (h9 : s 9 = xb sec) : rdP w s p h n (o.map (fun r => (sec, r))) z := by
  constructor
  · intro e
    cases o with
    | none => exact H.1 rfl
    | some x => cases e
  · intro a e
    cases o with
    | none => cases e
    | some x =>
      cases e
      have := H.2 x rfl
      exact ⟨this.1, h9, this.2⟩
/-- the tail behind what is read of a base -/
theorem k116_c (hfm : fm = .null ∨ ∃ j, fm = .ref j) (K : KW w h n t kc) (C : cst w h n) (H : sS (gd w) h n (p 4) l) {q : List Int} (HQ : sS (gd w) h n (p 7) q) {host P P' : List Int} (HO : sS (gd w) h n (p 5) host) (HP : sS (gd w) h n (p 6) (47 :: P)) (ep : pa_dots (47 :: P) = pa_dots P') (lP : P.length ≤ 400) (h8 : 0 ≤ s 8 ∧ s 8 ≤ l.length) (hl : l.length ≤ 200) {sec : Bool} (h9 : s 9 = xb sec) {c u : Nat} : xe fm 116 (110, [(0, .ref 49)], [], (ko w s p ar v h, n, c, u)) (fun r M => ∃ z : Int, r = .inl (some (xi z)) ∧ ∃ s' p' h1 u', M.1 = ko w s' p' ar v h1 ∧ M.2.2.2 = u + u' ∧ RR [8] [7] 300 2 w s p h n t kc w s' p' h1 M.2.1 t kc u' ∧ rdP w s' p' h1 M.2.1 (if pa_q2 (lt l) l.length (pa_q1 (lt l) l.length (s 8)) = l.length then some (sec, host, s 10, P', if lt l (s 8) = 63 then pa_qy (lt l) l.length (s 8) else q) else none) z) := by
  have W0 := K.1.1
  refine xe_s (f := (111, _, _, _)) xt_g116 rfl rfl rfl rfl rfl ?_
  refine xe_cI xt_g116 rfl rfl rfl (q := 114) rfl (kc_V xk_2_103 rfl (ko_49) (by omega) rfl rfl) xt_g113 (by decide) ⟨Nat.le_of_ble_eq_true rfl, Nat.le_of_ble_eq_true rfl, Nat.le_of_ble_eq_true rfl⟩ (k113 hfm K C H HQ h8 hl) (fun z2 h2' n2 c2 u2 hq => ?_)
  obtain ⟨s2, p2, h4, rfl, R2, e2, S2⟩ := hq
  have z2r : z2 = 0 ∨ z2 = 1 := by rw [e2]; exact xb_or _
  refine xe_iret xt_g116 rfl rfl (xi_bool (by first | omega | exact xb_or _)).1 ?_
  try dsimp only
  refine ⟨z2, rfl, s2, p2, h4, u2, rfl, rfl, R2, ?_, ?_⟩
  · intro e
    rw [e2, decide_eq_false]
    · rfl
    · intro g
      rw [if_pos g] at e
      cases e
  · intro a ha
    by_cases g : pa_q2 (lt l) l.length (pa_q1 (lt l) l.length (s 8)) = l.length
    · rw [if_pos g] at ha
      cases ha
      refine ⟨by rw [e2, decide_eq_true g]; rfl, by rw [R2.2.2.1 9 (by decide)]; exact h9, ?_, R2.2.2.1 10 (by decide), ⟨P, ?_, ep, lP⟩, S2⟩
      · rw [R2.2.2.2.1 5 (by decide)]
        exact sS_kp HO R2.2.1
      · rw [R2.2.2.2.1 6 (by decide)]
        exact sS_kp HP R2.2.1
    · rw [if_neg g] at ha
      cases ha
theorem k116 (hfm : fm = .null ∨ ∃ j, fm = .ref j) (K : KW w h n t kc) (C : cst w h n) (H : sS (gd w) h n (p 4) l) (HQ : sS (gd w) h n (p 7) []) (HA : aO w h n x A) (h8 : s 8 = 0) (hl : l.length ≤ 200) (ht : (t 2).length < 8000) : xI fm 116 (ko w s p ar v h) n [.ref 49, .ref x] (fun z h' n' u' => ∃ w' s' p' h1 t' kc', h' = ko w' s' p' ar v h1 ∧ RR [8, 9, 10] [5, 6, 7] 1970 19 w s p h n t kc w' s' p' h1 n' t' kc' u' ∧ (t' 2).length < 8000 ∧ rdP w' s' p' h1 n' (pa_ref (lt l) l.length A) z) := by
  have W0 := K.1.1
  obtain ⟨fs, F1, q1, ha, l1⟩ := sS_at H
  have HA' := HA
  obtain ⟨ho, pa, qu, te, a1, a2, a3, a4, a5, a6, a7, a8, a9⟩ := HA
  obtain ⟨lp1, lp2, lp3⟩ := pa_ok_len a9
  obtain ⟨P0, eP0⟩ := a9.2.1
  have X1 := fun s1 p1 => (ko_d (w := w) (s := s1) (p := p1) (ar := ar) (v := v) a2.1).trans a1
  unfold xI pa_ref
  refine xe_s (f := (1, _, _, _)) xt_g116 rfl rfl rfl rfl rfl ?_
  refine xe_s (f := (2, _, _, _)) xt_g116 rfl rfl rfl rfl rfl ?_
  refine xe_gf xt_g116 rfl (q := 5) rfl (xf_2_106 fm) (X1 _ _) (by omega) rfl rfl ?_
  refine xe_kp_2_3 xt_g116 rfl (q := 8) rfl (xf_2_58 fm) (by omega) (by first | omega | exact xb_or _) ?_
  refine xe_s (f := (9, _, _, _)) xt_g116 rfl rfl rfl rfl rfl ?_
  refine xe_s (f := (11, _, .ref 13 :: _, _)) xt_g116 rfl rfl rfl rfl rfl ?_
  refine xe_cI xt_g116 rfl rfl rfl (q := 14) rfl (kc_V xk_2_54 rfl (ko_49) (by omega) rfl rfl) xt_g102 (by decide) ⟨Nat.le_of_ble_eq_true rfl, Nat.le_of_ble_eq_true rfl, Nat.le_of_ble_eq_true rfl⟩ (k102 (s := xo_u s 9 (xb A.1)) (t := t) (kc := kc) (l := l) (W := [47, 47]) hfm K C H (C.1 (13, [47, 47]) (by decide)) (by rw [xo_uN (by decide)]; omega)) (fun z1 h1' n1 c1 u1 hp => ?_)
  obtain ⟨h3, s1, rfl, R1, z1e, e1⟩ := hp
  rw [xo_uN (by decide), h8, sk_2] at z1e e1
  rw [z1e]
  have N1 := R1.2.1.1
  have K1 := R1.1
  have C1 := cst_kp C K.1 R1.2.1
  have H1 := sS_kp H R1.2.1
  have Q1 := sS_kp HQ R1.2.1
  have A1 := aO_kp HA' R1.2.1
  have s19 : s1 9 = xb A.1 := by rw [R1.2.2.1 9 (by decide), xo_uS]
  have RA : RR [8, 9, 10] [5, 6, 7] 20 5 w s p h n t kc w s1 p h3 n1 t kc u1 := by
    obtain ⟨x1, x2, x3, x4, x5, x6, x7, x8, x9⟩ := R1
    refine ⟨x1, x2, fun k hk => ?_, fun _ _ => rfl, x5, x6, x7, x8, by simp at x9; omega⟩
    rw [x3 k (fun e => hk (by rw [List.mem_singleton.mp e]; decide)), xo_uN (fun e => hk (by rw [e]; decide))]
  refine xe_if_eq xt_g116 rfl (t := 22) rfl (q := 17) rfl (by first | omega | exact xb_r _) (fun b14 => ?_) (fun b14 => ?_)
  · try simp only [xb_0, xb_1, ne_eq, Decidable.not_not, Bool.not_eq_false, Bool.not_eq_true, decide_eq_true_eq, decide_eq_false_iff_not] at b14
    rw [if_neg b14]
    have s18 : s1 8 = 0 := by rw [e1, decide_eq_false b14]; rfl
    have A1' := A1
    obtain ⟨ho1, pa1, qu1, te1, c1', c2', c3', c4', c5', c6', c7', c8', c9'⟩ := A1
    have X2 := fun s1 p1 => (ko_d (w := w) (s := s1) (p := p1) (ar := ar) (v := v) (h0 := h3) c2'.1).trans c1'
    obtain ⟨fs1, F2, q2, _, _⟩ := sS_at H1
    have a0 := lt_r ha 0
    refine xe_s (f := (23, _, _, _)) xt_g116 rfl rfl rfl rfl rfl ?_
    refine xe_s (f := (24, _, _, _)) xt_g116 rfl rfl rfl rfl rfl ?_
    refine xe_gf xt_g116 rfl (q := 27) rfl (xf_2_111 fm) (X2 _ _) (by omega) rfl rfl ?_
    refine xe_kp_2_4 xt_g116 rfl (q := 30) rfl (xf_2_24 fm) (by omega) ?_
    refine xe_s (f := (31, _, _, _)) xt_g116 rfl rfl rfl rfl rfl ?_
    refine xe_s (f := (32, _, _, _)) xt_g116 rfl rfl rfl rfl rfl ?_
    refine xe_gf xt_g116 rfl (q := 35) rfl (xf_2_112 fm) (X2 _ _) (by omega) rfl rfl ?_
    refine xe_kp_2_5 xt_g116 rfl (q := 38) rfl (xf_2_115 fm) (by omega) ?_
    refine xe_s (f := (39, _, _, _)) xt_g116 rfl rfl rfl rfl rfl ?_
    refine xe_cR xt_g116 rfl rfl rfl (q := 42) rfl (kc_V xk_2_93 rfl (ko_49) (by omega) rfl rfl) xt_g110 (by decide) ⟨Nat.le_of_ble_eq_true rfl, Nat.le_of_ble_eq_true rfl, Nat.le_of_ble_eq_true rfl⟩ (k110 (s := xo_u s1 10 A.2.2.1) (p := pu p 5 ho1) (l := l) hfm (by omega) H1 (by rw [xo_uN (by decide)]; omega)) ?_
    rw [xo_uN (by decide), s18]
    refine xe_s (f := (43, [(2, _), (0, _), (1, _)], _, _)) xt_g116 rfl rfl rfl rfl rfl ?_
    refine xe_s (f := (44, _, _, _)) xt_g116 rfl rfl rfl rfl rfl ?_
    refine xe_gf xt_g116 rfl (q := 47) rfl (xf_2_33 fm) (ko_49) (by omega) rfl rfl ?_
    try simp only [xo_u, pu, Nat.reduceEqDiff, reduceIte]
    rw [s18]
    refine xe_s (f := (48, _, _, _)) xt_g116 rfl rfl rfl rfl rfl ?_
    refine xe_gf xt_g116 rfl (q := 51) rfl (xf_2_20 fm) (ko_49) (by omega) rfl rfl ?_
    try simp only [xo_u, pu, Nat.reduceEqDiff, reduceIte]
    refine xe_cR xt_g116 rfl rfl rfl (q := 54) rfl (kc_V xk_2_64 rfl (F2 _ _ _ _ _) (by omega) rfl rfl) xt_g31 (by decide) ⟨Nat.le_of_ble_eq_true rfl, Nat.le_of_ble_eq_true rfl, Nat.le_of_ble_eq_true rfl⟩ (s31 (sS_ko H1)) ?_
    refine xe_ic_eq xt_g116 rfl (t := 69) rfl (q := 57) rfl (by first | omega | exact xb_r _) (by first | omega | exact xb_r _) (fun b54 => ?_) (fun b54 => ?_)
    · try simp only [xb_0, xb_1, ne_eq, Decidable.not_not, Bool.not_eq_false, Bool.not_eq_true, decide_eq_true_eq, decide_eq_false_iff_not] at b54
      have cnd : (l.length : Int) = 0 ∨ lt l 0 = 63 ∨ lt l 0 = 35 := by omega
      rw [if_pos cnd]
      refine xe_s (f := (70, _, _, _)) xt_g116 rfl rfl rfl rfl rfl ?_
      refine xe_s (f := (71, _, _, _)) xt_g116 rfl rfl rfl rfl rfl ?_
      refine xe_gf xt_g116 rfl (q := 74) rfl (xf_2_116 fm) (X2 _ _) (by omega) rfl rfl ?_
      refine xe_kp_2_6 xt_g116 rfl (q := 77) rfl (xf_2_27 fm) (by omega) ?_
      refine xe_s (f := (78, _, _, _)) xt_g116 rfl rfl rfl rfl rfl ?_
      refine xe_s (f := (79, _, _, _)) xt_g116 rfl rfl rfl rfl rfl ?_
      refine xe_gf xt_g116 rfl (q := 82) rfl (xf_2_117 fm) (X2 _ _) (by omega) rfl rfl ?_
      refine xe_kp_2_7 xt_g116 rfl (q := 85) rfl (xf_2_30 fm) (by omega) ?_
      refine xe_s (f := (110, _, _, _)) xt_g116 rfl rfl rfl rfl rfl ?_
      refine xe_mono (xe_loc (by intro q hq; simp only [List.mem_cons, List.not_mem_nil, or_false] at hq; rcases hq with rfl <;> rfl) ((k116_c (fm := fm) (w := w) (s := xo_u s1 10 A.2.2.1) (p := pu (pu (pu p 5 ho1) 6 pa1) 7 qu1) (ar := ar) (v := v) (h := h3) (l := l) (q := A.2.2.2.2) (host := A.2.1) (P := P0) (P' := A.2.2.2.1) (sec := A.1) (c := 0 + c1) (u := 0 + u1) hfm K1 C1 H1 c7' c5' (by rw [← eP0]; exact c6') (by rw [eP0]) (by rw [eP0] at lp1; simp at lp1; omega) (by rw [xo_uN (by decide)]; omega) hl (by rw [xo_uN (by decide)]; exact s19)))) (fun r M hM => ?_)
      obtain ⟨z, g1, s7, p7, h7, u7, g2, g3, g4, g5⟩ := hM
      rw [xo_uN (by decide), s18, xo_uS] at g5
      refine ⟨z, g1, w, s7, p7, h7, t, kc, g2, ?_, ht, g5⟩
      have A2 : RR [8, 9, 10] [5, 6, 7] 300 2 w s1 p h3 n1 t kc w s7 p7 h7 M.2.1 t kc u7 := by
        obtain ⟨x1, x2, x3, x4, x5, x6, x7, x8, x9⟩ := g4
        refine ⟨x1, x2, fun k hk => ?_, fun k hk => ?_, x5, x6, x7, x8, x9⟩
        · rw [x3 k (fun e => hk (by rw [List.mem_singleton.mp e]; decide)), xo_uN (fun e => hk (by rw [e]; decide))]
        · rw [x4 k (fun e => hk (by rw [List.mem_singleton.mp e]; decide)), pu_n (fun e => hk (by rw [e]; decide)), pu_n (fun e => hk (by rw [e]; decide)), pu_n (fun e => hk (by rw [e]; decide))]
      exact RR_mono (RR_trans RA A2) rfl rfl (by omega) (by omega) (by omega)
    · try simp only [xb_0, xb_1, ne_eq, Decidable.not_not, Bool.not_eq_false, Bool.not_eq_true, decide_eq_true_eq, decide_eq_false_iff_not] at b54
      refine xe_s (f := (58, _, _, _)) xt_g116 rfl rfl rfl rfl rfl ?_
      refine xe_bipush xt_g116 rfl (q := 60) rfl (by decide) (by decide) ?_
      refine xe_ic_eq xt_g116 rfl (t := 69) rfl (q := 63) rfl (by first | omega | exact xb_r _) (by first | omega | exact xb_r _) (fun b60 => ?_) (fun b60 => ?_)
      · try simp only [xb_0, xb_1, ne_eq, Decidable.not_not, Bool.not_eq_false, Bool.not_eq_true, decide_eq_true_eq, decide_eq_false_iff_not] at b60
        have cnd : (l.length : Int) = 0 ∨ lt l 0 = 63 ∨ lt l 0 = 35 := by omega
        rw [if_pos cnd]
        refine xe_s (f := (70, _, _, _)) xt_g116 rfl rfl rfl rfl rfl ?_
        refine xe_s (f := (71, _, _, _)) xt_g116 rfl rfl rfl rfl rfl ?_
        refine xe_gf xt_g116 rfl (q := 74) rfl (xf_2_116 fm) (X2 _ _) (by omega) rfl rfl ?_
        refine xe_kp_2_6 xt_g116 rfl (q := 77) rfl (xf_2_27 fm) (by omega) ?_
        refine xe_s (f := (78, _, _, _)) xt_g116 rfl rfl rfl rfl rfl ?_
        refine xe_s (f := (79, _, _, _)) xt_g116 rfl rfl rfl rfl rfl ?_
        refine xe_gf xt_g116 rfl (q := 82) rfl (xf_2_117 fm) (X2 _ _) (by omega) rfl rfl ?_
        refine xe_kp_2_7 xt_g116 rfl (q := 85) rfl (xf_2_30 fm) (by omega) ?_
        refine xe_s (f := (110, _, _, _)) xt_g116 rfl rfl rfl rfl rfl ?_
        refine xe_mono (xe_loc (by intro q hq; simp only [List.mem_cons, List.not_mem_nil, or_false] at hq; rcases hq with rfl <;> rfl) ((k116_c (fm := fm) (w := w) (s := xo_u s1 10 A.2.2.1) (p := pu (pu (pu p 5 ho1) 6 pa1) 7 qu1) (ar := ar) (v := v) (h := h3) (l := l) (q := A.2.2.2.2) (host := A.2.1) (P := P0) (P' := A.2.2.2.1) (sec := A.1) (c := 0 + c1) (u := 0 + u1) hfm K1 C1 H1 c7' c5' (by rw [← eP0]; exact c6') (by rw [eP0]) (by rw [eP0] at lp1; simp at lp1; omega) (by rw [xo_uN (by decide)]; omega) hl (by rw [xo_uN (by decide)]; exact s19)))) (fun r M hM => ?_)
        obtain ⟨z, g1, s7, p7, h7, u7, g2, g3, g4, g5⟩ := hM
        rw [xo_uN (by decide), s18, xo_uS] at g5
        refine ⟨z, g1, w, s7, p7, h7, t, kc, g2, ?_, ht, g5⟩
        have A2 : RR [8, 9, 10] [5, 6, 7] 300 2 w s1 p h3 n1 t kc w s7 p7 h7 M.2.1 t kc u7 := by
          obtain ⟨x1, x2, x3, x4, x5, x6, x7, x8, x9⟩ := g4
          refine ⟨x1, x2, fun k hk => ?_, fun k hk => ?_, x5, x6, x7, x8, x9⟩
          · rw [x3 k (fun e => hk (by rw [List.mem_singleton.mp e]; decide)), xo_uN (fun e => hk (by rw [e]; decide))]
          · rw [x4 k (fun e => hk (by rw [List.mem_singleton.mp e]; decide)), pu_n (fun e => hk (by rw [e]; decide)), pu_n (fun e => hk (by rw [e]; decide)), pu_n (fun e => hk (by rw [e]; decide))]
        exact RR_mono (RR_trans RA A2) rfl rfl (by omega) (by omega) (by omega)
      · try simp only [xb_0, xb_1, ne_eq, Decidable.not_not, Bool.not_eq_false, Bool.not_eq_true, decide_eq_true_eq, decide_eq_false_iff_not] at b60
        refine xe_s (f := (64, _, _, _)) xt_g116 rfl rfl rfl rfl rfl ?_
        refine xe_bipush xt_g116 rfl (q := 66) rfl (by decide) (by decide) ?_
        refine xe_ic_ne xt_g116 rfl (t := 88) rfl (q := 69) rfl (by first | omega | exact xb_r _) (by first | omega | exact xb_r _) (fun b66 => ?_) (fun b66 => ?_)
        · try simp only [xb_0, xb_1, ne_eq, Decidable.not_not, Bool.not_eq_false, Bool.not_eq_true, decide_eq_true_eq, decide_eq_false_iff_not] at b66
          have ncnd : ¬ ((l.length : Int) = 0 ∨ lt l 0 = 63 ∨ lt l 0 = 35) := by omega
          rw [if_neg ncnd, Int.toNat_natCast]
          have cr := xd_cnt_r (p := xd_pth) (t := lt l) l.length 0
          have hnc : ∀ (w3 : kW) (s3 : Nat → Int) (p3 : Nat → Nat) (h5 : xm_H) (n3 : Nat) (t3 : Nat → List Int) (kc3 : Nat → Nat) (u3 c3 : Nat) (P : List Int), RR [8] [6] 1150 9 w (xo_u s1 10 A.2.2.1) (pu p 5 ho1) h3 n1 t kc w3 s3 p3 h5 n3 t3 kc3 u3 → (t3 2).length ≤ 400 → s3 8 = xd_cnt xd_pth (lt l) l.length 0 → sS (gd w3) h5 n3 (p3 6) (47 :: P) → 47 :: P = (if lt l 0 = 47 then [] else pa_fold A.2.2.2.1) ++ pa_sl (lt l) 0 (xd_cnt xd_pth (lt l) l.length 0) → P.length ≤ 400 →
              xe fm 116 (110, [(0, .ref 49)], [], (ko w3 s3 p3 ar v h5, n3, c3, 0 + u1 + u3)) (fun r M => ∃ z : Int, r = .inl (some (xi z)) ∧ ∃ w' s' p' h1 t' kc', M.1 = ko w' s' p' ar v h1 ∧ RR [8, 9, 10] [5, 6, 7] 1970 19 w s p h n t kc w' s' p' h1 M.2.1 t' kc' M.2.2.2 ∧ (t' 2).length < 8000 ∧ rdP w' s' p' h1 M.2.1 (if pa_q2 (lt l) l.length (pa_q1 (lt l) l.length (xd_cnt xd_pth (lt l) l.length 0)) = l.length then some (A.1, A.2.1, A.2.2.1, (if lt l 0 = 47 then [] else pa_fold A.2.2.2.1) ++ pa_sl (lt l) 0 (xd_cnt xd_pth (lt l) l.length 0), pa_qy (lt l) l.length (xd_cnt xd_pth (lt l) l.length 0)) else none) z) := by
            intro w3 s3 p3 h5 n3 t3 kc3 u3 c3 P R3 t3l e3 S3 eP lP
            have H3 : sS (gd w3) h5 n3 (p3 4) l := by rw [R3.2.2.2.1 4 (by decide)]; exact sS_kp H1 R3.2.1
            have Q3 : sS (gd w3) h5 n3 (p3 7) [] := by rw [R3.2.2.2.1 7 (by decide)]; exact sS_kp Q1 R3.2.1
            have O3 : sS (gd w3) h5 n3 (p3 5) A.2.1 := by rw [R3.2.2.2.1 5 (by decide)]; exact sS_kp c5' R3.2.1
            refine xe_mono (k116_c (fm := fm) (w := w3) (s := s3) (p := p3) (ar := ar) (v := v) (h := h5) (l := l) (q := []) (host := A.2.1) (P := P) (P' := (if lt l 0 = 47 then [] else pa_fold A.2.2.2.1) ++ pa_sl (lt l) 0 (xd_cnt xd_pth (lt l) l.length 0)) (sec := A.1) hfm R3.1 (cst_kp C1 K1.1 R3.2.1) H3 Q3 O3 S3 (by rw [eP]) lP (by omega) hl (by rw [R3.2.2.1 9 (by decide), xo_uN (by decide)]; exact s19)) (fun r M hM => ?_)
            obtain ⟨z, g1, s7, p7, h7, u7, g2, g3, g4, g5⟩ := hM
            rw [e3, R3.2.2.1 10 (by decide), xo_uS] at g5
            have qe : (if lt l (xd_cnt xd_pth (lt l) l.length 0) = 63 then pa_qy (lt l) l.length (xd_cnt xd_pth (lt l) l.length 0) else []) = pa_qy (lt l) l.length (xd_cnt xd_pth (lt l) l.length 0) := by
              by_cases y : lt l (xd_cnt xd_pth (lt l) l.length 0) = 63
              · rw [if_pos y]
              · rw [if_neg y]
                unfold pa_qy pa_q1
                rw [if_neg y, pa_sl_nil (Int.le_refl _)]
            rw [qe] at g5
            refine ⟨z, g1, w3, s7, p7, h7, t3, kc3, g2, ?_, by omega, g5⟩
            have A2 : RR [8, 9, 10] [5, 6, 7] 1150 9 w s1 p h3 n1 t kc w3 s3 p3 h5 n3 t3 kc3 u3 := by
              obtain ⟨x1, x2, x3, x4, x5, x6, x7, x8, x9⟩ := R3
              refine ⟨x1, x2, fun k hk => ?_, fun k hk => ?_, x5, x6, x7, x8, x9⟩
              · rw [x3 k (fun e => hk (by rw [List.mem_singleton.mp e]; decide)), xo_uN (fun e => hk (by rw [e]; decide))]
              · rw [x4 k (fun e => hk (by rw [List.mem_singleton.mp e]; decide)), pu_n (fun e => hk (by rw [e]; decide))]
            exact RR_mono (RR_trans (RR_trans RA A2) (RR_mono g4 (S' := [8, 9, 10]) (Q' := [5, 6, 7]) rfl rfl (Nat.le_refl _) (Nat.le_refl _) (Nat.le_refl _))) rfl rfl (by omega) (by omega) (by omega)
          have s1z : (xo_u s1 10 A.2.2.1) 8 = 0 := by rw [xo_uN (by decide)]; exact s18
          refine xe_s (f := (89, _, _, _)) xt_g116 rfl rfl rfl rfl rfl ?_
          refine xe_s (f := (90, _, _, _)) xt_g116 rfl rfl rfl rfl rfl ?_
          refine xe_bipush xt_g116 rfl (q := 92) rfl (by decide) (by decide) ?_
          refine xe_ic_ne xt_g116 rfl (t := 100) rfl (q := 95) rfl (by first | omega | exact xb_r _) (by first | omega | exact xb_r _) (fun b92 => ?_) (fun b92 => ?_)
          · try simp only [xb_0, xb_1, ne_eq, Decidable.not_not, Bool.not_eq_false, Bool.not_eq_true, decide_eq_true_eq, decide_eq_false_iff_not] at b92
            refine xe_s (f := (101, _, _, _)) xt_g116 rfl rfl rfl rfl rfl ?_
            refine xe_gf xt_g116 rfl (q := 104) rfl (xf_2_116 fm) (X2 _ _) (by omega) rfl rfl ?_
            refine xe_cA xt_g116 rfl rfl rfl (q := 107) rfl (kc_S xk_2_118 (Nat.le_of_ble_eq_true rfl)) xt_g117 (by decide) ⟨Nat.le_of_ble_eq_true rfl, Nat.le_of_ble_eq_true rfl, Nat.le_of_ble_eq_true rfl⟩ (s117 (F := gd w) hfm (by omega) (sS_ko (C1.1 (1, []) (by decide))) (sS_ko c6')) (fun x4 h4' n4 c4 u4 hr => ?_)
            obtain ⟨h5, rfl, k5, S5⟩ := ko_lift K1.1 hr.2.1
            have S5 := S5 _ _ hr.1
            have N5 := k5.1
            obtain ⟨n4', u4'⟩ := hr.2.2
            obtain ⟨P1, eP1, lP1⟩ := pa_fold_hd (q := P0)
            rw [eP0] at lp1 u4'
            simp only [List.length_cons] at lp1 u4'
            refine xe_cN xt_g116 rfl rfl rfl (q := 110) rfl (kc_V xk_2_97 rfl (ko_49) (by omega) rfl rfl) xt_g111 (by decide) ⟨Nat.le_of_ble_eq_true rfl, Nat.le_of_ble_eq_true rfl, Nat.le_of_ble_eq_true rfl⟩ (k111 (s := xo_u s1 10 A.2.2.1) (p := pu p 5 ho1) hfm (KW_ke K1 k5) (cst_kp C1 K1.1 (ke_kp k5)) (sS_ke H1 k5) S5 (by omega) hl (by rw [eP0, eP1]; simp only [List.length_cons]; omega) ht) (fun h6' n6 c6 u6 hs => ?_)
            obtain ⟨w6, s6, p6, h6, t6, kc6, rfl, R6, t6l, e6, S6⟩ := hs
            rw [s1z, Int.zero_add, Int.sub_zero, Int.toNat_natCast] at e6 S6
            rw [eP0, eP1, List.cons_append] at S6
            have A5 : RR [8] [6] 1150 9 w (xo_u s1 10 A.2.2.1) (pu p 5 ho1) h3 n1 t kc w6 s6 p6 h6 n6 t6 kc6 (u4 + u6) := RR_mono (RR_trans (RR_ke (S := [8]) (Q := [6]) (s := xo_u s1 10 A.2.2.1) (p := pu p 5 ho1) (s' := xo_u s1 10 A.2.2.1) (p' := pu p 5 ho1) (B := 150) (C := 2) (u' := u4) K1 k5 (fun _ _ => rfl) (fun _ _ => rfl) n4' (by omega)) R6) rfl rfl (by omega) (by omega) (Nat.le_refl _)
            have g := hnc w6 s6 p6 h6 n6 t6 kc6 (u4 + u6) (0 + c1 + c4 + c6) _ A5 t6l e6 S6 (by rw [if_neg b92, eP0, eP1]; rfl) (by rw [List.length_append, pa_sl_len]; omega)
            rw [show 0 + u1 + (u4 + u6) = 0 + u1 + u4 + u6 by omega] at g
            exact xe_loc (by intro q hq; simp only [List.mem_cons, List.not_mem_nil, or_false] at hq; rcases hq with rfl <;> rfl) (g)
          · try simp only [xb_0, xb_1, ne_eq, Decidable.not_not, Bool.not_eq_false, Bool.not_eq_true, decide_eq_true_eq, decide_eq_false_iff_not] at b92
            refine xe_s (f := (97, _, .ref 1 :: _, _)) xt_g116 rfl rfl rfl rfl rfl ?_
            refine xe_s (f := (107, _, _, _)) xt_g116 rfl rfl rfl rfl rfl ?_
            have cp := cnt_pos (q := xd_pth) (t := lt l) (N := l.length) (k := 0) (by rw [b92]; decide) (by omega)
            obtain ⟨P2, eP2, lP2⟩ := pa_sl_hd (t := lt l) (a := 0) (b := xd_cnt xd_pth (lt l) l.length 0) b92 cp
            refine xe_cN xt_g116 rfl rfl rfl (q := 110) rfl (kc_V xk_2_97 rfl (ko_49) (by omega) rfl rfl) xt_g111 (by decide) ⟨Nat.le_of_ble_eq_true rfl, Nat.le_of_ble_eq_true rfl, Nat.le_of_ble_eq_true rfl⟩ (k111 (s := xo_u s1 10 A.2.2.1) (p := pu p 5 ho1) hfm K1 C1 H1 (C1.1 (1, []) (by decide)) (by omega) hl (by decide) ht) (fun h6' n6 c6 u6 hs => ?_)
            obtain ⟨w6, s6, p6, h6, t6, kc6, rfl, R6, t6l, e6, S6⟩ := hs
            rw [s1z, Int.zero_add, Int.sub_zero, Int.toNat_natCast] at e6 S6
            rw [List.nil_append, eP2] at S6
            have g := hnc w6 s6 p6 h6 n6 t6 kc6 u6 (0 + c1 + c6) P2 (RR_mono R6 rfl rfl (by omega) (by omega) (Nat.le_refl _)) t6l e6 S6 (by rw [if_pos b92, eP2]; rfl) (by omega)
            exact xe_loc (by intro q hq; simp only [List.mem_cons, List.not_mem_nil, or_false] at hq; rcases hq with rfl <;> rfl) (g)
        · try simp only [xb_0, xb_1, ne_eq, Decidable.not_not, Bool.not_eq_false, Bool.not_eq_true, decide_eq_true_eq, decide_eq_false_iff_not] at b66
          have cnd : (l.length : Int) = 0 ∨ lt l 0 = 63 ∨ lt l 0 = 35 := by omega
          rw [if_pos cnd]
          refine xe_s (f := (70, _, _, _)) xt_g116 rfl rfl rfl rfl rfl ?_
          refine xe_s (f := (71, _, _, _)) xt_g116 rfl rfl rfl rfl rfl ?_
          refine xe_gf xt_g116 rfl (q := 74) rfl (xf_2_116 fm) (X2 _ _) (by omega) rfl rfl ?_
          refine xe_kp_2_6 xt_g116 rfl (q := 77) rfl (xf_2_27 fm) (by omega) ?_
          refine xe_s (f := (78, _, _, _)) xt_g116 rfl rfl rfl rfl rfl ?_
          refine xe_s (f := (79, _, _, _)) xt_g116 rfl rfl rfl rfl rfl ?_
          refine xe_gf xt_g116 rfl (q := 82) rfl (xf_2_117 fm) (X2 _ _) (by omega) rfl rfl ?_
          refine xe_kp_2_7 xt_g116 rfl (q := 85) rfl (xf_2_30 fm) (by omega) ?_
          refine xe_s (f := (110, _, _, _)) xt_g116 rfl rfl rfl rfl rfl ?_
          refine xe_mono (xe_loc (by intro q hq; simp only [List.mem_cons, List.not_mem_nil, or_false] at hq; rcases hq with rfl <;> rfl) ((k116_c (fm := fm) (w := w) (s := xo_u s1 10 A.2.2.1) (p := pu (pu (pu p 5 ho1) 6 pa1) 7 qu1) (ar := ar) (v := v) (h := h3) (l := l) (q := A.2.2.2.2) (host := A.2.1) (P := P0) (P' := A.2.2.2.1) (sec := A.1) (c := 0 + c1) (u := 0 + u1) hfm K1 C1 H1 c7' c5' (by rw [← eP0]; exact c6') (by rw [eP0]) (by rw [eP0] at lp1; simp at lp1; omega) (by rw [xo_uN (by decide)]; omega) hl (by rw [xo_uN (by decide)]; exact s19)))) (fun r M hM => ?_)
          obtain ⟨z, g1, s7, p7, h7, u7, g2, g3, g4, g5⟩ := hM
          rw [xo_uN (by decide), s18, xo_uS] at g5
          refine ⟨z, g1, w, s7, p7, h7, t, kc, g2, ?_, ht, g5⟩
          have A2 : RR [8, 9, 10] [5, 6, 7] 300 2 w s1 p h3 n1 t kc w s7 p7 h7 M.2.1 t kc u7 := by
            obtain ⟨x1, x2, x3, x4, x5, x6, x7, x8, x9⟩ := g4
            refine ⟨x1, x2, fun k hk => ?_, fun k hk => ?_, x5, x6, x7, x8, x9⟩
            · rw [x3 k (fun e => hk (by rw [List.mem_singleton.mp e]; decide)), xo_uN (fun e => hk (by rw [e]; decide))]
            · rw [x4 k (fun e => hk (by rw [List.mem_singleton.mp e]; decide)), pu_n (fun e => hk (by rw [e]; decide)), pu_n (fun e => hk (by rw [e]; decide)), pu_n (fun e => hk (by rw [e]; decide))]
          exact RR_mono (RR_trans RA A2) rfl rfl (by omega) (by omega) (by omega)
  · try simp only [xb_0, xb_1, ne_eq, Decidable.not_not, Bool.not_eq_false, Bool.not_eq_true, decide_eq_true_eq, decide_eq_false_iff_not] at b14
    have ll : ¬ (l.length : Int) ≤ 1 := fun g => by have := b14.2; rw [lt_out g] at this; omega
    rw [if_pos b14]
    have s18 : s1 8 = 2 := by rw [e1, decide_eq_true b14]; rfl
    refine xe_s (f := (18, _, _, _)) xt_g116 rfl rfl rfl rfl rfl ?_
    refine xe_cI xt_g116 rfl rfl rfl (q := 21) rfl (kc_V xk_2_41 rfl (ko_49) (by omega) rfl rfl) xt_g107 (by decide) ⟨Nat.le_of_ble_eq_true rfl, Nat.le_of_ble_eq_true rfl, Nat.le_of_ble_eq_true rfl⟩ (k107 (l := l) hfm K1 C1 H1 Q1 (by omega) hl ht s19) (fun z2 h2' n2 c2 u2 hq => ?_)
    obtain ⟨w2, s2, p2, h4, t2, kc2, rfl, R2, t2l, O2⟩ := hq
    rw [s18] at O2
    have z2r := rdO_z O2
    refine xe_iret xt_g116 rfl rfl (xi_bool (by first | omega | exact xb_or _)).1 ?_
    try dsimp only
    exact ⟨z2, rfl, w2, s2, p2, h4, t2, kc2, rfl, RR_mono (RR_trans RA (RR_mono R2 (S' := [8, 9, 10]) (Q' := [5, 6, 7]) rfl rfl (Nat.le_refl _) (Nat.le_refl _) (Nat.le_refl _))) rfl rfl (by omega) (by omega) (by omega), t2l, rdO_P O2 (by rw [R2.2.2.1 9 (by decide)]; exact s19)⟩
end XB6
