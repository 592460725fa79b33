/-! the reader of addresses: from the host on -/
section XB5
variable {fm : Value} {w w' w1 w2 : kW} {s s' s1 s2 : Nat → Int} {p p' p1 p2 : Nat → Nat} {ar : Nat → Nat → Option Nat} {v : Nat → Int} {h h' h1 h2 : xm_H} {n n' n1 n2 r k k' u' u1 u2 : Nat} {l L W A : List Int} {t t' t1 t2 : Nat → List Int} {kc kc' kc1 kc2 : Nat → Nat}
/-- the fields of the reader hold an address whose dots are still there -/
def rdA (w : kW) (s : Nat → Int) (p : Nat → Nat) (h : xm_H) (n : Nat) (x : List Int × Int × List Int × List Int) : Prop := sS (gd w) h n (p 5) x.1 ∧ s 10 = x.2.1 ∧ (∃ P, sS (gd w) h n (p 6) (47 :: P) ∧ pa_dots (47 :: P) = pa_dots x.2.2.1 ∧ P.length ≤ 400) ∧ sS (gd w) h n (p 7) x.2.2.2
def rdO (w : kW) (s : Nat → Int) (p : Nat → Nat) (h : xm_H) (n : Nat) (o : Option (List Int × Int × List Int × List Int)) (z : Int) : Prop := (o = none → z = 0) ∧ ∀ x, o = some x → z = 1 ∧ rdA w s p h n x
theorem pa_dots_nil : pa_dots [] = pa_dots [47] := by decide
theorem pa_sl_hd {t : Int → Int} {a b c : Int} (h : t a = c) (hab : a < b) : ∃ P, pa_sl t a b = c :: P ∧ P.length = (b - (a + 1)).toNat := by
  refine ⟨pa_sl t (a + 1) b, ?_, pa_sl_len⟩
  rw [pa_sl_c hab, h]
theorem cnt_pos {q : Int → Bool} {t : Int → Int} {N : Nat} {k : Int} (h : q (t k) = true) (hN : 0 < N) : 0 < xd_cnt q t N k := by
  obtain ⟨M, rfl⟩ : ∃ M, N = M + 1 := ⟨N - 1, by omega⟩
  show 0 < if q (t k) = true then 1 + xd_cnt q t M (k + 1) else 0
  rw [if_pos h]
  have := (xd_cnt_r (p := q) (t := t) M (k + 1)).1
  omega
theorem hE_of {t : Int → Int} {E k : Int} {F : Nat} {lb : Int} : ((xd_hs t E F lb k).2 = true → hE t E F lb k = (xd_hs t E F lb k).1) ∧ ((xd_hs t E F lb k).2 = false → hE t E F lb k = -1) := by
  unfold hE
  constructor
  · intro e
    rw [if_pos e]
  · intro e
    rw [if_neg (by rw [e]; decide)]
theorem port_b {sec : Bool} {k x k2 : Int} (h0 : 0 ≤ k) (hk : k ≤ l.length) (h : pa_port (lt l) sec k = some (x, k2)) : k ≤ k2 ∧ k2 ≤ l.length := by
  unfold pa_port at h
  by_cases e : lt l k = 58
  · rw [if_pos e] at h
    by_cases g : pa_pd (lt l) (k + 1) < 1 ∨ 5 < pa_pd (lt l) (k + 1) ∨ pa_num (lt l) 6 (k + 1) 0 < 1 ∨ 65535 < pa_num (lt l) 6 (k + 1) 0
    · rw [if_pos g] at h
      cases h
    · rw [if_neg g] at h
      have h2 : k + 1 + pa_pd (lt l) (k + 1) = k2 := (Prod.mk.inj (Option.some.inj h)).2
      refine ⟨by omega, ?_⟩
      by_cases b : k2 ≤ l.length
      · exact b
      · exfalso
        have kl : k < l.length := by
          by_cases c : k < l.length
          · exact c
          · rw [lt_out (by omega)] at e
            omega
        have := xd_cnt_p (p := xd_dig) (t := lt l) 6 (k + 1) l.length (by omega) (by unfold pa_pd at h2; omega)
        rw [lt_out (Int.le_refl _)] at this
        exact absurd this (by decide)
  · rw [if_neg e] at h
    have h2 : k = k2 := (Prod.mk.inj (Option.some.inj h)).2
    omega
theorem k107_b (hfm : fm = .null ∨ ∃ j, fm = .ref j) (K : KW w h n t kc) (C : cst w h n) (H : sS (gd w) h n (p 4) l) (HQ : sS (gd w) h n (p 7) []) {host : List Int} (HO : sS (gd w) h n (p 5) host) (h8 : 0 ≤ s 8 ∧ s 8 ≤ l.length) (hl : l.length ≤ 200) (ht : (t 2).length < 8000) {c u : Nat} : xe fm 107 (52, [(0, .ref 49)], [], (ko w s p ar v h, n, c, u)) (fun r M => ∃ z : Int, r = .inl (some (xi z)) ∧ ∃ w' s' p' h1 t' kc' u', M.1 = ko w' s' p' ar v h1 ∧ M.2.2.2 = u + u' ∧ RR [8] [6, 7] 1300 9 w s p h n t kc w' s' p' h1 M.2.1 t' kc' u' ∧ (t' 2).length < 8000 ∧ rdO w' s' p' h1 M.2.1 (if pa_q2 (lt l) l.length (pa_q1 (lt l) l.length (pa_p1 (lt l) l.length (s 8))) = l.length then some (host, s 10, pa_sl (lt l) (s 8) (pa_p1 (lt l) l.length (s 8)), pa_qy (lt l) l.length (pa_p1 (lt l) l.length (s 8))) else none) z) := by
  have W0 := K.1.1
  obtain ⟨fs, F1, q1, ha, l1⟩ := sS_at H
  have a1 := lt_r ha (s 8)
  refine xe_s (f := (53, _, _, _)) xt_g107 rfl rfl rfl rfl rfl ?_
  refine xe_cR xt_g107 rfl rfl rfl (q := 56) rfl (kc_V xk_2_93 rfl (ko_49) (by omega) rfl rfl) xt_g110 (by decide) ⟨Nat.le_of_ble_eq_true rfl, Nat.le_of_ble_eq_true rfl, Nat.le_of_ble_eq_true rfl⟩ (k110 (l := l) hfm (by omega) H (by omega)) ?_
  refine xe_bipush xt_g107 rfl (q := 58) rfl (by decide) (by decide) ?_
  refine xe_ic_ne xt_g107 rfl (t := 70) rfl (q := 61) rfl (by first | omega | exact xb_r _) (by first | omega | exact xb_r _) (fun b58 => ?_) (fun b58 => ?_)
  · try simp only [xb_0, xb_1, ne_eq, Decidable.not_not, Bool.not_eq_false, Bool.not_eq_true, decide_eq_true_eq, decide_eq_false_iff_not] at b58
    refine xe_s (f := (71, _, _, _)) xt_g107 rfl rfl rfl rfl rfl ?_
    refine xe_s (f := (73, _, .ref 11 :: _, _)) xt_g107 rfl rfl rfl rfl rfl ?_
    refine xe_kp_2_6 xt_g107 rfl (q := 76) rfl (xf_2_27 fm) (by omega) ?_
    have p1e : pa_p1 (lt l) l.length (s 8) = s 8 := by unfold pa_p1; rw [if_neg b58]
    refine xe_s (f := (77, _, _, _)) xt_g107 rfl rfl rfl rfl rfl ?_
    refine xe_cI xt_g107 rfl rfl rfl (q := 80) rfl (kc_V xk_2_103 rfl (ko_49) (by omega) rfl rfl) xt_g113 (by decide) ⟨Nat.le_of_ble_eq_true rfl, Nat.le_of_ble_eq_true rfl, Nat.le_of_ble_eq_true rfl⟩ (k113 (s := s) (p := pu p 6 11) (l := l) (W := []) hfm K C H HQ h8 hl) (fun z2 h2' n2 c2 u2 hq => ?_)
    obtain ⟨s2, p2, h4, rfl, R2, e2, S2⟩ := hq
    have z2r : z2 = 0 ∨ z2 = 1 := by rw [e2]; exact xb_or _
    refine xe_iret xt_g107 rfl rfl (xi_bool (by first | omega | exact xb_or _)).1 ?_
    try dsimp only
    refine ⟨z2, rfl, w, s2, p2, h4, t, kc, u2, rfl, rfl, ?_, ht, ?_, ?_⟩
    · obtain ⟨a1, a2, a3, a4, a5, a6, a7, a8, a9⟩ := R2
      refine ⟨a1, a2, a3, fun k hk => ?_, a5, a6, a7, by omega, by omega⟩
      rw [a4 k (fun e => hk (by rw [List.mem_singleton.mp e]; decide)), pu_n (fun e => hk (by rw [e]; decide))]
    · intro e
      rw [e2, decide_eq_false]
      · rfl
      · intro g
        rw [p1e, if_pos g] at e
        cases e
    · intro x hx
      rw [p1e] at hx
      by_cases g : pa_q2 (lt l) l.length (pa_q1 (lt l) l.length (s 8)) = l.length
      · rw [if_pos g] at hx
        cases hx
        refine ⟨by rw [e2, decide_eq_true g]; rfl, ?_, ?_, ⟨[], ?_, ?_, ?_⟩, ?_⟩
        · rw [R2.2.2.2.1 5 (by decide)]
          exact sS_kp HO R2.2.1
        · exact R2.2.2.1 10 (by decide)
        · rw [R2.2.2.2.1 6 (by decide)]
          exact sS_kp (C.1 (11, [47]) (by decide)) R2.2.1
        · dsimp only
          rw [pa_sl_nil (Int.le_refl _), pa_dots_nil]
        · exact Nat.zero_le _
        · dsimp only
          by_cases y : lt l (s 8) = 63
          · rw [if_pos y] at S2; exact S2
          · rw [if_neg y] at S2
            unfold pa_qy pa_q1
            rw [if_neg y, pa_sl_nil (Int.le_refl _)]
            exact S2
      · rw [if_neg g] at hx
        cases hx
  · try simp only [xb_0, xb_1, ne_eq, Decidable.not_not, Bool.not_eq_false, Bool.not_eq_true, decide_eq_true_eq, decide_eq_false_iff_not] at b58
    refine xe_s (f := (62, _, _, _)) xt_g107 rfl rfl rfl rfl rfl ?_
    refine xe_s (f := (64, _, .ref 1 :: _, _)) xt_g107 rfl rfl rfl rfl rfl ?_
    refine xe_cN xt_g107 rfl rfl rfl (q := 67) rfl (kc_V xk_2_97 rfl (ko_49) (by omega) rfl rfl) xt_g111 (by decide) ⟨Nat.le_of_ble_eq_true rfl, Nat.le_of_ble_eq_true rfl, Nat.le_of_ble_eq_true rfl⟩ (k111 hfm K C H (C.1 (1, []) (by decide)) h8 hl (by decide) ht) (fun h1' n1 c1 u1 hp => ?_)
    obtain ⟨w1, s1, p1, h3, t1, kc1, rfl, R1, t1l, e1, S1⟩ := hp
    have N1 := R1.2.1.1
    have p1e : pa_p1 (lt l) l.length (s 8) = s1 8 := by unfold pa_p1; rw [if_pos b58, e1]
    rw [← e1, List.nil_append] at S1
    have cr := xd_cnt_r (p := xd_pth) (t := lt l) ((l.length : Int) - s 8).toNat (s 8)
    have H1 : sS (gd w1) h3 n1 (p1 4) l := by rw [R1.2.2.2.1 4 (by decide)]; exact sS_kp H R1.2.1
    have Q1 : sS (gd w1) h3 n1 (p1 7) [] := by rw [R1.2.2.2.1 7 (by decide)]; exact sS_kp HQ R1.2.1
    refine xe_s (f := (76, _, _, _)) xt_g107 rfl rfl rfl rfl rfl ?_
    have s8l : s 8 < l.length := by
      by_cases g : s 8 < l.length
      · exact g
      · rw [lt_out (by omega)] at b58; omega
    have cp := cnt_pos (q := xd_pth) (t := lt l) (N := ((l.length : Int) - s 8).toNat) (k := s 8) (by rw [b58]; decide) (by omega)
    refine xe_s (f := (77, _, _, _)) xt_g107 rfl rfl rfl rfl rfl ?_
    refine xe_cI xt_g107 rfl rfl rfl (q := 80) rfl (kc_V xk_2_103 rfl (ko_49) (by omega) rfl rfl) xt_g113 (by decide) ⟨Nat.le_of_ble_eq_true rfl, Nat.le_of_ble_eq_true rfl, Nat.le_of_ble_eq_true rfl⟩ (k113 hfm R1.1 (cst_kp C K.1 R1.2.1) H1 Q1 (by omega) hl) (fun z2 h2' n2 c2 u2 hq => ?_)
    obtain ⟨s2, p2, h4, rfl, R2, e2, S2⟩ := hq
    have z2r : z2 = 0 ∨ z2 = 1 := by rw [e2]; exact xb_or _
    refine xe_iret xt_g107 rfl rfl (xi_bool (by first | omega | exact xb_or _)).1 ?_
    try dsimp only
    refine ⟨z2, rfl, w1, s2, p2, h4, t1, kc1, u1 + u2, rfl, by omega, ?_, by omega, ?_, ?_⟩
    · exact RR_mono (RR_trans (RR_mono R1 (S' := [8]) (Q' := [6, 7]) rfl rfl (Nat.le_refl _) (Nat.le_refl _) (Nat.le_refl _)) (RR_mono R2 (S' := [8]) (Q' := [6, 7]) rfl rfl (Nat.le_refl _) (Nat.le_refl _) (Nat.le_refl _))) rfl rfl (Nat.le_refl _) (Nat.le_refl _) (Nat.le_refl _)
    · intro e
      rw [e2, ← p1e, decide_eq_false]
      · rfl
      · intro g
        rw [if_pos g] at e
        cases e
    · intro x hx
      by_cases g : pa_q2 (lt l) l.length (pa_q1 (lt l) l.length (pa_p1 (lt l) l.length (s 8))) = l.length
      · rw [if_pos g] at hx
        cases hx
        obtain ⟨P, eP, lP⟩ := pa_sl_hd b58 (show s 8 < s1 8 by omega)
        refine ⟨by rw [e2, ← p1e, decide_eq_true g]; rfl, ?_, ?_, ⟨P, ?_, ?_, ?_⟩, ?_⟩
        · rw [R2.2.2.2.1 5 (by decide), R1.2.2.2.1 5 (by decide)]
          exact sS_kp (sS_kp HO R1.2.1) R2.2.1
        · rw [R2.2.2.1 10 (by decide), R1.2.2.1 10 (by decide)]
        · rw [R2.2.2.2.1 6 (by decide), ← eP]
          exact sS_kp S1 R2.2.1
        · dsimp only
          rw [p1e, eP]
        · omega
        · dsimp only
          rw [p1e]
          by_cases y : lt l (s1 8) = 63
          · rw [if_pos y] at S2; exact S2
          · rw [if_neg y] at S2
            unfold pa_qy pa_q1
            rw [if_neg y, pa_sl_nil (Int.le_refl _)]
            exact S2
      · rw [if_neg g] at hx
        cases hx
theorem k107 (hfm : fm = .null ∨ ∃ j, fm = .ref j) (K : KW w h n t kc) (C : cst w h n) (H : sS (gd w) h n (p 4) l) (HQ : sS (gd w) h n (p 7) []) (h8 : 0 ≤ s 8 ∧ s 8 ≤ l.length) (hl : l.length ≤ 200) (ht : (t 2).length < 8000) {sec : Bool} (h9 : s 9 = xb sec) : xI fm 107 (ko w s p ar v h) n [.ref 49] (fun z h' n' u' => ∃ w' s' p' h1 t' kc', h' = ko w' s' p' ar v h1 ∧ RR [8, 10] [5, 6, 7] 1950 14 w s p h n t kc w' s' p' h1 n' t' kc' u' ∧ (t' 2).length < 8000 ∧ rdO w' s' p' h1 n' (pa_from (lt l) l.length sec (s 8)) z) := by
  have W0 := K.1.1
  obtain ⟨fs, F1, q1, ha, l1⟩ := sS_at H
  have out : ∀ j : Int, (l.length : Int) ≤ j → lt l j = 0 := fun j hj => lt_out hj
  have hb := xd_hs_b out 7 0 (s 8) h8.2
  obtain ⟨E1, E2⟩ := hE_of (t := lt l) (E := l.length) (k := s 8) (F := 7) (lb := 0)
  have er : hE (lt l) l.length 7 0 (s 8) = -1 ∨ hE (lt l) l.length 7 0 (s 8) = (xd_hs (lt l) l.length 7 0 (s 8)).1 := by
    unfold hE
    split <;> omega
  unfold xI
  refine xe_s (f := (1, _, _, _)) xt_g107 rfl rfl rfl rfl rfl ?_
  refine xe_gf xt_g107 rfl (q := 4) rfl (xf_2_20 fm) (ko_49) (by omega) rfl rfl ?_
  refine xe_s (f := (5, _, _, _)) xt_g107 rfl rfl rfl rfl rfl ?_
  refine xe_gf xt_g107 rfl (q := 8) rfl (xf_2_33 fm) (ko_49) (by omega) rfl rfl ?_
  refine xe_cR xt_g107 rfl rfl rfl (q := 11) rfl (kc_S xk_2_86 (Nat.le_of_ble_eq_true rfl)) xt_g84 (by decide) ⟨Nat.le_of_ble_eq_true rfl, Nat.le_of_ble_eq_true rfl, Nat.le_of_ble_eq_true rfl⟩ (s84 hfm (sS_ko H) h8.1 h8.2) ?_
  refine xe_s (f := (12, [(1, _), (0, _)], _, _)) xt_g107 rfl rfl rfl rfl rfl ?_
  refine xe_s (f := (13, _, _, _)) xt_g107 rfl rfl rfl rfl rfl ?_
  refine xe_s (f := (14, _, xi (-1) :: _, _)) xt_g107 rfl rfl rfl rfl rfl ?_
  refine xe_ic_ne xt_g107 rfl (t := 19) rfl (q := 17) rfl (by first | omega | exact xb_r _) (by first | omega | exact xb_r _) (fun b14 => ?_) (fun b14 => ?_)
  · try simp only [xb_0, xb_1, ne_eq, Decidable.not_not, Bool.not_eq_false, Bool.not_eq_true, decide_eq_true_eq, decide_eq_false_iff_not] at b14
    have e : (xd_hs (lt l) l.length 7 0 (s 8)).2 = true := by
      cases g : (xd_hs (lt l) l.length 7 0 (s 8)).2 with
      | true => rfl
      | false => exact absurd (E2 g) b14
    rw [E1 e]
    have pf : pa_from (lt l) l.length sec (s 8) = match pa_port (lt l) sec (xd_hs (lt l) l.length 7 0 (s 8)).1 with
        | none => none
        | some (v, k2) => if pa_q2 (lt l) l.length (pa_q1 (lt l) l.length (pa_p1 (lt l) l.length k2)) = l.length then some (pa_hn (lt l) (s 8) (xd_hs (lt l) l.length 7 0 (s 8)).1, v, pa_sl (lt l) k2 (pa_p1 (lt l) l.length k2), pa_qy (lt l) l.length (pa_p1 (lt l) l.length k2)) else none := by
      unfold pa_from
      rw [if_pos e]
      rfl
    generalize (xd_hs (lt l) l.length 7 0 (s 8)).1 = he at hb pf
    rw [pf]
    clear pf E1 E2 e
    refine xe_s (f := (20, _, _, _)) xt_g107 rfl rfl rfl rfl rfl ?_
    refine xe_s (f := (21, _, _, _)) xt_g107 rfl rfl rfl rfl rfl ?_
    refine xe_gf xt_g107 rfl (q := 24) rfl (xf_2_20 fm) (ko_49) (by omega) rfl rfl ?_
    refine xe_s (f := (25, _, _, _)) xt_g107 rfl rfl rfl rfl rfl ?_
    refine xe_gf xt_g107 rfl (q := 28) rfl (xf_2_33 fm) (ko_49) (by omega) rfl rfl ?_
    refine xe_s (f := (29, _, _, _)) xt_g107 rfl rfl rfl rfl rfl ?_
    refine xe_cA xt_g107 rfl rfl rfl (q := 32) rfl (kc_V xk_2_70 rfl (F1 _ _ _ _ _) (by omega) rfl rfl) xt_g103 (by decide) ⟨Nat.le_of_ble_eq_true rfl, Nat.le_of_ble_eq_true rfl, Nat.le_of_ble_eq_true rfl⟩ (k103 hfm K C H h8.1 hb.1 hb.2) (fun x2 h2' n2 c2 u2 hp => ?_)
    obtain ⟨h3, rfl, k3, S3, n3', u3'⟩ := hp
    have N3 := k3.1
    have K3 := KW_ke K k3
    have C3 := cst_kp C K.1 (ke_kp k3)
    have H3 := sS_ke H k3
    have sn := sl_len h8.1 hb.1 hb.2
    refine xe_cA xt_g107 rfl rfl rfl (q := 35) rfl (kc_S xk_2_74 (Nat.le_of_ble_eq_true rfl)) xt_g72 (by decide) ⟨Nat.le_of_ble_eq_true rfl, Nat.le_of_ble_eq_true rfl, Nat.le_of_ble_eq_true rfl⟩ (k72 K3 C3 S3) (fun x4 h4' n4 c4 u4 hq => ?_)
    obtain ⟨h5, rfl, k5, S5, n5', u5'⟩ := hq
    have N5 := k5.1
    have K5 := KW_ke K3 k5
    have C5 := cst_kp C3 K3.1 (ke_kp k5)
    have H5 := sS_ke H3 k5
    rw [sn] at u5'
    refine xe_kp_2_4 xt_g107 rfl (q := 38) rfl (xf_2_24 fm) (by omega) ?_
    refine xe_s (f := (39, _, _, _)) xt_g107 rfl rfl rfl rfl rfl ?_
    refine xe_s (f := (40, _, _, _)) xt_g107 rfl rfl rfl rfl rfl ?_
    refine xe_kp_2_2 xt_g107 rfl (q := 43) rfl (xf_2_33 fm) (by omega) ?_
    refine xe_s (f := (44, _, _, _)) xt_g107 rfl rfl rfl rfl rfl ?_
    refine xe_cI xt_g107 rfl rfl rfl (q := 47) rfl (kc_V xk_2_90 rfl (ko_49) (by omega) rfl rfl) xt_g108 (by decide) ⟨Nat.le_of_ble_eq_true rfl, Nat.le_of_ble_eq_true rfl, Nat.le_of_ble_eq_true rfl⟩ (k108 (s := xo_u s 8 he) (p := pu p 5 x4) (l := l) hfm (by omega) H5 (by rw [xo_uS]; omega) (by omega) (sec := sec) (by rw [xo_uN (by decide)]; exact h9)) (fun z6 h6' n6 c6 u6 hr => ?_)
    obtain ⟨rfl, rfl, s6, rfl, e6, e7⟩ := hr
    rw [xo_uS] at e7
    have z6r : z6 = 0 ∨ z6 = 1 := by rcases e7 with e | e <;> omega
    refine xe_if_ne xt_g107 rfl (t := 52) rfl (q := 50) rfl (by first | omega | exact xb_r _) (fun b47 => ?_) (fun b47 => ?_)
    · try simp only [xb_0, xb_1, ne_eq, Decidable.not_not, Bool.not_eq_false, Bool.not_eq_true, decide_eq_true_eq, decide_eq_false_iff_not] at b47
      have en : pa_port (lt l) sec he = some (s6 10, s6 8) := by rcases e7 with e | e; exact absurd e.1 b47; exact e.2
      rw [en]
      have pb := port_b (by omega) hb.2 en
      rw [sl_pa h8.1 hb.1 hb.2] at S5
      refine xe_mono (xe_loc (by intro q hq; simp only [List.mem_cons, List.not_mem_nil, or_false] at hq; rcases hq with rfl <;> rfl) ((k107_b (fm := fm) (w := w) (s := s6) (p := pu p 5 x4) (ar := ar) (v := v) (h := h5) (l := l) (host := pa_hn (lt l) (s 8) he) (c := 0 + c2 + c4 + c6) (u := 0 + u2 + u4 + 0) hfm K5 C5 H5 (sS_ke (sS_ke HQ k3) k5) S5 (by omega) hl ht))) (fun r M hM => ?_)
      obtain ⟨z, g1, w7, s7, p7, h7, t7, kc7, u7, g2, g3, g4, g5, g6⟩ := hM
      refine ⟨z, g1, w7, s7, p7, h7, t7, kc7, g2, ?_, g5, g6⟩
      have A1 := RR_ke (S := [8, 10]) (Q := [5, 6, 7]) (s := s) (p := p) (s' := s6) (p' := pu p 5 x4) (u' := u2 + u4) (B := 650) (C := 5) K (ke_trans k3 k5) (fun k hk => by rw [e6 k (fun e => hk (by rw [e]; decide)) (fun e => hk (by rw [e]; decide)), xo_uN (fun e => hk (by rw [e]; decide))]) (fun k hk => pu_n (fun e => hk (by rw [e]; decide))) (by omega) (by omega)
      exact RR_mono (RR_trans A1 (RR_mono g4 (S' := [8, 10]) (Q' := [5, 6, 7]) rfl rfl (Nat.le_refl _) (Nat.le_refl _) (Nat.le_refl _))) rfl rfl (by omega) (by omega) (by omega)
    · try simp only [xb_0, xb_1, ne_eq, Decidable.not_not, Bool.not_eq_false, Bool.not_eq_true, decide_eq_true_eq, decide_eq_false_iff_not] at b47
      refine xe_s (f := (51, _, xi 0 :: _, _)) xt_g107 rfl rfl rfl rfl rfl ?_
      refine xe_iret xt_g107 rfl rfl (xi_bool (by first | omega | exact xb_or _)).1 ?_
      try dsimp only
      have en : pa_port (lt l) sec he = none := by rcases e7 with e | e; exact e.2; omega
      rw [en]
      refine ⟨0, rfl, w, s6, pu p 5 x4, h5, t, kc, rfl, RR_ke K (ke_trans k3 k5) (fun k hk => ?_) (fun k hk => pu_n (fun e => hk (by rw [e]; decide))) (by omega) (by omega), ht, fun _ => rfl, fun x hx => by cases hx⟩
      rw [e6 k (fun e => hk (by rw [e]; decide)) (fun e => hk (by rw [e]; decide)), xo_uN (fun e => hk (by rw [e]; decide))]
  · try simp only [xb_0, xb_1, ne_eq, Decidable.not_not, Bool.not_eq_false, Bool.not_eq_true, decide_eq_true_eq, decide_eq_false_iff_not] at b14
    refine xe_s (f := (18, _, xi 0 :: _, _)) xt_g107 rfl rfl rfl rfl rfl ?_
    refine xe_iret xt_g107 rfl rfl (xi_bool (by first | omega | exact xb_or _)).1 ?_
    try dsimp only
    have e : (xd_hs (lt l) l.length 7 0 (s 8)).2 = false := by
      cases g : (xd_hs (lt l) l.length 7 0 (s 8)).2 with
      | false => rfl
      | true => rw [E1 g] at b14; omega
    refine ⟨0, rfl, w, s, p, h, t, kc, rfl, RR_ke K ke_refl (fun _ _ => rfl) (fun _ _ => rfl) (by omega) (by omega), ht, fun _ => rfl, fun x hx => ?_⟩
    unfold pa_from at hx
    rw [e, if_neg (by decide)] at hx
    cases hx
end XB5
