/-! requests that are sent -/
theorem low_sub {C : List ck_T} {P : Nat → ck_T → Bool} : ∀ (N : Nat) (x : ck_T), x ∈ mk_low C P N → x ∈ C
  | 0, x, h => by cases h
  | N + 1, x, h => by
    unfold mk_low at h
    rcases List.mem_append.mp h with h | h
    · exact (List.mem_filter.mp h).1
    · exact low_sub N x h
theorem going_p {C : List ck_T} {t : Int} {a : pa_A} {net : Bool} {P : ck_T → Prop} (h : ∀ c, c ∈ C → P c) : ∀ c, c ∈ mk_going t C a net → P c := fun c hc => h c (low_sub 30 c hc)
theorem mk_txt_len {b : Bool} : ∀ (G : List ck_T) (_ : ∀ c, c ∈ G → c.1.length ≤ 12 ∧ c.2.1.length ≤ 12), (mk_txt G b false).length ≤ 27 * G.length
  | [], _ => Nat.le_refl _
  | c :: G, h => by
    have ih := mk_txt_len (b := true) G (fun x hx => h x (List.mem_cons_of_mem _ hx))
    have hc := h c List.mem_cons_self
    rw [mk_txt, List.length_append, List.length_cons]
    unfold mk_one
    have : ((if b = true then [59, 32] else if false = true then [32] else [] : List Int)).length ≤ 2 := by split <;> simp
    simp only [List.length_append, List.length_cons]
    omega
section XBK
variable {fm : Value} {w w' w1 w2 : kW} {s s' s1 s2 : Nat → Int} {p p' p1 p2 : Nat → Nat} {ar ar' : Nat → Nat → Option Nat} {v : Nat → Int} {h h' h1 h2 : xm_H} {n n' n1 n2 r k k' u' u1 u2 x y a R : Nat} {l D W P N V : List Int} {L : List (List Int)} {A B : pa_A} {q : mq_T} {f : ck_T} {C : List ck_T} {t t' t1 t2 : Nat → List Int} {kc kc' kc1 kc2 : Nat → Nat} {u : mu_T} {dp : Nat → Nat} {fx : Nat → Option Nat} {m : ms_T} {M : List ms_T} {O : List pa_A} {fr : Nat → Option mf_T} {rq : Nat → Option mq_T}
theorem ckL_p (HC : ckL w s ar h n C) : ∀ c, c ∈ C → 1 ≤ c.2.2.2.1.length ∧ c.2.2.2.1.length ≤ 30 := by
  intro c hc
  obtain ⟨i, hi, e⟩ := List.getElem_of_mem hc
  obtain ⟨x, e5, na, va, dn, pa, a1, a2, a3, a4, s1, s2, s3, s4, b1, b2, b3, b4, b5, b6⟩ := HC.2.2 i hi
  rw [List.getD_eq_getElem?_getD, List.getElem?_eq_getElem hi, e] at b5 b6
  exact ⟨b5, b6⟩
theorem ckL_n (HC : ckL w s ar h n C) : ∀ c, c ∈ C → c.1.length ≤ 12 ∧ c.2.1.length ≤ 12 := by
  intro c hc
  obtain ⟨i, hi, e⟩ := List.getElem_of_mem hc
  obtain ⟨x, e5, na, va, dn, pa, a1, a2, a3, a4, s1, s2, s3, s4, b1, b2, b3, b4, b5, b6⟩ := HC.2.2 i hi
  rw [List.getD_eq_getElem?_getD, List.getElem?_eq_getElem hi, e] at b2 b3
  exact ⟨b2, b3⟩
/-- one place of the requests is filled or emptied -/
theorem cB_rq (H : cB w s p ar v h n u dp R) {o : Option Nat} {oq : Option mq_T} (h0 : oq = none → o = none) (h1 : ∀ q, oq = some q → ∃ y, o = some y ∧ rqO w h n (ar 3) R q y) : cB w s p (aw ar 4 R o) v h n (mu_srq u (mu_up (mu_rq u) R oq)) dp 24 := by
  obtain ⟨a1, a2, a3, a4, a5, a6, a7, a8, a9, a10, a11, a12, a13⟩ := H
  have e3 : aw ar 4 R o 3 = ar 3 := aw_n (by decide)
  refine ⟨a1, a2, msL_kp a3 kp_refl rfl (aw_n (by decide)), a4, sfL_kp a5 kp_refl rfl (aw_n (by decide)), a6, a7, ckL_kp a8 kp_refl rfl (aw_n (by decide)), fun i hi => ?_, ?_, ?_, orL_kp a12 kp_refl rfl (aw_n (by decide)), a13⟩
  · rw [aw_n (by decide), e3]; exact a9 i hi
  · rw [e3]; exact frL_kp a10 kp_refl e3
  · rw [e3]
    intro r hr _
    show (mu_up (mu_rq u) R oq r = none → _) ∧ ∀ q, mu_up (mu_rq u) R oq r = some q → _
    rw [aw_s]
    by_cases e : r = R
    · subst e
      rw [mu_upS, va_up_s]
      exact ⟨h0, h1⟩
    · rw [mu_upN e, va_up_n e]
      exact a11 r hr e
theorem cB_x (H : cB w s p ar v h n u dp 24) : cB w s p ar v h n u dp R := by
  obtain ⟨a1, a2, a3, a4, a5, a6, a7, a8, a9, a10, a11, a12, a13⟩ := H
  exact ⟨a1, a2, a3, a4, a5, a6, a7, a8, a9, a10, fun r hr _ => a11 r hr (by omega), a12, a13⟩
/-- what the end of send needs -/
theorem k135_e (K : KW w h n t kc) (H : cB w s p ar v h n u dp R) (hR : R < 24) (HQ : rqO w h n (ar 3) R q y) {X : mf_T} {d fo : Nat} (HF : frO w h n (ar 3) q.1.toNat X d fo) (hfo : ar 3 q.1.toNat = some fo) (hq1 : 0 ≤ q.1) : ∀ (w2 : kW) (ar2 : Nat → Nat → Option Nat) (h2 : xm_H) (n2 : Nat) (kc2 : Nat → Nat) (c2 u2 : Nat) (T : List Int), RT 0 0 w h n kc w2 h2 n2 (tu t 1 T) kc2 u2 → (∀ j, j ≠ 7 → ar2 j = aw ar 4 R (some y) j) → T.length ≤ 2000 → T.take 200 = mu_rtx u q.2.2.2.1 (mq_wi q) → xe fm 135 (85, [(0, .ref 44), (1, .ref y)], [], (ko w2 s p ar2 v h2, n2, c2, u2)) (fun q' M => q' = .inl (some (xi (R : Int))) ∧ ∃ w' s' ar' h1 t' kc', M.1 = ko w' s' p ar' v h1 ∧ RT 210 3 w h n kc w' h1 M.2.1 t' kc' M.2.2.2 ∧ (t' 0 = t 0 ∧ t' 2 = t 2 ∧ (t' 1).length ≤ 2000) ∧ (∀ k, k ≠ 6 → s' k = s k) ∧ (∀ k, k ≠ 1 → k ≠ 4 → k ≠ 7 → ar' k = ar k) ∧ cB w' s' p ar' v h1 M.2.1 (mu_send u R q) dp 24) := by
  intro w2 ar2 h2 n2 kc2 c2 u2 T R2 f2 lT eT
  have W0 := K.1.1
  have N2 := R2.2.1.1
  have fin : ∀ (w3 : kW) (h3 : xm_H) (n3 : Nat) (kc3 : Nat → Nat) (c3 u3 : Nat) (T3 : List Int), RT 0 0 w h n kc w3 h3 n3 (tu t 1 T3) kc3 u3 → T3.length ≤ 200 → T3 = mu_rtx u q.2.2.2.1 (mq_wi q) → xe fm 135 (108, [(0, .ref 44), (1, .ref y)], [], (ko w3 s p ar2 v h3, n3, c3, u3)) (fun q' M => q' = .inl (some (xi (R : Int))) ∧ ∃ w' s' ar' h1 t' kc', M.1 = ko w' s' p ar' v h1 ∧ RT 210 3 w h n kc w' h1 M.2.1 t' kc' M.2.2.2 ∧ (t' 0 = t 0 ∧ t' 2 = t 2 ∧ (t' 1).length ≤ 2000) ∧ (∀ k, k ≠ 6 → s' k = s k) ∧ (∀ k, k ≠ 1 → k ≠ 4 → k ≠ 7 → ar' k = ar k) ∧ cB w' s' p ar' v h1 M.2.1 (mu_send u R q) dp 24) := by
    intro w3 h3 n3 kc3 c3 u3 T3 R3 lT3 eT3
    have N3 := R3.2.1.1
    have HQ3 := rqO_kp HQ R3.2.1
    have HF3 := frO_kp HF R3.2.1
    have H3 : cB w3 s p ar2 v h3 n3 (mu_srq u (mu_up (mu_rq u) R (some q))) dp 24 := cB_kp (cB_rq H (o := some y) (oq := some q) (fun g => by cases g) (fun q' g => by cases g; exact ⟨y, rfl, HQ⟩)) K.1 R3.2.1 (fun _ _ _ _ => rfl) rfl f2
    obtain ⟨fo', ad, ak, lf, la, lw, a1, a2, a3, a4, a5, a6, a7, a8, a9⟩ := HQ3
    rw [hfo] at a5
    cases a5
    obtain ⟨fad, b1, b2, b3, b4, b5⟩ := HF3
    have X1 := fun s0 ar0 => (ko_d (w := w3) (s := s0) (p := p) (ar := ar0) (v := v) a2.1).trans a1
    have X2 := fun s0 ar0 => (ko_d (w := w3) (s := s0) (p := p) (ar := ar0) (v := v) b2.1).trans b1
    refine xe_s (f := (109, _, _, _)) xt_g135 rfl rfl rfl rfl rfl ?_
    refine xe_s (f := (110, _, xi 1 :: _, _)) xt_g135 rfl rfl rfl rfl rfl ?_
    refine xe_s (f := (111, _, _, _)) xt_g135 rfl rfl rfl rfl rfl ?_
    refine xe_gf xt_g135 rfl (q := 114) rfl (xf_0_340 fm) (X1 _ _) (by omega) rfl rfl ?_
    refine xe_s (f := (115, _, _, _)) xt_g135 rfl rfl rfl rfl rfl ?_
    refine xe_gf xt_g135 rfl (q := 118) rfl (xf_0_212 fm) (X1 _ _) (by omega) rfl rfl ?_
    refine xe_gf xt_g135 rfl (q := 121) rfl (xf_0_216 fm) (X2 _ _) (by omega) rfl rfl ?_
    refine xe_s (f := (122, _, _, _)) xt_g135 rfl rfl rfl rfl rfl ?_
    refine xe_gf xt_g135 rfl (q := 125) rfl (xf_0_16 fm) (ko_44) (by omega) rfl rfl ?_
    refine xe_cA xt_g135 rfl rfl rfl (q := 128) rfl (kc_V xk_0_253 rfl (ko_47) (by omega) rfl rfl) xt_g48 (by decide) ⟨Nat.le_of_ble_eq_true rfl, Nat.le_of_ble_eq_true rfl, Nat.le_of_ble_eq_true rfl⟩ (k48_1 R3.1 (by rw [tu_s]; omega)) (fun x4 h4' n4 c4 u4 hp => ?_)
    obtain ⟨h5, rfl, ke4, S4, n4', u4'⟩ := hp
    rw [tu_s] at S4 u4'
    have N4 := ke4.1
    have K4 := KW_ke R3.1 ke4
    have H4 := cB_kp (s' := s) (p' := p) (ar' := ar2) H3 R3.1.1 (ke_kp ke4) (fun _ _ _ _ => rfl) rfl (fun _ _ => rfl)
    refine xe_cN xt_g135 rfl rfl rfl (q := 131) rfl (kc_V xk_0_219 rfl (ko_44) (by omega) rfl rfl) xt_g143 (by decide) ⟨Nat.le_of_ble_eq_true rfl, Nat.le_of_ble_eq_true rfl, Nat.le_of_ble_eq_true rfl⟩ (k143 K4 H4 S4) (fun h6' n6 c6 u6 hq => ?_)
    obtain ⟨s6, ar6, h7, rfl, ke6, n6', u6', f6, g6, H6⟩ := hq
    have N6 := ke6.1
    have X6 : ko w3 s6 p ar6 v h7 y = _ := (ko_d a2.1).trans ((ke6.2 y (by omega) a2.1).trans ((ke4.2 y (by omega) a2.1).trans a1))
    refine xe_s (f := (132, _, _, _)) xt_g135 rfl rfl rfl rfl rfl ?_
    refine xe_gf xt_g135 rfl (q := 135) rfl (xf_0_340 fm) (X6) (by omega) rfl rfl ?_
    refine xe_iret xt_g135 rfl rfl xi_int.1 ?_
    try dsimp only
    refine ⟨rfl, w3, s6, ar6, h7, _, kc3, rfl, RT_mono (RT_trans (RT_trans R3 (RT_ke (B := 204) (C := 2) (u' := u4) R3.1 ke4 n4' (by omega))) (RT_ke (B := 4) (C := 1) (u' := u6) K4 ke6 n6' u6')) (by omega) (by omega) (by omega), ⟨tu_n (by decide), tu_n (by decide), by rw [tu_s]; omega⟩, f6, fun k h1 h4 h7 => (g6 k h1).trans ((f2 k h7).trans (aw_n h4)), ?_⟩
    have en : mu_note (mu_srq u (mu_up (mu_rq u) R (some q))) 1 (R : Int) (((q.1.toNat : Nat)) : Int) T3 = mu_send u R q := by
      rw [note_srq, show ((q.1.toNat : Nat) : Int) = q.1 by omega, eT3]
      rfl
    rw [en] at H6
    exact H6
  refine xe_s (f := (86, _, _, _)) xt_g135 rfl rfl rfl rfl rfl ?_
  refine xe_gf xt_g135 rfl (q := 89) rfl (xf_0_16 fm) (ko_44) (by omega) rfl rfl ?_
  refine xe_cR xt_g135 rfl rfl rfl (q := 92) rfl (kc_V xk_0_82 rfl (ko_47) (by omega) rfl rfl) xt_g12 (by decide) ⟨Nat.le_of_ble_eq_true rfl, Nat.le_of_ble_eq_true rfl, Nat.le_of_ble_eq_true rfl⟩ (k12_1 R2.1) ?_
  rw [tu_s]
  refine xe_sipush xt_g135 rfl (q := 95) rfl (by decide) (by decide) ?_
  refine xe_ic_le xt_g135 rfl (t := 108) rfl (q := 98) rfl (by first | omega | exact xb_r _) (by first | omega | exact xb_r _) (fun b95 => ?_) (fun b95 => ?_)
  · try simp only [xb_0, xb_1, ne_eq, Decidable.not_not, Bool.not_eq_false, Bool.not_eq_true, decide_eq_true_eq, decide_eq_false_iff_not] at b95
    exact xe_loc (by intro q hq; simp only [List.mem_cons, List.not_mem_nil, or_false] at hq; rcases hq with rfl | rfl <;> rfl) ((fin w2 h2 n2 kc2 c2 u2 T R2 (by omega) (by rw [← eT, List.take_of_length_le (by omega)])))
  · try simp only [xb_0, xb_1, ne_eq, Decidable.not_not, Bool.not_eq_false, Bool.not_eq_true, decide_eq_true_eq, decide_eq_false_iff_not] at b95
    refine xe_s (f := (99, _, _, _)) xt_g135 rfl rfl rfl rfl rfl ?_
    refine xe_gf xt_g135 rfl (q := 102) rfl (xf_0_16 fm) (ko_44) (by omega) rfl rfl ?_
    refine xe_sipush xt_g135 rfl (q := 105) rfl (by decide) (by decide) ?_
    refine xe_cN xt_g135 rfl rfl rfl (q := 108) rfl (kc_V xk_0_86 rfl (ko_47) (by omega) rfl rfl) xt_g14 (by decide) ⟨Nat.le_of_ble_eq_true rfl, Nat.le_of_ble_eq_true rfl, Nat.le_of_ble_eq_true rfl⟩ (k14_1 (m := 200) R2.1 (by omega) (by rw [tu_s]; omega) (by rw [tu_s]; omega)) (fun h3' n3 c3 u3 hp => ?_)
    obtain ⟨w3, h3, k3, rfl, R3⟩ := hp
    rw [tu_s] at R3
    have R3' := RT_trans R2 (RT_1 R3)
    rw [tu_tu] at R3'
    exact xe_loc (by intro q hq; simp only [List.mem_cons, List.not_mem_nil, or_false] at hq; rcases hq with rfl | rfl <;> rfl) ((fin w3 h3 n3 _ (c2 + c3) _ (T.take 200) R3' (by rw [List.length_take]; omega) eT))
/-- send -/
theorem k135 (hfm : fm = .null ∨ ∃ j, fm = .ref j) (K : KW w h n t kc) (H : cB w s p ar v h n u dp R) (hR : R < 24) (HQ : rqO w h n (ar 3) R q y) {X : mf_T} {d fo : Nat} (HF : frO w h n (ar 3) q.1.toNat X d fo) (hfo : ar 3 q.1.toNat = some fo) (hq1 : 0 ≤ q.1) (hC : (mu_ck u).length ≤ 40) (ht : 0 ≤ mu_tm u ∧ mu_tm u ≤ 1000000000) (lt1 : (t 1).length ≤ 2000) : xI fm 135 (ko w s p ar v h) n [.ref 44, .ref y] (fun z h' n' u' => z = R ∧ ∃ w' s' ar' h1 t' kc', h' = ko w' s' p ar' v h1 ∧ RT 210 3 w h n kc w' h1 n' t' kc' u' ∧ (t' 0 = t 0 ∧ t' 2 = t 2 ∧ (t' 1).length ≤ 2000) ∧ (∀ k, k ≠ 6 → s' k = s k) ∧ (∀ k, k ≠ 1 → k ≠ 4 → k ≠ 7 → ar' k = ar k) ∧ cB w' s' p ar' v h1 n' (mu_send u R q) dp 24) := by
  have W0 := K.1.1
  have fin := k135_e (fm := fm) (s := s) (p := p) (v := v) K H hR HQ HF hfo hq1
  have HQ' := HQ
  have H' := H
  obtain ⟨c1', c2', c3', c4', c5', c6', c7', c8', _⟩ := H
  obtain ⟨fo', ad, ak, lf, la, lw, a1, a2, a3, a4, a5, a6, a7, a8, a9⟩ := HQ
  have X1 := (ko_d (w := w) (s := s) (p := p) (ar := ar) (v := v) a2.1).trans a1
  have y1 := xb_or (mq_wi q)
  unfold xI
  refine xe_s (f := (1, _, _, _)) xt_g135 rfl rfl rfl rfl rfl ?_
  refine xe_gf xt_g135 rfl (q := 4) rfl (xf_0_50 fm) (ko_44) (by omega) rfl rfl ?_
  refine xe_s (f := (5, _, _, _)) xt_g135 rfl rfl rfl rfl rfl ?_
  refine xe_gf xt_g135 rfl (q := 8) rfl (xf_0_340 fm) (X1) (by omega) rfl rfl ?_
  refine xe_s (f := (9, _, _, _)) xt_g135 rfl rfl rfl rfl rfl ?_
  refine xe_ks_58 xt_g135 rfl (q := 10) rfl (by omega) (by omega) (by omega) (X1) (by omega) (by omega) ?_
  rw [Int.toNat_natCast]
  refine xe_s (f := (11, _, _, _)) xt_g135 rfl rfl rfl rfl rfl ?_
  refine xe_gf xt_g135 rfl (q := 14) rfl (xf_0_16 fm) (ko_44) (by omega) rfl rfl ?_
  refine xe_s (f := (15, _, xi 0 :: _, _)) xt_g135 rfl rfl rfl rfl rfl ?_
  refine xe_cN xt_g135 rfl rfl rfl (q := 18) rfl (kc_V xk_0_86 rfl (ko_47) (by omega) rfl rfl) xt_g14 (by decide) ⟨Nat.le_of_ble_eq_true rfl, Nat.le_of_ble_eq_true rfl, Nat.le_of_ble_eq_true rfl⟩ (k14_1 (m := 0) K (by omega) (by omega) (by omega)) (fun h2' n2 c2 u2 hp => ?_)
  obtain ⟨w2, h3, k2, rfl, R2⟩ := hp
  rw [show (0 : Int).toNat = 0 from rfl, List.take_zero] at R2
  have N2 := R2.2.1.1
  have HQ2 := rqO_kp HQ' R2.2.1
  obtain ⟨fo2, ad2, ak2, lf2, la2, lw2, d1, d2, d3, d4, d5, d6, d7, d8, d9⟩ := HQ2
  have X2 := (ko_d (w := w2) (s := s) (p := p) (ar := aw ar 4 R (some y)) (v := v) d2.1).trans d1
  obtain ⟨ho, pp, qu, te, e1, e2, e3, e4, e5, e6, e7, e8, e9⟩ := d6
  have X3 := (ko_d (w := w2) (s := s) (p := p) (ar := aw ar 4 R (some y)) (v := v) e2.1).trans e1
  have tl : (pa_text q.2.2.2.1).length ≤ 60 := e9.2.2.2.2.1
  refine xe_s (f := (19, _, _, _)) xt_g135 rfl rfl rfl rfl rfl ?_
  refine xe_gf xt_g135 rfl (q := 22) rfl (xf_0_16 fm) (ko_44) (by omega) rfl rfl ?_
  refine xe_s (f := (23, _, _, _)) xt_g135 rfl rfl rfl rfl rfl ?_
  refine xe_gf xt_g135 rfl (q := 26) rfl (xf_0_227 fm) (X2) (by omega) rfl rfl ?_
  refine xe_gf xt_g135 rfl (q := 29) rfl (xf_0_274 fm) (X3) (by omega) rfl rfl ?_
  refine xe_cA xt_g135 rfl rfl rfl (q := 32) rfl (kc_V xk_0_341 rfl (ko_47) (by omega) rfl rfl) xt_g16 (by decide) ⟨Nat.le_of_ble_eq_true rfl, Nat.le_of_ble_eq_true rfl, Nat.le_of_ble_eq_true rfl⟩ (k16_1 R2.1 e8 (by rw [tu_s]; exact Nat.lt_of_le_of_lt (Nat.add_le_add_left tl _) (by decide))) (fun x4 h4' n4 c4 u4 hq => ?_)
  obtain ⟨rfl, w4, h5, k4, rfl, R4⟩ := hq
  rw [tu_s, List.nil_append] at R4
  have N4 := R4.2.1.1
  have R4' := RT_trans (RT_1 R2) (RT_1 R4)
  rw [tu_tu] at R4'
  have HQ4 := rqO_kp HQ' R4'.2.1
  obtain ⟨fo4, ad4, ak4, lf4, la4, lw4, g1, g2, g3, g4, g5, g6, g7, g8, g9⟩ := HQ4
  have X4 := (ko_d (w := w4) (s := s) (p := p) (ar := aw ar 4 R (some y)) (v := v) g2.1).trans g1
  refine xe_s (f := (33, _, _, _)) xt_g135 rfl rfl rfl rfl rfl ?_
  refine xe_s (f := (34, _, _, _)) xt_g135 rfl rfl rfl rfl rfl ?_
  refine xe_gf xt_g135 rfl (q := 37) rfl (xf_0_223 fm) (X4) (by omega) rfl rfl ?_
  refine xe_if_eq xt_g135 rfl (t := 85) rfl (q := 40) rfl (by first | omega | exact xb_r _) (fun b37 => ?_) (fun b37 => ?_)
  · try simp only [xb_0, xb_1, ne_eq, Decidable.not_not, Bool.not_eq_false, Bool.not_eq_true, decide_eq_true_eq, decide_eq_false_iff_not] at b37
    have g := fin w4 (aw ar 4 R (some y)) h5 n4 _ (0 + c2 + c4) (0 + u2 + u4) (pa_text q.2.2.2.1) (RT_mono R4' (Nat.le_refl _) (Nat.le_refl _) (by omega)) (fun _ _ => rfl) (by omega) (by unfold mu_rtx; rw [b37, if_neg (by decide), List.append_nil])
    refine xe_mono (xe_loc (by intro q hq; simp only [List.mem_cons, List.not_mem_nil, or_false] at hq; rcases hq with rfl | rfl <;> rfl) (g)) (fun r M hM => ?_)
    exact ⟨_, hM.1, rfl, hM.2⟩
  · try simp only [xb_0, xb_1, ne_eq, Decidable.not_not, Bool.not_eq_false, Bool.not_eq_true, decide_eq_true_eq, decide_eq_false_iff_not] at b37
    refine xe_s (f := (41, _, _, _)) xt_g135 rfl rfl rfl rfl rfl ?_
    refine xe_gf xt_g135 rfl (q := 44) rfl (xf_0_16 fm) (ko_44) (by omega) rfl rfl ?_
    refine xe_cR xt_g135 rfl rfl rfl (q := 47) rfl (kc_V xk_0_82 rfl (ko_47) (by omega) rfl rfl) xt_g12 (by decide) ⟨Nat.le_of_ble_eq_true rfl, Nat.le_of_ble_eq_true rfl, Nat.le_of_ble_eq_true rfl⟩ (k12_1 R4'.1) ?_
    rw [tu_s]
    refine xe_s (f := (48, [(2, _), (0, _), (1, _)], _, _)) xt_g135 rfl rfl rfl rfl rfl ?_
    refine xe_s (f := (49, _, _, _)) xt_g135 rfl rfl rfl rfl rfl ?_
    refine xe_gf xt_g135 rfl (q := 52) rfl (xf_0_16 fm) (ko_44) (by omega) rfl rfl ?_
    refine xe_bipush xt_g135 rfl (q := 54) rfl (by decide) (by decide) ?_
    refine xe_cA xt_g135 rfl rfl rfl (q := 57) rfl (kc_V xk_0_89 rfl (ko_47) (by omega) rfl rfl) xt_g63 (by decide) ⟨Nat.le_of_ble_eq_true rfl, Nat.le_of_ble_eq_true rfl, Nat.le_of_ble_eq_true rfl⟩ (k63_1 (c := 32) R4'.1 (by omega) (by rw [tu_s]; omega)) (fun x5 h5' n5 c5 u5 hr => ?_)
    obtain ⟨rfl, w5, h6, k5, rfl, R5⟩ := hr
    rw [tu_s] at R5
    have N5 := R5.2.1.1
    have R5' := RT_trans R4' (RT_1 R5)
    rw [tu_tu] at R5'
    have HQ5 := rqO_kp HQ' R5'.2.1
    obtain ⟨fo5, ad5, ak5, lf5, la5, lw5, i1, i2, i3, i4, i5, i6, i7, i8, i9⟩ := HQ5
    have X5 := (ko_d (w := w5) (s := s) (p := p) (ar := aw ar 4 R (some y)) (v := v) i2.1).trans i1
    have HC5 := ckL_kp (s' := s) (ar' := aw ar 4 R (some y)) c8' R5'.2.1 rfl (aw_n (by decide))
    refine xe_s (f := (58, _, _, _)) xt_g135 rfl rfl rfl rfl rfl ?_
    refine xe_s (f := (59, _, _, _)) xt_g135 rfl rfl rfl rfl rfl ?_
    refine xe_gf xt_g135 rfl (q := 62) rfl (xf_0_78 fm) (ko_44) (by omega) rfl rfl ?_
    refine xe_s (f := (63, _, _, _)) xt_g135 rfl rfl rfl rfl rfl ?_
    refine xe_gf xt_g135 rfl (q := 66) rfl (xf_0_16 fm) (ko_44) (by omega) rfl rfl ?_
    refine xe_s (f := (67, _, _, _)) xt_g135 rfl rfl rfl rfl rfl ?_
    refine xe_gf xt_g135 rfl (q := 70) rfl (xf_0_227 fm) (X5) (by omega) rfl rfl ?_
    refine xe_s (f := (71, _, xi 1 :: _, _)) xt_g135 rfl rfl rfl rfl rfl ?_
    refine xe_cI xt_g135 rfl rfl rfl (q := 74) rfl (kc_V xk_0_249 rfl (ko_59) (by omega) rfl rfl) xt_g136 (by decide) ⟨Nat.le_of_ble_eq_true rfl, Nat.le_of_ble_eq_true rfl, Nat.le_of_ble_eq_true rfl⟩ (k136 (net := true) (C := mu_ck u) hfm (cst_kp c1' K.1 R5'.2.1) R5'.1 HC5 hC i6 (by rw [c7']; exact ht) (by rw [tu_s, List.length_append, List.length_singleton]; omega)) (fun z6 h6' n6 c6 u6 hs => ?_)
    obtain ⟨ez, w6, ar6, h7, kc6, rfl, f6, R6⟩ := hs
    rw [ez]
    rw [tu_s, tu_tu, c7'] at R6
    rw [c7']
    have N6 := R6.2.1.1
    have R6' := RT_trans R5' R6
    have gl := going_le (t := mu_tm u) (a := q.2.2.2.1) (net := true) (C := mu_ck u) (ckL_p c8')
    have tg := mk_txt_len (b := false) (mk_going (mu_tm u) (mu_ck u) q.2.2.2.1 true) (going_p (ckL_n c8'))
    refine xe_if_ne xt_g135 rfl (t := 85) rfl (q := 77) rfl (by first | omega | exact xb_r _) (fun b74 => ?_) (fun b74 => ?_)
    · try simp only [xb_0, xb_1, ne_eq, Decidable.not_not, Bool.not_eq_false, Bool.not_eq_true, decide_eq_true_eq, decide_eq_false_iff_not] at b74
      have g := fin w6 ar6 h7 n6 kc6 (0 + c2 + c4 + c5 + c6) (0 + u2 + u4 + u5 + u6) _ (RT_mono R6' (Nat.le_refl _) (Nat.le_refl _) (by omega)) f6 (by rw [List.length_append, List.length_append, List.length_singleton]; omega) (by
        unfold mu_rtx
        rw [b37, if_pos rfl, mk_txt_b, if_neg (by rw [Bool.not_eq_true'] at b74; rw [b74]; decide), List.append_assoc]
        rfl)
      refine xe_mono (xe_loc (by intro q hq; simp only [List.mem_cons, List.not_mem_nil, or_false] at hq; rcases hq with rfl | rfl <;> rfl) (g)) (fun r M hM => ?_)
      exact ⟨_, hM.1, rfl, hM.2⟩
    · try simp only [xb_0, xb_1, ne_eq, Decidable.not_not, Bool.not_eq_false, Bool.not_eq_true, decide_eq_true_eq, decide_eq_false_iff_not] at b74
      refine xe_s (f := (78, _, _, _)) xt_g135 rfl rfl rfl rfl rfl ?_
      refine xe_gf xt_g135 rfl (q := 81) rfl (xf_0_16 fm) (ko_44) (by omega) rfl rfl ?_
      refine xe_s (f := (82, _, _, _)) xt_g135 rfl rfl rfl rfl rfl ?_
      refine xe_cN xt_g135 rfl rfl rfl (q := 85) rfl (kc_V xk_0_86 rfl (ko_47) (by omega) rfl rfl) xt_g14 (by decide) ⟨Nat.le_of_ble_eq_true rfl, Nat.le_of_ble_eq_true rfl, Nat.le_of_ble_eq_true rfl⟩ (k14_1 (m := ((pa_text q.2.2.2.1).length : Int)) R6'.1 (by omega) (by rw [tu_s, List.length_append, List.length_append]; omega) (by rw [tu_s, List.length_append, List.length_append, List.length_singleton]; omega)) (fun h8' n8 c8 u8 ht8 => ?_)
      obtain ⟨w8, h9, k8, rfl, R8⟩ := ht8
      rw [tu_s, Int.toNat_natCast, List.append_assoc, List.take_left'  rfl] at R8
      have R8' := RT_trans R6' (RT_1 R8)
      rw [tu_tu] at R8'
      have g := fin w8 ar6 h9 n8 _ (0 + c2 + c4 + c5 + c6 + c8) (0 + u2 + u4 + u5 + u6 + u8) (pa_text q.2.2.2.1) (RT_mono R8' (Nat.le_refl _) (Nat.le_refl _) (by omega)) f6 (by omega) (by
        unfold mu_rtx
        have em : (mk_going (mu_tm u) (mu_ck u) q.2.2.2.1 true).isEmpty = true := by
          rw [Bool.not_eq_false'] at b74
          exact b74
        rw [b37, if_pos rfl, mk_txt_b, if_pos em, List.append_nil])
      refine xe_mono (xe_loc (by intro q hq; simp only [List.mem_cons, List.not_mem_nil, or_false] at hq; rcases hq with rfl | rfl <;> rfl) (g)) (fun r M hM => ?_)
      exact ⟨_, hM.1, rfl, hM.2⟩
end XBK
