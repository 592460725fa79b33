/-! calls: type, suffix, cookies -/
theorem sml_id {c : Int} : xd_sml (xd_sml c) = xd_sml c := by
  unfold xd_sml
  split
  · rw [if_neg (by omega)]
  · rfl
theorem lbl_sml {c : Int} : xd_lbl (xd_sml c) = xd_lbl c := by
  unfold xd_lbl xd_pln
  rw [sml_id]
  refine bool_iff ?_
  simp only [Bool.or_eq_true, decide_eq_true_eq, xd_dig]
  unfold xd_sml
  split <;> omega
theorem lt_map {l : List Int} {k : Int} : lt (l.map xd_sml) k = xd_sml (lt l k) := by
  unfold lt
  rw [List.length_map]
  split
  · rename_i g
    rw [List.getD_eq_getElem?_getD, List.getElem?_map, List.getD_eq_getElem?_getD, List.getElem?_eq_getElem (by omega)]
    rfl
  · rfl
theorem cnt_map {l : List Int} : ∀ (N : Nat) (k : Int), xd_cnt xd_lbl (lt (l.map xd_sml)) N k = xd_cnt xd_lbl (lt l) N k
  | 0, k => rfl
  | N + 1, k => by
    unfold xd_cnt
    rw [lt_map, lbl_sml, cnt_map N (k + 1)]
theorem hs_map {l : List Int} {E : Int} : ∀ (F : Nat) (lb k : Int), xd_hs (lt (l.map xd_sml)) E F lb k = xd_hs (lt l) E F lb k
  | 0, lb, k => rfl
  | F + 1, lb, k => by
    unfold xd_hs
    rw [cnt_map, lt_map, hs_map F]
    have : (xd_sml (lt l (k + xd_cnt xd_lbl (lt l) (E - k).toNat k)) = 46) = (lt l (k + xd_cnt xd_lbl (lt l) (E - k).toNat k) = 46) := by
      refine propext ?_
      unfold xd_sml
      split <;> omega
    simp only [this]
theorem hn_all {l : List Int} : pa_hn (lt l) 0 l.length = l.map xd_sml := by
  unfold pa_hn
  rw [← sl_pa (by omega) (by omega) (Int.le_refl _), sl_all]
section XBT
variable {fm : Value} {w w' w1 w2 : kW} {s s' s1 s2 : Nat → Int} {p p' p1 p2 : Nat → Nat} {ar ar' : Nat → Nat → Option Nat} {v : Nat → Int} {h h' h1 h2 : xm_H} {n n' n1 n2 r k k' u' u1 u2 x y a b R : Nat} {l D : List Int} {L : List (List Int)} {A B : pa_A} {q : mq_T} {t t' t1 t2 : Nat → List Int} {kc kc' kc1 kc2 : Nat → Nat} {u : mu_T} {dp : Nat → Nat} {F fo G go d : Nat} {X Y : mf_T}
theorem cS_RT {BB CC : Nat} (S : cS w s p ar v h n t kc u dp) (R0 : RT BB CC w h n kc w' h' n' t' kc' u') (h0 : t' 0 = t 0) (h1 : (t' 1).length ≤ 2000) (h2 : (t' 2).length < 8000) (hs : ∀ k, k ≠ 8 → k ≠ 9 → k ≠ 10 → s' k = s k) (hp : p' 3 = p 3) (ha : ∀ k, k ≠ 7 → ar' k = ar k) : cS w' s' p' ar' v h' n' t' kc' u dp := by
  obtain ⟨K, H, S1, S2, S3⟩ := S
  exact ⟨R0.1, cB_kp H K.1 R0.2.1 hs hp ha, h0.trans S1, h1, h2⟩
/-- takeLine -/
theorem c71 (S : cS w s p ar v h n t kc u dp) (G : mG u) : xA fm 71 (ko w s p ar v h) n [.ref 44] (fun x h' n' u' => ∃ w' h1 kc', h' = ko w' s p ar v h1 ∧ RT 164 2 w h n kc w' h1 n' (tu t 0 []) kc' u' ∧ sS (gd w') h1 n' x (mu_ln u) ∧ cS w' s p ar v h1 n' (tu t 0 []) kc' (mu_sln u []) dp) := by
  obtain ⟨K, H, S1, S2, S3⟩ := S
  have l160 := G.1
  refine xe_mono (k71 K (by rw [S1]; omega)) (fun q M hM => ?_)
  obtain ⟨x, e1, w1, h2, kc1, e2, R1, H1⟩ := hM
  rw [S1] at R1 H1
  exact ⟨x, e1, w1, h2, kc1, e2, RT_mono R1 (by omega) (Nat.le_refl _) (Nat.le_refl _), H1, R1.1, cB_kp H K.1 R1.2.1 (fun _ _ _ _ => rfl) rfl (fun _ _ => rfl), tu_s, by rw [tu_n (by decide)]; exact S2, by rw [tu_n (by decide)]; exact S3⟩
/-- read -/
theorem c100 (hfm : fm = .null ∨ ∃ j, fm = .ref j) (S : cS w s p ar v h n t kc u dp) (H : sS (gd w) h n r l) (hl : l.length ≤ 160) {ob : Option Nat} {Bo : Option pa_A} (HB : adO w h n ob Bo) : xO fm 100 (ko w s p ar v h) n [.ref 49, .ref r, va_rf ob] (fun o h' n' u' => ∃ w' s' p' h1 t' kc', h' = ko w' s' p' ar v h1 ∧ RT 4600 840 w h n kc w' h1 n' t' kc' u' ∧ cS w' s' p' ar v h1 n' t' kc' u dp ∧ adO w' h1 n' o (pa_res (lt l) l.length Bo)) := by
  have S' := S
  obtain ⟨K, HB', S1, S2, S3⟩ := S
  refine xe_mono (k100 hfm K HB'.1 H HB (by omega) S3) (fun q M hM => ?_)
  obtain ⟨o, e1, w1, s1, p1, h2, t1, kc1, e2, R1, t1l, HO⟩ := hM
  refine ⟨o, e1, w1, s1, p1, h2, t1, kc1, e2, RT_RR R1, cS_RT S' (RT_RR R1) R1.2.2.2.2.1.1 (by rw [R1.2.2.2.2.1.2]; exact S2) t1l (fun k h8 h9 h10 => R1.2.2.1 k (fun g => by simp only [List.mem_cons, List.not_mem_nil, or_false] at g; omega)) (R1.2.2.2.1 3 (by decide)) (fun _ _ => rfl), HO⟩
/-- type -/
theorem c11_l (S : cS w s p ar v h n t kc u dp) {W : Int64} : ∀ (j : Nat) (Z : List Int) (w1 : kW) (h1 : xm_H) (n1 : Nat) (kc1 : Nat → Nat) (c u1 : Nat), j ≤ 8 → RT 0 0 w h n kc w1 h1 n1 (tu t 0 (mu_ln u ++ Z)) kc1 u1 → (mu_ln u ++ Z).length ≤ 160 → xe fm 11 (12, [(4, xi (8 * (j : Int) - 8)), (3, xi ((mu_ln u).length : Int)), (0, .ref 44), (1, .long W)], [], (ko w1 s p ar v h1, n1, c, u1)) (fun r M => ∃ z : Int, r = .inl (some (xi z)) ∧ ∃ w' h2 kc', M.1 = ko w' s p ar v h2 ∧ (((ty_r W j).all ty_ok = true ∧ (mu_ln u ++ Z).length + (ty_nz (ty_r W j)).length ≤ 160) → z = ((mu_ln u ++ Z ++ ty_nz (ty_r W j)).length : Int) ∧ RT 0 0 w h n kc w' h2 M.2.1 (tu t 0 (mu_ln u ++ Z ++ ty_nz (ty_r W j))) kc' M.2.2.2) ∧ (¬ ((ty_r W j).all ty_ok = true ∧ (mu_ln u ++ Z).length + (ty_nz (ty_r W j)).length ≤ 160) → z = -1 ∧ RT 0 0 w h n kc w' h2 M.2.1 (tu t 0 (mu_ln u)) kc' M.2.2.2)) := by
  have K := S.1
  have W0 := K.1.1
  intro j
  induction j with
  | zero =>
    intro Z w1 h1 n1 kc1 c u1 hj R1 hZ
    have N1 := R1.2.1.1
    have e0 : ty_nz (ty_r W 0) = [] := rfl
    rw [e0, List.append_nil]
    refine xe_s (f := (14, _, _, _)) xt_g11 rfl rfl rfl rfl rfl ?_
    refine xe_if_lt xt_g11 rfl (t := 90) rfl (q := 17) rfl (by first | omega | exact xb_r _) (fun b14 => ?_) (fun b14 => ?_)
    · try simp only [xb_0, xb_1, ne_eq, Decidable.not_not, Bool.not_eq_false, Bool.not_eq_true, decide_eq_true_eq, decide_eq_false_iff_not] at b14
      refine xe_s (f := (91, _, _, _)) xt_g11 rfl rfl rfl rfl rfl ?_
      refine xe_gf xt_g11 rfl (q := 94) rfl (xf_0_10 fm) (ko_44) (by omega) rfl rfl ?_
      refine xe_cR xt_g11 rfl rfl rfl (q := 97) rfl (kc_V xk_0_82 rfl (ko_45) (by omega) rfl rfl) xt_g12 (by decide) ⟨Nat.le_of_ble_eq_true rfl, Nat.le_of_ble_eq_true rfl, Nat.le_of_ble_eq_true rfl⟩ (k12_0 R1.1) ?_
      rw [tu_s]
      refine xe_iret xt_g11 rfl rfl xi_int.1 ?_
      try dsimp only
      exact ⟨_, rfl, w1, h1, kc1, rfl, fun _ => ⟨rfl, R1⟩, fun g => absurd ⟨rfl, by rw [List.length_nil]; omega⟩ g⟩
    · exact absurd b14 (by omega)
  | succ j ih =>
    intro Z w1 h1 n1 kc1 c u1 hj R1 hZ
    have N1 := R1.2.1.1
    have ej : 8 * ((j + 1 : Nat) : Int) - 8 = 8 * (j : Int) := by omega
    have hbr := xd_by_r W (8 * (j : Int))
    have e8 : ty_r W (j + 1) = xd_by W (8 * (j : Int)) :: ty_r W j := rfl
    rw [e8, List.all_cons, ej]
    have ll : (mu_ln u ++ Z).length = (mu_ln u).length + Z.length := List.length_append
    refine xe_s (f := (14, _, _, _)) xt_g11 rfl rfl rfl rfl rfl ?_
    refine xe_if_lt xt_g11 rfl (t := 90) rfl (q := 17) rfl (by first | omega | exact xb_r _) (fun b14 => ?_) (fun b14 => ?_)
    · exact absurd b14 (by omega)
    · try simp only [xb_0, xb_1, ne_eq, Decidable.not_not, Bool.not_eq_false, Bool.not_eq_true, decide_eq_true_eq, decide_eq_false_iff_not] at b14
      refine xe_s (f := (18, _, _, _)) xt_g11 rfl rfl rfl rfl rfl ?_
      refine xe_s (f := (20, _, _, _)) xt_g11 rfl rfl rfl rfl rfl ?_
      refine xe_lushr xt_g11 rfl (q := 21) rfl ?_
      refine xe_l2r xt_g11 rfl (q := 22) rfl ?_
      refine xe_sipush xt_g11 rfl (q := 25) rfl (by decide) (by decide) ?_
      refine xe_by xt_g11 rfl (q := 26) rfl ?_
      refine xe_s (f := (28, [(5, _), (4, _), (3, _), (0, _), (1, _)], _, _)) xt_g11 rfl rfl rfl rfl rfl ?_
      refine xe_s (f := (30, _, _, _)) xt_g11 rfl rfl rfl rfl rfl ?_
      refine xe_if_ne xt_g11 rfl (t := 36) rfl (q := 33) rfl (by first | omega | exact xb_r _) (fun b30 => ?_) (fun b30 => ?_)
      · try simp only [xb_0, xb_1, ne_eq, Decidable.not_not, Bool.not_eq_false, Bool.not_eq_true, decide_eq_true_eq, decide_eq_false_iff_not] at b30
        have nz : xd_by W (8 * (j : Int)) ≠ 0 := by omega
        have e1 : ty_nz (xd_by W (8 * (j : Int)) :: ty_r W j) = xd_by W (8 * (j : Int)) :: ty_nz (ty_r W j) := by unfold ty_nz; rw [List.filter_cons_of_pos (by simpa using nz)]
        rw [e1, List.length_cons]
        refine xe_s (f := (38, _, _, _)) xt_g11 rfl rfl rfl rfl rfl ?_
        refine xe_bipush xt_g11 rfl (q := 40) rfl (by decide) (by decide) ?_
        refine xe_ic_lt xt_g11 rfl (t := 63) rfl (q := 43) rfl (by first | omega | exact xb_r _) (by first | omega | exact xb_r _) (fun b40 => ?_) (fun b40 => ?_)
        · try simp only [xb_0, xb_1, ne_eq, Decidable.not_not, Bool.not_eq_false, Bool.not_eq_true, decide_eq_true_eq, decide_eq_false_iff_not] at b40
          refine xe_s (f := (64, _, _, _)) xt_g11 rfl rfl rfl rfl rfl ?_
          refine xe_gf xt_g11 rfl (q := 67) rfl (xf_0_10 fm) (ko_44) (by omega) rfl rfl ?_
          refine xe_s (f := (68, _, _, _)) xt_g11 rfl rfl rfl rfl rfl ?_
          refine xe_cN xt_g11 rfl rfl rfl (q := 71) rfl (kc_V xk_0_86 rfl (ko_45) (by omega) rfl rfl) xt_g14 (by decide) ⟨Nat.le_of_ble_eq_true rfl, Nat.le_of_ble_eq_true rfl, Nat.le_of_ble_eq_true rfl⟩ (k14_0 (m := ((mu_ln u).length : Int)) R1.1 (by omega) (by rw [tu_s]; omega) (by rw [tu_s]; omega)) (fun h3' n3 c3 u3 hp => ?_)
          obtain ⟨w3, h3, k3, rfl, R3⟩ := hp
          rw [tu_s, Int.toNat_natCast, List.take_left' rfl] at R3
          have R3' := RT_trans R1 (RT_0 R3)
          rw [tu_tu] at R3'
          refine xe_s (f := (72, _, xi (-1) :: _, _)) xt_g11 rfl rfl rfl rfl rfl ?_
          refine xe_iret xt_g11 rfl rfl xi_int.1 ?_
          try dsimp only
          refine ⟨-1, rfl, w3, h3, _, rfl, fun g => ?_, fun _ => ⟨rfl, R3'⟩⟩
          rw [Bool.and_eq_true] at g
          have := of_decide_eq_true g.1.1
          omega
        · try simp only [xb_0, xb_1, ne_eq, Decidable.not_not, Bool.not_eq_false, Bool.not_eq_true, decide_eq_true_eq, decide_eq_false_iff_not] at b40
          refine xe_s (f := (45, _, _, _)) xt_g11 rfl rfl rfl rfl rfl ?_
          refine xe_bipush xt_g11 rfl (q := 47) rfl (by decide) (by decide) ?_
          refine xe_ic_gt xt_g11 rfl (t := 63) rfl (q := 50) rfl (by first | omega | exact xb_r _) (by first | omega | exact xb_r _) (fun b47 => ?_) (fun b47 => ?_)
          · try simp only [xb_0, xb_1, ne_eq, Decidable.not_not, Bool.not_eq_false, Bool.not_eq_true, decide_eq_true_eq, decide_eq_false_iff_not] at b47
            refine xe_s (f := (64, _, _, _)) xt_g11 rfl rfl rfl rfl rfl ?_
            refine xe_gf xt_g11 rfl (q := 67) rfl (xf_0_10 fm) (ko_44) (by omega) rfl rfl ?_
            refine xe_s (f := (68, _, _, _)) xt_g11 rfl rfl rfl rfl rfl ?_
            refine xe_cN xt_g11 rfl rfl rfl (q := 71) rfl (kc_V xk_0_86 rfl (ko_45) (by omega) rfl rfl) xt_g14 (by decide) ⟨Nat.le_of_ble_eq_true rfl, Nat.le_of_ble_eq_true rfl, Nat.le_of_ble_eq_true rfl⟩ (k14_0 (m := ((mu_ln u).length : Int)) R1.1 (by omega) (by rw [tu_s]; omega) (by rw [tu_s]; omega)) (fun h3' n3 c3 u3 hp => ?_)
            obtain ⟨w3, h3, k3, rfl, R3⟩ := hp
            rw [tu_s, Int.toNat_natCast, List.take_left' rfl] at R3
            have R3' := RT_trans R1 (RT_0 R3)
            rw [tu_tu] at R3'
            refine xe_s (f := (72, _, xi (-1) :: _, _)) xt_g11 rfl rfl rfl rfl rfl ?_
            refine xe_iret xt_g11 rfl rfl xi_int.1 ?_
            try dsimp only
            refine ⟨-1, rfl, w3, h3, _, rfl, fun g => ?_, fun _ => ⟨rfl, R3'⟩⟩
            rw [Bool.and_eq_true] at g
            have := of_decide_eq_true g.1.1
            omega
          · try simp only [xb_0, xb_1, ne_eq, Decidable.not_not, Bool.not_eq_false, Bool.not_eq_true, decide_eq_true_eq, decide_eq_false_iff_not] at b47
            refine xe_s (f := (51, _, _, _)) xt_g11 rfl rfl rfl rfl rfl ?_
            refine xe_gf xt_g11 rfl (q := 54) rfl (xf_0_10 fm) (ko_44) (by omega) rfl rfl ?_
            refine xe_cR xt_g11 rfl rfl rfl (q := 57) rfl (kc_V xk_0_82 rfl (ko_45) (by omega) rfl rfl) xt_g12 (by decide) ⟨Nat.le_of_ble_eq_true rfl, Nat.le_of_ble_eq_true rfl, Nat.le_of_ble_eq_true rfl⟩ (k12_0 R1.1) ?_
            rw [tu_s]
            refine xe_sipush xt_g11 rfl (q := 60) rfl (by decide) (by decide) ?_
            refine xe_ic_lt xt_g11 rfl (t := 73) rfl (q := 63) rfl (by first | omega | exact xb_r _) (by first | omega | exact xb_r _) (fun b60 => ?_) (fun b60 => ?_)
            · try simp only [xb_0, xb_1, ne_eq, Decidable.not_not, Bool.not_eq_false, Bool.not_eq_true, decide_eq_true_eq, decide_eq_false_iff_not] at b60
              refine xe_s (f := (74, _, _, _)) xt_g11 rfl rfl rfl rfl rfl ?_
              refine xe_gf xt_g11 rfl (q := 77) rfl (xf_0_10 fm) (ko_44) (by omega) rfl rfl ?_
              refine xe_s (f := (79, _, _, _)) xt_g11 rfl rfl rfl rfl rfl ?_
              refine xe_i2c xt_g11 rfl (q := 80) rfl (by omega) ?_
              refine xe_cA xt_g11 rfl rfl rfl (q := 83) rfl (kc_V xk_0_89 rfl (ko_45) (by omega) rfl rfl) xt_g63 (by decide) ⟨Nat.le_of_ble_eq_true rfl, Nat.le_of_ble_eq_true rfl, Nat.le_of_ble_eq_true rfl⟩ (k63_0 (c := xd_by W (8 * (j : Int))) R1.1 (by omega) (by rw [tu_s]; omega)) (fun x4 h4' n4 c4 u4 hq => ?_)
              obtain ⟨rfl, w4, h4, k4, rfl, R4⟩ := hq
              rw [tu_s, List.append_assoc] at R4
              have R4' := RT_trans R1 (RT_0 R4)
              rw [tu_tu] at R4'
              refine xe_s (f := (84, _, _, _)) xt_g11 rfl rfl rfl rfl rfl ?_
              refine xe_iinc xt_g11 rfl (q := 87) rfl rfl (by decide) (L1 := [(4, _), (5, _), (3, _), (0, _), (1, _)]) rfl ?_
              refine xe_s (f := (12, _, _, _)) xt_g11 rfl rfl rfl rfl rfl ?_
              have e2 : ty_ok (xd_by W (8 * (j : Int))) = true := decide_eq_true (Or.inr ⟨by omega, by omega⟩)
              have g := ih (Z ++ [xd_by W (8 * (j : Int))]) w4 h4 n4 _ (c + c4) _ (by omega) R4' (by rw [← List.append_assoc, List.length_append, List.length_singleton]; omega)
              rw [show 8 * (j : Int) - 8 = 8 * (j : Int) + -8 by omega, ← List.append_assoc, List.append_assoc (mu_ln u ++ Z), List.singleton_append, List.length_append (as := mu_ln u ++ Z), List.length_singleton, show (mu_ln u ++ Z).length + 1 + (ty_nz (ty_r W j)).length = (mu_ln u ++ Z).length + ((ty_nz (ty_r W j)).length + 1) by omega] at g
              rw [e2, Bool.true_and]
              exact xe_loc (by intro q hq; simp only [List.mem_cons, List.not_mem_nil, or_false] at hq; rcases hq with rfl | rfl | rfl | rfl <;> rfl) (g)
            · try simp only [xb_0, xb_1, ne_eq, Decidable.not_not, Bool.not_eq_false, Bool.not_eq_true, decide_eq_true_eq, decide_eq_false_iff_not] at b60
              refine xe_s (f := (64, _, _, _)) xt_g11 rfl rfl rfl rfl rfl ?_
              refine xe_gf xt_g11 rfl (q := 67) rfl (xf_0_10 fm) (ko_44) (by omega) rfl rfl ?_
              refine xe_s (f := (68, _, _, _)) xt_g11 rfl rfl rfl rfl rfl ?_
              refine xe_cN xt_g11 rfl rfl rfl (q := 71) rfl (kc_V xk_0_86 rfl (ko_45) (by omega) rfl rfl) xt_g14 (by decide) ⟨Nat.le_of_ble_eq_true rfl, Nat.le_of_ble_eq_true rfl, Nat.le_of_ble_eq_true rfl⟩ (k14_0 (m := ((mu_ln u).length : Int)) R1.1 (by omega) (by rw [tu_s]; omega) (by rw [tu_s]; omega)) (fun h3' n3 c3 u3 hp => ?_)
              obtain ⟨w3, h3, k3, rfl, R3⟩ := hp
              rw [tu_s, Int.toNat_natCast, List.take_left' rfl] at R3
              have R3' := RT_trans R1 (RT_0 R3)
              rw [tu_tu] at R3'
              refine xe_s (f := (72, _, xi (-1) :: _, _)) xt_g11 rfl rfl rfl rfl rfl ?_
              refine xe_iret xt_g11 rfl rfl xi_int.1 ?_
              try dsimp only
              exact ⟨-1, rfl, w3, h3, _, rfl, fun g => absurd g.2 (by omega), fun _ => ⟨rfl, R3'⟩⟩
      · try simp only [xb_0, xb_1, ne_eq, Decidable.not_not, Bool.not_eq_false, Bool.not_eq_true, decide_eq_true_eq, decide_eq_false_iff_not] at b30
        have z0 : xd_by W (8 * (j : Int)) = 0 := by omega
        have e1 : ty_nz (xd_by W (8 * (j : Int)) :: ty_r W j) = ty_nz (ty_r W j) := by unfold ty_nz; rw [List.filter_cons_of_neg (by simp [z0])]
        have e2 : ty_ok (xd_by W (8 * (j : Int))) = true := decide_eq_true (Or.inl z0)
        rw [e1, e2, Bool.true_and]
        refine xe_s (f := (84, _, _, _)) xt_g11 rfl rfl rfl rfl rfl ?_
        refine xe_iinc xt_g11 rfl (q := 87) rfl rfl (by decide) (L1 := [(4, _), (5, _), (3, _), (0, _), (1, _)]) rfl ?_
        refine xe_s (f := (12, _, _, _)) xt_g11 rfl rfl rfl rfl rfl ?_
        have g := ih Z w1 h1 n1 kc1 c u1 (by omega) R1 hZ
        rw [show 8 * (j : Int) - 8 = 8 * (j : Int) + -8 by omega] at g
        exact xe_loc (by intro q hq; simp only [List.mem_cons, List.not_mem_nil, or_false] at hq; rcases hq with rfl | rfl | rfl | rfl <;> rfl) (g)
theorem c11 (S : cS w s p ar v h n t kc u dp) (G : mG u) {W : Int64} : xI fm 11 (ko w s p ar v h) n [.ref 44, .long W] (fun z h' n' u' => z = (mu_type u W).1 ∧ cR 0 0 h n kc h' n' u' (mu_type u W).2 dp) := by
  have S' := S
  obtain ⟨K, H, S1, S2, S3⟩ := S
  have W0 := K.1.1
  have l160 := G.1
  unfold xI mu_type
  refine xe_s (f := (1, _, _, _)) xt_g11 rfl rfl rfl rfl rfl ?_
  refine xe_gf xt_g11 rfl (q := 4) rfl (xf_0_10 fm) (ko_44) (by omega) rfl rfl ?_
  refine xe_cR xt_g11 rfl rfl rfl (q := 7) rfl (kc_V xk_0_82 rfl (ko_45) (by omega) rfl rfl) xt_g12 (by decide) ⟨Nat.le_of_ble_eq_true rfl, Nat.le_of_ble_eq_true rfl, Nat.le_of_ble_eq_true rfl⟩ (k12_0 K) ?_
  rw [S1]
  refine xe_s (f := (8, [(3, _), (0, _), (1, _)], _, _)) xt_g11 rfl rfl rfl rfl rfl ?_
  refine xe_bipush xt_g11 rfl (q := 10) rfl (by decide) (by decide) ?_
  refine xe_s (f := (12, [(4, _), (3, _), (0, _), (1, _)], _, _)) xt_g11 rfl rfl rfl rfl rfl ?_
  have g := c11_l (fm := fm) (W := W) S' 8 [] w h n kc 0 0 (Nat.le_refl _) (by rw [List.append_nil, ← S1, tu_id]; exact RT_ke K ke_refl (by omega) (by omega)) (by rw [List.append_nil]; omega)
  rw [List.append_nil] at g
  refine xe_mono (xe_loc (by intro q hq; simp only [List.mem_cons, List.not_mem_nil, or_false] at hq; rcases hq with rfl | rfl | rfl | rfl <;> rfl) (g)) (fun r M hM => ?_)
  obtain ⟨z, g1, w3, h3, kc3, g2, g3, g4⟩ := hM
  by_cases c : (ty_r W 8).all ty_ok = true ∧ (mu_ln u).length + (ty_nz (ty_r W 8)).length ≤ 160
  · rw [if_pos c]
    obtain ⟨q1, q2⟩ := g3 c
    refine ⟨z, g1, q1, w3, s, p, ar, v, h3, _, kc3, g2, RU_RT q2, q2.1, ?_, tu_s, by rw [tu_n (by decide)]; exact S2, by rw [tu_n (by decide)]; exact S3⟩
    exact cB_kp H K.1 q2.2.1 (fun _ _ _ _ => rfl) rfl (fun _ _ => rfl)
  · rw [if_neg c]
    obtain ⟨q1, q2⟩ := g4 c
    refine ⟨z, g1, q1, w3, s, p, ar, v, h3, _, kc3, g2, RU_RT q2, q2.1, ?_, tu_s, by rw [tu_n (by decide)]; exact S2, by rw [tu_n (by decide)]; exact S3⟩
    exact cB_kp H K.1 q2.2.1 (fun _ _ _ _ => rfl) rfl (fun _ _ => rfl)
/-- suffix -/
theorem c70 (hfm : fm = .null ∨ ∃ j, fm = .ref j) (S : cS w s p ar v h n t kc u dp) (G : mG u) : xI fm 70 (ko w s p ar v h) n [.ref 44] (fun z h' n' u' => z = (mu_suffix u).1 ∧ cR 500 6 h n kc h' n' u' (mu_suffix u).2 dp) := by
  have l160 := G.1
  have W0 := S.1.1.1
  have ehs := hs_map (l := mu_ln u) (E := (mu_ln u).length) 7 0 0
  have lm : ((mu_ln u).map xd_sml).length = (mu_ln u).length := List.length_map _
  obtain ⟨E1, E2⟩ := hE_of (t := lt ((mu_ln u).map xd_sml)) (E := (mu_ln u).length) (k := 0) (F := 7) (lb := 0)
  rw [ehs] at E1 E2
  have hrr := xd_hs_b (t := lt (mu_ln u)) (E := (mu_ln u).length) (fun j hj => lt_out hj) 7 0 0 (by omega)
  have her : hE (lt ((mu_ln u).map xd_sml)) (mu_ln u).length 7 0 0 = -1 ∨ hE (lt ((mu_ln u).map xd_sml)) (mu_ln u).length 7 0 0 = (xd_hs (lt (mu_ln u)) (mu_ln u).length 7 0 0).1 := by
    cases g : (xd_hs (lt (mu_ln u)) (mu_ln u).length 7 0 0).2 with
    | true => exact Or.inr (E1 g)
    | false => exact Or.inl (E2 g)
  unfold xI
  refine xe_s (f := (1, _, _, _)) xt_g70 rfl rfl rfl rfl rfl ?_
  refine xe_cA xt_g70 rfl rfl rfl (q := 4) rfl (kc_V xk_0_93 rfl (ko_44) (by omega) rfl rfl) xt_g71 (by decide) ⟨Nat.le_of_ble_eq_true rfl, Nat.le_of_ble_eq_true rfl, Nat.le_of_ble_eq_true rfl⟩ (c71 S G) (fun x1 h1' n1 c1 u1 hp => ?_)
  obtain ⟨w1, h2, kc1, rfl, R1, H1, S1⟩ := hp
  have N1 := R1.2.1.1
  have K1 := R1.1
  have C1 := S1.2.1.1
  refine xe_cA xt_g70 rfl rfl rfl (q := 7) rfl (kc_S xk_0_97 (Nat.le_of_ble_eq_true rfl)) xt_g72 (by decide) ⟨Nat.le_of_ble_eq_true rfl, Nat.le_of_ble_eq_true rfl, Nat.le_of_ble_eq_true rfl⟩ (k72 K1 C1 H1) (fun x2 h2' n2 c2 u2 hq => ?_)
  obtain ⟨h3, rfl, ke2, H2, n2', u2'⟩ := hq
  have N2 := ke2.1
  have K2 := KW_ke K1 ke2
  have R2 := RT_trans R1 (RT_ke (B := 324) (C := 3) (u' := u2) K1 ke2 n2' (by omega))
  have S2 := cS_RT (s' := s) (p' := p) (ar' := ar) S1 (RT_ke (B := 324) (C := 3) (u' := u2) K1 ke2 n2' (by omega)) rfl S1.2.2.2.1 S1.2.2.2.2 (fun _ _ _ _ => rfl) rfl (fun _ _ => rfl)
  obtain ⟨fs, F1, _, _, _⟩ := sS_at H2
  refine xe_s (f := (8, [(1, _), (0, _)], _, _)) xt_g70 rfl rfl rfl rfl rfl ?_
  refine xe_s (f := (9, _, _, _)) xt_g70 rfl rfl rfl rfl rfl ?_
  refine xe_s (f := (10, _, xi 0 :: _, _)) xt_g70 rfl rfl rfl rfl rfl ?_
  refine xe_cR xt_g70 rfl rfl rfl (q := 13) rfl (kc_S xk_0_101 (Nat.le_of_ble_eq_true rfl)) xt_g84 (by decide) ⟨Nat.le_of_ble_eq_true rfl, Nat.le_of_ble_eq_true rfl, Nat.le_of_ble_eq_true rfl⟩ (s84 hfm (sS_ko H2) (Int.le_refl _) (by omega)) ?_
  rw [lm]
  refine xe_s (f := (14, _, _, _)) xt_g70 rfl rfl rfl rfl rfl ?_
  refine xe_cR xt_g70 rfl rfl rfl (q := 17) rfl (kc_V xk_0_105 rfl (F1 _ _ _ _ _) (by omega) rfl rfl) xt_g31 (by decide) ⟨Nat.le_of_ble_eq_true rfl, Nat.le_of_ble_eq_true rfl, Nat.le_of_ble_eq_true rfl⟩ (s31 (sS_ko H2)) ?_
  rw [lm]
  refine xe_ic_eq xt_g70 rfl (t := 22) rfl (q := 20) rfl (by first | omega | exact xb_r _) (by first | omega | exact xb_r _) (fun b17 => ?_) (fun b17 => ?_)
  · try simp only [xb_0, xb_1, ne_eq, Decidable.not_not, Bool.not_eq_false, Bool.not_eq_true, decide_eq_true_eq, decide_eq_false_iff_not] at b17
    have hok : (xd_hs (lt (mu_ln u)) (mu_ln u).length 7 0 0).2 = true ∧ (xd_hs (lt (mu_ln u)) (mu_ln u).length 7 0 0).1 = (mu_ln u).length := by
      cases g : (xd_hs (lt (mu_ln u)) (mu_ln u).length 7 0 0).2 with
      | true => rw [E1 g] at b17; exact ⟨rfl, b17⟩
      | false => rw [E2 g] at b17; omega
    have enw : sf_new (lt (mu_ln u)) ((mu_ln u).length : Int) (mu_sf u) = if (mu_sf u).length < 8 ∧ (mu_ln u).map xd_sml ∉ mu_sf u then some ((mu_ln u).map xd_sml) else none := by
      unfold sf_new
      rw [hn_all]
      by_cases g : (mu_sf u).length < 8 ∧ (mu_ln u).map xd_sml ∉ mu_sf u
      · rw [if_pos g, if_pos ⟨hok.1, hok.2, g⟩]
      · rw [if_neg g, if_neg (fun q => g q.2.2)]
    refine xe_s (f := (23, _, _, _)) xt_g70 rfl rfl rfl rfl rfl ?_
    refine xe_gf xt_g70 rfl (q := 26) rfl (xf_0_78 fm) (ko_44) (by omega) rfl rfl ?_
    refine xe_gf xt_g70 rfl (q := 29) rfl (xf_0_108 fm) (ko_59) (by omega) rfl rfl ?_
    refine xe_s (f := (30, _, _, _)) xt_g70 rfl rfl rfl rfl rfl ?_
    refine xe_cI xt_g70 rfl rfl rfl (q := 33) rfl (kc_V xk_0_112 rfl (ko_60) (by omega) rfl rfl) xt_g90 (by decide) ⟨Nat.le_of_ble_eq_true rfl, Nat.le_of_ble_eq_true rfl, Nat.le_of_ble_eq_true rfl⟩ (k90 K2 S2.2.1.2.2.2.2.1 H2) (fun z3 h3' n3 c3 u3 hr => ?_)
    obtain ⟨s5, ar5, h5, rfl, ke5, n5', u5', g5, g6, ez, HL5⟩ := hr
    rw [show mu_sf (mu_sln u []) = mu_sf u from rfl] at ez HL5
    rw [ez]
    have N5 := ke5.1
    have kP : kp w1 h3 n2 w1 h5 n3 := ke_kp ke5
    have cb : ∀ (LL : List (List Int)), sfL w1 s5 ar5 h5 n3 LL → cS w1 s5 p ar5 v h5 n3 (tu t 0 []) kc1 (mu_sln (mu_ssf u LL) []) dp := by
      intro LL HL
      obtain ⟨_, ⟨a1, a2, a3, a4, a5, a6, a7, a8, a9, a10, a11, a12, a13⟩, q1, q2, q3⟩ := S2
      have e33 : ar5 3 = ar 3 := g6 3 (by decide)
      refine ⟨KW_ke K2 ke5, ⟨cst_kp a1 K2.1 kP, sS_kp a2 kP, msL_kp a3 kP (g5 6 (by decide)) (g6 1 (by decide)), (g5 7 (by decide)).trans a4, HL, (g5 12 (by decide)).trans a6, (g5 14 (by decide)).trans a7, ckL_kp a8 kP (g5 13 (by decide)) (g6 6 (by decide)), fun i hi => ?_, ?_, ?_, orL_kp a12 kP (g5 11 (by decide)) (g6 0 (by decide)), a13⟩, q1, q2, q3⟩
      · rw [g6 2 (by decide), e33]; exact a9 i hi
      · rw [e33]; exact frL_kp a10 kP e33
      · rw [e33]; exact rqL_kp a11 kP (g6 4 (by decide))
    have R5 := RT_trans R2 (RT_ke (B := 1) (C := 1) (u' := u3) K2 ke5 n5' u5')
    refine xe_if_eq xt_g70 rfl (t := 49) rfl (q := 36) rfl (by first | omega | exact xb_r _) (fun b33 => ?_) (fun b33 => ?_)
    · try simp only [xb_0, xb_1, ne_eq, Decidable.not_not, Bool.not_eq_false, Bool.not_eq_true, decide_eq_true_eq, decide_eq_false_iff_not] at b33
      refine xe_s (f := (50, _, xi (-1) :: _, _)) xt_g70 rfl rfl rfl rfl rfl ?_
      refine xe_iret xt_g70 rfl rfl xi_int.1 ?_
      try dsimp only
      have nc : ¬ ((mu_sf u).length < 8 ∧ (mu_ln u).map xd_sml ∉ mu_sf u) := b33
      rw [if_neg nc] at HL5 enw
      unfold mu_suffix
      rw [enw]
      exact ⟨-1, rfl, rfl, w1, s5, p, ar5, v, h5, _, kc1, rfl, RU_m (RU_RT (RT_mono R5 (Nat.le_refl _) (Nat.le_refl _) (by omega))) (by omega) (by omega), cb _ HL5⟩
    · try simp only [xb_0, xb_1, ne_eq, Decidable.not_not, Bool.not_eq_false, Bool.not_eq_true, decide_eq_true_eq, decide_eq_false_iff_not] at b33
      refine xe_s (f := (37, _, _, _)) xt_g70 rfl rfl rfl rfl rfl ?_
      refine xe_gf xt_g70 rfl (q := 40) rfl (xf_0_78 fm) (ko_44) (by omega) rfl rfl ?_
      refine xe_gf xt_g70 rfl (q := 43) rfl (xf_0_108 fm) (ko_59) (by omega) rfl rfl ?_
      refine xe_cR xt_g70 rfl rfl rfl (q := 46) rfl (kc_V xk_0_118 rfl (ko_60) (by omega) rfl rfl) xt_g95 (by decide) ⟨Nat.le_of_ble_eq_true rfl, Nat.le_of_ble_eq_true rfl, Nat.le_of_ble_eq_true rfl⟩ (k95 (by omega)) ?_
      refine xe_s (f := (50, _, _, _)) xt_g70 rfl rfl rfl rfl rfl ?_
      refine xe_iret xt_g70 rfl rfl xi_int.1 ?_
      try dsimp only
      have yc : (mu_sf u).length < 8 ∧ (mu_ln u).map xd_sml ∉ mu_sf u := b33
      rw [if_pos yc] at HL5 enw
      unfold mu_suffix
      rw [enw]
      refine ⟨_, rfl, ?_, w1, s5, p, ar5, v, h5, _, kc1, rfl, RU_m (RU_RT (RT_mono R5 (Nat.le_refl _) (Nat.le_refl _) (by omega))) (by omega) (by omega), cb _ HL5⟩
      rw [HL5.1, List.length_append, List.length_singleton]
      show _ = ((mu_sf u).length : Int) + 1
      omega
  · try simp only [xb_0, xb_1, ne_eq, Decidable.not_not, Bool.not_eq_false, Bool.not_eq_true, decide_eq_true_eq, decide_eq_false_iff_not] at b17
    refine xe_s (f := (21, _, xi (-1) :: _, _)) xt_g70 rfl rfl rfl rfl rfl ?_
    refine xe_iret xt_g70 rfl rfl xi_int.1 ?_
    try dsimp only
    have no : sf_new (lt (mu_ln u)) ((mu_ln u).length : Int) (mu_sf u) = none := by
      unfold sf_new
      rw [if_neg]
      rintro ⟨q1, q2, _⟩
      rw [E1 q1] at b17
      exact b17 q2
    unfold mu_suffix
    rw [no]
    exact ⟨-1, rfl, rfl, w1, s, p, ar, v, h3, _, kc1, rfl, RU_m (RU_RT (RT_mono R2 (Nat.le_refl _) (Nat.le_refl _) (by omega))) (by omega) (by omega), S2⟩
end XBT
