/-! calls: answer -/
section XC1
variable {fm : Value} {w w' w1 w2 : kW} {s s' s1 s2 : Nat → Int} {p p' p1 p2 : Nat → Nat} {ar ar' : Nat → Nat → Option Nat} {v : Nat → Int} {h h' h1 h2 : xm_H} {n n' n1 n2 r k k' u' u1 u2 x y a b R : Nat} {l D : List Int} {L : List (List Int)} {A B : pa_A} {q : mq_T} {t t' t1 t2 : Nat → List Int} {kc kc' kc1 kc2 : Nat → Nat} {u : mu_T} {dp : Nat → Nat} {F fo G go d : Nat} {X Y : mf_T}
theorem drop_s {ln : List Int} {Y Z Z0 : Nat → Option mq_T} {FR : Nat → Option mf_T} {c : Nat → Bool} : mu_drop (mu_srq (mu_sfr (mu_srq (mu_sln u ln) Y) FR) Z) c = mu_srq (mu_sln (mu_drop (mu_srq (mu_sfr u FR) Z0) c) ln) (fun r => mq_fl c (Z r)) := rfl
theorem dq_s {Y : Nat → Option mq_T} {f : Int} : mu_dq u f = mu_srq (mu_srq (mu_sln u []) Y) (mu_up (mu_rq u) f.toNat none) := rfl
theorem drop_rq {Z : Nat → Option mq_T} {c : Nat → Bool} : mu_rq (mu_drop (mu_srq u Z) c) = fun r => mq_fl c (Z r) := rfl
theorem srq_fr {Z : Nat → Option mq_T} {ln : List Int} : mu_fr (mu_srq (mu_sln u ln) Z) = mu_fr u := rfl
theorem srq_rq {Z : Nat → Option mq_T} : mu_rq (mu_srq u Z) = Z := rfl
/-- answer -/
theorem c182 (hfm : fm = .null ∨ ∃ j, fm = .ref j) (S : cS w s p ar v h n t kc u dp) (I : mI u dp) (G : mG u) {f : Int} (e : mu_ir u f = true) : xN fm 182 (ko w s p ar v h) n [.ref 44, xi f] (fun h' n' u' => cR 200 6 h n kc h' n' u' (mu_answer u f) dp) := by
  have W0 := S.1.1.1
  unfold xN
  refine xe_s (f := (1, _, _, _)) xt_g182 rfl rfl rfl rfl rfl ?_
  refine xe_cA xt_g182 rfl rfl rfl (q := 4) rfl (kc_V xk_0_93 rfl (ko_44) (by omega) rfl rfl) xt_g71 (by decide) ⟨Nat.le_of_ble_eq_true rfl, Nat.le_of_ble_eq_true rfl, Nat.le_of_ble_eq_true rfl⟩ (c71 S G) (fun x1 h1' n1 c1 u1 hp => ?_)
  obtain ⟨w1, h2, kc1, rfl, R1, H1, S1⟩ := hp
  have N1 := R1.2.1.1
  obtain ⟨q, yy, f0, f1, eq, e4, HR⟩ := at_rq S1.2.1 (f := f) e
  have eq : mu_rq u f.toNat = some q := eq
  have em : mu_answer u f = mu_dq (mu_ans1 u f q) f := by
    unfold mu_answer
    rw [eq]
    dsimp only
    rw [if_pos e]
  have HR' := HR
  obtain ⟨fo', ad, ak, lf, la, lw, b1, b2, b3, b4, b5, b6, b7⟩ := HR
  have X1 := (ko_d (w := w1) (s := s) (p := p) (ar := aw ar 4 f.toNat none) (v := v) b2.1).trans b1
  obtain ⟨i1, i2, i3⟩ := I.2.1 f.toNat (by omega) q eq
  obtain ⟨X, eX⟩ := Option.isSome_iff_exists.mp i3
  obtain ⟨fo, e3, HO⟩ := (S1.2.1.2.2.2.2.2.2.2.2.2.1 q.1.toNat (by omega)).2 X eX
  have efo : fo' = fo := by rw [e3] at b5; cases b5; rfl
  subst efo
  obtain ⟨fad, d1, d2, d3, d4, d5⟩ := HO
  have X2 := (ko_d (w := w1) (s := s) (p := p) (ar := aw ar 4 f.toNat none) (v := v) d2.1).trans d1
  have S2 : cS w1 s p (aw ar 4 f.toNat none) v h2 n1 (tu t 0 []) kc1 (mu_srq (mu_sln u []) (mu_up (mu_rq u) f.toNat none)) dp := ⟨S1.1, cB_rq (R := f.toNat) (o := none) (oq := none) (cB_x S1.2.1) (fun _ => rfl) (fun q g => by cases g), S1.2.2⟩
  have I2 : mI (mu_srq (mu_sln u []) (mu_up (mu_rq u) f.toNat none)) dp := mI_r0 (u := mu_sln u []) (mI_eq I rfl rfl rfl rfl)
  rw [em]
  refine xe_s (f := (5, [(2, _), (0, _), (1, _)], _, _)) xt_g182 rfl rfl rfl rfl rfl ?_
  refine xe_s (f := (6, _, _, _)) xt_g182 rfl rfl rfl rfl rfl ?_
  refine xe_s (f := (7, _, _, _)) xt_g182 rfl rfl rfl rfl rfl ?_
  refine xe_cR xt_g182 rfl rfl rfl (q := 10) rfl (kc_V xk_0_197 rfl (ko_44) (by omega) rfl rfl) xt_g183 (by decide) ⟨Nat.le_of_ble_eq_true rfl, Nat.le_of_ble_eq_true rfl, Nat.le_of_ble_eq_true rfl⟩ (k183 (by omega) ⟨f0, f1⟩ e4) ?_
  refine xe_s (f := (11, [(3, _), (2, _), (0, _), (1, _)], _, _)) xt_g182 rfl rfl rfl rfl rfl ?_
  refine xe_s (f := (12, _, _, _)) xt_g182 rfl rfl rfl rfl rfl ?_
  refine xe_gf xt_g182 rfl (q := 15) rfl (xf_0_50 fm) (ko_44) (by omega) rfl rfl ?_
  refine xe_s (f := (16, _, _, _)) xt_g182 rfl rfl rfl rfl rfl ?_
  refine xe_s (f := (17, _, _, _)) xt_g182 rfl rfl rfl rfl rfl ?_
  refine xe_kn_58 xt_g182 rfl (q := 18) rfl (by omega) (by omega) (by omega) ?_
  refine xe_s (f := (19, _, _, _)) xt_g182 rfl rfl rfl rfl rfl ?_
  refine xe_cR xt_g182 rfl rfl rfl (q := 22) rfl (kc_V xk_0_201 rfl (X1) (by omega) rfl rfl) xt_g133 (by decide) ⟨Nat.le_of_ble_eq_true rfl, Nat.le_of_ble_eq_true rfl, Nat.le_of_ble_eq_true rfl⟩ (k133 HR') ?_
  refine xe_if_ne xt_g182 rfl (t := 34) rfl (q := 25) rfl (by first | omega | exact xb_r _) (fun b22 => ?_) (fun b22 => ?_)
  · try simp only [xb_0, xb_1, ne_eq, Decidable.not_not, Bool.not_eq_false, Bool.not_eq_true, decide_eq_true_eq, decide_eq_false_iff_not] at b22
    obtain ⟨z9, ez9⟩ := Option.isSome_iff_exists.mp b22
    refine xe_s (f := (35, _, _, _)) xt_g182 rfl rfl rfl rfl rfl ?_
    refine xe_cR xt_g182 rfl rfl rfl (q := 38) rfl (kc_V xk_0_209 rfl (X1) (by omega) rfl rfl) xt_g185 (by decide) ⟨Nat.le_of_ble_eq_true rfl, Nat.le_of_ble_eq_true rfl, Nat.le_of_ble_eq_true rfl⟩ (k185 HR' ez9) ?_
    refine xe_if_eq xt_g182 rfl (t := 58) rfl (q := 41) rfl (by first | omega | exact xb_r _) (fun b38 => ?_) (fun b38 => ?_)
    · try simp only [xb_0, xb_1, ne_eq, Decidable.not_not, Bool.not_eq_false, Bool.not_eq_true, decide_eq_true_eq, decide_eq_false_iff_not] at b38
      refine xe_s (f := (59, _, _, _)) xt_g182 rfl rfl rfl rfl rfl ?_
      refine xe_s (f := (60, _, xi 4 :: _, _)) xt_g182 rfl rfl rfl rfl rfl ?_
      refine xe_s (f := (61, _, _, _)) xt_g182 rfl rfl rfl rfl rfl ?_
      refine xe_gf xt_g182 rfl (q := 64) rfl (xf_0_212 fm) (X1) (by omega) rfl rfl ?_
      refine xe_gf xt_g182 rfl (q := 67) rfl (xf_0_216 fm) (X2) (by omega) rfl rfl ?_
      refine xe_s (f := (68, _, _, _)) xt_g182 rfl rfl rfl rfl rfl ?_
      refine xe_s (f := (70, _, .ref 1 :: _, _)) xt_g182 rfl rfl rfl rfl rfl ?_
      refine xe_cN xt_g182 rfl rfl rfl (q := 73) rfl (kc_V xk_0_219 rfl (ko_44) (by omega) rfl rfl) xt_g143 (by decide) ⟨Nat.le_of_ble_eq_true rfl, Nat.le_of_ble_eq_true rfl, Nat.le_of_ble_eq_true rfl⟩ (k143 S2.1 S2.2.1 (S2.2.1.1.1 (1, []) (by decide))) (fun h3' n3 c3 u3 hq => ?_)
      refine xe_ret xt_g182 rfl rfl ?_
      try dsimp only
      obtain ⟨s5, ar5, h5, g1, ke5, n5', u5', g5, g6, B5⟩ := hq
      have ea : mu_dq (mu_ans1 u f q) f = mu_note (mu_srq (mu_sln u []) (mu_up (mu_rq u) f.toNat none)) 4 ((q.1.toNat : Nat) : Int) f [] := by
        unfold mu_ans1
        rw [ez9]
        dsimp only
        rw [if_neg (by rw [b38]; decide), show ((q.1.toNat : Nat) : Int) = q.1 by omega, note_srq, note_sln]
        unfold mu_dq
        rw [note_rq]
        rfl
      rw [ea]
      refine ⟨rfl, w1, s5, p, ar5, v, h5, _, kc1, g1, RU_m (RU_RT (RT_mono (RT_trans R1 (RT_ke (B := 4) (C := 1) (u' := u3) S2.1 ke5 n5' u5')) (Nat.le_refl _) (Nat.le_refl _) (by omega))) (by omega) (by omega), KW_ke S2.1 ke5, B5, ?_, S2.2.2.2.1, S2.2.2.2.2⟩
      rw [note_ln]
      exact S2.2.2.1
    · try simp only [xb_0, xb_1, ne_eq, Decidable.not_not, Bool.not_eq_false, Bool.not_eq_true, decide_eq_true_eq, decide_eq_false_iff_not] at b38
      refine xe_s (f := (42, _, _, _)) xt_g182 rfl rfl rfl rfl rfl ?_
      refine xe_s (f := (43, _, xi 3 :: _, _)) xt_g182 rfl rfl rfl rfl rfl ?_
      refine xe_s (f := (44, _, _, _)) xt_g182 rfl rfl rfl rfl rfl ?_
      refine xe_gf xt_g182 rfl (q := 47) rfl (xf_0_212 fm) (X1) (by omega) rfl rfl ?_
      refine xe_gf xt_g182 rfl (q := 50) rfl (xf_0_216 fm) (X2) (by omega) rfl rfl ?_
      refine xe_s (f := (51, _, _, _)) xt_g182 rfl rfl rfl rfl rfl ?_
      refine xe_s (f := (52, _, _, _)) xt_g182 rfl rfl rfl rfl rfl ?_
      refine xe_cN xt_g182 rfl rfl rfl (q := 55) rfl (kc_V xk_0_219 rfl (ko_44) (by omega) rfl rfl) xt_g143 (by decide) ⟨Nat.le_of_ble_eq_true rfl, Nat.le_of_ble_eq_true rfl, Nat.le_of_ble_eq_true rfl⟩ (k143 S2.1 S2.2.1 H1) (fun h3' n3 c3 u3 hq => ?_)
      refine xe_s (f := (73, _, _, _)) xt_g182 rfl rfl rfl rfl rfl ?_
      refine xe_ret xt_g182 rfl rfl ?_
      try dsimp only
      obtain ⟨s5, ar5, h5, g1, ke5, n5', u5', g5, g6, B5⟩ := hq
      have ea : mu_dq (mu_ans1 u f q) f = mu_note (mu_srq (mu_sln u []) (mu_up (mu_rq u) f.toNat none)) 3 ((q.1.toNat : Nat) : Int) f (mu_ln u) := by
        unfold mu_ans1
        rw [ez9]
        dsimp only
        rw [if_pos b38, show ((q.1.toNat : Nat) : Int) = q.1 by omega, note_srq, note_sln]
        unfold mu_dq
        rw [note_rq]
        rfl
      rw [ea]
      refine ⟨rfl, w1, s5, p, ar5, v, h5, _, kc1, g1, RU_m (RU_RT (RT_mono (RT_trans R1 (RT_ke (B := 4) (C := 1) (u' := u3) S2.1 ke5 n5' u5')) (Nat.le_refl _) (Nat.le_refl _) (by omega))) (by omega) (by omega), KW_ke S2.1 ke5, B5, ?_, S2.2.2.2.1, S2.2.2.2.2⟩
      rw [note_ln]
      exact S2.2.2.1
  · try simp only [xb_0, xb_1, ne_eq, Decidable.not_not, Bool.not_eq_false, Bool.not_eq_true, decide_eq_true_eq, decide_eq_false_iff_not] at b22
    refine xe_s (f := (26, _, _, _)) xt_g182 rfl rfl rfl rfl rfl ?_
    refine xe_s (f := (27, _, _, _)) xt_g182 rfl rfl rfl rfl rfl ?_
    refine xe_s (f := (28, _, _, _)) xt_g182 rfl rfl rfl rfl rfl ?_
    refine xe_cN xt_g182 rfl rfl rfl (q := 31) rfl (kc_V xk_0_205 rfl (ko_44) (by omega) rfl rfl) xt_g184 (by decide) ⟨Nat.le_of_ble_eq_true rfl, Nat.le_of_ble_eq_true rfl, Nat.le_of_ble_eq_true rfl⟩ (k184 (f := q.1) (X := X) S2 I2 ⟨i1, i2⟩ eX (by rw [aw_n (by decide)]; exact HR') rfl H1) (fun h3' n3 c3 u3 hq => ?_)
    refine xe_s (f := (73, _, _, _)) xt_g182 rfl rfl rfl rfl rfl ?_
    refine xe_ret xt_g182 rfl rfl ?_
    try dsimp only
    obtain ⟨s5, ar5, h5, g1, R5, S5⟩ := hq
    have ez9 : q.2.1 = none := by
      cases g : q.2.1 with
      | none => rfl
      | some _ => rw [g] at b22; cases b22
    have e1 : mu_ans1 u f q = mu_note (mu_cm u q.1 q.2.2.2.1) 3 q.1 f (mu_ln u) := by
      unfold mu_ans1
      rw [ez9]
    have ept : (mf_pt (mu_fr u q.1.toNat)).1 = X.1 := by rw [show mu_fr u q.1.toNat = some X from eX]; rfl
    have ef : ((f.toNat : Nat) : Int) = f := by omega
    generalize hD0 : mu_drop (mu_srq (mu_sfr u (cm_fr (mu_fr u) q.1 q.2.2.2.1)) (fun r => mq_cf q.1 (mu_rq u r))) (dm_cl (cm_fr (mu_fr u) q.1 q.2.2.2.1) (cm_g (cm_fr (mu_fr u) q.1 q.2.2.2.1) q.1)) = D0
    have ecm : mu_cm u q.1 q.2.2.2.1 = mu_note D0 2 q.1 X.1 (pa_text q.2.2.2.1) := by
      unfold mu_cm
      rw [hD0, ept]
    rw [srq_fr, srq_rq, drop_s (Z0 := fun r => mq_cf q.1 (mu_rq u r)), hD0, note_srq, note_srq, note_sln, note_sln, ef] at S5
    rw [e1, ecm]
    have hrq : mu_rq (mu_note (mu_note D0 2 q.1 X.1 (pa_text q.2.2.2.1)) 3 q.1 f (mu_ln u)) = fun r => mq_fl (dm_cl (cm_fr (mu_fr u) q.1 q.2.2.2.1) (cm_g (cm_fr (mu_fr u) q.1 q.2.2.2.1) q.1)) (mq_cf q.1 (mu_rq u r)) := by
      rw [note_rq, note_rq, ← hD0, drop_rq]
    have eans : mu_dq (mu_note (mu_note D0 2 q.1 X.1 (pa_text q.2.2.2.1)) 3 q.1 f (mu_ln u)) f = mu_srq (mu_srq (mu_sln (mu_note (mu_note D0 2 q.1 X.1 (pa_text q.2.2.2.1)) 3 q.1 f (mu_ln u)) []) (fun r => mq_fl (dm_cl (cm_fr (mu_fr u) q.1 q.2.2.2.1) (cm_g (cm_fr (mu_fr u) q.1 q.2.2.2.1) q.1)) (mq_no q.1 (mu_up (mu_rq u) f.toNat none r)))) (mu_up (fun r => mq_fl (dm_cl (cm_fr (mu_fr u) q.1 q.2.2.2.1) (cm_g (cm_fr (mu_fr u) q.1 q.2.2.2.1) q.1)) (mq_cf q.1 (mu_rq u r))) f.toNat none) := by
      rw [dq_s (Y := fun r => mq_fl (dm_cl (cm_fr (mu_fr u) q.1 q.2.2.2.1) (cm_g (cm_fr (mu_fr u) q.1 q.2.2.2.1) q.1)) (mq_no q.1 (mu_up (mu_rq u) f.toNat none r))), hrq]
    rw [eans]
    obtain ⟨K5, B5, q1, q2, q3⟩ := S5
    refine ⟨rfl, w1, s5, p, ar5, v, h5, _, kc1, g1, ?_, K5, cB_rqc B5 (fun r hr => ?_), q1, q2, q3⟩
    · have := RU_t (RU_RT R1) R5
      rw [show 0 + u1 + u3 = u1 + u3 by omega]
      exact RU_m this (by omega) (by omega)
    · rw [srq_rq]
      by_cases g : r = f.toNat
      · rw [g, mu_upS, mu_upS]
        rfl
      · rw [mu_upN g, mu_upN g]
        congr 1
        cases er : mu_rq u r with
        | none => rfl
        | some q' =>
          unfold mq_cf mq_no
          dsimp only
          by_cases gq : q'.1 = q.1
          · rw [if_pos gq]
            cases gn : q'.2.1 with
            | some _ => rw [if_pos ⟨gq, rfl⟩]
            | none => exact absurd (I.2.2.1 r f.toNat q' q hr (by omega) er eq gn ez9 gq) g
          · rw [if_neg gq, if_neg (fun c => gq c.1)]
end XC1
