/-! the reference: lead -/
def mq_led (q : mq_T) (a : pa_A) : Bool := decide (q.2.2.1 < 5) && (match q.2.1 with
  | none => true
  | some y => !(decide (y.1 = 0) && !decide (pa_hd a = pa_hd y.2.2)))
def mq_led2 (q : mq_T) (o : Option pa_A) : Bool := match o with
  | none => false
  | some a => mq_led q a
def mu_ledf (u : mu_T) (r : Int) (q : mq_T) (is : Bool) : mu_T := mu_dq (match q.2.1 with
  | none => mu_note u 6 q.1 (if is = true then 2 else 1) []
  | some _ => mu_note u 4 q.1 r []) r
def mu_lead1 (u : mu_T) (r : Int) (q : mq_T) : Int × mu_T := match mu_res u (some q.2.2.2.1) with
  | none => (0, mu_ledf u r q false)
  | some a => if mq_led q a = true then (1, mu_send (mu_sln u []) r.toNat (q.1, q.2.1, q.2.2.1 + 1, a, none)) else (0, mu_ledf u r q true)
def mu_lead (u : mu_T) (r : Int) : Int × mu_T := match mu_rq u r.toNat with
  | none => (0, mu_sln u [])
  | some q => if mu_ir u r = true then mu_lead1 u r q else (0, mu_sln u [])
section XLD
variable (fm : Value) {m n : Nat} {h0 : xm_H} {s : Nat → Int} {ar : Nat → Nat → Int} {u : mu_T}
theorem mu_note_ln {k a b : Int} {t l : List Int} : mu_sln (mu_note u k a b t) l = mu_note (mu_sln u l) k a b t := by
  unfold mu_note
  show mu_sln (if (mu_ms u).length < 200 then mu_sms u (mu_ms u ++ [(k, a, b, t)]) else u) l = if (mu_ms u).length < 200 then _ else _
  split <;> rfl
theorem xV_lead (hmn : xo_in m n) (h : rf s ar u) {r : Int} (hrr : xr r) : xV fm 331 m n h0 s ar [.ref m, xi r] (fun z s' ar' => z = (mu_lead u r).1 ∧ s' 0 = xb (!mu_ir u r) ∧ rf s' ar' (mu_lead u r).2) := by
  show xe fm 331 (0, [(0, .ref m), (1, xi r)], [], (xo m s ar h0, n, 0, 0)) _
  generalize hR : mu_lead u r = R
  unfold mu_lead at hR
  have e1 := rf_ir h (f := r)
  have lk := xv_lacks fm hmn (h0 := h0) (s := s) (ar := ar) (b := mu_ir u r) (t := true)
  obtain ⟨hl, hz⟩ := rf_lkt h (b := mu_ir u r)
  generalize (if mu_ir u r = true then xo_u s 0 0 else if true = true then xo_u (xo_u s 0 1) 2 0 else xo_u s 0 1) = s1 at *
  refine xe_s (f := (1, _, _, _)) xt_g331 rfl rfl rfl rfl rfl ?_
  refine xe_s (f := (2, _, _, _)) xt_g331 rfl rfl rfl rfl rfl ?_
  refine xe_s (f := (3, _, _, _)) xt_g331 rfl rfl rfl rfl rfl ?_
  refine xe_cvI xt_g331 rfl (q := 6) rfl xk_13_443 rfl (by omega) xt_g306 (by decide) ⟨Nat.le_of_ble_eq_true rfl, Nat.le_of_ble_eq_true rfl, Nat.le_of_ble_eq_true rfl⟩ (xv_isRequest fm hmn h.1 hrr) ?_
  rw [e1]
  refine xe_s (f := (7, _, xi 1 :: _, _)) xt_g331 rfl rfl rfl rfl rfl ?_
  refine xe_cvI xt_g331 rfl (q := 10) rfl xk_13_418 rfl (by omega) xt_g292 (by decide) ⟨Nat.le_of_ble_eq_true rfl, Nat.le_of_ble_eq_true rfl, Nat.le_of_ble_eq_true rfl⟩ (lk) ?_
  refine xe_if_eq xt_g331 rfl (t := 15) rfl (q := 13) rfl (by first | omega | exact hw.1 _ | exact hw.2 _ _ | exact xb_r _) (fun h10 => ?_) (fun h10 => ?_)
  · try simp only [xb_0, xb_1, ne_eq, Decidable.not_not, decide_eq_true_eq, decide_eq_false_iff_not] at h10
    have hb : mu_ir u r = true := by simpa using h10
    rw [hb] at hl hz hR ⊢
    rw [if_pos rfl] at hl
    obtain ⟨K, q, rfl, hK, hqk⟩ := mu_ir_s hb
    rw [Int.toNat_natCast, hqk] at hR
    dsimp only at hR
    rw [if_pos rfl] at hR
    unfold mu_lead1 at hR
    obtain ⟨a1, a2, a3, a4, a5, a6, A, oA, ft, lv⟩ := rf_q hl hK hqk
    have rs := xV_res fm hmn (h0 := h0) hl (b := ((16 + K : Nat) : Int)) (base := some q.2.2.2.1) (Or.inr ⟨by omega, q.2.2.2.1, rfl, A, oA⟩)
    rw [show ((16 + K : Nat) : Int) = 16 + (K : Int) by omega] at rs
    refine xe_s (f := (16, _, _, _)) xt_g331 rfl rfl rfl rfl rfl ?_
    refine xe_bipush xt_g331 rfl (q := 18) rfl (by decide) (by decide) ?_
    refine xe_s (f := (19, _, _, _)) xt_g331 rfl rfl rfl rfl rfl ?_
    refine xe_iadd xt_g331 rfl (q := 20) rfl ?_
    refine xe_chI xt_g331 rfl (q := 23) rfl xk_13_403 rfl (by omega) xt_g257 (by decide) ⟨Nat.le_of_ble_eq_true rfl, Nat.le_of_ble_eq_true rfl, Nat.le_of_ble_eq_true rfl⟩ (rs) (fun z2 s2 ar2 hp2 => ?_)
    obtain ⟨q2, F2, h2, pz2, po2⟩ := hp2
    rw [pz2]
    have z02 : s2 0 = xb (!true) := (q2.1 0 (by decide)).trans hz
    have h3 := rf_cl h2
    obtain ⟨b1, b2, b3, b4, b5, b6, B, oB, ft2, lv2⟩ := rf_q h2 hK hqk
    have c46 : ar2 46 (K : Int).toNat = q.1 := b1
    have c49 : ar2 49 (K : Int).toNat = q.2.2.1 := b4
    have c47 : ar2 47 (K : Int).toNat = xb q.2.1.isSome := by
      cases hh : q.2.1 with
      | none => rw [hh] at ft2; exact ft2
      | some z => rw [hh] at ft2; exact ft2.1
    generalize hres : mu_res u (some q.2.2.2.1) = res at *
    have hxf := xb_or q.2.1.isSome
    -- refused
    have bad : ∀ is : Bool, is = res.isSome → R = (0, mu_ledf u K q is) → ∀ v4, xe fm 331 (114, [(4, xi v4), (3, xi (xb q.2.1.isSome)), (2, xi (xb is)), (0, .ref m), (1, xi (K : Int))], [], (xo m (xo_u s2 2 0) ar2 h0, n, 0, 0)) (xQI m n h0 (fun z s' ar' => z = R.1 ∧ s' 0 = xb (!true) ∧ rf s' ar' R.2)) := by
      intro is his hRe v4
      rw [hRe]
      have last : ∀ (s3 : Nat → Int) (ar3 : Nat → Nat → Int) (u3 : mu_T), s3 0 = xb (!true) → rf s3 ar3 (mu_sln u3 []) → mu_ledf u K q is = mu_dq u3 K → ∀ L, L = [(4, xi v4), (3, xi (xb q.2.1.isSome)), (2, xi (xb is)), (0, .ref m), (1, xi (K : Int))] → xe fm 331 (154, L, [], (xo m s3 ar3 h0, n, 0, 0)) (xQI m n h0 (fun z s' ar' => z = (0 : Int) ∧ s' 0 = xb (!true) ∧ rf s' ar' (mu_ledf u K q is))) := by
        intro s3 ar3 u3 z3 h4 hR3 L hL
        subst hL
        rw [hR3]
        have h5 := rf_dropq h4 hK rfl
        refine xe_s (f := (155, _, _, _)) xt_g331 rfl rfl rfl rfl rfl ?_
        refine xe_mga xt_g331 rfl (q := 158) rfl (xf_13_96 fm) (by decide) rfl (by omega) ?_
        try simp only [xo_u, xo_w, Nat.reduceEqDiff, reduceIte, false_and, true_and]
        refine xe_s (f := (159, _, _, _)) xt_g331 rfl rfl rfl rfl rfl ?_
        refine xe_s (f := (160, _, xi (-1) :: _, _)) xt_g331 rfl rfl rfl rfl rfl ?_
        refine xe_mas (ok := xm_isN) (ty := .int) xt_g331 rfl (q := 161) rfl (fun _ _ => ⟨rfl, rfl, rfl, rfl⟩) rfl rfl rfl (by omega) (by omega) (by omega) (by omega) (by omega) rfl ?_
        refine xe_s (f := (162, _, xi 0 :: _, _)) xt_g331 rfl rfl rfl rfl rfl ?_
        refine xe_iret xt_g331 rfl rfl (xi_bool (by first | omega | exact xb_or _)).1 ?_
        exact ⟨_, _, _, rfl, rfl, rfl, z3, h5⟩
      have hxi := xb_or is
      cases hft : q.2.1 with
      | none =>
        have tl := xU_tell fm hmn (h0 := h0) (rg_of h3 99) (w := 6) (a := q.1) (b := if is = true then 2 else 1) (by omega) (by omega) (by split <;> omega)
        rw [← mu_note_ln] at tl
        rw [hft] at last
        have el : mu_ledf u K q is = mu_dq (mu_note u 6 q.1 (if is = true then 2 else 1) []) K := by
          unfold mu_ledf
          rw [hft]
        have j151 : ∀ v : Int, v = (if is = true then 2 else 1) → xe fm 331 (151, [(4, xi v4), (3, xi (xb (none : Option (Int × Bool × pa_A)).isSome)), (2, xi (xb is)), (0, .ref m), (1, xi (K : Int))], [xi v, xi q.1, xi 6, .ref m], (xo m (xo_u s2 2 0) ar2 h0, n, 0, 0)) (xQI m n h0 (fun z s' ar' => z = (0 : Int) ∧ s' 0 = xb (!true) ∧ rf s' ar' (mu_ledf u K q is))) := by
          intro v hv
          rw [hv]
          refine xe_chV xt_g331 rfl (q := 154) rfl xk_13_376 rfl (by omega) xt_g289 (by decide) ⟨Nat.le_of_ble_eq_true rfl, Nat.le_of_ble_eq_true rfl, Nat.le_of_ble_eq_true rfl⟩ (tl) (fun s3 ar3 hp3 => ?_)
          exact last s3 ar3 _ ((hp3.1.1 0 (by decide)).trans z02) (rg_to hp3.2 (fun h => absurd h (by decide))) el _ rfl
        refine xe_s (f := (115, _, _, _)) xt_g331 rfl rfl rfl rfl rfl ?_
        refine xe_if_eq xt_g331 rfl (t := 133) rfl (q := 118) rfl (by first | omega | exact hw.1 _ | exact hw.2 _ _ | exact xb_r _) (fun h115 => ?_) (fun h115 => ?_)
        · try simp only [xb_0, xb_1, ne_eq, Decidable.not_not, decide_eq_true_eq, decide_eq_false_iff_not] at h115
          refine xe_s (f := (134, _, _, _)) xt_g331 rfl rfl rfl rfl rfl ?_
          refine xe_bipush xt_g331 rfl (q := 136) rfl (by decide) (by decide) ?_
          refine xe_s (f := (137, _, _, _)) xt_g331 rfl rfl rfl rfl rfl ?_
          refine xe_mga xt_g331 rfl (q := 140) rfl (xf_13_96 fm) (by decide) rfl (by omega) ?_
          try simp only [xo_u, xo_w, Nat.reduceEqDiff, reduceIte, false_and, true_and]
          refine xe_s (f := (141, _, _, _)) xt_g331 rfl rfl rfl rfl rfl ?_
          refine xe_mal (ok := xm_isN) (ty := .int) xt_g331 rfl (q := 142) rfl (fun _ _ => ⟨rfl, rfl, rfl, rfl⟩) rfl rfl rfl (by omega) (by omega) (by omega) (by omega) ?_
          try simp only [xo_u, xo_w, Nat.reduceEqDiff, reduceIte, false_and, true_and]
          rw [c46]
          refine xe_s (f := (143, _, _, _)) xt_g331 rfl rfl rfl rfl rfl ?_
          refine xe_if_eq xt_g331 rfl (t := 150) rfl (q := 146) rfl (by first | omega | exact hw.1 _ | exact hw.2 _ _ | exact xb_r _) (fun h143 => ?_) (fun h143 => ?_)
          · try simp only [xb_0, xb_1, ne_eq, Decidable.not_not, decide_eq_true_eq, decide_eq_false_iff_not] at h143
            refine xe_s (f := (151, _, xi 1 :: _, _)) xt_g331 rfl rfl rfl rfl rfl ?_
            exact j151 _ (by rw [if_neg (by rw [h143]; decide)])
          · try simp only [xb_0, xb_1, ne_eq, Decidable.not_not, decide_eq_true_eq, decide_eq_false_iff_not] at h143
            refine xe_s (f := (147, _, xi 2 :: _, _)) xt_g331 rfl rfl rfl rfl rfl ?_
            refine xe_s (f := (151, _, _, _)) xt_g331 rfl rfl rfl rfl rfl ?_
            exact j151 _ (by rw [if_pos (by simpa using h143)])
        · exact absurd rfl h115
      | some y =>
        have tl := xU_tell fm hmn (h0 := h0) (rg_of h3 99) (w := 4) (a := q.1) (b := (K : Int)) (by omega) (by omega) (by omega)
        rw [← mu_note_ln] at tl
        rw [hft] at last
        have el : mu_ledf u K q is = mu_dq (mu_note u 4 q.1 K []) K := by
          unfold mu_ledf
          rw [hft]
        refine xe_s (f := (115, _, _, _)) xt_g331 rfl rfl rfl rfl rfl ?_
        refine xe_if_eq xt_g331 rfl (t := 133) rfl (q := 118) rfl (by first | omega | exact hw.1 _ | exact hw.2 _ _ | exact xb_r _) (fun h115 => ?_) (fun h115 => ?_)
        · exact absurd h115 (show ¬ xb true = 0 by decide)
        · try simp only [xb_0, xb_1, ne_eq, Decidable.not_not, decide_eq_true_eq, decide_eq_false_iff_not] at h115
          refine xe_s (f := (119, _, _, _)) xt_g331 rfl rfl rfl rfl rfl ?_
          refine xe_s (f := (120, _, xi 4 :: _, _)) xt_g331 rfl rfl rfl rfl rfl ?_
          refine xe_s (f := (121, _, _, _)) xt_g331 rfl rfl rfl rfl rfl ?_
          refine xe_mga xt_g331 rfl (q := 124) rfl (xf_13_96 fm) (by decide) rfl (by omega) ?_
          try simp only [xo_u, xo_w, Nat.reduceEqDiff, reduceIte, false_and, true_and]
          refine xe_s (f := (125, _, _, _)) xt_g331 rfl rfl rfl rfl rfl ?_
          refine xe_mal (ok := xm_isN) (ty := .int) xt_g331 rfl (q := 126) rfl (fun _ _ => ⟨rfl, rfl, rfl, rfl⟩) rfl rfl rfl (by omega) (by omega) (by omega) (by omega) ?_
          try simp only [xo_u, xo_w, Nat.reduceEqDiff, reduceIte, false_and, true_and]
          rw [c46]
          refine xe_s (f := (127, _, _, _)) xt_g331 rfl rfl rfl rfl rfl ?_
          refine xe_chV xt_g331 rfl (q := 130) rfl xk_13_376 rfl (by omega) xt_g289 (by decide) ⟨Nat.le_of_ble_eq_true rfl, Nat.le_of_ble_eq_true rfl, Nat.le_of_ble_eq_true rfl⟩ (tl) (fun s3 ar3 hp3 => ?_)
          refine xe_s (f := (154, _, _, _)) xt_g331 rfl rfl rfl rfl rfl ?_
          exact last s3 ar3 _ ((hp3.1.1 0 (by decide)).trans z02) (rg_to hp3.2 (fun h => absurd h (by decide))) el _ rfl
    -- led
    have good : ∀ a, res = some a → mq_led q a = true → ∀ v4, xe fm 331 (97, [(4, xi v4), (3, xi (xb q.2.1.isSome)), (2, xi (xb true)), (0, .ref m), (1, xi (K : Int))], [], (xo m (xo_u s2 2 0) ar2 h0, n, 0, 0)) (xQI m n h0 (fun z s' ar' => z = R.1 ∧ s' 0 = xb (!true) ∧ rf s' ar' R.2)) := by
      intro a ha hld v4
      rw [ha] at hR
      dsimp only at hR
      rw [if_pos hld, Int.toNat_natCast] at hR
      rw [← hR]
      obtain ⟨A3, o3⟩ := po2 a ha
      have h5l : q.2.2.1 < 5 := by
        unfold mq_led at hld
        rw [Bool.and_eq_true] at hld
        exact of_decide_eq_true hld.1
      have q4 : xq [] [49] (xo_u s2 2 0) ar2 (xo_u s2 2 0) (xo_w ar2 49 K (q.2.2.1 + 1)) := xq_w xq_r (by decide)
      have F4 : xs_F [] ar2 (xo_w ar2 49 K (q.2.2.1 + 1)) := xs_q q4 (by decide) (by decide)
      have G4 : rg (xo_u s2 2 0) (xo_w ar2 49 K (q.2.2.1 + 1)) (mu_sln u []) K [] := by
        obtain ⟨w, B, z, r0, r1, r2, r3, r4, r5, r6, r7, r8, r9, ra⟩ := rg_of h3 K
        refine ⟨xo_wf_w w (by omega), xo_B_w B (fun h => absurd h (by decide)), ⟨z.1, z.2.1, xh_nil, z.2.2.2⟩, rf_k0 r0 q4 rfl, rf_k1 r1 q4 rfl, rf_k2 r2 q4 rfl, rf_k3 r3 q4 rfl, rf_k4 r4 q4 rfl, rf_k5 r5 q4 F4 rfl, ?_, rf_k7 r7 q4 F4 rfl, rf_k8 r8 q4 rfl, rf_k9 r9 q4 rfl, rf_ka ra q4 rfl⟩
        intro r' hr' hne
        exact rf_q1_k (r6 r' hr' hne) hr' (fun k _ _ => xo_wI hne) F4 ⟨by simp, by simp, by simp⟩
      have e47 : ar2 47 K = xb q.2.1.isSome := c47
      have ewi : mq_wi q = decide (xo_w ar2 49 K (q.2.2.1 + 1) 47 K = 0 ∨ xo_w ar2 49 K (q.2.2.1 + 1) 51 K ≠ 0) := by
        rw [xo_wK (by decide), xo_wK (by decide), e47]
        unfold mq_wi
        cases hh : q.2.1 with
        | none => rfl
        | some y =>
          rw [hh] at ft2
          rw [ft2.2.2.2.2.1]
          show y.2.1 = decide (xb true = 0 ∨ xb y.2.1 ≠ 0)
          cases y.2.1 <;> decide
      have sd := xU_send fm hmn (h0 := h0) G4 hK (pa_at_c A3 (xo_wK (by decide)) (xo_wK (by decide))) o3 (f := q.1) ⟨by rw [xo_wK (by decide)]; exact b1, b2, b3⟩ ewi
      refine xe_s (f := (98, _, _, _)) xt_g331 rfl rfl rfl rfl rfl ?_
      refine xe_mga xt_g331 rfl (q := 101) rfl (xf_13_105 fm) (by decide) rfl (by omega) ?_
      try simp only [xo_u, xo_w, Nat.reduceEqDiff, reduceIte, false_and, true_and]
      refine xe_s (f := (102, _, _, _)) xt_g331 rfl rfl rfl rfl rfl ?_
      refine xe_s (f := (103, _, _, _)) xt_g331 rfl rfl rfl rfl rfl ?_
      refine xe_mal (ok := xm_isN) (ty := .int) xt_g331 rfl (q := 104) rfl (fun _ _ => ⟨rfl, rfl, rfl, rfl⟩) rfl rfl rfl (by omega) (by omega) (by omega) (by omega) ?_
      try simp only [xo_u, xo_w, Nat.reduceEqDiff, reduceIte, false_and, true_and]
      rw [c49]
      refine xe_s (f := (105, _, xi 1 :: _, _)) xt_g331 rfl rfl rfl rfl rfl ?_
      refine xe_iadd xt_g331 rfl (q := 106) rfl ?_
      refine xe_mas (ok := xm_isN) (ty := .int) xt_g331 rfl (q := 107) rfl (fun _ _ => ⟨rfl, rfl, rfl, rfl⟩) rfl rfl rfl (by omega) (by omega) (by omega) (by omega) (by omega) rfl ?_
      refine xe_s (f := (108, _, _, _)) xt_g331 rfl rfl rfl rfl rfl ?_
      refine xe_s (f := (109, _, _, _)) xt_g331 rfl rfl rfl rfl rfl ?_
      refine xe_chV xt_g331 rfl (q := 112) rfl xk_13_383 rfl (by omega) xt_g281 (by decide) ⟨Nat.le_of_ble_eq_true rfl, Nat.le_of_ble_eq_true rfl, Nat.le_of_ble_eq_true rfl⟩ (sd) (fun s5 ar5 hp5 => ?_)
      refine xe_s (f := (113, _, xi 1 :: _, _)) xt_g331 rfl rfl rfl rfl rfl ?_
      refine xe_iret xt_g331 rfl rfl (xi_bool (by first | omega | exact xb_or _)).1 ?_
      obtain ⟨q5, G5, F5, A5, z50, o50⟩ := hp5
      refine ⟨_, _, _, rfl, rfl, rfl, (q5.1 0 (by decide)).trans z02, ?_⟩
      obtain ⟨w, B, z, r0, r1, r2, r3, r4, r5, r6, r7, r8, r9, ra⟩ := G5
      refine ⟨w, B, z.1, r0, r1, r2, r3, r4, r5, ?_, r7, r8, r9, ra⟩
      intro r' hr'
      show rf_q1 ar5 r' (mu_up (mu_rq u) K (some (q.1, q.2.1, q.2.2.1 + 1, a, none)) r')
      by_cases e : r' = K
      · subst e
        rw [mu_upS]
        refine ⟨by rw [q5.2 46 (by decide), xo_wK (by decide)]; exact b1, b2, b3, by rw [q5.2 49 (by decide)]; exact xo_wS, by show 0 ≤ q.2.2.1 + 1; omega, by show q.2.2.1 + 1 ≤ 5; omega, A5, o3, ?_, z50⟩
        show rf_ft ar5 r' q.2.1
        cases hh : q.2.1 with
        | none =>
          rw [hh] at ft2
          show ar5 47 r' = 0
          rw [q5.2 47 (by decide), xo_wK (by decide)]
          exact ft2
        | some y =>
          rw [hh] at ft2
          obtain ⟨d1, d2, d3, d4, d5, d6, d7⟩ := ft2
          exact ⟨by rw [q5.2 47 (by decide), xo_wK (by decide)]; exact d1, by rw [q5.2 48 (by decide), xo_wK (by decide)]; exact d2, d3, d4, by rw [q5.2 51 (by decide), xo_wK (by decide)]; exact d5, pa_at_F (pa_at_F d6 F4 (by omega) (by simp)) F5 (by omega) (by rw [List.mem_singleton]; omega), d7⟩
      · rw [mu_upN e]
        have h6 := r6 r' hr' e
        rw [mu_note_rq] at h6
        exact h6
    have j90 : ∀ (v : Int) (b : Bool), v = xb b → b = mq_led2 q res → xe fm 331 (90, [(3, xi (xb q.2.1.isSome)), (2, xi (xb res.isSome)), (0, .ref m), (1, xi (K : Int))], [xi v], (xo m (xo_u s2 2 0) ar2 h0, n, 0, 0)) (xQI m n h0 (fun z s' ar' => z = R.1 ∧ s' 0 = xb (!true) ∧ rf s' ar' R.2)) := by
      intro v b hv hbm
      rw [hv]
      cases hro : res with
      | none =>
        rw [hro] at hR bad hbm
        dsimp only [mq_led2] at hR hbm
        rw [hbm]
        have hb := bad false rfl hR.symm (xb false)
        refine xe_s (f := (92, [(4, _), (3, _), (2, _), (0, _), (1, _)], _, _)) xt_g331 rfl rfl rfl rfl rfl ?_
        refine xe_s (f := (94, _, _, _)) xt_g331 rfl rfl rfl rfl rfl ?_
        refine xe_if_eq xt_g331 rfl (t := 114) rfl (q := 97) rfl (by first | omega | exact hw.1 _ | exact hw.2 _ _ | exact xb_r _) (fun h94 => ?_) (fun h94 => ?_)
        · try simp only [xb_0, xb_1, ne_eq, Decidable.not_not, decide_eq_true_eq, decide_eq_false_iff_not] at h94
          exact xe_loc (by intro q hq; simp only [List.mem_cons, List.not_mem_nil, or_false] at hq; rcases hq with rfl | rfl | rfl | rfl | rfl <;> rfl) (hb)
        · exact absurd rfl h94
      | some a =>
        rw [hro] at hR bad hbm good
        dsimp only [mq_led2] at hR hbm
        cases hml : mq_led q a with
        | true =>
          have hg := good a rfl hml (xb true)
          rw [hbm, hml]
          refine xe_s (f := (92, [(4, _), (3, _), (2, _), (0, _), (1, _)], _, _)) xt_g331 rfl rfl rfl rfl rfl ?_
          refine xe_s (f := (94, _, _, _)) xt_g331 rfl rfl rfl rfl rfl ?_
          refine xe_if_eq xt_g331 rfl (t := 114) rfl (q := 97) rfl (by first | omega | exact hw.1 _ | exact hw.2 _ _ | exact xb_r _) (fun h94 => ?_) (fun h94 => ?_)
          · exact absurd h94 (by decide)
          · try simp only [xb_0, xb_1, ne_eq, Decidable.not_not, decide_eq_true_eq, decide_eq_false_iff_not] at h94
            exact xe_loc (by intro q hq; simp only [List.mem_cons, List.not_mem_nil, or_false] at hq; rcases hq with rfl | rfl | rfl | rfl | rfl <;> rfl) (hg)
        | false =>
          rw [hml, if_neg (by decide)] at hR
          have hb := bad true rfl hR.symm (xb false)
          rw [hbm, hml]
          refine xe_s (f := (92, [(4, _), (3, _), (2, _), (0, _), (1, _)], _, _)) xt_g331 rfl rfl rfl rfl rfl ?_
          refine xe_s (f := (94, _, _, _)) xt_g331 rfl rfl rfl rfl rfl ?_
          refine xe_if_eq xt_g331 rfl (t := 114) rfl (q := 97) rfl (by first | omega | exact hw.1 _ | exact hw.2 _ _ | exact xb_r _) (fun h94 => ?_) (fun h94 => ?_)
          · try simp only [xb_0, xb_1, ne_eq, Decidable.not_not, decide_eq_true_eq, decide_eq_false_iff_not] at h94
            exact xe_loc (by intro q hq; simp only [List.mem_cons, List.not_mem_nil, or_false] at hq; rcases hq with rfl | rfl | rfl | rfl | rfl <;> rfl) (hb)
          · exact absurd rfl h94
    have c48 : ∀ y, q.2.1 = some y → ar2 48 (K : Int).toNat = y.1 := by
      intro y hy
      rw [hy] at ft2
      exact ft2.2.1
    have r48 := h2.1.2 48 (K : Int).toNat
    have j44 : ∀ v : Int, v = xb q.2.1.isSome → xe fm 331 (44, [(2, xi (xb res.isSome)), (0, .ref m), (1, xi (K : Int))], [xi v], (xo m (xo_u s2 2 0) ar2 h0, n, 0, 0)) (xQI m n h0 (fun z s' ar' => z = R.1 ∧ s' 0 = xb (!true) ∧ rf s' ar' R.2)) := by
      intro v hv
      rw [hv]
      cases hro : res with
      | none =>
        rw [hro] at j90
        refine xe_s (f := (45, [(3, _), (2, _), (0, _), (1, _)], _, _)) xt_g331 rfl rfl rfl rfl rfl ?_
        refine xe_s (f := (46, _, _, _)) xt_g331 rfl rfl rfl rfl rfl ?_
        refine xe_if_eq xt_g331 rfl (t := 89) rfl (q := 49) rfl (by first | omega | exact hw.1 _ | exact hw.2 _ _ | exact xb_r _) (fun h46 => ?_) (fun h46 => ?_)
        · try simp only [xb_0, xb_1, ne_eq, Decidable.not_not, decide_eq_true_eq, decide_eq_false_iff_not] at h46
          refine xe_s (f := (90, _, xi 0 :: _, _)) xt_g331 rfl rfl rfl rfl rfl ?_
          exact j90 _ false rfl rfl
        · exact absurd rfl h46
      | some a =>
        rw [hro] at j90
        dsimp only [mq_led2] at j90
        obtain ⟨A3, o3⟩ := po2 a hro
        cases hft : q.2.1 with
        | none =>
          rw [hft] at j90
          refine xe_s (f := (45, [(3, _), (2, _), (0, _), (1, _)], _, _)) xt_g331 rfl rfl rfl rfl rfl ?_
          refine xe_s (f := (46, _, _, _)) xt_g331 rfl rfl rfl rfl rfl ?_
          refine xe_if_eq xt_g331 rfl (t := 89) rfl (q := 49) rfl (by first | omega | exact hw.1 _ | exact hw.2 _ _ | exact xb_r _) (fun h46 => ?_) (fun h46 => ?_)
          · exact absurd h46 (show ¬ xb true = 0 by decide)
          · try simp only [xb_0, xb_1, ne_eq, Decidable.not_not, decide_eq_true_eq, decide_eq_false_iff_not] at h46
            refine xe_s (f := (50, _, _, _)) xt_g331 rfl rfl rfl rfl rfl ?_
            refine xe_mga xt_g331 rfl (q := 53) rfl (xf_13_105 fm) (by decide) rfl (by omega) ?_
            try simp only [xo_u, xo_w, Nat.reduceEqDiff, reduceIte, false_and, true_and]
            refine xe_s (f := (54, _, _, _)) xt_g331 rfl rfl rfl rfl rfl ?_
            refine xe_mal (ok := xm_isN) (ty := .int) xt_g331 rfl (q := 55) rfl (fun _ _ => ⟨rfl, rfl, rfl, rfl⟩) rfl rfl rfl (by omega) (by omega) (by omega) (by omega) ?_
            try simp only [xo_u, xo_w, Nat.reduceEqDiff, reduceIte, false_and, true_and]
            rw [c49]
            refine xe_s (f := (56, _, xi 5 :: _, _)) xt_g331 rfl rfl rfl rfl rfl ?_
            refine xe_ic_ge xt_g331 rfl (t := 89) rfl (q := 59) rfl (by first | omega | exact hw.1 _ | exact hw.2 _ _ | exact xb_r _) (by first | omega | exact hw.1 _ | exact hw.2 _ _ | exact xb_r _) (fun h56 => ?_) (fun h56 => ?_)
            · refine xe_s (f := (90, _, xi 0 :: _, _)) xt_g331 rfl rfl rfl rfl rfl ?_
              exact j90 _ false rfl (by unfold mq_led; rw [decide_eq_false (by omega)]; rfl)
            · refine xe_s (f := (60, _, _, _)) xt_g331 rfl rfl rfl rfl rfl ?_
              refine xe_if_eq xt_g331 rfl (t := 85) rfl (q := 63) rfl (by first | omega | exact hw.1 _ | exact hw.2 _ _ | exact xb_r _) (fun h60 => ?_) (fun h60 => ?_)
              · try simp only [xb_0, xb_1, ne_eq, Decidable.not_not, decide_eq_true_eq, decide_eq_false_iff_not] at h60
                refine xe_s (f := (86, _, xi 1 :: _, _)) xt_g331 rfl rfl rfl rfl rfl ?_
                refine xe_s (f := (90, _, _, _)) xt_g331 rfl rfl rfl rfl rfl ?_
                exact j90 _ true rfl (by unfold mq_led; rw [decide_eq_true (show q.2.2.1 < 5 by omega), hft]; rfl)
              · exact absurd rfl h60
        | some y =>
          have d48 := c48 y hft
          rw [hft] at j90 ft2
          obtain ⟨d1, d2, d3, d4, d5, d6, d7⟩ := ft2
          have A3' := A3
          rw [(pa_tx o3).1] at A3'
          have d6' : pa_at ar2 ((42 + K : Nat) : Int) (pa_hd y.2.2 ++ []) := by rw [List.append_nil]; exact d6
          have oo := xv_isOfOrigin fm hmn (h0 := h0) (s := xo_u s2 2 0) (ar := ar2) h3.1 (a := ((40 : Nat) : Int)) (b := ((42 + K : Nat) : Int)) (by omega) (by omega) (pa_at5 A3) (by omega) (by omega) (pa_at5 d6)
          rw [rf_oo (by omega) (by omega) A3' d6' o3 d7 (pa_tx o3).2 (Or.inl rfl), show ((42 + K : Nat) : Int) = 42 + (K : Int) by omega] at oo
          have eml : mq_led q a = (decide (q.2.2.1 < 5) && !(decide (y.1 = 0) && !decide (pa_hd a = pa_hd y.2.2))) := by
            unfold mq_led
            rw [hft]
          rw [eml] at j90
          refine xe_s (f := (45, [(3, _), (2, _), (0, _), (1, _)], _, _)) xt_g331 rfl rfl rfl rfl rfl ?_
          refine xe_s (f := (46, _, _, _)) xt_g331 rfl rfl rfl rfl rfl ?_
          refine xe_if_eq xt_g331 rfl (t := 89) rfl (q := 49) rfl (by first | omega | exact hw.1 _ | exact hw.2 _ _ | exact xb_r _) (fun h46 => ?_) (fun h46 => ?_)
          · exact absurd h46 (show ¬ xb true = 0 by decide)
          · try simp only [xb_0, xb_1, ne_eq, Decidable.not_not, decide_eq_true_eq, decide_eq_false_iff_not] at h46
            refine xe_s (f := (50, _, _, _)) xt_g331 rfl rfl rfl rfl rfl ?_
            refine xe_mga xt_g331 rfl (q := 53) rfl (xf_13_105 fm) (by decide) rfl (by omega) ?_
            try simp only [xo_u, xo_w, Nat.reduceEqDiff, reduceIte, false_and, true_and]
            refine xe_s (f := (54, _, _, _)) xt_g331 rfl rfl rfl rfl rfl ?_
            refine xe_mal (ok := xm_isN) (ty := .int) xt_g331 rfl (q := 55) rfl (fun _ _ => ⟨rfl, rfl, rfl, rfl⟩) rfl rfl rfl (by omega) (by omega) (by omega) (by omega) ?_
            try simp only [xo_u, xo_w, Nat.reduceEqDiff, reduceIte, false_and, true_and]
            rw [c49]
            refine xe_s (f := (56, _, xi 5 :: _, _)) xt_g331 rfl rfl rfl rfl rfl ?_
            refine xe_ic_ge xt_g331 rfl (t := 89) rfl (q := 59) rfl (by first | omega | exact hw.1 _ | exact hw.2 _ _ | exact xb_r _) (by first | omega | exact hw.1 _ | exact hw.2 _ _ | exact xb_r _) (fun h56 => ?_) (fun h56 => ?_)
            · refine xe_s (f := (90, _, xi 0 :: _, _)) xt_g331 rfl rfl rfl rfl rfl ?_
              exact j90 _ false rfl (by rw [decide_eq_false (by omega)]; rfl)
            · refine xe_s (f := (60, _, _, _)) xt_g331 rfl rfl rfl rfl rfl ?_
              refine xe_if_eq xt_g331 rfl (t := 85) rfl (q := 63) rfl (by first | omega | exact hw.1 _ | exact hw.2 _ _ | exact xb_r _) (fun h60 => ?_) (fun h60 => ?_)
              · exact absurd h60 (show ¬ xb true = 0 by decide)
              · try simp only [xb_0, xb_1, ne_eq, Decidable.not_not, decide_eq_true_eq, decide_eq_false_iff_not] at h60
                refine xe_s (f := (64, _, _, _)) xt_g331 rfl rfl rfl rfl rfl ?_
                refine xe_mga xt_g331 rfl (q := 67) rfl (xf_13_102 fm) (by decide) rfl (by omega) ?_
                try simp only [xo_u, xo_w, Nat.reduceEqDiff, reduceIte, false_and, true_and]
                refine xe_s (f := (68, _, _, _)) xt_g331 rfl rfl rfl rfl rfl ?_
                refine xe_mal (ok := xm_isN) (ty := .int) xt_g331 rfl (q := 69) rfl (fun _ _ => ⟨rfl, rfl, rfl, rfl⟩) rfl rfl rfl (by omega) (by omega) (by omega) (by omega) ?_
                try simp only [xo_u, xo_w, Nat.reduceEqDiff, reduceIte, false_and, true_and]
                rw [d48]
                refine xe_if_ne xt_g331 rfl (t := 85) rfl (q := 72) rfl (by first | omega | exact hw.1 _ | exact hw.2 _ _ | exact xb_r _) (fun h69 => ?_) (fun h69 => ?_)
                · try simp only [xb_0, xb_1, ne_eq, Decidable.not_not, decide_eq_true_eq, decide_eq_false_iff_not] at h69
                  refine xe_s (f := (86, _, xi 1 :: _, _)) xt_g331 rfl rfl rfl rfl rfl ?_
                  refine xe_s (f := (90, _, _, _)) xt_g331 rfl rfl rfl rfl rfl ?_
                  exact j90 _ true rfl (by rw [decide_eq_true (show q.2.2.1 < 5 by omega), decide_eq_false h69]; rfl)
                · try simp only [xb_0, xb_1, ne_eq, Decidable.not_not, decide_eq_true_eq, decide_eq_false_iff_not] at h69
                  refine xe_s (f := (73, _, _, _)) xt_g331 rfl rfl rfl rfl rfl ?_
                  refine xe_bipush xt_g331 rfl (q := 75) rfl (by decide) (by decide) ?_
                  refine xe_bipush xt_g331 rfl (q := 77) rfl (by decide) (by decide) ?_
                  refine xe_s (f := (78, _, _, _)) xt_g331 rfl rfl rfl rfl rfl ?_
                  refine xe_iadd xt_g331 rfl (q := 79) rfl ?_
                  refine xe_cvI xt_g331 rfl (q := 82) rfl xk_13_437 rfl (by omega) xt_g303 (by decide) ⟨Nat.le_of_ble_eq_true rfl, Nat.le_of_ble_eq_true rfl, Nat.le_of_ble_eq_true rfl⟩ (oo) ?_
                  refine xe_if_eq xt_g331 rfl (t := 89) rfl (q := 85) rfl (by first | omega | exact hw.1 _ | exact hw.2 _ _ | exact xb_r _) (fun h82 => ?_) (fun h82 => ?_)
                  · try simp only [xb_0, xb_1, ne_eq, Decidable.not_not, decide_eq_true_eq, decide_eq_false_iff_not] at h82
                    refine xe_s (f := (90, _, xi 0 :: _, _)) xt_g331 rfl rfl rfl rfl rfl ?_
                    exact j90 _ false rfl (by rw [decide_eq_true (show q.2.2.1 < 5 by omega), decide_eq_true (show y.1 = 0 by omega), decide_eq_false h82]; rfl)
                  · try simp only [xb_0, xb_1, ne_eq, Decidable.not_not, decide_eq_true_eq, decide_eq_false_iff_not] at h82
                    refine xe_s (f := (86, _, xi 1 :: _, _)) xt_g331 rfl rfl rfl rfl rfl ?_
                    refine xe_s (f := (90, _, _, _)) xt_g331 rfl rfl rfl rfl rfl ?_
                    exact j90 _ true rfl (by rw [decide_eq_true (show q.2.2.1 < 5 by omega), decide_eq_true (show y.1 = 0 by omega), decide_eq_true h82]; rfl)
    refine xe_s (f := (24, [(2, _), (0, _), (1, _)], _, _)) xt_g331 rfl rfl rfl rfl rfl ?_
    refine xe_s (f := (25, _, _, _)) xt_g331 rfl rfl rfl rfl rfl ?_
    refine xe_s (f := (26, _, xi 0 :: _, _)) xt_g331 rfl rfl rfl rfl rfl ?_
    refine xe_mps xt_g331 rfl (q := 29) rfl (xf_13_149 fm) (by decide) rfl (by omega) (by omega) xi_int (Or.inl rfl) ?_
    refine xe_s (f := (30, _, _, _)) xt_g331 rfl rfl rfl rfl rfl ?_
    refine xe_mga xt_g331 rfl (q := 33) rfl (xf_13_99 fm) (by decide) rfl (by omega) ?_
    try simp only [xo_u, xo_w, Nat.reduceEqDiff, reduceIte, false_and, true_and]
    refine xe_s (f := (34, _, _, _)) xt_g331 rfl rfl rfl rfl rfl ?_
    refine xe_mal (ok := xm_isN) (ty := .int) xt_g331 rfl (q := 35) rfl (fun _ _ => ⟨rfl, rfl, rfl, rfl⟩) rfl rfl rfl (by omega) (by omega) (by omega) (by omega) ?_
    try simp only [xo_u, xo_w, Nat.reduceEqDiff, reduceIte, false_and, true_and]
    rw [c47]
    refine xe_s (f := (36, _, xi 1 :: _, _)) xt_g331 rfl rfl rfl rfl rfl ?_
    refine xe_ic_ne xt_g331 rfl (t := 43) rfl (q := 39) rfl (by first | omega | exact hw.1 _ | exact hw.2 _ _ | exact xb_r _) (by first | omega | exact hw.1 _ | exact hw.2 _ _ | exact xb_r _) (fun h36 => ?_) (fun h36 => ?_)
    · refine xe_s (f := (44, _, xi 0 :: _, _)) xt_g331 rfl rfl rfl rfl rfl ?_
      have h := j44 0 (by omega)
      exact xe_loc (by intro q hq; simp only [List.mem_cons, List.not_mem_nil, or_false] at hq; rcases hq with rfl | rfl | rfl <;> rfl) (h)
    · refine xe_s (f := (40, _, xi 1 :: _, _)) xt_g331 rfl rfl rfl rfl rfl ?_
      refine xe_s (f := (44, _, _, _)) xt_g331 rfl rfl rfl rfl rfl ?_
      have h := j44 1 (by omega)
      exact xe_loc (by intro q hq; simp only [List.mem_cons, List.not_mem_nil, or_false] at hq; rcases hq with rfl | rfl | rfl <;> rfl) (h)
  · try simp only [xb_0, xb_1, ne_eq, Decidable.not_not, decide_eq_true_eq, decide_eq_false_iff_not] at h10
    have hb : mu_ir u r = false := by simpa using h10
    rw [hb] at hl hz hR ⊢
    rw [if_neg (by decide)] at hl
    have e : R = (0, mu_sln u []) := by
      rw [← hR]
      cases mu_rq u r.toNat with
      | none => rfl
      | some q => exact if_neg (by decide)
    rw [e]
    refine xe_s (f := (14, _, xi 0 :: _, _)) xt_g331 rfl rfl rfl rfl rfl ?_
    refine xe_iret xt_g331 rfl rfl (xi_bool (by first | omega | exact xb_or _)).1 ?_
    exact ⟨_, _, _, rfl, rfl, rfl, hz, hl⟩
end XLD
