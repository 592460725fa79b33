/-! the reference: refer, from its beginning -/
section XRG
variable (fm : Value) {m n : Nat} {h0 : xm_H} {s : Nat → Int} {ar : Nat → Nat → Int}
theorem xd_PF_G {s0 : Nat → Int} {ar0 : Nat → Nat → Int} {sec : Bool} {r : Option (List Int × Int × List Int × List Int)} {z : Int} {s' : Nat → Int} {ar' : Nat → Nat → Int} (hq : xq [3, 10, 11, 12, 13] [6, 7, 8, 9] s0 ar0 s ar) (h : xd_PF s ar sec r z s' ar') : xd_PG s0 ar0 (r.map (fun x => (sec, x))) z s' ar' := by
  obtain ⟨w, q, hn, hs⟩ := h
  refine ⟨w, xq_t hq q, fun e => hn (by cases r with | none => rfl | some x => cases e), fun a e => ?_⟩
  cases r with
  | none => cases e
  | some x =>
    cases e
    exact hs x.1 x.2.1 x.2.2.1 x.2.2.2 rfl
theorem xe_refer0 (hmn : xo_in m n) {s0 : Nat → Int} {ar0 : Nat → Nat → Int} (hw : xo_wf s ar) (hq : xq [3, 10, 11, 12, 13] [6, 7, 8, 9] s0 ar0 s ar) {b : Int} {a : pa_A} (hb : 0 ≤ b ∧ b < 98) (hs : pa_at ar b (pa_text a)) (ho : pa_ok a)
    (h2 : 0 ≤ s 2 ∧ s 2 ≤ 160) (h3 : s 3 = 0) (h11 : s 11 = 0) (h12 : s 12 = -1) (h10 : s 10 = 0) (h13 : s 13 = xb a.1) (hr : pa_ref (xd_at s0 ar0) (s0 2) a = pa_ref (xd_at s ar) (s 2) a) :
    xe fm 268 (9, [(0, .ref m), (1, xi b)], [], (xo m s ar h0, n, 0, 0)) (xQI m n h0 (xd_PG s0 ar0 (pa_ref (xd_at s0 ar0) (s0 2) a))) := by
  have hpl : (pa_hd a).length + a.2.2.2.1.length + a.2.2.2.2.length ≤ 60 := by
    have := ho.2.2.2.2.1
    unfold pa_text at this
    simpa [Nat.add_assoc] using this
  have h5 : 0 ≤ ar 5 b.toNat ∧ ar 5 b.toNat ≤ 60 := by
    have := hs.1
    have := hs.2.1
    omega
  have hs' : pa_at ar b (pa_hd a ++ (a.2.2.2.1 ++ a.2.2.2.2)) := by
    have := hs
    unfold pa_text at this
    rw [List.append_assoc] at this
    exact this
  obtain ⟨p, hp⟩ := ho.2.1
  have hoe : xd_oe ar b = (pa_hd a).length := pa_oe hs' hb.1 ho (Or.inr ⟨p ++ a.2.2.2.2, by rw [hp]; rfl⟩)
  have hpe : xd_pe ar b = ((pa_hd a).length : Int) + a.2.2.2.1.length := by
    rw [pa_pe hs hb.1 ho, List.length_append]
    omega
  have hat := fun k => xd_at_r hw k
  have hc0 := hat 0
  have hc1 := hat 1
  have h121 : ∀ (s1 : Nat → Int) (ar1 : Nat → Nat → Int), xo_wf s1 ar1 → xq [10] [6] s ar s1 ar1 → s1 10 = (pa_hd a).length → xh (ar1 6) 0 (pa_hd a) → xd_at s ar 0 ≠ 47 → ¬ (s 2 = 0 ∨ xd_at s ar 0 = 63 ∨ xd_at s ar 0 = 35) → ∀ j : Nat, j ≤ a.2.2.2.1.length → pa_bl a.2.2.2.1 47 j = pa_bl a.2.2.2.1 47 a.2.2.2.1.length →
      xe fm 268 (121, [(5, xi (((pa_hd a).length : Int) + j)), (4, xi (xb false)), (3, xi (pa_hd a).length), (2, xi (xd_at s ar 0)), (0, .ref m), (1, xi b)], [], (xo m s1 ar1 h0, n, 0, 0)) (xQI m n h0 (xd_PG s0 ar0 (pa_ref (xd_at s0 ar0) (s0 2) a))) := by
    intro s1 ar1 w1 q1 g10 gH hc7 hk4
    have hs1 := pa_at_c hs (q1.2 4 (by decide)) (q1.2 5 (by decide))
    have hpos : 0 < pa_bl a.2.2.2.1 47 a.2.2.2.1.length := pa_bl_pos (by rw [hp]; rfl) _ (by rw [hp]; simp)
    intro j
    induction j with
    | zero =>
      intro hj hbl
      rw [pa_bl] at hbl
      omega
    | succ j ih =>
      intro hj hbl
      have et : xd_at s1 ar1 = xd_at s ar := xq_at q1 (by decide) (by decide)
      have e7 : ar1 4 (60 * b + (((pa_hd a).length : Int) + ((j + 1 : Nat) : Int) - 1)).toNat = a.2.2.2.1.getD j 0 := by
        rw [pa_at_get hs1 hb.1 (by omega) (by unfold pa_text; simp; omega)]
        unfold lc pa_text
        rw [xg_l (by rw [List.length_append]; omega), xg_r (by omega), show (((pa_hd a).length : Int) + ((j + 1 : Nat) : Int) - 1).toNat - (pa_hd a).length = j by omega]
      have hbr := w1.2 4 (60 * b + (((pa_hd a).length : Int) + ((j + 1 : Nat) : Int) - 1)).toNat
      refine xe_s (f := (123, _, _, _)) xt_g268 rfl rfl rfl rfl rfl ?_
      refine xe_if_ne xt_g268 rfl (t := 146) rfl (q := 126) rfl (by first | omega | exact hw.1 _ | exact hw.2 _ _ | exact xb_r _) (fun h123 => ?_) (fun h123 => ?_)
      · exact absurd h123 (by decide)
      · try simp only [xb_0, xb_1, ne_eq, Decidable.not_not, decide_eq_true_eq, decide_eq_false_iff_not] at h123
        refine xe_s (f := (127, _, _, _)) xt_g268 rfl rfl rfl rfl rfl ?_
        refine xe_s (f := (128, _, _, _)) xt_g268 rfl rfl rfl rfl rfl ?_
        refine xe_s (f := (130, _, _, _)) xt_g268 rfl rfl rfl rfl rfl ?_
        refine xe_s (f := (131, _, xi 1 :: _, _)) xt_g268 rfl rfl rfl rfl rfl ?_
        refine xe_isub xt_g268 rfl (q := 132) rfl ?_
        refine xe_cvI xt_g268 rfl (q := 135) rfl xk_13_172 rfl (by omega) xt_g270 (by decide) ⟨Nat.le_of_ble_eq_true rfl, Nat.le_of_ble_eq_true rfl, Nat.le_of_ble_eq_true rfl⟩ (xv_textAt fm hmn (by omega) (by omega)) ?_
        refine xe_bipush xt_g268 rfl (q := 137) rfl (by decide) (by decide) ?_
        refine xe_ic_eq xt_g268 rfl (t := 146) rfl (q := 140) rfl (by first | omega | exact hw.1 _ | exact hw.2 _ _ | exact xb_r _) (by first | omega | exact hw.1 _ | exact hw.2 _ _ | exact xb_r _) (fun h137 => ?_) (fun h137 => ?_)
        · rw [e7] at h137
          rw [pa_bl, if_pos h137] at hbl
          exact xe_refer1 fm hmn w1 (xq_t hq (xq_mm q1 (by decide) (by decide))) (kp := false) (K := j + 1) hb hs1 ho (by rw [q1.1 2 (by decide)]; exact h2) (by rw [q1.1 3 (by decide)]; exact h3) (by rw [q1.1 11 (by decide)]; exact h11) (by rw [q1.1 12 (by decide)]; exact h12) g10 gH (by rw [et]) hc7 (by rw [q1.1 2 (by decide), decide_eq_false hk4]) (by rw [if_neg (by decide)]; exact hbl) (by rw [et, q1.1 2 (by decide)]; exact hr)
        · refine xe_iinc xt_g268 rfl (q := 143) rfl rfl (by decide) (L1 := [(5, _), (4, _), (3, _), (2, _), (0, _), (1, _)]) rfl ?_
          refine xe_s (f := (121, _, _, _)) xt_g268 rfl rfl rfl rfl rfl ?_
          rw [e7] at h137
          rw [pa_bl, if_neg h137] at hbl
          rw [show ((pa_hd a).length : Int) + ((j + 1 : Nat) : Int) + -1 = ((pa_hd a).length : Int) + (j : Int) by omega]
          exact ih (by omega) hbl
  have h112 : ∀ (s1 : Nat → Int) (ar1 : Nat → Nat → Int) (v4 : Value), xo_wf s1 ar1 → xq [10] [6] s ar s1 ar1 → s1 10 = (pa_hd a).length → xh (ar1 6) 0 (pa_hd a) → xd_at s ar 0 ≠ 47 → ∀ z : Int, z = xb (decide (s 2 = 0 ∨ xd_at s ar 0 = 63 ∨ xd_at s ar 0 = 35)) →
      xe fm 268 (112, [(4, v4), (3, xi (pa_hd a).length), (2, xi (xd_at s ar 0)), (0, .ref m), (1, xi b)], [xi z], (xo m s1 ar1 h0, n, 0, 0)) (xQI m n h0 (xd_PG s0 ar0 (pa_ref (xd_at s0 ar0) (s0 2) a))) := by
    intro s1 ar1 v4 w1 q1 g10 gH hc7 z hz
    have hs1 := pa_at_c hs (q1.2 4 (by decide)) (q1.2 5 (by decide))
    have et : xd_at s1 ar1 = xd_at s ar := xq_at q1 (by decide) (by decide)
    have hpe1 : xd_pe ar1 b = ((pa_hd a).length : Int) + a.2.2.2.1.length := by
      rw [pa_pe hs1 hb.1 ho, List.length_append]
      omega
    refine xe_s (f := (114, [(4, _), (3, _), (2, _), (0, _), (1, _)], _, _)) xt_g268 rfl rfl rfl rfl rfl ?_
    refine xe_s (f := (115, _, _, _)) xt_g268 rfl rfl rfl rfl rfl ?_
    refine xe_s (f := (116, _, _, _)) xt_g268 rfl rfl rfl rfl rfl ?_
    refine xe_cvI xt_g268 rfl (q := 119) rfl xk_13_238 rfl (by omega) xt_g273 (by decide) ⟨Nat.le_of_ble_eq_true rfl, Nat.le_of_ble_eq_true rfl, Nat.le_of_ble_eq_true rfl⟩ (xv_pathEnd fm hmn w1 hb.1 hb.2 (by rw [q1.2 5 (by decide)]; exact h5)) ?_
    rw [hpe1, hz]
    refine xe_s (f := (121, [(5, _), (4, _), (3, _), (2, _), (0, _), (1, _)], _, _)) xt_g268 rfl rfl rfl rfl rfl ?_
    by_cases hk4 : s 2 = 0 ∨ xd_at s ar 0 = 63 ∨ xd_at s ar 0 = 35
    · rw [decide_eq_true hk4]
      refine xe_s (f := (123, _, _, _)) xt_g268 rfl rfl rfl rfl rfl ?_
      refine xe_if_ne xt_g268 rfl (t := 146) rfl (q := 126) rfl (by first | omega | exact hw.1 _ | exact hw.2 _ _ | exact xb_r _) (fun h123 => ?_) (fun h123 => ?_)
      · exact xe_refer1 fm hmn w1 (xq_t hq (xq_mm q1 (by decide) (by decide))) (kp := true) (K := a.2.2.2.1.length) hb hs1 ho (by rw [q1.1 2 (by decide)]; exact h2) (by rw [q1.1 3 (by decide)]; exact h3) (by rw [q1.1 11 (by decide)]; exact h11) (by rw [q1.1 12 (by decide)]; exact h12) g10 gH (by rw [et]) hc7 (by rw [q1.1 2 (by decide), decide_eq_true hk4]) (by rw [if_pos rfl]) (by rw [et, q1.1 2 (by decide)]; exact hr)
      · exact absurd (show xb true ≠ 0 by decide) h123
    · rw [decide_eq_false hk4]
      exact h121 s1 ar1 w1 q1 g10 gH hc7 hk4 _ (Nat.le_refl _) rfl
  have h73 : ¬ (xd_at s ar 0 = 47 ∧ xd_at s ar 1 = 47) → ∀ (s1 : Nat → Int) (ar1 : Nat → Nat → Int) (v4 : Value), xo_wf s1 ar1 → xq [10] [6] s ar s1 ar1 → s1 10 = (pa_hd a).length → xh (ar1 6) 0 (pa_hd a) →
      xe fm 268 (73, [(4, v4), (3, xi (pa_hd a).length), (2, xi (xd_at s ar 0)), (0, .ref m), (1, xi b)], [], (xo m s1 ar1 h0, n, 0, 0)) (xQI m n h0 (xd_PG s0 ar0 (pa_ref (xd_at s0 ar0) (s0 2) a))) := by
    intro hnn s1 ar1 v4 w1 q1 g10 gH
    have et : xd_at s1 ar1 = xd_at s ar := xq_at q1 (by decide) (by decide)
    have e2 : s1 2 = s 2 := q1.1 2 (by decide)
    have e3 : s1 3 = 0 := (q1.1 3 (by decide)).trans h3
    have e12 : s1 12 = -1 := (q1.1 12 (by decide)).trans h12
    have e11 : s1 11 = 0 := (q1.1 11 (by decide)).trans h11
    have Q1 := xq_t hq (xq_mm (S' := [3, 10, 11, 12, 13]) (A' := [6, 7, 8, 9]) q1 (by decide) (by decide))
    have hcn := xd_cnt_r (p := xd_pth) (t := xd_at s ar) (s 2).toNat 0
    refine xe_s (f := (74, _, _, _)) xt_g268 rfl rfl rfl rfl rfl ?_
    refine xe_bipush xt_g268 rfl (q := 76) rfl (by decide) (by decide) ?_
    refine xe_ic_ne xt_g268 rfl (t := 88) rfl (q := 79) rfl (by first | omega | exact hw.1 _ | exact hw.2 _ _ | exact xb_r _) (by first | omega | exact hw.1 _ | exact hw.2 _ _ | exact xb_r _) (fun h76 => ?_) (fun h76 => ?_)
    · refine xe_s (f := (89, _, _, _)) xt_g268 rfl rfl rfl rfl rfl ?_
      refine xe_mgs xt_g268 rfl (q := 92) rfl (xf_13_149 fm) (by decide) rfl (by omega) ?_
      try simp only [xo_u, xo_w, Nat.reduceEqDiff, reduceIte, false_and, true_and]
      rw [e2]
      refine xe_if_eq xt_g268 rfl (t := 107) rfl (q := 95) rfl (by first | omega | exact hw.1 _ | exact hw.2 _ _ | exact xb_r _) (fun h92 => ?_) (fun h92 => ?_)
      · try simp only [xb_0, xb_1, ne_eq, Decidable.not_not, decide_eq_true_eq, decide_eq_false_iff_not] at h92
        refine xe_s (f := (108, _, xi 1 :: _, _)) xt_g268 rfl rfl rfl rfl rfl ?_
        refine xe_s (f := (112, _, _, _)) xt_g268 rfl rfl rfl rfl rfl ?_
        exact h112 s1 ar1 v4 w1 q1 g10 gH h76 _ (by simp [xb, *])
      · try simp only [xb_0, xb_1, ne_eq, Decidable.not_not, decide_eq_true_eq, decide_eq_false_iff_not] at h92
        refine xe_s (f := (96, _, _, _)) xt_g268 rfl rfl rfl rfl rfl ?_
        refine xe_bipush xt_g268 rfl (q := 98) rfl (by decide) (by decide) ?_
        refine xe_ic_eq xt_g268 rfl (t := 107) rfl (q := 101) rfl (by first | omega | exact hw.1 _ | exact hw.2 _ _ | exact xb_r _) (by first | omega | exact hw.1 _ | exact hw.2 _ _ | exact xb_r _) (fun h98 => ?_) (fun h98 => ?_)
        · refine xe_s (f := (108, _, xi 1 :: _, _)) xt_g268 rfl rfl rfl rfl rfl ?_
          refine xe_s (f := (112, _, _, _)) xt_g268 rfl rfl rfl rfl rfl ?_
          exact h112 s1 ar1 v4 w1 q1 g10 gH h76 _ (by simp [xb, *])
        · refine xe_s (f := (102, _, _, _)) xt_g268 rfl rfl rfl rfl rfl ?_
          refine xe_bipush xt_g268 rfl (q := 104) rfl (by decide) (by decide) ?_
          refine xe_ic_ne xt_g268 rfl (t := 111) rfl (q := 107) rfl (by first | omega | exact hw.1 _ | exact hw.2 _ _ | exact xb_r _) (by first | omega | exact hw.1 _ | exact hw.2 _ _ | exact xb_r _) (fun h104 => ?_) (fun h104 => ?_)
          · refine xe_s (f := (112, _, xi 0 :: _, _)) xt_g268 rfl rfl rfl rfl rfl ?_
            exact h112 s1 ar1 v4 w1 q1 g10 gH h76 _ (by simp [xb, *])
          · refine xe_s (f := (108, _, xi 1 :: _, _)) xt_g268 rfl rfl rfl rfl rfl ?_
            refine xe_s (f := (112, _, _, _)) xt_g268 rfl rfl rfl rfl rfl ?_
            exact h112 s1 ar1 v4 w1 q1 g10 gH h76 _ (by simp [xb, *])
    · refine xe_s (f := (80, _, _, _)) xt_g268 rfl rfl rfl rfl rfl ?_
      refine xe_chV xt_g268 rfl (q := 83) rfl xk_13_220 rfl (by omega) xt_g262 (by decide) ⟨Nat.le_of_ble_eq_true rfl, Nat.le_of_ble_eq_true rfl, Nat.le_of_ble_eq_true rfl⟩ (xU_readPath fm hmn w1 (P := []) (by omega) (by omega) (by simpa using e11) xh_nil (by simp)) (fun s2 ar2 hp2 => ?_)
      obtain ⟨w2, q2, p3, p11, pP⟩ := hp2
      rw [et, e2, e3, Int.zero_add, Int.sub_zero] at p3 p11 pP
      rw [List.nil_append] at p11 pP
      have et2 : xd_at s2 ar2 = xd_at s ar := (xq_at q2 (by decide) (by decide)).trans et
      have i2 : s2 2 = s 2 := (q2.1 2 (by decide)).trans e2
      have i12 : s2 12 = -1 := (q2.1 12 (by decide)).trans e12
      have h76' := Decidable.not_not.mp h76
      refine xe_s (f := (84, _, _, _)) xt_g268 rfl rfl rfl rfl rfl ?_
      refine xe_chI xt_g268 rfl (q := 87) rfl xk_13_223 rfl (by omega) xt_g264 (by decide) ⟨Nat.le_of_ble_eq_true rfl, Nat.le_of_ble_eq_true rfl, Nat.le_of_ble_eq_true rfl⟩ (xV_readTail fm hmn w2 (by omega) (by omega) i12) (fun z3 s3 ar3 hp3 => ?_)
      obtain ⟨w3, q3, pz3, pq3⟩ := hp3
      rw [et2, i2, p3] at pz3 pq3
      have Q3 := xq_t (xq_t Q1 (xq_mm (S' := [3, 10, 11, 12, 13]) (A' := [6, 7, 8, 9]) q2 (by decide) (by decide))) (xq_mm (S' := [3, 10, 11, 12, 13]) (A' := [6, 7, 8, 9]) q3 (by decide) (by decide))
      have hz3 : z3 = 0 ∨ z3 = 1 := by rw [pz3]; exact xb_or _
      have hE : s 2 ≠ 0 := by
        intro h
        rw [xd_at_0 (by omega)] at h76'
        exact absurd h76' (by decide)
      have er : pa_ref (xd_at s0 ar0) (s0 2) a = if pa_q2 (xd_at s ar) (s 2) (pa_q1 (xd_at s ar) (s 2) (xd_cnt xd_pth (xd_at s ar) (s 2).toNat 0)) = s 2 then some (a.1, a.2.1, a.2.2.1, pa_sl (xd_at s ar) 0 (xd_cnt xd_pth (xd_at s ar) (s 2).toNat 0), pa_qy (xd_at s ar) (s 2) (xd_cnt xd_pth (xd_at s ar) (s 2).toNat 0)) else none := by
        rw [hr]
        unfold pa_ref
        rw [if_neg hnn, if_neg (by rw [h76']; omega), if_pos h76', List.nil_append]
      refine xe_iret xt_g268 rfl rfl (xi_bool (by first | omega | exact xb_or _)).1 ?_
      by_cases hy : pa_q2 (xd_at s ar) (s 2) (pa_q1 (xd_at s ar) (s 2) (xd_cnt xd_pth (xd_at s ar) (s 2).toNat 0)) = s 2
      · rw [if_pos hy] at er
        rw [decide_eq_true hy] at pz3
        rw [er]
        refine ⟨_, _, _, rfl, rfl, w3, Q3, fun h => (by cases h), fun a' h => ?_⟩
        cases h
        refine ⟨pz3, ?_, ?_, ?_, ?_, pq3, ?_, ?_⟩
        · rw [q3.1 10 (by decide), q2.1 10 (by decide), g10]
          rfl
        · rw [q3.2 6 (by decide), q2.2 6 (by decide)]
          exact gH
        · rw [q3.1 11 (by decide), p11]
        · rw [q3.2 7 (by decide)]
          exact pP
        · have : (pa_hd a).length = (pa_scm a.1).length + a.2.1.length + (pa_pt a.1 a.2.2.1).length := by unfold pa_hd; simp [Nat.add_assoc]
          show a.2.1.length ≤ 160
          omega
        · show (pa_sl _ _ _).length ≤ 220
          rw [pa_sl_len]
          omega
      · rw [if_neg hy] at er
        rw [decide_eq_false hy] at pz3
        subst pz3
        exact ⟨_, _, _, rfl, rfl, xd_PG_0 w3 Q3 er⟩
  have h41 : ¬ (xd_at s ar 0 = 47 ∧ xd_at s ar 1 = 47) → xe fm 268 (41, [(2, xi (xd_at s ar 0)), (0, .ref m), (1, xi b)], [], (xo m s ar h0, n, 0, 0)) (xQI m n h0 (xd_PG s0 ar0 (pa_ref (xd_at s0 ar0) (s0 2) a))) := by
    intro hnn
    have loop : ∀ (N k : Nat) (s1 : Nat → Int) (ar1 : Nat → Nat → Int), k + N = (pa_hd a).length → xo_wf s1 ar1 → xq [10] [6] s ar s1 ar1 → s1 10 = k → xh (ar1 6) 0 ((pa_hd a).take k) →
        xe fm 268 (50, [(4, xi k), (3, xi (pa_hd a).length), (2, xi (xd_at s ar 0)), (0, .ref m), (1, xi b)], [], (xo m s1 ar1 h0, n, 0, 0)) (xQI m n h0 (xd_PG s0 ar0 (pa_ref (xd_at s0 ar0) (s0 2) a))) := by
      intro N
      induction N with
      | zero =>
        intro k s1 ar1 hk w1 q1 g10 gH
        rw [List.take_of_length_le (by omega)] at gH
        refine xe_s (f := (52, _, _, _)) xt_g268 rfl rfl rfl rfl rfl ?_
        refine xe_s (f := (53, _, _, _)) xt_g268 rfl rfl rfl rfl rfl ?_
        refine xe_ic_ge xt_g268 rfl (t := 73) rfl (q := 56) rfl (by first | omega | exact hw.1 _ | exact hw.2 _ _ | exact xb_r _) (by first | omega | exact hw.1 _ | exact hw.2 _ _ | exact xb_r _) (fun h53 => ?_) (fun h53 => ?_)
        · exact h73 hnn s1 ar1 _ w1 q1 (by rw [g10, ← hk]; rfl) gH
        · exact absurd h53 (by omega)
      | succ N ih =>
        intro k s1 ar1 hk w1 q1 g10 gH
        have hs1 := pa_at_c hs (q1.2 4 (by decide)) (q1.2 5 (by decide))
        have e7 : ar1 4 (60 * b + (k : Int)).toNat = (pa_hd a).getD k 0 := by
          rw [pa_at_get hs1 hb.1 (by omega) (by unfold pa_text; simp; omega)]
          unfold lc pa_text
          rw [xg_l (by rw [List.length_append]; omega), xg_l (by omega)]
          rfl
        have el : (((pa_hd a).take k).length : Int) = k := by rw [List.length_take]; omega
        refine xe_s (f := (52, _, _, _)) xt_g268 rfl rfl rfl rfl rfl ?_
        refine xe_s (f := (53, _, _, _)) xt_g268 rfl rfl rfl rfl rfl ?_
        refine xe_ic_ge xt_g268 rfl (t := 73) rfl (q := 56) rfl (by first | omega | exact hw.1 _ | exact hw.2 _ _ | exact xb_r _) (by first | omega | exact hw.1 _ | exact hw.2 _ _ | exact xb_r _) (fun h53 => ?_) (fun h53 => ?_)
        · exact absurd h53 (by omega)
        · refine xe_s (f := (57, _, _, _)) xt_g268 rfl rfl rfl rfl rfl ?_
          refine xe_s (f := (58, _, _, _)) xt_g268 rfl rfl rfl rfl rfl ?_
          refine xe_s (f := (59, _, _, _)) xt_g268 rfl rfl rfl rfl rfl ?_
          refine xe_s (f := (61, _, _, _)) xt_g268 rfl rfl rfl rfl rfl ?_
          refine xe_cvI xt_g268 rfl (q := 64) rfl xk_13_172 rfl (by omega) xt_g270 (by decide) ⟨Nat.le_of_ble_eq_true rfl, Nat.le_of_ble_eq_true rfl, Nat.le_of_ble_eq_true rfl⟩ (xv_textAt fm hmn (by omega) (by omega)) ?_
          refine xe_chV xt_g268 rfl (q := 67) rfl xk_13_188 rfl (by omega) xt_g253 (by decide) ⟨Nat.le_of_ble_eq_true rfl, Nat.le_of_ble_eq_true rfl, Nat.le_of_ble_eq_true rfl⟩ (xU_addHead fm hmn w1 (H := (pa_hd a).take k) (w1.2 _ _) (by rw [g10]; exact el.symm) gH (by omega)) (fun s2 ar2 hp2 => ?_)
          refine xe_iinc xt_g268 rfl (q := 70) rfl rfl (by decide) (L1 := [(4, _), (3, _), (2, _), (0, _), (1, _)]) rfl ?_
          refine xe_s (f := (50, _, _, _)) xt_g268 rfl rfl rfl rfl rfl ?_
          obtain ⟨w2, q2, p3, p10, pH⟩ := hp2
          have q2' : xq [10] [6] s1 ar1 s2 ar2 := ⟨fun j hj => by
            by_cases h : j = 3
            · rw [h, p3]
            · exact q2.1 j (by simp at hj ⊢; omega), q2.2⟩
          rw [show ((k : Int) + 1) = ((k + 1 : Nat) : Int) by omega]
          have hlt : k < (pa_hd a).length := by omega
          rw [e7, show (pa_hd a).getD k 0 = (pa_hd a)[k] by simp [List.getD, hlt], ← List.take_succ_eq_append_getElem hlt] at pH p10
          exact ih (k + 1) s2 ar2 (by omega) w2 (xq_t q1 q2') (by rw [p10, List.length_take]; omega) pH
    refine xe_s (f := (42, _, _, _)) xt_g268 rfl rfl rfl rfl rfl ?_
    refine xe_s (f := (43, _, _, _)) xt_g268 rfl rfl rfl rfl rfl ?_
    refine xe_cvI xt_g268 rfl (q := 46) rfl xk_13_182 rfl (by omega) xt_g271 (by decide) ⟨Nat.le_of_ble_eq_true rfl, Nat.le_of_ble_eq_true rfl, Nat.le_of_ble_eq_true rfl⟩ (xv_originEnd fm hmn hw hb.1 hb.2 h5) ?_
    rw [hoe]
    refine xe_s (f := (47, [(3, _), (2, _), (0, _), (1, _)], _, _)) xt_g268 rfl rfl rfl rfl rfl ?_
    refine xe_s (f := (48, _, xi 0 :: _, _)) xt_g268 rfl rfl rfl rfl rfl ?_
    refine xe_s (f := (50, [(4, _), (3, _), (2, _), (0, _), (1, _)], _, _)) xt_g268 rfl rfl rfl rfl rfl ?_
    exact loop (pa_hd a).length 0 s ar (by omega) hw xq_r h10 xh_nil
  refine xe_s (f := (10, _, _, _)) xt_g268 rfl rfl rfl rfl rfl ?_
  refine xe_s (f := (11, _, xi 0 :: _, _)) xt_g268 rfl rfl rfl rfl rfl ?_
  refine xe_cvI xt_g268 rfl (q := 14) rfl xk_13_155 rfl (by omega) xt_g249 (by decide) ⟨Nat.le_of_ble_eq_true rfl, Nat.le_of_ble_eq_true rfl, Nat.le_of_ble_eq_true rfl⟩ (xv_charAt fm hmn h2 (by omega)) ?_
  refine xe_s (f := (15, [(2, _), (0, _), (1, _)], _, _)) xt_g268 rfl rfl rfl rfl rfl ?_
  refine xe_s (f := (16, _, _, _)) xt_g268 rfl rfl rfl rfl rfl ?_
  refine xe_bipush xt_g268 rfl (q := 18) rfl (by decide) (by decide) ?_
  refine xe_ic_ne xt_g268 rfl (t := 41) rfl (q := 21) rfl (by first | omega | exact hw.1 _ | exact hw.2 _ _ | exact xb_r _) (by first | omega | exact hw.1 _ | exact hw.2 _ _ | exact xb_r _) (fun h18 => ?_) (fun h18 => ?_)
  · exact h41 (fun h => h18 h.1)
  · refine xe_s (f := (22, _, _, _)) xt_g268 rfl rfl rfl rfl rfl ?_
    refine xe_s (f := (23, _, xi 1 :: _, _)) xt_g268 rfl rfl rfl rfl rfl ?_
    refine xe_cvI xt_g268 rfl (q := 26) rfl xk_13_155 rfl (by omega) xt_g249 (by decide) ⟨Nat.le_of_ble_eq_true rfl, Nat.le_of_ble_eq_true rfl, Nat.le_of_ble_eq_true rfl⟩ (xv_charAt fm hmn h2 (by omega)) ?_
    refine xe_bipush xt_g268 rfl (q := 28) rfl (by decide) (by decide) ?_
    refine xe_ic_ne xt_g268 rfl (t := 41) rfl (q := 31) rfl (by first | omega | exact hw.1 _ | exact hw.2 _ _ | exact xb_r _) (by first | omega | exact hw.1 _ | exact hw.2 _ _ | exact xb_r _) (fun h28 => ?_) (fun h28 => ?_)
    · exact h41 (fun h => h28 h.2)
    · have h18' := Decidable.not_not.mp h18
      have h28' := Decidable.not_not.mp h28
      have hE : 2 ≤ s 2 := by
        apply Decidable.byContradiction
        intro h
        rw [xd_at_0 (by omega)] at h28'
        exact absurd h28' (by decide)
      refine xe_s (f := (32, _, _, _)) xt_g268 rfl rfl rfl rfl rfl ?_
      refine xe_s (f := (33, _, xi 2 :: _, _)) xt_g268 rfl rfl rfl rfl rfl ?_
      refine xe_mps xt_g268 rfl (q := 36) rfl (xf_13_152 fm) (by decide) rfl (by omega) (by omega) xi_int (Or.inl rfl) ?_
      refine xe_s (f := (37, _, _, _)) xt_g268 rfl rfl rfl rfl rfl ?_
      refine xe_chI xt_g268 rfl (q := 40) rfl xk_13_229 rfl (by omega) xt_g259 (by decide) ⟨Nat.le_of_ble_eq_true rfl, Nat.le_of_ble_eq_true rfl, Nat.le_of_ble_eq_true rfl⟩ (xV_readFromHost fm hmn (xo_wf_u hw (by omega)) (sec := a.1) h2 (by rw [xo_uS]; show 0 ≤ (2 : Int) ∧ 2 ≤ s 2; omega) h10 h11 h12 h13) (fun z2 s2 ar2 hp2 => ?_)
      have hz2 : z2 = 0 ∨ z2 = 1 := by
        cases hpp : pa_from (xd_at (xo_u s 3 2) ar) (xo_u s 3 2 2) a.1 (xo_u s 3 2 3) with
        | none => exact Or.inl (hp2.2.2.1 hpp)
        | some x => exact Or.inr (hp2.2.2.2 x.1 x.2.1 x.2.2.1 x.2.2.2 hpp).1
      refine xe_iret xt_g268 rfl rfl (xi_bool (by first | omega | exact xb_or _)).1 ?_
      have er : pa_ref (xd_at s0 ar0) (s0 2) a = (pa_from (xd_at s ar) (s 2) a.1 2).map (fun r => (a.1, r)) := by
        rw [hr]
        unfold pa_ref
        rw [if_pos ⟨h18', h28'⟩]
      rw [er]
      have hp3 : xd_PF (xo_u s 3 2) ar a.1 (pa_from (xd_at s ar) (s 2) a.1 2) z2 s2 ar2 := hp2
      exact ⟨_, _, _, rfl, rfl, xd_PF_G (xq_t hq (xq_u xq_r (by decide))) hp3⟩
theorem xV_refer (hmn : xo_in m n) (hw : xo_wf s ar) {b : Int} {a : pa_A} (hb : 0 ≤ b ∧ b < 98) (hs : pa_at ar b (pa_text a)) (ho : pa_ok a)
    (h2 : 0 ≤ s 2 ∧ s 2 ≤ 160) (h3 : s 3 = 0) (h11 : s 11 = 0) (h12 : s 12 = -1) (h10 : s 10 = 0) :
    xV fm 268 m n h0 s ar [.ref m, xi b] (xd_PG s ar (pa_ref (xd_at s ar) (s 2) a)) := by
  show xe fm 268 (0, [(0, .ref m), (1, xi b)], [], (xo m s ar h0, n, 0, 0)) _
  have hsf : xd_safe ar b = a.1 := by
    have h := hs
    unfold pa_text pa_hd at h
    rw [List.append_assoc, List.append_assoc, List.append_assoc] at h
    exact pa_safe h hb.1
  have hx := xb_or a.1
  refine xe_s (f := (1, _, _, _)) xt_g268 rfl rfl rfl rfl rfl ?_
  refine xe_s (f := (2, _, _, _)) xt_g268 rfl rfl rfl rfl rfl ?_
  refine xe_s (f := (3, _, _, _)) xt_g268 rfl rfl rfl rfl rfl ?_
  refine xe_cvI xt_g268 rfl (q := 6) rfl xk_13_176 rfl (by omega) xt_g269 (by decide) ⟨Nat.le_of_ble_eq_true rfl, Nat.le_of_ble_eq_true rfl, Nat.le_of_ble_eq_true rfl⟩ (xv_isSafe fm hmn hw hb.1 hb.2) ?_
  rw [hsf]
  refine xe_mps xt_g268 rfl (q := 9) rfl (xf_13_192 fm) (by decide) rfl (by omega) (by omega) (xi_bool (by omega)) (Or.inl rfl) ?_
  exact xe_refer0 fm hmn (xo_wf_u hw (xb_r _)) (xq_u xq_r (by decide)) hb hs ho h2 h3 h11 h12 h10 xo_uS rfl
end XRG
