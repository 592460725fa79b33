/-! the reference: refer -/
def pa_ref (t : Int → Int) (E : Int) (b : pa_A) : Option pa_A :=
  if t 0 = 47 ∧ t 1 = 47 then (pa_from t E b.1 2).map (fun r => (b.1, r))
  else if E = 0 ∨ t 0 = 63 ∨ t 0 = 35 then (if pa_q2 t E (pa_q1 t E 0) = E then some (b.1, b.2.1, b.2.2.1, b.2.2.2.1, if t 0 = 63 then pa_qy t E 0 else b.2.2.2.2) else none)
  else if pa_q2 t E (pa_q1 t E (xd_cnt xd_pth t E.toNat 0)) = E then some (b.1, b.2.1, b.2.2.1, (if t 0 = 47 then [] else pa_fold b.2.2.2.1) ++ pa_sl t 0 (xd_cnt xd_pth t E.toNat 0), pa_qy t E (xd_cnt xd_pth t E.toNat 0)) else none
def xd_PG (s : Nat → Int) (ar : Nat → Nat → Int) (r : Option pa_A) (z : Int) (s' : Nat → Int) (ar' : Nat → Nat → Int) : Prop := xo_wf s' ar' ∧ xq [3, 10, 11, 12, 13] [6, 7, 8, 9] s ar s' ar' ∧ (r = none → z = 0) ∧ ∀ a, r = some a → z = 1 ∧ s' 10 = (pa_hd a).length ∧ xh (ar' 6) 0 (pa_hd a) ∧ s' 11 = a.2.2.2.1.length ∧ xh (ar' 7) 0 a.2.2.2.1 ∧ pa_qs s' ar' a.2.2.2.2 ∧ a.2.1.length ≤ 160 ∧ a.2.2.2.1.length ≤ 220
section XRF
variable (fm : Value) {m n : Nat} {h0 : xm_H} {s : Nat → Int} {ar : Nat → Nat → Int}
theorem xd_PG_0 {r : Option pa_A} {s0 : Nat → Int} {ar0 : Nat → Nat → Int} (hw : xo_wf s ar) (hq : xq [3, 10, 11, 12, 13] [6, 7, 8, 9] s0 ar0 s ar) (hr : r = none) : xd_PG s0 ar0 r 0 s ar := ⟨hw, hq, fun _ => rfl, fun a h => by rw [hr] at h; cases h⟩
/-- from the path on: the prefix is copied, what follows is read -/
theorem xe_refer1 (hmn : xo_in m n) {s0 : Nat → Int} {ar0 : Nat → Nat → Int} (hw : xo_wf s ar) (hq : xq [3, 10, 11, 12, 13] [6, 7, 8, 9] s0 ar0 s ar) {b c0 : Int} {a : pa_A} {kp : Bool} {K : Nat} (hb : 0 ≤ b ∧ b < 98) (hs : pa_at ar b (pa_text a)) (ho : pa_ok a)
    (h2 : 0 ≤ s 2 ∧ s 2 ≤ 160) (h3 : s 3 = 0) (h11 : s 11 = 0) (h12 : s 12 = -1) (h10 : s 10 = (pa_hd a).length) (hH : xh (ar 6) 0 (pa_hd a)) (hc : c0 = xd_at s ar 0) (hc7 : c0 ≠ 47)
    (hkp : kp = decide (s 2 = 0 ∨ c0 = 63 ∨ c0 = 35)) (hK : K = if kp = true then a.2.2.2.1.length else pa_bl a.2.2.2.1 47 a.2.2.2.1.length) (hr : pa_ref (xd_at s0 ar0) (s0 2) a = pa_ref (xd_at s ar) (s 2) a) :
    xe fm 268 (146, [(5, xi (((pa_hd a).length : Int) + K)), (4, xi (xb kp)), (3, xi (pa_hd a).length), (2, xi c0), (0, .ref m), (1, xi b)], [], (xo m s ar h0, n, 0, 0)) (xQI m n h0 (xd_PG s0 ar0 (pa_ref (xd_at s0 ar0) (s0 2) a))) := by
  have hpl : (pa_hd a).length + a.2.2.2.1.length + a.2.2.2.2.length ≤ 60 := by
    have := ho.2.2.2.2.1
    unfold pa_text at this
    simpa [Nat.add_assoc] using this
  have hKl : K ≤ a.2.2.2.1.length := by
    rw [hK]
    split
    · exact Nat.le_refl _
    · exact pa_bl_le _
  have hcr : xr c0 := by rw [hc]; exact xd_at_r hw _
  have loop : ∀ (N k : Nat) (s1 : Nat → Int) (ar1 : Nat → Nat → Int), k + N = K → xo_wf s1 ar1 → xq [] [7] s ar s1 ar1 → xh (ar1 7) 0 (a.2.2.2.1.take k) → xe fm 268 (149, [(6, xi (((pa_hd a).length : Int) + k)), (5, xi (((pa_hd a).length : Int) + K)), (4, xi (xb kp)), (3, xi (pa_hd a).length), (2, xi c0), (0, .ref m), (1, xi b)], [], (xo m s1 ar1 h0, n, 0, 0)) (xQI m n h0 (xd_PG s0 ar0 (pa_ref (xd_at s0 ar0) (s0 2) a))) := by
    intro N
    induction N with
    | zero =>
      intro k s1 ar1 hk w1 q1 hx
      have ek : k = K := by omega
      subst ek
      have Q1 := xq_t hq (xq_mm (S' := [3, 10, 11, 12, 13]) (A' := [6, 7, 8, 9]) q1 (by decide) (by decide))
      have f := fun j => q1.1 j (by simp)
      have el : ((a.2.2.2.1.take k).length : Int) = k := by rw [List.length_take]; omega
      have e1 : ((pa_hd a).length : Int) + k - (pa_hd a).length = k := by omega
      have et : xd_at (xo_u s1 11 k) ar1 = xd_at s ar := by
        rw [← xq_at q1 (by decide) (by decide)]
        rfl
      have g2 : (xo_u s1 11 (k : Int)) 2 = s 2 := f 2
      have g3 : (xo_u s1 11 (k : Int)) 3 = 0 := (f 3).trans h3
      have hxk := xb_or kp
      refine xe_s (f := (151, _, _, _)) xt_g268 rfl rfl rfl rfl rfl ?_
      refine xe_s (f := (153, _, _, _)) xt_g268 rfl rfl rfl rfl rfl ?_
      refine xe_ic_ge xt_g268 rfl (t := 178) rfl (q := 156) rfl (by first | omega | exact hw.1 _ | exact hw.2 _ _ | exact xb_r _) (by first | omega | exact hw.1 _ | exact hw.2 _ _ | exact xb_r _) (fun h153 => ?_) (fun h153 => ?_)
      · refine xe_s (f := (179, _, _, _)) xt_g268 rfl rfl rfl rfl rfl ?_
        refine xe_s (f := (181, _, _, _)) xt_g268 rfl rfl rfl rfl rfl ?_
        refine xe_s (f := (182, _, _, _)) xt_g268 rfl rfl rfl rfl rfl ?_
        refine xe_isub xt_g268 rfl (q := 183) rfl ?_
        rw [e1]
        refine xe_mps xt_g268 rfl (q := 186) rfl (xf_13_201 fm) (by decide) rfl (by omega) (by omega) xi_int (Or.inl rfl) ?_
        refine xe_s (f := (187, _, _, _)) xt_g268 rfl rfl rfl rfl rfl ?_
        refine xe_chV xt_g268 rfl (q := 190) rfl xk_13_220 rfl (by omega) xt_g262 (by decide) ⟨Nat.le_of_ble_eq_true rfl, Nat.le_of_ble_eq_true rfl, Nat.le_of_ble_eq_true rfl⟩ (xU_readPath fm hmn (xo_wf_u w1 (by omega)) (P := a.2.2.2.1.take k) (by omega) (by omega) (by rw [xo_uS]; exact el.symm) hx (by omega)) (fun s2 ar2 hp2 => ?_)
        obtain ⟨w2, q2, p3, p11, pP⟩ := hp2
        rw [et, g2, g3, Int.zero_add, Int.sub_zero] at p3 p11 pP
        rw [List.length_append, pa_sl_len] at p11
        have hcn := xd_cnt_r (p := xd_pth) (t := xd_at s ar) (s 2).toNat 0
        have Q2 := xq_t (xq_t Q1 (xq_u (k := 11) (z := k) xq_r (by decide))) (xq_mm (S' := [3, 10, 11, 12, 13]) (A' := [6, 7, 8, 9]) q2 (by decide) (by decide))
        have et2 : xd_at s2 ar2 = xd_at s ar := (xq_at q2 (by decide) (by decide)).trans et
        have i2 : s2 2 = s 2 := (q2.1 2 (by decide)).trans g2
        have i12 : s2 12 = -1 := (q2.1 12 (by decide)).trans ((f 12).trans h12)
        have i10 : s2 10 = (pa_hd a).length := (q2.1 10 (by decide)).trans ((f 10).trans h10)
        have i6 : ar2 6 = ar 6 := (q2.2 6 (by decide)).trans (q1.2 6 (by decide))
        have i4 : ar2 4 = ar 4 := (q2.2 4 (by decide)).trans (q1.2 4 (by decide))
        have i5 : ar2 5 = ar 5 := (q2.2 5 (by decide)).trans (q1.2 5 (by decide))
        have hkpe := hkp
        have fail : pa_q2 (xd_at s ar) (s 2) (pa_q1 (xd_at s ar) (s 2) (xd_cnt xd_pth (xd_at s ar) (s 2).toNat 0)) ≠ s 2 → pa_ref (xd_at s0 ar0) (s0 2) a = none := by
          intro hne
          rw [hr]
          unfold pa_ref
          rw [← hc, if_neg (by intro h; exact hc7 h.1)]
          split
          · rename_i hk3
            have e0 : xd_cnt xd_pth (xd_at s ar) (s 2).toNat 0 = 0 := by
              rcases hk3 with hk3 | hk3 | hk3
              · rw [hk3]
                rfl
              · cases hsn : (s 2).toNat with
                | zero => rfl
                | succ j => unfold xd_cnt; rw [← hc, hk3, if_neg (by decide)]
              · cases hsn : (s 2).toNat with
                | zero => rfl
                | succ j => unfold xd_cnt; rw [← hc, hk3, if_neg (by decide)]
            rw [e0] at hne
            rw [if_neg hne]
          · first | rfl | rw [if_neg hne]
        refine xe_s (f := (192, _, _, _)) xt_g268 rfl rfl rfl rfl rfl ?_
        refine xe_if_ne xt_g268 rfl (t := 206) rfl (q := 195) rfl (by first | omega | exact hw.1 _ | exact hw.2 _ _ | exact xb_r _) (fun h192 => ?_) (fun h192 => ?_)
        · try simp only [xb_0, xb_1, ne_eq, Decidable.not_not, decide_eq_true_eq, decide_eq_false_iff_not] at h192
          refine xe_s (f := (207, _, _, _)) xt_g268 rfl rfl rfl rfl rfl ?_
          refine xe_chI xt_g268 rfl (q := 210) rfl xk_13_223 rfl (by omega) xt_g264 (by decide) ⟨Nat.le_of_ble_eq_true rfl, Nat.le_of_ble_eq_true rfl, Nat.le_of_ble_eq_true rfl⟩ (xV_readTail fm hmn w2 (by omega) (by omega) i12) (fun z3 s3 ar3 hp3 => ?_)
          obtain ⟨w3, q3, pz3, pq3⟩ := hp3
          rw [et2, i2, p3] at pz3 pq3
          have Q3 := xq_t Q2 (xq_mm (S' := [3, 10, 11, 12, 13]) (A' := [6, 7, 8, 9]) q3 (by decide) (by decide))
          have hz3 : z3 = 0 ∨ z3 = 1 := by rw [pz3]; exact xb_or _
          refine xe_if_ne xt_g268 rfl (t := 215) rfl (q := 213) rfl (by first | omega | exact hw.1 _ | exact hw.2 _ _ | exact xb_r _) (fun h210 => ?_) (fun h210 => ?_)
          · try simp only [xb_0, xb_1, ne_eq, Decidable.not_not, decide_eq_true_eq, decide_eq_false_iff_not] at h210
            have hy : pa_q2 (xd_at s ar) (s 2) (pa_q1 (xd_at s ar) (s 2) (xd_cnt xd_pth (xd_at s ar) (s 2).toNat 0)) = s 2 := by
              apply Decidable.byContradiction
              intro h
              rw [decide_eq_false h] at pz3
              exact h210 pz3
            have j3 := q3.1 10 (by decide)
            have j4 := q3.1 11 (by decide)
            have j6 := q3.2 6 (by decide)
            have j7 := q3.2 7 (by decide)
            have hlh : a.2.1.length ≤ 160 := by
              have : (pa_hd a).length = (pa_scm a.1).length + a.2.1.length + (pa_pt a.1 a.2.2.1).length := by unfold pa_hd; simp [Nat.add_assoc]
              omega
            cases hkp' : kp with
            | true =>
              rw [hkp'] at hkp hK hxk
              have hk4 := of_decide_eq_true hkp.symm
              rw [if_pos rfl] at hK
              have e0 : xd_cnt xd_pth (xd_at s ar) (s 2).toNat 0 = 0 := by
                rcases hk4 with hk3 | hk3 | hk3
                · rw [hk3]
                  rfl
                · cases hsn : (s 2).toNat with
                  | zero => rfl
                  | succ j => unfold xd_cnt; rw [← hc, hk3, if_neg (by decide)]
                · cases hsn : (s 2).toNat with
                  | zero => rfl
                  | succ j => unfold xd_cnt; rw [← hc, hk3, if_neg (by decide)]
              rw [e0] at hy pq3 p11 pP
              rw [pa_sl_nil (Int.le_refl _), List.append_nil, hK, List.take_of_length_le (Nat.le_refl _)] at pP
              rw [hK, List.take_of_length_le (Nat.le_refl _)] at p11
              have er : pa_ref (xd_at s0 ar0) (s0 2) a = some (a.1, a.2.1, a.2.2.1, a.2.2.2.1, if xd_at s ar 0 = 63 then pa_qy (xd_at s ar) (s 2) 0 else a.2.2.2.2) := by
                rw [hr]
                unfold pa_ref
                rw [if_neg (by intro h; exact hc7 (hc.trans h.1)), if_pos (by rw [← hc]; exact hk4), if_pos hy]
              have fin : ∀ (s4 : Nat → Int) (ar4 : Nat → Nat → Int), xo_wf s4 ar4 → xq [12] [9] s3 ar3 s4 ar4 → pa_qs s4 ar4 (if xd_at s ar 0 = 63 then pa_qy (xd_at s ar) (s 2) 0 else a.2.2.2.2) → ∀ L, xe fm 268 (231, L, [], (xo m s4 ar4 h0, n, 0, 0)) (xQI m n h0 (xd_PG s0 ar0 (pa_ref (xd_at s0 ar0) (s0 2) a))) := by
                intro s4 ar4 w4 q4 hqs L
                refine xe_s (f := (232, _, xi 1 :: _, _)) xt_g268 rfl rfl rfl rfl rfl ?_
                refine xe_iret xt_g268 rfl rfl (xi_bool (by first | omega | exact xb_or _)).1 ?_
                refine ⟨_, _, _, rfl, rfl, w4, xq_t Q3 (xq_mm (S' := [3, 10, 11, 12, 13]) (A' := [6, 7, 8, 9]) q4 (by decide) (by decide)), fun h => (by rw [er] at h; cases h), fun a' h => ?_⟩
                rw [er] at h
                cases h
                refine ⟨rfl, ?_, ?_, ?_, ?_, hqs, hlh, ?_⟩
                · rw [q4.1 10 (by decide), j3, i10]
                  rfl
                · rw [q4.2 6 (by decide), j6, i6]
                  exact hH
                · rw [q4.1 11 (by decide), j4, p11]
                  simp
                · rw [q4.2 7 (by decide), j7]
                  exact pP
                · show a.2.2.2.1.length ≤ 220
                  omega
              refine xe_s (f := (217, _, _, _)) xt_g268 rfl rfl rfl rfl rfl ?_
              refine xe_if_eq xt_g268 rfl (t := 231) rfl (q := 220) rfl (by first | omega | exact hw.1 _ | exact hw.2 _ _ | exact xb_r _) (fun h217 => ?_) (fun h217 => ?_)
              · exact absurd h217 (by decide)
              · refine xe_s (f := (221, _, _, _)) xt_g268 rfl rfl rfl rfl rfl ?_
                refine xe_bipush xt_g268 rfl (q := 223) rfl (by decide) (by decide) ?_
                refine xe_ic_eq xt_g268 rfl (t := 231) rfl (q := 226) rfl (by first | omega | exact hw.1 _ | exact hw.2 _ _ | exact xb_r _) (by first | omega | exact hw.1 _ | exact hw.2 _ _ | exact xb_r _) (fun h223 => ?_) (fun h223 => ?_)
                · exact fin s3 ar3 w3 xq_r (by rw [← hc, if_pos h223]; exact pq3) _
                · refine xe_s (f := (227, _, _, _)) xt_g268 rfl rfl rfl rfl rfl ?_
                  refine xe_s (f := (228, _, _, _)) xt_g268 rfl rfl rfl rfl rfl ?_
                  have ny : pa_qy (xd_at s ar) (s 2) 0 = [] := by
                    unfold pa_qy pa_q1
                    rw [← hc, if_neg h223]
                    exact pa_sl_nil (Int.le_refl _)
                  rw [ny] at pq3
                  have k12 : s3 12 = -1 := by
                    rcases pq3 with h | ⟨_, h, _⟩
                    · exact h.2
                    · cases h
                  refine xe_chV xt_g268 rfl (q := 231) rfl xk_13_241 rfl (by omega) xt_g274 (by decide) ⟨Nat.le_of_ble_eq_true rfl, Nat.le_of_ble_eq_true rfl, Nat.le_of_ble_eq_true rfl⟩ (xU_takeQuery fm hmn w3 hb (pa_at_c hs ((q3.2 4 (by decide)).trans i4) ((q3.2 5 (by decide)).trans i5)) ho k12) (fun s4 ar4 hp4 => ?_)
                  exact fin s4 ar4 hp4.1 hp4.2.1 (by rw [← hc, if_neg h223]; exact hp4.2.2) _
            | false =>
              rw [hkp'] at hkp hK
              have hk4 := of_decide_eq_false hkp.symm
              rw [if_neg (by decide)] at hK
              have er : pa_ref (xd_at s0 ar0) (s0 2) a = some (a.1, a.2.1, a.2.2.1, pa_fold a.2.2.2.1 ++ pa_sl (xd_at s ar) 0 (xd_cnt xd_pth (xd_at s ar) (s 2).toNat 0), pa_qy (xd_at s ar) (s 2) (xd_cnt xd_pth (xd_at s ar) (s 2).toNat 0)) := by
                rw [hr]
                unfold pa_ref
                rw [← hc, if_neg (by intro h; exact hc7 h.1), if_neg hk4, if_pos hy, if_neg hc7]
              refine xe_s (f := (217, _, _, _)) xt_g268 rfl rfl rfl rfl rfl ?_
              refine xe_if_eq xt_g268 rfl (t := 231) rfl (q := 220) rfl (by first | omega | exact hw.1 _ | exact hw.2 _ _ | exact xb_r _) (fun h217 => ?_) (fun h217 => ?_)
              · refine xe_s (f := (232, _, xi 1 :: _, _)) xt_g268 rfl rfl rfl rfl rfl ?_
                refine xe_iret xt_g268 rfl rfl (xi_bool (by first | omega | exact xb_or _)).1 ?_
                refine ⟨_, _, _, rfl, rfl, w3, Q3, fun h => (by rw [er] at h; cases h), fun a' h => ?_⟩
                rw [er] at h
                cases h
                have ef : pa_fold a.2.2.2.1 = a.2.2.2.1.take k := by
                  unfold pa_fold
                  rw [← hK]
                refine ⟨rfl, ?_, ?_, ?_, ?_, pq3, hlh, ?_⟩
                · rw [j3, i10]
                  rfl
                · rw [j6, i6]
                  exact hH
                · rw [j4, p11, ef]
                  show _ = ((a.2.2.2.1.take k ++ _).length : Int)
                  rw [List.length_append, pa_sl_len]
                · rw [j7, ef]
                  exact pP
                · show (pa_fold a.2.2.2.1 ++ _).length ≤ 220
                  rw [ef, List.length_append, pa_sl_len, List.length_take]
                  omega
              · exact absurd rfl h217
          · try simp only [xb_0, xb_1, ne_eq, Decidable.not_not, decide_eq_true_eq, decide_eq_false_iff_not] at h210
            refine xe_s (f := (214, _, xi 0 :: _, _)) xt_g268 rfl rfl rfl rfl rfl ?_
            refine xe_iret xt_g268 rfl rfl (xi_bool (by first | omega | exact xb_or _)).1 ?_
            refine ⟨_, _, _, rfl, rfl, xd_PG_0 w3 Q3 (fail ?_)⟩
            intro h
            rw [decide_eq_true h] at pz3
            rw [h210] at pz3
            exact absurd pz3 (by decide)
        · try simp only [xb_0, xb_1, ne_eq, Decidable.not_not, decide_eq_true_eq, decide_eq_false_iff_not] at h192
          refine xe_s (f := (196, _, _, _)) xt_g268 rfl rfl rfl rfl rfl ?_
          refine xe_mgs xt_g268 rfl (q := 199) rfl (xf_13_201 fm) (by decide) rfl (by omega) ?_
          try simp only [xo_u, xo_w, Nat.reduceEqDiff, reduceIte, false_and, true_and]
          rw [p11]
          refine xe_s (f := (201, _, _, _)) xt_g268 rfl rfl rfl rfl rfl ?_
          refine xe_s (f := (202, _, _, _)) xt_g268 rfl rfl rfl rfl rfl ?_
          refine xe_isub xt_g268 rfl (q := 203) rfl ?_
          refine xe_ic_eq xt_g268 rfl (t := 213) rfl (q := 206) rfl (by first | omega | exact hw.1 _ | exact hw.2 _ _ | exact xb_r _) (by first | omega | exact hw.1 _ | exact hw.2 _ _ | exact xb_r _) (fun h203 => ?_) (fun h203 => ?_)
          · refine xe_s (f := (214, _, xi 0 :: _, _)) xt_g268 rfl rfl rfl rfl rfl ?_
            refine xe_iret xt_g268 rfl rfl (xi_bool (by first | omega | exact xb_or _)).1 ?_
            refine ⟨_, _, _, rfl, rfl, xd_PG_0 w2 Q2 (fail ?_)⟩
            have e0 : xd_cnt xd_pth (xd_at s ar) (s 2).toNat 0 = 0 := by omega
            rw [h192] at hkp
            have hk4 := of_decide_eq_false hkp.symm
            rw [e0]
            unfold pa_q1
            rw [← hc, if_neg (by omega)]
            unfold pa_q2
            rw [← hc, if_neg (by omega)]
            omega
          · refine xe_s (f := (207, _, _, _)) xt_g268 rfl rfl rfl rfl rfl ?_
            refine xe_chI xt_g268 rfl (q := 210) rfl xk_13_223 rfl (by omega) xt_g264 (by decide) ⟨Nat.le_of_ble_eq_true rfl, Nat.le_of_ble_eq_true rfl, Nat.le_of_ble_eq_true rfl⟩ (xV_readTail fm hmn w2 (by omega) (by omega) i12) (fun z3 s3 ar3 hp3 => ?_)
            obtain ⟨w3, q3, pz3, pq3⟩ := hp3
            rw [et2, i2, p3] at pz3 pq3
            have Q3 := xq_t Q2 (xq_mm (S' := [3, 10, 11, 12, 13]) (A' := [6, 7, 8, 9]) q3 (by decide) (by decide))
            have hz3 : z3 = 0 ∨ z3 = 1 := by rw [pz3]; exact xb_or _
            refine xe_if_ne xt_g268 rfl (t := 215) rfl (q := 213) rfl (by first | omega | exact hw.1 _ | exact hw.2 _ _ | exact xb_r _) (fun h210 => ?_) (fun h210 => ?_)
            · try simp only [xb_0, xb_1, ne_eq, Decidable.not_not, decide_eq_true_eq, decide_eq_false_iff_not] at h210
              have hy : pa_q2 (xd_at s ar) (s 2) (pa_q1 (xd_at s ar) (s 2) (xd_cnt xd_pth (xd_at s ar) (s 2).toNat 0)) = s 2 := by
                apply Decidable.byContradiction
                intro h
                rw [decide_eq_false h] at pz3
                exact h210 pz3
              have j3 := q3.1 10 (by decide)
              have j4 := q3.1 11 (by decide)
              have j6 := q3.2 6 (by decide)
              have j7 := q3.2 7 (by decide)
              have hlh : a.2.1.length ≤ 160 := by
                have : (pa_hd a).length = (pa_scm a.1).length + a.2.1.length + (pa_pt a.1 a.2.2.1).length := by unfold pa_hd; simp [Nat.add_assoc]
                omega
              cases hkp' : kp with
              | true =>
                rw [hkp'] at hkp hK hxk
                have hk4 := of_decide_eq_true hkp.symm
                rw [if_pos rfl] at hK
                have e0 : xd_cnt xd_pth (xd_at s ar) (s 2).toNat 0 = 0 := by
                  rcases hk4 with hk3 | hk3 | hk3
                  · rw [hk3]
                    rfl
                  · cases hsn : (s 2).toNat with
                    | zero => rfl
                    | succ j => unfold xd_cnt; rw [← hc, hk3, if_neg (by decide)]
                  · cases hsn : (s 2).toNat with
                    | zero => rfl
                    | succ j => unfold xd_cnt; rw [← hc, hk3, if_neg (by decide)]
                rw [e0] at hy pq3 p11 pP
                rw [pa_sl_nil (Int.le_refl _), List.append_nil, hK, List.take_of_length_le (Nat.le_refl _)] at pP
                rw [hK, List.take_of_length_le (Nat.le_refl _)] at p11
                have er : pa_ref (xd_at s0 ar0) (s0 2) a = some (a.1, a.2.1, a.2.2.1, a.2.2.2.1, if xd_at s ar 0 = 63 then pa_qy (xd_at s ar) (s 2) 0 else a.2.2.2.2) := by
                  rw [hr]
                  unfold pa_ref
                  rw [if_neg (by intro h; exact hc7 (hc.trans h.1)), if_pos (by rw [← hc]; exact hk4), if_pos hy]
                have fin : ∀ (s4 : Nat → Int) (ar4 : Nat → Nat → Int), xo_wf s4 ar4 → xq [12] [9] s3 ar3 s4 ar4 → pa_qs s4 ar4 (if xd_at s ar 0 = 63 then pa_qy (xd_at s ar) (s 2) 0 else a.2.2.2.2) → ∀ L, xe fm 268 (231, L, [], (xo m s4 ar4 h0, n, 0, 0)) (xQI m n h0 (xd_PG s0 ar0 (pa_ref (xd_at s0 ar0) (s0 2) a))) := by
                  intro s4 ar4 w4 q4 hqs L
                  refine xe_s (f := (232, _, xi 1 :: _, _)) xt_g268 rfl rfl rfl rfl rfl ?_
                  refine xe_iret xt_g268 rfl rfl (xi_bool (by first | omega | exact xb_or _)).1 ?_
                  refine ⟨_, _, _, rfl, rfl, w4, xq_t Q3 (xq_mm (S' := [3, 10, 11, 12, 13]) (A' := [6, 7, 8, 9]) q4 (by decide) (by decide)), fun h => (by rw [er] at h; cases h), fun a' h => ?_⟩
                  rw [er] at h
                  cases h
                  refine ⟨rfl, ?_, ?_, ?_, ?_, hqs, hlh, ?_⟩
                  · rw [q4.1 10 (by decide), j3, i10]
                    rfl
                  · rw [q4.2 6 (by decide), j6, i6]
                    exact hH
                  · rw [q4.1 11 (by decide), j4, p11]
                    simp
                  · rw [q4.2 7 (by decide), j7]
                    exact pP
                  · show a.2.2.2.1.length ≤ 220
                    omega
                refine xe_s (f := (217, _, _, _)) xt_g268 rfl rfl rfl rfl rfl ?_
                refine xe_if_eq xt_g268 rfl (t := 231) rfl (q := 220) rfl (by first | omega | exact hw.1 _ | exact hw.2 _ _ | exact xb_r _) (fun h217 => ?_) (fun h217 => ?_)
                · exact absurd h217 (by decide)
                · refine xe_s (f := (221, _, _, _)) xt_g268 rfl rfl rfl rfl rfl ?_
                  refine xe_bipush xt_g268 rfl (q := 223) rfl (by decide) (by decide) ?_
                  refine xe_ic_eq xt_g268 rfl (t := 231) rfl (q := 226) rfl (by first | omega | exact hw.1 _ | exact hw.2 _ _ | exact xb_r _) (by first | omega | exact hw.1 _ | exact hw.2 _ _ | exact xb_r _) (fun h223 => ?_) (fun h223 => ?_)
                  · exact fin s3 ar3 w3 xq_r (by rw [← hc, if_pos h223]; exact pq3) _
                  · refine xe_s (f := (227, _, _, _)) xt_g268 rfl rfl rfl rfl rfl ?_
                    refine xe_s (f := (228, _, _, _)) xt_g268 rfl rfl rfl rfl rfl ?_
                    have ny : pa_qy (xd_at s ar) (s 2) 0 = [] := by
                      unfold pa_qy pa_q1
                      rw [← hc, if_neg h223]
                      exact pa_sl_nil (Int.le_refl _)
                    rw [ny] at pq3
                    have k12 : s3 12 = -1 := by
                      rcases pq3 with h | ⟨_, h, _⟩
                      · exact h.2
                      · cases h
                    refine xe_chV xt_g268 rfl (q := 231) rfl xk_13_241 rfl (by omega) xt_g274 (by decide) ⟨Nat.le_of_ble_eq_true rfl, Nat.le_of_ble_eq_true rfl, Nat.le_of_ble_eq_true rfl⟩ (xU_takeQuery fm hmn w3 hb (pa_at_c hs ((q3.2 4 (by decide)).trans i4) ((q3.2 5 (by decide)).trans i5)) ho k12) (fun s4 ar4 hp4 => ?_)
                    exact fin s4 ar4 hp4.1 hp4.2.1 (by rw [← hc, if_neg h223]; exact hp4.2.2) _
              | false =>
                rw [hkp'] at hkp hK
                have hk4 := of_decide_eq_false hkp.symm
                rw [if_neg (by decide)] at hK
                have er : pa_ref (xd_at s0 ar0) (s0 2) a = some (a.1, a.2.1, a.2.2.1, pa_fold a.2.2.2.1 ++ pa_sl (xd_at s ar) 0 (xd_cnt xd_pth (xd_at s ar) (s 2).toNat 0), pa_qy (xd_at s ar) (s 2) (xd_cnt xd_pth (xd_at s ar) (s 2).toNat 0)) := by
                  rw [hr]
                  unfold pa_ref
                  rw [← hc, if_neg (by intro h; exact hc7 h.1), if_neg hk4, if_pos hy, if_neg hc7]
                refine xe_s (f := (217, _, _, _)) xt_g268 rfl rfl rfl rfl rfl ?_
                refine xe_if_eq xt_g268 rfl (t := 231) rfl (q := 220) rfl (by first | omega | exact hw.1 _ | exact hw.2 _ _ | exact xb_r _) (fun h217 => ?_) (fun h217 => ?_)
                · refine xe_s (f := (232, _, xi 1 :: _, _)) xt_g268 rfl rfl rfl rfl rfl ?_
                  refine xe_iret xt_g268 rfl rfl (xi_bool (by first | omega | exact xb_or _)).1 ?_
                  refine ⟨_, _, _, rfl, rfl, w3, Q3, fun h => (by rw [er] at h; cases h), fun a' h => ?_⟩
                  rw [er] at h
                  cases h
                  have ef : pa_fold a.2.2.2.1 = a.2.2.2.1.take k := by
                    unfold pa_fold
                    rw [← hK]
                  refine ⟨rfl, ?_, ?_, ?_, ?_, pq3, hlh, ?_⟩
                  · rw [j3, i10]
                    rfl
                  · rw [j6, i6]
                    exact hH
                  · rw [j4, p11, ef]
                    show _ = ((a.2.2.2.1.take k ++ _).length : Int)
                    rw [List.length_append, pa_sl_len]
                  · rw [j7, ef]
                    exact pP
                  · show (pa_fold a.2.2.2.1 ++ _).length ≤ 220
                    rw [ef, List.length_append, pa_sl_len, List.length_take]
                    omega
                · exact absurd rfl h217
            · try simp only [xb_0, xb_1, ne_eq, Decidable.not_not, decide_eq_true_eq, decide_eq_false_iff_not] at h210
              refine xe_s (f := (214, _, xi 0 :: _, _)) xt_g268 rfl rfl rfl rfl rfl ?_
              refine xe_iret xt_g268 rfl rfl (xi_bool (by first | omega | exact xb_or _)).1 ?_
              refine ⟨_, _, _, rfl, rfl, xd_PG_0 w3 Q3 (fail ?_)⟩
              intro h
              rw [decide_eq_true h] at pz3
              rw [h210] at pz3
              exact absurd pz3 (by decide)
      · exact absurd h153 (by omega)
    | succ N ih =>
      intro k s1 ar1 hk w1 q1 hx
      have hs1 := pa_at_c hs (q1.2 4 (by decide)) (q1.2 5 (by decide))
      have e1 : ((pa_hd a).length : Int) + k - (pa_hd a).length = k := by omega
      refine xe_s (f := (151, _, _, _)) xt_g268 rfl rfl rfl rfl rfl ?_
      refine xe_s (f := (153, _, _, _)) xt_g268 rfl rfl rfl rfl rfl ?_
      refine xe_ic_ge xt_g268 rfl (t := 178) rfl (q := 156) rfl (by first | omega | exact hw.1 _ | exact hw.2 _ _ | exact xb_r _) (by first | omega | exact hw.1 _ | exact hw.2 _ _ | exact xb_r _) (fun h153 => ?_) (fun h153 => ?_)
      · exact absurd h153 (by omega)
      · refine xe_s (f := (157, _, _, _)) xt_g268 rfl rfl rfl rfl rfl ?_
        refine xe_mga xt_g268 rfl (q := 160) rfl (xf_13_22 fm) (by decide) rfl (by omega) ?_
        try simp only [xo_u, xo_w, Nat.reduceEqDiff, reduceIte, false_and, true_and]
        refine xe_s (f := (162, _, _, _)) xt_g268 rfl rfl rfl rfl rfl ?_
        refine xe_s (f := (163, _, _, _)) xt_g268 rfl rfl rfl rfl rfl ?_
        refine xe_isub xt_g268 rfl (q := 164) rfl ?_
        rw [e1]
        refine xe_s (f := (165, _, _, _)) xt_g268 rfl rfl rfl rfl rfl ?_
        refine xe_s (f := (166, _, _, _)) xt_g268 rfl rfl rfl rfl rfl ?_
        refine xe_s (f := (168, _, _, _)) xt_g268 rfl rfl rfl rfl rfl ?_
        refine xe_cvI xt_g268 rfl (q := 171) rfl xk_13_172 rfl (by omega) xt_g270 (by decide) ⟨Nat.le_of_ble_eq_true rfl, Nat.le_of_ble_eq_true rfl, Nat.le_of_ble_eq_true rfl⟩ (xv_textAt fm hmn (by omega) (by omega)) ?_
        refine xe_mas (ok := xm_isN) (ty := .int) xt_g268 rfl (q := 172) rfl (fun _ _ => ⟨rfl, rfl, rfl, rfl⟩) rfl rfl rfl (by omega) (by omega) (by omega) (by omega) (by omega) rfl ?_
        refine xe_iinc xt_g268 rfl (q := 175) rfl rfl (by decide) (L1 := [(6, _), (5, _), (4, _), (3, _), (2, _), (0, _), (1, _)]) rfl ?_
        refine xe_s (f := (149, _, _, _)) xt_g268 rfl rfl rfl rfl rfl ?_
        rw [show ((pa_hd a).length : Int) + k + 1 = ((pa_hd a).length : Int) + ((k + 1 : Nat) : Int) by omega]
        have hlt : k < a.2.2.2.1.length := by omega
        refine ih (k + 1) _ _ (by omega) (xo_wf_w w1 (w1.2 _ _)) (xq_w q1 (by decide)) ?_
        have e7 : ar1 4 (60 * b + (((pa_hd a).length : Int) + k)).toNat = a.2.2.2.1.getD k 0 := by
          rw [pa_at_get hs1 hb.1 (by omega) (by have := hs.1; unfold pa_text at this ⊢; simp; omega)]
          unfold lc pa_text
          rw [xg_l (by rw [List.length_append]; omega), xg_r (by omega), show (((pa_hd a).length : Int) + k).toNat - (pa_hd a).length = k by omega]
        rw [e7, List.take_succ_eq_append_getElem hlt, show a.2.2.2.1[k] = a.2.2.2.1.getD k 0 by simp [List.getD, hlt]]
        exact xh_w (by rw [List.length_take]; omega) hx
  refine xe_s (f := (147, _, _, _)) xt_g268 rfl rfl rfl rfl rfl ?_
  refine xe_s (f := (149, [(6, _), (5, _), (4, _), (3, _), (2, _), (0, _), (1, _)], _, _)) xt_g268 rfl rfl rfl rfl rfl ?_
  have h := loop K 0 s ar (by omega) hw xq_r xh_nil
  simpa using h
end XRF
