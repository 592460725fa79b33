/-! the reference: readFromHost -/
def pa_scm (sec : Bool) : List Int := if sec = true then [104, 116, 116, 112, 115, 58, 47, 47] else [104, 116, 116, 112, 58, 47, 47]
def pa_p1 (t : Int → Int) (E k : Int) : Int := if t k = 47 then k + xd_cnt xd_pth t (E - k).toNat k else k
def pa_q1 (t : Int → Int) (E k : Int) : Int := if t k = 63 then k + 1 + xd_cnt xd_qry t (E - (k + 1)).toNat (k + 1) else k
def pa_q2 (t : Int → Int) (E k : Int) : Int := if t k = 35 then k + 1 + xd_cnt xd_qry t (E - (k + 1)).toNat (k + 1) else k
def pa_qy (t : Int → Int) (E k : Int) : List Int := pa_sl t k (pa_q1 t E k)
def pa_hn (t : Int → Int) (a b : Int) : List Int := (pa_sl t a b).map xd_sml
def pa_from (t : Int → Int) (E : Int) (sec : Bool) (k : Int) : Option (List Int × Int × List Int × List Int) :=
  if (xd_hs t E 7 0 k).2 = true then
    match pa_port t sec (xd_hs t E 7 0 k).1 with
    | none => none
    | some (v, k2) => if pa_q2 t E (pa_q1 t E (pa_p1 t E k2)) = E then some (pa_hn t k (xd_hs t E 7 0 k).1, v, pa_sl t k2 (pa_p1 t E k2), pa_qy t E (pa_p1 t E k2)) else none
  else none
/-- the query that is read: none, or with its ? in front -/
def pa_qs (s : Nat → Int) (ar : Nat → Nat → Int) (q : List Int) : Prop := (q = [] ∧ s 12 = -1) ∨ ∃ q', q = 63 :: q' ∧ s 12 = q'.length ∧ xh (ar 9) 0 q' ∧ q'.length ≤ 160
theorem xq_mm {S A S' A' : List Nat} {s s1 : Nat → Int} {ar ar1 : Nat → Nat → Int} (h : xq S A s ar s1 ar1) (hS : S.all (fun k => decide (k ∈ S')) = true) (hA : A.all (fun k => decide (k ∈ A')) = true) : xq S' A' s ar s1 ar1 :=
  xq_m h (fun k hk => of_decide_eq_true (List.all_eq_true.mp hS k hk)) (fun k hk => of_decide_eq_true (List.all_eq_true.mp hA k hk))
theorem xd_hs_b {t : Int → Int} {E : Int} (ht : ∀ j, E ≤ j → t j = 0) : ∀ (F : Nat) (lb k : Int), k ≤ E → k ≤ (xd_hs t E F lb k).1 ∧ (xd_hs t E F lb k).1 ≤ E
  | 0, lb, k, h => by
    unfold xd_hs
    exact ⟨Int.le_refl _, h⟩
  | F + 1, lb, k, h => by
    have hc := xd_cnt_r (p := xd_lbl) (t := t) (E - k).toNat k
    unfold xd_hs
    split
    · exact ⟨by dsimp only; omega, by dsimp only; omega⟩
    · split
      · rename_i hd
        have hlt : k + xd_cnt xd_lbl t (E - k).toNat k < E := by
          apply Decidable.byContradiction
          intro hn
          rw [ht _ (by omega)] at hd
          exact absurd hd (by decide)
        have ih := xd_hs_b ht F (lb + 1) (k + xd_cnt xd_lbl t (E - k).toNat k + 1) (by omega)
        exact ⟨by omega, ih.2⟩
      · exact ⟨by dsimp only; omega, by dsimp only; omega⟩
theorem pa_p1_b {t : Int → Int} {E k : Int} (h : k ≤ E) : k ≤ pa_p1 t E k ∧ pa_p1 t E k ≤ E := by
  have hc := xd_cnt_r (p := xd_pth) (t := t) (E - k).toNat k
  unfold pa_p1
  split <;> omega
theorem pa_q1_b {t : Int → Int} {E k : Int} (ht : ∀ j, E ≤ j → t j = 0) (h : k ≤ E) : k ≤ pa_q1 t E k ∧ pa_q1 t E k ≤ E := by
  have hc := xd_cnt_r (p := xd_qry) (t := t) (E - (k + 1)).toNat (k + 1)
  unfold pa_q1
  split
  · rename_i hd
    have hlt : k < E := by
      apply Decidable.byContradiction
      intro hn
      rw [ht _ (by omega)] at hd
      exact absurd hd (by decide)
    omega
  · omega
section XFH
variable (fm : Value) {m n : Nat} {h0 : xm_H} {s : Nat → Int} {ar : Nat → Nat → Int}
theorem xd_at_E (j : Int) (h : s 2 ≤ j) : xd_at s ar j = 0 := xd_at_0 h
theorem xU_addScheme (hmn : xo_in m n) (hw : xo_wf s ar) {H : List Int} {sec : Bool} (h10 : s 10 = H.length) (hH : xh (ar 6) 0 H) (hl : H.length ≤ 200) (h13 : s 13 = xb sec) : xU fm 260 m n h0 s ar [.ref m] (fun s' ar' => xo_wf s' ar' ∧ xq [10] [6] s ar s' ar' ∧ s' 10 = (H ++ pa_scm sec).length ∧ xh (ar' 6) 0 (H ++ pa_scm sec)) := by
  have hs1 : xd_sl s = (pa_scm sec).length := by
    unfold xd_sl pa_scm
    rw [h13]
    cases sec <;> decide
  have hs2 : (List.range (xd_sl s).toNat).map (fun i : Nat => xd_sg s i) = pa_scm sec := by
    unfold xd_sl xd_sg pa_scm
    rw [h13]
    cases sec <;> decide
  have hg : ∀ i, xr (xd_sg s i) := by
    intro i
    unfold xd_sg
    split
    · rcases h : i.toNat with _ | _ | _ | _ | _ | _ | _ | j <;> simp [List.getD] <;> decide
    · rcases h : i.toNat with _ | _ | _ | _ | _ | _ | _ | _ | j <;> simp [List.getD] <;> decide
  have hln : (pa_scm sec).length ≤ 8 := by cases sec <;> decide
  refine xU_of (xv_addScheme fm hmn (by omega) (by rw [h13]; exact xb_or sec)) ⟨xo_wf_u (xd_ap_wf hw hg) (by omega), xq_u (xq_a xq_r (by decide)) (by decide), ?_, ?_⟩
  · rw [xo_uS, List.length_append]
    omega
  · have := xh_ap (F := 6) (ar := ar) (c := xd_sl s) (P := s 10) (gg := xd_sg s) (by omega) hH
    rw [hs2] at this
    exact this
theorem xV_readHost (hmn : xo_in m n) (hw : xo_wf s ar) {H : List Int} (h2 : 0 ≤ s 2 ∧ s 2 ≤ 160) (h3 : 0 ≤ s 3 ∧ s 3 ≤ s 2) (h10 : s 10 = H.length) (hH : xh (ar 6) 0 H) (hl : H.length ≤ 100) :
    xV fm 247 m n h0 s ar [.ref m] (fun z s' ar' => xo_wf s' ar' ∧ xq [3, 10] [6] s ar s' ar' ∧ z = xb (xd_hs (xd_at s ar) (s 2) 7 0 (s 3)).2 ∧ s' 3 = (xd_hs (xd_at s ar) (s 2) 7 0 (s 3)).1 ∧ s 3 ≤ s' 3 ∧ s' 3 ≤ s 2 ∧ s' 10 = (H ++ pa_hn (xd_at s ar) (s 3) (xd_hs (xd_at s ar) (s 2) 7 0 (s 3)).1).length ∧ xh (ar' 6) 0 (H ++ pa_hn (xd_at s ar) (s 3) (xd_hs (xd_at s ar) (s 2) 7 0 (s 3)).1)) := by
  have hb := xd_hs_b (t := xd_at s ar) (E := s 2) xd_at_E 7 0 (s 3) h3.2
  have h := xv_readHost fm hmn (h0 := h0) hw h2 h3 (by omega)
  generalize xd_hs (xd_at s ar) (s 2) 7 0 (s 3) = r at *
  have hln : (pa_hn (xd_at s ar) (s 3) r.1).length = (r.1 - s 3).toNat := by
    unfold pa_hn
    rw [List.length_map, pa_sl_len]
  refine xV_of h ⟨xo_wf_u (xo_wf_u (xd_ap_wf hw (fun i => xd_sml_r (xd_at_r hw _))) (by omega)) (by omega), xq_u (xq_u (xq_a xq_r (by decide)) (by decide)) (by decide), rfl, by rw [xd_hS_3]; omega, by rw [xd_hS_3]; omega, by rw [xd_hS_3]; omega, ?_, ?_⟩
  · rw [xd_hS_10, List.length_append, hln]
    omega
  · have := xh_ap (F := 6) (ar := ar) (c := r.1 - s 3) (P := s 10) (gg := xd_hg s ar) (by omega) hH
    have e : (List.range (r.1 - s 3).toNat).map (fun i : Nat => xd_hg s ar i) = pa_hn (xd_at s ar) (s 3) r.1 := by
      unfold pa_hn pa_sl xd_hg
      rw [List.map_map]
      rfl
    rw [e] at this
    exact this
theorem xU_readPath (hmn : xo_in m n) (hw : xo_wf s ar) {P : List Int} (h2 : 0 ≤ s 2 ∧ s 2 ≤ 160) (h3 : 0 ≤ s 3 ∧ s 3 ≤ s 2) (h11 : s 11 = P.length) (hP : xh (ar 7) 0 P) (hl : P.length ≤ 140) :
    xU fm 262 m n h0 s ar [.ref m] (fun s' ar' => xo_wf s' ar' ∧ xq [3, 11] [7] s ar s' ar' ∧ s' 3 = s 3 + xd_cnt xd_pth (xd_at s ar) (s 2 - s 3).toNat (s 3) ∧ s' 11 = (P ++ pa_sl (xd_at s ar) (s 3) (s 3 + xd_cnt xd_pth (xd_at s ar) (s 2 - s 3).toNat (s 3))).length ∧ xh (ar' 7) 0 (P ++ pa_sl (xd_at s ar) (s 3) (s 3 + xd_cnt xd_pth (xd_at s ar) (s 2 - s 3).toNat (s 3)))) := by
  have hc := xd_cnt_r (p := xd_pth) (t := xd_at s ar) (s 2 - s 3).toNat (s 3)
  have h := xv_readPath fm hmn (h0 := h0) hw h2 (by omega) (by omega)
  generalize xd_cnt xd_pth (xd_at s ar) (s 2 - s 3).toNat (s 3) = c at *
  refine xU_of h ⟨xo_wf_u (xo_wf_u (xd_ap_wf hw (fun i => xd_at_r hw _)) (by omega)) (by omega), xq_u (xq_u (xq_a xq_r (by decide)) (by decide)) (by decide), xo_uS, ?_, xh_apt (by omega) hP⟩
  rw [xo_uN (by decide), xo_uS, List.length_append, pa_sl_len]
  omega
theorem xV_readTail (hmn : xo_in m n) (hw : xo_wf s ar) (h2 : 0 ≤ s 2 ∧ s 2 ≤ 160) (h3 : 0 ≤ s 3 ∧ s 3 ≤ s 2) (h12 : s 12 = -1) :
    xV fm 264 m n h0 s ar [.ref m] (fun z s' ar' => xo_wf s' ar' ∧ xq [3, 12] [9] s ar s' ar' ∧ z = xb (decide (pa_q2 (xd_at s ar) (s 2) (pa_q1 (xd_at s ar) (s 2) (s 3)) = s 2)) ∧ pa_qs s' ar' (pa_qy (xd_at s ar) (s 2) (s 3))) := by
  have h := xv_readTail fm hmn (h0 := h0) hw h2 h3
  have hqb := pa_q1_b (t := xd_at s ar) (E := s 2) xd_at_E h3.2
  have hr3 : xd_rs s ar 3 = pa_q1 (xd_at s ar) (s 2) (s 3) := by
    unfold xd_rs pa_q1
    split
    · rw [xd_rN_3]
      rfl
    · rfl
  have hr2 : xd_rs s ar 2 = s 2 := by
    unfold xd_rs
    split
    · exact xd_rN_2
    · rfl
  have hra : ∀ k, xd_at (xd_rs s ar) (xd_ra s ar) k = xd_at s ar k := by
    intro k
    unfold xd_rs xd_ra
    split
    · exact xd_rat
    · rfl
  have hz : xd_z2 (xd_rs s ar) (xd_ra s ar) = pa_q2 (xd_at s ar) (s 2) (pa_q1 (xd_at s ar) (s 2) (s 3)) := by
    unfold xd_z2 pa_q2
    rw [show xd_at (xd_rs s ar) (xd_ra s ar) = xd_at s ar from funext hra, hr3, hr2]
  rw [hz] at h
  have hcq := xd_cnt_r (p := xd_qry) (t := xd_at s ar) (s 2 - (s 3 + 1)).toNat (s 3 + 1)
  have hcq2 := xd_cnt_r (p := xd_qry) (t := xd_at s ar) (s 2 - (pa_q1 (xd_at s ar) (s 2) (s 3) + 1)).toNat (pa_q1 (xd_at s ar) (s 2) (s 3) + 1)
  have hq2 : 0 ≤ pa_q2 (xd_at s ar) (s 2) (pa_q1 (xd_at s ar) (s 2) (s 3)) ∧ pa_q2 (xd_at s ar) (s 2) (pa_q1 (xd_at s ar) (s 2) (s 3)) ≤ 500 := by
    unfold pa_q2
    split <;> omega
  refine xV_of h ⟨?_, ?_, rfl, ?_⟩
  · refine xo_wf_u ?_ (by omega)
    unfold xd_rs xd_ra
    split
    · unfold xd_rN xd_rA xd_rc
      exact xo_wf_u (xo_wf_u (xd_ap_wf hw (fun i => xd_at_r hw _)) (by omega)) (by omega)
    · exact hw
  · refine xq_u ?_ (by decide)
    unfold xd_rs xd_ra
    split
    · unfold xd_rN xd_rA xd_rc
      exact xq_u (xq_u (xq_a xq_r (by decide)) (by decide)) (by decide)
    · exact xq_r
  · unfold pa_qs
    by_cases hd : xd_at s ar (s 3) = 63
    · refine Or.inr ⟨pa_sl (xd_at s ar) (s 3 + 1) (s 3 + 1 + xd_rc s ar), ?_, ?_, ?_, ?_⟩
      · unfold pa_qy pa_q1
        rw [if_pos hd, pa_sl_c (by omega), hd]
        rfl
      · rw [xo_uN (by decide), pa_sl_len]
        unfold xd_rs
        rw [if_pos hd, xd_rN_12]
        unfold xd_rc
        omega
      · unfold xd_ra
        rw [if_pos hd]
        unfold xd_rA
        have := xh_apt (F := 9) (ar := ar) (p := 0) (l := []) (c := xd_rc s ar) (P := 0) (b := s 3 + 1) (t := xd_at s ar) (by simp) xh_nil
        simpa using this
      · rw [pa_sl_len]
        unfold xd_rc
        omega
    · refine Or.inl ⟨?_, ?_⟩
      · unfold pa_qy pa_q1
        rw [if_neg hd]
        exact pa_sl_nil (Int.le_refl _)
      · rw [xo_uN (by decide)]
        unfold xd_rs
        rw [if_neg hd]
        exact h12
def xd_PF (s : Nat → Int) (ar : Nat → Nat → Int) (sec : Bool) (r : Option (List Int × Int × List Int × List Int)) (z : Int) (s' : Nat → Int) (ar' : Nat → Nat → Int) : Prop := xo_wf s' ar' ∧ xq [3, 10, 11, 12, 13] [6, 7, 8, 9] s ar s' ar' ∧ (r = none → z = 0) ∧ ∀ host v path q, r = some (host, v, path, q) → z = 1 ∧ s' 10 = (pa_scm sec ++ host ++ pa_pt sec v).length ∧ xh (ar' 6) 0 (pa_scm sec ++ host ++ pa_pt sec v) ∧ s' 11 = path.length ∧ xh (ar' 7) 0 path ∧ pa_qs s' ar' q ∧ host.length ≤ 160 ∧ path.length ≤ 220
theorem pa_dgs_len {v : Int} {bs : List Int} : (pa_dgs v bs).length ≤ bs.length := by
  unfold pa_dgs
  rw [List.length_map]
  exact List.length_filter_le _ _
theorem pa_pt_len {sec : Bool} {v : Int} : (pa_pt sec v).length ≤ 6 := by
  unfold pa_pt
  split
  · simp
  · rw [List.length_cons]
    have := pa_dgs_len (v := v) (bs := [10000, 1000, 100, 10, 1])
    unfold pa_dg
    simp at this ⊢
    omega
theorem xV_readFromHost (hmn : xo_in m n) (hw : xo_wf s ar) {sec : Bool} (h2 : 0 ≤ s 2 ∧ s 2 ≤ 160) (h3 : 0 ≤ s 3 ∧ s 3 ≤ s 2) (h10 : s 10 = 0) (h11 : s 11 = 0) (h12 : s 12 = -1) (h13 : s 13 = xb sec) :
    xV fm 259 m n h0 s ar [.ref m] (xd_PF s ar sec (pa_from (xd_at s ar) (s 2) sec (s 3))) := by
  show xe fm 259 (0, [(0, .ref m)], [], (xo m s ar h0, n, 0, 0)) _
  have hln : (pa_scm sec).length ≤ 8 := by cases sec <;> decide
  have hb := xd_hs_b (t := xd_at s ar) (E := s 2) xd_at_E 7 0 (s 3) h3.2
  refine xe_s (f := (1, _, _, _)) xt_g259 rfl rfl rfl rfl rfl ?_
  refine xe_chV xt_g259 rfl (q := 4) rfl xk_13_210 rfl (by omega) xt_g260 (by decide) ⟨Nat.le_of_ble_eq_true rfl, Nat.le_of_ble_eq_true rfl, Nat.le_of_ble_eq_true rfl⟩ (xU_addScheme fm hmn hw (H := []) (sec := sec) (by simpa using h10) xh_nil (by simp) h13) (fun s1 ar1 hp1 => ?_)
  obtain ⟨w1, q1, p10, pH⟩ := hp1
  rw [List.nil_append] at p10 pH
  have e2 := q1.1 2 (by decide)
  have e3 := q1.1 3 (by decide)
  have et := xq_at q1 (by decide) (by decide)
  refine xe_s (f := (5, _, _, _)) xt_g259 rfl rfl rfl rfl rfl ?_
  refine xe_chI xt_g259 rfl (q := 8) rfl xk_13_213 rfl (by omega) xt_g247 (by decide) ⟨Nat.le_of_ble_eq_true rfl, Nat.le_of_ble_eq_true rfl, Nat.le_of_ble_eq_true rfl⟩ (xV_readHost fm hmn w1 (H := pa_scm sec) (by omega) (by omega) p10 pH (by omega)) (fun z2 s2 ar2 hp2 => ?_)
  obtain ⟨w2, q2, pz2, p3, p4, p5, p10b, pHb⟩ := hp2
  rw [et, e2, e3] at pz2 p3 p10b pHb
  have f2 := q2.1 2 (by decide)
  have et2 : xd_at s2 ar2 = xd_at s ar := (xq_at q2 (by decide) (by decide)).trans et
  have hzr : xr z2 := by rw [pz2]; exact xb_r _
  refine xe_if_eq xt_g259 rfl (t := 18) rfl (q := 11) rfl (by first | omega | exact hw.1 _ | exact hw.2 _ _ | exact xb_r _) (fun h8 => ?_) (fun h8 => ?_)
  · try simp only [xb_0, xb_1, ne_eq, Decidable.not_not, decide_eq_true_eq, decide_eq_false_iff_not] at h8
    refine xe_s (f := (19, _, xi 0 :: _, _)) xt_g259 rfl rfl rfl rfl rfl ?_
    refine xe_iret xt_g259 rfl rfl (xi_bool (by first | omega | exact xb_or _)).1 ?_
    have e : pa_from (xd_at s ar) (s 2) sec (s 3) = none := by
      unfold pa_from
      rw [if_neg (by rw [pz2, xb_0] at h8; rw [h8]; decide)]
    rw [e]
    exact ⟨_, _, _, rfl, rfl, w2, xq_t (xq_mm q1 (by decide) (by decide)) (xq_mm q2 (by decide) (by decide)), fun _ => rfl, fun _ _ _ _ h => by cases h⟩
  · try simp only [xb_0, xb_1, ne_eq, Decidable.not_not, decide_eq_true_eq, decide_eq_false_iff_not] at h8
    refine xe_s (f := (12, _, _, _)) xt_g259 rfl rfl rfl rfl rfl ?_
    refine xe_chI xt_g259 rfl (q := 15) rfl xk_13_217 rfl (by omega) xt_g261 (by decide) ⟨Nat.le_of_ble_eq_true rfl, Nat.le_of_ble_eq_true rfl, Nat.le_of_ble_eq_true rfl⟩ (xV_readPort fm hmn w2 (H := pa_scm sec ++ pa_hn (xd_at s ar) (s 3) (xd_hs (xd_at s ar) (s 2) 7 0 (s 3)).1) (sec := sec) (by omega) (by omega) p10b pHb (by rw [List.length_append]; unfold pa_hn; rw [List.length_map, pa_sl_len]; omega) (by rw [q2.1 13 (by decide), q1.1 13 (by decide)]; exact h13)) (fun z3 s3 ar3 hp3 => ?_)
    obtain ⟨w3, q3, pn, ps⟩ := hp3
    rw [et2, p3] at pn ps
    have h8' : (xd_hs (xd_at s ar) (s 2) 7 0 (s 3)).2 = true := by rw [pz2, xb_0] at h8; simpa using h8
    have Q3 := xq_t (xq_t (xq_mm q1 (S' := [3, 10, 11, 12, 13]) (A' := [6, 7, 8, 9]) (by decide) (by decide)) (xq_mm q2 (by decide) (by decide))) (xq_mm q3 (by decide) (by decide))
    have hz3 : z3 = 0 ∨ z3 = 1 := by
      cases hpp : pa_port (xd_at s ar) sec (xd_hs (xd_at s ar) (s 2) 7 0 (s 3)).1 with
      | none => exact Or.inl (pn hpp)
      | some x => exact Or.inr (ps x.1 x.2 hpp).1
    refine xe_if_ne xt_g259 rfl (t := 20) rfl (q := 18) rfl (by first | omega | exact hw.1 _ | exact hw.2 _ _ | exact xb_r _) (fun h15 => ?_) (fun h15 => ?_)
    · try simp only [xb_0, xb_1, ne_eq, Decidable.not_not, decide_eq_true_eq, decide_eq_false_iff_not] at h15
      obtain ⟨v, k2, hpp⟩ : ∃ v k2, pa_port (xd_at s ar) sec (xd_hs (xd_at s ar) (s 2) 7 0 (s 3)).1 = some (v, k2) := by
        cases hpp : pa_port (xd_at s ar) sec (xd_hs (xd_at s ar) (s 2) 7 0 (s 3)).1 with
        | none => have := pn hpp; omega
        | some x => exact ⟨x.1, x.2, rfl⟩
      obtain ⟨_, r3, r10, rH, r4, r5⟩ := ps v k2 hpp
      have g2 := Q3.1 2 (by decide)
      have et3 : xd_at s3 ar3 = xd_at s ar := xq_at Q3 (by decide) (by decide)
      have g11 : s3 11 = 0 := by rw [q3.1 11 (by decide), q2.1 11 (by decide), q1.1 11 (by decide)]; exact h11
      have g12 : s3 12 = -1 := by rw [q3.1 12 (by decide), q2.1 12 (by decide), q1.1 12 (by decide)]; exact h12
      have hr2 := xd_at_r w3 (s3 3)
      have tail : ∀ (s4 : Nat → Int) (ar4 : Nat → Nat → Int), xo_wf s4 ar4 → xq [3, 11] [7] s3 ar3 s4 ar4 → s4 3 = pa_p1 (xd_at s ar) (s 2) k2 → s4 11 = (pa_sl (xd_at s ar) k2 (pa_p1 (xd_at s ar) (s 2) k2)).length → xh (ar4 7) 0 (pa_sl (xd_at s ar) k2 (pa_p1 (xd_at s ar) (s 2) k2)) → xe fm 259 (33, [(0, .ref m)], [], (xo m s4 ar4 h0, n, 0, 0)) (xQI m n h0 (xd_PF s ar sec (pa_from (xd_at s ar) (s 2) sec (s 3)))) := by
        intro s4 ar4 w4 q4 a3 a11 aP
        have b2 := q4.1 2 (by decide)
        have et4 : xd_at s4 ar4 = xd_at s ar := (xq_at q4 (by decide) (by decide)).trans et3
        have hpb := pa_p1_b (t := xd_at s ar) (E := s 2) (k := k2) (by omega)
        refine xe_s (f := (34, _, _, _)) xt_g259 rfl rfl rfl rfl rfl ?_
        refine xe_chI xt_g259 rfl (q := 37) rfl xk_13_223 rfl (by omega) xt_g264 (by decide) ⟨Nat.le_of_ble_eq_true rfl, Nat.le_of_ble_eq_true rfl, Nat.le_of_ble_eq_true rfl⟩ (xV_readTail fm hmn w4 (by omega) (by omega) (by rw [q4.1 12 (by decide)]; exact g12)) (fun z5 s5 ar5 hp5 => ?_)
        obtain ⟨w5, q5, pz5, pq5⟩ := hp5
        rw [et4, show s4 2 = s 2 by omega, a3] at pz5 pq5
        have hz5 : z5 = 0 ∨ z5 = 1 := by rw [pz5]; exact xb_or _
        refine xe_iret xt_g259 rfl rfl (xi_bool (by first | omega | exact xb_or _)).1 ?_
        refine ⟨_, _, _, rfl, rfl, w5, xq_t (xq_t Q3 (xq_mm q4 (by decide) (by decide))) (xq_mm q5 (by decide) (by decide)), fun h => ?_, fun host' v' path' q' h => ?_⟩
        · unfold pa_from at h
          rw [if_pos h8', hpp] at h
          dsimp only at h
          split at h
          · cases h
          · rename_i hne
            rw [pz5, decide_eq_false hne]
            rfl
        · unfold pa_from at h
          rw [if_pos h8', hpp] at h
          dsimp only at h
          split at h
          · rename_i hy
            cases h
            refine ⟨by rw [pz5, decide_eq_true hy]; rfl, ?_, ?_, ?_, ?_, pq5, ?_, ?_⟩
            · rw [q5.1 10 (by decide), q4.1 10 (by decide), r10]
            · rw [q5.2 6 (by decide), q4.2 6 (by decide)]
              exact rH
            · rw [q5.1 11 (by decide), a11]
            · rw [q5.2 7 (by decide)]
              exact aP
            · unfold pa_hn
              rw [List.length_map, pa_sl_len]
              omega
            · rw [pa_sl_len]
              omega
          · cases h
      refine xe_s (f := (21, _, _, _)) xt_g259 rfl rfl rfl rfl rfl ?_
      refine xe_cvI xt_g259 rfl (q := 24) rfl xk_13_196 rfl (by omega) xt_g248 (by decide) ⟨Nat.le_of_ble_eq_true rfl, Nat.le_of_ble_eq_true rfl, Nat.le_of_ble_eq_true rfl⟩ (xv_here fm hmn (by omega) (by omega)) ?_
      refine xe_bipush xt_g259 rfl (q := 26) rfl (by decide) (by decide) ?_
      refine xe_ic_ne xt_g259 rfl (t := 33) rfl (q := 29) rfl (by first | omega | exact hw.1 _ | exact hw.2 _ _ | exact xb_r _) (by first | omega | exact hw.1 _ | exact hw.2 _ _ | exact xb_r _) (fun h26 => ?_) (fun h26 => ?_)
      · rw [et3, r3] at h26
        have ep : pa_p1 (xd_at s ar) (s 2) k2 = k2 := by
          unfold pa_p1
          rw [if_neg h26]
        exact tail s3 ar3 w3 xq_r (by rw [ep, r3]) (by rw [ep, pa_sl_nil (Int.le_refl _)]; exact g11) (by rw [ep, pa_sl_nil (Int.le_refl _)]; exact xh_nil)
      · rw [et3, r3] at h26
        have ep : pa_p1 (xd_at s ar) (s 2) k2 = k2 + xd_cnt xd_pth (xd_at s ar) (s 2 - k2).toNat k2 := by
          unfold pa_p1
          rw [if_pos (Decidable.not_not.mp h26)]
        refine xe_s (f := (30, _, _, _)) xt_g259 rfl rfl rfl rfl rfl ?_
        refine xe_chV xt_g259 rfl (q := 33) rfl xk_13_220 rfl (by omega) xt_g262 (by decide) ⟨Nat.le_of_ble_eq_true rfl, Nat.le_of_ble_eq_true rfl, Nat.le_of_ble_eq_true rfl⟩ (xU_readPath fm hmn w3 (P := []) (by omega) (by omega) (by simpa using g11) xh_nil (by simp)) (fun s4 ar4 hp4 => ?_)
        obtain ⟨w4, q4, p43, p411, p4P⟩ := hp4
        rw [et3, r3, show s3 2 = s 2 by omega] at p43 p411 p4P
        rw [List.nil_append] at p411 p4P
        exact tail s4 ar4 w4 q4 (by rw [ep, p43]) (by rw [ep]; exact p411) (by rw [ep]; exact p4P)
    · try simp only [xb_0, xb_1, ne_eq, Decidable.not_not, decide_eq_true_eq, decide_eq_false_iff_not] at h15
      refine xe_s (f := (19, _, xi 0 :: _, _)) xt_g259 rfl rfl rfl rfl rfl ?_
      refine xe_iret xt_g259 rfl rfl (xi_bool (by first | omega | exact xb_or _)).1 ?_
      have e : pa_from (xd_at s ar) (s 2) sec (s 3) = none := by
        unfold pa_from
        rw [if_pos h8']
        cases hpp : pa_port (xd_at s ar) sec (xd_hs (xd_at s ar) (s 2) 7 0 (s 3)).1 with
        | none => rfl
        | some x => have := (ps x.1 x.2 hpp).1; omega
      rw [e]
      exact ⟨_, _, _, rfl, rfl, w3, Q3, fun _ => rfl, fun _ _ _ _ h => by cases h⟩
end XFH
