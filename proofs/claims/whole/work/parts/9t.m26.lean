/-! the reference: finish, resolve -/
def pa_pre (t : Int → Int) (E : Int) (b : Option pa_A) : Option pa_A := if xd_hsc t = true then (pa_from t E (xd_ss t) (xd_sk t + 3)).map (fun r => (xd_ss t, r)) else match b with
  | none => none
  | some a => pa_ref t E a
def pa_cl (a : pa_A) : pa_A := (a.1, a.2.1, a.2.2.1, pa_dots a.2.2.2.1, a.2.2.2.2)
def pa_res (t : Int → Int) (E : Int) (b : Option pa_A) : Option pa_A := match pa_pre t E b with
  | none => none
  | some a => if (pa_text (pa_cl a)).length ≤ 60 then some (pa_cl a) else none
/-- of the slots' texts all but the fortieth stay -/
def xd_F4 (ar ar' : Nat → Nat → Int) : Prop := (∀ i, i < 2400 ∨ 2460 ≤ i → ar' 4 i = ar 4 i) ∧ ∀ i, i ≠ 40 → ar' 5 i = ar 5 i
theorem xd_F4_r {ar : Nat → Nat → Int} : xd_F4 ar ar := ⟨fun _ _ => rfl, fun _ _ => rfl⟩
theorem xd_F4_t {ar ar1 ar2 : Nat → Nat → Int} (h : xd_F4 ar ar1) (h' : xd_F4 ar1 ar2) : xd_F4 ar ar2 := ⟨fun i hi => (h'.1 i hi).trans (h.1 i hi), fun i hi => (h'.2 i hi).trans (h.2 i hi)⟩
theorem xd_F4_e {ar ar1 ar2 : Nat → Nat → Int} (h : xd_F4 ar ar1) (h4 : ar2 4 = ar1 4) (h5 : ar2 5 = ar1 5) : xd_F4 ar ar2 := ⟨fun i hi => (congrFun h4 i).trans (h.1 i hi), fun i hi => (congrFun h5 i).trans (h.2 i hi)⟩
theorem xd_F4_w {ar ar1 : Nat → Nat → Int} {i : Nat} {z : Int} (h : xd_F4 ar ar1) (hi : 2400 ≤ i ∧ i < 2460) : xd_F4 ar (xo_w ar1 4 i z) := ⟨fun j hj => (xo_wI (by omega)).trans (h.1 j hj), fun j hj => by rw [xo_wK (by decide)]; exact h.2 j hj⟩
def xd_PX (s : Nat → Int) (ar : Nat → Nat → Int) (T : List Int) (z : Int) (s' : Nat → Int) (ar' : Nat → Nat → Int) : Prop := xo_wf s' ar' ∧ xq [11] [4, 5, 7, 8] s ar s' ar' ∧ xd_F4 ar ar' ∧ (60 < T.length → z = 0) ∧ (T.length ≤ 60 → z = 1 ∧ pa_at ar' 40 T)
def xd_PR (s : Nat → Int) (ar : Nat → Nat → Int) (r : Option pa_A) (z : Int) (s' : Nat → Int) (ar' : Nat → Nat → Int) : Prop := xo_wf s' ar' ∧ xq [3, 10, 11, 12, 13] [4, 5, 6, 7, 8, 9] s ar s' ar' ∧ xd_F4 ar ar' ∧ (r = none → z = 0) ∧ ∀ a, r = some a → z = 1 ∧ pa_at ar' 40 (pa_text a)
theorem pa_dl_len : ∀ (F : Nat) (rem cl : List Int) (d : Bool), (pa_dl F rem cl d).1.length ≤ cl.length + rem.length
  | 0, rem, cl, d => by
    unfold pa_dl
    exact Nat.le_add_right _ _
  | F + 1, [], cl, d => by
    unfold pa_dl
    exact Nat.le_add_right _ _
  | F + 1, c :: r, cl, d => by
    have hwl := pa_wd_le r
    have hd : (r.drop (pa_wd r)).length = r.length - pa_wd r := List.length_drop
    unfold pa_dl
    rw [List.length_cons]
    split
    · have := pa_dl_len F (r.drop (pa_wd r)) cl true
      omega
    · split
      · have := pa_dl_len F (r.drop (pa_wd r)) (pa_pop cl) true
        have h2 : (pa_pop cl).length ≤ cl.length := by
          unfold pa_pop
          rw [List.length_take]
          omega
        omega
      · have := pa_dl_len F (r.drop (pa_wd r)) (cl ++ c :: r.take (pa_wd r)) false
        rw [List.length_append, List.length_cons, List.length_take] at this
        omega
theorem pa_dots_len (P : List Int) : (pa_dots P).length ≤ P.length + 1 := by
  have h := pa_dl_len P.length P [] false
  unfold pa_dots pa_fin
  split
  · rw [List.length_append]
    simp at h ⊢
    omega
  · simp at h
    omega
section XFI
variable (fm : Value) {m n : Nat} {h0 : xm_H} {s : Nat → Int} {ar : Nat → Nat → Int}
theorem xV_finish (hmn : xo_in m n) (hw : xo_wf s ar) {H P q : List Int} (h10 : s 10 = H.length) (hH : xh (ar 6) 0 H) (hHl : H.length ≤ 200) (h11 : s 11 = P.length) (hP : xh (ar 7) 0 P) (hPl : P.length ≤ 220) (hq : pa_qs s ar q) :
    xV fm 266 m n h0 s ar [.ref m] (xd_PX s ar (H ++ pa_dots P ++ q)) := by
  show xe fm 266 (0, [(0, .ref m)], [], (xo m s ar h0, n, 0, 0)) _
  have h12 : s 12 = (q.length : Int) - 1 ∧ q.length ≤ 161 ∧ ∀ i, i + 1 < q.length → ar 9 i = q.getD (i + 1) 0 := by
    rcases hq with ⟨h1, h2⟩ | ⟨q', h1, h2, h3, h4⟩
    · rw [h1, h2]
      exact ⟨rfl, by decide, fun i hi => absurd hi (by simp)⟩
    · rw [h1, h2]
      refine ⟨by rw [List.length_cons]; omega, by rw [List.length_cons]; omega, fun i hi => ?_⟩
      rw [List.length_cons] at hi
      have := h3 i (by omega)
      rw [Nat.zero_add] at this
      rw [this]
      rfl
  have hq63 : q ≠ [] → q.getD 0 0 = 63 := by
    rcases hq with ⟨h1, h2⟩ | ⟨q', h1, h2, h3, h4⟩
    · intro h
      exact absurd h1 h
    · intro _
      rw [h1]
      rfl
  generalize hT : H ++ pa_dots P ++ q = T
  have hTl : T.length = H.length + (pa_dots P).length + q.length := by
    rw [← hT]
    simp [Nat.add_assoc]
  have hT1 : ∀ i, i < H.length → T.getD i 0 = H.getD i 0 := by
    intro i hi
    rw [← hT, xg_l (by rw [List.length_append]; omega), xg_l hi]
  have hT2 : ∀ i, i < (pa_dots P).length → T.getD (H.length + i) 0 = (pa_dots P).getD i 0 := by
    intro i hi
    rw [← hT, xg_l (by rw [List.length_append]; omega), xg_r (by omega)]
    congr 1
    omega
  have hT3 : ∀ i, i < q.length → T.getD (H.length + (pa_dots P).length + i) 0 = q.getD i 0 := by
    intro i hi
    rw [← hT, xg_r (by rw [List.length_append]; omega), List.length_append]
    congr 1
    omega
  have take1 : ∀ (ar1 : Nat → Nat → Int) (k : Nat) (z : Int), k < T.length → z = T.getD k 0 → xh (ar1 4) 2400 (T.take k) → xh (xo_w ar1 4 (2400 + k) z 4) 2400 (T.take (k + 1)) := by
    intro ar1 k z hk hz hx
    rw [List.take_succ_eq_append_getElem hk, show T[k] = T.getD k 0 by simp [List.getD, hk], ← hz]
    exact xh_w (by rw [List.length_take]; omega) hx
  have main : ∀ (s1 : Nat → Int) (ar1 : Nat → Nat → Int), xo_wf s1 ar1 → xq [11] [7, 8] s ar s1 ar1 → s1 11 = (pa_dots P).length → xh (ar1 7) 0 (pa_dots P) → xe fm 266 (4, [(0, .ref m)], [], (xo m s1 ar1 h0, n, 0, 0)) (xQI m n h0 (xd_PX s ar T)) := by
    intro s1 ar1 w1 q1 g11 g7
    have g10 : s1 10 = H.length := (q1.1 10 (by decide)).trans h10
    have g12 : s1 12 = (q.length : Int) - 1 := (q1.1 12 (by decide)).trans h12.1
    have g6 : xh (ar1 6) 0 H := by rw [q1.2 6 (by decide)]; exact hH
    have g9 : ar1 9 = ar 9 := q1.2 9 (by decide)
    have hdl : (pa_dots P).length ≤ 60 ∨ 60 < T.length := by omega
    have en : (H.length : Int) + (pa_dots P).length + ((q.length : Int) - 1) + 1 = T.length := by omega
    have fr : ∀ ar2, xd_F4 ar1 ar2 → xd_F4 ar ar2 := fun ar2 h => xd_F4_t (xd_F4_e xd_F4_r (q1.2 4 (by decide)) (q1.2 5 (by decide))) h
    -- the last loop
    have l127 : T.length ≤ 60 → ∀ (N k : Nat) (ar2 : Nat → Nat → Int) (v2 : Value), k + N = q.length → 0 < k ∨ q = [] → xo_wf s1 ar2 → xq [] [4] s1 ar1 s1 ar2 → xd_F4 ar1 ar2 → xh (ar2 4) 2400 (T.take (H.length + (pa_dots P).length + k)) → xe fm 266 (127, [(2, xi ((k : Int) - if q = [] then 0 else 1)), (1, xi T.length), (0, .ref m)], [], (xo m s1 ar2 h0, n, 0, 0)) (xQI m n h0 (xd_PX s ar T)) := by
      intro hle N
      induction N with
      | zero =>
        intro k ar2 v2 hk hk0 w2 q2 f2 hx
        rw [List.take_of_length_le (by omega)] at hx
        refine xe_s (f := (128, _, _, _)) xt_g266 rfl rfl rfl rfl rfl ?_
        refine xe_s (f := (129, _, _, _)) xt_g266 rfl rfl rfl rfl rfl ?_
        refine xe_mgs xt_g266 rfl (q := 132) rfl (xf_13_204 fm) (by decide) rfl (by omega) ?_
        try simp only [xo_u, xo_w, Nat.reduceEqDiff, reduceIte, false_and, true_and]
        rw [g12]
        refine xe_ic_ge xt_g266 rfl (t := 169) rfl (q := 135) rfl (by first | omega | exact hw.1 _ | exact hw.2 _ _ | exact xb_r _) (by first | omega | exact hw.1 _ | exact hw.2 _ _ | exact xb_r _) (fun h132 => ?_) (fun h132 => ?_)
        · refine xe_s (f := (170, _, _, _)) xt_g266 rfl rfl rfl rfl rfl ?_
          refine xe_mga xt_g266 rfl (q := 173) rfl (xf_13_16 fm) (by decide) rfl (by omega) ?_
          try simp only [xo_u, xo_w, Nat.reduceEqDiff, reduceIte, false_and, true_and]
          refine xe_bipush xt_g266 rfl (q := 175) rfl (by decide) (by decide) ?_
          refine xe_s (f := (176, _, _, _)) xt_g266 rfl rfl rfl rfl rfl ?_
          refine xe_mas (ok := xm_isN) (ty := .int) xt_g266 rfl (q := 177) rfl (fun _ _ => ⟨rfl, rfl, rfl, rfl⟩) rfl rfl rfl (by omega) (by omega) (by omega) (by omega) (by omega) rfl ?_
          refine xe_s (f := (178, _, xi 1 :: _, _)) xt_g266 rfl rfl rfl rfl rfl ?_
          refine xe_iret xt_g266 rfl rfl (xi_bool (by first | omega | exact xb_or _)).1 ?_
          refine ⟨_, _, _, rfl, rfl, xo_wf_w w2 (by omega), xq_t (xq_mm q1 (by decide) (by decide)) (xq_w (xq_mm q2 (by decide) (by decide)) (by decide)), ?_, fun h => absurd h (by omega), fun _ => ⟨rfl, ?_, hle, ?_⟩⟩
          · have f3 := fr _ f2
            exact ⟨fun i hi => by rw [xo_wK (by decide)]; exact f3.1 i hi, fun i hi => by rw [xo_wI (by omega)]; exact f3.2 i hi⟩
          · exact xo_wS
          · rw [xo_wK (by decide)]
            exact hx
        · split at h132 <;> simp_all <;> omega
      | succ N ih =>
        intro k ar2 v2 hk hk0 w2 q2 f2 hx
        have hqn : q ≠ [] := by
          intro h
          rw [h] at hk
          simp at hk
        have hk0' : 0 < k := hk0.resolve_right hqn
        have e9 : ar2 9 ((k : Int) - 1).toNat = T.getD (H.length + (pa_dots P).length + k) 0 := by
          rw [q2.2 9 (by decide), g9, show ((k : Int) - 1).toNat = k - 1 by omega, h12.2.2 (k - 1) (by omega), hT3 k (by omega)]
          congr 1
          omega
        rw [if_neg hqn]
        refine xe_s (f := (128, _, _, _)) xt_g266 rfl rfl rfl rfl rfl ?_
        refine xe_s (f := (129, _, _, _)) xt_g266 rfl rfl rfl rfl rfl ?_
        refine xe_mgs xt_g266 rfl (q := 132) rfl (xf_13_204 fm) (by decide) rfl (by omega) ?_
        try simp only [xo_u, xo_w, Nat.reduceEqDiff, reduceIte, false_and, true_and]
        rw [g12]
        refine xe_ic_ge xt_g266 rfl (t := 169) rfl (q := 135) rfl (by first | omega | exact hw.1 _ | exact hw.2 _ _ | exact xb_r _) (by first | omega | exact hw.1 _ | exact hw.2 _ _ | exact xb_r _) (fun h132 => ?_) (fun h132 => ?_)
        · exact absurd h132 (by omega)
        · refine xe_s (f := (136, _, _, _)) xt_g266 rfl rfl rfl rfl rfl ?_
          refine xe_mga xt_g266 rfl (q := 139) rfl (xf_13_13 fm) (by decide) rfl (by omega) ?_
          try simp only [xo_u, xo_w, Nat.reduceEqDiff, reduceIte, false_and, true_and]
          refine xe_sipush xt_g266 rfl (q := 142) rfl (by decide) (by decide) ?_
          refine xe_s (f := (143, _, _, _)) xt_g266 rfl rfl rfl rfl rfl ?_
          refine xe_mgs xt_g266 rfl (q := 146) rfl (xf_13_185 fm) (by decide) rfl (by omega) ?_
          try simp only [xo_u, xo_w, Nat.reduceEqDiff, reduceIte, false_and, true_and]
          rw [g10]
          refine xe_iadd xt_g266 rfl (q := 147) rfl ?_
          refine xe_s (f := (148, _, _, _)) xt_g266 rfl rfl rfl rfl rfl ?_
          refine xe_mgs xt_g266 rfl (q := 151) rfl (xf_13_201 fm) (by decide) rfl (by omega) ?_
          try simp only [xo_u, xo_w, Nat.reduceEqDiff, reduceIte, false_and, true_and]
          rw [g11]
          refine xe_iadd xt_g266 rfl (q := 152) rfl ?_
          refine xe_s (f := (153, _, xi 1 :: _, _)) xt_g266 rfl rfl rfl rfl rfl ?_
          refine xe_iadd xt_g266 rfl (q := 154) rfl ?_
          refine xe_s (f := (155, _, _, _)) xt_g266 rfl rfl rfl rfl rfl ?_
          refine xe_iadd xt_g266 rfl (q := 156) rfl ?_
          refine xe_s (f := (157, _, _, _)) xt_g266 rfl rfl rfl rfl rfl ?_
          refine xe_mga xt_g266 rfl (q := 160) rfl (xf_13_28 fm) (by decide) rfl (by omega) ?_
          try simp only [xo_u, xo_w, Nat.reduceEqDiff, reduceIte, false_and, true_and]
          refine xe_s (f := (161, _, _, _)) xt_g266 rfl rfl rfl rfl rfl ?_
          refine xe_mal (ok := xm_isN) (ty := .int) xt_g266 rfl (q := 162) rfl (fun _ _ => ⟨rfl, rfl, rfl, rfl⟩) rfl rfl rfl (by omega) (by omega) (by omega) (by omega) ?_
          try simp only [xo_u, xo_w, Nat.reduceEqDiff, reduceIte, false_and, true_and]
          refine xe_mas (ok := xm_isN) (ty := .int) xt_g266 rfl (q := 163) rfl (fun _ _ => ⟨rfl, rfl, rfl, rfl⟩) rfl rfl rfl (by omega) (by omega) (by omega) (by omega) (by omega) rfl ?_
          refine xe_iinc xt_g266 rfl (q := 166) rfl rfl (by decide) (L1 := [(2, _), (1, _), (0, _)]) rfl ?_
          refine xe_s (f := (127, _, _, _)) xt_g266 rfl rfl rfl rfl rfl ?_
          rw [e9]
          have ei : (2400 + (H.length : Int) + (pa_dots P).length + 1 + ((k : Int) - 1)).toNat = 2400 + (H.length + (pa_dots P).length + k) := by omega
          rw [ei]
          have h := ih (k + 1) (xo_w ar2 4 (2400 + (H.length + (pa_dots P).length + k)) (T.getD (H.length + (pa_dots P).length + k) 0)) v2 (by omega) (Or.inl (by omega)) (xo_wf_w w2 (by rw [← e9]; exact w2.2 _ _)) (xq_w q2 (by decide)) (xd_F4_w f2 (by omega)) (take1 _ _ _ (by omega) rfl hx)
          rw [if_neg hqn, show ((k + 1 : Nat) : Int) - 1 = (k : Int) - 1 + 1 by omega] at h
          exact h
    have e98 : T.length ≤ 60 → ∀ (ar2 : Nat → Nat → Int) (v2 : Int), xo_wf s1 ar2 → xq [] [4] s1 ar1 s1 ar2 → xd_F4 ar1 ar2 → xh (ar2 4) 2400 (T.take (H.length + (pa_dots P).length)) → xe fm 266 (98, [(2, xi v2), (1, xi T.length), (0, .ref m)], [], (xo m s1 ar2 h0, n, 0, 0)) (xQI m n h0 (xd_PX s ar T)) := by
      intro hle ar2 v2 w2 q2 f2 hx
      refine xe_s (f := (99, _, _, _)) xt_g266 rfl rfl rfl rfl rfl ?_
      refine xe_mgs xt_g266 rfl (q := 102) rfl (xf_13_204 fm) (by decide) rfl (by omega) ?_
      try simp only [xo_u, xo_w, Nat.reduceEqDiff, reduceIte, false_and, true_and]
      rw [g12]
      refine xe_if_lt xt_g266 rfl (t := 125) rfl (q := 105) rfl (by first | omega | exact hw.1 _ | exact hw.2 _ _ | exact xb_r _) (fun h102 => ?_) (fun h102 => ?_)
      · try simp only [xb_0, xb_1, ne_eq, Decidable.not_not, decide_eq_true_eq, decide_eq_false_iff_not] at h102
        refine xe_s (f := (126, _, xi 0 :: _, _)) xt_g266 rfl rfl rfl rfl rfl ?_
        refine xe_s (f := (127, [(2, _), (1, _), (0, _)], _, _)) xt_g266 rfl rfl rfl rfl rfl ?_
        have hqn : q = [] := List.eq_nil_of_length_eq_zero (by omega)
        have h := l127 hle 0 0 ar2 (xi v2) (by rw [hqn]; rfl) (Or.inr hqn) w2 q2 f2 hx
        rw [if_pos hqn] at h
        exact h
      · try simp only [xb_0, xb_1, ne_eq, Decidable.not_not, decide_eq_true_eq, decide_eq_false_iff_not] at h102
        refine xe_s (f := (106, _, _, _)) xt_g266 rfl rfl rfl rfl rfl ?_
        refine xe_mga xt_g266 rfl (q := 109) rfl (xf_13_13 fm) (by decide) rfl (by omega) ?_
        try simp only [xo_u, xo_w, Nat.reduceEqDiff, reduceIte, false_and, true_and]
        refine xe_sipush xt_g266 rfl (q := 112) rfl (by decide) (by decide) ?_
        refine xe_s (f := (113, _, _, _)) xt_g266 rfl rfl rfl rfl rfl ?_
        refine xe_mgs xt_g266 rfl (q := 116) rfl (xf_13_185 fm) (by decide) rfl (by omega) ?_
        try simp only [xo_u, xo_w, Nat.reduceEqDiff, reduceIte, false_and, true_and]
        rw [g10]
        refine xe_iadd xt_g266 rfl (q := 117) rfl ?_
        refine xe_s (f := (118, _, _, _)) xt_g266 rfl rfl rfl rfl rfl ?_
        refine xe_mgs xt_g266 rfl (q := 121) rfl (xf_13_201 fm) (by decide) rfl (by omega) ?_
        try simp only [xo_u, xo_w, Nat.reduceEqDiff, reduceIte, false_and, true_and]
        rw [g11]
        refine xe_iadd xt_g266 rfl (q := 122) rfl ?_
        refine xe_bipush xt_g266 rfl (q := 124) rfl (by decide) (by decide) ?_
        refine xe_mas (ok := xm_isN) (ty := .int) xt_g266 rfl (q := 125) rfl (fun _ _ => ⟨rfl, rfl, rfl, rfl⟩) rfl rfl rfl (by omega) (by omega) (by omega) (by omega) (by omega) rfl ?_
        refine xe_s (f := (126, _, xi 0 :: _, _)) xt_g266 rfl rfl rfl rfl rfl ?_
        refine xe_s (f := (127, [(2, _), (1, _), (0, _)], _, _)) xt_g266 rfl rfl rfl rfl rfl ?_
        have hqn : q ≠ [] := by
          intro h
          rw [h] at h102
          exact h102 (by decide)
        have hql : 0 < q.length := Nat.pos_of_ne_zero (fun h => hqn (List.eq_nil_of_length_eq_zero h))
        have ei : (2400 + (H.length : Int) + (pa_dots P).length).toNat = 2400 + (H.length + (pa_dots P).length) := by omega
        rw [ei]
        have h := l127 hle (q.length - 1) 1 (xo_w ar2 4 (2400 + (H.length + (pa_dots P).length)) 63) (xi v2) (by omega) (Or.inl (by omega)) (xo_wf_w w2 (by omega)) (xq_w q2 (by decide)) (xd_F4_w f2 (by omega)) (take1 _ _ _ (by omega) (by rw [← hq63 hqn, ← hT3 0 hql]; rfl) hx)
        rw [if_neg hqn] at h
        exact h
    have l63 : T.length ≤ 60 → ∀ (N k : Nat) (ar2 : Nat → Nat → Int), k + N = (pa_dots P).length → xo_wf s1 ar2 → xq [] [4] s1 ar1 s1 ar2 → xd_F4 ar1 ar2 → xh (ar2 4) 2400 (T.take (H.length + k)) → xe fm 266 (63, [(2, xi k), (1, xi T.length), (0, .ref m)], [], (xo m s1 ar2 h0, n, 0, 0)) (xQI m n h0 (xd_PX s ar T)) := by
      intro hle N
      induction N with
      | zero =>
        intro k ar2 hk w2 q2 f2 hx
        rw [show k = (pa_dots P).length by omega] at hx
        refine xe_s (f := (64, _, _, _)) xt_g266 rfl rfl rfl rfl rfl ?_
        refine xe_s (f := (65, _, _, _)) xt_g266 rfl rfl rfl rfl rfl ?_
        refine xe_mgs xt_g266 rfl (q := 68) rfl (xf_13_201 fm) (by decide) rfl (by omega) ?_
        try simp only [xo_u, xo_w, Nat.reduceEqDiff, reduceIte, false_and, true_and]
        rw [g11]
        refine xe_ic_ge xt_g266 rfl (t := 98) rfl (q := 71) rfl (by first | omega | exact hw.1 _ | exact hw.2 _ _ | exact xb_r _) (by first | omega | exact hw.1 _ | exact hw.2 _ _ | exact xb_r _) (fun h68 => ?_) (fun h68 => ?_)
        · exact e98 hle ar2 k w2 q2 f2 hx
        · exact absurd h68 (by omega)
      | succ N ih =>
        intro k ar2 hk w2 q2 f2 hx
        have e7 : ar2 7 (k : Int).toNat = T.getD (H.length + k) 0 := by
          rw [q2.2 7 (by decide), hT2 k (by omega), ← g7 k (by omega), Nat.zero_add]
          rfl
        refine xe_s (f := (64, _, _, _)) xt_g266 rfl rfl rfl rfl rfl ?_
        refine xe_s (f := (65, _, _, _)) xt_g266 rfl rfl rfl rfl rfl ?_
        refine xe_mgs xt_g266 rfl (q := 68) rfl (xf_13_201 fm) (by decide) rfl (by omega) ?_
        try simp only [xo_u, xo_w, Nat.reduceEqDiff, reduceIte, false_and, true_and]
        rw [g11]
        refine xe_ic_ge xt_g266 rfl (t := 98) rfl (q := 71) rfl (by first | omega | exact hw.1 _ | exact hw.2 _ _ | exact xb_r _) (by first | omega | exact hw.1 _ | exact hw.2 _ _ | exact xb_r _) (fun h68 => ?_) (fun h68 => ?_)
        · exact absurd h68 (by omega)
        · refine xe_s (f := (72, _, _, _)) xt_g266 rfl rfl rfl rfl rfl ?_
          refine xe_mga xt_g266 rfl (q := 75) rfl (xf_13_13 fm) (by decide) rfl (by omega) ?_
          try simp only [xo_u, xo_w, Nat.reduceEqDiff, reduceIte, false_and, true_and]
          refine xe_sipush xt_g266 rfl (q := 78) rfl (by decide) (by decide) ?_
          refine xe_s (f := (79, _, _, _)) xt_g266 rfl rfl rfl rfl rfl ?_
          refine xe_mgs xt_g266 rfl (q := 82) rfl (xf_13_185 fm) (by decide) rfl (by omega) ?_
          try simp only [xo_u, xo_w, Nat.reduceEqDiff, reduceIte, false_and, true_and]
          rw [g10]
          refine xe_iadd xt_g266 rfl (q := 83) rfl ?_
          refine xe_s (f := (84, _, _, _)) xt_g266 rfl rfl rfl rfl rfl ?_
          refine xe_iadd xt_g266 rfl (q := 85) rfl ?_
          refine xe_s (f := (86, _, _, _)) xt_g266 rfl rfl rfl rfl rfl ?_
          refine xe_mga xt_g266 rfl (q := 89) rfl (xf_13_22 fm) (by decide) rfl (by omega) ?_
          try simp only [xo_u, xo_w, Nat.reduceEqDiff, reduceIte, false_and, true_and]
          refine xe_s (f := (90, _, _, _)) xt_g266 rfl rfl rfl rfl rfl ?_
          refine xe_mal (ok := xm_isN) (ty := .int) xt_g266 rfl (q := 91) rfl (fun _ _ => ⟨rfl, rfl, rfl, rfl⟩) rfl rfl rfl (by omega) (by omega) (by omega) (by omega) ?_
          try simp only [xo_u, xo_w, Nat.reduceEqDiff, reduceIte, false_and, true_and]
          refine xe_mas (ok := xm_isN) (ty := .int) xt_g266 rfl (q := 92) rfl (fun _ _ => ⟨rfl, rfl, rfl, rfl⟩) rfl rfl rfl (by omega) (by omega) (by omega) (by omega) (by omega) rfl ?_
          refine xe_iinc xt_g266 rfl (q := 95) rfl rfl (by decide) (L1 := [(2, _), (1, _), (0, _)]) rfl ?_
          refine xe_s (f := (63, _, _, _)) xt_g266 rfl rfl rfl rfl rfl ?_
          rw [e7]
          have ei : (2400 + (H.length : Int) + (k : Int)).toNat = 2400 + (H.length + k) := by omega
          rw [ei]
          exact ih (k + 1) (xo_w ar2 4 (2400 + (H.length + k)) (T.getD (H.length + k) 0)) (by omega) (xo_wf_w w2 (by rw [← e7]; exact w2.2 _ _)) (xq_w q2 (by decide)) (xd_F4_w f2 (by omega)) (take1 _ _ _ (by omega) rfl hx)
    have l31 : T.length ≤ 60 → ∀ (N k : Nat) (ar2 : Nat → Nat → Int), k + N = H.length → xo_wf s1 ar2 → xq [] [4] s1 ar1 s1 ar2 → xd_F4 ar1 ar2 → xh (ar2 4) 2400 (T.take k) → xe fm 266 (31, [(2, xi k), (1, xi T.length), (0, .ref m)], [], (xo m s1 ar2 h0, n, 0, 0)) (xQI m n h0 (xd_PX s ar T)) := by
      intro hle N
      induction N with
      | zero =>
        intro k ar2 hk w2 q2 f2 hx
        rw [show k = H.length by omega] at hx
        refine xe_s (f := (32, _, _, _)) xt_g266 rfl rfl rfl rfl rfl ?_
        refine xe_s (f := (33, _, _, _)) xt_g266 rfl rfl rfl rfl rfl ?_
        refine xe_mgs xt_g266 rfl (q := 36) rfl (xf_13_185 fm) (by decide) rfl (by omega) ?_
        try simp only [xo_u, xo_w, Nat.reduceEqDiff, reduceIte, false_and, true_and]
        rw [g10]
        refine xe_ic_ge xt_g266 rfl (t := 61) rfl (q := 39) rfl (by first | omega | exact hw.1 _ | exact hw.2 _ _ | exact xb_r _) (by first | omega | exact hw.1 _ | exact hw.2 _ _ | exact xb_r _) (fun h36 => ?_) (fun h36 => ?_)
        · refine xe_s (f := (62, _, xi 0 :: _, _)) xt_g266 rfl rfl rfl rfl rfl ?_
          refine xe_s (f := (63, [(2, _), (1, _), (0, _)], _, _)) xt_g266 rfl rfl rfl rfl rfl ?_
          exact l63 hle (pa_dots P).length 0 ar2 (by omega) w2 q2 f2 hx
        · exact absurd h36 (by omega)
      | succ N ih =>
        intro k ar2 hk w2 q2 f2 hx
        have e7 : ar2 6 (k : Int).toNat = T.getD k 0 := by
          rw [q2.2 6 (by decide), hT1 k (by omega), ← g6 k (by omega), Nat.zero_add]
          rfl
        refine xe_s (f := (32, _, _, _)) xt_g266 rfl rfl rfl rfl rfl ?_
        refine xe_s (f := (33, _, _, _)) xt_g266 rfl rfl rfl rfl rfl ?_
        refine xe_mgs xt_g266 rfl (q := 36) rfl (xf_13_185 fm) (by decide) rfl (by omega) ?_
        try simp only [xo_u, xo_w, Nat.reduceEqDiff, reduceIte, false_and, true_and]
        rw [g10]
        refine xe_ic_ge xt_g266 rfl (t := 61) rfl (q := 39) rfl (by first | omega | exact hw.1 _ | exact hw.2 _ _ | exact xb_r _) (by first | omega | exact hw.1 _ | exact hw.2 _ _ | exact xb_r _) (fun h36 => ?_) (fun h36 => ?_)
        · exact absurd h36 (by omega)
        · refine xe_s (f := (40, _, _, _)) xt_g266 rfl rfl rfl rfl rfl ?_
          refine xe_mga xt_g266 rfl (q := 43) rfl (xf_13_13 fm) (by decide) rfl (by omega) ?_
          try simp only [xo_u, xo_w, Nat.reduceEqDiff, reduceIte, false_and, true_and]
          refine xe_sipush xt_g266 rfl (q := 46) rfl (by decide) (by decide) ?_
          refine xe_s (f := (47, _, _, _)) xt_g266 rfl rfl rfl rfl rfl ?_
          refine xe_iadd xt_g266 rfl (q := 48) rfl ?_
          refine xe_s (f := (49, _, _, _)) xt_g266 rfl rfl rfl rfl rfl ?_
          refine xe_mga xt_g266 rfl (q := 52) rfl (xf_13_19 fm) (by decide) rfl (by omega) ?_
          try simp only [xo_u, xo_w, Nat.reduceEqDiff, reduceIte, false_and, true_and]
          refine xe_s (f := (53, _, _, _)) xt_g266 rfl rfl rfl rfl rfl ?_
          refine xe_mal (ok := xm_isN) (ty := .int) xt_g266 rfl (q := 54) rfl (fun _ _ => ⟨rfl, rfl, rfl, rfl⟩) rfl rfl rfl (by omega) (by omega) (by omega) (by omega) ?_
          try simp only [xo_u, xo_w, Nat.reduceEqDiff, reduceIte, false_and, true_and]
          refine xe_mas (ok := xm_isN) (ty := .int) xt_g266 rfl (q := 55) rfl (fun _ _ => ⟨rfl, rfl, rfl, rfl⟩) rfl rfl rfl (by omega) (by omega) (by omega) (by omega) (by omega) rfl ?_
          refine xe_iinc xt_g266 rfl (q := 58) rfl rfl (by decide) (L1 := [(2, _), (1, _), (0, _)]) rfl ?_
          refine xe_s (f := (31, _, _, _)) xt_g266 rfl rfl rfl rfl rfl ?_
          rw [e7]
          have ei : (2400 + (k : Int)).toNat = 2400 + k := by omega
          rw [ei]
          exact ih (k + 1) (xo_w ar2 4 (2400 + k) (T.getD k 0)) (by omega) (xo_wf_w w2 (by rw [← e7]; exact w2.2 _ _)) (xq_w q2 (by decide)) (xd_F4_w f2 (by omega)) (take1 _ _ _ (by omega) rfl hx)
    have hTb := pa_dots_len P
    refine xe_s (f := (5, _, _, _)) xt_g266 rfl rfl rfl rfl rfl ?_
    refine xe_mgs xt_g266 rfl (q := 8) rfl (xf_13_185 fm) (by decide) rfl (by omega) ?_
    try simp only [xo_u, xo_w, Nat.reduceEqDiff, reduceIte, false_and, true_and]
    rw [g10]
    refine xe_s (f := (9, _, _, _)) xt_g266 rfl rfl rfl rfl rfl ?_
    refine xe_mgs xt_g266 rfl (q := 12) rfl (xf_13_201 fm) (by decide) rfl (by omega) ?_
    try simp only [xo_u, xo_w, Nat.reduceEqDiff, reduceIte, false_and, true_and]
    rw [g11]
    refine xe_iadd xt_g266 rfl (q := 13) rfl ?_
    refine xe_s (f := (14, _, _, _)) xt_g266 rfl rfl rfl rfl rfl ?_
    refine xe_mgs xt_g266 rfl (q := 17) rfl (xf_13_204 fm) (by decide) rfl (by omega) ?_
    try simp only [xo_u, xo_w, Nat.reduceEqDiff, reduceIte, false_and, true_and]
    rw [g12]
    refine xe_iadd xt_g266 rfl (q := 18) rfl ?_
    refine xe_s (f := (19, _, xi 1 :: _, _)) xt_g266 rfl rfl rfl rfl rfl ?_
    refine xe_iadd xt_g266 rfl (q := 20) rfl ?_
    rw [en]
    refine xe_s (f := (21, [(1, _), (0, _)], _, _)) xt_g266 rfl rfl rfl rfl rfl ?_
    refine xe_s (f := (22, _, _, _)) xt_g266 rfl rfl rfl rfl rfl ?_
    refine xe_bipush xt_g266 rfl (q := 24) rfl (by decide) (by decide) ?_
    refine xe_ic_le xt_g266 rfl (t := 29) rfl (q := 27) rfl (by first | omega | exact hw.1 _ | exact hw.2 _ _ | exact xb_r _) (by first | omega | exact hw.1 _ | exact hw.2 _ _ | exact xb_r _) (fun h24 => ?_) (fun h24 => ?_)
    · refine xe_s (f := (30, _, xi 0 :: _, _)) xt_g266 rfl rfl rfl rfl rfl ?_
      refine xe_s (f := (31, [(2, _), (1, _), (0, _)], _, _)) xt_g266 rfl rfl rfl rfl rfl ?_
      exact l31 (by omega) H.length 0 ar1 (by omega) w1 xq_r xd_F4_r xh_nil
    · refine xe_s (f := (28, _, xi 0 :: _, _)) xt_g266 rfl rfl rfl rfl rfl ?_
      refine xe_iret xt_g266 rfl rfl (xi_bool (by first | omega | exact xb_or _)).1 ?_
      exact ⟨_, _, _, rfl, rfl, w1, xq_mm q1 (by decide) (by decide), fr _ xd_F4_r, fun _ => rfl, fun h => absurd h (by omega)⟩
  refine xe_s (f := (1, _, _, _)) xt_g266 rfl rfl rfl rfl rfl ?_
  refine xe_chV xt_g266 rfl (q := 4) rfl xk_13_244 rfl (by omega) xt_g267 (by decide) ⟨Nat.le_of_ble_eq_true rfl, Nat.le_of_ble_eq_true rfl, Nat.le_of_ble_eq_true rfl⟩ (xU_removeDots fm hmn hw hPl h11 hP) (fun s1 ar1 hp1 => ?_)
  exact main s1 ar1 hp1.1 hp1.2.1 hp1.2.2.1 hp1.2.2.2
theorem xV_resolve (hmn : xo_in m n) (hw : xo_wf s ar) {b : Int} {base : Option pa_A} (hb : (b = -1 ∧ base = none) ∨ ((0 ≤ b ∧ b < 98) ∧ ∃ a, base = some a ∧ pa_at ar b (pa_text a) ∧ pa_ok a)) (h2 : 0 ≤ s 2 ∧ s 2 ≤ 160) :
    xV fm 257 m n h0 s ar [.ref m, xi b] (xd_PR s ar (pa_res (xd_at s ar) (s 2) base)) := by
  show xe fm 257 (0, [(0, .ref m), (1, xi b)], [], (xo m s ar h0, n, 0, 0)) _
  have hbr : xr b := by
    rcases hb with h | h
    · omega
    · omega
  have fail : pa_pre (xd_at s ar) (s 2) base = none → ∀ (s1 : Nat → Int) (ar1 : Nat → Nat → Int), xo_wf s1 ar1 → xq [3, 10, 11, 12, 13] [6, 7, 8, 9] s ar s1 ar1 → xd_PR s ar (pa_res (xd_at s ar) (s 2) base) 0 s1 ar1 := by
    intro hp s1 ar1 w1 q1
    have e : pa_res (xd_at s ar) (s 2) base = none := by
      unfold pa_res
      rw [hp]
    exact ⟨w1, xq_mm q1 (by decide) (by decide), xd_F4_e xd_F4_r (q1.2 4 (by decide)) (q1.2 5 (by decide)), fun _ => rfl, fun a h => by rw [e] at h; cases h⟩
  have post : ∀ (a : pa_A) (s1 s2 : Nat → Int) (ar1 ar2 : Nat → Nat → Int) (z : Int), pa_pre (xd_at s ar) (s 2) base = some a → xq [3, 10, 11, 12, 13] [6, 7, 8, 9] s ar s1 ar1 → xd_PX s1 ar1 (pa_hd a ++ pa_dots a.2.2.2.1 ++ a.2.2.2.2) z s2 ar2 → (z = 0 ∨ z = 1) ∧ xd_PR s ar (pa_res (xd_at s ar) (s 2) base) z s2 ar2 := by
    intro a s1 s2 ar1 ar2 z hp q1 ⟨w2, q2, f2, hn, hs⟩
    have e : pa_res (xd_at s ar) (s 2) base = if (pa_text (pa_cl a)).length ≤ 60 then some (pa_cl a) else none := by
      unfold pa_res
      rw [hp]
    have et : pa_hd a ++ pa_dots a.2.2.2.1 ++ a.2.2.2.2 = pa_text (pa_cl a) := rfl
    rw [et] at hn hs
    refine ⟨?_, w2, xq_t (xq_mm q1 (by decide) (by decide)) (xq_mm q2 (by decide) (by decide)), xd_F4_t (xd_F4_e xd_F4_r (q1.2 4 (by decide)) (q1.2 5 (by decide))) f2, fun h => ?_, fun a' h => ?_⟩
    · by_cases hl : (pa_text (pa_cl a)).length ≤ 60
      · exact Or.inr (hs hl).1
      · exact Or.inl (hn (by omega))
    · rw [e] at h
      split at h
      · cases h
      · exact hn (by omega)
    · rw [e] at h
      split at h
      · rename_i hl
        cases h
        exact hs hl
      · cases h
  have hs2 := xb_or (xd_ss (xd_at s ar))
  have hk : xd_sk (xd_at s ar) = 4 ∨ xd_sk (xd_at s ar) = 5 := by unfold xd_sk; split <;> simp
  have hkE : xd_hsc (xd_at s ar) = true → xd_sk (xd_at s ar) + 3 ≤ s 2 := by
    intro h
    unfold xd_hsc at h
    simp only [Bool.and_eq_true, decide_eq_true_eq] at h
    apply Decidable.byContradiction
    intro hn
    have h4 := h.2.2.2
    rw [xd_at_0 (by omega)] at h4
    exact absurd h4 (by decide)
  have et : ∀ z : Int, xd_at (xo_u (xo_u (xo_u s 10 0) 11 0) 12 (-1)) ar = xd_at s ar := fun _ => rfl
  have w1 : xo_wf (xo_u (xo_u (xo_u s 10 0) 11 0) 12 (-1)) ar := xo_wf_u (xo_wf_u (xo_wf_u hw (by omega)) (by omega)) (by omega)
  have q1 : xq [3, 10, 11, 12, 13] [6, 7, 8, 9] s ar (xo_u (xo_u (xo_u s 10 0) 11 0) 12 (-1)) ar := xq_u (xq_u (xq_u xq_r (by decide)) (by decide)) (by decide)
  have hsc := xv_hasScheme fm hmn (h0 := h0) (s := xo_u (xo_u (xo_u s 10 0) 11 0) 12 (-1)) (ar := ar) w1 h2
  rw [et 0] at hsc
  generalize hS1 : xo_u (xo_u (xo_u (xo_u (xo_u s 10 0) 11 0) 12 (-1)) 13 (xb (xd_ss (xd_at s ar)))) 3 (xd_sk (xd_at s ar) + 3) = S1 at hsc
  have wS : xo_wf S1 ar := by
    rw [← hS1]
    exact xo_wf_u (xo_wf_u w1 (xb_r _)) (by omega)
  have qS : xq [3, 10, 11, 12, 13] [6, 7, 8, 9] s ar S1 ar := by
    rw [← hS1]
    exact xq_u (xq_u q1 (by decide)) (by decide)
  have i2 : S1 2 = s 2 := qS.1 2 (by decide)
  have i3 : S1 3 = xd_sk (xd_at s ar) + 3 := by rw [← hS1]; rfl
  have i10 : S1 10 = 0 := by rw [← hS1]; rfl
  have i11 : S1 11 = 0 := by rw [← hS1]; rfl
  have i12 : S1 12 = -1 := by rw [← hS1]; rfl
  have i13 : S1 13 = xb (xd_ss (xd_at s ar)) := by rw [← hS1]; rfl
  have eS : xd_at S1 ar = xd_at s ar := xq_at qS (by decide) (by decide)
  clear hS1
  refine xe_s (f := (1, _, _, _)) xt_g257 rfl rfl rfl rfl rfl ?_
  refine xe_s (f := (2, _, xi 0 :: _, _)) xt_g257 rfl rfl rfl rfl rfl ?_
  refine xe_mps xt_g257 rfl (q := 5) rfl (xf_13_185 fm) (by decide) rfl (by omega) (by omega) xi_int (Or.inl rfl) ?_
  refine xe_s (f := (6, _, _, _)) xt_g257 rfl rfl rfl rfl rfl ?_
  refine xe_s (f := (7, _, xi 0 :: _, _)) xt_g257 rfl rfl rfl rfl rfl ?_
  refine xe_mps xt_g257 rfl (q := 10) rfl (xf_13_201 fm) (by decide) rfl (by omega) (by omega) xi_int (Or.inl rfl) ?_
  refine xe_s (f := (11, _, _, _)) xt_g257 rfl rfl rfl rfl rfl ?_
  refine xe_s (f := (12, _, xi (-1) :: _, _)) xt_g257 rfl rfl rfl rfl rfl ?_
  refine xe_mps xt_g257 rfl (q := 15) rfl (xf_13_204 fm) (by decide) rfl (by omega) (by omega) xi_int (Or.inl rfl) ?_
  refine xe_s (f := (16, _, _, _)) xt_g257 rfl rfl rfl rfl rfl ?_
  refine xe_cvI xt_g257 rfl (q := 19) rfl xk_13_226 rfl (by omega) xt_g258 (by decide) ⟨Nat.le_of_ble_eq_true rfl, Nat.le_of_ble_eq_true rfl, Nat.le_of_ble_eq_true rfl⟩ (hsc) ?_
  refine xe_if_eq xt_g257 rfl (t := 42) rfl (q := 22) rfl (by first | omega | exact hw.1 _ | exact hw.2 _ _ | exact xb_r _) (fun h19 => ?_) (fun h19 => ?_)
  · try simp only [xb_0, xb_1, ne_eq, Decidable.not_not, decide_eq_true_eq, decide_eq_false_iff_not] at h19
    refine xe_s (f := (43, _, _, _)) xt_g257 rfl rfl rfl rfl rfl ?_
    refine xe_s (f := (44, _, xi 0 :: _, _)) xt_g257 rfl rfl rfl rfl rfl ?_
    refine xe_mps xt_g257 rfl (q := 47) rfl (xf_13_152 fm) (by decide) rfl (by omega) (by omega) xi_int (Or.inl rfl) ?_
    have h19' : xd_hsc (xd_at s ar) ≠ true := by simp [h19]
    have W2 : xo_wf (xo_u S1 3 0) ar := xo_wf_u wS (by omega)
    have Q2 : xq [3, 10, 11, 12, 13] [6, 7, 8, 9] s ar (xo_u S1 3 0) ar := xq_u qS (by decide)
    rcases hb with ⟨hb1, hb2⟩ | ⟨hb1, a0, hb2, hb3, hb4⟩
    · have ep : pa_pre (xd_at s ar) (s 2) base = none := by
        unfold pa_pre
        rw [if_neg h19', hb2]
      subst hb1
      refine xe_s (f := (48, _, _, _)) xt_g257 rfl rfl rfl rfl rfl ?_
      refine xe_s (f := (49, _, xi (-1) :: _, _)) xt_g257 rfl rfl rfl rfl rfl ?_
      refine xe_ic_eq xt_g257 rfl (t := 71) rfl (q := 52) rfl (by first | omega | exact hw.1 _ | exact hw.2 _ _ | exact xb_r _) (by first | omega | exact hw.1 _ | exact hw.2 _ _ | exact xb_r _) (fun h49 => ?_) (fun h49 => ?_)
      · refine xe_s (f := (72, _, xi 0 :: _, _)) xt_g257 rfl rfl rfl rfl rfl ?_
        refine xe_iret xt_g257 rfl rfl (xi_bool (by first | omega | exact xb_or _)).1 ?_
        exact ⟨_, _, _, rfl, rfl, fail ep _ _ W2 Q2⟩
      · exact absurd h49 (by omega)
    · have ep : pa_pre (xd_at s ar) (s 2) base = pa_ref (xd_at s ar) (s 2) a0 := by
        unfold pa_pre
        rw [if_neg h19', hb2]
      have hrf := xV_refer fm hmn (h0 := h0) W2 hb1 hb3 hb4 (by show 0 ≤ S1 2 ∧ S1 2 ≤ 160; omega) xo_uS i11 i12 i10
      rw [show xd_at (xo_u S1 3 0) ar = xd_at s ar from xq_at Q2 (by decide) (by decide), show xo_u S1 3 0 2 = s 2 from i2, ← ep] at hrf
      refine xe_s (f := (48, _, _, _)) xt_g257 rfl rfl rfl rfl rfl ?_
      refine xe_s (f := (49, _, xi (-1) :: _, _)) xt_g257 rfl rfl rfl rfl rfl ?_
      refine xe_ic_eq xt_g257 rfl (t := 71) rfl (q := 52) rfl (by first | omega | exact hw.1 _ | exact hw.2 _ _ | exact xb_r _) (by first | omega | exact hw.1 _ | exact hw.2 _ _ | exact xb_r _) (fun h49 => ?_) (fun h49 => ?_)
      · exact absurd h49 (by omega)
      · refine xe_s (f := (53, _, _, _)) xt_g257 rfl rfl rfl rfl rfl ?_
        refine xe_s (f := (54, _, _, _)) xt_g257 rfl rfl rfl rfl rfl ?_
        refine xe_chI xt_g257 rfl (q := 57) rfl xk_13_235 rfl (by omega) xt_g268 (by decide) ⟨Nat.le_of_ble_eq_true rfl, Nat.le_of_ble_eq_true rfl, Nat.le_of_ble_eq_true rfl⟩ (hrf) (fun z2 s2 ar2 hp2 => ?_)
        obtain ⟨w2, q2', gn, gs⟩ := hp2
        have q2 := xq_t Q2 q2'
        have hz2 : z2 = 0 ∨ z2 = 1 := by
          cases hpp : pa_pre (xd_at s ar) (s 2) base with
          | none => exact Or.inl (gn hpp)
          | some x => exact Or.inr (gs x hpp).1
        refine xe_if_eq xt_g257 rfl (t := 71) rfl (q := 60) rfl (by first | omega | exact hw.1 _ | exact hw.2 _ _ | exact xb_r _) (fun h57 => ?_) (fun h57 => ?_)
        · try simp only [xb_0, xb_1, ne_eq, Decidable.not_not, decide_eq_true_eq, decide_eq_false_iff_not] at h57
          refine xe_s (f := (72, _, xi 0 :: _, _)) xt_g257 rfl rfl rfl rfl rfl ?_
          refine xe_iret xt_g257 rfl rfl (xi_bool (by first | omega | exact xb_or _)).1 ?_
          have hpn : pa_pre (xd_at s ar) (s 2) base = none := by
            cases hpp : pa_pre (xd_at s ar) (s 2) base with
            | none => rfl
            | some x => have := (gs x hpp).1; omega
          exact ⟨_, _, _, rfl, rfl, fail hpn s2 ar2 w2 q2⟩
        · try simp only [xb_0, xb_1, ne_eq, Decidable.not_not, decide_eq_true_eq, decide_eq_false_iff_not] at h57
          obtain ⟨a, hpa⟩ : ∃ a, pa_pre (xd_at s ar) (s 2) base = some a := by
            cases hpp : pa_pre (xd_at s ar) (s 2) base with
            | none => exact absurd (gn hpp) h57
            | some x => exact ⟨x, rfl⟩
          obtain ⟨_, k10, kH, k11, kP, kq, kl1, kl2⟩ := gs a hpa
          have hhl : (pa_hd a).length ≤ 200 := by
            have l1 : (pa_scm a.1).length ≤ 8 := by cases a.1 <;> decide
            have l2 := pa_pt_len (sec := a.1) (v := a.2.2.1)
            unfold pa_hd
            rw [List.length_append, List.length_append]
            omega
          refine xe_s (f := (61, _, _, _)) xt_g257 rfl rfl rfl rfl rfl ?_
          refine xe_chI xt_g257 rfl (q := 64) rfl xk_13_232 rfl (by omega) xt_g266 (by decide) ⟨Nat.le_of_ble_eq_true rfl, Nat.le_of_ble_eq_true rfl, Nat.le_of_ble_eq_true rfl⟩ (xV_finish fm hmn w2 k10 kH hhl k11 kP kl2 kq) (fun z3 s3 ar3 hp3 => ?_)
          obtain ⟨hz3, hR⟩ := post a s2 s3 ar2 ar3 z3 hpa q2 hp3
          refine xe_if_eq xt_g257 rfl (t := 71) rfl (q := 67) rfl (by first | omega | exact hw.1 _ | exact hw.2 _ _ | exact xb_r _) (fun h64 => ?_) (fun h64 => ?_)
          · try simp only [xb_0, xb_1, ne_eq, Decidable.not_not, decide_eq_true_eq, decide_eq_false_iff_not] at h64
            refine xe_s (f := (72, _, xi 0 :: _, _)) xt_g257 rfl rfl rfl rfl rfl ?_
            refine xe_iret xt_g257 rfl rfl (xi_bool (by first | omega | exact xb_or _)).1 ?_
            have e3 : z3 = 0 ∨ z3 = 1 := hz3
            first
              | (rw [show z3 = 0 by omega] at hR; exact ⟨_, _, _, rfl, rfl, hR⟩)
              | (rw [show z3 = 1 by omega] at hR; exact ⟨_, _, _, rfl, rfl, hR⟩)
          · try simp only [xb_0, xb_1, ne_eq, Decidable.not_not, decide_eq_true_eq, decide_eq_false_iff_not] at h64
            refine xe_s (f := (68, _, xi 1 :: _, _)) xt_g257 rfl rfl rfl rfl rfl ?_
            refine xe_s (f := (72, _, _, _)) xt_g257 rfl rfl rfl rfl rfl ?_
            refine xe_iret xt_g257 rfl rfl (xi_bool (by first | omega | exact xb_or _)).1 ?_
            have e3 : z3 = 0 ∨ z3 = 1 := hz3
            first
              | (rw [show z3 = 0 by omega] at hR; exact ⟨_, _, _, rfl, rfl, hR⟩)
              | (rw [show z3 = 1 by omega] at hR; exact ⟨_, _, _, rfl, rfl, hR⟩)
  · try simp only [xb_0, xb_1, ne_eq, Decidable.not_not, decide_eq_true_eq, decide_eq_false_iff_not] at h19
    have hkE' := hkE (by simpa using h19)
    refine xe_s (f := (23, _, _, _)) xt_g257 rfl rfl rfl rfl rfl ?_
    refine xe_chI xt_g257 rfl (q := 26) rfl xk_13_229 rfl (by omega) xt_g259 (by decide) ⟨Nat.le_of_ble_eq_true rfl, Nat.le_of_ble_eq_true rfl, Nat.le_of_ble_eq_true rfl⟩ (xV_readFromHost fm hmn wS (sec := xd_ss (xd_at s ar)) (by omega) (by omega) i10 i11 i12 i13) (fun z2 s2 ar2 hp2 => ?_)
    have h19' : xd_hsc (xd_at s ar) = true := by simpa using h19
    rw [eS, i2, i3] at hp2
    have ep : pa_pre (xd_at s ar) (s 2) base = (pa_from (xd_at s ar) (s 2) (xd_ss (xd_at s ar)) (xd_sk (xd_at s ar) + 3)).map (fun r => (xd_ss (xd_at s ar), r)) := by
      unfold pa_pre
      rw [if_pos h19']
    have hG := xd_PF_G qS hp2
    rw [← ep] at hG
    obtain ⟨w2, q2, gn, gs⟩ := hG
    have hz2 : z2 = 0 ∨ z2 = 1 := by
      cases hpp : pa_pre (xd_at s ar) (s 2) base with
      | none => exact Or.inl (gn hpp)
      | some x => exact Or.inr (gs x hpp).1
    refine xe_if_eq xt_g257 rfl (t := 40) rfl (q := 29) rfl (by first | omega | exact hw.1 _ | exact hw.2 _ _ | exact xb_r _) (fun h26 => ?_) (fun h26 => ?_)
    · try simp only [xb_0, xb_1, ne_eq, Decidable.not_not, decide_eq_true_eq, decide_eq_false_iff_not] at h26
      refine xe_s (f := (41, _, xi 0 :: _, _)) xt_g257 rfl rfl rfl rfl rfl ?_
      refine xe_iret xt_g257 rfl rfl (xi_bool (by first | omega | exact xb_or _)).1 ?_
      have hpn : pa_pre (xd_at s ar) (s 2) base = none := by
        cases hpp : pa_pre (xd_at s ar) (s 2) base with
        | none => rfl
        | some x => have := (gs x hpp).1; omega
      exact ⟨_, _, _, rfl, rfl, fail hpn s2 ar2 w2 q2⟩
    · try simp only [xb_0, xb_1, ne_eq, Decidable.not_not, decide_eq_true_eq, decide_eq_false_iff_not] at h26
      obtain ⟨a, hpa⟩ : ∃ a, pa_pre (xd_at s ar) (s 2) base = some a := by
        cases hpp : pa_pre (xd_at s ar) (s 2) base with
        | none => exact absurd (gn hpp) h26
        | some x => exact ⟨x, rfl⟩
      obtain ⟨_, k10, kH, k11, kP, kq, kl1, kl2⟩ := gs a hpa
      have hhl : (pa_hd a).length ≤ 200 := by
        have l1 : (pa_scm a.1).length ≤ 8 := by cases a.1 <;> decide
        have l2 := pa_pt_len (sec := a.1) (v := a.2.2.1)
        unfold pa_hd
        rw [List.length_append, List.length_append]
        omega
      refine xe_s (f := (30, _, _, _)) xt_g257 rfl rfl rfl rfl rfl ?_
      refine xe_chI xt_g257 rfl (q := 33) rfl xk_13_232 rfl (by omega) xt_g266 (by decide) ⟨Nat.le_of_ble_eq_true rfl, Nat.le_of_ble_eq_true rfl, Nat.le_of_ble_eq_true rfl⟩ (xV_finish fm hmn w2 k10 kH hhl k11 kP kl2 kq) (fun z3 s3 ar3 hp3 => ?_)
      obtain ⟨hz3, hR⟩ := post a s2 s3 ar2 ar3 z3 hpa q2 hp3
      refine xe_if_eq xt_g257 rfl (t := 40) rfl (q := 36) rfl (by first | omega | exact hw.1 _ | exact hw.2 _ _ | exact xb_r _) (fun h33 => ?_) (fun h33 => ?_)
      · try simp only [xb_0, xb_1, ne_eq, Decidable.not_not, decide_eq_true_eq, decide_eq_false_iff_not] at h33
        refine xe_s (f := (41, _, xi 0 :: _, _)) xt_g257 rfl rfl rfl rfl rfl ?_
        refine xe_iret xt_g257 rfl rfl (xi_bool (by first | omega | exact xb_or _)).1 ?_
        have e3 : z3 = 0 ∨ z3 = 1 := hz3
        first
          | (rw [show z3 = 0 by omega] at hR; exact ⟨_, _, _, rfl, rfl, hR⟩)
          | (rw [show z3 = 1 by omega] at hR; exact ⟨_, _, _, rfl, rfl, hR⟩)
      · try simp only [xb_0, xb_1, ne_eq, Decidable.not_not, decide_eq_true_eq, decide_eq_false_iff_not] at h33
        refine xe_s (f := (37, _, xi 1 :: _, _)) xt_g257 rfl rfl rfl rfl rfl ?_
        refine xe_s (f := (41, _, _, _)) xt_g257 rfl rfl rfl rfl rfl ?_
        refine xe_iret xt_g257 rfl rfl (xi_bool (by first | omega | exact xb_or _)).1 ?_
        have e3 : z3 = 0 ∨ z3 = 1 := hz3
        first
          | (rw [show z3 = 0 by omega] at hR; exact ⟨_, _, _, rfl, rfl, hR⟩)
          | (rw [show z3 = 1 by omega] at hR; exact ⟨_, _, _, rfl, rfl, hR⟩)
end XFI
