/-! the reference: dropMarked, close -/
def dm_st (fr : Nat → Option mf_T) (g : Nat → Bool) (k : Nat) : Bool := match fr k with
  | none => false
  | some x => decide (0 ≤ x.2.1) && g x.2.1.toNat
def dm_ps (fr : Nat → Option mf_T) : Nat → Nat → (Nat → Bool) → Nat → Bool
  | 0, _, g => g
  | N + 1, k, g => dm_ps fr N (k + 1) (if dm_st fr g k = true then mu_up g k true else g)
def dm_it (fr : Nat → Option mf_T) : Nat → (Nat → Bool) → Nat → Bool
  | 0, g => g
  | N + 1, g => dm_it fr N (dm_ps fr 16 0 g)
def dm_cl (fr : Nat → Option mf_T) (g : Nat → Bool) : Nat → Bool := dm_it fr 16 g
def mf_fl (c : Nat → Bool) (f : Nat) (o : Option mf_T) : Option mf_T := if c f = true then none else o
def mq_fl (c : Nat → Bool) (o : Option mq_T) : Option mq_T := match o with
  | none => none
  | some q => if c q.1.toNat = true then none else some q
def mu_drop (u : mu_T) (c : Nat → Bool) : mu_T := mu_srq (mu_sfr u (fun f => mf_fl c f (mu_fr u f))) (fun r => mq_fl c (mu_rq u r))
theorem dm_ps_dp {fr : Nat → Option mf_T} {dp : Nat → Nat} {d : Nat} (h : mi_tr fr dp) : ∀ (N k : Nat) (g : Nat → Bool), k + N ≤ 16 → (∀ j, g j = true → d < dp j) → ∀ j, dm_ps fr N k g j = true → d < dp j
  | 0, k, g, hk, hg, j, hj => hg j hj
  | N + 1, k, g, hk, hg, j, hj => by
    unfold dm_ps at hj
    refine dm_ps_dp h N (k + 1) _ (by omega) (fun i hi => ?_) j hj
    split at hi
    · rename_i hs
      by_cases e : i = k
      · subst e
        unfold dm_st at hs
        split at hs
        · cases hs
        · rename_i x hx
          rw [Bool.and_eq_true, decide_eq_true_eq] at hs
          have h1 := hg _ hs.2
          have h2 := ((h i (by omega) x hx).2.2.2 hs.1).2.1
          omega
      · rw [mu_upN e] at hi
        exact hg i hi
    · exact hg i hi
theorem dm_it_dp {fr : Nat → Option mf_T} {dp : Nat → Nat} {d : Nat} (h : mi_tr fr dp) : ∀ (N : Nat) (g : Nat → Bool), (∀ j, g j = true → d < dp j) → ∀ j, dm_it fr N g j = true → d < dp j
  | 0, g, hg, j, hj => hg j hj
  | N + 1, g, hg, j, hj => by
    unfold dm_it at hj
    exact dm_it_dp h N _ (fun i hi => dm_ps_dp h 16 0 g (by omega) hg i hi) j hj
def rf_fg (ar : Nat → Nat → Int) (fr : Nat → Option mf_T) (g : Nat → Bool) : Prop := ∀ f, f < 16 → rf_f1 ar f (fr f) ∧ ar 45 f = xb (g f)
/-- the frames g are marked -/
def rfn (s : Nat → Int) (ar : Nat → Nat → Int) (u : mu_T) (g : Nat → Bool) : Prop := xo_wf s ar ∧ xo_B ar ∧ s 62 = 0 ∧ rf_line s ar (mu_ln u) ∧ sf_at s ar (mu_sf u) ∧ rf_qt s (mu_qt u) (mu_tm u) ∧ rf_ck s ar (mu_ck u) ∧ rf_tab s ar (mu_tb u) (mu_fo u) ∧ rf_fg ar (mu_fr u) g ∧ rf_rq ar (mu_rq u) ∧ rf_or s ar (mu_or u) ∧ rf_st ar (mu_st u) ∧ rf_ms s ar (mu_ms u) ∧ rf_sh s ar (mu_sh u)
section XDM
variable (fm : Value) {m n : Nat} {h0 : xm_H} {s : Nat → Int} {ar : Nat → Nat → Int} {u : mu_T}
theorem rfn_of (h : rf s ar u) : rfn s ar u (fun _ => false) := by
  obtain ⟨w, B, z6, r0, r1, r2, r3, r4, r5, r6, r7, r8, r9, ra⟩ := h
  exact ⟨w, B, z6, r0, r1, r2, r3, r4, fun f hf => ⟨(r5 f hf).1, (r5 f hf).2⟩, r6, r7, r8, r9, ra⟩
theorem rfn_m {g : Nat → Bool} (h : rfn s ar u g) {k : Nat} (hk : k < 16) : rfn s (xo_w ar 45 k 1) u (mu_up g k true) := by
  obtain ⟨w, B, z6, r0, r1, r2, r3, r4, r5, r6, r7, r8, r9, ra⟩ := h
  have q : xq [] [45] s ar s (xo_w ar 45 k 1) := xq_w xq_r (by decide)
  have F : xs_F [] ar (xo_w ar 45 k 1) := xs_q q (by decide) (by decide)
  refine ⟨xo_wf_w w (by omega), xo_B_w B (fun _ => Or.inr rfl), z6, rf_k0 r0 q rfl, rf_k1 r1 q rfl, rf_k2 r2 q rfl, rf_k3 r3 q rfl, rf_k4 r4 q rfl, fun f hf => ⟨?_, ?_⟩, rf_k6 r6 q F rfl, rf_k7 r7 q F rfl, rf_k8 r8 q rfl, rf_k9 r9 q rfl, rf_ka ra q rfl⟩
  · exact rf_f1_k (r5 f hf).1 hf (by rw [xo_wK (by decide)]) (by rw [xo_wK (by decide)]) (by rw [xo_wK (by decide)]) F (by simp)
  · by_cases e : f = k
    · subst e
      rw [xo_wS, mu_upS]
      rfl
    · rw [xo_wI e, mu_upN e]
      exact (r5 f hf).2
theorem xU_dropMarked (hmn : xo_in m n) {g : Nat → Bool} (h : rfn s ar u g) : xU fm 294 m n h0 s ar [.ref m] (fun s' ar' => s' = s ∧ xq [] [42, 45, 46] s ar s' ar' ∧ rf s' ar' (mu_drop u (dm_cl (mu_fr u) g))) := by
  show xe fm 294 (0, [(0, .ref m)], [], (xo m s ar h0, n, 0, 0)) _
  generalize hc : dm_cl (mu_fr u) g = c
  -- the frames
  have l113 : ∀ (N k : Nat) (ar1 : Nat → Nat → Int), k + N = 16 → xo_wf s ar1 → xo_B ar1 → xq [] [42, 45, 46] s ar s ar1 → (∀ f, f < 16 → rf_f1 ar1 f (if f < k then mf_fl c f (mu_fr u f) else mu_fr u f) ∧ ar1 45 f = (if f < k then 0 else xb (c f))) → rf_rq ar1 (fun r => mq_fl c (mu_rq u r)) → xe fm 294 (113, [(1, xi (k : Int)), (0, .ref m)], [], (xo m s ar1 h0, n, 0, 0)) (xQU m n h0 (fun s' ar' => s' = s ∧ xq [] [42, 45, 46] s ar s' ar' ∧ rf s' ar' (mu_drop u c))) := by
    intro N
    induction N with
    | zero =>
      intro k ar1 hk w1 B1 q1 hf hr
      have hkk : k = 16 := by omega
      subst hkk
      refine xe_s (f := (114, _, _, _)) xt_g294 rfl rfl rfl rfl rfl ?_
      refine xe_bipush xt_g294 rfl (q := 116) rfl (by decide) (by decide) ?_
      refine xe_ic_ge xt_g294 rfl (t := 148) rfl (q := 119) rfl (by first | omega | exact hw.1 _ | exact hw.2 _ _ | exact xb_r _) (by first | omega | exact hw.1 _ | exact hw.2 _ _ | exact xb_r _) (fun h116 => ?_) (fun h116 => ?_)
      · refine xe_ret xt_g294 rfl rfl ?_
        obtain ⟨w, B, z6, r0, r1, r2, r3, r4, r5, r6, r7, r8, r9, ra⟩ := h
        have F : xs_F [] ar ar1 := xs_q q1 (by decide) (by decide)
        refine ⟨_, _, rfl, rfl, rfl, q1, w1, B1, z6, rf_k0 r0 q1 rfl, rf_k1 r1 q1 rfl, rf_k2 r2 q1 rfl, rf_k3 r3 q1 rfl, rf_k4 r4 q1 rfl, fun f hf2 => ?_, hr, rf_k7 r7 q1 F rfl, rf_k8 r8 q1 rfl, rf_k9 r9 q1 rfl, rf_ka ra q1 rfl⟩
        have h2 := hf f hf2
        rw [if_pos hf2, if_pos hf2] at h2
        exact h2
      · exact absurd h116 (by omega)
    | succ N ih =>
      intro k ar1 hk w1 B1 q1 hf hr
      have hk16 : k < 16 := by omega
      have hfk := hf k hk16
      rw [if_neg (by omega), if_neg (by omega)] at hfk
      have b45 : ar1 45 (k : Int).toNat = xb (c k) := hfk.2
      have stp : ∀ ar2 : Nat → Nat → Int, (∀ F j, j ≠ k → ar2 F j = ar1 F j) → (∀ F, F ≠ 42 → F ≠ 45 → ar2 F = ar1 F) → rf_f1 ar2 k (mf_fl c k (mu_fr u k)) → ar2 45 k = 0 → (∀ f, f < 16 → rf_f1 ar2 f (if f < k + 1 then mf_fl c f (mu_fr u f) else mu_fr u f) ∧ ar2 45 f = (if f < k + 1 then 0 else xb (c f))) := by
        intro ar2 e1 e2 e3 e4 f hf2
        have F : xs_F [] ar1 ar2 := fun k2 _ _ => ⟨by rw [e2 5 (by decide) (by decide)], fun i _ => by rw [e2 4 (by decide) (by decide)]⟩
        by_cases e : f = k
        · subst e
          rw [if_pos (by omega), if_pos (by omega)]
          exact ⟨e3, e4⟩
        · have h2 := hf f hf2
          by_cases hlt : f < k
          · rw [if_pos hlt, if_pos hlt] at h2
            rw [if_pos (by omega), if_pos (by omega)]
            exact ⟨rf_f1_k h2.1 hf2 (e1 42 f e) (e1 43 f e) (e1 44 f e) F (by simp), (e1 45 f e).trans h2.2⟩
          · rw [if_neg hlt, if_neg hlt] at h2
            rw [if_neg (by omega), if_neg (by omega)]
            exact ⟨rf_f1_k h2.1 hf2 (e1 42 f e) (e1 43 f e) (e1 44 f e) F (by simp), (e1 45 f e).trans h2.2⟩
      have rqk : ∀ ar2 : Nat → Nat → Int, (∀ F, F ≠ 42 → F ≠ 45 → ar2 F = ar1 F) → rf_rq ar2 (fun r => mq_fl c (mu_rq u r)) := by
        intro ar2 e2 r hr2
        have F : xs_F [] ar1 ar2 := fun k2 _ _ => ⟨by rw [e2 5 (by decide) (by decide)], fun i _ => by rw [e2 4 (by decide) (by decide)]⟩
        exact rf_q1_k (hr r hr2) hr2 (fun k2 h1 h2 => by rw [e2 k2 (by omega) (by omega)]) F ⟨by simp, by simp, by simp⟩
      refine xe_s (f := (114, _, _, _)) xt_g294 rfl rfl rfl rfl rfl ?_
      refine xe_bipush xt_g294 rfl (q := 116) rfl (by decide) (by decide) ?_
      refine xe_ic_ge xt_g294 rfl (t := 148) rfl (q := 119) rfl (by first | omega | exact hw.1 _ | exact hw.2 _ _ | exact xb_r _) (by first | omega | exact hw.1 _ | exact hw.2 _ _ | exact xb_r _) (fun h116 => ?_) (fun h116 => ?_)
      · exact absurd h116 (by omega)
      · refine xe_s (f := (120, _, _, _)) xt_g294 rfl rfl rfl rfl rfl ?_
        refine xe_mga xt_g294 rfl (q := 123) rfl (xf_13_93 fm) (by decide) rfl (by omega) ?_
        try simp only [xo_u, xo_w, Nat.reduceEqDiff, reduceIte, false_and, true_and]
        refine xe_s (f := (124, _, _, _)) xt_g294 rfl rfl rfl rfl rfl ?_
        refine xe_mal (ok := xm_isB) (ty := .boolean) xt_g294 rfl (q := 125) rfl (fun _ _ => ⟨rfl, rfl, rfl, rfl⟩) rfl rfl rfl (by omega) (by omega) (by omega) (by omega) ?_
        try simp only [xo_u, xo_w, Nat.reduceEqDiff, reduceIte, false_and, true_and]
        rw [b45]
        refine xe_if_eq xt_g294 rfl (t := 135) rfl (q := 128) rfl (by first | omega | exact hw.1 _ | exact hw.2 _ _ | exact xb_r _) (fun h125 => ?_) (fun h125 => ?_)
        · try simp only [xb_0, xb_1, ne_eq, Decidable.not_not, decide_eq_true_eq, decide_eq_false_iff_not] at h125
          refine xe_s (f := (136, _, _, _)) xt_g294 rfl rfl rfl rfl rfl ?_
          refine xe_mga xt_g294 rfl (q := 139) rfl (xf_13_93 fm) (by decide) rfl (by omega) ?_
          try simp only [xo_u, xo_w, Nat.reduceEqDiff, reduceIte, false_and, true_and]
          refine xe_s (f := (140, _, _, _)) xt_g294 rfl rfl rfl rfl rfl ?_
          refine xe_s (f := (141, _, xi 0 :: _, _)) xt_g294 rfl rfl rfl rfl rfl ?_
          refine xe_mas (ok := xm_isB) (ty := .boolean) xt_g294 rfl (q := 142) rfl (fun _ _ => ⟨rfl, rfl, rfl, rfl⟩) rfl rfl rfl (by omega) (by omega) (by omega) (by omega) (by omega) (xi_nb (by first | omega | exact xb_or _)) ?_
          refine xe_iinc xt_g294 rfl (q := 145) rfl rfl (by decide) (L1 := [(1, _), (0, _)]) rfl ?_
          refine xe_s (f := (113, _, _, _)) xt_g294 rfl rfl rfl rfl rfl ?_
          have e2 : ∀ F, F ≠ 42 → F ≠ 45 → xo_w ar1 45 k 0 F = ar1 F := fun F _ h2 => xo_wK h2
          rw [show ((k : Int) + 1) = ((k + 1 : Nat) : Int) by omega]
          refine ih (k + 1) (xo_w ar1 45 k 0) (by omega) (xo_wf_w w1 (by omega)) (xo_B_w B1 (fun _ => Or.inl rfl)) (xq_w q1 (by decide)) (stp _ (fun F j hj => xo_wI hj) e2 ?_ xo_wS) (rqk _ e2)
          unfold mf_fl
          rw [if_neg (by rw [h125]; decide)]
          exact rf_f1_k hfk.1 hk16 (by rw [xo_wK (by decide)]) (by rw [xo_wK (by decide)]) (by rw [xo_wK (by decide)]) (K := []) (fun k2 _ _ => ⟨by rw [e2 5 (by decide) (by decide)], fun i _ => by rw [e2 4 (by decide) (by decide)]⟩) (by simp)
        · try simp only [xb_0, xb_1, ne_eq, Decidable.not_not, decide_eq_true_eq, decide_eq_false_iff_not] at h125
          refine xe_s (f := (129, _, _, _)) xt_g294 rfl rfl rfl rfl rfl ?_
          refine xe_mga xt_g294 rfl (q := 132) rfl (xf_13_84 fm) (by decide) rfl (by omega) ?_
          try simp only [xo_u, xo_w, Nat.reduceEqDiff, reduceIte, false_and, true_and]
          refine xe_s (f := (133, _, _, _)) xt_g294 rfl rfl rfl rfl rfl ?_
          refine xe_s (f := (134, _, xi (-1) :: _, _)) xt_g294 rfl rfl rfl rfl rfl ?_
          refine xe_mas (ok := xm_isN) (ty := .int) xt_g294 rfl (q := 135) rfl (fun _ _ => ⟨rfl, rfl, rfl, rfl⟩) rfl rfl rfl (by omega) (by omega) (by omega) (by omega) (by omega) rfl ?_
          refine xe_s (f := (136, _, _, _)) xt_g294 rfl rfl rfl rfl rfl ?_
          refine xe_mga xt_g294 rfl (q := 139) rfl (xf_13_93 fm) (by decide) rfl (by omega) ?_
          try simp only [xo_u, xo_w, Nat.reduceEqDiff, reduceIte, false_and, true_and]
          refine xe_s (f := (140, _, _, _)) xt_g294 rfl rfl rfl rfl rfl ?_
          refine xe_s (f := (141, _, xi 0 :: _, _)) xt_g294 rfl rfl rfl rfl rfl ?_
          refine xe_mas (ok := xm_isB) (ty := .boolean) xt_g294 rfl (q := 142) rfl (fun _ _ => ⟨rfl, rfl, rfl, rfl⟩) rfl rfl rfl (by omega) (by omega) (by omega) (by omega) (by omega) (xi_nb (by first | omega | exact xb_or _)) ?_
          refine xe_iinc xt_g294 rfl (q := 145) rfl rfl (by decide) (L1 := [(1, _), (0, _)]) rfl ?_
          refine xe_s (f := (113, _, _, _)) xt_g294 rfl rfl rfl rfl rfl ?_
          have e2 : ∀ F, F ≠ 42 → F ≠ 45 → xo_w (xo_w ar1 42 k (-1)) 45 k 0 F = ar1 F := fun F h1 h2 => by rw [xo_wK h2, xo_wK h1]
          rw [show ((k : Int) + 1) = ((k + 1 : Nat) : Int) by omega]
          refine ih (k + 1) (xo_w (xo_w ar1 42 k (-1)) 45 k 0) (by omega) (xo_wf_w (xo_wf_w w1 (by omega)) (by omega)) (xo_B_w (xo_B_w B1 (fun h => absurd h (by decide))) (fun _ => Or.inl rfl)) (xq_w (xq_w q1 (by decide)) (by decide)) (stp _ (fun F j hj => by rw [xo_wI hj, xo_wI hj]) e2 ?_ xo_wS) (rqk _ e2)
          unfold mf_fl
          rw [if_pos (show c k = true by simpa using h125)]
          show xo_w (xo_w ar1 42 k (-1)) 45 k 0 42 k < 0
          rw [xo_wK (by decide), xo_wS]
          decide
  -- the requests
  have l69 : ∀ (N k : Nat) (ar1 : Nat → Nat → Int), k + N = 24 → xo_wf s ar1 → xo_B ar1 → xq [] [42, 45, 46] s ar s ar1 → rf_fg ar1 (mu_fr u) c → (∀ r, r < 24 → rf_q1 ar1 r (if r < k then mq_fl c (mu_rq u r) else mu_rq u r)) → xe fm 294 (69, [(1, xi (k : Int)), (0, .ref m)], [], (xo m s ar1 h0, n, 0, 0)) (xQU m n h0 (fun s' ar' => s' = s ∧ xq [] [42, 45, 46] s ar s' ar' ∧ rf s' ar' (mu_drop u c))) := by
    intro N
    induction N with
    | zero =>
      intro k ar1 hk w1 B1 q1 hf hr
      have hkk : k = 24 := by omega
      subst hkk
      have h := l113 16 0 ar1 (by omega) w1 B1 q1 (fun f hf2 => by rw [if_neg (by omega), if_neg (by omega)]; exact hf f hf2) (fun r hr2 => by have := hr r hr2; rw [if_pos hr2] at this; exact this)
      refine xe_s (f := (70, _, _, _)) xt_g294 rfl rfl rfl rfl rfl ?_
      refine xe_bipush xt_g294 rfl (q := 72) rfl (by decide) (by decide) ?_
      refine xe_ic_ge xt_g294 rfl (t := 111) rfl (q := 75) rfl (by first | omega | exact hw.1 _ | exact hw.2 _ _ | exact xb_r _) (by first | omega | exact hw.1 _ | exact hw.2 _ _ | exact xb_r _) (fun h72 => ?_) (fun h72 => ?_)
      · refine xe_s (f := (112, _, xi 0 :: _, _)) xt_g294 rfl rfl rfl rfl rfl ?_
        refine xe_s (f := (113, [(1, _), (0, _)], _, _)) xt_g294 rfl rfl rfl rfl rfl ?_
        exact h
      · exact absurd h72 (by omega)
    | succ N ih =>
      intro k ar1 hk w1 B1 q1 hf hr
      have hk24 : k < 24 := by omega
      have hrk := hr k hk24
      rw [if_neg (by omega)] at hrk
      have rk := w1.2 46 (k : Int).toNat
      have keep : mq_fl c (mu_rq u k) = mu_rq u k → xe fm 294 (105, [(1, xi (k : Int)), (0, .ref m)], [], (xo m s ar1 h0, n, 0, 0)) (xQU m n h0 (fun s' ar' => s' = s ∧ xq [] [42, 45, 46] s ar s' ar' ∧ rf s' ar' (mu_drop u c))) := by
        intro he
        have h := ih (k + 1) ar1 (by omega) w1 B1 q1 hf (fun r hr2 => by
          by_cases e : r = k
          · subst e
            rw [if_pos (by omega), he]
            exact hrk
          · have h2 := hr r hr2
            by_cases hlt : r < k
            · rw [if_pos hlt] at h2
              rw [if_pos (by omega)]
              exact h2
            · rw [if_neg hlt] at h2
              rw [if_neg (by omega)]
              exact h2)
        refine xe_iinc xt_g294 rfl (q := 108) rfl rfl (by decide) (L1 := [(1, _), (0, _)]) rfl ?_
        refine xe_s (f := (69, _, _, _)) xt_g294 rfl rfl rfl rfl rfl ?_
        rw [show ((k : Int) + 1) = ((k + 1 : Nat) : Int) by omega]
        exact h
      cases hq : mu_rq u k with
      | none =>
        rw [hq] at hrk
        have a46 : ar1 46 (k : Int).toNat < 0 := hrk
        refine xe_s (f := (70, _, _, _)) xt_g294 rfl rfl rfl rfl rfl ?_
        refine xe_bipush xt_g294 rfl (q := 72) rfl (by decide) (by decide) ?_
        refine xe_ic_ge xt_g294 rfl (t := 111) rfl (q := 75) rfl (by first | omega | exact hw.1 _ | exact hw.2 _ _ | exact xb_r _) (by first | omega | exact hw.1 _ | exact hw.2 _ _ | exact xb_r _) (fun h72 => ?_) (fun h72 => ?_)
        · exact absurd h72 (by omega)
        · refine xe_s (f := (76, _, _, _)) xt_g294 rfl rfl rfl rfl rfl ?_
          refine xe_mga xt_g294 rfl (q := 79) rfl (xf_13_96 fm) (by decide) rfl (by omega) ?_
          try simp only [xo_u, xo_w, Nat.reduceEqDiff, reduceIte, false_and, true_and]
          refine xe_s (f := (80, _, _, _)) xt_g294 rfl rfl rfl rfl rfl ?_
          refine xe_mal (ok := xm_isN) (ty := .int) xt_g294 rfl (q := 81) rfl (fun _ _ => ⟨rfl, rfl, rfl, rfl⟩) rfl rfl rfl (by omega) (by omega) (by omega) (by omega) ?_
          try simp only [xo_u, xo_w, Nat.reduceEqDiff, reduceIte, false_and, true_and]
          refine xe_if_lt xt_g294 rfl (t := 105) rfl (q := 84) rfl (by first | omega | exact hw.1 _ | exact hw.2 _ _ | exact xb_r _) (fun h81 => ?_) (fun h81 => ?_)
          · try simp only [xb_0, xb_1, ne_eq, Decidable.not_not, decide_eq_true_eq, decide_eq_false_iff_not] at h81
            exact keep (by rw [hq]; rfl)
          · exact absurd h81 (by omega)
      | some x =>
        rw [hq] at hrk
        have a46 : ar1 46 (k : Int).toNat = x.1 := hrk.1
        have b1 := hrk.2.1
        have b2 := hrk.2.2.1
        have b45 : ar1 45 x.1.toNat = xb (c x.1.toNat) := (hf x.1.toNat (by omega)).2
        refine xe_s (f := (70, _, _, _)) xt_g294 rfl rfl rfl rfl rfl ?_
        refine xe_bipush xt_g294 rfl (q := 72) rfl (by decide) (by decide) ?_
        refine xe_ic_ge xt_g294 rfl (t := 111) rfl (q := 75) rfl (by first | omega | exact hw.1 _ | exact hw.2 _ _ | exact xb_r _) (by first | omega | exact hw.1 _ | exact hw.2 _ _ | exact xb_r _) (fun h72 => ?_) (fun h72 => ?_)
        · exact absurd h72 (by omega)
        · refine xe_s (f := (76, _, _, _)) xt_g294 rfl rfl rfl rfl rfl ?_
          refine xe_mga xt_g294 rfl (q := 79) rfl (xf_13_96 fm) (by decide) rfl (by omega) ?_
          try simp only [xo_u, xo_w, Nat.reduceEqDiff, reduceIte, false_and, true_and]
          refine xe_s (f := (80, _, _, _)) xt_g294 rfl rfl rfl rfl rfl ?_
          refine xe_mal (ok := xm_isN) (ty := .int) xt_g294 rfl (q := 81) rfl (fun _ _ => ⟨rfl, rfl, rfl, rfl⟩) rfl rfl rfl (by omega) (by omega) (by omega) (by omega) ?_
          try simp only [xo_u, xo_w, Nat.reduceEqDiff, reduceIte, false_and, true_and]
          rw [a46]
          refine xe_if_lt xt_g294 rfl (t := 105) rfl (q := 84) rfl (by first | omega | exact hw.1 _ | exact hw.2 _ _ | exact xb_r _) (fun h81 => ?_) (fun h81 => ?_)
          · exact absurd h81 (by omega)
          · try simp only [xb_0, xb_1, ne_eq, Decidable.not_not, decide_eq_true_eq, decide_eq_false_iff_not] at h81
            refine xe_s (f := (85, _, _, _)) xt_g294 rfl rfl rfl rfl rfl ?_
            refine xe_mga xt_g294 rfl (q := 88) rfl (xf_13_93 fm) (by decide) rfl (by omega) ?_
            try simp only [xo_u, xo_w, Nat.reduceEqDiff, reduceIte, false_and, true_and]
            refine xe_s (f := (89, _, _, _)) xt_g294 rfl rfl rfl rfl rfl ?_
            refine xe_mga xt_g294 rfl (q := 92) rfl (xf_13_96 fm) (by decide) rfl (by omega) ?_
            try simp only [xo_u, xo_w, Nat.reduceEqDiff, reduceIte, false_and, true_and]
            refine xe_s (f := (93, _, _, _)) xt_g294 rfl rfl rfl rfl rfl ?_
            refine xe_mal (ok := xm_isN) (ty := .int) xt_g294 rfl (q := 94) rfl (fun _ _ => ⟨rfl, rfl, rfl, rfl⟩) rfl rfl rfl (by omega) (by omega) (by omega) (by omega) ?_
            try simp only [xo_u, xo_w, Nat.reduceEqDiff, reduceIte, false_and, true_and]
            rw [a46]
            refine xe_mal (ok := xm_isB) (ty := .boolean) xt_g294 rfl (q := 95) rfl (fun _ _ => ⟨rfl, rfl, rfl, rfl⟩) rfl rfl rfl (by omega) (by omega) (by omega) (by omega) ?_
            try simp only [xo_u, xo_w, Nat.reduceEqDiff, reduceIte, false_and, true_and]
            rw [b45]
            refine xe_if_eq xt_g294 rfl (t := 105) rfl (q := 98) rfl (by first | omega | exact hw.1 _ | exact hw.2 _ _ | exact xb_r _) (fun h95 => ?_) (fun h95 => ?_)
            · try simp only [xb_0, xb_1, ne_eq, Decidable.not_not, decide_eq_true_eq, decide_eq_false_iff_not] at h95
              exact keep (by rw [hq]; show (if c x.1.toNat = true then none else some x) = some x; rw [if_neg (by rw [h95]; decide)])
            · try simp only [xb_0, xb_1, ne_eq, Decidable.not_not, decide_eq_true_eq, decide_eq_false_iff_not] at h95
              refine xe_s (f := (99, _, _, _)) xt_g294 rfl rfl rfl rfl rfl ?_
              refine xe_mga xt_g294 rfl (q := 102) rfl (xf_13_96 fm) (by decide) rfl (by omega) ?_
              try simp only [xo_u, xo_w, Nat.reduceEqDiff, reduceIte, false_and, true_and]
              refine xe_s (f := (103, _, _, _)) xt_g294 rfl rfl rfl rfl rfl ?_
              refine xe_s (f := (104, _, xi (-1) :: _, _)) xt_g294 rfl rfl rfl rfl rfl ?_
              refine xe_mas (ok := xm_isN) (ty := .int) xt_g294 rfl (q := 105) rfl (fun _ _ => ⟨rfl, rfl, rfl, rfl⟩) rfl rfl rfl (by omega) (by omega) (by omega) (by omega) (by omega) rfl ?_
              refine xe_iinc xt_g294 rfl (q := 108) rfl rfl (by decide) (L1 := [(1, _), (0, _)]) rfl ?_
              refine xe_s (f := (69, _, _, _)) xt_g294 rfl rfl rfl rfl rfl ?_
              have q2 : xq [] [46] s ar1 s (xo_w ar1 46 k (-1)) := xq_w xq_r (by decide)
              have F : xs_F [] ar1 (xo_w ar1 46 k (-1)) := xs_q q2 (by decide) (by decide)
              rw [show ((k : Int) + 1) = ((k + 1 : Nat) : Int) by omega]
              refine ih (k + 1) (xo_w ar1 46 k (-1)) (by omega) (xo_wf_w w1 (by omega)) (xo_B_w B1 (fun h => absurd h (by decide))) (xq_w q1 (by decide)) (fun f hf2 => ⟨rf_f1_k (hf f hf2).1 hf2 (by rw [xo_wK (by decide)]) (by rw [xo_wK (by decide)]) (by rw [xo_wK (by decide)]) F (by simp), by rw [xo_wK (by decide)]; exact (hf f hf2).2⟩) (fun r hr2 => ?_)
              by_cases e : r = k
              · subst e
                rw [if_pos (by omega), hq]
                show rf_q1 _ r (if c x.1.toNat = true then none else some x)
                rw [if_pos (by simpa using h95)]
                show xo_w ar1 46 r (-1) 46 r < 0
                rw [xo_wS]
                decide
              · have h2 := hr r hr2
                by_cases hlt : r < k
                · rw [if_pos hlt] at h2
                  rw [if_pos (by omega)]
                  exact rf_q1_k h2 hr2 (fun k2 _ _ => xo_wI e) F ⟨by simp, by simp, by simp⟩
                · rw [if_neg hlt] at h2
                  rw [if_neg (by omega)]
                  exact rf_q1_k h2 hr2 (fun k2 _ _ => xo_wI e) F ⟨by simp, by simp, by simp⟩
  have inner : ∀ (T : Nat) (Q : xe_Q), T < 16 → ∀ (N k : Nat) (g1 : Nat → Bool) (ar1 : Nat → Nat → Int), k + N = 16 → rfn s ar1 u g1 → xq [] [42, 45, 46] s ar s ar1 → (∀ ar2, rfn s ar2 u (dm_ps (mu_fr u) N k g1) → xq [] [42, 45, 46] s ar s ar2 → xe fm 294 (2, [(1, xi ((T + 1 : Nat) : Int)), (0, .ref m)], [], (xo m s ar2 h0, n, 0, 0)) Q) → xe fm 294 (10, [(2, xi (k : Int)), (1, xi (T : Int)), (0, .ref m)], [], (xo m s ar1 h0, n, 0, 0)) Q := by
    intro T Q hT N
    induction N with
    | zero =>
      intro k g1 ar1 hk h1 q1 kk
      have h2 := kk ar1 h1 q1
      refine xe_s (f := (11, _, _, _)) xt_g294 rfl rfl rfl rfl rfl ?_
      refine xe_bipush xt_g294 rfl (q := 13) rfl (by decide) (by decide) ?_
      refine xe_ic_ge xt_g294 rfl (t := 61) rfl (q := 16) rfl (by first | omega | exact hw.1 _ | exact hw.2 _ _ | exact xb_r _) (by first | omega | exact hw.1 _ | exact hw.2 _ _ | exact xb_r _) (fun h13 => ?_) (fun h13 => ?_)
      · refine xe_iinc xt_g294 rfl (q := 64) rfl rfl (by decide) (L1 := [(1, _), (2, _), (0, _)]) rfl ?_
        refine xe_s (f := (2, _, _, _)) xt_g294 rfl rfl rfl rfl rfl ?_
        rw [show ((T : Int) + 1) = ((T + 1 : Nat) : Int) by omega]
        exact xe_loc (by intro q hq; simp only [List.mem_cons, List.not_mem_nil, or_false] at hq; rcases hq with rfl | rfl <;> rfl) (h2)
      · exact absurd h13 (by omega)
    | succ N ih =>
      intro k g1 ar1 hk h1 q1 kk
      have hk16 : k < 16 := by omega
      have hfk := h1.2.2.2.2.2.2.2.2.1 k hk16
      have r42 := h1.1.2 42 (k : Int).toNat
      rw [dm_ps] at kk
      have no : dm_st (mu_fr u) g1 k = false → xe fm 294 (55, [(2, xi (k : Int)), (1, xi (T : Int)), (0, .ref m)], [], (xo m s ar1 h0, n, 0, 0)) Q := by
        intro hs
        rw [if_neg (by rw [hs]; decide)] at kk
        have h2 := ih (k + 1) g1 ar1 (by omega) h1 q1 kk
        refine xe_iinc xt_g294 rfl (q := 58) rfl rfl (by decide) (L1 := [(2, _), (1, _), (0, _)]) rfl ?_
        refine xe_s (f := (10, _, _, _)) xt_g294 rfl rfl rfl rfl rfl ?_
        rw [show ((k : Int) + 1) = ((k + 1 : Nat) : Int) by omega]
        exact h2
      cases hx : mu_fr u k with
      | none =>
        rw [hx] at hfk
        have a42 : ar1 42 (k : Int).toNat < 0 := hfk.1
        have hs : dm_st (mu_fr u) g1 k = false := by
          unfold dm_st
          rw [hx]
        refine xe_s (f := (11, _, _, _)) xt_g294 rfl rfl rfl rfl rfl ?_
        refine xe_bipush xt_g294 rfl (q := 13) rfl (by decide) (by decide) ?_
        refine xe_ic_ge xt_g294 rfl (t := 61) rfl (q := 16) rfl (by first | omega | exact hw.1 _ | exact hw.2 _ _ | exact xb_r _) (by first | omega | exact hw.1 _ | exact hw.2 _ _ | exact xb_r _) (fun h13 => ?_) (fun h13 => ?_)
        · exact absurd h13 (by omega)
        · refine xe_s (f := (17, _, _, _)) xt_g294 rfl rfl rfl rfl rfl ?_
          refine xe_mga xt_g294 rfl (q := 20) rfl (xf_13_84 fm) (by decide) rfl (by omega) ?_
          try simp only [xo_u, xo_w, Nat.reduceEqDiff, reduceIte, false_and, true_and]
          refine xe_s (f := (21, _, _, _)) xt_g294 rfl rfl rfl rfl rfl ?_
          refine xe_mal (ok := xm_isN) (ty := .int) xt_g294 rfl (q := 22) rfl (fun _ _ => ⟨rfl, rfl, rfl, rfl⟩) rfl rfl rfl (by omega) (by omega) (by omega) (by omega) ?_
          try simp only [xo_u, xo_w, Nat.reduceEqDiff, reduceIte, false_and, true_and]
          refine xe_if_lt xt_g294 rfl (t := 55) rfl (q := 25) rfl (by first | omega | exact hw.1 _ | exact hw.2 _ _ | exact xb_r _) (fun h22 => ?_) (fun h22 => ?_)
          · try simp only [xb_0, xb_1, ne_eq, Decidable.not_not, decide_eq_true_eq, decide_eq_false_iff_not] at h22
            exact no hs
          · exact absurd h22 (by omega)
      | some x =>
        rw [hx] at hfk
        obtain ⟨⟨a1, a2, a3, a4, a5, a6, a7, a8⟩, a9⟩ := hfk
        have b42 : ar1 42 (k : Int).toNat = x.1 := a1
        have b43 : ar1 43 (k : Int).toNat = x.2.1 := a4
        have hs : dm_st (mu_fr u) g1 k = (decide (0 ≤ x.2.1) && g1 x.2.1.toNat) := by
          unfold dm_st
          rw [hx]
        have b45 : 0 ≤ x.2.1 → ar1 45 x.2.1.toNat = xb (g1 x.2.1.toNat) := fun h => (h1.2.2.2.2.2.2.2.2.1 x.2.1.toNat (by omega)).2
        refine xe_s (f := (11, _, _, _)) xt_g294 rfl rfl rfl rfl rfl ?_
        refine xe_bipush xt_g294 rfl (q := 13) rfl (by decide) (by decide) ?_
        refine xe_ic_ge xt_g294 rfl (t := 61) rfl (q := 16) rfl (by first | omega | exact hw.1 _ | exact hw.2 _ _ | exact xb_r _) (by first | omega | exact hw.1 _ | exact hw.2 _ _ | exact xb_r _) (fun h13 => ?_) (fun h13 => ?_)
        · exact absurd h13 (by omega)
        · refine xe_s (f := (17, _, _, _)) xt_g294 rfl rfl rfl rfl rfl ?_
          refine xe_mga xt_g294 rfl (q := 20) rfl (xf_13_84 fm) (by decide) rfl (by omega) ?_
          try simp only [xo_u, xo_w, Nat.reduceEqDiff, reduceIte, false_and, true_and]
          refine xe_s (f := (21, _, _, _)) xt_g294 rfl rfl rfl rfl rfl ?_
          refine xe_mal (ok := xm_isN) (ty := .int) xt_g294 rfl (q := 22) rfl (fun _ _ => ⟨rfl, rfl, rfl, rfl⟩) rfl rfl rfl (by omega) (by omega) (by omega) (by omega) ?_
          try simp only [xo_u, xo_w, Nat.reduceEqDiff, reduceIte, false_and, true_and]
          rw [b42]
          refine xe_if_lt xt_g294 rfl (t := 55) rfl (q := 25) rfl (by first | omega | exact hw.1 _ | exact hw.2 _ _ | exact xb_r _) (fun h22 => ?_) (fun h22 => ?_)
          · exact absurd h22 (by omega)
          · try simp only [xb_0, xb_1, ne_eq, Decidable.not_not, decide_eq_true_eq, decide_eq_false_iff_not] at h22
            refine xe_s (f := (26, _, _, _)) xt_g294 rfl rfl rfl rfl rfl ?_
            refine xe_mga xt_g294 rfl (q := 29) rfl (xf_13_87 fm) (by decide) rfl (by omega) ?_
            try simp only [xo_u, xo_w, Nat.reduceEqDiff, reduceIte, false_and, true_and]
            refine xe_s (f := (30, _, _, _)) xt_g294 rfl rfl rfl rfl rfl ?_
            refine xe_mal (ok := xm_isN) (ty := .int) xt_g294 rfl (q := 31) rfl (fun _ _ => ⟨rfl, rfl, rfl, rfl⟩) rfl rfl rfl (by omega) (by omega) (by omega) (by omega) ?_
            try simp only [xo_u, xo_w, Nat.reduceEqDiff, reduceIte, false_and, true_and]
            rw [b43]
            refine xe_if_lt xt_g294 rfl (t := 55) rfl (q := 34) rfl (by first | omega | exact hw.1 _ | exact hw.2 _ _ | exact xb_r _) (fun h31 => ?_) (fun h31 => ?_)
            · try simp only [xb_0, xb_1, ne_eq, Decidable.not_not, decide_eq_true_eq, decide_eq_false_iff_not] at h31
              exact no (by rw [hs, decide_eq_false (by omega)]; rfl)
            · try simp only [xb_0, xb_1, ne_eq, Decidable.not_not, decide_eq_true_eq, decide_eq_false_iff_not] at h31
              refine xe_s (f := (35, _, _, _)) xt_g294 rfl rfl rfl rfl rfl ?_
              refine xe_mga xt_g294 rfl (q := 38) rfl (xf_13_93 fm) (by decide) rfl (by omega) ?_
              try simp only [xo_u, xo_w, Nat.reduceEqDiff, reduceIte, false_and, true_and]
              refine xe_s (f := (39, _, _, _)) xt_g294 rfl rfl rfl rfl rfl ?_
              refine xe_mga xt_g294 rfl (q := 42) rfl (xf_13_87 fm) (by decide) rfl (by omega) ?_
              try simp only [xo_u, xo_w, Nat.reduceEqDiff, reduceIte, false_and, true_and]
              refine xe_s (f := (43, _, _, _)) xt_g294 rfl rfl rfl rfl rfl ?_
              refine xe_mal (ok := xm_isN) (ty := .int) xt_g294 rfl (q := 44) rfl (fun _ _ => ⟨rfl, rfl, rfl, rfl⟩) rfl rfl rfl (by omega) (by omega) (by omega) (by omega) ?_
              try simp only [xo_u, xo_w, Nat.reduceEqDiff, reduceIte, false_and, true_and]
              rw [b43]
              refine xe_mal (ok := xm_isB) (ty := .boolean) xt_g294 rfl (q := 45) rfl (fun _ _ => ⟨rfl, rfl, rfl, rfl⟩) rfl rfl rfl (by omega) (by omega) (by omega) (by omega) ?_
              try simp only [xo_u, xo_w, Nat.reduceEqDiff, reduceIte, false_and, true_and]
              rw [b45 (by omega)]
              refine xe_if_eq xt_g294 rfl (t := 55) rfl (q := 48) rfl (by first | omega | exact hw.1 _ | exact hw.2 _ _ | exact xb_r _) (fun h45 => ?_) (fun h45 => ?_)
              · try simp only [xb_0, xb_1, ne_eq, Decidable.not_not, decide_eq_true_eq, decide_eq_false_iff_not] at h45
                exact no (by rw [hs, h45, Bool.and_false])
              · try simp only [xb_0, xb_1, ne_eq, Decidable.not_not, decide_eq_true_eq, decide_eq_false_iff_not] at h45
                refine xe_s (f := (49, _, _, _)) xt_g294 rfl rfl rfl rfl rfl ?_
                refine xe_mga xt_g294 rfl (q := 52) rfl (xf_13_93 fm) (by decide) rfl (by omega) ?_
                try simp only [xo_u, xo_w, Nat.reduceEqDiff, reduceIte, false_and, true_and]
                refine xe_s (f := (53, _, _, _)) xt_g294 rfl rfl rfl rfl rfl ?_
                refine xe_s (f := (54, _, xi 1 :: _, _)) xt_g294 rfl rfl rfl rfl rfl ?_
                refine xe_mas (ok := xm_isB) (ty := .boolean) xt_g294 rfl (q := 55) rfl (fun _ _ => ⟨rfl, rfl, rfl, rfl⟩) rfl rfl rfl (by omega) (by omega) (by omega) (by omega) (by omega) (xi_nb (by first | omega | exact xb_or _)) ?_
                refine xe_iinc xt_g294 rfl (q := 58) rfl rfl (by decide) (L1 := [(2, _), (1, _), (0, _)]) rfl ?_
                refine xe_s (f := (10, _, _, _)) xt_g294 rfl rfl rfl rfl rfl ?_
                rw [hs, decide_eq_true (show 0 ≤ x.2.1 by omega), show g1 x.2.1.toNat = true by simpa using h45, Bool.and_true, if_pos rfl] at kk
                rw [show ((k : Int) + 1) = ((k + 1 : Nat) : Int) by omega]
                exact ih (k + 1) (mu_up g1 k true) (xo_w ar1 45 k 1) (by omega) (rfn_m h1 hk16) (xq_w q1 (by decide)) kk
  have outer : ∀ (N T : Nat) (g1 : Nat → Bool) (ar1 : Nat → Nat → Int), T + N = 16 → rfn s ar1 u g1 → xq [] [42, 45, 46] s ar s ar1 → dm_it (mu_fr u) N g1 = c → xe fm 294 (2, [(1, xi (T : Int)), (0, .ref m)], [], (xo m s ar1 h0, n, 0, 0)) (xQU m n h0 (fun s' ar' => s' = s ∧ xq [] [42, 45, 46] s ar s' ar' ∧ rf s' ar' (mu_drop u c))) := by
    intro N
    induction N with
    | zero =>
      intro T g1 ar1 hT h1 q1 he
      rw [dm_it] at he
      subst he
      have h2 := l69 24 0 ar1 (by omega) h1.1 h1.2.1 q1 h1.2.2.2.2.2.2.2.2.1 (fun r hr => by rw [if_neg (by omega)]; exact h1.2.2.2.2.2.2.2.2.2.1 r hr)
      refine xe_s (f := (3, _, _, _)) xt_g294 rfl rfl rfl rfl rfl ?_
      refine xe_bipush xt_g294 rfl (q := 5) rfl (by decide) (by decide) ?_
      refine xe_ic_ge xt_g294 rfl (t := 67) rfl (q := 8) rfl (by first | omega | exact hw.1 _ | exact hw.2 _ _ | exact xb_r _) (by first | omega | exact hw.1 _ | exact hw.2 _ _ | exact xb_r _) (fun h5 => ?_) (fun h5 => ?_)
      · refine xe_s (f := (68, _, xi 0 :: _, _)) xt_g294 rfl rfl rfl rfl rfl ?_
        refine xe_s (f := (69, [(1, _), (0, _)], _, _)) xt_g294 rfl rfl rfl rfl rfl ?_
        exact h2
      · exact absurd h5 (by omega)
    | succ N ih =>
      intro T g1 ar1 hT h1 q1 he
      rw [dm_it] at he
      have h2 := inner T _ (by omega) 16 0 g1 ar1 (by omega) h1 q1 (fun ar2 h3 q3 => ih (T + 1) _ ar2 (by omega) h3 q3 he)
      refine xe_s (f := (3, _, _, _)) xt_g294 rfl rfl rfl rfl rfl ?_
      refine xe_bipush xt_g294 rfl (q := 5) rfl (by decide) (by decide) ?_
      refine xe_ic_ge xt_g294 rfl (t := 67) rfl (q := 8) rfl (by first | omega | exact hw.1 _ | exact hw.2 _ _ | exact xb_r _) (by first | omega | exact hw.1 _ | exact hw.2 _ _ | exact xb_r _) (fun h5 => ?_) (fun h5 => ?_)
      · exact absurd h5 (by omega)
      · refine xe_s (f := (9, _, xi 0 :: _, _)) xt_g294 rfl rfl rfl rfl rfl ?_
        refine xe_s (f := (10, [(2, _), (1, _), (0, _)], _, _)) xt_g294 rfl rfl rfl rfl rfl ?_
        exact h2
  refine xe_s (f := (1, _, xi 0 :: _, _)) xt_g294 rfl rfl rfl rfl rfl ?_
  refine xe_s (f := (2, [(1, _), (0, _)], _, _)) xt_g294 rfl rfl rfl rfl rfl ?_
  exact outer 16 0 g ar (by omega) h xq_r hc
def mu_close (u : mu_T) (t : Int) : mu_T := if mu_ht u t = true then (mu_sfo (mu_stb (mu_drop u (dm_cl (mu_fr u) (mu_up (fun _ => false) (mu_tp u t).toNat true))) (mu_up (mu_tb u) t.toNat false)) (if mu_fo u = t then -1 else mu_fo u)) else u
theorem xU_close (hmn : xo_in m n) (h : rf s ar u) {t : Int} (ht : xr t) (hi : mu_ht u t = true → 0 ≤ mu_tp u t) : xU fm 290 m n h0 s ar [.ref m, xi t] (fun s' ar' => s' 0 = xb (!mu_ht u t) ∧ rf s' ar' (mu_close u t)) := by
  show xe fm 290 (0, [(0, .ref m), (1, xi t)], [], (xo m s ar h0, n, 0, 0)) _
  have e1 := rf_ht h (t := t)
  have lk := xv_lacks fm hmn (h0 := h0) (s := s) (ar := ar) (b := mu_ht u t) (t := false)
  have hl := rf_lk h (b := mu_ht u t)
  unfold mu_close
  refine xe_s (f := (1, _, _, _)) xt_g290 rfl rfl rfl rfl rfl ?_
  refine xe_s (f := (2, _, _, _)) xt_g290 rfl rfl rfl rfl rfl ?_
  refine xe_s (f := (3, _, _, _)) xt_g290 rfl rfl rfl rfl rfl ?_
  refine xe_cvI xt_g290 rfl (q := 6) rfl xk_13_415 rfl (by omega) xt_g291 (by decide) ⟨Nat.le_of_ble_eq_true rfl, Nat.le_of_ble_eq_true rfl, Nat.le_of_ble_eq_true rfl⟩ (xv_hasTab fm hmn h.1 ht) ?_
  rw [e1]
  refine xe_s (f := (7, _, xi 0 :: _, _)) xt_g290 rfl rfl rfl rfl rfl ?_
  refine xe_cvI xt_g290 rfl (q := 10) rfl xk_13_418 rfl (by omega) xt_g292 (by decide) ⟨Nat.le_of_ble_eq_true rfl, Nat.le_of_ble_eq_true rfl, Nat.le_of_ble_eq_true rfl⟩ (lk) ?_
  refine xe_if_eq xt_g290 rfl (t := 14) rfl (q := 13) rfl (by first | omega | exact hw.1 _ | exact hw.2 _ _ | exact xb_r _) (fun h10 => ?_) (fun h10 => ?_)
  · try simp only [xb_0, xb_1, ne_eq, Decidable.not_not, decide_eq_true_eq, decide_eq_false_iff_not] at h10
    have hb : mu_ht u t = true := by simpa using h10
    have htp0 := hi hb
    have htp := xd_first_r (p := fun f => mf_tp t (mu_fr u f.toNat)) 16 0
    have htp2 : 0 ≤ mu_tp u t ∧ mu_tp u t < 16 := by unfold mu_tp at htp0 ⊢; omega
    have ht2 : 0 ≤ t ∧ t < 4 := by
      unfold mu_ht at hb
      rw [Bool.and_eq_true, decide_eq_true_eq] at hb
      exact hb.1
    rw [hb] at hl ⊢
    have hl1 : rf (xo_u s 0 0) ar u := hl
    show xe fm 290 (14, _, _, (xo m (xo_u s 0 0) ar h0, n, 0, 0)) _
    have e2 : xd_top ar t = mu_tp u t := rf_tp hl1.2.2.2.2.2.2.2.2.1 ht2.1
    have h2 := rfn_m (rfn_of hl1) (k := (mu_tp u t).toNat) (by omega)
    have dm := xU_dropMarked fm hmn (h0 := h0) h2
    rw [if_pos rfl]
    refine xe_s (f := (15, _, _, _)) xt_g290 rfl rfl rfl rfl rfl ?_
    refine xe_mga xt_g290 rfl (q := 18) rfl (xf_13_93 fm) (by decide) rfl (by omega) ?_
    try simp only [xo_u, xo_w, Nat.reduceEqDiff, reduceIte, false_and, true_and]
    refine xe_s (f := (19, _, _, _)) xt_g290 rfl rfl rfl rfl rfl ?_
    refine xe_s (f := (20, _, _, _)) xt_g290 rfl rfl rfl rfl rfl ?_
    refine xe_cvI xt_g290 rfl (q := 23) rfl xk_13_422 rfl (by omega) xt_g293 (by decide) ⟨Nat.le_of_ble_eq_true rfl, Nat.le_of_ble_eq_true rfl, Nat.le_of_ble_eq_true rfl⟩ (xv_topOf fm hmn hl1.1 ht) ?_
    rw [e2]
    refine xe_s (f := (24, _, xi 1 :: _, _)) xt_g290 rfl rfl rfl rfl rfl ?_
    refine xe_mas (ok := xm_isB) (ty := .boolean) xt_g290 rfl (q := 25) rfl (fun _ _ => ⟨rfl, rfl, rfl, rfl⟩) rfl rfl rfl (by omega) (by omega) (by omega) (by omega) (by omega) (xi_nb (by first | omega | exact xb_or _)) ?_
    refine xe_s (f := (26, _, _, _)) xt_g290 rfl rfl rfl rfl rfl ?_
    refine xe_chV xt_g290 rfl (q := 29) rfl xk_13_425 rfl (by omega) xt_g294 (by decide) ⟨Nat.le_of_ble_eq_true rfl, Nat.le_of_ble_eq_true rfl, Nat.le_of_ble_eq_true rfl⟩ (dm) (fun s3 ar3 hp3 => ?_)
    obtain ⟨es, q3, h3⟩ := hp3
    subst es
    have e41 : s 41 = mu_fo u := h.2.2.2.2.2.2.2.1.2.1
    have f1 := h.2.2.2.2.2.2.2.1.2.2.1
    have f2 := h.2.2.2.2.2.2.2.1.2.2.2
    have h4 := rf_tb h3 (t := t.toNat) (b := false) (z := 0) (by omega) rfl
    refine xe_s (f := (30, _, _, _)) xt_g290 rfl rfl rfl rfl rfl ?_
    refine xe_mga xt_g290 rfl (q := 33) rfl (xf_13_77 fm) (by decide) rfl (by omega) ?_
    try simp only [xo_u, xo_w, Nat.reduceEqDiff, reduceIte, false_and, true_and]
    refine xe_s (f := (34, _, _, _)) xt_g290 rfl rfl rfl rfl rfl ?_
    refine xe_s (f := (35, _, xi 0 :: _, _)) xt_g290 rfl rfl rfl rfl rfl ?_
    refine xe_mas (ok := xm_isB) (ty := .boolean) xt_g290 rfl (q := 36) rfl (fun _ _ => ⟨rfl, rfl, rfl, rfl⟩) rfl rfl rfl (by omega) (by omega) (by omega) (by omega) (by omega) (xi_nb (by first | omega | exact xb_or _)) ?_
    refine xe_s (f := (37, _, _, _)) xt_g290 rfl rfl rfl rfl rfl ?_
    refine xe_s (f := (38, _, _, _)) xt_g290 rfl rfl rfl rfl rfl ?_
    refine xe_mgs xt_g290 rfl (q := 41) rfl (xf_13_80 fm) (by decide) rfl (by omega) ?_
    try simp only [xo_u, xo_w, Nat.reduceEqDiff, reduceIte, false_and, true_and]
    rw [e41]
    refine xe_s (f := (42, _, _, _)) xt_g290 rfl rfl rfl rfl rfl ?_
    refine xe_ic_ne xt_g290 rfl (t := 49) rfl (q := 45) rfl (by first | omega | exact hw.1 _ | exact hw.2 _ _ | exact xb_r _) (by first | omega | exact hw.1 _ | exact hw.2 _ _ | exact xb_r _) (fun h42 => ?_) (fun h42 => ?_)
    · refine xe_s (f := (50, _, _, _)) xt_g290 rfl rfl rfl rfl rfl ?_
      refine xe_mgs xt_g290 rfl (q := 53) rfl (xf_13_80 fm) (by decide) rfl (by omega) ?_
      try simp only [xo_u, xo_w, Nat.reduceEqDiff, reduceIte, false_and, true_and]
      rw [e41]
      refine xe_mps xt_g290 rfl (q := 56) rfl (xf_13_80 fm) (by decide) rfl (by omega) (by omega) xi_int (Or.inl rfl) ?_
      refine xe_ret xt_g290 rfl rfl ?_
      rw [if_neg h42]
      have h5 := rf_fo h4 (z := mu_fo u) (by omega)
      exact ⟨_, _, rfl, rfl, rfl, h5⟩
    · refine xe_s (f := (46, _, xi (-1) :: _, _)) xt_g290 rfl rfl rfl rfl rfl ?_
      refine xe_s (f := (53, _, _, _)) xt_g290 rfl rfl rfl rfl rfl ?_
      refine xe_mps xt_g290 rfl (q := 56) rfl (xf_13_80 fm) (by decide) rfl (by omega) (by omega) xi_int (Or.inl rfl) ?_
      refine xe_ret xt_g290 rfl rfl ?_
      rw [if_pos (Decidable.not_not.mp h42)]
      have h5 := rf_fo h4 (z := -1) (by omega)
      exact ⟨_, _, rfl, rfl, rfl, h5⟩
  · try simp only [xb_0, xb_1, ne_eq, Decidable.not_not, decide_eq_true_eq, decide_eq_false_iff_not] at h10
    have hb : mu_ht u t = false := by simpa using h10
    rw [hb] at hl ⊢
    refine xe_ret xt_g290 rfl rfl ?_
    exact ⟨_, _, rfl, rfl, rfl, hl⟩
end XDM
