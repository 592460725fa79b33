/-! the reference: open, enter, focus -/
section XOP
variable (fm : Value) {m n : Nat} {h0 : xm_H} {s : Nat → Int} {ar : Nat → Nat → Int} {u : mu_T}
theorem rf_s0 (h : rf s ar u) {z : Int} (hz : xr z) : rf (xo_u s 0 z) ar u := by
  obtain ⟨w, B, z6, r0, r1, r2, r3, r4, r5, r6, r7, r8, r9, ra⟩ := h
  have q : xq [0] [] s ar (xo_u s 0 z) ar := xq_u xq_r (by decide)
  exact ⟨xo_wf_u w hz, B, z6, rf_k0 r0 q rfl, rf_k1 r1 q rfl, rf_k2 r2 q rfl, rf_k3 r3 q rfl, rf_k4 r4 q rfl, r5, r6, rf_k7 r7 q (K := []) xs_r rfl, r8, rf_k9 r9 q rfl, rf_ka ra q rfl⟩
theorem rf_cl (h : rf s ar u) : rf (xo_u s 2 0) ar (mu_sln u []) := by
  obtain ⟨w, B, z6, r0, r1, r2, r3, r4, r5, r6, r7, r8, r9, ra⟩ := h
  have q : xq [2] [] s ar (xo_u s 2 0) ar := xq_u xq_r (by decide)
  exact ⟨xo_wf_u w (by omega), B, z6, rf_l0 rfl, rf_k1 r1 q rfl, rf_k2 r2 q rfl, rf_k3 r3 q rfl, rf_k4 r4 q rfl, r5, r6, rf_k7 r7 q (K := []) xs_r rfl, r8, rf_k9 r9 q rfl, rf_ka ra q rfl⟩
theorem rf_fo (h : rf s ar u) {z : Int} (hz : -1 ≤ z ∧ z < 4) : rf (xo_u s 41 z) ar (mu_sfo u z) := by
  obtain ⟨w, B, z6, r0, r1, r2, r3, r4, r5, r6, r7, r8, r9, ra⟩ := h
  have q : xq [41] [] s ar (xo_u s 41 z) ar := xq_u xq_r (by decide)
  exact ⟨xo_wf_u w (by omega), B, z6, rf_k0 r0 q rfl, rf_k1 r1 q rfl, rf_k2 r2 q rfl, rf_k3 r3 q rfl, ⟨r4.1, xo_uS, hz.1, hz.2⟩, r5, r6, rf_k7 r7 q (K := []) xs_r rfl, r8, rf_k9 r9 q rfl, rf_ka ra q rfl⟩
theorem rf_tb (h : rf s ar u) {t : Nat} {b : Bool} {z : Int} (ht : t < 4) (hz : z = xb b) : rf s (xo_w ar 40 t z) (mu_stb u (mu_up (mu_tb u) t b)) := by
  subst hz
  obtain ⟨w, B, z6, r0, r1, r2, r3, r4, r5, r6, r7, r8, r9, ra⟩ := h
  have q : xq [] [40] s ar s (xo_w ar 40 t (xb b)) := xq_w xq_r (by decide)
  have F : xs_F [] ar (xo_w ar 40 t (xb b)) := xs_q q (by decide) (by decide)
  refine ⟨xo_wf_w w (xb_r _), xo_B_w B (fun _ => xb_or b), z6, rf_k0 r0 q rfl, rf_k1 r1 q rfl, rf_k2 r2 q rfl, rf_k3 r3 q rfl, ⟨fun t' ht' => ?_, r4.2⟩, rf_k5 r5 q F rfl, rf_k6 r6 q F rfl, rf_k7 r7 q F rfl, rf_k8 r8 q rfl, rf_k9 r9 q rfl, rf_ka ra q rfl⟩
  show xo_w ar 40 t (xb b) 40 t' = xb (mu_up (mu_tb u) t b t')
  by_cases e : t' = t
  · subst e
    rw [xo_wS, mu_upS]
  · rw [xo_wI e, mu_upN e]
    exact r4.1 t' ht'
theorem rf_nf (h : rf s ar u) {f : Nat} {t p : Int} (hf : f < 16) (ht : 0 ≤ t ∧ t < 4) (hp : -1 ≤ p ∧ p < 16) : rf s (xo_w (xo_w (xo_w ar 42 f t) 43 f p) 44 f 0) (mu_sfr u (mu_up (mu_fr u) f (some (t, p, none)))) := by
  obtain ⟨w, B, z6, r0, r1, r2, r3, r4, r5, r6, r7, r8, r9, ra⟩ := h
  have q : xq [] [42, 43, 44] s ar s (xo_w (xo_w (xo_w ar 42 f t) 43 f p) 44 f 0) := xq_w (xq_w (xq_w xq_r (by decide)) (by decide)) (by decide)
  have F : xs_F [] ar (xo_w (xo_w (xo_w ar 42 f t) 43 f p) 44 f 0) := xs_q q (by decide) (by decide)
  refine ⟨xo_wf_w (xo_wf_w (xo_wf_w w (by omega)) (by omega)) (by omega), xo_B_w (xo_B_w (xo_B_w B (fun h => absurd h (by decide))) (fun h => absurd h (by decide))) (fun _ => Or.inl rfl), z6, rf_k0 r0 q rfl, rf_k1 r1 q rfl, rf_k2 r2 q rfl, rf_k3 r3 q rfl, rf_k4 r4 q rfl, ?_, rf_k6 r6 q F rfl, rf_k7 r7 q F rfl, rf_k8 r8 q rfl, rf_k9 r9 q rfl, rf_ka ra q rfl⟩
  intro f' hf'
  refine ⟨?_, by rw [q.2 45 (by decide)]; exact (r5 f' hf').2⟩
  show rf_f1 _ f' (mu_up (mu_fr u) f (some (t, p, none)) f')
  by_cases e : f' = f
  · subst e
    rw [mu_upS]
    refine ⟨?_, ht.1, ht.2, ?_, hp.1, hp.2, ?_, fun a ha => by cases ha⟩
    · rw [xo_wK (by decide), xo_wK (by decide), xo_wS]
    · rw [xo_wK (by decide), xo_wS]
    · rw [xo_wS]
      rfl
  · rw [mu_upN e]
    exact rf_f1_k (r5 f' hf').1 hf' (by rw [xo_wI e, xo_wI e, xo_wI e]) (by rw [xo_wI e, xo_wI e, xo_wI e]) (by rw [xo_wI e, xo_wI e, xo_wI e]) F (by simp)
def mu_open2 (u : mu_T) (t f : Int) (a : pa_A) : mu_T := (mu_go (mu_sfr (mu_sfo (mu_stb u (mu_up (mu_tb u) t.toNat true)) t) (mu_up (mu_fr u) f.toNat (some (t, -1, none)))) f a).2
def mu_open (u : mu_T) : Int × mu_T := match mu_res u none with
  | none => (-1, mu_sln u [])
  | some a => if mu_ft u < 0 ∨ mu_ff u < 0 ∨ mu_fq u < 0 then (-1, mu_sln u []) else (mu_ft u, mu_open2 (mu_sln u []) (mu_ft u) (mu_ff u) a)
theorem xV_open (hmn : xo_in m n) (h : rf s ar u) : xV fm 256 m n h0 s ar [.ref m] (fun z s' ar' => z = (mu_open u).1 ∧ s' 0 = 0 ∧ rf s' ar' (mu_open u).2) := by
  show xe fm 256 (0, [(0, .ref m)], [], (xo m s ar h0, n, 0, 0)) _
  generalize hR : mu_open u = R
  unfold mu_open at hR
  have rs := xV_res fm hmn (h0 := h0) (rf_s0 h (z := 0) (by omega)) (b := -1) (base := none) (Or.inl ⟨rfl, rfl⟩)
  have main : ∀ (s1 : Nat → Int) (ar1 : Nat → Nat → Int) (is : Bool) (t : Int), is = (mu_res u none).isSome → (t = 4 ∧ mu_ft u < 0 ∨ t = mu_ft u ∧ 0 ≤ t ∧ t < 4) → s1 0 = 0 → rf s1 ar1 (mu_sln u []) → (∀ a, mu_res u none = some a → pa_at ar1 ((40 : Nat) : Int) (pa_text a) ∧ pa_ok a) → xe fm 256 (38, [(2, xi t), (1, xi (xb is)), (0, .ref m)], [], (xo m s1 ar1 h0, n, 0, 0)) (xQI m n h0 (fun z s' ar' => z = R.1 ∧ s' 0 = 0 ∧ rf s' ar' R.2)) := by
    intro s1 ar1 is t his ht z0 h1 hout
    have e1 : xd_ff ar1 = mu_ff u := rf_ff h1.2.2.2.2.2.2.2.2.1
    have e2 : xd_fq ar1 = mu_fq u := rf_fq h1.2.2.2.2.2.2.2.2.2.1
    have hff := xd_first_r (p := fun f => (mu_fr u f.toNat).isNone) 16 0
    have hff2 : mu_ff u = -1 ∨ (0 ≤ mu_ff u ∧ mu_ff u < 16) := by unfold mu_ff; omega
    have hfq := xd_first_r (p := fun r => (mu_rq u r.toNat).isNone) 24 0
    have hfq2 : mu_fq u = -1 ∨ (0 ≤ mu_fq u ∧ mu_fq u < 24) := by unfold mu_fq; omega
    have fail : ∀ L, (is = false ∨ mu_ft u < 0 ∨ mu_ff u < 0 ∨ mu_fq u < 0) → xe fm 256 (63, L, [], (xo m s1 ar1 h0, n, 0, 0)) (xQI m n h0 (fun z s' ar' => z = R.1 ∧ s' 0 = 0 ∧ rf s' ar' R.2)) := by
      intro L hf
      have e : R = (-1, mu_sln u []) := by
        rw [← hR]
        cases hres : mu_res u none with
        | none => rfl
        | some a =>
          rw [hres] at his
          have his2 : is = true := his
          rw [his2] at hf
          dsimp only
          rw [if_pos (hf.resolve_left (by decide))]
      rw [e]
      refine xe_s (f := (64, _, xi (-1) :: _, _)) xt_g256 rfl rfl rfl rfl rfl ?_
      refine xe_iret xt_g256 rfl rfl xi_int.1 ?_
      exact ⟨_, _, _, rfl, rfl, rfl, z0, h1⟩
    refine xe_s (f := (39, _, _, _)) xt_g256 rfl rfl rfl rfl rfl ?_
    refine xe_cvI xt_g256 rfl (q := 42) rfl xk_13_406 rfl (by omega) xt_g275 (by decide) ⟨Nat.le_of_ble_eq_true rfl, Nat.le_of_ble_eq_true rfl, Nat.le_of_ble_eq_true rfl⟩ (xv_freeFrame fm hmn h1.1) ?_
    rw [e1]
    refine xe_s (f := (43, [(3, _), (2, _), (1, _), (0, _)], _, _)) xt_g256 rfl rfl rfl rfl rfl ?_
    refine xe_s (f := (44, _, _, _)) xt_g256 rfl rfl rfl rfl rfl ?_
    refine xe_if_eq xt_g256 rfl (t := 63) rfl (q := 47) rfl (by first | omega | exact hw.1 _ | exact hw.2 _ _ | exact xb_r _) (fun h44 => ?_) (fun h44 => ?_)
    · try simp only [xb_0, xb_1, ne_eq, Decidable.not_not, decide_eq_true_eq, decide_eq_false_iff_not] at h44
      exact fail _ (Or.inl h44)
    · try simp only [xb_0, xb_1, ne_eq, Decidable.not_not, decide_eq_true_eq, decide_eq_false_iff_not] at h44
      refine xe_s (f := (48, _, _, _)) xt_g256 rfl rfl rfl rfl rfl ?_
      refine xe_s (f := (49, _, xi 4 :: _, _)) xt_g256 rfl rfl rfl rfl rfl ?_
      refine xe_ic_eq xt_g256 rfl (t := 63) rfl (q := 52) rfl (by first | omega | exact hw.1 _ | exact hw.2 _ _ | exact xb_r _) (by first | omega | exact hw.1 _ | exact hw.2 _ _ | exact xb_r _) (fun h49 => ?_) (fun h49 => ?_)
      · exact fail _ (Or.inr (Or.inl (by omega)))
      · refine xe_s (f := (53, _, _, _)) xt_g256 rfl rfl rfl rfl rfl ?_
        refine xe_if_lt xt_g256 rfl (t := 63) rfl (q := 56) rfl (by first | omega | exact hw.1 _ | exact hw.2 _ _ | exact xb_r _) (fun h53 => ?_) (fun h53 => ?_)
        · try simp only [xb_0, xb_1, ne_eq, Decidable.not_not, decide_eq_true_eq, decide_eq_false_iff_not] at h53
          exact fail _ (Or.inr (Or.inr (Or.inl (by omega))))
        · try simp only [xb_0, xb_1, ne_eq, Decidable.not_not, decide_eq_true_eq, decide_eq_false_iff_not] at h53
          refine xe_s (f := (57, _, _, _)) xt_g256 rfl rfl rfl rfl rfl ?_
          refine xe_cvI xt_g256 rfl (q := 60) rfl xk_13_380 rfl (by omega) xt_g276 (by decide) ⟨Nat.le_of_ble_eq_true rfl, Nat.le_of_ble_eq_true rfl, Nat.le_of_ble_eq_true rfl⟩ (xv_freeRequest fm hmn h1.1) ?_
          rw [e2]
          refine xe_if_ge xt_g256 rfl (t := 65) rfl (q := 63) rfl (by first | omega | exact hw.1 _ | exact hw.2 _ _ | exact xb_r _) (fun h60 => ?_) (fun h60 => ?_)
          · try simp only [xb_0, xb_1, ne_eq, Decidable.not_not, decide_eq_true_eq, decide_eq_false_iff_not] at h60
            have ht2 : t = mu_ft u ∧ 0 ≤ t ∧ t < 4 := by omega
            obtain ⟨a, hres⟩ : ∃ a, mu_res u none = some a := by
              cases hres : mu_res u none with
              | none => rw [hres] at his; rw [his] at h44; exact absurd rfl h44
              | some a => exact ⟨a, rfl⟩
            rw [hres] at hR
            dsimp only at hR
            rw [if_neg (by omega)] at hR
            rw [← hR]
            obtain ⟨T, hT⟩ := Int.eq_ofNat_of_zero_le ht2.2.1
            obtain ⟨G, hG⟩ := Int.eq_ofNat_of_zero_le (show 0 ≤ mu_ff u by omega)
            have h2 := rf_tb h1 (t := T) (b := true) (z := 1) (by omega) rfl
            have h3 := rf_fo h2 (z := t) (by omega)
            have h4 := rf_nf h3 (f := G) (t := t) (p := -1) (by omega) (by omega) (by omega)
            have ho := hout a hres
            have A4 : pa_at (xo_w (xo_w (xo_w (xo_w ar1 40 T 1) 42 G t) 43 G (-1)) 44 G 0) ((40 : Nat) : Int) (pa_text a) := pa_at_c ho.1 (by rw [xo_wK (by decide), xo_wK (by decide), xo_wK (by decide), xo_wK (by decide)]) (by rw [xo_wK (by decide), xo_wK (by decide), xo_wK (by decide), xo_wK (by decide)])
            have gg := xV_go fm hmn (h0 := h0) h4 (f := G) A4 ho.2 (by omega)
            have nf := xv_newFrame fm hmn (h0 := h0) (s := xo_u s1 41 t) (ar := xo_w ar1 40 T 1) (f := (G : Int)) (t := t) (p := -1) (by omega)
            rw [Int.toNat_natCast] at nf
            rw [← hG] at nf gg
            have et : t.toNat = T := by omega
            refine xe_s (f := (66, _, _, _)) xt_g256 rfl rfl rfl rfl rfl ?_
            refine xe_mga xt_g256 rfl (q := 69) rfl (xf_13_77 fm) (by decide) rfl (by omega) ?_
            try simp only [xo_u, xo_w, Nat.reduceEqDiff, reduceIte, false_and, true_and]
            refine xe_s (f := (70, _, _, _)) xt_g256 rfl rfl rfl rfl rfl ?_
            refine xe_s (f := (71, _, xi 1 :: _, _)) xt_g256 rfl rfl rfl rfl rfl ?_
            refine xe_mas (ok := xm_isB) (ty := .boolean) xt_g256 rfl (q := 72) rfl (fun _ _ => ⟨rfl, rfl, rfl, rfl⟩) rfl rfl rfl (by omega) (by omega) (by omega) (by omega) (by omega) (xi_nb (by first | omega | exact xb_or _)) ?_
            refine xe_s (f := (73, _, _, _)) xt_g256 rfl rfl rfl rfl rfl ?_
            refine xe_s (f := (74, _, _, _)) xt_g256 rfl rfl rfl rfl rfl ?_
            rw [et]
            refine xe_mps xt_g256 rfl (q := 77) rfl (xf_13_80 fm) (by decide) rfl (by omega) (by omega) xi_int (Or.inl rfl) ?_
            refine xe_s (f := (78, _, _, _)) xt_g256 rfl rfl rfl rfl rfl ?_
            refine xe_s (f := (79, _, _, _)) xt_g256 rfl rfl rfl rfl rfl ?_
            refine xe_s (f := (80, _, _, _)) xt_g256 rfl rfl rfl rfl rfl ?_
            refine xe_s (f := (81, _, xi (-1) :: _, _)) xt_g256 rfl rfl rfl rfl rfl ?_
            refine xe_cvV xt_g256 rfl (q := 84) rfl xk_13_409 rfl (by omega) xt_g277 (by decide) ⟨Nat.le_of_ble_eq_true rfl, Nat.le_of_ble_eq_true rfl, Nat.le_of_ble_eq_true rfl⟩ (nf) ?_
            refine xe_s (f := (85, _, _, _)) xt_g256 rfl rfl rfl rfl rfl ?_
            refine xe_s (f := (86, _, _, _)) xt_g256 rfl rfl rfl rfl rfl ?_
            refine xe_chI xt_g256 rfl (q := 89) rfl xk_13_412 rfl (by omega) xt_g278 (by decide) ⟨Nat.le_of_ble_eq_true rfl, Nat.le_of_ble_eq_true rfl, Nat.le_of_ble_eq_true rfl⟩ (gg) (fun z5 s5 ar5 hp5 => ?_)
            refine xe_s (f := (91, [(4, _), (3, _), (2, _), (1, _), (0, _)], _, _)) xt_g256 rfl rfl rfl rfl rfl ?_
            refine xe_s (f := (92, _, _, _)) xt_g256 rfl rfl rfl rfl rfl ?_
            refine xe_iret xt_g256 rfl rfl xi_int.1 ?_
            obtain ⟨_, g2, g3⟩ := hp5
            refine ⟨_, _, _, rfl, rfl, ht2.1, g2.trans z0, ?_⟩
            show rf s5 ar5 (mu_open2 (mu_sln u []) (mu_ft u) (mu_ff u) a)
            unfold mu_open2
            rw [← ht2.1, et, show (mu_ff u).toNat = G by omega]
            exact g3
          · try simp only [xb_0, xb_1, ne_eq, Decidable.not_not, decide_eq_true_eq, decide_eq_false_iff_not] at h60
            exact fail _ (Or.inr (Or.inr (Or.inr (by omega))))
  have hftr := xd_first_r (p := fun t => !mu_tb u t.toNat) 4 0
  have loop : ∀ (s1 : Nat → Int) (ar1 : Nat → Nat → Int) (is : Bool), is = (mu_res u none).isSome → s1 0 = 0 → rf s1 ar1 (mu_sln u []) → (∀ a, mu_res u none = some a → pa_at ar1 ((40 : Nat) : Int) (pa_text a) ∧ pa_ok a) → ∀ (N k : Nat), k + N = 4 → xd_first (fun t => !mu_tb u t.toNat) N k = mu_ft u → xe fm 256 (18, [(2, xi (k : Int)), (1, xi (xb is)), (0, .ref m)], [], (xo m s1 ar1 h0, n, 0, 0)) (xQI m n h0 (fun z s' ar' => z = R.1 ∧ s' 0 = 0 ∧ rf s' ar' R.2)) := by
    intro s1 ar1 is his z0 h1 hout N
    induction N with
    | zero =>
      intro k hk he
      rw [xd_first] at he
      refine xe_s (f := (19, _, _, _)) xt_g256 rfl rfl rfl rfl rfl ?_
      refine xe_s (f := (20, _, xi 4 :: _, _)) xt_g256 rfl rfl rfl rfl rfl ?_
      refine xe_ic_ge xt_g256 rfl (t := 38) rfl (q := 23) rfl (by first | omega | exact hw.1 _ | exact hw.2 _ _ | exact xb_r _) (by first | omega | exact hw.1 _ | exact hw.2 _ _ | exact xb_r _) (fun h20 => ?_) (fun h20 => ?_)
      · exact main s1 ar1 is k his (Or.inl ⟨by omega, by omega⟩) z0 h1 hout
      · exact absurd h20 (by omega)
    | succ N ih =>
      intro k hk he
      rw [xd_first] at he
      have hk40 : ar1 40 (k : Int).toNat = xb (mu_tb u k) := h1.2.2.2.2.2.2.2.1.1 k (by omega)
      refine xe_s (f := (19, _, _, _)) xt_g256 rfl rfl rfl rfl rfl ?_
      refine xe_s (f := (20, _, xi 4 :: _, _)) xt_g256 rfl rfl rfl rfl rfl ?_
      refine xe_ic_ge xt_g256 rfl (t := 38) rfl (q := 23) rfl (by first | omega | exact hw.1 _ | exact hw.2 _ _ | exact xb_r _) (by first | omega | exact hw.1 _ | exact hw.2 _ _ | exact xb_r _) (fun h20 => ?_) (fun h20 => ?_)
      · exact absurd h20 (by omega)
      · refine xe_s (f := (24, _, _, _)) xt_g256 rfl rfl rfl rfl rfl ?_
        refine xe_mga xt_g256 rfl (q := 27) rfl (xf_13_77 fm) (by decide) rfl (by omega) ?_
        try simp only [xo_u, xo_w, Nat.reduceEqDiff, reduceIte, false_and, true_and]
        refine xe_s (f := (28, _, _, _)) xt_g256 rfl rfl rfl rfl rfl ?_
        refine xe_mal (ok := xm_isB) (ty := .boolean) xt_g256 rfl (q := 29) rfl (fun _ _ => ⟨rfl, rfl, rfl, rfl⟩) rfl rfl rfl (by omega) (by omega) (by omega) (by omega) ?_
        try simp only [xo_u, xo_w, Nat.reduceEqDiff, reduceIte, false_and, true_and]
        rw [hk40]
        refine xe_if_eq xt_g256 rfl (t := 38) rfl (q := 32) rfl (by first | omega | exact hw.1 _ | exact hw.2 _ _ | exact xb_r _) (fun h29 => ?_) (fun h29 => ?_)
        · try simp only [xb_0, xb_1, ne_eq, Decidable.not_not, decide_eq_true_eq, decide_eq_false_iff_not] at h29
          rw [if_pos (by rw [Int.toNat_natCast, h29]; rfl)] at he
          exact main s1 ar1 is k his (Or.inr ⟨he, by omega, by omega⟩) z0 h1 hout
        · try simp only [xb_0, xb_1, ne_eq, Decidable.not_not, decide_eq_true_eq, decide_eq_false_iff_not] at h29
          refine xe_iinc xt_g256 rfl (q := 35) rfl rfl (by decide) (L1 := [(2, _), (1, _), (0, _)]) rfl ?_
          refine xe_s (f := (18, _, _, _)) xt_g256 rfl rfl rfl rfl rfl ?_
          rw [if_neg (by rw [Int.toNat_natCast, show mu_tb u k = true by simpa using h29]; decide)] at he
          rw [show ((k : Int) + 1) = ((k + 1 : Nat) : Int) by omega] at he ⊢
          exact ih (k + 1) (by omega) he
  refine xe_s (f := (1, _, _, _)) xt_g256 rfl rfl rfl rfl rfl ?_
  refine xe_s (f := (2, _, xi 0 :: _, _)) xt_g256 rfl rfl rfl rfl rfl ?_
  refine xe_mps xt_g256 rfl (q := 5) rfl (xf_13_146 fm) (by decide) rfl (by omega) (by omega) xi_int (Or.inl rfl) ?_
  refine xe_s (f := (6, _, _, _)) xt_g256 rfl rfl rfl rfl rfl ?_
  refine xe_s (f := (7, _, xi (-1) :: _, _)) xt_g256 rfl rfl rfl rfl rfl ?_
  refine xe_chI xt_g256 rfl (q := 10) rfl xk_13_403 rfl (by omega) xt_g257 (by decide) ⟨Nat.le_of_ble_eq_true rfl, Nat.le_of_ble_eq_true rfl, Nat.le_of_ble_eq_true rfl⟩ (rs) (fun z2 s2 ar2 hp2 => ?_)
  refine xe_s (f := (11, [(1, _), (0, _)], _, _)) xt_g256 rfl rfl rfl rfl rfl ?_
  refine xe_s (f := (12, _, _, _)) xt_g256 rfl rfl rfl rfl rfl ?_
  refine xe_s (f := (13, _, xi 0 :: _, _)) xt_g256 rfl rfl rfl rfl rfl ?_
  refine xe_mps xt_g256 rfl (q := 16) rfl (xf_13_149 fm) (by decide) rfl (by omega) (by omega) xi_int (Or.inl rfl) ?_
  refine xe_s (f := (17, _, xi 0 :: _, _)) xt_g256 rfl rfl rfl rfl rfl ?_
  refine xe_s (f := (18, [(2, _), (1, _), (0, _)], _, _)) xt_g256 rfl rfl rfl rfl rfl ?_
  obtain ⟨q2, F2, h2, hz, hout⟩ := hp2
  have h3 := loop (xo_u s2 2 0) ar2 (mu_res u none).isSome rfl (q2.1 0 (by decide)) (rf_cl h2) hout 4 0 (by omega) rfl
  rw [hz]
  exact xe_loc (by intro q hq; simp only [List.mem_cons, List.not_mem_nil, or_false] at hq; rcases hq with rfl | rfl | rfl <;> rfl) (h3)
def mu_enter (u : mu_T) : Int × mu_T := match mu_res u none with
  | none => (-1, mu_sln u [])
  | some a => if 0 ≤ mu_fo u then mu_go (mu_sln u []) (mu_tp u (mu_fo u)) a else (-1, mu_sln u [])
theorem xV_enter (hmn : xo_in m n) (h : rf s ar u) (hi : 0 ≤ mu_fo u → 0 ≤ mu_tp u (mu_fo u)) : xV fm 296 m n h0 s ar [.ref m] (fun z s' ar' => z = (mu_enter u).1 ∧ s' 0 = 0 ∧ rf s' ar' (mu_enter u).2) := by
  show xe fm 296 (0, [(0, .ref m)], [], (xo m s ar h0, n, 0, 0)) _
  generalize hR : mu_enter u = R
  unfold mu_enter at hR
  have rs := xV_res fm hmn (h0 := h0) (rf_s0 h (z := 0) (by omega)) (b := -1) (base := none) (Or.inl ⟨rfl, rfl⟩)
  have r4 := h.2.2.2.2.2.2.2.1
  have htp := xd_first_r (p := fun f => mf_tp (mu_fo u) (mu_fr u f.toNat)) 16 0
  have htp2 : mu_tp u (mu_fo u) = -1 ∨ (0 ≤ mu_tp u (mu_fo u) ∧ mu_tp u (mu_fo u) < 16) := by unfold mu_tp; omega
  have hfr := r4.2.2
  refine xe_s (f := (1, _, _, _)) xt_g296 rfl rfl rfl rfl rfl ?_
  refine xe_s (f := (2, _, xi 0 :: _, _)) xt_g296 rfl rfl rfl rfl rfl ?_
  refine xe_mps xt_g296 rfl (q := 5) rfl (xf_13_146 fm) (by decide) rfl (by omega) (by omega) xi_int (Or.inl rfl) ?_
  refine xe_s (f := (6, _, _, _)) xt_g296 rfl rfl rfl rfl rfl ?_
  refine xe_s (f := (7, _, xi (-1) :: _, _)) xt_g296 rfl rfl rfl rfl rfl ?_
  refine xe_chI xt_g296 rfl (q := 10) rfl xk_13_403 rfl (by omega) xt_g257 (by decide) ⟨Nat.le_of_ble_eq_true rfl, Nat.le_of_ble_eq_true rfl, Nat.le_of_ble_eq_true rfl⟩ (rs) (fun z2 s2 ar2 hp2 => ?_)
  obtain ⟨q2, F2, h2, hz, hout⟩ := hp2
  have h3 := rf_cl h2
  have e41 : s2 41 = mu_fo u := h2.2.2.2.2.2.2.2.1.2.1
  have z0 : s2 0 = 0 := q2.1 0 (by decide)
  have e1 : 0 ≤ mu_fo u → xd_top ar2 (mu_fo u) = mu_tp u (mu_fo u) := fun h => rf_tp h2.2.2.2.2.2.2.2.2.1 h
  rw [hz]
  refine xe_s (f := (11, [(1, _), (0, _)], _, _)) xt_g296 rfl rfl rfl rfl rfl ?_
  refine xe_s (f := (12, _, _, _)) xt_g296 rfl rfl rfl rfl rfl ?_
  refine xe_s (f := (13, _, xi 0 :: _, _)) xt_g296 rfl rfl rfl rfl rfl ?_
  refine xe_mps xt_g296 rfl (q := 16) rfl (xf_13_149 fm) (by decide) rfl (by omega) (by omega) xi_int (Or.inl rfl) ?_
  refine xe_s (f := (17, _, _, _)) xt_g296 rfl rfl rfl rfl rfl ?_
  refine xe_if_eq xt_g296 rfl (t := 42) rfl (q := 20) rfl (by first | omega | exact hw.1 _ | exact hw.2 _ _ | exact xb_r _) (fun h17 => ?_) (fun h17 => ?_)
  · try simp only [xb_0, xb_1, ne_eq, Decidable.not_not, decide_eq_true_eq, decide_eq_false_iff_not] at h17
    refine xe_s (f := (43, _, xi (-1) :: _, _)) xt_g296 rfl rfl rfl rfl rfl ?_
    refine xe_iret xt_g296 rfl rfl xi_int.1 ?_
    have e : R = (-1, mu_sln u []) := by
      rw [← hR]
      cases hres : mu_res u none with
      | none => rfl
      | some a => rw [hres] at h17; cases h17
    rw [e]
    exact ⟨_, _, _, rfl, rfl, rfl, z0, h3⟩
  · try simp only [xb_0, xb_1, ne_eq, Decidable.not_not, decide_eq_true_eq, decide_eq_false_iff_not] at h17
    refine xe_s (f := (21, _, _, _)) xt_g296 rfl rfl rfl rfl rfl ?_
    refine xe_mgs xt_g296 rfl (q := 24) rfl (xf_13_80 fm) (by decide) rfl (by omega) ?_
    try simp only [xo_u, xo_w, Nat.reduceEqDiff, reduceIte, false_and, true_and]
    rw [e41]
    refine xe_if_lt xt_g296 rfl (t := 42) rfl (q := 27) rfl (by first | omega | exact hw.1 _ | exact hw.2 _ _ | exact xb_r _) (fun h24 => ?_) (fun h24 => ?_)
    · try simp only [xb_0, xb_1, ne_eq, Decidable.not_not, decide_eq_true_eq, decide_eq_false_iff_not] at h24
      refine xe_s (f := (43, _, xi (-1) :: _, _)) xt_g296 rfl rfl rfl rfl rfl ?_
      refine xe_iret xt_g296 rfl rfl xi_int.1 ?_
      have e : R = (-1, mu_sln u []) := by
        rw [← hR]
        cases hres : mu_res u none with
        | none => rfl
        | some a =>
          dsimp only
          rw [if_neg (by omega)]
      rw [e]
      exact ⟨_, _, _, rfl, rfl, rfl, z0, h3⟩
    · try simp only [xb_0, xb_1, ne_eq, Decidable.not_not, decide_eq_true_eq, decide_eq_false_iff_not] at h24
      refine xe_s (f := (28, _, _, _)) xt_g296 rfl rfl rfl rfl rfl ?_
      refine xe_s (f := (29, _, _, _)) xt_g296 rfl rfl rfl rfl rfl ?_
      refine xe_s (f := (30, _, _, _)) xt_g296 rfl rfl rfl rfl rfl ?_
      refine xe_mgs xt_g296 rfl (q := 33) rfl (xf_13_80 fm) (by decide) rfl (by omega) ?_
      try simp only [xo_u, xo_w, Nat.reduceEqDiff, reduceIte, false_and, true_and]
      rw [e41]
      refine xe_cvI xt_g296 rfl (q := 36) rfl xk_13_422 rfl (by omega) xt_g293 (by decide) ⟨Nat.le_of_ble_eq_true rfl, Nat.le_of_ble_eq_true rfl, Nat.le_of_ble_eq_true rfl⟩ (xv_topOf fm hmn h3.1 (by omega)) ?_
      rw [e1 (by omega)]
      obtain ⟨a, hres⟩ : ∃ a, mu_res u none = some a := by
        cases hres : mu_res u none with
        | none => rw [hres] at h17; exact absurd rfl h17
        | some a => exact ⟨a, rfl⟩
      obtain ⟨G, hG⟩ := Int.eq_ofNat_of_zero_le (hi (by omega))
      have ho := hout a hres
      have gg := xV_go fm hmn (h0 := h0) h3 (f := G) ho.1 ho.2 (by omega)
      rw [← hG] at gg
      refine xe_chI xt_g296 rfl (q := 39) rfl xk_13_412 rfl (by omega) xt_g278 (by decide) ⟨Nat.le_of_ble_eq_true rfl, Nat.le_of_ble_eq_true rfl, Nat.le_of_ble_eq_true rfl⟩ (gg) (fun z5 s5 ar5 hp5 => ?_)
      refine xe_s (f := (43, _, _, _)) xt_g296 rfl rfl rfl rfl rfl ?_
      refine xe_iret xt_g296 rfl rfl xi_int.1 ?_
      rw [hres] at hR
      dsimp only at hR
      rw [if_pos (by omega)] at hR
      obtain ⟨g1, g2, g3⟩ := hp5
      rw [hR] at g1 g3
      exact ⟨_, _, _, rfl, rfl, g1, g2.trans z0, g3⟩
/-- is there such a tab; then it is answered, else it is thrown -/
def mu_ht (u : mu_T) (t : Int) : Bool := decide (0 ≤ t ∧ t < 4) && mu_tb u t.toNat
theorem rf_ht (h : rf s ar u) {t : Int} : xd_tb ar t = mu_ht u t := by
  unfold xd_tb mu_ht
  by_cases ht : 0 ≤ t ∧ t < 4
  · rw [decide_eq_true ht, Bool.true_and, h.2.2.2.2.2.2.2.1.1 t.toNat (by omega)]
    cases mu_tb u t.toNat
    · exact decide_eq_false (fun h => h.2.2 rfl)
    · exact decide_eq_true ⟨ht.1, ht.2, by decide⟩
  · rw [decide_eq_false ht, Bool.false_and]
    exact decide_eq_false (fun h => ht ⟨h.1, h.2.1⟩)
theorem rf_lk (h : rf s ar u) {b : Bool} : rf (if b = true then xo_u s 0 0 else if false = true then xo_u (xo_u s 0 1) 2 0 else xo_u s 0 1) ar u := by
  split
  · exact rf_s0 h (by omega)
  · rw [if_neg (by decide)]
    exact rf_s0 h (by omega)
theorem xU_focus (hmn : xo_in m n) (h : rf s ar u) {t : Int} (ht : xr t) : xU fm 295 m n h0 s ar [.ref m, xi t] (fun s' ar' => s' 0 = xb (!mu_ht u t) ∧ rf s' ar' (if mu_ht u t = true then mu_sfo u t else u)) := by
  show xe fm 295 (0, [(0, .ref m), (1, xi t)], [], (xo m s ar h0, n, 0, 0)) _
  have e1 := rf_ht h (t := t)
  have lk := xv_lacks fm hmn (h0 := h0) (s := s) (ar := ar) (b := mu_ht u t) (t := false)
  have hl := rf_lk h (b := mu_ht u t)
  refine xe_s (f := (1, _, _, _)) xt_g295 rfl rfl rfl rfl rfl ?_
  refine xe_s (f := (2, _, _, _)) xt_g295 rfl rfl rfl rfl rfl ?_
  refine xe_s (f := (3, _, _, _)) xt_g295 rfl rfl rfl rfl rfl ?_
  refine xe_cvI xt_g295 rfl (q := 6) rfl xk_13_415 rfl (by omega) xt_g291 (by decide) ⟨Nat.le_of_ble_eq_true rfl, Nat.le_of_ble_eq_true rfl, Nat.le_of_ble_eq_true rfl⟩ (xv_hasTab fm hmn h.1 ht) ?_
  rw [e1]
  refine xe_s (f := (7, _, xi 0 :: _, _)) xt_g295 rfl rfl rfl rfl rfl ?_
  refine xe_cvI xt_g295 rfl (q := 10) rfl xk_13_418 rfl (by omega) xt_g292 (by decide) ⟨Nat.le_of_ble_eq_true rfl, Nat.le_of_ble_eq_true rfl, Nat.le_of_ble_eq_true rfl⟩ (lk) ?_
  refine xe_if_eq xt_g295 rfl (t := 14) rfl (q := 13) rfl (by first | omega | exact hw.1 _ | exact hw.2 _ _ | exact xb_r _) (fun h10 => ?_) (fun h10 => ?_)
  · try simp only [xb_0, xb_1, ne_eq, Decidable.not_not, decide_eq_true_eq, decide_eq_false_iff_not] at h10
    refine xe_s (f := (15, _, _, _)) xt_g295 rfl rfl rfl rfl rfl ?_
    refine xe_s (f := (16, _, _, _)) xt_g295 rfl rfl rfl rfl rfl ?_
    refine xe_mps xt_g295 rfl (q := 19) rfl (xf_13_80 fm) (by decide) rfl (by omega) (by omega) xi_int (Or.inl rfl) ?_
    refine xe_ret xt_g295 rfl rfl ?_
    have hb : mu_ht u t = true := by simpa using h10
    rw [hb] at hl ⊢
    have ht2 : 0 ≤ t ∧ t < 4 := by
      unfold mu_ht at hb
      rw [Bool.and_eq_true, decide_eq_true_eq] at hb
      exact hb.1
    exact ⟨_, _, rfl, rfl, rfl, rf_fo hl (by omega)⟩
  · try simp only [xb_0, xb_1, ne_eq, Decidable.not_not, decide_eq_true_eq, decide_eq_false_iff_not] at h10
    refine xe_ret xt_g295 rfl rfl ?_
    have hb : mu_ht u t = false := by simpa using h10
    rw [hb] at hl ⊢
    exact ⟨_, _, rfl, rfl, rfl, hl⟩
end XOP
