/-! the reference: ask, go, open, enter, focus over the shared state -/
theorem xd_first_c {p p' : Int → Bool} : ∀ (N : Nat) (k : Int), (∀ j, k ≤ j → j < k + N → p j = p' j) → xd_first p N k = xd_first p' N k
  | 0, k, _ => rfl
  | N + 1, k, h => by
    unfold xd_first
    rw [h k (Int.le_refl _) (by omega), xd_first_c N (k + 1) (fun j h1 h2 => h j (by omega) (by omega))]
theorem xd_first_r {p : Int → Bool} : ∀ (N : Nat) (k : Int), xd_first p N k = -1 ∨ (k ≤ xd_first p N k ∧ xd_first p N k < k + N ∧ p (xd_first p N k) = true)
  | 0, k => Or.inl rfl
  | N + 1, k => by
    unfold xd_first
    split
    · rename_i h
      exact Or.inr ⟨Int.le_refl _, by omega, h⟩
    · rcases xd_first_r (p := p) N (k + 1) with h | ⟨h1, h2, h3⟩
      · exact Or.inl h
      · exact Or.inr ⟨by omega, by omega, h3⟩
def mu_fq (u : mu_T) : Int := xd_first (fun r => (mu_rq u r.toNat).isNone) 24 0
def mu_ff (u : mu_T) : Int := xd_first (fun f => (mu_fr u f.toNat).isNone) 16 0
def mq_nv (f : Int) : Option mq_T → Bool
  | none => false
  | some x => decide (x.1 = f) && x.2.1.isNone
def mu_nv (u : mu_T) (f : Int) : Int := xd_first (fun r => mq_nv f (mu_rq u r.toNat)) 24 0
def mf_tp (t : Int) : Option mf_T → Bool
  | none => false
  | some x => decide (x.1 = t ∧ x.2.1 < 0)
def mu_tp (u : mu_T) (t : Int) : Int := xd_first (fun f => mf_tp t (mu_fr u f.toNat)) 16 0
def mu_ft (u : mu_T) : Int := xd_first (fun t => !mu_tb u t.toNat) 4 0
def mu_res (u : mu_T) (b : Option pa_A) : Option pa_A := pa_res (lt (mu_ln u)) ((mu_ln u).length : Int) b
def mq_wi (x : mq_T) : Bool := match x.2.1 with
  | none => true
  | some y => y.2.1
def mu_send (u : mu_T) (r : Nat) (x : mq_T) : mu_T := mu_srq (mu_note u 1 r x.1 (mu_rtx u x.2.2.2.1 (mq_wi x))) (mu_up (mu_rq u) r (some x))
def mu_go1 (u : mu_T) (f : Int) : mu_T := if 0 ≤ mu_nv u f then mu_srq u (mu_up (mu_rq u) (mu_nv u f).toNat none) else u
def mu_go (u : mu_T) (f : Int) (a : pa_A) : Int × mu_T := if mu_fq (mu_go1 u f) < 0 then (-1, mu_go1 u f) else (mu_fq (mu_go1 u f), mu_send (mu_go1 u f) (mu_fq (mu_go1 u f)).toNat (f, none, 0, a, none))
def mu_refuse (u : mu_T) (f why : Int) : mu_T := mu_sln (mu_note u 6 f why []) []
theorem mu_note_rq {u : mu_T} {k a b : Int} {t : List Int} : mu_rq (mu_note u k a b t) = mu_rq u := by
  unfold mu_note
  split <;> rfl
theorem mu_note_fr {u : mu_T} {k a b : Int} {t : List Int} : mu_fr (mu_note u k a b t) = mu_fr u := by
  unfold mu_note
  split <;> rfl
theorem mu_note_s {u : mu_T} {k a b : Int} {t : List Int} {x : Nat → Option mq_T} : mu_srq (mu_note u k a b t) x = mu_note (mu_srq u x) k a b t := by
  unfold mu_note
  show (mu_srq (if (mu_ms u).length < 200 then mu_sms u (mu_ms u ++ [(k, a, b, t)]) else u) x) = if (mu_ms u).length < 200 then _ else _
  split <;> rfl
theorem rf_l0 {s : Nat → Int} {ar : Nat → Nat → Int} (h : s 2 = 0) : rf_line s ar [] := ⟨h, by decide, xh_nil, fun c hc => by cases hc⟩
section XAK
variable (fm : Value) {m n : Nat} {h0 : xm_H} {s : Nat → Int} {ar : Nat → Nat → Int} {u : mu_T}
theorem rf_fq (h : rf_rq ar (mu_rq u)) : xd_fq ar = mu_fq u := by
  refine xd_first_c 24 0 (fun j h1 h2 => ?_)
  have := h j.toNat (by omega)
  cases hx : mu_rq u j.toNat with
  | none =>
    rw [hx] at this
    exact decide_eq_true this
  | some x =>
    rw [hx] at this
    have h3 := this.1
    have h4 := this.2.1
    exact decide_eq_false (by omega)
theorem rf_ff (h : rf_fr ar (mu_fr u)) : xd_ff ar = mu_ff u := by
  refine xd_first_c 16 0 (fun j h1 h2 => ?_)
  have := (h j.toNat (by omega)).1
  cases hx : mu_fr u j.toNat with
  | none =>
    rw [hx] at this
    exact decide_eq_true this
  | some x =>
    rw [hx] at this
    have h3 := this.1
    have h4 := this.2.1
    exact decide_eq_false (by omega)
theorem rf_nv (h : rf_rq ar (mu_rq u)) {f : Int} (hf : 0 ≤ f) : xd_nv ar f = mu_nv u f := by
  refine xd_first_c 24 0 (fun j h1 h2 => ?_)
  have := h j.toNat (by omega)
  cases hx : mu_rq u j.toNat with
  | none =>
    rw [hx] at this
    have h3 : ar 46 j.toNat < 0 := this
    exact decide_eq_false (fun e => by omega)
  | some x =>
    rw [hx] at this
    have h3 := this.1
    have h9 := this.2.2.2.2.2.2.2.2.1
    show decide (ar 46 j.toNat = f ∧ ar 47 j.toNat = 0) = (decide (x.1 = f) && x.2.1.isNone)
    cases hy : x.2.1 with
    | none =>
      rw [hy] at h9
      have h10 : ar 47 j.toNat = 0 := h9
      rw [h3, h10]
      simp
    | some y =>
      rw [hy] at h9
      have h10 : ar 47 j.toNat = 1 := h9.1
      rw [h3, h10]
      simp
theorem rf_tp (h : rf_fr ar (mu_fr u)) {t : Int} (ht : 0 ≤ t) : xd_top ar t = mu_tp u t := by
  refine xd_first_c 16 0 (fun j h1 h2 => ?_)
  have := (h j.toNat (by omega)).1
  cases hx : mu_fr u j.toNat with
  | none =>
    rw [hx] at this
    have h3 : ar 42 j.toNat < 0 := this
    exact decide_eq_false (fun e => by omega)
  | some x =>
    rw [hx] at this
    show decide (ar 42 j.toNat = t ∧ ar 43 j.toNat < 0) = decide (x.1 = t ∧ x.2.1 < 0)
    rw [this.1, this.2.2.2.1]
theorem xV_res (hmn : xo_in m n) (h : rf s ar u) {b : Int} {base : Option pa_A} (hb : (b = -1 ∧ base = none) ∨ ((0 ≤ b ∧ b < 98) ∧ ∃ a, base = some a ∧ pa_at ar b (pa_text a) ∧ pa_ok a)) : xV fm 257 m n h0 s ar [.ref m, xi b] (fun z s' ar' => xq [3, 10, 11, 12, 13] [4, 5, 6, 7, 8, 9] s ar s' ar' ∧ xs_F [40] ar ar' ∧ rf s' ar' u ∧ z = xb (mu_res u base).isSome ∧ ∀ a, mu_res u base = some a → pa_at ar' ((40 : Nat) : Int) (pa_text a) ∧ pa_ok a) := by
  obtain ⟨w, B, z, r0, r1, r2, r3, r4, r5, r6, r7, r8, r9, ra⟩ := h
  have hl := rf_line_t r0
  refine xV_mono (xV_resolve fm hmn w hb ⟨hl.1, hl.2.1⟩) ?_
  rintro z' s' ar' ⟨w', q, F4, pn, ps⟩
  rw [rf_line_at r0, r0.1] at pn ps
  have F := xs_4 F4
  refine ⟨q, F, ⟨w', xo_B_q B q (by decide), by rw [q.1 62 (by decide)]; exact z, rf_k0 r0 q rfl, rf_k1 r1 q rfl, rf_k2 r2 q rfl, rf_k3 r3 q rfl, rf_k4 r4 q rfl, rf_k5 r5 q F rfl, rf_k6 r6 q F rfl, rf_k7 r7 q F rfl, rf_k8 r8 q rfl, rf_k9 r9 q rfl, rf_ka ra q rfl⟩, ?_, fun a ha => ⟨(ps a ha).2, ?_⟩⟩
  · unfold mu_res
    cases hh : pa_res (lt (mu_ln u)) ((mu_ln u).length : Int) base with
    | none => rw [pn hh]; rfl
    | some a => rw [(ps a hh).1]; rfl
  · refine pa_res_ok (fun b' hb' => ?_) ha
    rcases hb with ⟨_, h2⟩ | ⟨_, a', h2, _, h4⟩
    · rw [h2] at hb'
      cases hb'
    · rw [h2] at hb'
      cases hb'
      exact h4
theorem xV_refuse (hmn : xo_in m n) (h : rf s ar u) {f w : Int} (hf : xr f) (hw : xr w) : xV fm 300 m n h0 s ar [.ref m, xi f, xi w] (fun z s' ar' => z = -1 ∧ s' 0 = s 0 ∧ rf s' ar' (mu_refuse u f w)) := by
  show xe fm 300 (0, [(0, .ref m), (1, xi f), (2, xi w)], [], (xo m s ar h0, n, 0, 0)) _
  have tl := xU_tell fm hmn (h0 := h0) (rg_of h 99) (w := 6) (a := f) (b := w) (by omega) hf hw
  refine xe_s (f := (1, _, _, _)) xt_g300 rfl rfl rfl rfl rfl ?_
  refine xe_bipush xt_g300 rfl (q := 3) rfl (by decide) (by decide) ?_
  refine xe_s (f := (4, _, _, _)) xt_g300 rfl rfl rfl rfl rfl ?_
  refine xe_s (f := (5, _, _, _)) xt_g300 rfl rfl rfl rfl rfl ?_
  refine xe_chV xt_g300 rfl (q := 8) rfl xk_13_376 rfl (by omega) xt_g289 (by decide) ⟨Nat.le_of_ble_eq_true rfl, Nat.le_of_ble_eq_true rfl, Nat.le_of_ble_eq_true rfl⟩ (tl) (fun s1 ar1 hp1 => ?_)
  refine xe_s (f := (9, _, _, _)) xt_g300 rfl rfl rfl rfl rfl ?_
  refine xe_s (f := (10, _, xi 0 :: _, _)) xt_g300 rfl rfl rfl rfl rfl ?_
  refine xe_mps xt_g300 rfl (q := 13) rfl (xf_13_149 fm) (by decide) rfl (by omega) (by omega) xi_int (Or.inl rfl) ?_
  refine xe_s (f := (14, _, xi (-1) :: _, _)) xt_g300 rfl rfl rfl rfl rfl ?_
  refine xe_iret xt_g300 rfl rfl xi_int.1 ?_
  obtain ⟨q1, G⟩ := hp1
  have R := rg_to G (fun h => absurd h (by decide))
  obtain ⟨w, B, z, r0, r1, r2, r3, r4, r5, r6, r7, r8, r9, ra⟩ := R
  have q : xq [2] [] s1 ar1 (xo_u s1 2 0) ar1 := xq_u xq_r (by decide)
  exact ⟨_, _, _, rfl, rfl, rfl, q1.1 0 (by decide), xo_wf_u w (by omega), B, z, rf_l0 rfl, rf_k1 r1 q rfl, rf_k2 r2 q rfl, rf_k3 r3 q rfl, rf_k4 r4 q rfl, r5, r6, rf_k7 r7 q (K := []) xs_r rfl, r8, rf_k9 r9 q rfl, rf_ka ra q rfl⟩
theorem xV_ask (hmn : xo_in m n) (h : rf s ar u) {a : pa_A} {f : Nat} {ft how : Int} {wi : Bool} (ha : pa_at ar ((40 : Nat) : Int) (pa_text a)) (ho : pa_ok a) (hf : f < 16) (hft : ft = 0 ∨ ft = 1) (hhow : xr how) (hq : 0 ≤ mu_fq u) : xV fm 280 m n h0 s ar [.ref m, xi (f : Int), xi ft, xi how, xi (xb wi)] (fun z s' ar' => z = mu_fq u ∧ xq [55, 62] [4, 5, 46, 47, 48, 49, 50, 51, 56, 57, 58, 59, 60, 61] s ar s' ar' ∧ rg s' ar' (mu_note u 1 (mu_fq u).toNat f (mu_rtx u a (decide (ft = 0) || wi))) (mu_fq u).toNat [] ∧ xs_F [16 + (mu_fq u).toNat] ar ar' ∧ pa_at ar' ((16 + (mu_fq u).toNat : Nat) : Int) (pa_text a) ∧ ar' 46 (mu_fq u).toNat = f ∧ ar' 47 (mu_fq u).toNat = ft ∧ ar' 48 (mu_fq u).toNat = how ∧ ar' 49 (mu_fq u).toNat = 0 ∧ ar' 50 (mu_fq u).toNat = 0 ∧ ar' 51 (mu_fq u).toNat = xb wi) := by
  show xe fm 280 (0, [(0, .ref m), (1, xi (f : Int)), (2, xi ft), (3, xi how), (4, xi (xb wi))], [], (xo m s ar h0, n, 0, 0)) _
  have G := rg_of h (mu_fq u).toNat
  have hfq := xd_first_r (p := fun r => (mu_rq u r.toNat).isNone) 24 0
  have hfq2 : mu_fq u < 24 := by unfold mu_fq at hq ⊢; omega
  have e0 := rf_fq h.2.2.2.2.2.2.2.2.2.1
  have w := h.1
  obtain ⟨r, hr⟩ := Int.eq_ofNat_of_zero_le hq
  rw [hr] at hfq2 e0 ⊢
  rw [hr, Int.toNat_natCast] at G
  have hr24 : r < 24 := by omega
  have hwx := xb_or wi
  -- the row is written
  generalize hA1 : xo_w (xo_w (xo_w (xo_w (xo_w ar 46 r (f : Int)) 47 r ft) 48 r how) 51 r (xb wi)) 49 r 0 = ar1
  have q1 : xq [] [46, 47, 48, 49, 51] s ar s ar1 := by
    rw [← hA1]
    exact xq_w (xq_w (xq_w (xq_w (xq_w xq_r (by decide)) (by decide)) (by decide)) (by decide)) (by decide)
  have w1 : xo_wf s ar1 := by
    rw [← hA1]
    exact xo_wf_w (xo_wf_w (xo_wf_w (xo_wf_w (xo_wf_w w (by omega)) (by omega)) hhow) (xb_r _)) (by omega)
  have B1 : xo_B ar1 := by
    rw [← hA1]
    exact xo_B_w (xo_B_w (xo_B_w (xo_B_w (xo_B_w h.2.1 (fun h => absurd h (by decide))) (fun h => absurd h (by decide))) (fun h => absurd h (by decide))) (fun _ => xb_or wi)) (fun h => absurd h (by decide))
  have v46 : ar1 46 r = f := by rw [← hA1, xo_wK (by decide), xo_wK (by decide), xo_wK (by decide), xo_wK (by decide), xo_wS]
  have v47 : ar1 47 r = ft := by rw [← hA1, xo_wK (by decide), xo_wK (by decide), xo_wK (by decide), xo_wS]
  have v48 : ar1 48 r = how := by rw [← hA1, xo_wK (by decide), xo_wK (by decide), xo_wS]
  have v51 : ar1 51 r = xb wi := by rw [← hA1, xo_wK (by decide), xo_wS]
  have v49 : ar1 49 r = 0 := by rw [← hA1, xo_wS]
  have vo : ∀ k j, j ≠ r → ar1 k j = ar k j := by
    intro k j hj
    rw [← hA1, xo_wI hj, xo_wI hj, xo_wI hj, xo_wI hj, xo_wI hj]
  have F1 : xs_F [] ar ar1 := xs_q q1 (by decide) (by decide)
  have G1 : rg s ar1 u r [] := by
    obtain ⟨w, B, z, r0, r1, r2, r3, r4, r5, r6, r7, r8, r9, ra⟩ := G
    refine ⟨w1, B1, ⟨z.1, z.2.1, xh_nil, z.2.2.2⟩, rf_k0 r0 q1 rfl, rf_k1 r1 q1 rfl, rf_k2 r2 q1 rfl, rf_k3 r3 q1 rfl, rf_k4 r4 q1 rfl, rf_k5 r5 q1 F1 rfl, ?_, rf_k7 r7 q1 F1 rfl, rf_k8 r8 q1 rfl, rf_k9 r9 q1 rfl, rf_ka ra q1 rfl⟩
    intro r' hr' hne
    exact rf_q1_k (r6 r' hr' hne) hr' (fun k _ _ => vo k r' hne) F1 ⟨by simp, by simp, by simp⟩
  have sd := xU_send fm hmn (h0 := h0) G1 hr24 (pa_at_c ha (q1.2 4 (by decide)) (q1.2 5 (by decide))) ho ⟨v46, by omega, by omega⟩ (wi := decide (ft = 0) || wi) (by rw [v47, v51]; cases wi <;> rcases hft with rfl | rfl <;> decide)
  refine xe_s (f := (1, _, _, _)) xt_g280 rfl rfl rfl rfl rfl ?_
  refine xe_cvI xt_g280 rfl (q := 4) rfl xk_13_380 rfl (by omega) xt_g276 (by decide) ⟨Nat.le_of_ble_eq_true rfl, Nat.le_of_ble_eq_true rfl, Nat.le_of_ble_eq_true rfl⟩ (xv_freeRequest fm hmn w) ?_
  rw [e0]
  refine xe_s (f := (6, [(5, _), (0, _), (1, _), (2, _), (3, _), (4, _)], _, _)) xt_g280 rfl rfl rfl rfl rfl ?_
  refine xe_s (f := (7, _, _, _)) xt_g280 rfl rfl rfl rfl rfl ?_
  refine xe_mga xt_g280 rfl (q := 10) rfl (xf_13_96 fm) (by decide) rfl (by omega) ?_
  try simp only [xo_u, xo_w, Nat.reduceEqDiff, reduceIte, false_and, true_and]
  refine xe_s (f := (12, _, _, _)) xt_g280 rfl rfl rfl rfl rfl ?_
  refine xe_s (f := (13, _, _, _)) xt_g280 rfl rfl rfl rfl rfl ?_
  refine xe_mas (ok := xm_isN) (ty := .int) xt_g280 rfl (q := 14) rfl (fun _ _ => ⟨rfl, rfl, rfl, rfl⟩) rfl rfl rfl (by omega) (by omega) (by omega) (by omega) (by omega) rfl ?_
  refine xe_s (f := (15, _, _, _)) xt_g280 rfl rfl rfl rfl rfl ?_
  refine xe_mga xt_g280 rfl (q := 18) rfl (xf_13_99 fm) (by decide) rfl (by omega) ?_
  try simp only [xo_u, xo_w, Nat.reduceEqDiff, reduceIte, false_and, true_and]
  refine xe_s (f := (20, _, _, _)) xt_g280 rfl rfl rfl rfl rfl ?_
  refine xe_s (f := (21, _, _, _)) xt_g280 rfl rfl rfl rfl rfl ?_
  refine xe_mas (ok := xm_isN) (ty := .int) xt_g280 rfl (q := 22) rfl (fun _ _ => ⟨rfl, rfl, rfl, rfl⟩) rfl rfl rfl (by omega) (by omega) (by omega) (by omega) (by omega) rfl ?_
  refine xe_s (f := (23, _, _, _)) xt_g280 rfl rfl rfl rfl rfl ?_
  refine xe_mga xt_g280 rfl (q := 26) rfl (xf_13_102 fm) (by decide) rfl (by omega) ?_
  try simp only [xo_u, xo_w, Nat.reduceEqDiff, reduceIte, false_and, true_and]
  refine xe_s (f := (28, _, _, _)) xt_g280 rfl rfl rfl rfl rfl ?_
  refine xe_s (f := (29, _, _, _)) xt_g280 rfl rfl rfl rfl rfl ?_
  refine xe_mas (ok := xm_isN) (ty := .int) xt_g280 rfl (q := 30) rfl (fun _ _ => ⟨rfl, rfl, rfl, rfl⟩) rfl rfl rfl (by omega) (by omega) (by omega) (by omega) (by omega) rfl ?_
  refine xe_s (f := (31, _, _, _)) xt_g280 rfl rfl rfl rfl rfl ?_
  refine xe_mga xt_g280 rfl (q := 34) rfl (xf_13_111 fm) (by decide) rfl (by omega) ?_
  try simp only [xo_u, xo_w, Nat.reduceEqDiff, reduceIte, false_and, true_and]
  refine xe_s (f := (36, _, _, _)) xt_g280 rfl rfl rfl rfl rfl ?_
  refine xe_s (f := (38, _, _, _)) xt_g280 rfl rfl rfl rfl rfl ?_
  refine xe_mas (ok := xm_isB) (ty := .boolean) xt_g280 rfl (q := 39) rfl (fun _ _ => ⟨rfl, rfl, rfl, rfl⟩) rfl rfl rfl (by omega) (by omega) (by omega) (by omega) (by omega) (xi_nb (by first | omega | exact xb_or _)) ?_
  refine xe_s (f := (40, _, _, _)) xt_g280 rfl rfl rfl rfl rfl ?_
  refine xe_mga xt_g280 rfl (q := 43) rfl (xf_13_105 fm) (by decide) rfl (by omega) ?_
  try simp only [xo_u, xo_w, Nat.reduceEqDiff, reduceIte, false_and, true_and]
  refine xe_s (f := (45, _, _, _)) xt_g280 rfl rfl rfl rfl rfl ?_
  refine xe_s (f := (46, _, xi 0 :: _, _)) xt_g280 rfl rfl rfl rfl rfl ?_
  refine xe_mas (ok := xm_isN) (ty := .int) xt_g280 rfl (q := 47) rfl (fun _ _ => ⟨rfl, rfl, rfl, rfl⟩) rfl rfl rfl (by omega) (by omega) (by omega) (by omega) (by omega) rfl ?_
  rw [Int.toNat_natCast, hA1]
  refine xe_s (f := (48, _, _, _)) xt_g280 rfl rfl rfl rfl rfl ?_
  refine xe_s (f := (50, _, _, _)) xt_g280 rfl rfl rfl rfl rfl ?_
  refine xe_chV xt_g280 rfl (q := 53) rfl xk_13_383 rfl (by omega) xt_g281 (by decide) ⟨Nat.le_of_ble_eq_true rfl, Nat.le_of_ble_eq_true rfl, Nat.le_of_ble_eq_true rfl⟩ (sd) (fun s2 ar2 hp2 => ?_)
  refine xe_s (f := (55, _, _, _)) xt_g280 rfl rfl rfl rfl rfl ?_
  refine xe_iret xt_g280 rfl rfl xi_int.1 ?_
  obtain ⟨q2, G2, F2, A2, z50, o50⟩ := hp2
  refine ⟨_, _, _, rfl, rfl, rfl, xq_t (xq_mm q1 (by decide) (by decide)) (xq_mm q2 (by decide) (by decide)), G2, xs_t (xs_m F1 (by simp)) F2, A2, ?_, ?_, ?_, ?_, z50, ?_⟩
  · rw [q2.2 46 (by decide)]; exact v46
  · rw [q2.2 47 (by decide)]; exact v47
  · rw [q2.2 48 (by decide)]; exact v48
  · rw [q2.2 49 (by decide)]; exact v49
  · rw [q2.2 51 (by decide)]; exact v51
/-- a request is taken away -/
theorem rf_dropq (h : rf s ar u) {r : Nat} (hr : r < 24) {s1 : Nat → Int} (hs : s1 = s) : rf s1 (xo_w ar 46 r (-1)) (mu_srq u (mu_up (mu_rq u) r none)) := by
  subst hs
  obtain ⟨w, B, z, r0, r1, r2, r3, r4, r5, r6, r7, r8, r9, ra⟩ := h
  have q : xq [] [46] s1 ar s1 (xo_w ar 46 r (-1)) := xq_w xq_r (by decide)
  have F : xs_F [] ar (xo_w ar 46 r (-1)) := xs_q q (by decide) (by decide)
  refine ⟨xo_wf_w w (by omega), xo_B_w B (fun h => absurd h (by decide)), z, rf_k0 r0 q rfl, rf_k1 r1 q rfl, rf_k2 r2 q rfl, rf_k3 r3 q rfl, rf_k4 r4 q rfl, rf_k5 r5 q F rfl, ?_, rf_k7 r7 q F rfl, rf_k8 r8 q rfl, rf_k9 r9 q rfl, rf_ka ra q rfl⟩
  intro r' hr'
  show rf_q1 _ r' (mu_up (mu_rq u) r none r')
  by_cases e : r' = r
  · subst e
    rw [mu_upS]
    show xo_w ar 46 r' (-1) 46 r' < 0
    rw [xo_wS]
    decide
  · rw [mu_upN e]
    refine rf_q1_k (r6 r' hr') hr' (fun k _ _ => xo_wI e) F ⟨by simp, by simp, by simp⟩
theorem xV_go (hmn : xo_in m n) (h : rf s ar u) {a : pa_A} {f : Nat} (ha : pa_at ar ((40 : Nat) : Int) (pa_text a)) (ho : pa_ok a) (hf : f < 16) : xV fm 278 m n h0 s ar [.ref m, xi (f : Int)] (fun z s' ar' => z = (mu_go u f a).1 ∧ s' 0 = s 0 ∧ rf s' ar' (mu_go u f a).2) := by
  show xe fm 278 (0, [(0, .ref m), (1, xi (f : Int))], [], (xo m s ar h0, n, 0, 0)) _
  have w := h.1
  have e1 := rf_nv h.2.2.2.2.2.2.2.2.2.1 (f := (f : Int)) (by omega)
  have hnv := xd_first_r (p := fun r => mq_nv f (mu_rq u r.toNat)) 24 0
  have hnv2 : mu_nv u f = -1 ∨ (0 ≤ mu_nv u f ∧ mu_nv u f < 24) := by unfold mu_nv; omega
  have main : ∀ (ar1 : Nat → Nat → Int) (v2 : Int), rf s ar1 (mu_go1 u f) → pa_at ar1 ((40 : Nat) : Int) (pa_text a) → xe fm 278 (17, [(2, xi v2), (0, .ref m), (1, xi (f : Int))], [], (xo m s ar1 h0, n, 0, 0)) (xQI m n h0 (fun z s' ar' => z = (mu_go u f a).1 ∧ s' 0 = s 0 ∧ rf s' ar' (mu_go u f a).2)) := by
    intro ar1 v2 h1 ha1
    have e2 := rf_fq h1.2.2.2.2.2.2.2.2.2.1
    have hfq := xd_first_r (p := fun r => (mu_rq (mu_go1 u f) r.toNat).isNone) 24 0
    have hfq2 : mu_fq (mu_go1 u f) = -1 ∨ (0 ≤ mu_fq (mu_go1 u f) ∧ mu_fq (mu_go1 u f) < 24) := by unfold mu_fq; omega
    refine xe_s (f := (18, _, _, _)) xt_g278 rfl rfl rfl rfl rfl ?_
    refine xe_cvI xt_g278 rfl (q := 21) rfl xk_13_380 rfl (by omega) xt_g276 (by decide) ⟨Nat.le_of_ble_eq_true rfl, Nat.le_of_ble_eq_true rfl, Nat.le_of_ble_eq_true rfl⟩ (xv_freeRequest fm hmn h1.1) ?_
    rw [e2]
    refine xe_if_ge xt_g278 rfl (t := 28) rfl (q := 24) rfl (by first | omega | exact hw.1 _ | exact hw.2 _ _ | exact xb_r _) (fun h21 => ?_) (fun h21 => ?_)
    · try simp only [xb_0, xb_1, ne_eq, Decidable.not_not, decide_eq_true_eq, decide_eq_false_iff_not] at h21
      refine xe_s (f := (29, _, _, _)) xt_g278 rfl rfl rfl rfl rfl ?_
      refine xe_s (f := (30, _, _, _)) xt_g278 rfl rfl rfl rfl rfl ?_
      refine xe_s (f := (31, _, xi 0 :: _, _)) xt_g278 rfl rfl rfl rfl rfl ?_
      refine xe_s (f := (32, _, xi 0 :: _, _)) xt_g278 rfl rfl rfl rfl rfl ?_
      refine xe_s (f := (33, _, xi 1 :: _, _)) xt_g278 rfl rfl rfl rfl rfl ?_
      refine xe_chI xt_g278 rfl (q := 36) rfl xk_13_399 rfl (by omega) xt_g280 (by decide) ⟨Nat.le_of_ble_eq_true rfl, Nat.le_of_ble_eq_true rfl, Nat.le_of_ble_eq_true rfl⟩ (xV_ask fm hmn h1 (wi := true) (how := 0) (ft := 0) ha1 ho hf (Or.inl rfl) (by omega) h21) (fun z2 s2 ar2 hp2 => ?_)
      obtain ⟨p1, p2, p3, p4, p5, p6, p7, p8, p9, p10, p11⟩ := hp2
      refine xe_iret xt_g278 rfl rfl xi_int.1 ?_
      unfold mu_go
      rw [if_neg (by omega)]
      refine ⟨_, _, _, rfl, rfl, p1, p2.1 0 (by decide), ?_⟩
      generalize (mu_fq (mu_go1 u f)).toNat = r at *
      have e3 : mu_send (mu_go1 u f) r (f, none, 0, a, none) = mu_srq (mu_note (mu_go1 u f) 1 r f (mu_rtx (mu_go1 u f) a (decide ((0 : Int) = 0) || true))) (mu_up (mu_rq (mu_go1 u f)) r (some (f, none, 0, a, none))) := rfl
      show rf s2 ar2 (mu_send (mu_go1 u f) r (f, none, 0, a, none))
      rw [e3]
      obtain ⟨w2, B2, z2, r0, r1, r2, r3, r4, r5, r6, r7, r8, r9, ra⟩ := p3
      refine ⟨w2, B2, z2.1, ?_, ?_, ?_, ?_, ?_, ?_, ?_, ?_, ?_, ?_, ?_⟩
      · exact r0
      · exact r1
      · exact r2
      · exact r3
      · exact r4
      · exact r5
      · intro r' hr'
        show rf_q1 ar2 r' (mu_up (mu_rq (mu_go1 u f)) r (some (f, none, 0, a, none)) r')
        by_cases e : r' = r
        · subst e
          rw [mu_upS]
          exact ⟨p6, by show 0 ≤ (f : Int); omega, by show (f : Int) < 16; omega, p9, by show (0 : Int) ≤ 0; omega, by show (0 : Int) ≤ 5; omega, p5, ho, p7, p10⟩
        · rw [mu_upN e, ← mu_note_rq (u := mu_go1 u f) (k := 1) (a := r) (b := f) (t := mu_rtx (mu_go1 u f) a (decide ((0 : Int) = 0) || true))]
          exact r6 r' hr' e
      · exact r7
      · exact r8
      · exact r9
      · exact ra
    · try simp only [xb_0, xb_1, ne_eq, Decidable.not_not, decide_eq_true_eq, decide_eq_false_iff_not] at h21
      refine xe_s (f := (25, _, xi (-1) :: _, _)) xt_g278 rfl rfl rfl rfl rfl ?_
      refine xe_s (f := (36, _, _, _)) xt_g278 rfl rfl rfl rfl rfl ?_
      refine xe_iret xt_g278 rfl rfl xi_int.1 ?_
      unfold mu_go
      rw [if_pos (by omega)]
      exact ⟨_, _, _, rfl, rfl, rfl, rfl, h1⟩
  refine xe_s (f := (1, _, _, _)) xt_g278 rfl rfl rfl rfl rfl ?_
  refine xe_s (f := (2, _, _, _)) xt_g278 rfl rfl rfl rfl rfl ?_
  refine xe_cvI xt_g278 rfl (q := 5) rfl xk_13_396 rfl (by omega) xt_g279 (by decide) ⟨Nat.le_of_ble_eq_true rfl, Nat.le_of_ble_eq_true rfl, Nat.le_of_ble_eq_true rfl⟩ (xv_navigationOf fm hmn w (by omega)) ?_
  rw [e1]
  refine xe_s (f := (6, [(2, _), (0, _), (1, _)], _, _)) xt_g278 rfl rfl rfl rfl rfl ?_
  refine xe_s (f := (7, _, _, _)) xt_g278 rfl rfl rfl rfl rfl ?_
  refine xe_if_lt xt_g278 rfl (t := 17) rfl (q := 10) rfl (by first | omega | exact hw.1 _ | exact hw.2 _ _ | exact xb_r _) (fun h7 => ?_) (fun h7 => ?_)
  · try simp only [xb_0, xb_1, ne_eq, Decidable.not_not, decide_eq_true_eq, decide_eq_false_iff_not] at h7
    refine main ar _ ?_ ha
    unfold mu_go1
    rw [if_neg (by omega)]
    exact h
  · try simp only [xb_0, xb_1, ne_eq, Decidable.not_not, decide_eq_true_eq, decide_eq_false_iff_not] at h7
    refine xe_s (f := (11, _, _, _)) xt_g278 rfl rfl rfl rfl rfl ?_
    refine xe_mga xt_g278 rfl (q := 14) rfl (xf_13_96 fm) (by decide) rfl (by omega) ?_
    try simp only [xo_u, xo_w, Nat.reduceEqDiff, reduceIte, false_and, true_and]
    refine xe_s (f := (15, _, _, _)) xt_g278 rfl rfl rfl rfl rfl ?_
    refine xe_s (f := (16, _, xi (-1) :: _, _)) xt_g278 rfl rfl rfl rfl rfl ?_
    refine xe_mas (ok := xm_isN) (ty := .int) xt_g278 rfl (q := 17) rfl (fun _ _ => ⟨rfl, rfl, rfl, rfl⟩) rfl rfl rfl (by omega) (by omega) (by omega) (by omega) (by omega) rfl ?_
    refine main _ _ ?_ (pa_at_c ha (xo_wK (by decide)) (xo_wK (by decide)))
    unfold mu_go1
    rw [if_pos (by omega)]
    exact rf_dropq h (by omega) rfl
end XAK
