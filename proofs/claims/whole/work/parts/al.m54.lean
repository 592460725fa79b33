/-! the reference: about, suffix, pass, message, letter, clear, shown over the shared state -/
def mu_suffix (u : mu_T) : Int × mu_T := (sf_ans (mu_sf u) (sf_new (lt (mu_ln u)) ((mu_ln u).length : Int) (mu_sf u)), mu_sln (mu_ssf u (sf_add (mu_sf u) (sf_new (lt (mu_ln u)) ((mu_ln u).length : Int) (mu_sf u)))) [])
def mu_pass (u : mu_T) (k : Int) : Int × mu_T := if k < 0 ∨ 1000000000 < mu_tm u + k then (-1, u) else (mu_tm u + k, mu_stm u (mu_tm u + k))
def ms_w (x : ms_T) (w : Int) : Int := if w = 0 then x.1 else if w = 1 then x.2.1 else if w = 2 then x.2.2.1 else (x.2.2.2.length : Int)
def mu_msg (u : mu_T) (k w : Int) : Int := if k < 0 ∨ ((mu_ms u).length : Int) ≤ k ∨ w < 0 ∨ 3 < w then -1 else ms_w ((mu_ms u).getD k.toNat ms_0) w
def mu_letter (u : mu_T) (k j : Int) : Int := if 0 ≤ k ∧ k < ((mu_ms u).length : Int) ∧ 0 ≤ j ∧ j < (((mu_ms u).getD k.toNat ms_0).2.2.2.length : Int) then ((mu_ms u).getD k.toNat ms_0).2.2.2.getD j.toNat 0 else -1
def mu_shown (u : mu_T) (k : Int) : Int := if 0 ≤ k ∧ k < ((mu_sh u).length : Int) then (mu_sh u).getD k.toNat 0 else -1
section XAB
variable (fm : Value) {m n : Nat} {h0 : xm_H} {s : Nat → Int} {ar : Nat → Nat → Int} {u : mu_T}
theorem xV_sfx (hmn : xo_in m n) (h : rf s ar u) : xV fm 246 m n h0 s ar [.ref m] (fun z s' ar' => z = (mu_suffix u).1 ∧ s' 0 = 0 ∧ rf s' ar' (mu_suffix u).2) := by
  obtain ⟨w, B, z6, r0, r1, r2, r3, r4, r5, r6, r7, r8, r9, ra⟩ := h
  have hl := rf_line_t r0
  refine xV_mono (xV_suffix fm hmn w r1 ⟨hl.1, hl.2.1⟩) ?_
  rintro z s' ar' ⟨w', q, g0, g2, gz, gs⟩
  rw [rf_line_at r0, r0.1] at gz gs
  have F : xs_F [] ar ar' := xs_q q (by decide) (by decide)
  exact ⟨gz, g0, w', xo_B_q B q (by decide), by rw [q.1 62 (by decide)]; exact z6, rf_l0 g2, gs, rf_k2 r2 q rfl, rf_k3 r3 q rfl, rf_k4 r4 q rfl, rf_k5 r5 q F rfl, rf_k6 r6 q F rfl, rf_k7 r7 q F rfl, rf_k8 r8 q rfl, rf_k9 r9 q rfl, rf_ka ra q rfl⟩
theorem xV_pass (hmn : xo_in m n) (h : rf s ar u) {k : Int} (hk : xr k) : xV fm 255 m n h0 s ar [.ref m, xi k] (fun z s' ar' => z = (mu_pass u k).1 ∧ s' 0 = 0 ∧ rf s' ar' (mu_pass u k).2) := by
  have hh := h
  obtain ⟨w, B, z6, r0, r1, r2, r3, r4, r5, r6, r7, r8, r9, ra⟩ := h
  have e18 := r2.2.2.2.1
  refine xV_of (xv_pass fm hmn w hk (by have := r2.2.2.2; omega)) ?_
  unfold mu_pass
  rw [e18]
  split
  · exact ⟨rfl, rfl, rf_s0 hh (by omega)⟩
  · rename_i hn
    have r2t := r2.2.2.2.2
    have q : xq [0, 18] [] s ar (xo_u (xo_u s 0 0) 18 (mu_tm u + k)) ar := xq_u (xq_u xq_r (by decide)) (by decide)
    exact ⟨rfl, rfl, xo_wf_u (xo_wf_u w (by omega)) (by omega), B, z6, rf_k0 r0 q rfl, rf_k1 r1 q rfl, ⟨r2.1, r2.2.1, r2.2.2.1, xo_uS, by show 0 ≤ mu_tm u + k; omega, by show mu_tm u + k ≤ 1000000000; omega⟩, rf_k3 r3 q rfl, rf_k4 r4 q rfl, r5, r6, rf_k7 r7 q (K := []) xs_r rfl, r8, rf_k9 r9 q rfl, rf_ka ra q rfl⟩
theorem xV_message (hmn : xo_in m n) (h : rf s ar u) {k w : Int} (hk : xr k) (hwr : xr w) : xV fm 344 m n h0 s ar [.ref m, xi k, xi w] (fun z s' ar' => z = mu_msg u k w ∧ s' 0 = 0 ∧ rf s' ar' u) := by
  have r9 := h.2.2.2.2.2.2.2.2.2.2.2.2.1
  obtain ⟨y1, y2, y3, y4⟩ := r9
  refine xV_of (xv_message fm hmn h.1 hk hwr (by omega)) ⟨?_, rfl, rf_s0 h (by omega)⟩
  unfold xd_msg mu_msg
  rw [y1]
  split
  · rfl
  · rename_i hn
    obtain ⟨c1, c2, c3, c4, _, _⟩ := y4 k.toNat (by omega)
    unfold ms_w
    rw [c1, c2, c3, c4]
theorem xV_letter (hmn : xo_in m n) (h : rf s ar u) {k j : Int} (hk : xr k) (hj : xr j) : xV fm 345 m n h0 s ar [.ref m, xi k, xi j] (fun z s' ar' => z = mu_letter u k j ∧ s' 0 = 0 ∧ rf s' ar' u) := by
  have r9 := h.2.2.2.2.2.2.2.2.2.2.2.2.1
  obtain ⟨y1, y2, y3, y4⟩ := r9
  refine xV_of (xv_letter fm hmn h.1 hk hj (by omega) y3) ⟨?_, rfl, rf_s0 h (by omega)⟩
  unfold mu_letter
  rw [y1]
  by_cases hb : 0 ≤ k ∧ k < ((mu_ms u).length : Int)
  · obtain ⟨c1, c2, c3, c4, c5, c6⟩ := y4 k.toNat (by omega)
    rw [c4]
    split
    · rename_i hc
      have := c6 j.toNat (by omega)
      rw [← this]
      congr 1
      omega
    · rfl
  · rw [if_neg (fun hc => hb ⟨hc.1, hc.2.1⟩), if_neg (fun hc => hb ⟨hc.1, hc.2.1⟩)]
theorem xV_shown (hmn : xo_in m n) (h : rf s ar u) {k : Int} (hk : xr k) : xV fm 347 m n h0 s ar [.ref m, xi k] (fun z s' ar' => z = mu_shown u k ∧ s' 0 = 0 ∧ rf s' ar' u) := by
  have ra := h.2.2.2.2.2.2.2.2.2.2.2.2.2
  obtain ⟨y1, y2, y3⟩ := ra
  refine xV_of (xv_shown fm hmn h.1 hk (by omega)) ⟨?_, rfl, rf_s0 h (by omega)⟩
  unfold mu_shown
  rw [y1]
  split
  · rename_i hc
    have := y3 k.toNat (by omega)
    rw [Nat.zero_add] at this
    exact this
  · rfl
theorem xU_clear (hmn : xo_in m n) (h : rf s ar u) : xU fm 346 m n h0 s ar [.ref m] (fun s' ar' => s' 0 = 0 ∧ rf s' ar' (mu_sms u [])) := by
  obtain ⟨w, B, z6, r0, r1, r2, r3, r4, r5, r6, r7, r8, r9, ra⟩ := h
  have q : xq [0, 55] [] s ar (xo_u (xo_u s 0 0) 55 0) ar := xq_u (xq_u xq_r (by decide)) (by decide)
  exact xU_of (xv_clear fm hmn) ⟨rfl, xo_wf_u (xo_wf_u w (by omega)) (by omega), B, z6, rf_k0 r0 q rfl, rf_k1 r1 q rfl, rf_k2 r2 q rfl, rf_k3 r3 q rfl, rf_k4 r4 q rfl, r5, r6, rf_k7 r7 q (K := []) xs_r rfl, r8, ⟨rfl, Nat.zero_le _, r9.2.2.1, fun k hk => absurd hk (Nat.not_lt_zero k)⟩, rf_ka ra q rfl⟩
theorem xv_alive (hmn : xo_in m n) (h : rf s ar u) : xv fm 343 m n h0 s ar [.ref m] (some (xi ((ck_nov (mu_tm u) (mu_ck u)).length : Int))) s ar := by
  show xe fm 343 (0, [(0, .ref m)], [], (xo m s ar h0, n, 0, 0)) _
  have r3 := h.2.2.2.2.2.2.1
  have r2 := h.2.2.2.2.2.1
  have g19 := r3.1.1
  have h40 := r3.2.1
  have loop : ∀ (N k c : Nat), k + N = (mu_ck u).length → c + (ck_nov (mu_tm u) ((mu_ck u).drop k)).length = (ck_nov (mu_tm u) (mu_ck u)).length → xe fm 343 (4, [(2, xi (k : Int)), (1, xi (c : Int)), (0, .ref m)], [], (xo m s ar h0, n, 0, 0)) (fun r M => r = .inl (some (xi ((ck_nov (mu_tm u) (mu_ck u)).length : Int))) ∧ M = (xo m s ar h0, n, 0, 0)) := by
    intro N
    induction N with
    | zero =>
      intro k c hk hc
      rw [List.drop_of_length_le (by omega)] at hc
      have hc2 : c = (ck_nov (mu_tm u) (mu_ck u)).length := by simpa [ck_nov] using hc
      rw [← hc2]
      refine xe_s (f := (5, _, _, _)) xt_g343 rfl rfl rfl rfl rfl ?_
      refine xe_s (f := (6, _, _, _)) xt_g343 rfl rfl rfl rfl rfl ?_
      refine xe_mgs xt_g343 rfl (q := 9) rfl (xf_13_265 fm) (by decide) rfl (by omega) ?_
      try simp only [xo_u, xo_w, Nat.reduceEqDiff, reduceIte, false_and, true_and]
      rw [g19]
      refine xe_ic_ge xt_g343 rfl (t := 34) rfl (q := 12) rfl (by first | omega | exact hw.1 _ | exact hw.2 _ _ | exact xb_r _) (by first | omega | exact hw.1 _ | exact hw.2 _ _ | exact xb_r _) (fun h9 => ?_) (fun h9 => ?_)
      · refine xe_s (f := (35, _, _, _)) xt_g343 rfl rfl rfl rfl rfl ?_
        refine xe_iret xt_g343 rfl rfl xi_int.1 ?_
        exact ⟨rfl, rfl⟩
      · exact absurd h9 (by omega)
    | succ N ih =>
      intro k c hk hc
      have hlt : k < (mu_ck u).length := by omega
      have hov := xd_over_c (s := s) (r3.1.2.2 k hlt)
      rw [r2.2.2.2.1] at hov
      rw [ck_getD hlt] at hc
      have j26 : ∀ v : Int, v = (if ck_io (mu_tm u) ((mu_ck u).getD k ck_0) = true then 0 else 1) → xe fm 343 (26, [(2, xi (k : Int)), (1, xi (c : Int)), (0, .ref m)], [xi v, xi (c : Int)], (xo m s ar h0, n, 0, 0)) (fun r M => r = .inl (some (xi ((ck_nov (mu_tm u) (mu_ck u)).length : Int))) ∧ M = (xo m s ar h0, n, 0, 0)) := by
        intro v hv
        unfold ck_nov at hc
        by_cases ho : ck_io (mu_tm u) ((mu_ck u).getD k ck_0) = true
        · rw [if_pos ho] at hv
          rw [List.filter_cons_of_neg (by rw [ho]; decide)] at hc
          have h3 := ih (k + 1) c (by omega) hc
          rw [hv]
          refine xe_iadd xt_g343 rfl (q := 27) rfl ?_
          refine xe_s (f := (28, [(1, _), (2, _), (0, _)], _, _)) xt_g343 rfl rfl rfl rfl rfl ?_
          refine xe_iinc xt_g343 rfl (q := 31) rfl rfl (by decide) (L1 := [(2, _), (1, _), (0, _)]) rfl ?_
          refine xe_s (f := (4, _, _, _)) xt_g343 rfl rfl rfl rfl rfl ?_
          rw [show (c : Int) + 0 = (c : Int) by omega, show (k : Int) + 1 = ((k + 1 : Nat) : Int) by omega]
          exact xe_loc (by intro q hq; simp only [List.mem_cons, List.not_mem_nil, or_false] at hq; rcases hq with rfl | rfl | rfl <;> rfl) (h3)
        · rw [if_neg ho] at hv
          rw [List.filter_cons_of_pos (by simpa using ho), List.length_cons] at hc
          have h3 := ih (k + 1) (c + 1) (by omega) (by unfold ck_nov; omega)
          rw [hv]
          refine xe_iadd xt_g343 rfl (q := 27) rfl ?_
          refine xe_s (f := (28, [(1, _), (2, _), (0, _)], _, _)) xt_g343 rfl rfl rfl rfl rfl ?_
          refine xe_iinc xt_g343 rfl (q := 31) rfl rfl (by decide) (L1 := [(2, _), (1, _), (0, _)]) rfl ?_
          refine xe_s (f := (4, _, _, _)) xt_g343 rfl rfl rfl rfl rfl ?_
          rw [show (c : Int) + 1 = ((c + 1 : Nat) : Int) by omega, show (k : Int) + 1 = ((k + 1 : Nat) : Int) by omega]
          exact xe_loc (by intro q hq; simp only [List.mem_cons, List.not_mem_nil, or_false] at hq; rcases hq with rfl | rfl | rfl <;> rfl) (h3)
      refine xe_s (f := (5, _, _, _)) xt_g343 rfl rfl rfl rfl rfl ?_
      refine xe_s (f := (6, _, _, _)) xt_g343 rfl rfl rfl rfl rfl ?_
      refine xe_mgs xt_g343 rfl (q := 9) rfl (xf_13_265 fm) (by decide) rfl (by omega) ?_
      try simp only [xo_u, xo_w, Nat.reduceEqDiff, reduceIte, false_and, true_and]
      rw [g19]
      refine xe_ic_ge xt_g343 rfl (t := 34) rfl (q := 12) rfl (by first | omega | exact hw.1 _ | exact hw.2 _ _ | exact xb_r _) (by first | omega | exact hw.1 _ | exact hw.2 _ _ | exact xb_r _) (fun h9 => ?_) (fun h9 => ?_)
      · exact absurd h9 (by omega)
      · refine xe_s (f := (13, _, _, _)) xt_g343 rfl rfl rfl rfl rfl ?_
        refine xe_s (f := (14, _, _, _)) xt_g343 rfl rfl rfl rfl rfl ?_
        refine xe_s (f := (15, _, _, _)) xt_g343 rfl rfl rfl rfl rfl ?_
        refine xe_cvI xt_g343 rfl (q := 18) rfl xk_13_278 rfl (by omega) xt_g287 (by decide) ⟨Nat.le_of_ble_eq_true rfl, Nat.le_of_ble_eq_true rfl, Nat.le_of_ble_eq_true rfl⟩ (xv_isOver fm hmn h.1 (by omega)) ?_
        rw [hov]
        refine xe_if_eq xt_g343 rfl (t := 25) rfl (q := 21) rfl (by first | omega | exact hw.1 _ | exact hw.2 _ _ | exact xb_r _) (fun h18 => ?_) (fun h18 => ?_)
        · try simp only [xb_0, xb_1, ne_eq, Decidable.not_not, decide_eq_true_eq, decide_eq_false_iff_not] at h18
          refine xe_s (f := (26, _, xi 1 :: _, _)) xt_g343 rfl rfl rfl rfl rfl ?_
          exact j26 _ (by rw [if_neg (by rw [h18]; decide)])
        · try simp only [xb_0, xb_1, ne_eq, Decidable.not_not, decide_eq_true_eq, decide_eq_false_iff_not] at h18
          refine xe_s (f := (22, _, xi 0 :: _, _)) xt_g343 rfl rfl rfl rfl rfl ?_
          refine xe_s (f := (26, _, _, _)) xt_g343 rfl rfl rfl rfl rfl ?_
          exact j26 _ (by rw [if_pos (by simpa using h18)])
  refine xe_s (f := (1, _, xi 0 :: _, _)) xt_g343 rfl rfl rfl rfl rfl ?_
  refine xe_s (f := (2, [(1, _), (0, _)], _, _)) xt_g343 rfl rfl rfl rfl rfl ?_
  refine xe_s (f := (3, _, xi 0 :: _, _)) xt_g343 rfl rfl rfl rfl rfl ?_
  refine xe_s (f := (4, [(2, _), (1, _), (0, _)], _, _)) xt_g343 rfl rfl rfl rfl rfl ?_
  exact xe_loc (by intro q hq; simp only [List.mem_cons, List.not_mem_nil, or_false] at hq; rcases hq with rfl | rfl | rfl <;> rfl) (loop (mu_ck u).length 0 0 (by omega) (by rw [List.drop_zero]; omega))
theorem xv_aboutFrame (hmn : xo_in m n) (h : rf s ar u) {f w : Int} (hfr : xr f) (hwr : xr w) : xv fm 342 m n h0 s ar [.ref m, xi f, xi w] (some (xi (mu_abf u f w))) s ar := by
  show xe fm 342 (0, [(0, .ref m), (1, xi f), (2, xi w)], [], (xo m s ar h0, n, 0, 0)) _
  have e1 := rf_if h (f := f)
  generalize hR : mu_abf u f w = R
  unfold mu_abf at hR
  refine xe_s (f := (1, _, _, _)) xt_g342 rfl rfl rfl rfl rfl ?_
  refine xe_s (f := (2, _, _, _)) xt_g342 rfl rfl rfl rfl rfl ?_
  refine xe_cvI xt_g342 rfl (q := 5) rfl xk_13_428 rfl (by omega) xt_g298 (by decide) ⟨Nat.le_of_ble_eq_true rfl, Nat.le_of_ble_eq_true rfl, Nat.le_of_ble_eq_true rfl⟩ (xv_isFrame fm hmn h.1 hfr) ?_
  rw [e1]
  refine xe_if_ne xt_g342 rfl (t := 10) rfl (q := 8) rfl (by first | omega | exact hw.1 _ | exact hw.2 _ _ | exact xb_r _) (fun h5 => ?_) (fun h5 => ?_)
  · try simp only [xb_0, xb_1, ne_eq, Decidable.not_not, decide_eq_true_eq, decide_eq_false_iff_not] at h5
    have hb : mu_if u f = true := by simpa using h5
    rw [if_pos hb] at hR
    obtain ⟨F, x, rfl, hF, hx⟩ := mu_if_s hb
    obtain ⟨x1, x2, x3, x4, x5, x6, x7, x8⟩ := rf_f h hF hx
    have a42 : ar 42 (F : Int).toNat = x.1 := x1
    have a43 : ar 43 (F : Int).toNat = x.2.1 := x4
    have a44 : ar 44 (F : Int).toNat = xb x.2.2.isSome := x7
    have ead : mu_ad u F = x.2.2 := by
      unfold mu_ad
      rw [Int.toNat_natCast, hx]
    rw [ead, Int.toNat_natCast, hx] at hR
    have e2 := rf_nv h.2.2.2.2.2.2.2.2.2.1 (f := (F : Int)) (by omega)
    have hnv := xd_first_r (p := fun r => mq_nv F (mu_rq u r.toNat)) 24 0
    refine xe_s (f := (11, _, _, _)) xt_g342 rfl rfl rfl rfl rfl ?_
    refine xe_s (f := (12, _, xi 1 :: _, _)) xt_g342 rfl rfl rfl rfl rfl ?_
    refine xe_ic_ne xt_g342 rfl (t := 24) rfl (q := 15) rfl (by first | omega | exact hw.1 _ | exact hw.2 _ _ | exact xb_r _) (by first | omega | exact hw.1 _ | exact hw.2 _ _ | exact xb_r _) (fun h12 => ?_) (fun h12 => ?_)
    · refine xe_s (f := (25, _, _, _)) xt_g342 rfl rfl rfl rfl rfl ?_
      refine xe_s (f := (26, _, xi 2 :: _, _)) xt_g342 rfl rfl rfl rfl rfl ?_
      refine xe_ic_ne xt_g342 rfl (t := 38) rfl (q := 29) rfl (by first | omega | exact hw.1 _ | exact hw.2 _ _ | exact xb_r _) (by first | omega | exact hw.1 _ | exact hw.2 _ _ | exact xb_r _) (fun h26 => ?_) (fun h26 => ?_)
      · refine xe_s (f := (39, _, _, _)) xt_g342 rfl rfl rfl rfl rfl ?_
        refine xe_s (f := (40, _, xi 3 :: _, _)) xt_g342 rfl rfl rfl rfl rfl ?_
        refine xe_ic_ne xt_g342 rfl (t := 60) rfl (q := 43) rfl (by first | omega | exact hw.1 _ | exact hw.2 _ _ | exact xb_r _) (by first | omega | exact hw.1 _ | exact hw.2 _ _ | exact xb_r _) (fun h40 => ?_) (fun h40 => ?_)
        · refine xe_s (f := (61, _, _, _)) xt_g342 rfl rfl rfl rfl rfl ?_
          refine xe_s (f := (62, _, _, _)) xt_g342 rfl rfl rfl rfl rfl ?_
          refine xe_cvI xt_g342 rfl (q := 65) rfl xk_13_396 rfl (by omega) xt_g279 (by decide) ⟨Nat.le_of_ble_eq_true rfl, Nat.le_of_ble_eq_true rfl, Nat.le_of_ble_eq_true rfl⟩ (xv_navigationOf fm hmn h.1 (by omega)) ?_
          rw [e2]
          refine xe_iret xt_g342 rfl rfl xi_int.1 ?_
          rw [if_neg (by omega), if_neg (by omega), if_neg (by omega)] at hR
          rw [← hR]
          exact ⟨rfl, rfl⟩
        · refine xe_s (f := (44, _, _, _)) xt_g342 rfl rfl rfl rfl rfl ?_
          refine xe_mga xt_g342 rfl (q := 47) rfl (xf_13_90 fm) (by decide) rfl (by omega) ?_
          try simp only [xo_u, xo_w, Nat.reduceEqDiff, reduceIte, false_and, true_and]
          refine xe_s (f := (48, _, _, _)) xt_g342 rfl rfl rfl rfl rfl ?_
          refine xe_mal (ok := xm_isB) (ty := .boolean) xt_g342 rfl (q := 49) rfl (fun _ _ => ⟨rfl, rfl, rfl, rfl⟩) rfl rfl rfl (by omega) (by omega) (by omega) (by omega) ?_
          try simp only [xo_u, xo_w, Nat.reduceEqDiff, reduceIte, false_and, true_and]
          rw [a44]
          refine xe_if_eq xt_g342 rfl (t := 56) rfl (q := 52) rfl (by first | omega | exact hw.1 _ | exact hw.2 _ _ | exact xb_r _) (fun h49 => ?_) (fun h49 => ?_)
          · try simp only [xb_0, xb_1, ne_eq, Decidable.not_not, decide_eq_true_eq, decide_eq_false_iff_not] at h49
            refine xe_s (f := (57, _, xi 0 :: _, _)) xt_g342 rfl rfl rfl rfl rfl ?_
            refine xe_s (f := (65, _, _, _)) xt_g342 rfl rfl rfl rfl rfl ?_
            refine xe_iret xt_g342 rfl rfl xi_int.1 ?_
            rw [if_neg (by omega), if_neg (by omega), if_pos (by omega), h49] at hR
            rw [← hR]
            exact ⟨rfl, rfl⟩
          · try simp only [xb_0, xb_1, ne_eq, Decidable.not_not, decide_eq_true_eq, decide_eq_false_iff_not] at h49
            refine xe_s (f := (53, _, xi 1 :: _, _)) xt_g342 rfl rfl rfl rfl rfl ?_
            refine xe_s (f := (65, _, _, _)) xt_g342 rfl rfl rfl rfl rfl ?_
            refine xe_iret xt_g342 rfl rfl xi_int.1 ?_
            rw [if_neg (by omega), if_neg (by omega), if_pos (by omega), show x.2.2.isSome = true by rw [← Bool.not_eq_false]; exact h49] at hR
            rw [← hR]
            exact ⟨rfl, rfl⟩
      · refine xe_s (f := (30, _, _, _)) xt_g342 rfl rfl rfl rfl rfl ?_
        refine xe_mga xt_g342 rfl (q := 33) rfl (xf_13_87 fm) (by decide) rfl (by omega) ?_
        try simp only [xo_u, xo_w, Nat.reduceEqDiff, reduceIte, false_and, true_and]
        refine xe_s (f := (34, _, _, _)) xt_g342 rfl rfl rfl rfl rfl ?_
        refine xe_mal (ok := xm_isN) (ty := .int) xt_g342 rfl (q := 35) rfl (fun _ _ => ⟨rfl, rfl, rfl, rfl⟩) rfl rfl rfl (by omega) (by omega) (by omega) (by omega) ?_
        try simp only [xo_u, xo_w, Nat.reduceEqDiff, reduceIte, false_and, true_and]
        rw [a43]
        refine xe_s (f := (65, _, _, _)) xt_g342 rfl rfl rfl rfl rfl ?_
        refine xe_iret xt_g342 rfl rfl xi_int.1 ?_
        rw [if_neg (by omega), if_pos (by omega)] at hR
        rw [← hR]
        exact ⟨rfl, rfl⟩
    · refine xe_s (f := (16, _, _, _)) xt_g342 rfl rfl rfl rfl rfl ?_
      refine xe_mga xt_g342 rfl (q := 19) rfl (xf_13_84 fm) (by decide) rfl (by omega) ?_
      try simp only [xo_u, xo_w, Nat.reduceEqDiff, reduceIte, false_and, true_and]
      refine xe_s (f := (20, _, _, _)) xt_g342 rfl rfl rfl rfl rfl ?_
      refine xe_mal (ok := xm_isN) (ty := .int) xt_g342 rfl (q := 21) rfl (fun _ _ => ⟨rfl, rfl, rfl, rfl⟩) rfl rfl rfl (by omega) (by omega) (by omega) (by omega) ?_
      try simp only [xo_u, xo_w, Nat.reduceEqDiff, reduceIte, false_and, true_and]
      rw [a42]
      refine xe_s (f := (65, _, _, _)) xt_g342 rfl rfl rfl rfl rfl ?_
      refine xe_iret xt_g342 rfl rfl xi_int.1 ?_
      rw [if_pos (by omega)] at hR
      rw [← hR]
      exact ⟨rfl, rfl⟩
  · try simp only [xb_0, xb_1, ne_eq, Decidable.not_not, decide_eq_true_eq, decide_eq_false_iff_not] at h5
    refine xe_s (f := (9, _, xi (-1) :: _, _)) xt_g342 rfl rfl rfl rfl rfl ?_
    refine xe_iret xt_g342 rfl rfl xi_int.1 ?_
    rw [if_neg (by rw [h5]; decide)] at hR
    rw [← hR]
    exact ⟨rfl, rfl⟩
theorem xV_about (hmn : xo_in m n) (h : rf s ar u) {k w : Int} (hkr : xr k) (hwr : xr w) : xV fm 341 m n h0 s ar [.ref m, xi k, xi w] (fun z s' ar' => z = mu_about u k w ∧ s' 0 = 0 ∧ rf s' ar' u) := by
  show xe fm 341 (0, [(0, .ref m), (1, xi k), (2, xi w)], [], (xo m s ar h0, n, 0, 0)) _
  have hl := rf_s0 h (z := 0) (by omega)
  generalize hR : mu_about u k w = R
  unfold mu_about at hR
  have e1 := rf_ht hl (t := k)
  have e2 := rf_ir hl (f := k)
  have e41 : s 41 = mu_fo u := h.2.2.2.2.2.2.2.1.2.1
  have e55 : s 55 = (mu_ms u).length := h.2.2.2.2.2.2.2.2.2.2.2.2.1.1
  have e16 : s 16 = (mu_sf u).length := h.2.2.2.2.1.1
  have fin : ∀ z : Int, z = R → ∀ pc L, pc = 26 ∨ pc = 42 ∨ pc = 86 ∨ pc = 140 → xe fm 341 (pc, L, [xi z], (xo m (xo_u s 0 0) ar h0, n, 0, 0)) (xQI m n h0 (fun z s' ar' => z = R ∧ s' 0 = 0 ∧ rf s' ar' u)) := by
    intro z hz pc L hpc
    rcases hpc with rfl | rfl | rfl | rfl
    · refine xe_iret xt_g341 rfl rfl xi_int.1 ?_
      exact ⟨_, _, _, rfl, rfl, hz, rfl, hl⟩
    · refine xe_iret xt_g341 rfl rfl xi_int.1 ?_
      exact ⟨_, _, _, rfl, rfl, hz, rfl, hl⟩
    · refine xe_iret xt_g341 rfl rfl xi_int.1 ?_
      exact ⟨_, _, _, rfl, rfl, hz, rfl, hl⟩
    · refine xe_iret xt_g341 rfl rfl xi_int.1 ?_
      exact ⟨_, _, _, rfl, rfl, hz, rfl, hl⟩
  have rq : (w = 5 ∨ w = 6) → ∀ L, L = [(0, .ref m), (1, xi k), (2, xi w)] → xe fm 341 (54, L, [], (xo m (xo_u s 0 0) ar h0, n, 0, 0)) (xQI m n h0 (fun z s' ar' => z = R ∧ s' 0 = 0 ∧ rf s' ar' u)) := by
    intro hw L hL
    subst hL
    rw [if_neg (by omega), if_neg (by omega), if_pos hw] at hR
    unfold mu_abr at hR
    have no : mu_ir u k = false → R = -1 := by
      intro hb
      rw [hb] at hR
      rw [← hR]
      cases mu_rq u k.toNat with
      | none => rfl
      | some q => exact if_neg (by decide)
    refine xe_s (f := (55, _, _, _)) xt_g341 rfl rfl rfl rfl rfl ?_
    refine xe_s (f := (56, _, _, _)) xt_g341 rfl rfl rfl rfl rfl ?_
    refine xe_cvI xt_g341 rfl (q := 59) rfl xk_13_443 rfl (by omega) xt_g306 (by decide) ⟨Nat.le_of_ble_eq_true rfl, Nat.le_of_ble_eq_true rfl, Nat.le_of_ble_eq_true rfl⟩ (xv_isRequest fm hmn hl.1 hkr) ?_
    rw [e2]
    refine xe_if_ne xt_g341 rfl (t := 66) rfl (q := 62) rfl (by first | omega | exact hw.1 _ | exact hw.2 _ _ | exact xb_r _) (fun h59 => ?_) (fun h59 => ?_)
    · try simp only [xb_0, xb_1, ne_eq, Decidable.not_not, decide_eq_true_eq, decide_eq_false_iff_not] at h59
      have hb : mu_ir u k = true := by simpa using h59
      rw [hb] at hR
      obtain ⟨K, q, rfl, hK, hqk⟩ := mu_ir_s hb
      rw [Int.toNat_natCast, hqk] at hR
      dsimp only at hR
      rw [if_pos rfl] at hR
      obtain ⟨b1, b2, b3, b4, b5, b6, B, oB, ft2, lv2⟩ := rf_q hl hK hqk
      have c46 : ar 46 (K : Int).toNat = q.1 := b1
      have c47 : ar 47 (K : Int).toNat = xb q.2.1.isSome := by
        cases hh : q.2.1 with
        | none => rw [hh] at ft2; exact ft2
        | some z => rw [hh] at ft2; exact ft2.1
      refine xe_s (f := (67, _, _, _)) xt_g341 rfl rfl rfl rfl rfl ?_
      refine xe_s (f := (68, _, xi 5 :: _, _)) xt_g341 rfl rfl rfl rfl rfl ?_
      refine xe_ic_ne xt_g341 rfl (t := 80) rfl (q := 71) rfl (by first | omega | exact hw.1 _ | exact hw.2 _ _ | exact xb_r _) (by first | omega | exact hw.1 _ | exact hw.2 _ _ | exact xb_r _) (fun h68 => ?_) (fun h68 => ?_)
      · refine xe_s (f := (81, _, _, _)) xt_g341 rfl rfl rfl rfl rfl ?_
        refine xe_mga xt_g341 rfl (q := 84) rfl (xf_13_99 fm) (by decide) rfl (by omega) ?_
        try simp only [xo_u, xo_w, Nat.reduceEqDiff, reduceIte, false_and, true_and]
        refine xe_s (f := (85, _, _, _)) xt_g341 rfl rfl rfl rfl rfl ?_
        refine xe_mal (ok := xm_isN) (ty := .int) xt_g341 rfl (q := 86) rfl (fun _ _ => ⟨rfl, rfl, rfl, rfl⟩) rfl rfl rfl (by omega) (by omega) (by omega) (by omega) ?_
        try simp only [xo_u, xo_w, Nat.reduceEqDiff, reduceIte, false_and, true_and]
        rw [c47]
        rw [if_neg (by omega)] at hR
        exact fin _ hR 86 _ (Or.inr (Or.inr (Or.inl rfl)))
      · refine xe_s (f := (72, _, _, _)) xt_g341 rfl rfl rfl rfl rfl ?_
        refine xe_mga xt_g341 rfl (q := 75) rfl (xf_13_96 fm) (by decide) rfl (by omega) ?_
        try simp only [xo_u, xo_w, Nat.reduceEqDiff, reduceIte, false_and, true_and]
        refine xe_s (f := (76, _, _, _)) xt_g341 rfl rfl rfl rfl rfl ?_
        refine xe_mal (ok := xm_isN) (ty := .int) xt_g341 rfl (q := 77) rfl (fun _ _ => ⟨rfl, rfl, rfl, rfl⟩) rfl rfl rfl (by omega) (by omega) (by omega) (by omega) ?_
        try simp only [xo_u, xo_w, Nat.reduceEqDiff, reduceIte, false_and, true_and]
        rw [c46]
        refine xe_s (f := (86, _, _, _)) xt_g341 rfl rfl rfl rfl rfl ?_
        rw [if_pos (by omega)] at hR
        exact fin _ hR 86 _ (Or.inr (Or.inr (Or.inl rfl)))
    · try simp only [xb_0, xb_1, ne_eq, Decidable.not_not, decide_eq_true_eq, decide_eq_false_iff_not] at h59
      refine xe_s (f := (63, _, xi (-1) :: _, _)) xt_g341 rfl rfl rfl rfl rfl ?_
      refine xe_s (f := (86, _, _, _)) xt_g341 rfl rfl rfl rfl rfl ?_
      exact fin _ (no (by simpa using h59)).symm 86 _ (Or.inr (Or.inr (Or.inl rfl)))
  refine xe_s (f := (1, _, _, _)) xt_g341 rfl rfl rfl rfl rfl ?_
  refine xe_s (f := (2, _, xi 0 :: _, _)) xt_g341 rfl rfl rfl rfl rfl ?_
  refine xe_mps xt_g341 rfl (q := 5) rfl (xf_13_146 fm) (by decide) rfl (by omega) (by omega) xi_int (Or.inl rfl) ?_
  refine xe_s (f := (6, _, _, _)) xt_g341 rfl rfl rfl rfl rfl ?_
  refine xe_if_ne xt_g341 rfl (t := 27) rfl (q := 9) rfl (by first | omega | exact hw.1 _ | exact hw.2 _ _ | exact xb_r _) (fun h6 => ?_) (fun h6 => ?_)
  · try simp only [xb_0, xb_1, ne_eq, Decidable.not_not, decide_eq_true_eq, decide_eq_false_iff_not] at h6
    refine xe_s (f := (28, _, _, _)) xt_g341 rfl rfl rfl rfl rfl ?_
    refine xe_if_le xt_g341 rfl (t := 43) rfl (q := 31) rfl (by first | omega | exact hw.1 _ | exact hw.2 _ _ | exact xb_r _) (fun h28 => ?_) (fun h28 => ?_)
    · try simp only [xb_0, xb_1, ne_eq, Decidable.not_not, decide_eq_true_eq, decide_eq_false_iff_not] at h28
      refine xe_s (f := (44, _, _, _)) xt_g341 rfl rfl rfl rfl rfl ?_
      refine xe_s (f := (45, _, xi 5 :: _, _)) xt_g341 rfl rfl rfl rfl rfl ?_
      refine xe_ic_eq xt_g341 rfl (t := 54) rfl (q := 48) rfl (by first | omega | exact hw.1 _ | exact hw.2 _ _ | exact xb_r _) (by first | omega | exact hw.1 _ | exact hw.2 _ _ | exact xb_r _) (fun h45 => ?_) (fun h45 => ?_)
      · exact rq (by omega) _ rfl
      · refine xe_s (f := (49, _, _, _)) xt_g341 rfl rfl rfl rfl rfl ?_
        refine xe_bipush xt_g341 rfl (q := 51) rfl (by decide) (by decide) ?_
        refine xe_ic_ne xt_g341 rfl (t := 87) rfl (q := 54) rfl (by first | omega | exact hw.1 _ | exact hw.2 _ _ | exact xb_r _) (by first | omega | exact hw.1 _ | exact hw.2 _ _ | exact xb_r _) (fun h51 => ?_) (fun h51 => ?_)
        · refine xe_s (f := (88, _, _, _)) xt_g341 rfl rfl rfl rfl rfl ?_
          refine xe_bipush xt_g341 rfl (q := 90) rfl (by decide) (by decide) ?_
          refine xe_ic_ne xt_g341 rfl (t := 100) rfl (q := 93) rfl (by first | omega | exact hw.1 _ | exact hw.2 _ _ | exact xb_r _) (by first | omega | exact hw.1 _ | exact hw.2 _ _ | exact xb_r _) (fun h90 => ?_) (fun h90 => ?_)
          · refine xe_s (f := (101, _, _, _)) xt_g341 rfl rfl rfl rfl rfl ?_
            refine xe_bipush xt_g341 rfl (q := 103) rfl (by decide) (by decide) ?_
            refine xe_ic_ne xt_g341 rfl (t := 113) rfl (q := 106) rfl (by first | omega | exact hw.1 _ | exact hw.2 _ _ | exact xb_r _) (by first | omega | exact hw.1 _ | exact hw.2 _ _ | exact xb_r _) (fun h103 => ?_) (fun h103 => ?_)
            · refine xe_s (f := (114, _, _, _)) xt_g341 rfl rfl rfl rfl rfl ?_
              refine xe_bipush xt_g341 rfl (q := 116) rfl (by decide) (by decide) ?_
              refine xe_ic_ne xt_g341 rfl (t := 126) rfl (q := 119) rfl (by first | omega | exact hw.1 _ | exact hw.2 _ _ | exact xb_r _) (by first | omega | exact hw.1 _ | exact hw.2 _ _ | exact xb_r _) (fun h116 => ?_) (fun h116 => ?_)
              · refine xe_s (f := (127, _, _, _)) xt_g341 rfl rfl rfl rfl rfl ?_
                refine xe_bipush xt_g341 rfl (q := 129) rfl (by decide) (by decide) ?_
                refine xe_ic_ne xt_g341 rfl (t := 139) rfl (q := 132) rfl (by first | omega | exact hw.1 _ | exact hw.2 _ _ | exact xb_r _) (by first | omega | exact hw.1 _ | exact hw.2 _ _ | exact xb_r _) (fun h129 => ?_) (fun h129 => ?_)
                · refine xe_s (f := (140, _, xi (-1) :: _, _)) xt_g341 rfl rfl rfl rfl rfl ?_
                  rw [if_neg (by omega), if_neg (by omega), if_neg (by omega), if_neg (by omega), if_neg (by omega), if_neg (by omega), if_neg (by omega)] at hR
                  exact fin _ hR 140 _ (Or.inr (Or.inr (Or.inr rfl)))
                · refine xe_s (f := (133, _, _, _)) xt_g341 rfl rfl rfl rfl rfl ?_
                  refine xe_mgs xt_g341 rfl (q := 136) rfl (xf_13_247 fm) (by decide) rfl (by omega) ?_
                  try simp only [xo_u, xo_w, Nat.reduceEqDiff, reduceIte, false_and, true_and]
                  rw [e16]
                  refine xe_s (f := (140, _, _, _)) xt_g341 rfl rfl rfl rfl rfl ?_
                  rw [if_neg (by omega), if_neg (by omega), if_neg (by omega), if_neg (by omega), if_neg (by omega), if_neg (by omega), if_pos (by omega)] at hR
                  exact fin _ hR 140 _ (Or.inr (Or.inr (Or.inr rfl)))
              · refine xe_s (f := (120, _, _, _)) xt_g341 rfl rfl rfl rfl rfl ?_
                refine xe_mgs xt_g341 rfl (q := 123) rfl (xf_13_373 fm) (by decide) rfl (by omega) ?_
                try simp only [xo_u, xo_w, Nat.reduceEqDiff, reduceIte, false_and, true_and]
                rw [e55]
                refine xe_s (f := (140, _, _, _)) xt_g341 rfl rfl rfl rfl rfl ?_
                rw [if_neg (by omega), if_neg (by omega), if_neg (by omega), if_neg (by omega), if_neg (by omega), if_pos (by omega)] at hR
                exact fin _ hR 140 _ (Or.inr (Or.inr (Or.inr rfl)))
            · refine xe_s (f := (107, _, _, _)) xt_g341 rfl rfl rfl rfl rfl ?_
              refine xe_cvI xt_g341 rfl (q := 110) rfl xk_13_477 rfl (by omega) xt_g343 (by decide) ⟨Nat.le_of_ble_eq_true rfl, Nat.le_of_ble_eq_true rfl, Nat.le_of_ble_eq_true rfl⟩ (xv_alive fm hmn hl) ?_
              refine xe_s (f := (140, _, _, _)) xt_g341 rfl rfl rfl rfl rfl ?_
              rw [if_neg (by omega), if_neg (by omega), if_neg (by omega), if_neg (by omega), if_pos (by omega)] at hR
              exact fin _ hR 140 _ (Or.inr (Or.inr (Or.inr rfl)))
          · refine xe_s (f := (94, _, _, _)) xt_g341 rfl rfl rfl rfl rfl ?_
            refine xe_mgs xt_g341 rfl (q := 97) rfl (xf_13_80 fm) (by decide) rfl (by omega) ?_
            try simp only [xo_u, xo_w, Nat.reduceEqDiff, reduceIte, false_and, true_and]
            rw [e41]
            refine xe_s (f := (140, _, _, _)) xt_g341 rfl rfl rfl rfl rfl ?_
            rw [if_neg (by omega), if_neg (by omega), if_neg (by omega), if_pos (by omega)] at hR
            exact fin _ hR 140 _ (Or.inr (Or.inr (Or.inr rfl)))
        · exact rq (by omega) _ rfl
    · try simp only [xb_0, xb_1, ne_eq, Decidable.not_not, decide_eq_true_eq, decide_eq_false_iff_not] at h28
      refine xe_s (f := (32, _, _, _)) xt_g341 rfl rfl rfl rfl rfl ?_
      refine xe_s (f := (33, _, xi 5 :: _, _)) xt_g341 rfl rfl rfl rfl rfl ?_
      refine xe_ic_ge xt_g341 rfl (t := 43) rfl (q := 36) rfl (by first | omega | exact hw.1 _ | exact hw.2 _ _ | exact xb_r _) (by first | omega | exact hw.1 _ | exact hw.2 _ _ | exact xb_r _) (fun h33 => ?_) (fun h33 => ?_)
      · refine xe_s (f := (44, _, _, _)) xt_g341 rfl rfl rfl rfl rfl ?_
        refine xe_s (f := (45, _, xi 5 :: _, _)) xt_g341 rfl rfl rfl rfl rfl ?_
        refine xe_ic_eq xt_g341 rfl (t := 54) rfl (q := 48) rfl (by first | omega | exact hw.1 _ | exact hw.2 _ _ | exact xb_r _) (by first | omega | exact hw.1 _ | exact hw.2 _ _ | exact xb_r _) (fun h45 => ?_) (fun h45 => ?_)
        · exact rq (by omega) _ rfl
        · refine xe_s (f := (49, _, _, _)) xt_g341 rfl rfl rfl rfl rfl ?_
          refine xe_bipush xt_g341 rfl (q := 51) rfl (by decide) (by decide) ?_
          refine xe_ic_ne xt_g341 rfl (t := 87) rfl (q := 54) rfl (by first | omega | exact hw.1 _ | exact hw.2 _ _ | exact xb_r _) (by first | omega | exact hw.1 _ | exact hw.2 _ _ | exact xb_r _) (fun h51 => ?_) (fun h51 => ?_)
          · refine xe_s (f := (88, _, _, _)) xt_g341 rfl rfl rfl rfl rfl ?_
            refine xe_bipush xt_g341 rfl (q := 90) rfl (by decide) (by decide) ?_
            refine xe_ic_ne xt_g341 rfl (t := 100) rfl (q := 93) rfl (by first | omega | exact hw.1 _ | exact hw.2 _ _ | exact xb_r _) (by first | omega | exact hw.1 _ | exact hw.2 _ _ | exact xb_r _) (fun h90 => ?_) (fun h90 => ?_)
            · refine xe_s (f := (101, _, _, _)) xt_g341 rfl rfl rfl rfl rfl ?_
              refine xe_bipush xt_g341 rfl (q := 103) rfl (by decide) (by decide) ?_
              refine xe_ic_ne xt_g341 rfl (t := 113) rfl (q := 106) rfl (by first | omega | exact hw.1 _ | exact hw.2 _ _ | exact xb_r _) (by first | omega | exact hw.1 _ | exact hw.2 _ _ | exact xb_r _) (fun h103 => ?_) (fun h103 => ?_)
              · refine xe_s (f := (114, _, _, _)) xt_g341 rfl rfl rfl rfl rfl ?_
                refine xe_bipush xt_g341 rfl (q := 116) rfl (by decide) (by decide) ?_
                refine xe_ic_ne xt_g341 rfl (t := 126) rfl (q := 119) rfl (by first | omega | exact hw.1 _ | exact hw.2 _ _ | exact xb_r _) (by first | omega | exact hw.1 _ | exact hw.2 _ _ | exact xb_r _) (fun h116 => ?_) (fun h116 => ?_)
                · refine xe_s (f := (127, _, _, _)) xt_g341 rfl rfl rfl rfl rfl ?_
                  refine xe_bipush xt_g341 rfl (q := 129) rfl (by decide) (by decide) ?_
                  refine xe_ic_ne xt_g341 rfl (t := 139) rfl (q := 132) rfl (by first | omega | exact hw.1 _ | exact hw.2 _ _ | exact xb_r _) (by first | omega | exact hw.1 _ | exact hw.2 _ _ | exact xb_r _) (fun h129 => ?_) (fun h129 => ?_)
                  · refine xe_s (f := (140, _, xi (-1) :: _, _)) xt_g341 rfl rfl rfl rfl rfl ?_
                    rw [if_neg (by omega), if_neg (by omega), if_neg (by omega), if_neg (by omega), if_neg (by omega), if_neg (by omega), if_neg (by omega)] at hR
                    exact fin _ hR 140 _ (Or.inr (Or.inr (Or.inr rfl)))
                  · refine xe_s (f := (133, _, _, _)) xt_g341 rfl rfl rfl rfl rfl ?_
                    refine xe_mgs xt_g341 rfl (q := 136) rfl (xf_13_247 fm) (by decide) rfl (by omega) ?_
                    try simp only [xo_u, xo_w, Nat.reduceEqDiff, reduceIte, false_and, true_and]
                    rw [e16]
                    refine xe_s (f := (140, _, _, _)) xt_g341 rfl rfl rfl rfl rfl ?_
                    rw [if_neg (by omega), if_neg (by omega), if_neg (by omega), if_neg (by omega), if_neg (by omega), if_neg (by omega), if_pos (by omega)] at hR
                    exact fin _ hR 140 _ (Or.inr (Or.inr (Or.inr rfl)))
                · refine xe_s (f := (120, _, _, _)) xt_g341 rfl rfl rfl rfl rfl ?_
                  refine xe_mgs xt_g341 rfl (q := 123) rfl (xf_13_373 fm) (by decide) rfl (by omega) ?_
                  try simp only [xo_u, xo_w, Nat.reduceEqDiff, reduceIte, false_and, true_and]
                  rw [e55]
                  refine xe_s (f := (140, _, _, _)) xt_g341 rfl rfl rfl rfl rfl ?_
                  rw [if_neg (by omega), if_neg (by omega), if_neg (by omega), if_neg (by omega), if_neg (by omega), if_pos (by omega)] at hR
                  exact fin _ hR 140 _ (Or.inr (Or.inr (Or.inr rfl)))
              · refine xe_s (f := (107, _, _, _)) xt_g341 rfl rfl rfl rfl rfl ?_
                refine xe_cvI xt_g341 rfl (q := 110) rfl xk_13_477 rfl (by omega) xt_g343 (by decide) ⟨Nat.le_of_ble_eq_true rfl, Nat.le_of_ble_eq_true rfl, Nat.le_of_ble_eq_true rfl⟩ (xv_alive fm hmn hl) ?_
                refine xe_s (f := (140, _, _, _)) xt_g341 rfl rfl rfl rfl rfl ?_
                rw [if_neg (by omega), if_neg (by omega), if_neg (by omega), if_neg (by omega), if_pos (by omega)] at hR
                exact fin _ hR 140 _ (Or.inr (Or.inr (Or.inr rfl)))
            · refine xe_s (f := (94, _, _, _)) xt_g341 rfl rfl rfl rfl rfl ?_
              refine xe_mgs xt_g341 rfl (q := 97) rfl (xf_13_80 fm) (by decide) rfl (by omega) ?_
              try simp only [xo_u, xo_w, Nat.reduceEqDiff, reduceIte, false_and, true_and]
              rw [e41]
              refine xe_s (f := (140, _, _, _)) xt_g341 rfl rfl rfl rfl rfl ?_
              rw [if_neg (by omega), if_neg (by omega), if_neg (by omega), if_pos (by omega)] at hR
              exact fin _ hR 140 _ (Or.inr (Or.inr (Or.inr rfl)))
          · exact rq (by omega) _ rfl
      · refine xe_s (f := (37, _, _, _)) xt_g341 rfl rfl rfl rfl rfl ?_
        refine xe_s (f := (38, _, _, _)) xt_g341 rfl rfl rfl rfl rfl ?_
        refine xe_s (f := (39, _, _, _)) xt_g341 rfl rfl rfl rfl rfl ?_
        refine xe_cvI xt_g341 rfl (q := 42) rfl xk_13_474 rfl (by omega) xt_g342 (by decide) ⟨Nat.le_of_ble_eq_true rfl, Nat.le_of_ble_eq_true rfl, Nat.le_of_ble_eq_true rfl⟩ (xv_aboutFrame fm hmn hl hkr hwr) ?_
        rw [if_neg (by omega), if_pos (by omega)] at hR
        exact fin _ hR 42 _ (Or.inr (Or.inl rfl))
  · try simp only [xb_0, xb_1, ne_eq, Decidable.not_not, decide_eq_true_eq, decide_eq_false_iff_not] at h6
    refine xe_s (f := (10, _, _, _)) xt_g341 rfl rfl rfl rfl rfl ?_
    refine xe_s (f := (11, _, _, _)) xt_g341 rfl rfl rfl rfl rfl ?_
    refine xe_cvI xt_g341 rfl (q := 14) rfl xk_13_415 rfl (by omega) xt_g291 (by decide) ⟨Nat.le_of_ble_eq_true rfl, Nat.le_of_ble_eq_true rfl, Nat.le_of_ble_eq_true rfl⟩ (xv_hasTab fm hmn hl.1 hkr) ?_
    rw [e1]
    refine xe_if_eq xt_g341 rfl (t := 25) rfl (q := 17) rfl (by first | omega | exact hw.1 _ | exact hw.2 _ _ | exact xb_r _) (fun h14 => ?_) (fun h14 => ?_)
    · try simp only [xb_0, xb_1, ne_eq, Decidable.not_not, decide_eq_true_eq, decide_eq_false_iff_not] at h14
      refine xe_s (f := (26, _, xi (-1) :: _, _)) xt_g341 rfl rfl rfl rfl rfl ?_
      rw [if_pos (by omega), if_neg (by rw [h14]; decide)] at hR
      exact fin _ hR 26 _ (Or.inl rfl)
    · try simp only [xb_0, xb_1, ne_eq, Decidable.not_not, decide_eq_true_eq, decide_eq_false_iff_not] at h14
      refine xe_s (f := (18, _, _, _)) xt_g341 rfl rfl rfl rfl rfl ?_
      refine xe_s (f := (19, _, _, _)) xt_g341 rfl rfl rfl rfl rfl ?_
      refine xe_cvI xt_g341 rfl (q := 22) rfl xk_13_422 rfl (by omega) xt_g293 (by decide) ⟨Nat.le_of_ble_eq_true rfl, Nat.le_of_ble_eq_true rfl, Nat.le_of_ble_eq_true rfl⟩ (xv_topOf fm hmn hl.1 hkr) ?_
      refine xe_s (f := (26, _, _, _)) xt_g341 rfl rfl rfl rfl rfl ?_
      have hb : mu_ht u k = true := by simpa using h14
      rw [if_pos (by omega), if_pos hb] at hR
      have hk2 : 0 ≤ k := by
        unfold mu_ht at hb
        rw [Bool.and_eq_true, decide_eq_true_eq] at hb
        exact hb.1.1
      rw [rf_tp hl.2.2.2.2.2.2.2.2.1 hk2]
      exact fin _ hR 26 _ (Or.inl rfl)
end XAB
