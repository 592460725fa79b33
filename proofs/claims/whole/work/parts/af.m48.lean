/-! the reference: commit, answer -/
def mu_ir (u : mu_T) (r : Int) : Bool := decide (0 ≤ r ∧ r < 24) && (mu_rq u r.toNat).isSome
def mq_seen (q : mq_T) : Bool := match q.2.1 with
  | none => true
  | some x => decide (pa_hd q.2.2.2.1 = pa_hd x.2.2) || (decide (x.1 = 1) && (match q.2.2.2.2 with
    | none => false
    | some none => !x.2.1
    | some (some y) => decide (pa_hd y.1 = pa_hd x.2.2) && (!x.2.1 || y.2)))
def mq_cf (f : Int) (o : Option mq_T) : Option mq_T := match o with
  | none => none
  | some q => if q.1 = f ∧ q.2.1.isSome = true then none else some q
def mf_ch (f : Int) (o : Option mf_T) : Bool := match o with
  | none => false
  | some x => decide (x.2.1 = f)
def cm_fr (fr : Nat → Option mf_T) (f : Int) (a : pa_A) : Nat → Option mf_T := mu_up fr f.toNat (some ((mf_pt (fr f.toNat)).1, (mf_pt (fr f.toNat)).2, some a))
def cm_g (fr : Nat → Option mf_T) (f : Int) (k : Nat) : Bool := decide (k < 16) && mf_ch f (fr k)
def mu_cm (u : mu_T) (f : Int) (a : pa_A) : mu_T := mu_note (mu_drop (mu_srq (mu_sfr u (cm_fr (mu_fr u) f a)) (fun r => mq_cf f (mu_rq u r))) (dm_cl (cm_fr (mu_fr u) f a) (cm_g (cm_fr (mu_fr u) f a) f))) 2 f (mf_pt (mu_fr u f.toNat)).1 (pa_text a)
def mu_ans1 (u : mu_T) (r : Int) (q : mq_T) : mu_T := match q.2.1 with
  | none => mu_note (mu_cm u q.1 q.2.2.2.1) 3 q.1 r (mu_ln u)
  | some _ => if mq_seen q = true then mu_note u 3 q.1 r (mu_ln u) else mu_note u 4 q.1 r []
def mu_dq (u : mu_T) (r : Int) : mu_T := mu_sln (mu_srq u (mu_up (mu_rq u) r.toNat none)) []
def mu_answer (u : mu_T) (r : Int) : mu_T := match mu_rq u r.toNat with
  | none => mu_sln u []
  | some q => if mu_ir u r = true then mu_dq (mu_ans1 u r q) r else mu_sln u []
section XAN
variable (fm : Value) {m n : Nat} {h0 : xm_H} {s : Nat → Int} {ar : Nat → Nat → Int} {u : mu_T}
theorem rf_ir (h : rf s ar u) {f : Int} : xd_rq ar f = mu_ir u f := by
  unfold xd_rq mu_ir
  by_cases hf : 0 ≤ f ∧ f < 24
  · rw [decide_eq_true hf, Bool.true_and]
    have := h.2.2.2.2.2.2.2.2.2.1 f.toNat (by omega)
    cases hx : mu_rq u f.toNat with
    | none =>
      rw [hx] at this
      have h2 : ar 46 f.toNat < 0 := this
      exact decide_eq_false (fun e => by omega)
    | some x =>
      rw [hx] at this
      have h2 := this.1
      have h3 := this.2.1
      exact decide_eq_true ⟨hf.1, hf.2, by omega⟩
  · rw [decide_eq_false hf, Bool.false_and]
    exact decide_eq_false (fun h => hf ⟨h.1, h.2.1⟩)
theorem mu_ir_s {r : Int} (h : mu_ir u r = true) : ∃ (R : Nat) (x : mq_T), r = R ∧ R < 24 ∧ mu_rq u R = some x := by
  unfold mu_ir at h
  rw [Bool.and_eq_true, decide_eq_true_eq] at h
  obtain ⟨F, hF⟩ := Int.eq_ofNat_of_zero_le h.1.1
  subst hF
  rw [Int.toNat_natCast] at h
  obtain ⟨x, hx⟩ := Option.isSome_iff_exists.mp h.2
  exact ⟨F, x, rfl, by omega, hx⟩
theorem rf_q (h : rf s ar u) {r : Nat} {x : mq_T} (hr : r < 24) (hx : mu_rq u r = some x) : ar 46 r = x.1 ∧ 0 ≤ x.1 ∧ x.1 < 16 ∧ ar 49 r = x.2.2.1 ∧ 0 ≤ x.2.2.1 ∧ x.2.2.1 ≤ 5 ∧ pa_at ar ((16 + r : Nat) : Int) (pa_text x.2.2.2.1) ∧ pa_ok x.2.2.2.1 ∧ rf_ft ar r x.2.1 ∧ rf_lv ar r x.2.2.2.2 := by
  have := h.2.2.2.2.2.2.2.2.2.1 r hr
  rw [hx] at this
  exact this
theorem xv_isSeen (hmn : xo_in m n) (h : rf s ar u) {r : Nat} {x : mq_T} {y : Int × Bool × pa_A} (hr : r < 24) (hx : mu_rq u r = some x) (hy : x.2.1 = some y) : xv fm 308 m n h0 s ar [.ref m, xi (r : Int)] (some (xi (xb (mq_seen x)))) s ar := by
  show xe fm 308 (0, [(0, .ref m), (1, xi (r : Int))], [], (xo m s ar h0, n, 0, 0)) _
  obtain ⟨a1, a2, a3, a4, a5, a6, A, oA, ft, lv⟩ := rf_q h hr hx
  rw [hy] at ft
  obtain ⟨c1, c2, c3, c4, c5, c6, c7⟩ := ft
  have w := h.1
  have b48 : ar 48 (r : Int).toNat = y.1 := c2
  have b51 : ar 51 (r : Int).toNat = xb y.2.1 := c5
  have A' := A
  rw [(pa_tx oA).1] at A'
  have c6' : pa_at ar ((42 + r : Nat) : Int) (pa_hd y.2.2 ++ []) := by rw [List.append_nil]; exact c6
  have oo := xv_isOfOrigin fm hmn (h0 := h0) w (a := ((16 + r : Nat) : Int)) (b := ((42 + r : Nat) : Int)) (by omega) (by omega) (pa_at5 A) (by omega) (by omega) (pa_at5 c6)
  rw [rf_oo (by omega) (by omega) A' c6' oA c7 (pa_tx oA).2 (Or.inl rfl), show ((16 + r : Nat) : Int) = 16 + (r : Int) by omega, show ((42 + r : Nat) : Int) = 42 + (r : Int) by omega] at oo
  have eS : mq_seen x = (decide (pa_hd x.2.2.2.1 = pa_hd y.2.2) || (decide (y.1 = 1) && (match x.2.2.2.2 with
    | none => false
    | some none => !y.2.1
    | some (some z) => decide (pa_hd z.1 = pa_hd y.2.2) && (!y.2.1 || z.2)))) := by
    unfold mq_seen
    rw [hy]
  rw [eS]
  cases hl : x.2.2.2.2 with
  | none =>
    rw [hl] at lv
    have b50 : ar 50 (r : Int).toNat = 0 := lv
    refine xe_s (f := (1, _, _, _)) xt_g308 rfl rfl rfl rfl rfl ?_
    refine xe_bipush xt_g308 rfl (q := 3) rfl (by decide) (by decide) ?_
    refine xe_s (f := (4, _, _, _)) xt_g308 rfl rfl rfl rfl rfl ?_
    refine xe_iadd xt_g308 rfl (q := 5) rfl ?_
    refine xe_bipush xt_g308 rfl (q := 7) rfl (by decide) (by decide) ?_
    refine xe_s (f := (8, _, _, _)) xt_g308 rfl rfl rfl rfl rfl ?_
    refine xe_iadd xt_g308 rfl (q := 9) rfl ?_
    refine xe_cvI xt_g308 rfl (q := 12) rfl xk_13_437 rfl (by omega) xt_g303 (by decide) ⟨Nat.le_of_ble_eq_true rfl, Nat.le_of_ble_eq_true rfl, Nat.le_of_ble_eq_true rfl⟩ (oo) ?_
    refine xe_if_eq xt_g308 rfl (t := 17) rfl (q := 15) rfl (by first | omega | exact hw.1 _ | exact hw.2 _ _ | exact xb_r _) (fun h12 => ?_) (fun h12 => ?_)
    · try simp only [xb_0, xb_1, ne_eq, Decidable.not_not, decide_eq_true_eq, decide_eq_false_iff_not] at h12
      refine xe_s (f := (18, _, _, _)) xt_g308 rfl rfl rfl rfl rfl ?_
      refine xe_mga xt_g308 rfl (q := 21) rfl (xf_13_102 fm) (by decide) rfl (by omega) ?_
      try simp only [xo_u, xo_w, Nat.reduceEqDiff, reduceIte, false_and, true_and]
      refine xe_s (f := (22, _, _, _)) xt_g308 rfl rfl rfl rfl rfl ?_
      refine xe_mal (ok := xm_isN) (ty := .int) xt_g308 rfl (q := 23) rfl (fun _ _ => ⟨rfl, rfl, rfl, rfl⟩) rfl rfl rfl (by omega) (by omega) (by omega) (by omega) ?_
      try simp only [xo_u, xo_w, Nat.reduceEqDiff, reduceIte, false_and, true_and]
      rw [b48]
      refine xe_s (f := (24, _, xi 1 :: _, _)) xt_g308 rfl rfl rfl rfl rfl ?_
      refine xe_ic_ne xt_g308 rfl (t := 36) rfl (q := 27) rfl (by first | omega | exact hw.1 _ | exact hw.2 _ _ | exact xb_r _) (by first | omega | exact hw.1 _ | exact hw.2 _ _ | exact xb_r _) (fun h24 => ?_) (fun h24 => ?_)
      · refine xe_s (f := (37, _, xi 0 :: _, _)) xt_g308 rfl rfl rfl rfl rfl ?_
        refine xe_iret xt_g308 rfl rfl (xi_bool (by first | omega | exact xb_or _)).1 ?_
        rw [decide_eq_false h12]
        exact ⟨by simp [xb], rfl⟩
      · refine xe_s (f := (28, _, _, _)) xt_g308 rfl rfl rfl rfl rfl ?_
        refine xe_mga xt_g308 rfl (q := 31) rfl (xf_13_108 fm) (by decide) rfl (by omega) ?_
        try simp only [xo_u, xo_w, Nat.reduceEqDiff, reduceIte, false_and, true_and]
        refine xe_s (f := (32, _, _, _)) xt_g308 rfl rfl rfl rfl rfl ?_
        refine xe_mal (ok := xm_isN) (ty := .int) xt_g308 rfl (q := 33) rfl (fun _ _ => ⟨rfl, rfl, rfl, rfl⟩) rfl rfl rfl (by omega) (by omega) (by omega) (by omega) ?_
        try simp only [xo_u, xo_w, Nat.reduceEqDiff, reduceIte, false_and, true_and]
        rw [b50]
        refine xe_if_ne xt_g308 rfl (t := 38) rfl (q := 36) rfl (by first | omega | exact hw.1 _ | exact hw.2 _ _ | exact xb_r _) (fun h33 => ?_) (fun h33 => ?_)
        · exact absurd rfl h33
        · try simp only [xb_0, xb_1, ne_eq, Decidable.not_not, decide_eq_true_eq, decide_eq_false_iff_not] at h33
          refine xe_s (f := (37, _, xi 0 :: _, _)) xt_g308 rfl rfl rfl rfl rfl ?_
          refine xe_iret xt_g308 rfl rfl (xi_bool (by first | omega | exact xb_or _)).1 ?_
          rw [decide_eq_false h12]
          exact ⟨by simp [xb], rfl⟩
    · try simp only [xb_0, xb_1, ne_eq, Decidable.not_not, decide_eq_true_eq, decide_eq_false_iff_not] at h12
      refine xe_s (f := (16, _, xi 1 :: _, _)) xt_g308 rfl rfl rfl rfl rfl ?_
      refine xe_iret xt_g308 rfl rfl (xi_bool (by first | omega | exact xb_or _)).1 ?_
      rw [decide_eq_true h12]
      exact ⟨rfl, rfl⟩
  | some o =>
    rw [hl] at lv
    cases o with
    | none =>
      have b50 : ar 50 (r : Int).toNat = 1 := lv
      refine xe_s (f := (1, _, _, _)) xt_g308 rfl rfl rfl rfl rfl ?_
      refine xe_bipush xt_g308 rfl (q := 3) rfl (by decide) (by decide) ?_
      refine xe_s (f := (4, _, _, _)) xt_g308 rfl rfl rfl rfl rfl ?_
      refine xe_iadd xt_g308 rfl (q := 5) rfl ?_
      refine xe_bipush xt_g308 rfl (q := 7) rfl (by decide) (by decide) ?_
      refine xe_s (f := (8, _, _, _)) xt_g308 rfl rfl rfl rfl rfl ?_
      refine xe_iadd xt_g308 rfl (q := 9) rfl ?_
      refine xe_cvI xt_g308 rfl (q := 12) rfl xk_13_437 rfl (by omega) xt_g303 (by decide) ⟨Nat.le_of_ble_eq_true rfl, Nat.le_of_ble_eq_true rfl, Nat.le_of_ble_eq_true rfl⟩ (oo) ?_
      refine xe_if_eq xt_g308 rfl (t := 17) rfl (q := 15) rfl (by first | omega | exact hw.1 _ | exact hw.2 _ _ | exact xb_r _) (fun h12 => ?_) (fun h12 => ?_)
      · try simp only [xb_0, xb_1, ne_eq, Decidable.not_not, decide_eq_true_eq, decide_eq_false_iff_not] at h12
        refine xe_s (f := (18, _, _, _)) xt_g308 rfl rfl rfl rfl rfl ?_
        refine xe_mga xt_g308 rfl (q := 21) rfl (xf_13_102 fm) (by decide) rfl (by omega) ?_
        try simp only [xo_u, xo_w, Nat.reduceEqDiff, reduceIte, false_and, true_and]
        refine xe_s (f := (22, _, _, _)) xt_g308 rfl rfl rfl rfl rfl ?_
        refine xe_mal (ok := xm_isN) (ty := .int) xt_g308 rfl (q := 23) rfl (fun _ _ => ⟨rfl, rfl, rfl, rfl⟩) rfl rfl rfl (by omega) (by omega) (by omega) (by omega) ?_
        try simp only [xo_u, xo_w, Nat.reduceEqDiff, reduceIte, false_and, true_and]
        rw [b48]
        refine xe_s (f := (24, _, xi 1 :: _, _)) xt_g308 rfl rfl rfl rfl rfl ?_
        refine xe_ic_ne xt_g308 rfl (t := 36) rfl (q := 27) rfl (by first | omega | exact hw.1 _ | exact hw.2 _ _ | exact xb_r _) (by first | omega | exact hw.1 _ | exact hw.2 _ _ | exact xb_r _) (fun h24 => ?_) (fun h24 => ?_)
        · refine xe_s (f := (37, _, xi 0 :: _, _)) xt_g308 rfl rfl rfl rfl rfl ?_
          refine xe_iret xt_g308 rfl rfl (xi_bool (by first | omega | exact xb_or _)).1 ?_
          rw [decide_eq_false h12, decide_eq_false h24]
          exact ⟨rfl, rfl⟩
        · refine xe_s (f := (28, _, _, _)) xt_g308 rfl rfl rfl rfl rfl ?_
          refine xe_mga xt_g308 rfl (q := 31) rfl (xf_13_108 fm) (by decide) rfl (by omega) ?_
          try simp only [xo_u, xo_w, Nat.reduceEqDiff, reduceIte, false_and, true_and]
          refine xe_s (f := (32, _, _, _)) xt_g308 rfl rfl rfl rfl rfl ?_
          refine xe_mal (ok := xm_isN) (ty := .int) xt_g308 rfl (q := 33) rfl (fun _ _ => ⟨rfl, rfl, rfl, rfl⟩) rfl rfl rfl (by omega) (by omega) (by omega) (by omega) ?_
          try simp only [xo_u, xo_w, Nat.reduceEqDiff, reduceIte, false_and, true_and]
          rw [b50]
          refine xe_if_ne xt_g308 rfl (t := 38) rfl (q := 36) rfl (by first | omega | exact hw.1 _ | exact hw.2 _ _ | exact xb_r _) (fun h33 => ?_) (fun h33 => ?_)
          · try simp only [xb_0, xb_1, ne_eq, Decidable.not_not, decide_eq_true_eq, decide_eq_false_iff_not] at h33
            refine xe_s (f := (39, _, _, _)) xt_g308 rfl rfl rfl rfl rfl ?_
            refine xe_mga xt_g308 rfl (q := 42) rfl (xf_13_108 fm) (by decide) rfl (by omega) ?_
            try simp only [xo_u, xo_w, Nat.reduceEqDiff, reduceIte, false_and, true_and]
            refine xe_s (f := (43, _, _, _)) xt_g308 rfl rfl rfl rfl rfl ?_
            refine xe_mal (ok := xm_isN) (ty := .int) xt_g308 rfl (q := 44) rfl (fun _ _ => ⟨rfl, rfl, rfl, rfl⟩) rfl rfl rfl (by omega) (by omega) (by omega) (by omega) ?_
            try simp only [xo_u, xo_w, Nat.reduceEqDiff, reduceIte, false_and, true_and]
            rw [b50]
            refine xe_s (f := (45, _, xi 1 :: _, _)) xt_g308 rfl rfl rfl rfl rfl ?_
            refine xe_ic_ne xt_g308 rfl (t := 65) rfl (q := 48) rfl (by first | omega | exact hw.1 _ | exact hw.2 _ _ | exact xb_r _) (by first | omega | exact hw.1 _ | exact hw.2 _ _ | exact xb_r _) (fun h45 => ?_) (fun h45 => ?_)
            · exact absurd h45 (by omega)
            · refine xe_s (f := (49, _, _, _)) xt_g308 rfl rfl rfl rfl rfl ?_
              refine xe_mga xt_g308 rfl (q := 52) rfl (xf_13_111 fm) (by decide) rfl (by omega) ?_
              try simp only [xo_u, xo_w, Nat.reduceEqDiff, reduceIte, false_and, true_and]
              refine xe_s (f := (53, _, _, _)) xt_g308 rfl rfl rfl rfl rfl ?_
              refine xe_mal (ok := xm_isB) (ty := .boolean) xt_g308 rfl (q := 54) rfl (fun _ _ => ⟨rfl, rfl, rfl, rfl⟩) rfl rfl rfl (by omega) (by omega) (by omega) (by omega) ?_
              try simp only [xo_u, xo_w, Nat.reduceEqDiff, reduceIte, false_and, true_and]
              rw [b51]
              refine xe_if_ne xt_g308 rfl (t := 61) rfl (q := 57) rfl (by first | omega | exact hw.1 _ | exact hw.2 _ _ | exact xb_r _) (fun h54 => ?_) (fun h54 => ?_)
              · try simp only [xb_0, xb_1, ne_eq, Decidable.not_not, decide_eq_true_eq, decide_eq_false_iff_not] at h54
                refine xe_s (f := (62, _, xi 0 :: _, _)) xt_g308 rfl rfl rfl rfl rfl ?_
                refine xe_s (f := (103, _, _, _)) xt_g308 rfl rfl rfl rfl rfl ?_
                refine xe_iret xt_g308 rfl rfl (xi_bool (by first | omega | exact xb_or _)).1 ?_
                rw [decide_eq_false h12, decide_eq_true (show y.1 = 1 by omega), show y.2.1 = true by simpa using h54]
                exact ⟨rfl, rfl⟩
              · try simp only [xb_0, xb_1, ne_eq, Decidable.not_not, decide_eq_true_eq, decide_eq_false_iff_not] at h54
                refine xe_s (f := (58, _, xi 1 :: _, _)) xt_g308 rfl rfl rfl rfl rfl ?_
                refine xe_s (f := (103, _, _, _)) xt_g308 rfl rfl rfl rfl rfl ?_
                refine xe_iret xt_g308 rfl rfl (xi_bool (by first | omega | exact xb_or _)).1 ?_
                rw [decide_eq_false h12, decide_eq_true (show y.1 = 1 by omega), h54]
                exact ⟨rfl, rfl⟩
          · exact absurd h33 (by omega)
      · try simp only [xb_0, xb_1, ne_eq, Decidable.not_not, decide_eq_true_eq, decide_eq_false_iff_not] at h12
        refine xe_s (f := (16, _, xi 1 :: _, _)) xt_g308 rfl rfl rfl rfl rfl ?_
        refine xe_iret xt_g308 rfl rfl (xi_bool (by first | omega | exact xb_or _)).1 ?_
        rw [decide_eq_true h12]
        exact ⟨rfl, rfl⟩
    | some z =>
      obtain ⟨l1, l2, l3, l4⟩ := lv
      have b50 : ar 50 (r : Int).toNat = 2 := l1
      have b52 : ar 52 (r : Int).toNat = xb z.2 := l4
      have l2' : pa_at ar ((66 + r : Nat) : Int) (pa_hd z.1 ++ []) := by rw [List.append_nil]; exact l2
      have o2 := xv_isOfOrigin fm hmn (h0 := h0) w (a := ((66 + r : Nat) : Int)) (b := ((42 + r : Nat) : Int)) (by omega) (by omega) (pa_at5 l2) (by omega) (by omega) (pa_at5 c6)
      rw [rf_oo (by omega) (by omega) l2' c6' l3 c7 (Or.inl rfl) (Or.inl rfl), show ((66 + r : Nat) : Int) = 66 + (r : Int) by omega, show ((42 + r : Nat) : Int) = 42 + (r : Int) by omega] at o2
      refine xe_s (f := (1, _, _, _)) xt_g308 rfl rfl rfl rfl rfl ?_
      refine xe_bipush xt_g308 rfl (q := 3) rfl (by decide) (by decide) ?_
      refine xe_s (f := (4, _, _, _)) xt_g308 rfl rfl rfl rfl rfl ?_
      refine xe_iadd xt_g308 rfl (q := 5) rfl ?_
      refine xe_bipush xt_g308 rfl (q := 7) rfl (by decide) (by decide) ?_
      refine xe_s (f := (8, _, _, _)) xt_g308 rfl rfl rfl rfl rfl ?_
      refine xe_iadd xt_g308 rfl (q := 9) rfl ?_
      refine xe_cvI xt_g308 rfl (q := 12) rfl xk_13_437 rfl (by omega) xt_g303 (by decide) ⟨Nat.le_of_ble_eq_true rfl, Nat.le_of_ble_eq_true rfl, Nat.le_of_ble_eq_true rfl⟩ (oo) ?_
      refine xe_if_eq xt_g308 rfl (t := 17) rfl (q := 15) rfl (by first | omega | exact hw.1 _ | exact hw.2 _ _ | exact xb_r _) (fun h12 => ?_) (fun h12 => ?_)
      · try simp only [xb_0, xb_1, ne_eq, Decidable.not_not, decide_eq_true_eq, decide_eq_false_iff_not] at h12
        refine xe_s (f := (18, _, _, _)) xt_g308 rfl rfl rfl rfl rfl ?_
        refine xe_mga xt_g308 rfl (q := 21) rfl (xf_13_102 fm) (by decide) rfl (by omega) ?_
        try simp only [xo_u, xo_w, Nat.reduceEqDiff, reduceIte, false_and, true_and]
        refine xe_s (f := (22, _, _, _)) xt_g308 rfl rfl rfl rfl rfl ?_
        refine xe_mal (ok := xm_isN) (ty := .int) xt_g308 rfl (q := 23) rfl (fun _ _ => ⟨rfl, rfl, rfl, rfl⟩) rfl rfl rfl (by omega) (by omega) (by omega) (by omega) ?_
        try simp only [xo_u, xo_w, Nat.reduceEqDiff, reduceIte, false_and, true_and]
        rw [b48]
        refine xe_s (f := (24, _, xi 1 :: _, _)) xt_g308 rfl rfl rfl rfl rfl ?_
        refine xe_ic_ne xt_g308 rfl (t := 36) rfl (q := 27) rfl (by first | omega | exact hw.1 _ | exact hw.2 _ _ | exact xb_r _) (by first | omega | exact hw.1 _ | exact hw.2 _ _ | exact xb_r _) (fun h24 => ?_) (fun h24 => ?_)
        · refine xe_s (f := (37, _, xi 0 :: _, _)) xt_g308 rfl rfl rfl rfl rfl ?_
          refine xe_iret xt_g308 rfl rfl (xi_bool (by first | omega | exact xb_or _)).1 ?_
          rw [decide_eq_false h12, decide_eq_false h24]
          exact ⟨rfl, rfl⟩
        · refine xe_s (f := (28, _, _, _)) xt_g308 rfl rfl rfl rfl rfl ?_
          refine xe_mga xt_g308 rfl (q := 31) rfl (xf_13_108 fm) (by decide) rfl (by omega) ?_
          try simp only [xo_u, xo_w, Nat.reduceEqDiff, reduceIte, false_and, true_and]
          refine xe_s (f := (32, _, _, _)) xt_g308 rfl rfl rfl rfl rfl ?_
          refine xe_mal (ok := xm_isN) (ty := .int) xt_g308 rfl (q := 33) rfl (fun _ _ => ⟨rfl, rfl, rfl, rfl⟩) rfl rfl rfl (by omega) (by omega) (by omega) (by omega) ?_
          try simp only [xo_u, xo_w, Nat.reduceEqDiff, reduceIte, false_and, true_and]
          rw [b50]
          refine xe_if_ne xt_g308 rfl (t := 38) rfl (q := 36) rfl (by first | omega | exact hw.1 _ | exact hw.2 _ _ | exact xb_r _) (fun h33 => ?_) (fun h33 => ?_)
          · try simp only [xb_0, xb_1, ne_eq, Decidable.not_not, decide_eq_true_eq, decide_eq_false_iff_not] at h33
            refine xe_s (f := (39, _, _, _)) xt_g308 rfl rfl rfl rfl rfl ?_
            refine xe_mga xt_g308 rfl (q := 42) rfl (xf_13_108 fm) (by decide) rfl (by omega) ?_
            try simp only [xo_u, xo_w, Nat.reduceEqDiff, reduceIte, false_and, true_and]
            refine xe_s (f := (43, _, _, _)) xt_g308 rfl rfl rfl rfl rfl ?_
            refine xe_mal (ok := xm_isN) (ty := .int) xt_g308 rfl (q := 44) rfl (fun _ _ => ⟨rfl, rfl, rfl, rfl⟩) rfl rfl rfl (by omega) (by omega) (by omega) (by omega) ?_
            try simp only [xo_u, xo_w, Nat.reduceEqDiff, reduceIte, false_and, true_and]
            rw [b50]
            refine xe_s (f := (45, _, xi 1 :: _, _)) xt_g308 rfl rfl rfl rfl rfl ?_
            refine xe_ic_ne xt_g308 rfl (t := 65) rfl (q := 48) rfl (by first | omega | exact hw.1 _ | exact hw.2 _ _ | exact xb_r _) (by first | omega | exact hw.1 _ | exact hw.2 _ _ | exact xb_r _) (fun h45 => ?_) (fun h45 => ?_)
            · refine xe_s (f := (66, _, _, _)) xt_g308 rfl rfl rfl rfl rfl ?_
              refine xe_bipush xt_g308 rfl (q := 68) rfl (by decide) (by decide) ?_
              refine xe_s (f := (69, _, _, _)) xt_g308 rfl rfl rfl rfl rfl ?_
              refine xe_iadd xt_g308 rfl (q := 70) rfl ?_
              refine xe_bipush xt_g308 rfl (q := 72) rfl (by decide) (by decide) ?_
              refine xe_s (f := (73, _, _, _)) xt_g308 rfl rfl rfl rfl rfl ?_
              refine xe_iadd xt_g308 rfl (q := 74) rfl ?_
              refine xe_cvI xt_g308 rfl (q := 77) rfl xk_13_437 rfl (by omega) xt_g303 (by decide) ⟨Nat.le_of_ble_eq_true rfl, Nat.le_of_ble_eq_true rfl, Nat.le_of_ble_eq_true rfl⟩ (o2) ?_
              refine xe_if_eq xt_g308 rfl (t := 102) rfl (q := 80) rfl (by first | omega | exact hw.1 _ | exact hw.2 _ _ | exact xb_r _) (fun h77 => ?_) (fun h77 => ?_)
              · try simp only [xb_0, xb_1, ne_eq, Decidable.not_not, decide_eq_true_eq, decide_eq_false_iff_not] at h77
                refine xe_s (f := (103, _, xi 0 :: _, _)) xt_g308 rfl rfl rfl rfl rfl ?_
                refine xe_iret xt_g308 rfl rfl (xi_bool (by first | omega | exact xb_or _)).1 ?_
                rw [decide_eq_false h12, decide_eq_true (show y.1 = 1 by omega)]
                rw [decide_eq_false h77]
                exact ⟨rfl, rfl⟩
              · try simp only [xb_0, xb_1, ne_eq, Decidable.not_not, decide_eq_true_eq, decide_eq_false_iff_not] at h77
                refine xe_s (f := (81, _, _, _)) xt_g308 rfl rfl rfl rfl rfl ?_
                refine xe_mga xt_g308 rfl (q := 84) rfl (xf_13_111 fm) (by decide) rfl (by omega) ?_
                try simp only [xo_u, xo_w, Nat.reduceEqDiff, reduceIte, false_and, true_and]
                refine xe_s (f := (85, _, _, _)) xt_g308 rfl rfl rfl rfl rfl ?_
                refine xe_mal (ok := xm_isB) (ty := .boolean) xt_g308 rfl (q := 86) rfl (fun _ _ => ⟨rfl, rfl, rfl, rfl⟩) rfl rfl rfl (by omega) (by omega) (by omega) (by omega) ?_
                try simp only [xo_u, xo_w, Nat.reduceEqDiff, reduceIte, false_and, true_and]
                rw [b51]
                refine xe_if_eq xt_g308 rfl (t := 98) rfl (q := 89) rfl (by first | omega | exact hw.1 _ | exact hw.2 _ _ | exact xb_r _) (fun h86 => ?_) (fun h86 => ?_)
                · try simp only [xb_0, xb_1, ne_eq, Decidable.not_not, decide_eq_true_eq, decide_eq_false_iff_not] at h86
                  refine xe_s (f := (99, _, xi 1 :: _, _)) xt_g308 rfl rfl rfl rfl rfl ?_
                  refine xe_s (f := (103, _, _, _)) xt_g308 rfl rfl rfl rfl rfl ?_
                  refine xe_iret xt_g308 rfl rfl (xi_bool (by first | omega | exact xb_or _)).1 ?_
                  rw [decide_eq_false h12, decide_eq_true (show y.1 = 1 by omega)]
                  rw [decide_eq_true h77, h86]
                  exact ⟨rfl, rfl⟩
                · try simp only [xb_0, xb_1, ne_eq, Decidable.not_not, decide_eq_true_eq, decide_eq_false_iff_not] at h86
                  refine xe_s (f := (90, _, _, _)) xt_g308 rfl rfl rfl rfl rfl ?_
                  refine xe_mga xt_g308 rfl (q := 93) rfl (xf_13_114 fm) (by decide) rfl (by omega) ?_
                  try simp only [xo_u, xo_w, Nat.reduceEqDiff, reduceIte, false_and, true_and]
                  refine xe_s (f := (94, _, _, _)) xt_g308 rfl rfl rfl rfl rfl ?_
                  refine xe_mal (ok := xm_isB) (ty := .boolean) xt_g308 rfl (q := 95) rfl (fun _ _ => ⟨rfl, rfl, rfl, rfl⟩) rfl rfl rfl (by omega) (by omega) (by omega) (by omega) ?_
                  try simp only [xo_u, xo_w, Nat.reduceEqDiff, reduceIte, false_and, true_and]
                  rw [b52]
                  refine xe_if_eq xt_g308 rfl (t := 102) rfl (q := 98) rfl (by first | omega | exact hw.1 _ | exact hw.2 _ _ | exact xb_r _) (fun h95 => ?_) (fun h95 => ?_)
                  · try simp only [xb_0, xb_1, ne_eq, Decidable.not_not, decide_eq_true_eq, decide_eq_false_iff_not] at h95
                    refine xe_s (f := (103, _, xi 0 :: _, _)) xt_g308 rfl rfl rfl rfl rfl ?_
                    refine xe_iret xt_g308 rfl rfl (xi_bool (by first | omega | exact xb_or _)).1 ?_
                    rw [decide_eq_false h12, decide_eq_true (show y.1 = 1 by omega)]
                    rw [decide_eq_true h77, show y.2.1 = true by simpa using h86, h95]
                    exact ⟨rfl, rfl⟩
                  · try simp only [xb_0, xb_1, ne_eq, Decidable.not_not, decide_eq_true_eq, decide_eq_false_iff_not] at h95
                    refine xe_s (f := (99, _, xi 1 :: _, _)) xt_g308 rfl rfl rfl rfl rfl ?_
                    refine xe_s (f := (103, _, _, _)) xt_g308 rfl rfl rfl rfl rfl ?_
                    refine xe_iret xt_g308 rfl rfl (xi_bool (by first | omega | exact xb_or _)).1 ?_
                    rw [decide_eq_false h12, decide_eq_true (show y.1 = 1 by omega)]
                    rw [decide_eq_true h77, show y.2.1 = true by simpa using h86, show z.2 = true by simpa using h95]
                    exact ⟨rfl, rfl⟩
            · exact absurd h45 (by omega)
          · exact absurd h33 (by omega)
      · try simp only [xb_0, xb_1, ne_eq, Decidable.not_not, decide_eq_true_eq, decide_eq_false_iff_not] at h12
        refine xe_s (f := (16, _, xi 1 :: _, _)) xt_g308 rfl rfl rfl rfl rfl ?_
        refine xe_iret xt_g308 rfl rfl (xi_bool (by first | omega | exact xb_or _)).1 ?_
        rw [decide_eq_true h12]
        exact ⟨rfl, rfl⟩
theorem mi_tr_cm {fr : Nat → Option mf_T} {dp : Nat → Nat} {f : Nat} {x : mf_T} {a : pa_A} (h : mi_tr fr dp) (hx : fr f = some x) : mi_tr (cm_fr fr f a) dp := by
  have e : ∀ k y, cm_fr fr f a k = some y → ∃ z, fr k = some z ∧ z.1 = y.1 ∧ z.2.1 = y.2.1 := by
    intro k y hy
    unfold cm_fr at hy
    rw [Int.toNat_natCast] at hy
    by_cases e : k = f
    · subst e
      rw [mu_upS, hx] at hy
      cases hy
      exact ⟨x, hx, rfl, rfl⟩
    · rw [mu_upN e] at hy
      exact ⟨y, hy, rfl, rfl⟩
  have e2 : ∀ k z, fr k = some z → ∃ y, cm_fr fr f a k = some y ∧ y.1 = z.1 := by
    intro k z hz
    unfold cm_fr
    rw [Int.toNat_natCast]
    by_cases e : k = f
    · subst e
      rw [mu_upS, hz]
      exact ⟨_, rfl, rfl⟩
    · rw [mu_upN e]
      exact ⟨z, hz, rfl⟩
  intro k hk y hy
  obtain ⟨z, hz, h1, h2⟩ := e k y hy
  obtain ⟨a1, a2, a3, a4⟩ := h k hk z hz
  refine ⟨a1, a2, fun hp => a3 (by omega), fun hp => ?_⟩
  obtain ⟨b1, b2, w, b3, b4⟩ := a4 (by omega)
  obtain ⟨v, hv, hv2⟩ := e2 _ w b3
  rw [← h2]
  exact ⟨b1, b2, v, hv, by omega⟩
theorem xU_commit (hmn : xo_in m n) (h : rf s ar u) {dp : Nat → Nat} (ht : mi_tr (mu_fr u) dp) {r f : Nat} {q : mq_T} {x : mf_T} (hr : r < 24) (hq : mu_rq u r = some q) (hf : q.1 = (f : Int)) (hx : mu_fr u f = some x) : xU fm 307 m n h0 s ar [.ref m, xi (r : Int)] (fun s' ar' => s' 0 = s 0 ∧ ar' 47 = ar 47 ∧ rf s' ar' (mu_cm u f q.2.2.2.1)) := by
  show xe fm 307 (0, [(0, .ref m), (1, xi (r : Int))], [], (xo m s ar h0, n, 0, 0)) _
  obtain ⟨a1, a2, a3, a4, a5, a6, A, oA, _, _⟩ := rf_q h hr hq
  generalize hae : q.2.2.2.1 = a at *
  rw [hf] at a1 a3
  have hf16 : f < 16 := by omega
  have a46 : ar 46 (r : Int).toNat = (f : Int) := a1
  have w := h.1
  obtain ⟨x1, x2, x3, x4, x5, x6, x7, x8⟩ := rf_f h hf16 hx
  have hal := A.2.1
  have ct := xU_copyText fm hmn (h0 := h0) (s := s) (ar := ar) w (a := 16 + r) (b := f) (e := (pa_text a).length) (l := pa_text a) (l' := []) (by omega) (by omega) (by omega) (by rw [List.append_nil]; exact A) rfl
  rw [show ((16 + r : Nat) : Int) = 16 + (r : Int) by omega] at ct
  have e5 : ar 5 (16 + (r : Int)).toNat = (pa_text a).length := by
    have := A.1
    rw [show ((16 + r : Nat) : Int).toNat = (16 + (r : Int)).toNat by omega] at this
    exact this
  have efr : cm_fr (mu_fr u) f a = mu_up (mu_fr u) f (some (x.1, x.2.1, some a)) := by
    unfold cm_fr
    rw [Int.toNat_natCast, hx]
    rfl
  -- the end, from dropMarked on
  have tail : ∀ (s1 : Nat → Int) (ar1 : Nat → Nat → Int) (v3 : Int), s1 0 = s 0 → ar1 47 = ar 47 → rfn s1 ar1 (mu_srq (mu_sfr u (cm_fr (mu_fr u) f a)) (fun r => mq_cf f (mu_rq u r))) (cm_g (cm_fr (mu_fr u) f a) f) → xe fm 307 (113, [(3, xi v3), (2, xi (f : Int)), (0, .ref m), (1, xi (r : Int))], [], (xo m s1 ar1 h0, n, 0, 0)) (xQU m n h0 (fun s' ar' => s' 0 = s 0 ∧ ar' 47 = ar 47 ∧ rf s' ar' (mu_cm u f a))) := by
    intro s1 ar1 v3 z0 e47 h1
    have dm := xU_dropMarked fm hmn (h0 := h0) h1
    have tr := mi_tr_cm (a := a) ht hx
    have nd : dm_cl (cm_fr (mu_fr u) f a) (cm_g (cm_fr (mu_fr u) f a) f) f = false := by
      cases hh : dm_cl (cm_fr (mu_fr u) f a) (cm_g (cm_fr (mu_fr u) f a) f) f with
      | false => rfl
      | true =>
        have := dm_it_dp (d := dp f) tr 16 (cm_g (cm_fr (mu_fr u) f a) f) (fun j hj => by
          unfold cm_g at hj
          rw [Bool.and_eq_true, decide_eq_true_eq] at hj
          unfold mf_ch at hj
          split at hj
          · exact absurd hj.2 (by decide)
          · rename_i y hy
            have hp := of_decide_eq_true hj.2
            have := ((tr j hj.1 y hy).2.2.2 (by omega)).2.1
            rw [hp, Int.toNat_natCast] at this
            omega) f hh
        omega
    refine xe_s (f := (114, _, _, _)) xt_g307 rfl rfl rfl rfl rfl ?_
    refine xe_chV xt_g307 rfl (q := 117) rfl xk_13_425 rfl (by omega) xt_g294 (by decide) ⟨Nat.le_of_ble_eq_true rfl, Nat.le_of_ble_eq_true rfl, Nat.le_of_ble_eq_true rfl⟩ (dm) (fun s2 ar2 hp2 => ?_)
    obtain ⟨es, q2, h2⟩ := hp2
    subst es
    have hx2 : mu_fr (mu_drop (mu_srq (mu_sfr u (cm_fr (mu_fr u) f a)) (fun r => mq_cf f (mu_rq u r))) (dm_cl (cm_fr (mu_fr u) f a) (cm_g (cm_fr (mu_fr u) f a) f))) f = some (x.1, x.2.1, some a) := by
      show mf_fl _ f (cm_fr (mu_fr u) f a f) = _
      unfold mf_fl
      rw [if_neg (by rw [show dm_cl (cm_fr (mu_fr u) f a) (cm_g (cm_fr (mu_fr u) f a) f) f = false from nd]; decide), efr, mu_upS]
    obtain ⟨y1, y2, y3, y4, y5, y6, y7, y8⟩ := rf_f h2 hf16 hx2
    obtain ⟨A2, _⟩ := y8 a rfl
    have b42 : ar2 42 (f : Int).toNat = x.1 := y1
    have G2 := rg_of h2 99
    have mt := xU_makeText fm hmn (h0 := h0) (s := s2) (ar := ar2) h2.1 (M := []) (T := pa_text a) (b := (f : Int)) (by omega) G2.2.2.1.1 xh_nil (by simp) A2
    rw [List.nil_append] at mt
    refine xe_s (f := (118, _, _, _)) xt_g307 rfl rfl rfl rfl rfl ?_
    refine xe_s (f := (119, _, _, _)) xt_g307 rfl rfl rfl rfl rfl ?_
    refine xe_chV xt_g307 rfl (q := 122) rfl xk_13_389 rfl (by omega) xt_g283 (by decide) ⟨Nat.le_of_ble_eq_true rfl, Nat.le_of_ble_eq_true rfl, Nat.le_of_ble_eq_true rfl⟩ (mt) (fun s3 ar3 hp3 => ?_)
    have hp3' : xd_PM s2 ar2 (pa_text a) s3 ar3 := hp3
    have G3 := rf_mk G2 hp3' ⟨by omega, fun c hc => pa_ok_c oA hc⟩
    have b42' : ar3 42 (f : Int).toNat = x.1 := by rw [hp3'.2.1.2 42 (by decide)]; exact b42
    have tl := xU_tell fm hmn (h0 := h0) G3 (w := 2) (a := (f : Int)) (b := x.1) (by omega) (by omega) (by omega)
    refine xe_s (f := (123, _, _, _)) xt_g307 rfl rfl rfl rfl rfl ?_
    refine xe_s (f := (124, _, xi 2 :: _, _)) xt_g307 rfl rfl rfl rfl rfl ?_
    refine xe_s (f := (125, _, _, _)) xt_g307 rfl rfl rfl rfl rfl ?_
    refine xe_s (f := (126, _, _, _)) xt_g307 rfl rfl rfl rfl rfl ?_
    refine xe_mga xt_g307 rfl (q := 129) rfl (xf_13_84 fm) (by decide) rfl (by omega) ?_
    try simp only [xo_u, xo_w, Nat.reduceEqDiff, reduceIte, false_and, true_and]
    refine xe_s (f := (130, _, _, _)) xt_g307 rfl rfl rfl rfl rfl ?_
    refine xe_mal (ok := xm_isN) (ty := .int) xt_g307 rfl (q := 131) rfl (fun _ _ => ⟨rfl, rfl, rfl, rfl⟩) rfl rfl rfl (by omega) (by omega) (by omega) (by omega) ?_
    try simp only [xo_u, xo_w, Nat.reduceEqDiff, reduceIte, false_and, true_and]
    rw [b42']
    refine xe_chV xt_g307 rfl (q := 134) rfl xk_13_376 rfl (by omega) xt_g289 (by decide) ⟨Nat.le_of_ble_eq_true rfl, Nat.le_of_ble_eq_true rfl, Nat.le_of_ble_eq_true rfl⟩ (tl) (fun s4 ar4 hp4 => ?_)
    refine xe_ret xt_g307 rfl rfl ?_
    obtain ⟨q4, G4⟩ := hp4
    have R4 := rg_to G4 (fun h => absurd h (by decide))
    rw [List.take_of_length_le (by omega)] at R4
    refine ⟨_, _, rfl, rfl, (q4.1 0 (by decide)).trans ((hp3'.2.1.1 0 (by decide)).trans z0), (q4.2 47 (by decide)).trans ((hp3'.2.1.2 47 (by decide)).trans ((q2.2 47 (by decide)).trans e47)), ?_⟩
    unfold mu_cm
    rw [Int.toNat_natCast, hx]
    exact R4
  -- the marks
  have l75 : ∀ (N k : Nat) (s1 : Nat → Int) (ar1 : Nat → Nat → Int) (g : Nat → Bool), k + N = 16 → s1 0 = s 0 → ar1 47 = ar 47 → rfn s1 ar1 (mu_srq (mu_sfr u (cm_fr (mu_fr u) f a)) (fun r => mq_cf f (mu_rq u r))) g → (∀ j, j < 16 → g j = (decide (j < k) && cm_g (cm_fr (mu_fr u) f a) f j)) → xe fm 307 (75, [(3, xi (k : Int)), (2, xi (f : Int)), (0, .ref m), (1, xi (r : Int))], [], (xo m s1 ar1 h0, n, 0, 0)) (xQU m n h0 (fun s' ar' => s' 0 = s 0 ∧ ar' 47 = ar 47 ∧ rf s' ar' (mu_cm u f a))) := by
    intro N
    induction N with
    | zero =>
      intro k s1 ar1 g hk z0 e47 h1 hg
      have h2 : rfn s1 ar1 (mu_srq (mu_sfr u (cm_fr (mu_fr u) f a)) (fun r => mq_cf f (mu_rq u r))) (cm_g (cm_fr (mu_fr u) f a) f) := by
        obtain ⟨w, B, z6, r0, r1, r2, r3, r4, r5, r6, r7, r8, r9, ra⟩ := h1
        refine ⟨w, B, z6, r0, r1, r2, r3, r4, fun j hj => ⟨(r5 j hj).1, ?_⟩, r6, r7, r8, r9, ra⟩
        rw [(r5 j hj).2, hg j hj, decide_eq_true (show j < k by omega), Bool.true_and]
      refine xe_s (f := (76, _, _, _)) xt_g307 rfl rfl rfl rfl rfl ?_
      refine xe_bipush xt_g307 rfl (q := 78) rfl (by decide) (by decide) ?_
      refine xe_ic_ge xt_g307 rfl (t := 113) rfl (q := 81) rfl (by first | omega | exact hw.1 _ | exact hw.2 _ _ | exact xb_r _) (by first | omega | exact hw.1 _ | exact hw.2 _ _ | exact xb_r _) (fun h78 => ?_) (fun h78 => ?_)
      · exact tail s1 ar1 _ z0 e47 h2
      · exact absurd h78 (by omega)
    | succ N ih =>
      intro k s1 ar1 g hk z0 e47 h1 hg
      have hk16 : k < 16 := by omega
      have hfk := h1.2.2.2.2.2.2.2.2.1 k hk16
      have r42 := h1.1.2 42 (k : Int).toNat
      have r43 := h1.1.2 43 (k : Int).toNat
      have efk : mu_fr (mu_srq (mu_sfr u (cm_fr (mu_fr u) f a)) (fun r => mq_cf f (mu_rq u r))) k = cm_fr (mu_fr u) f a k := rfl
      rw [efk] at hfk
      have no : cm_g (cm_fr (mu_fr u) f a) f k = false → xe fm 307 (107, [(3, xi (k : Int)), (2, xi (f : Int)), (0, .ref m), (1, xi (r : Int))], [], (xo m s1 ar1 h0, n, 0, 0)) (xQU m n h0 (fun s' ar' => s' 0 = s 0 ∧ ar' 47 = ar 47 ∧ rf s' ar' (mu_cm u f a))) := by
        intro hn
        have h2 := ih (k + 1) s1 ar1 g (by omega) z0 e47 h1 (fun j hj => by
          rw [hg j hj]
          by_cases e : j = k
          · subst e
            rw [hn, Bool.and_false, Bool.and_false]
          · by_cases hlt : j < k
            · rw [decide_eq_true hlt, decide_eq_true (show j < k + 1 by omega)]
            · rw [decide_eq_false hlt, decide_eq_false (show ¬ j < k + 1 by omega)])
        refine xe_iinc xt_g307 rfl (q := 110) rfl rfl (by decide) (L1 := [(3, _), (2, _), (0, _), (1, _)]) rfl ?_
        refine xe_s (f := (75, _, _, _)) xt_g307 rfl rfl rfl rfl rfl ?_
        rw [show ((k : Int) + 1) = ((k + 1 : Nat) : Int) by omega]
        exact h2
      cases hy : cm_fr (mu_fr u) f a k with
      | none =>
        rw [hy] at hfk
        have b42 : ar1 42 (k : Int).toNat < 0 := hfk.1
        refine xe_s (f := (76, _, _, _)) xt_g307 rfl rfl rfl rfl rfl ?_
        refine xe_bipush xt_g307 rfl (q := 78) rfl (by decide) (by decide) ?_
        refine xe_ic_ge xt_g307 rfl (t := 113) rfl (q := 81) rfl (by first | omega | exact hw.1 _ | exact hw.2 _ _ | exact xb_r _) (by first | omega | exact hw.1 _ | exact hw.2 _ _ | exact xb_r _) (fun h78 => ?_) (fun h78 => ?_)
        · exact absurd h78 (by omega)
        · refine xe_s (f := (82, _, _, _)) xt_g307 rfl rfl rfl rfl rfl ?_
          refine xe_mga xt_g307 rfl (q := 85) rfl (xf_13_84 fm) (by decide) rfl (by omega) ?_
          try simp only [xo_u, xo_w, Nat.reduceEqDiff, reduceIte, false_and, true_and]
          refine xe_s (f := (86, _, _, _)) xt_g307 rfl rfl rfl rfl rfl ?_
          refine xe_mal (ok := xm_isN) (ty := .int) xt_g307 rfl (q := 87) rfl (fun _ _ => ⟨rfl, rfl, rfl, rfl⟩) rfl rfl rfl (by omega) (by omega) (by omega) (by omega) ?_
          try simp only [xo_u, xo_w, Nat.reduceEqDiff, reduceIte, false_and, true_and]
          refine xe_if_lt xt_g307 rfl (t := 107) rfl (q := 90) rfl (by first | omega | exact hw.1 _ | exact hw.2 _ _ | exact xb_r _) (fun h87 => ?_) (fun h87 => ?_)
          · try simp only [xb_0, xb_1, ne_eq, Decidable.not_not, decide_eq_true_eq, decide_eq_false_iff_not] at h87
            exact no (by unfold cm_g; rw [hy]; unfold mf_ch; rw [Bool.and_false])
          · exact absurd h87 (by omega)
      | some y =>
        rw [hy] at hfk
        obtain ⟨⟨b1, b2, b3, b4, _⟩, _⟩ := hfk
        have b42 : ar1 42 (k : Int).toNat = y.1 := b1
        have b43 : ar1 43 (k : Int).toNat = y.2.1 := b4
        refine xe_s (f := (76, _, _, _)) xt_g307 rfl rfl rfl rfl rfl ?_
        refine xe_bipush xt_g307 rfl (q := 78) rfl (by decide) (by decide) ?_
        refine xe_ic_ge xt_g307 rfl (t := 113) rfl (q := 81) rfl (by first | omega | exact hw.1 _ | exact hw.2 _ _ | exact xb_r _) (by first | omega | exact hw.1 _ | exact hw.2 _ _ | exact xb_r _) (fun h78 => ?_) (fun h78 => ?_)
        · exact absurd h78 (by omega)
        · refine xe_s (f := (82, _, _, _)) xt_g307 rfl rfl rfl rfl rfl ?_
          refine xe_mga xt_g307 rfl (q := 85) rfl (xf_13_84 fm) (by decide) rfl (by omega) ?_
          try simp only [xo_u, xo_w, Nat.reduceEqDiff, reduceIte, false_and, true_and]
          refine xe_s (f := (86, _, _, _)) xt_g307 rfl rfl rfl rfl rfl ?_
          refine xe_mal (ok := xm_isN) (ty := .int) xt_g307 rfl (q := 87) rfl (fun _ _ => ⟨rfl, rfl, rfl, rfl⟩) rfl rfl rfl (by omega) (by omega) (by omega) (by omega) ?_
          try simp only [xo_u, xo_w, Nat.reduceEqDiff, reduceIte, false_and, true_and]
          rw [b42]
          refine xe_if_lt xt_g307 rfl (t := 107) rfl (q := 90) rfl (by first | omega | exact hw.1 _ | exact hw.2 _ _ | exact xb_r _) (fun h87 => ?_) (fun h87 => ?_)
          · exact absurd h87 (by omega)
          · try simp only [xb_0, xb_1, ne_eq, Decidable.not_not, decide_eq_true_eq, decide_eq_false_iff_not] at h87
            refine xe_s (f := (91, _, _, _)) xt_g307 rfl rfl rfl rfl rfl ?_
            refine xe_mga xt_g307 rfl (q := 94) rfl (xf_13_87 fm) (by decide) rfl (by omega) ?_
            try simp only [xo_u, xo_w, Nat.reduceEqDiff, reduceIte, false_and, true_and]
            refine xe_s (f := (95, _, _, _)) xt_g307 rfl rfl rfl rfl rfl ?_
            refine xe_mal (ok := xm_isN) (ty := .int) xt_g307 rfl (q := 96) rfl (fun _ _ => ⟨rfl, rfl, rfl, rfl⟩) rfl rfl rfl (by omega) (by omega) (by omega) (by omega) ?_
            try simp only [xo_u, xo_w, Nat.reduceEqDiff, reduceIte, false_and, true_and]
            rw [b43]
            refine xe_s (f := (97, _, _, _)) xt_g307 rfl rfl rfl rfl rfl ?_
            refine xe_ic_ne xt_g307 rfl (t := 107) rfl (q := 100) rfl (by first | omega | exact hw.1 _ | exact hw.2 _ _ | exact xb_r _) (by first | omega | exact hw.1 _ | exact hw.2 _ _ | exact xb_r _) (fun h97 => ?_) (fun h97 => ?_)
            · rw [b43] at r43
              exact no (by unfold cm_g; rw [hy]; show (decide (k < 16) && decide (y.2.1 = (f : Int))) = false; rw [decide_eq_false h97, Bool.and_false])
            · refine xe_s (f := (101, _, _, _)) xt_g307 rfl rfl rfl rfl rfl ?_
              refine xe_mga xt_g307 rfl (q := 104) rfl (xf_13_93 fm) (by decide) rfl (by omega) ?_
              try simp only [xo_u, xo_w, Nat.reduceEqDiff, reduceIte, false_and, true_and]
              refine xe_s (f := (105, _, _, _)) xt_g307 rfl rfl rfl rfl rfl ?_
              refine xe_s (f := (106, _, xi 1 :: _, _)) xt_g307 rfl rfl rfl rfl rfl ?_
              refine xe_mas (ok := xm_isB) (ty := .boolean) xt_g307 rfl (q := 107) rfl (fun _ _ => ⟨rfl, rfl, rfl, rfl⟩) rfl rfl rfl (by omega) (by omega) (by omega) (by omega) (by omega) (xi_nb (by first | omega | exact xb_or _)) ?_
              refine xe_iinc xt_g307 rfl (q := 110) rfl rfl (by decide) (L1 := [(3, _), (2, _), (0, _), (1, _)]) rfl ?_
              refine xe_s (f := (75, _, _, _)) xt_g307 rfl rfl rfl rfl rfl ?_
              rw [show ((k : Int) + 1) = ((k + 1 : Nat) : Int) by omega]
              refine ih (k + 1) s1 (xo_w ar1 45 k 1) (mu_up g k true) (by omega) z0 (by rw [xo_wK (by decide)]; exact e47) (rfn_m h1 hk16) (fun j hj => ?_)
              by_cases e : j = k
              · subst e
                rw [mu_upS, decide_eq_true (show j < j + 1 by omega), Bool.true_and]
                unfold cm_g
                rw [hy, decide_eq_true hk16]
                show true = (true && decide (y.2.1 = (f : Int)))
                rw [decide_eq_true (Decidable.not_not.mp h97)]
                rfl
              · rw [mu_upN e, hg j hj]
                by_cases hlt : j < k
                · rw [decide_eq_true hlt, decide_eq_true (show j < k + 1 by omega)]
                · rw [decide_eq_false hlt, decide_eq_false (show ¬ j < k + 1 by omega)]
  -- the fetches of the frame
  have l34 : ∀ (N k : Nat) (ar1 : Nat → Nat → Int), k + N = 24 → xo_wf s ar1 → xo_B ar1 → xq [] [4, 5, 44, 46] s ar s ar1 → xs_F [f] ar ar1 → rf_fr ar1 (cm_fr (mu_fr u) f a) → (∀ r, r < 24 → rf_q1 ar1 r (if r < k then mq_cf f (mu_rq u r) else mu_rq u r)) → xe fm 307 (34, [(3, xi (k : Int)), (2, xi (f : Int)), (0, .ref m), (1, xi (r : Int))], [], (xo m s ar1 h0, n, 0, 0)) (xQU m n h0 (fun s' ar' => s' 0 = s 0 ∧ ar' 47 = ar 47 ∧ rf s' ar' (mu_cm u f a))) := by
    intro N
    induction N with
    | zero =>
      intro k ar1 hk w1 B1 q1 F1 hfr hrq
      have hkk : k = 24 := by omega
      subst hkk
      have h1 : rfn s ar1 (mu_srq (mu_sfr u (cm_fr (mu_fr u) f a)) (fun r => mq_cf f (mu_rq u r))) (fun _ => false) := by
        obtain ⟨w, B, z6, r0, r1, r2, r3, r4, r5, r6, r7, r8, r9, ra⟩ := h
        refine ⟨w1, B1, z6, rf_k0 r0 q1 rfl, rf_k1 r1 q1 rfl, rf_k2 r2 q1 rfl, rf_k3 r3 q1 rfl, rf_k4 r4 q1 rfl, fun g hg => hfr g hg, fun r hr => by have := hrq r hr; rw [if_pos hr] at this; exact this, rf_or_k r7 rfl F1 (fun k hk => by rw [List.mem_singleton] at hk; omega), rf_k8 r8 q1 rfl, rf_k9 r9 q1 rfl, rf_ka ra q1 rfl⟩
      have h2 := l75 16 0 s ar1 (fun _ => false) (by omega) rfl (q1.2 47 (by decide)) h1 (fun j hj => by rw [decide_eq_false (by omega), Bool.false_and])
      refine xe_s (f := (35, _, _, _)) xt_g307 rfl rfl rfl rfl rfl ?_
      refine xe_bipush xt_g307 rfl (q := 37) rfl (by decide) (by decide) ?_
      refine xe_ic_ge xt_g307 rfl (t := 73) rfl (q := 40) rfl (by first | omega | exact hw.1 _ | exact hw.2 _ _ | exact xb_r _) (by first | omega | exact hw.1 _ | exact hw.2 _ _ | exact xb_r _) (fun h37 => ?_) (fun h37 => ?_)
      · refine xe_s (f := (74, _, xi 0 :: _, _)) xt_g307 rfl rfl rfl rfl rfl ?_
        refine xe_s (f := (75, [(3, _), (2, _), (0, _), (1, _)], _, _)) xt_g307 rfl rfl rfl rfl rfl ?_
        exact h2
      · exact absurd h37 (by omega)
    | succ N ih =>
      intro k ar1 hk w1 B1 q1 F1 hfr hrq
      have hk24 : k < 24 := by omega
      have hrk := hrq k hk24
      rw [if_neg (by omega)] at hrk
      have r46 := w1.2 46 (k : Int).toNat
      have r47 := w1.2 47 (k : Int).toNat
      have keep : mq_cf f (mu_rq u k) = mu_rq u k → xe fm 307 (67, [(3, xi (k : Int)), (2, xi (f : Int)), (0, .ref m), (1, xi (r : Int))], [], (xo m s ar1 h0, n, 0, 0)) (xQU m n h0 (fun s' ar' => s' 0 = s 0 ∧ ar' 47 = ar 47 ∧ rf s' ar' (mu_cm u f a))) := by
        intro he
        have h2 := ih (k + 1) ar1 (by omega) w1 B1 q1 F1 hfr (fun r hr2 => by
          by_cases e : r = k
          · subst e
            rw [if_pos (by omega), he]
            exact hrk
          · have h2 := hrq r hr2
            by_cases hlt : r < k
            · rw [if_pos hlt] at h2
              rw [if_pos (by omega)]
              exact h2
            · rw [if_neg hlt] at h2
              rw [if_neg (by omega)]
              exact h2)
        refine xe_iinc xt_g307 rfl (q := 70) rfl rfl (by decide) (L1 := [(3, _), (2, _), (0, _), (1, _)]) rfl ?_
        refine xe_s (f := (34, _, _, _)) xt_g307 rfl rfl rfl rfl rfl ?_
        rw [show ((k : Int) + 1) = ((k + 1 : Nat) : Int) by omega]
        exact h2
      cases hqk : mu_rq u k with
      | none =>
        rw [hqk] at hrk
        have b46 : ar1 46 (k : Int).toNat < 0 := hrk
        refine xe_s (f := (35, _, _, _)) xt_g307 rfl rfl rfl rfl rfl ?_
        refine xe_bipush xt_g307 rfl (q := 37) rfl (by decide) (by decide) ?_
        refine xe_ic_ge xt_g307 rfl (t := 73) rfl (q := 40) rfl (by first | omega | exact hw.1 _ | exact hw.2 _ _ | exact xb_r _) (by first | omega | exact hw.1 _ | exact hw.2 _ _ | exact xb_r _) (fun h37 => ?_) (fun h37 => ?_)
        · exact absurd h37 (by omega)
        · refine xe_s (f := (41, _, _, _)) xt_g307 rfl rfl rfl rfl rfl ?_
          refine xe_mga xt_g307 rfl (q := 44) rfl (xf_13_96 fm) (by decide) rfl (by omega) ?_
          try simp only [xo_u, xo_w, Nat.reduceEqDiff, reduceIte, false_and, true_and]
          refine xe_s (f := (45, _, _, _)) xt_g307 rfl rfl rfl rfl rfl ?_
          refine xe_mal (ok := xm_isN) (ty := .int) xt_g307 rfl (q := 46) rfl (fun _ _ => ⟨rfl, rfl, rfl, rfl⟩) rfl rfl rfl (by omega) (by omega) (by omega) (by omega) ?_
          try simp only [xo_u, xo_w, Nat.reduceEqDiff, reduceIte, false_and, true_and]
          refine xe_s (f := (47, _, _, _)) xt_g307 rfl rfl rfl rfl rfl ?_
          refine xe_ic_ne xt_g307 rfl (t := 67) rfl (q := 50) rfl (by first | omega | exact hw.1 _ | exact hw.2 _ _ | exact xb_r _) (by first | omega | exact hw.1 _ | exact hw.2 _ _ | exact xb_r _) (fun h47 => ?_) (fun h47 => ?_)
          · exact keep (by rw [hqk]; rfl)
          · exact absurd h47 (by omega)
      | some y =>
        rw [hqk] at hrk
        have b46 : ar1 46 (k : Int).toNat = y.1 := hrk.1
        have b1 := hrk.2.1
        have b2 := hrk.2.2.1
        have b47 : ar1 47 (k : Int).toNat = xb y.2.1.isSome := by
          have := hrk.2.2.2.2.2.2.2.2.1
          cases hh : y.2.1 with
          | none => rw [hh] at this; exact this
          | some z => rw [hh] at this; exact this.1
        have hxb := xb_or y.2.1.isSome
        refine xe_s (f := (35, _, _, _)) xt_g307 rfl rfl rfl rfl rfl ?_
        refine xe_bipush xt_g307 rfl (q := 37) rfl (by decide) (by decide) ?_
        refine xe_ic_ge xt_g307 rfl (t := 73) rfl (q := 40) rfl (by first | omega | exact hw.1 _ | exact hw.2 _ _ | exact xb_r _) (by first | omega | exact hw.1 _ | exact hw.2 _ _ | exact xb_r _) (fun h37 => ?_) (fun h37 => ?_)
        · exact absurd h37 (by omega)
        · refine xe_s (f := (41, _, _, _)) xt_g307 rfl rfl rfl rfl rfl ?_
          refine xe_mga xt_g307 rfl (q := 44) rfl (xf_13_96 fm) (by decide) rfl (by omega) ?_
          try simp only [xo_u, xo_w, Nat.reduceEqDiff, reduceIte, false_and, true_and]
          refine xe_s (f := (45, _, _, _)) xt_g307 rfl rfl rfl rfl rfl ?_
          refine xe_mal (ok := xm_isN) (ty := .int) xt_g307 rfl (q := 46) rfl (fun _ _ => ⟨rfl, rfl, rfl, rfl⟩) rfl rfl rfl (by omega) (by omega) (by omega) (by omega) ?_
          try simp only [xo_u, xo_w, Nat.reduceEqDiff, reduceIte, false_and, true_and]
          rw [b46]
          refine xe_s (f := (47, _, _, _)) xt_g307 rfl rfl rfl rfl rfl ?_
          refine xe_ic_ne xt_g307 rfl (t := 67) rfl (q := 50) rfl (by first | omega | exact hw.1 _ | exact hw.2 _ _ | exact xb_r _) (by first | omega | exact hw.1 _ | exact hw.2 _ _ | exact xb_r _) (fun h47 => ?_) (fun h47 => ?_)
          · exact keep (by rw [hqk]; show (if y.1 = (f : Int) ∧ y.2.1.isSome = true then none else some y) = some y; rw [if_neg (fun h => h47 h.1)])
          · refine xe_s (f := (51, _, _, _)) xt_g307 rfl rfl rfl rfl rfl ?_
            refine xe_mga xt_g307 rfl (q := 54) rfl (xf_13_99 fm) (by decide) rfl (by omega) ?_
            try simp only [xo_u, xo_w, Nat.reduceEqDiff, reduceIte, false_and, true_and]
            refine xe_s (f := (55, _, _, _)) xt_g307 rfl rfl rfl rfl rfl ?_
            refine xe_mal (ok := xm_isN) (ty := .int) xt_g307 rfl (q := 56) rfl (fun _ _ => ⟨rfl, rfl, rfl, rfl⟩) rfl rfl rfl (by omega) (by omega) (by omega) (by omega) ?_
            try simp only [xo_u, xo_w, Nat.reduceEqDiff, reduceIte, false_and, true_and]
            rw [b47]
            refine xe_s (f := (57, _, xi 1 :: _, _)) xt_g307 rfl rfl rfl rfl rfl ?_
            refine xe_ic_ne xt_g307 rfl (t := 67) rfl (q := 60) rfl (by first | omega | exact hw.1 _ | exact hw.2 _ _ | exact xb_r _) (by first | omega | exact hw.1 _ | exact hw.2 _ _ | exact xb_r _) (fun h57 => ?_) (fun h57 => ?_)
            · exact keep (by rw [hqk]; show (if y.1 = (f : Int) ∧ y.2.1.isSome = true then none else some y) = some y; rw [if_neg (fun h => h57 (by rw [h.2]; rfl))])
            · refine xe_s (f := (61, _, _, _)) xt_g307 rfl rfl rfl rfl rfl ?_
              refine xe_mga xt_g307 rfl (q := 64) rfl (xf_13_96 fm) (by decide) rfl (by omega) ?_
              try simp only [xo_u, xo_w, Nat.reduceEqDiff, reduceIte, false_and, true_and]
              refine xe_s (f := (65, _, _, _)) xt_g307 rfl rfl rfl rfl rfl ?_
              refine xe_s (f := (66, _, xi (-1) :: _, _)) xt_g307 rfl rfl rfl rfl rfl ?_
              refine xe_mas (ok := xm_isN) (ty := .int) xt_g307 rfl (q := 67) rfl (fun _ _ => ⟨rfl, rfl, rfl, rfl⟩) rfl rfl rfl (by omega) (by omega) (by omega) (by omega) (by omega) rfl ?_
              refine xe_iinc xt_g307 rfl (q := 70) rfl rfl (by decide) (L1 := [(3, _), (2, _), (0, _), (1, _)]) rfl ?_
              refine xe_s (f := (34, _, _, _)) xt_g307 rfl rfl rfl rfl rfl ?_
              have h47' := Decidable.not_not.mp h47
              have h57' : y.2.1.isSome = true := xb_1.mp (Decidable.not_not.mp h57)
              have q2 : xq [] [46] s ar1 s (xo_w ar1 46 k (-1)) := xq_w xq_r (by decide)
              have F : xs_F [] ar1 (xo_w ar1 46 k (-1)) := xs_q q2 (by decide) (by decide)
              rw [show ((k : Int) + 1) = ((k + 1 : Nat) : Int) by omega]
              refine ih (k + 1) (xo_w ar1 46 k (-1)) (by omega) (xo_wf_w w1 (by omega)) (xo_B_w B1 (fun h => absurd h (by decide))) (xq_w q1 (by decide)) (xs_e F1 (xo_wK (by decide)) (xo_wK (by decide))) (rf_k5 hfr q2 F rfl) (fun r hr2 => ?_)
              by_cases e : r = k
              · subst e
                rw [if_pos (by omega), hqk]
                show rf_q1 _ r (if y.1 = (f : Int) ∧ y.2.1.isSome = true then none else some y)
                rw [if_pos ⟨h47', h57'⟩]
                show xo_w ar1 46 r (-1) 46 r < 0
                rw [xo_wS]
                decide
              · have h2 := hrq r hr2
                by_cases hlt : r < k
                · rw [if_pos hlt] at h2
                  rw [if_pos (by omega)]
                  exact rf_q1_k h2 hr2 (fun k2 _ _ => xo_wI e) F ⟨by simp, by simp, by simp⟩
                · rw [if_neg hlt] at h2
                  rw [if_neg (by omega)]
                  exact rf_q1_k h2 hr2 (fun k2 _ _ => xo_wI e) F ⟨by simp, by simp, by simp⟩
  refine xe_s (f := (1, _, _, _)) xt_g307 rfl rfl rfl rfl rfl ?_
  refine xe_mga xt_g307 rfl (q := 4) rfl (xf_13_96 fm) (by decide) rfl (by omega) ?_
  try simp only [xo_u, xo_w, Nat.reduceEqDiff, reduceIte, false_and, true_and]
  refine xe_s (f := (5, _, _, _)) xt_g307 rfl rfl rfl rfl rfl ?_
  refine xe_mal (ok := xm_isN) (ty := .int) xt_g307 rfl (q := 6) rfl (fun _ _ => ⟨rfl, rfl, rfl, rfl⟩) rfl rfl rfl (by omega) (by omega) (by omega) (by omega) ?_
  try simp only [xo_u, xo_w, Nat.reduceEqDiff, reduceIte, false_and, true_and]
  rw [a46]
  refine xe_s (f := (7, [(2, _), (0, _), (1, _)], _, _)) xt_g307 rfl rfl rfl rfl rfl ?_
  refine xe_s (f := (8, _, _, _)) xt_g307 rfl rfl rfl rfl rfl ?_
  refine xe_bipush xt_g307 rfl (q := 10) rfl (by decide) (by decide) ?_
  refine xe_s (f := (11, _, _, _)) xt_g307 rfl rfl rfl rfl rfl ?_
  refine xe_iadd xt_g307 rfl (q := 12) rfl ?_
  refine xe_s (f := (13, _, _, _)) xt_g307 rfl rfl rfl rfl rfl ?_
  refine xe_s (f := (14, _, _, _)) xt_g307 rfl rfl rfl rfl rfl ?_
  refine xe_mga xt_g307 rfl (q := 17) rfl (xf_13_16 fm) (by decide) rfl (by omega) ?_
  try simp only [xo_u, xo_w, Nat.reduceEqDiff, reduceIte, false_and, true_and]
  refine xe_bipush xt_g307 rfl (q := 19) rfl (by decide) (by decide) ?_
  refine xe_s (f := (20, _, _, _)) xt_g307 rfl rfl rfl rfl rfl ?_
  refine xe_iadd xt_g307 rfl (q := 21) rfl ?_
  refine xe_mal (ok := xm_isN) (ty := .int) xt_g307 rfl (q := 22) rfl (fun _ _ => ⟨rfl, rfl, rfl, rfl⟩) rfl rfl rfl (by omega) (by omega) (by omega) (by omega) ?_
  try simp only [xo_u, xo_w, Nat.reduceEqDiff, reduceIte, false_and, true_and]
  rw [e5]
  refine xe_chV xt_g307 rfl (q := 25) rfl xk_13_386 rfl (by omega) xt_g282 (by decide) ⟨Nat.le_of_ble_eq_true rfl, Nat.le_of_ble_eq_true rfl, Nat.le_of_ble_eq_true rfl⟩ (ct) (fun s1 ar1 hp1 => ?_)
  refine xe_s (f := (26, _, _, _)) xt_g307 rfl rfl rfl rfl rfl ?_
  refine xe_mga xt_g307 rfl (q := 29) rfl (xf_13_90 fm) (by decide) rfl (by omega) ?_
  try simp only [xo_u, xo_w, Nat.reduceEqDiff, reduceIte, false_and, true_and]
  refine xe_s (f := (30, _, _, _)) xt_g307 rfl rfl rfl rfl rfl ?_
  refine xe_s (f := (31, _, xi 1 :: _, _)) xt_g307 rfl rfl rfl rfl rfl ?_
  refine xe_mas (ok := xm_isB) (ty := .boolean) xt_g307 rfl (q := 32) rfl (fun _ _ => ⟨rfl, rfl, rfl, rfl⟩) rfl rfl rfl (by omega) (by omega) (by omega) (by omega) (by omega) (xi_nb (by first | omega | exact xb_or _)) ?_
  refine xe_s (f := (33, _, xi 0 :: _, _)) xt_g307 rfl rfl rfl rfl rfl ?_
  refine xe_s (f := (34, [(3, _), (2, _), (0, _), (1, _)], _, _)) xt_g307 rfl rfl rfl rfl rfl ?_
  obtain ⟨es, w1, q1, F1, A1⟩ := hp1
  subst es
  have q2 : xq [] [4, 5, 44, 46] s1 ar s1 (xo_w ar1 44 f 1) := xq_w (xq_mm q1 (by decide) (by decide)) (by decide)
  have F2 : xs_F [f] ar (xo_w ar1 44 f 1) := xs_e F1 (xo_wK (by decide)) (xo_wK (by decide))
  obtain ⟨w, B, z6, r0, r1, r2, r3, r4, r5, r6, r7, r8, r9, ra⟩ := h
  refine l34 24 0 (xo_w ar1 44 f 1) (by omega) (xo_wf_w w1 (by omega)) (xo_B_w (xo_B_q B q1 (by decide)) (fun _ => Or.inr rfl)) q2 F2 (fun g hg => ⟨?_, by rw [q2.2 45 (by decide)]; exact (r5 g hg).2⟩) (fun r' hr' => ?_)
  · rw [efr]
    by_cases e : g = f
    · subst e
      rw [mu_upS]
      refine ⟨by rw [q2.2 42 (by decide)]; exact x1, x2, x3, by rw [q2.2 43 (by decide)]; exact x4, x5, x6, by rw [xo_wS]; rfl, fun b hb => ?_⟩
      cases hb
      exact ⟨pa_at_c A1 (xo_wK (by decide)) (xo_wK (by decide)), oA⟩
    · rw [mu_upN e]
      exact rf_f1_k (r5 g hg).1 hg (by rw [q2.2 42 (by decide)]) (by rw [q2.2 43 (by decide)]) (by rw [xo_wI e, q1.2 44 (by decide)]) F2 (by rw [List.mem_singleton]; exact e)
  · rw [if_neg (by omega)]
    refine rf_q1_k (r6 r' hr') hr' (fun k h1 h2 => by rw [xo_wK (by omega), q1.2 k (by simp; omega)]) F2 ?_
    simp only [List.mem_singleton]
    omega
end XAN
