/-! the reference: answer, set, leave, lead -/
theorem ck_put_m {L : List (List Int)} {q t : Int} {C : List ck_T} {f : ck_T} {net ss : Bool} {c : ck_T} (h : c ∈ ck_put L q t C f net ss) : c ∈ C ∨ c = f := by
  have hq : ∀ (F : Nat) (C : List ck_T), c ∈ ck_q L f.2.2.1 q F C → c ∈ C := by
    intro F
    induction F with
    | zero => intro C h; exact h
    | succ F ih =>
      intro C h
      unfold ck_q at h
      split at h
      · exact List.mem_of_mem_eraseIdx (ih _ h)
      · exact h
  unfold ck_put at h
  split at h
  · exact Or.inl h
  · have h1 : c ∈ ck_q L f.2.2.1 q 41 (ck_ins t C f) := by
      unfold ck_c40 at h
      split at h
      · exact List.mem_of_mem_eraseIdx h
      · exact h
    have h2 := hq _ _ h1
    unfold ck_ins at h2
    split at h2
    · split at h2
      · exact Or.inl (List.mem_of_mem_eraseIdx h2)
      · exact Or.inl h2
    · split at h2
      · rcases List.mem_or_eq_of_mem_set h2 with h | h
        · exact Or.inl h
        · exact Or.inr h
      · rcases List.mem_append.mp h2 with h | h
        · exact Or.inl h
        · exact Or.inr (List.mem_singleton.mp h)
theorem ck_set_m {l : List Int} {L : List (List Int)} {q tm : Int} {C : List ck_T} {a : pa_A} {net : Bool} (hl : ∀ c, c ∈ l → 32 ≤ c ∧ c ≤ 126) (hC : ∀ c, c ∈ C → ck_gd c) {c : ck_T} (h : c ∈ ck_set (lt l) (l.length : Int) L q tm C a net) : ck_gd c := by
  have tr : ∀ b e x, 0 ≤ b → b ≤ e → e ≤ (l.length : Int) → x ∈ tr_m (lt l) b e → 32 ≤ x ∧ x ≤ 126 := by
    intro b e x h0 hb he hx
    have hr := tr_r (t := lt l) hb
    obtain ⟨j, h1, h2, rfl⟩ := pa_sl_m hx
    unfold lt
    rw [if_pos (by omega)]
    exact hl _ (xg_mem (by omega))
  have hnov : ∀ c, c ∈ ck_nov tm C → ck_gd c := fun c hc => hC c (List.mem_filter.mp hc).1
  unfold ck_set at h
  have hen := pa_fd_r (t := lt l) (c := 59) ((l.length : Int)).toNat 0
  generalize pa_fd (lt l) 59 ((l.length : Int)).toNat 0 = en at *
  split at h
  · exact hnov c h
  · rename_i p hp
    have gd : ∀ x, x ∈ p.1 ∨ x ∈ p.2 → 32 ≤ x ∧ x ≤ 126 := by
      have hr := pa_fd_r (t := lt l) (c := 61) en.toNat 0
      unfold ck_pair at hp
      generalize pa_fd (lt l) 61 en.toNat 0 = e at *
      split at hp
      · cases hp
      · rename_i hne
        split at hp
        · cases hp
        · cases hp
          intro x hx
          rcases hx with hx | hx
          · exact tr 0 e x (by omega) (by omega) (by omega) hx
          · exact tr (e + 1) en x (by omega) (by omega) (by omega) hx
    unfold ck_set2 at h
    split at h
    · exact hnov c h
    · split at h
      · exact hnov c h
      · rcases ck_put_m h with h | h
        · exact hnov c h
        · rw [h]
          exact gd
def mu_cs (u : mu_T) (a : pa_A) (net : Bool) : mu_T := mu_sln (mu_sck u (ck_set (lt (mu_ln u)) ((mu_ln u).length : Int) (mu_sf u) (mu_qt u) (mu_tm u) (mu_ck u) a net)) []
def mu_set (u : mu_T) (r : Int) : mu_T := match mu_rq u r.toNat with
  | none => mu_sln u []
  | some q => if mu_ir u r = true ∧ mq_wi q = true then mu_cs u q.2.2.2.1 true else mu_sln u []
def mu_lvq (u : mu_T) (r : Int) (q : mq_T) (lv : Option (Option (pa_A × Bool))) : mu_T := mu_srq u (mu_up (mu_rq u) r.toNat (some (q.1, q.2.1, q.2.2.1, q.2.2.2.1, lv)))
def mu_lv (u : mu_T) (wi : Bool) : Option (Option (pa_A × Bool)) := if mu_ln u = [42] then some none else match mu_res u none with
  | none => none
  | some a => some (some (a, wi))
def mu_leave (u : mu_T) (r : Int) (wi : Bool) : mu_T := match mu_rq u r.toNat with
  | none => mu_sln u []
  | some q => if mu_ir u r = true then mu_sln (mu_lvq u r q (mu_lv u wi)) [] else mu_sln u []
section XAW
variable (fm : Value) {m n : Nat} {h0 : xm_H} {s : Nat → Int} {ar : Nat → Nat → Int} {u : mu_T}
theorem rf_line_0 {l : List Int} (h : rf_line s ar l) {k : Nat} (hk : k < l.length) : ar 1 k = l.getD k 0 := by
  have := h.2.2.1 k hk
  rw [Nat.zero_add] at this
  exact this
theorem xU_answer (hmn : xo_in m n) (h : rf s ar u) {dp : Nat → Nat} (ht : mi_tr (mu_fr u) dp) (hq : ∀ r q, r < 24 → mu_rq u r = some q → ∃ x, mu_fr u q.1.toNat = some x) {r : Int} (hrr : xr r) : xU fm 305 m n h0 s ar [.ref m, xi r] (fun s' ar' => s' 0 = xb (!mu_ir u r) ∧ rf s' ar' (mu_answer u r)) := by
  show xe fm 305 (0, [(0, .ref m), (1, xi r)], [], (xo m s ar h0, n, 0, 0)) _
  generalize hR : mu_answer u r = R
  unfold mu_answer at hR
  have e1 := rf_ir h (f := r)
  have lk := xv_lacks fm hmn (h0 := h0) (s := s) (ar := ar) (b := mu_ir u r) (t := true)
  obtain ⟨hl, hz⟩ := rf_lkt h (b := mu_ir u r)
  generalize (if mu_ir u r = true then xo_u s 0 0 else if true = true then xo_u (xo_u s 0 1) 2 0 else xo_u s 0 1) = s1 at *
  refine xe_s (f := (1, _, _, _)) xt_g305 rfl rfl rfl rfl rfl ?_
  refine xe_s (f := (2, _, _, _)) xt_g305 rfl rfl rfl rfl rfl ?_
  refine xe_s (f := (3, _, _, _)) xt_g305 rfl rfl rfl rfl rfl ?_
  refine xe_cvI xt_g305 rfl (q := 6) rfl xk_13_443 rfl (by omega) xt_g306 (by decide) ⟨Nat.le_of_ble_eq_true rfl, Nat.le_of_ble_eq_true rfl, Nat.le_of_ble_eq_true rfl⟩ (xv_isRequest fm hmn h.1 hrr) ?_
  rw [e1]
  refine xe_s (f := (7, _, xi 1 :: _, _)) xt_g305 rfl rfl rfl rfl rfl ?_
  refine xe_cvI xt_g305 rfl (q := 10) rfl xk_13_418 rfl (by omega) xt_g292 (by decide) ⟨Nat.le_of_ble_eq_true rfl, Nat.le_of_ble_eq_true rfl, Nat.le_of_ble_eq_true rfl⟩ (lk) ?_
  refine xe_if_eq xt_g305 rfl (t := 14) rfl (q := 13) rfl (by first | omega | exact hw.1 _ | exact hw.2 _ _ | exact xb_r _) (fun h10 => ?_) (fun h10 => ?_)
  · try simp only [xb_0, xb_1, ne_eq, Decidable.not_not, decide_eq_true_eq, decide_eq_false_iff_not] at h10
    have hb : mu_ir u r = true := by simpa using h10
    rw [hb] at hl hz hR ⊢
    rw [if_pos rfl] at hl
    obtain ⟨K, q, rfl, hK, hqk⟩ := mu_ir_s hb
    rw [Int.toNat_natCast, hqk] at hR
    dsimp only at hR
    rw [if_pos rfl] at hR
    obtain ⟨a1, a2, a3, a4, a5, a6, A, oA, ft, lv⟩ := rf_q hl hK hqk
    obtain ⟨F, hF⟩ := Int.eq_ofNat_of_zero_le a2
    obtain ⟨x, hx⟩ := hq K q hK hqk
    rw [hF, Int.toNat_natCast] at hx
    have b46 : ar 46 (K : Int).toNat = (F : Int) := a1.trans hF
    have hF16 : F < 16 := by omega
    -- the end, from the message on
    have fin : ∀ (s2 : Nat → Int) (ar2 : Nat → Nat → Int) (u2 : mu_T) (M : List Int) (seen : Bool), s2 0 = xb (!true) → rg s2 ar2 u2 99 M → M.length ≤ 200 → R = mu_dq (mu_note u2 (if seen = true then 3 else 4) F K M) K → ∀ v4, xe fm 305 (91, [(4, xi v4), (3, xi (xb seen)), (2, xi (F : Int)), (0, .ref m), (1, xi (K : Int))], [], (xo m s2 ar2 h0, n, 0, 0)) (xQU m n h0 (fun s' ar' => s' 0 = xb (!true) ∧ rf s' ar' R)) := by
      intro s2 ar2 u2 M seen z0 G hMl hRe v4
      have tl := xU_tell fm hmn (h0 := h0) G (w := if seen = true then 3 else 4) (a := (F : Int)) (b := (K : Int)) (by split <;> omega) (by omega) (by omega)
      rw [List.take_of_length_le hMl] at tl
      have last : ∀ (s3 : Nat → Int) (ar3 : Nat → Nat → Int) (u3 : mu_T), s3 0 = xb (!true) → rf s3 ar3 u3 → R = mu_dq u3 K → ∀ L, L = [(4, xi v4), (3, xi (xb seen)), (2, xi (F : Int)), (0, .ref m), (1, xi (K : Int))] → xe fm 305 (106, L, [], (xo m s3 ar3 h0, n, 0, 0)) (xQU m n h0 (fun s' ar' => s' 0 = xb (!true) ∧ rf s' ar' R)) := by
        intro s3 ar3 u3 z3 h3 hR3 L hL
        subst hL
        rw [hR3]
        have h4 := rf_cl (rf_dropq h3 hK rfl)
        refine xe_s (f := (107, _, _, _)) xt_g305 rfl rfl rfl rfl rfl ?_
        refine xe_mga xt_g305 rfl (q := 110) rfl (xf_13_96 fm) (by decide) rfl (by omega) ?_
        try simp only [xo_u, xo_w, Nat.reduceEqDiff, reduceIte, false_and, true_and]
        refine xe_s (f := (111, _, _, _)) xt_g305 rfl rfl rfl rfl rfl ?_
        refine xe_s (f := (112, _, xi (-1) :: _, _)) xt_g305 rfl rfl rfl rfl rfl ?_
        refine xe_mas (ok := xm_isN) (ty := .int) xt_g305 rfl (q := 113) rfl (fun _ _ => ⟨rfl, rfl, rfl, rfl⟩) rfl rfl rfl (by omega) (by omega) (by omega) (by omega) (by omega) rfl ?_
        refine xe_s (f := (114, _, _, _)) xt_g305 rfl rfl rfl rfl rfl ?_
        refine xe_s (f := (115, _, xi 0 :: _, _)) xt_g305 rfl rfl rfl rfl rfl ?_
        refine xe_mps xt_g305 rfl (q := 118) rfl (xf_13_149 fm) (by decide) rfl (by omega) (by omega) xi_int (Or.inl rfl) ?_
        refine xe_ret xt_g305 rfl rfl ?_
        exact ⟨_, _, rfl, rfl, z3, h4⟩
      cases seen with
      | true =>
        rw [if_pos rfl] at tl hRe
        refine xe_s (f := (92, _, _, _)) xt_g305 rfl rfl rfl rfl rfl ?_
        refine xe_s (f := (93, _, _, _)) xt_g305 rfl rfl rfl rfl rfl ?_
        refine xe_if_eq xt_g305 rfl (t := 100) rfl (q := 96) rfl (by first | omega | exact hw.1 _ | exact hw.2 _ _ | exact xb_r _) (fun h93 => ?_) (fun h93 => ?_)
        · exact absurd h93 (by decide)
        · try simp only [xb_0, xb_1, ne_eq, Decidable.not_not, decide_eq_true_eq, decide_eq_false_iff_not] at h93
          refine xe_s (f := (97, _, xi 3 :: _, _)) xt_g305 rfl rfl rfl rfl rfl ?_
          refine xe_s (f := (101, _, _, _)) xt_g305 rfl rfl rfl rfl rfl ?_
          refine xe_s (f := (102, _, _, _)) xt_g305 rfl rfl rfl rfl rfl ?_
          refine xe_s (f := (103, _, _, _)) xt_g305 rfl rfl rfl rfl rfl ?_
          refine xe_chV xt_g305 rfl (q := 106) rfl xk_13_376 rfl (by omega) xt_g289 (by decide) ⟨Nat.le_of_ble_eq_true rfl, Nat.le_of_ble_eq_true rfl, Nat.le_of_ble_eq_true rfl⟩ (tl) (fun s3 ar3 hp3 => ?_)
          exact last s3 ar3 _ ((hp3.1.1 0 (by decide)).trans z0) (rg_to hp3.2 (fun h => absurd h (by decide))) hRe _ rfl
      | false =>
        rw [if_neg (by decide)] at tl hRe
        refine xe_s (f := (92, _, _, _)) xt_g305 rfl rfl rfl rfl rfl ?_
        refine xe_s (f := (93, _, _, _)) xt_g305 rfl rfl rfl rfl rfl ?_
        refine xe_if_eq xt_g305 rfl (t := 100) rfl (q := 96) rfl (by first | omega | exact hw.1 _ | exact hw.2 _ _ | exact xb_r _) (fun h93 => ?_) (fun h93 => ?_)
        · try simp only [xb_0, xb_1, ne_eq, Decidable.not_not, decide_eq_true_eq, decide_eq_false_iff_not] at h93
          refine xe_s (f := (101, _, xi 4 :: _, _)) xt_g305 rfl rfl rfl rfl rfl ?_
          refine xe_s (f := (102, _, _, _)) xt_g305 rfl rfl rfl rfl rfl ?_
          refine xe_s (f := (103, _, _, _)) xt_g305 rfl rfl rfl rfl rfl ?_
          refine xe_chV xt_g305 rfl (q := 106) rfl xk_13_376 rfl (by omega) xt_g289 (by decide) ⟨Nat.le_of_ble_eq_true rfl, Nat.le_of_ble_eq_true rfl, Nat.le_of_ble_eq_true rfl⟩ (tl) (fun s3 ar3 hp3 => ?_)
          exact last s3 ar3 _ ((hp3.1.1 0 (by decide)).trans z0) (rg_to hp3.2 (fun h => absurd h (by decide))) hRe _ rfl
        · exact absurd rfl h93
    -- the line is made
    have loop : ∀ (u2 : mu_T), mu_ln u2 = mu_ln u → R = mu_dq (mu_note u2 3 F K (mu_ln u)) K → ∀ (N k : Nat) (s2 : Nat → Int) (ar2 : Nat → Nat → Int), k + N = (mu_ln u).length → s2 0 = xb (!true) → rg s2 ar2 u2 99 ((mu_ln u).take k) → xe fm 305 (61, [(4, xi (k : Int)), (3, xi (xb true)), (2, xi (F : Int)), (0, .ref m), (1, xi (K : Int))], [], (xo m s2 ar2 h0, n, 0, 0)) (xQU m n h0 (fun s' ar' => s' 0 = xb (!true) ∧ rf s' ar' R)) := by
      intro u2 hln hRe N
      induction N with
      | zero =>
        intro k s2 ar2 hk z0 G
        have r0 := G.2.2.2.1
        rw [hln] at r0
        have i2 := r0.1
        have l160 := r0.2.1
        rw [List.take_of_length_le (by omega)] at G
        refine xe_s (f := (63, _, _, _)) xt_g305 rfl rfl rfl rfl rfl ?_
        refine xe_s (f := (64, _, _, _)) xt_g305 rfl rfl rfl rfl rfl ?_
        refine xe_mgs xt_g305 rfl (q := 67) rfl (xf_13_149 fm) (by decide) rfl (by omega) ?_
        try simp only [xo_u, xo_w, Nat.reduceEqDiff, reduceIte, false_and, true_and]
        rw [i2]
        refine xe_ic_ge xt_g305 rfl (t := 91) rfl (q := 70) rfl (by first | omega | exact hw.1 _ | exact hw.2 _ _ | exact xb_r _) (by first | omega | exact hw.1 _ | exact hw.2 _ _ | exact xb_r _) (fun h67 => ?_) (fun h67 => ?_)
        · exact fin s2 ar2 u2 (mu_ln u) true z0 G (by omega) hRe _
        · exact absurd h67 (by omega)
      | succ N ih =>
        intro k s2 ar2 hk z0 G
        have r0 := G.2.2.2.1
        rw [hln] at r0
        have i2 := r0.1
        have l160 := r0.2.1
        have hlt : k < (mu_ln u).length := by omega
        have b1 : ar2 1 (k : Int).toNat = (mu_ln u).getD k 0 := rf_line_0 r0 hlt
        have hch := r0.2.2.2 _ (xg_mem hlt)
        have md := G.2.2.1
        have mk := xU_make fm hmn (h0 := h0) G.1 (x := (mu_ln u).getD k 0) (by omega) md.1 md.2.2.1 (by rw [List.length_take]; omega)
        rw [← xg_get hlt, ← List.take_succ_eq_append_getElem hlt, xg_get hlt] at mk
        refine xe_s (f := (63, _, _, _)) xt_g305 rfl rfl rfl rfl rfl ?_
        refine xe_s (f := (64, _, _, _)) xt_g305 rfl rfl rfl rfl rfl ?_
        refine xe_mgs xt_g305 rfl (q := 67) rfl (xf_13_149 fm) (by decide) rfl (by omega) ?_
        try simp only [xo_u, xo_w, Nat.reduceEqDiff, reduceIte, false_and, true_and]
        rw [i2]
        refine xe_ic_ge xt_g305 rfl (t := 91) rfl (q := 70) rfl (by first | omega | exact hw.1 _ | exact hw.2 _ _ | exact xb_r _) (by first | omega | exact hw.1 _ | exact hw.2 _ _ | exact xb_r _) (fun h67 => ?_) (fun h67 => ?_)
        · exact absurd h67 (by omega)
        · refine xe_s (f := (71, _, _, _)) xt_g305 rfl rfl rfl rfl rfl ?_
          refine xe_if_eq xt_g305 rfl (t := 91) rfl (q := 74) rfl (by first | omega | exact hw.1 _ | exact hw.2 _ _ | exact xb_r _) (fun h71 => ?_) (fun h71 => ?_)
          · exact absurd h71 (by decide)
          · try simp only [xb_0, xb_1, ne_eq, Decidable.not_not, decide_eq_true_eq, decide_eq_false_iff_not] at h71
            refine xe_s (f := (75, _, _, _)) xt_g305 rfl rfl rfl rfl rfl ?_
            refine xe_s (f := (76, _, _, _)) xt_g305 rfl rfl rfl rfl rfl ?_
            refine xe_mga xt_g305 rfl (q := 79) rfl (xf_13_7 fm) (by decide) rfl (by omega) ?_
            try simp only [xo_u, xo_w, Nat.reduceEqDiff, reduceIte, false_and, true_and]
            refine xe_s (f := (81, _, _, _)) xt_g305 rfl rfl rfl rfl rfl ?_
            refine xe_mal (ok := xm_isN) (ty := .int) xt_g305 rfl (q := 82) rfl (fun _ _ => ⟨rfl, rfl, rfl, rfl⟩) rfl rfl rfl (by omega) (by omega) (by omega) (by omega) ?_
            try simp only [xo_u, xo_w, Nat.reduceEqDiff, reduceIte, false_and, true_and]
            rw [b1]
            refine xe_chV xt_g305 rfl (q := 85) rfl xk_13_370 rfl (by omega) xt_g284 (by decide) ⟨Nat.le_of_ble_eq_true rfl, Nat.le_of_ble_eq_true rfl, Nat.le_of_ble_eq_true rfl⟩ (mk) (fun s3 ar3 hp3 => ?_)
            refine xe_iinc xt_g305 rfl (q := 88) rfl rfl (by decide) (L1 := [(4, _), (3, _), (2, _), (0, _), (1, _)]) rfl ?_
            refine xe_s (f := (61, _, _, _)) xt_g305 rfl rfl rfl rfl rfl ?_
            have hp3' : xd_PM s2 ar2 ((mu_ln u).take (k + 1)) s3 ar3 := hp3
            have G3 := rf_mk G hp3' ⟨by rw [List.length_take]; omega, fun c hc => by have := r0.2.2.2 c (List.mem_of_mem_take hc); omega⟩
            have h2 := ih (k + 1) s3 ar3 (by omega) ((hp3'.2.1.1 0 (by decide)).trans z0) G3
            rw [show ((k : Int) + 1) = ((k + 1 : Nat) : Int) by omega]
            exact h2
    cases hft : q.2.1 with
    | none =>
      rw [hft] at ft
      have b47 : ar 47 (K : Int).toNat = 0 := ft
      unfold mu_ans1 at hR
      rw [hft] at hR
      dsimp only at hR
      rw [hF] at hR
      have cm := xU_commit fm hmn (h0 := h0) hl ht hK hqk hF hx
      refine xe_s (f := (15, _, _, _)) xt_g305 rfl rfl rfl rfl rfl ?_
      refine xe_mga xt_g305 rfl (q := 18) rfl (xf_13_96 fm) (by decide) rfl (by omega) ?_
      try simp only [xo_u, xo_w, Nat.reduceEqDiff, reduceIte, false_and, true_and]
      refine xe_s (f := (19, _, _, _)) xt_g305 rfl rfl rfl rfl rfl ?_
      refine xe_mal (ok := xm_isN) (ty := .int) xt_g305 rfl (q := 20) rfl (fun _ _ => ⟨rfl, rfl, rfl, rfl⟩) rfl rfl rfl (by omega) (by omega) (by omega) (by omega) ?_
      try simp only [xo_u, xo_w, Nat.reduceEqDiff, reduceIte, false_and, true_and]
      rw [b46]
      refine xe_s (f := (21, [(2, _), (0, _), (1, _)], _, _)) xt_g305 rfl rfl rfl rfl rfl ?_
      refine xe_s (f := (22, _, _, _)) xt_g305 rfl rfl rfl rfl rfl ?_
      refine xe_mga xt_g305 rfl (q := 25) rfl (xf_13_99 fm) (by decide) rfl (by omega) ?_
      try simp only [xo_u, xo_w, Nat.reduceEqDiff, reduceIte, false_and, true_and]
      refine xe_s (f := (26, _, _, _)) xt_g305 rfl rfl rfl rfl rfl ?_
      refine xe_mal (ok := xm_isN) (ty := .int) xt_g305 rfl (q := 27) rfl (fun _ _ => ⟨rfl, rfl, rfl, rfl⟩) rfl rfl rfl (by omega) (by omega) (by omega) (by omega) ?_
      try simp only [xo_u, xo_w, Nat.reduceEqDiff, reduceIte, false_and, true_and]
      rw [b47]
      refine xe_if_ne xt_g305 rfl (t := 35) rfl (q := 30) rfl (by first | omega | exact hw.1 _ | exact hw.2 _ _ | exact xb_r _) (fun h27 => ?_) (fun h27 => ?_)
      · exact absurd rfl h27
      · try simp only [xb_0, xb_1, ne_eq, Decidable.not_not, decide_eq_true_eq, decide_eq_false_iff_not] at h27
        refine xe_s (f := (31, _, _, _)) xt_g305 rfl rfl rfl rfl rfl ?_
        refine xe_s (f := (32, _, _, _)) xt_g305 rfl rfl rfl rfl rfl ?_
        refine xe_chV xt_g305 rfl (q := 35) rfl xk_13_446 rfl (by omega) xt_g307 (by decide) ⟨Nat.le_of_ble_eq_true rfl, Nat.le_of_ble_eq_true rfl, Nat.le_of_ble_eq_true rfl⟩ (cm) (fun s2 ar2 hp2 => ?_)
        obtain ⟨z2, e47, h2⟩ := hp2
        have z02 : s2 0 = xb (!true) := z2.trans hz
        have eln : mu_ln (mu_cm u F q.2.2.2.1) = mu_ln u := by
          unfold mu_cm mu_note
          split <;> rfl
        have c47 : ar2 47 (K : Int).toNat = 0 := by rw [e47]; exact b47
        refine xe_s (f := (36, _, _, _)) xt_g305 rfl rfl rfl rfl rfl ?_
        refine xe_mga xt_g305 rfl (q := 39) rfl (xf_13_99 fm) (by decide) rfl (by omega) ?_
        try simp only [xo_u, xo_w, Nat.reduceEqDiff, reduceIte, false_and, true_and]
        refine xe_s (f := (40, _, _, _)) xt_g305 rfl rfl rfl rfl rfl ?_
        refine xe_mal (ok := xm_isN) (ty := .int) xt_g305 rfl (q := 41) rfl (fun _ _ => ⟨rfl, rfl, rfl, rfl⟩) rfl rfl rfl (by omega) (by omega) (by omega) (by omega) ?_
        try simp only [xo_u, xo_w, Nat.reduceEqDiff, reduceIte, false_and, true_and]
        rw [c47]
        refine xe_if_eq xt_g305 rfl (t := 52) rfl (q := 44) rfl (by first | omega | exact hw.1 _ | exact hw.2 _ _ | exact xb_r _) (fun h41 => ?_) (fun h41 => ?_)
        · try simp only [xb_0, xb_1, ne_eq, Decidable.not_not, decide_eq_true_eq, decide_eq_false_iff_not] at h41
          refine xe_s (f := (53, _, xi 1 :: _, _)) xt_g305 rfl rfl rfl rfl rfl ?_
          refine xe_s (f := (57, _, _, _)) xt_g305 rfl rfl rfl rfl rfl ?_
          refine xe_s (f := (58, [(3, _), (2, _), (0, _), (1, _)], _, _)) xt_g305 rfl rfl rfl rfl rfl ?_
          refine xe_s (f := (59, _, xi 0 :: _, _)) xt_g305 rfl rfl rfl rfl rfl ?_
          refine xe_s (f := (61, [(4, _), (3, _), (2, _), (0, _), (1, _)], _, _)) xt_g305 rfl rfl rfl rfl rfl ?_
          have G := rg_of h2 99
          have h3 := loop _ eln hR.symm (mu_ln u).length 0 s2 ar2 (by omega) z02 G
          exact xe_loc (by intro q hq; simp only [List.mem_cons, List.not_mem_nil, or_false] at hq; rcases hq with rfl | rfl | rfl | rfl | rfl <;> rfl) (h3)
        · exact absurd rfl h41
    | some y =>
      rw [hft] at ft
      have b47 : ar 47 (K : Int).toNat = 1 := ft.1
      unfold mu_ans1 at hR
      rw [hft] at hR
      dsimp only at hR
      rw [hF] at hR
      have sn := xv_isSeen fm hmn (h0 := h0) hl hK hqk hft
      refine xe_s (f := (15, _, _, _)) xt_g305 rfl rfl rfl rfl rfl ?_
      refine xe_mga xt_g305 rfl (q := 18) rfl (xf_13_96 fm) (by decide) rfl (by omega) ?_
      try simp only [xo_u, xo_w, Nat.reduceEqDiff, reduceIte, false_and, true_and]
      refine xe_s (f := (19, _, _, _)) xt_g305 rfl rfl rfl rfl rfl ?_
      refine xe_mal (ok := xm_isN) (ty := .int) xt_g305 rfl (q := 20) rfl (fun _ _ => ⟨rfl, rfl, rfl, rfl⟩) rfl rfl rfl (by omega) (by omega) (by omega) (by omega) ?_
      try simp only [xo_u, xo_w, Nat.reduceEqDiff, reduceIte, false_and, true_and]
      rw [b46]
      refine xe_s (f := (21, [(2, _), (0, _), (1, _)], _, _)) xt_g305 rfl rfl rfl rfl rfl ?_
      refine xe_s (f := (22, _, _, _)) xt_g305 rfl rfl rfl rfl rfl ?_
      refine xe_mga xt_g305 rfl (q := 25) rfl (xf_13_99 fm) (by decide) rfl (by omega) ?_
      try simp only [xo_u, xo_w, Nat.reduceEqDiff, reduceIte, false_and, true_and]
      refine xe_s (f := (26, _, _, _)) xt_g305 rfl rfl rfl rfl rfl ?_
      refine xe_mal (ok := xm_isN) (ty := .int) xt_g305 rfl (q := 27) rfl (fun _ _ => ⟨rfl, rfl, rfl, rfl⟩) rfl rfl rfl (by omega) (by omega) (by omega) (by omega) ?_
      try simp only [xo_u, xo_w, Nat.reduceEqDiff, reduceIte, false_and, true_and]
      rw [b47]
      refine xe_if_ne xt_g305 rfl (t := 35) rfl (q := 30) rfl (by first | omega | exact hw.1 _ | exact hw.2 _ _ | exact xb_r _) (fun h27 => ?_) (fun h27 => ?_)
      · try simp only [xb_0, xb_1, ne_eq, Decidable.not_not, decide_eq_true_eq, decide_eq_false_iff_not] at h27
        refine xe_s (f := (36, _, _, _)) xt_g305 rfl rfl rfl rfl rfl ?_
        refine xe_mga xt_g305 rfl (q := 39) rfl (xf_13_99 fm) (by decide) rfl (by omega) ?_
        try simp only [xo_u, xo_w, Nat.reduceEqDiff, reduceIte, false_and, true_and]
        refine xe_s (f := (40, _, _, _)) xt_g305 rfl rfl rfl rfl rfl ?_
        refine xe_mal (ok := xm_isN) (ty := .int) xt_g305 rfl (q := 41) rfl (fun _ _ => ⟨rfl, rfl, rfl, rfl⟩) rfl rfl rfl (by omega) (by omega) (by omega) (by omega) ?_
        try simp only [xo_u, xo_w, Nat.reduceEqDiff, reduceIte, false_and, true_and]
        rw [b47]
        refine xe_if_eq xt_g305 rfl (t := 52) rfl (q := 44) rfl (by first | omega | exact hw.1 _ | exact hw.2 _ _ | exact xb_r _) (fun h41 => ?_) (fun h41 => ?_)
        · exact absurd h41 (by omega)
        · try simp only [xb_0, xb_1, ne_eq, Decidable.not_not, decide_eq_true_eq, decide_eq_false_iff_not] at h41
          refine xe_s (f := (45, _, _, _)) xt_g305 rfl rfl rfl rfl rfl ?_
          refine xe_s (f := (46, _, _, _)) xt_g305 rfl rfl rfl rfl rfl ?_
          refine xe_cvI xt_g305 rfl (q := 49) rfl xk_13_449 rfl (by omega) xt_g308 (by decide) ⟨Nat.le_of_ble_eq_true rfl, Nat.le_of_ble_eq_true rfl, Nat.le_of_ble_eq_true rfl⟩ (sn) ?_
          refine xe_if_eq xt_g305 rfl (t := 56) rfl (q := 52) rfl (by first | omega | exact hw.1 _ | exact hw.2 _ _ | exact xb_r _) (fun h49 => ?_) (fun h49 => ?_)
          · try simp only [xb_0, xb_1, ne_eq, Decidable.not_not, decide_eq_true_eq, decide_eq_false_iff_not] at h49
            refine xe_s (f := (57, _, xi 0 :: _, _)) xt_g305 rfl rfl rfl rfl rfl ?_
            refine xe_s (f := (58, [(3, _), (2, _), (0, _), (1, _)], _, _)) xt_g305 rfl rfl rfl rfl rfl ?_
            refine xe_s (f := (59, _, xi 0 :: _, _)) xt_g305 rfl rfl rfl rfl rfl ?_
            refine xe_s (f := (61, [(4, _), (3, _), (2, _), (0, _), (1, _)], _, _)) xt_g305 rfl rfl rfl rfl rfl ?_
            rw [if_neg (by rw [h49]; decide)] at hR
            have h3 := fin s1 ar u [] false hz (rg_of hl 99) (by simp) (by rw [if_neg (by decide)]; exact hR.symm) 0
            have i2 := hl.2.2.2.1.1
            have l160 := hl.2.2.2.1.2.1
            refine xe_s (f := (63, _, _, _)) xt_g305 rfl rfl rfl rfl rfl ?_
            refine xe_s (f := (64, _, _, _)) xt_g305 rfl rfl rfl rfl rfl ?_
            refine xe_mgs xt_g305 rfl (q := 67) rfl (xf_13_149 fm) (by decide) rfl (by omega) ?_
            try simp only [xo_u, xo_w, Nat.reduceEqDiff, reduceIte, false_and, true_and]
            rw [i2]
            refine xe_ic_ge xt_g305 rfl (t := 91) rfl (q := 70) rfl (by first | omega | exact hw.1 _ | exact hw.2 _ _ | exact xb_r _) (by first | omega | exact hw.1 _ | exact hw.2 _ _ | exact xb_r _) (fun h67 => ?_) (fun h67 => ?_)
            · exact h3
            · refine xe_s (f := (71, _, _, _)) xt_g305 rfl rfl rfl rfl rfl ?_
              refine xe_if_eq xt_g305 rfl (t := 91) rfl (q := 74) rfl (by first | omega | exact hw.1 _ | exact hw.2 _ _ | exact xb_r _) (fun h71 => ?_) (fun h71 => ?_)
              · try simp only [xb_0, xb_1, ne_eq, Decidable.not_not, decide_eq_true_eq, decide_eq_false_iff_not] at h71
                exact h3
              · exact absurd rfl h71
          · try simp only [xb_0, xb_1, ne_eq, Decidable.not_not, decide_eq_true_eq, decide_eq_false_iff_not] at h49
            refine xe_s (f := (53, _, xi 1 :: _, _)) xt_g305 rfl rfl rfl rfl rfl ?_
            refine xe_s (f := (57, _, _, _)) xt_g305 rfl rfl rfl rfl rfl ?_
            refine xe_s (f := (58, [(3, _), (2, _), (0, _), (1, _)], _, _)) xt_g305 rfl rfl rfl rfl rfl ?_
            refine xe_s (f := (59, _, xi 0 :: _, _)) xt_g305 rfl rfl rfl rfl rfl ?_
            refine xe_s (f := (61, [(4, _), (3, _), (2, _), (0, _), (1, _)], _, _)) xt_g305 rfl rfl rfl rfl rfl ?_
            rw [if_pos (show mq_seen q = true by simpa using h49)] at hR
            have h3 := loop u rfl hR.symm (mu_ln u).length 0 s1 ar (by omega) hz (rg_of hl 99)
            exact xe_loc (by intro q hq; simp only [List.mem_cons, List.not_mem_nil, or_false] at hq; rcases hq with rfl | rfl | rfl | rfl | rfl <;> rfl) (h3)
      · exact absurd h27 (by omega)
  · try simp only [xb_0, xb_1, ne_eq, Decidable.not_not, decide_eq_true_eq, decide_eq_false_iff_not] at h10
    have hb : mu_ir u r = false := by simpa using h10
    rw [hb] at hl hz hR ⊢
    rw [if_neg (by decide)] at hl
    have e : R = mu_sln u [] := by
      rw [← hR]
      cases mu_rq u r.toNat with
      | none => rfl
      | some q => exact if_neg (by decide)
    rw [e]
    refine xe_ret xt_g305 rfl rfl ?_
    exact ⟨_, _, rfl, rfl, hz, hl⟩
theorem rf_cs (h : rf s ar u) {a : pa_A} {net : Bool} {s1 : Nat → Int} {ar1 : Nat → Nat → Int} (hp : xd_PC s ar (ck_set (xd_at s ar) (s 2) (mu_sf u) (s 17) (s 18) (mu_ck u) a net) s1 ar1) : rf s1 ar1 (mu_cs u a net) := by
  obtain ⟨w, B, z6, r0, r1, r2, r3, r4, r5, r6, r7, r8, r9, ra⟩ := h
  obtain ⟨w1, B1, q, z2, c1, c2⟩ := hp
  rw [rf_line_at r0, r0.1, r2.1, r2.2.2.2.1] at c1 c2
  have F : xs_F [] ar ar1 := xs_q q (by decide) (by decide)
  exact ⟨w1, B1, by rw [q.1 62 (by decide)]; exact z6, rf_l0 z2, rf_k1 r1 q rfl, rf_k2 r2 q rfl, ⟨c1, c2, fun c hc => ck_set_m r0.2.2.2 r3.2.2 hc⟩, rf_k4 r4 q rfl, rf_k5 r5 q F rfl, rf_k6 r6 q F rfl, rf_k7 r7 q F rfl, rf_k8 r8 q rfl, rf_k9 r9 q rfl, rf_ka ra q rfl⟩
theorem xU_setc (hmn : xo_in m n) (h : rf s ar u) {b : Int} {a : pa_A} {net : Bool} (hb : 0 ≤ b ∧ b < 98) (hs : pa_at ar b (pa_text a)) (ho : pa_ok a) : xU fm 310 m n h0 s ar [.ref m, xi b, xi (xb net)] (fun s' ar' => s' 0 = s 0 ∧ ar' 44 = ar 44 ∧ rf s' ar' (mu_cs u a net)) := by
  have hh := h
  obtain ⟨w, B, z6, r0, r1, r2, r3, r4, r5, r6, r7, r8, r9, ra⟩ := h
  obtain ⟨l1, l2, l3⟩ := rf_line_t r0
  refine xU_mono (xU_setCookie fm hmn w B l3 ⟨l1, l2⟩ (net := net) r3.1 r3.2.1 r1 hb hs ho (by have := r2.1; have := r2.2.1; omega) (by have := r2.2.2.2; omega)) ?_
  intro s' ar' hp
  exact ⟨hp.2.2.1.1 0 (by decide), hp.2.2.1.2 44 (by decide), rf_cs hh hp⟩
theorem xU_set (hmn : xo_in m n) (h : rf s ar u) {r : Int} (hrr : xr r) : xU fm 309 m n h0 s ar [.ref m, xi r] (fun s' ar' => s' 0 = xb (!mu_ir u r) ∧ rf s' ar' (mu_set u r)) := by
  show xe fm 309 (0, [(0, .ref m), (1, xi r)], [], (xo m s ar h0, n, 0, 0)) _
  generalize hR : mu_set u r = R
  unfold mu_set at hR
  have e1 := rf_ir h (f := r)
  have lk := xv_lacks fm hmn (h0 := h0) (s := s) (ar := ar) (b := mu_ir u r) (t := true)
  obtain ⟨hl, hz⟩ := rf_lkt h (b := mu_ir u r)
  generalize (if mu_ir u r = true then xo_u s 0 0 else if true = true then xo_u (xo_u s 0 1) 2 0 else xo_u s 0 1) = s1 at *
  refine xe_s (f := (1, _, _, _)) xt_g309 rfl rfl rfl rfl rfl ?_
  refine xe_s (f := (2, _, _, _)) xt_g309 rfl rfl rfl rfl rfl ?_
  refine xe_s (f := (3, _, _, _)) xt_g309 rfl rfl rfl rfl rfl ?_
  refine xe_cvI xt_g309 rfl (q := 6) rfl xk_13_443 rfl (by omega) xt_g306 (by decide) ⟨Nat.le_of_ble_eq_true rfl, Nat.le_of_ble_eq_true rfl, Nat.le_of_ble_eq_true rfl⟩ (xv_isRequest fm hmn h.1 hrr) ?_
  rw [e1]
  refine xe_s (f := (7, _, xi 1 :: _, _)) xt_g309 rfl rfl rfl rfl rfl ?_
  refine xe_cvI xt_g309 rfl (q := 10) rfl xk_13_418 rfl (by omega) xt_g292 (by decide) ⟨Nat.le_of_ble_eq_true rfl, Nat.le_of_ble_eq_true rfl, Nat.le_of_ble_eq_true rfl⟩ (lk) ?_
  refine xe_if_eq xt_g309 rfl (t := 14) rfl (q := 13) rfl (by first | omega | exact hw.1 _ | exact hw.2 _ _ | exact xb_r _) (fun h10 => ?_) (fun h10 => ?_)
  · try simp only [xb_0, xb_1, ne_eq, Decidable.not_not, decide_eq_true_eq, decide_eq_false_iff_not] at h10
    have hb : mu_ir u r = true := by simpa using h10
    rw [hb] at hl hz hR ⊢
    rw [if_pos rfl] at hl
    obtain ⟨K, q, rfl, hK, hqk⟩ := mu_ir_s hb
    rw [Int.toNat_natCast, hqk] at hR
    dsimp only at hR
    obtain ⟨a1, a2, a3, a4, a5, a6, A, oA, ft, lv⟩ := rf_q hl hK hqk
    have sc := xU_setc fm hmn (h0 := h0) (net := true) hl (b := ((16 + K : Nat) : Int)) (by omega) A oA
    rw [show ((16 + K : Nat) : Int) = 16 + (K : Int) by omega] at sc
    have yes : mq_wi q = true → xe fm 309 (32, [(0, .ref m), (1, xi (K : Int))], [], (xo m s1 ar h0, n, 0, 0)) (xQU m n h0 (fun s' ar' => s' 0 = xb (!true) ∧ rf s' ar' R)) := by
      intro hw
      rw [if_pos ⟨rfl, hw⟩] at hR
      rw [← hR]
      refine xe_s (f := (33, _, _, _)) xt_g309 rfl rfl rfl rfl rfl ?_
      refine xe_bipush xt_g309 rfl (q := 35) rfl (by decide) (by decide) ?_
      refine xe_s (f := (36, _, _, _)) xt_g309 rfl rfl rfl rfl rfl ?_
      refine xe_iadd xt_g309 rfl (q := 37) rfl ?_
      refine xe_s (f := (38, _, xi 1 :: _, _)) xt_g309 rfl rfl rfl rfl rfl ?_
      refine xe_chV xt_g309 rfl (q := 41) rfl xk_13_452 rfl (by omega) xt_g310 (by decide) ⟨Nat.le_of_ble_eq_true rfl, Nat.le_of_ble_eq_true rfl, Nat.le_of_ble_eq_true rfl⟩ (sc) (fun s2 ar2 hp2 => ?_)
      refine xe_s (f := (42, _, _, _)) xt_g309 rfl rfl rfl rfl rfl ?_
      refine xe_s (f := (43, _, xi 0 :: _, _)) xt_g309 rfl rfl rfl rfl rfl ?_
      refine xe_mps xt_g309 rfl (q := 46) rfl (xf_13_149 fm) (by decide) rfl (by omega) (by omega) xi_int (Or.inl rfl) ?_
      refine xe_ret xt_g309 rfl rfl ?_
      exact ⟨_, _, rfl, rfl, hp2.1.trans hz, rf_cl (u := mu_cs u q.2.2.2.1 true) hp2.2.2⟩
    have no : mq_wi q = false → xe fm 309 (41, [(0, .ref m), (1, xi (K : Int))], [], (xo m s1 ar h0, n, 0, 0)) (xQU m n h0 (fun s' ar' => s' 0 = xb (!true) ∧ rf s' ar' R)) := by
      intro hw
      rw [if_neg (fun h => by rw [hw] at h; exact absurd h.2 (by decide))] at hR
      rw [← hR]
      refine xe_s (f := (42, _, _, _)) xt_g309 rfl rfl rfl rfl rfl ?_
      refine xe_s (f := (43, _, xi 0 :: _, _)) xt_g309 rfl rfl rfl rfl rfl ?_
      refine xe_mps xt_g309 rfl (q := 46) rfl (xf_13_149 fm) (by decide) rfl (by omega) (by omega) xi_int (Or.inl rfl) ?_
      refine xe_ret xt_g309 rfl rfl ?_
      exact ⟨_, _, rfl, rfl, hz, rf_cl hl⟩
    cases hft : q.2.1 with
    | none =>
      rw [hft] at ft
      have b47 : ar 47 (K : Int).toNat = 0 := ft
      refine xe_s (f := (15, _, _, _)) xt_g309 rfl rfl rfl rfl rfl ?_
      refine xe_mga xt_g309 rfl (q := 18) rfl (xf_13_99 fm) (by decide) rfl (by omega) ?_
      try simp only [xo_u, xo_w, Nat.reduceEqDiff, reduceIte, false_and, true_and]
      refine xe_s (f := (19, _, _, _)) xt_g309 rfl rfl rfl rfl rfl ?_
      refine xe_mal (ok := xm_isN) (ty := .int) xt_g309 rfl (q := 20) rfl (fun _ _ => ⟨rfl, rfl, rfl, rfl⟩) rfl rfl rfl (by omega) (by omega) (by omega) (by omega) ?_
      try simp only [xo_u, xo_w, Nat.reduceEqDiff, reduceIte, false_and, true_and]
      rw [b47]
      refine xe_if_eq xt_g309 rfl (t := 32) rfl (q := 23) rfl (by first | omega | exact hw.1 _ | exact hw.2 _ _ | exact xb_r _) (fun h20 => ?_) (fun h20 => ?_)
      · try simp only [xb_0, xb_1, ne_eq, Decidable.not_not, decide_eq_true_eq, decide_eq_false_iff_not] at h20
        exact yes (by unfold mq_wi; rw [hft])
      · exact absurd rfl h20
    | some y =>
      rw [hft] at ft
      have b47 : ar 47 (K : Int).toNat = 1 := ft.1
      have b51 : ar 51 (K : Int).toNat = xb y.2.1 := ft.2.2.2.2.1
      refine xe_s (f := (15, _, _, _)) xt_g309 rfl rfl rfl rfl rfl ?_
      refine xe_mga xt_g309 rfl (q := 18) rfl (xf_13_99 fm) (by decide) rfl (by omega) ?_
      try simp only [xo_u, xo_w, Nat.reduceEqDiff, reduceIte, false_and, true_and]
      refine xe_s (f := (19, _, _, _)) xt_g309 rfl rfl rfl rfl rfl ?_
      refine xe_mal (ok := xm_isN) (ty := .int) xt_g309 rfl (q := 20) rfl (fun _ _ => ⟨rfl, rfl, rfl, rfl⟩) rfl rfl rfl (by omega) (by omega) (by omega) (by omega) ?_
      try simp only [xo_u, xo_w, Nat.reduceEqDiff, reduceIte, false_and, true_and]
      rw [b47]
      refine xe_if_eq xt_g309 rfl (t := 32) rfl (q := 23) rfl (by first | omega | exact hw.1 _ | exact hw.2 _ _ | exact xb_r _) (fun h20 => ?_) (fun h20 => ?_)
      · exact absurd h20 (by omega)
      · try simp only [xb_0, xb_1, ne_eq, Decidable.not_not, decide_eq_true_eq, decide_eq_false_iff_not] at h20
        refine xe_s (f := (24, _, _, _)) xt_g309 rfl rfl rfl rfl rfl ?_
        refine xe_mga xt_g309 rfl (q := 27) rfl (xf_13_111 fm) (by decide) rfl (by omega) ?_
        try simp only [xo_u, xo_w, Nat.reduceEqDiff, reduceIte, false_and, true_and]
        refine xe_s (f := (28, _, _, _)) xt_g309 rfl rfl rfl rfl rfl ?_
        refine xe_mal (ok := xm_isB) (ty := .boolean) xt_g309 rfl (q := 29) rfl (fun _ _ => ⟨rfl, rfl, rfl, rfl⟩) rfl rfl rfl (by omega) (by omega) (by omega) (by omega) ?_
        try simp only [xo_u, xo_w, Nat.reduceEqDiff, reduceIte, false_and, true_and]
        rw [b51]
        refine xe_if_eq xt_g309 rfl (t := 41) rfl (q := 32) rfl (by first | omega | exact hw.1 _ | exact hw.2 _ _ | exact xb_r _) (fun h29 => ?_) (fun h29 => ?_)
        · try simp only [xb_0, xb_1, ne_eq, Decidable.not_not, decide_eq_true_eq, decide_eq_false_iff_not] at h29
          exact no (by unfold mq_wi; rw [hft]; exact h29)
        · try simp only [xb_0, xb_1, ne_eq, Decidable.not_not, decide_eq_true_eq, decide_eq_false_iff_not] at h29
          exact yes (by unfold mq_wi; rw [hft]; simpa using h29)
  · try simp only [xb_0, xb_1, ne_eq, Decidable.not_not, decide_eq_true_eq, decide_eq_false_iff_not] at h10
    have hb : mu_ir u r = false := by simpa using h10
    rw [hb] at hl hz hR ⊢
    rw [if_neg (by decide)] at hl
    have e : R = mu_sln u [] := by
      rw [← hR]
      cases mu_rq u r.toNat with
      | none => rfl
      | some q => exact if_neg (fun h => absurd h.1 (by decide))
    rw [e]
    refine xe_ret xt_g309 rfl rfl ?_
    exact ⟨_, _, rfl, rfl, hz, hl⟩
/-- what a reply says of leaving is written -/
theorem rf_lvw (h : rf s ar u) {r : Nat} {q : mq_T} (hr : r < 24) (hq : mu_rq u r = some q) {ar1 : Nat → Nat → Int} {lv : Option (Option (pa_A × Bool))} (w1 : xo_wf s ar1) (B1 : xo_B ar1) (q1 : xq [] [4, 5, 50, 52] s ar s ar1) (F1 : xs_F [66 + r] ar ar1) (e : ∀ k j, j ≠ r → (k = 50 ∨ k = 52) → ar1 k j = ar k j) (hlv : rf_lv ar1 r lv) : rf s ar1 (mu_lvq u r q lv) := by
  have hqr := rf_q h hr hq
  obtain ⟨w, B, z6, r0, r1, r2, r3, r4, r5, r6, r7, r8, r9, ra⟩ := h
  refine ⟨w1, B1, z6, rf_k0 r0 q1 rfl, rf_k1 r1 q1 rfl, rf_k2 r2 q1 rfl, rf_k3 r3 q1 rfl, rf_k4 r4 q1 rfl, ?_, ?_, rf_or_k r7 rfl F1 (fun k hk => by rw [List.mem_singleton] at hk; omega), rf_k8 r8 q1 rfl, rf_k9 r9 q1 rfl, rf_ka ra q1 rfl⟩
  · intro g hg
    exact ⟨rf_f1_k (r5 g hg).1 hg (by rw [q1.2 42 (by decide)]) (by rw [q1.2 43 (by decide)]) (by rw [q1.2 44 (by decide)]) F1 (by rw [List.mem_singleton]; omega), by rw [q1.2 45 (by decide)]; exact (r5 g hg).2⟩
  · intro r' hr'
    show rf_q1 ar1 r' (mu_up (mu_rq u) (r : Int).toNat (some (q.1, q.2.1, q.2.2.1, q.2.2.2.1, lv)) r')
    rw [Int.toNat_natCast]
    by_cases er : r' = r
    · subst er
      rw [mu_upS]
      obtain ⟨a1, a2, a3, a4, a5, a6, A, oA, ft, _⟩ := hqr
      refine ⟨by rw [q1.2 46 (by decide)]; exact a1, a2, a3, by rw [q1.2 49 (by decide)]; exact a4, a5, a6, pa_at_F A F1 (by omega) (by rw [List.mem_singleton]; omega), oA, ?_, hlv⟩
      show rf_ft ar1 r' q.2.1
      cases hx : q.2.1 with
      | none =>
        rw [hx] at ft
        show ar1 47 r' = 0
        rw [q1.2 47 (by decide)]
        exact ft
      | some y =>
        rw [hx] at ft
        obtain ⟨b1, b2, b3, b4, b5, b6, b7⟩ := ft
        exact ⟨by rw [q1.2 47 (by decide)]; exact b1, by rw [q1.2 48 (by decide)]; exact b2, b3, b4, by rw [q1.2 51 (by decide)]; exact b5, pa_at_F b6 F1 (by omega) (by rw [List.mem_singleton]; omega), b7⟩
    · rw [mu_upN er]
      refine rf_q1_k (r6 r' hr') hr' (fun k h1 h2 => ?_) F1 ?_
      · by_cases hk : k = 50 ∨ k = 52
        · exact e k r' er hk
        · rw [q1.2 k (by simp; omega)]
      · simp only [List.mem_singleton]
        omega
def lv_w (lv : Option (Option (pa_A × Bool))) (wi : Bool) : Option (Option (pa_A × Bool)) := match lv with
  | none => none
  | some none => some none
  | some (some x) => some (some (x.1, wi))
theorem xU_leave (hmn : xo_in m n) (h : rf s ar u) {r : Int} {wi : Bool} (hrr : xr r) : xU fm 330 m n h0 s ar [.ref m, xi r, xi (xb wi)] (fun s' ar' => s' 0 = xb (!mu_ir u r) ∧ rf s' ar' (mu_leave u r wi)) := by
  show xe fm 330 (0, [(0, .ref m), (1, xi r), (2, xi (xb wi))], [], (xo m s ar h0, n, 0, 0)) _
  generalize hR : mu_leave u r wi = R
  unfold mu_leave at hR
  have e1 := rf_ir h (f := r)
  have lk := xv_lacks fm hmn (h0 := h0) (s := s) (ar := ar) (b := mu_ir u r) (t := true)
  obtain ⟨hl, hz⟩ := rf_lkt h (b := mu_ir u r)
  generalize (if mu_ir u r = true then xo_u s 0 0 else if true = true then xo_u (xo_u s 0 1) 2 0 else xo_u s 0 1) = s1 at *
  have hxw := xb_or wi
  refine xe_s (f := (1, _, _, _)) xt_g330 rfl rfl rfl rfl rfl ?_
  refine xe_s (f := (2, _, _, _)) xt_g330 rfl rfl rfl rfl rfl ?_
  refine xe_s (f := (3, _, _, _)) xt_g330 rfl rfl rfl rfl rfl ?_
  refine xe_cvI xt_g330 rfl (q := 6) rfl xk_13_443 rfl (by omega) xt_g306 (by decide) ⟨Nat.le_of_ble_eq_true rfl, Nat.le_of_ble_eq_true rfl, Nat.le_of_ble_eq_true rfl⟩ (xv_isRequest fm hmn h.1 hrr) ?_
  rw [e1]
  refine xe_s (f := (7, _, xi 1 :: _, _)) xt_g330 rfl rfl rfl rfl rfl ?_
  refine xe_cvI xt_g330 rfl (q := 10) rfl xk_13_418 rfl (by omega) xt_g292 (by decide) ⟨Nat.le_of_ble_eq_true rfl, Nat.le_of_ble_eq_true rfl, Nat.le_of_ble_eq_true rfl⟩ (lk) ?_
  refine xe_if_eq xt_g330 rfl (t := 14) rfl (q := 13) rfl (by first | omega | exact hw.1 _ | exact hw.2 _ _ | exact xb_r _) (fun h10 => ?_) (fun h10 => ?_)
  · try simp only [xb_0, xb_1, ne_eq, Decidable.not_not, decide_eq_true_eq, decide_eq_false_iff_not] at h10
    have hb : mu_ir u r = true := by simpa using h10
    rw [hb] at hl hz hR ⊢
    rw [if_pos rfl] at hl
    obtain ⟨K, q, rfl, hK, hqk⟩ := mu_ir_s hb
    rw [Int.toNat_natCast, hqk] at hR
    dsimp only at hR
    rw [if_pos rfl] at hR
    obtain ⟨a1, a2, a3, a4, a5, a6, A, oA, ft, lv⟩ := rf_q hl hK hqk
    -- leaveWith is written
    have q2 : xq [] [4, 5, 50, 52] s1 ar s1 (xo_w ar 52 K (xb wi)) := xq_w xq_r (by decide)
    have F2 : xs_F [66 + K] ar (xo_w ar 52 K (xb wi)) := fun k _ _ => ⟨rfl, fun _ _ => rfl⟩
    have h2 : rf s1 (xo_w ar 52 K (xb wi)) (mu_lvq u K q (lv_w q.2.2.2.2 wi)) := by
      refine rf_lvw hl hK hqk (xo_wf_w hl.1 (xb_r _)) (xo_B_w hl.2.1 (fun _ => xb_or wi)) q2 F2 (fun k j hj hk => xo_wI hj) ?_
      cases hv : q.2.2.2.2 with
      | none => rw [hv] at lv; exact lv
      | some o =>
        rw [hv] at lv
        cases o with
        | none => exact lv
        | some x => exact ⟨lv.1, lv.2.1, lv.2.2.1, xo_wS⟩
    have r0 := hl.2.2.2.1
    have i2 := r0.1
    have l160 := r0.2.1
    have rs := xV_res fm hmn (h0 := h0) h2 (b := -1) (base := none) (Or.inl ⟨rfl, rfl⟩)
    have emr : mu_res (mu_lvq u K q (lv_w q.2.2.2.2 wi)) none = mu_res u none := rfl
    rw [emr] at rs
    have hq2 : mu_rq (mu_lvq u K q (lv_w q.2.2.2.2 wi)) K = some (q.1, q.2.1, q.2.2.1, q.2.2.2.1, lv_w q.2.2.2.2 wi) := by
      show mu_up (mu_rq u) (K : Int).toNat _ K = _
      rw [Int.toNat_natCast, mu_upS]
    have up2 : ∀ lv', mu_lvq (mu_lvq u K q (lv_w q.2.2.2.2 wi)) K (q.1, q.2.1, q.2.2.1, q.2.2.2.1, lv_w q.2.2.2.2 wi) lv' = mu_lvq u K q lv' := by
      intro lv'
      unfold mu_lvq
      show mu_srq (mu_srq u _) (mu_up (mu_up (mu_rq u) _ _) _ _) = mu_srq u _
      have : mu_up (mu_up (mu_rq u) (K : Int).toNat (some (q.1, q.2.1, q.2.2.1, q.2.2.2.1, lv_w q.2.2.2.2 wi))) (K : Int).toNat (some (q.1, q.2.1, q.2.2.1, q.2.2.2.1, lv')) = mu_up (mu_rq u) (K : Int).toNat (some (q.1, q.2.1, q.2.2.1, q.2.2.2.1, lv')) := by
        funext j
        unfold mu_up
        split <;> rfl
      show mu_srq u (mu_up (mu_up (mu_rq u) (K : Int).toNat (some (q.1, q.2.1, q.2.2.1, q.2.2.2.1, lv_w q.2.2.2.2 wi))) (K : Int).toNat (some (q.1, q.2.1, q.2.2.1, q.2.2.2.1, lv'))) = _
      rw [this]
    have fin : ∀ (s3 : Nat → Int) (ar3 : Nat → Nat → Int), s3 0 = xb (!true) → rf s3 ar3 (mu_lvq u K q (mu_lv u wi)) → xe fm 330 (95, [(0, .ref m), (1, xi (K : Int)), (2, xi (xb wi))], [], (xo m s3 ar3 h0, n, 0, 0)) (xQU m n h0 (fun s' ar' => s' 0 = xb (!true) ∧ rf s' ar' R)) := by
      intro s3 ar3 z3 h3
      rw [← hR]
      refine xe_s (f := (96, _, _, _)) xt_g330 rfl rfl rfl rfl rfl ?_
      refine xe_s (f := (97, _, xi 0 :: _, _)) xt_g330 rfl rfl rfl rfl rfl ?_
      refine xe_mps xt_g330 rfl (q := 100) rfl (xf_13_149 fm) (by decide) rfl (by omega) (by omega) xi_int (Or.inl rfl) ?_
      refine xe_ret xt_g330 rfl rfl ?_
      exact ⟨_, _, rfl, rfl, z3, rf_cl h3⟩
    have star : mu_ln u = [42] → xe fm 330 (40, [(0, .ref m), (1, xi (K : Int)), (2, xi (xb wi))], [], (xo m s1 (xo_w ar 52 K (xb wi)) h0, n, 0, 0)) (xQU m n h0 (fun s' ar' => s' 0 = xb (!true) ∧ rf s' ar' R)) := by
      intro hst
      have q3 : xq [] [4, 5, 50, 52] s1 (xo_w ar 52 K (xb wi)) s1 (xo_w (xo_w ar 52 K (xb wi)) 50 K 1) := xq_w xq_r (by decide)
      have h3 := rf_lvw h2 hK hq2 (ar1 := xo_w (xo_w ar 52 K (xb wi)) 50 K 1) (lv := some none) (xo_wf_w h2.1 (by omega)) (xo_B_w h2.2.1 (fun h => absurd h (by decide))) q3 (fun k _ _ => ⟨rfl, fun _ _ => rfl⟩) (fun k j hj hk => xo_wI hj) xo_wS
      rw [up2] at h3
      have elv : mu_lv u wi = some none := by
        unfold mu_lv
        rw [if_pos hst]
      rw [← elv] at h3
      refine xe_s (f := (41, _, _, _)) xt_g330 rfl rfl rfl rfl rfl ?_
      refine xe_mga xt_g330 rfl (q := 44) rfl (xf_13_108 fm) (by decide) rfl (by omega) ?_
      try simp only [xo_u, xo_w, Nat.reduceEqDiff, reduceIte, false_and, true_and]
      refine xe_s (f := (45, _, _, _)) xt_g330 rfl rfl rfl rfl rfl ?_
      refine xe_s (f := (46, _, xi 1 :: _, _)) xt_g330 rfl rfl rfl rfl rfl ?_
      refine xe_mas (ok := xm_isN) (ty := .int) xt_g330 rfl (q := 47) rfl (fun _ _ => ⟨rfl, rfl, rfl, rfl⟩) rfl rfl rfl (by omega) (by omega) (by omega) (by omega) (by omega) rfl ?_
      refine xe_s (f := (95, _, _, _)) xt_g330 rfl rfl rfl rfl rfl ?_
      exact fin s1 _ hz h3
    have other : mu_ln u ≠ [42] → xe fm 330 (50, [(0, .ref m), (1, xi (K : Int)), (2, xi (xb wi))], [], (xo m s1 (xo_w ar 52 K (xb wi)) h0, n, 0, 0)) (xQU m n h0 (fun s' ar' => s' 0 = xb (!true) ∧ rf s' ar' R)) := by
      intro hst
      have elv : mu_lv u wi = match mu_res u none with
        | none => none
        | some a => some (some (a, wi)) := by
        unfold mu_lv
        rw [if_neg hst]
      refine xe_s (f := (51, _, _, _)) xt_g330 rfl rfl rfl rfl rfl ?_
      refine xe_mga xt_g330 rfl (q := 54) rfl (xf_13_108 fm) (by decide) rfl (by omega) ?_
      refine xe_s (f := (55, _, _, _)) xt_g330 rfl rfl rfl rfl rfl ?_
      refine xe_s (f := (56, _, _, _)) xt_g330 rfl rfl rfl rfl rfl ?_
      refine xe_s (f := (57, _, xi (-1) :: _, _)) xt_g330 rfl rfl rfl rfl rfl ?_
      refine xe_chI xt_g330 rfl (q := 60) rfl xk_13_403 rfl (by omega) xt_g257 (by decide) ⟨Nat.le_of_ble_eq_true rfl, Nat.le_of_ble_eq_true rfl, Nat.le_of_ble_eq_true rfl⟩ (rs) (fun z3 s3 ar3 hp3 => ?_)
      obtain ⟨q3, F3, h3, pz3, po3⟩ := hp3
      rw [pz3]
      have z03 : s3 0 = xb (!true) := (q3.1 0 (by decide)).trans hz
      cases hres : mu_res u none with
      | none =>
        rw [hres] at elv
        dsimp only at elv
        have q4 : xq [] [4, 5, 50, 52] s3 ar3 s3 (xo_w ar3 50 K 0) := xq_w xq_r (by decide)
        have h4 := rf_lvw h3 hK hq2 (ar1 := xo_w ar3 50 K 0) (lv := none) (xo_wf_w h3.1 (by omega)) (xo_B_w h3.2.1 (fun h => absurd h (by decide))) q4 (fun k _ _ => ⟨rfl, fun _ _ => rfl⟩) (fun k j hj hk => xo_wI hj) xo_wS
        rw [up2, ← elv] at h4
        have b50 : xo_w ar3 50 K 0 50 (K : Int).toNat = 0 := xo_wS
        refine xe_if_eq xt_g330 rfl (t := 67) rfl (q := 63) rfl (by first | omega | exact hw.1 _ | exact hw.2 _ _ | exact xb_r _) (fun h60 => ?_) (fun h60 => ?_)
        · try simp only [xb_0, xb_1, ne_eq, Decidable.not_not, decide_eq_true_eq, decide_eq_false_iff_not] at h60
          refine xe_s (f := (68, _, xi 0 :: _, _)) xt_g330 rfl rfl rfl rfl rfl ?_
          refine xe_mas (ok := xm_isN) (ty := .int) xt_g330 rfl (q := 69) rfl (fun _ _ => ⟨rfl, rfl, rfl, rfl⟩) rfl rfl rfl (by omega) (by omega) (by omega) (by omega) (by omega) rfl ?_
          refine xe_s (f := (70, _, _, _)) xt_g330 rfl rfl rfl rfl rfl ?_
          refine xe_mga xt_g330 rfl (q := 73) rfl (xf_13_108 fm) (by decide) rfl (by omega) ?_
          try simp only [xo_u, xo_w, Nat.reduceEqDiff, reduceIte, false_and, true_and]
          refine xe_s (f := (74, _, _, _)) xt_g330 rfl rfl rfl rfl rfl ?_
          refine xe_mal (ok := xm_isN) (ty := .int) xt_g330 rfl (q := 75) rfl (fun _ _ => ⟨rfl, rfl, rfl, rfl⟩) rfl rfl rfl (by omega) (by omega) (by omega) (by omega) ?_
          try simp only [xo_u, xo_w, Nat.reduceEqDiff, reduceIte, false_and, true_and]
          refine xe_s (f := (76, _, xi 2 :: _, _)) xt_g330 rfl rfl rfl rfl rfl ?_
          refine xe_ic_ne xt_g330 rfl (t := 95) rfl (q := 79) rfl (by first | omega | exact hw.1 _ | exact hw.2 _ _ | exact xb_r _) (by first | omega | exact hw.1 _ | exact hw.2 _ _ | exact xb_r _) (fun h76 => ?_) (fun h76 => ?_)
          · exact fin s3 _ z03 h4
          · exact absurd h76 (by omega)
        · exact absurd rfl h60
      | some a =>
        rw [hres] at elv
        dsimp only at elv
        obtain ⟨A3, o3⟩ := po3 a hres
        have A3' := A3
        rw [(pa_tx o3).1] at A3'
        have A4 : pa_at (xo_w ar3 50 K 2) ((40 : Nat) : Int) (pa_hd a ++ (a.2.2.2.1 ++ a.2.2.2.2)) := A3'
        have oe := xv_originEnd fm hmn (h0 := h0) (s := s3) (ar := xo_w ar3 50 K 2) (xo_wf_w h3.1 (by omega)) (a := ((40 : Nat) : Int)) (by omega) (by omega) (pa_at5 A4)
        rw [pa_oe A4 (by omega) o3 (pa_tx o3).2] at oe
        have ct := xU_copyText fm hmn (h0 := h0) (s := s3) (ar := xo_w ar3 50 K 2) (xo_wf_w h3.1 (by omega)) (a := 40) (b := 66 + K) (e := (pa_hd a).length) (l := pa_hd a) (l' := a.2.2.2.1 ++ a.2.2.2.2) (by omega) (by omega) (by omega) A4 rfl
        rw [show ((66 + K : Nat) : Int) = 66 + (K : Int) by omega] at ct
        have hb52 : ar3 52 K = xb wi := by rw [q3.2 52 (by decide)]; exact xo_wS
        refine xe_if_eq xt_g330 rfl (t := 67) rfl (q := 63) rfl (by first | omega | exact hw.1 _ | exact hw.2 _ _ | exact xb_r _) (fun h60 => ?_) (fun h60 => ?_)
        · exact absurd h60 (show ¬ xb true = 0 by decide)
        · try simp only [xb_0, xb_1, ne_eq, Decidable.not_not, decide_eq_true_eq, decide_eq_false_iff_not] at h60
          refine xe_s (f := (64, _, xi 2 :: _, _)) xt_g330 rfl rfl rfl rfl rfl ?_
          refine xe_s (f := (68, _, _, _)) xt_g330 rfl rfl rfl rfl rfl ?_
          refine xe_mas (ok := xm_isN) (ty := .int) xt_g330 rfl (q := 69) rfl (fun _ _ => ⟨rfl, rfl, rfl, rfl⟩) rfl rfl rfl (by omega) (by omega) (by omega) (by omega) (by omega) rfl ?_
          refine xe_s (f := (70, _, _, _)) xt_g330 rfl rfl rfl rfl rfl ?_
          refine xe_mga xt_g330 rfl (q := 73) rfl (xf_13_108 fm) (by decide) rfl (by omega) ?_
          try simp only [xo_u, xo_w, Nat.reduceEqDiff, reduceIte, false_and, true_and]
          refine xe_s (f := (74, _, _, _)) xt_g330 rfl rfl rfl rfl rfl ?_
          refine xe_mal (ok := xm_isN) (ty := .int) xt_g330 rfl (q := 75) rfl (fun _ _ => ⟨rfl, rfl, rfl, rfl⟩) rfl rfl rfl (by omega) (by omega) (by omega) (by omega) ?_
          try simp only [xo_u, xo_w, Nat.reduceEqDiff, reduceIte, false_and, true_and]
          refine xe_s (f := (76, _, xi 2 :: _, _)) xt_g330 rfl rfl rfl rfl rfl ?_
          refine xe_ic_ne xt_g330 rfl (t := 95) rfl (q := 79) rfl (by first | omega | exact hw.1 _ | exact hw.2 _ _ | exact xb_r _) (by first | omega | exact hw.1 _ | exact hw.2 _ _ | exact xb_r _) (fun h76 => ?_) (fun h76 => ?_)
          · exact absurd h76 (by omega)
          · refine xe_s (f := (80, _, _, _)) xt_g330 rfl rfl rfl rfl rfl ?_
            refine xe_bipush xt_g330 rfl (q := 82) rfl (by decide) (by decide) ?_
            refine xe_bipush xt_g330 rfl (q := 84) rfl (by decide) (by decide) ?_
            refine xe_s (f := (85, _, _, _)) xt_g330 rfl rfl rfl rfl rfl ?_
            refine xe_iadd xt_g330 rfl (q := 86) rfl ?_
            refine xe_s (f := (87, _, _, _)) xt_g330 rfl rfl rfl rfl rfl ?_
            refine xe_bipush xt_g330 rfl (q := 89) rfl (by decide) (by decide) ?_
            refine xe_cvI xt_g330 rfl (q := 92) rfl xk_13_182 rfl (by omega) xt_g271 (by decide) ⟨Nat.le_of_ble_eq_true rfl, Nat.le_of_ble_eq_true rfl, Nat.le_of_ble_eq_true rfl⟩ (oe) ?_
            refine xe_chV xt_g330 rfl (q := 95) rfl xk_13_386 rfl (by omega) xt_g282 (by decide) ⟨Nat.le_of_ble_eq_true rfl, Nat.le_of_ble_eq_true rfl, Nat.le_of_ble_eq_true rfl⟩ (ct) (fun s5 ar5 hp5 => ?_)
            obtain ⟨es, w5, q5, F5, A5⟩ := hp5
            subst es
            have q6 : xq [] [4, 5, 50, 52] s5 ar3 s5 ar5 := xq_t (xq_w xq_r (by decide)) (xq_mm q5 (by decide) (by decide))
            have B5 : xo_B ar5 := xo_B_q (xo_B_w h3.2.1 (fun h => absurd h (by decide))) q5 (by decide)
            have h6 := rf_lvw h3 hK hq2 (ar1 := ar5) (lv := some (some (a, wi))) w5 B5 q6 (fun k hk hn => ⟨(F5 k hk hn).1.trans rfl, fun i hi => ((F5 k hk hn).2 i hi).trans rfl⟩) (fun k j hj hk => by rw [q5.2 k (by simp; omega)]; exact xo_wI hj) ⟨by rw [q5.2 50 (by decide)]; exact xo_wS, by rw [show ((66 + K : Nat) : Int) = 66 + (K : Int) by omega]; exact A5, o3, by rw [q5.2 52 (by decide), xo_wK (by decide)]; exact hb52⟩
            rw [up2, ← elv] at h6
            exact fin s5 ar5 z03 h6
    have b1 : 0 < (mu_ln u).length → ar 1 (0 : Int).toNat = (mu_ln u).getD 0 0 := fun h => rf_line_0 r0 h
    have rb1 := hl.1.2 1 (0 : Int).toNat
    refine xe_s (f := (15, _, _, _)) xt_g330 rfl rfl rfl rfl rfl ?_
    refine xe_mga xt_g330 rfl (q := 18) rfl (xf_13_114 fm) (by decide) rfl (by omega) ?_
    try simp only [xo_u, xo_w, Nat.reduceEqDiff, reduceIte, false_and, true_and]
    refine xe_s (f := (19, _, _, _)) xt_g330 rfl rfl rfl rfl rfl ?_
    refine xe_s (f := (20, _, _, _)) xt_g330 rfl rfl rfl rfl rfl ?_
    refine xe_mas (ok := xm_isB) (ty := .boolean) xt_g330 rfl (q := 21) rfl (fun _ _ => ⟨rfl, rfl, rfl, rfl⟩) rfl rfl rfl (by omega) (by omega) (by omega) (by omega) (by omega) (xi_nb (by first | omega | exact xb_or _)) ?_
    refine xe_s (f := (22, _, _, _)) xt_g330 rfl rfl rfl rfl rfl ?_
    refine xe_mgs xt_g330 rfl (q := 25) rfl (xf_13_149 fm) (by decide) rfl (by omega) ?_
    try simp only [xo_u, xo_w, Nat.reduceEqDiff, reduceIte, false_and, true_and]
    rw [i2]
    refine xe_s (f := (26, _, xi 1 :: _, _)) xt_g330 rfl rfl rfl rfl rfl ?_
    refine xe_ic_ne xt_g330 rfl (t := 50) rfl (q := 29) rfl (by first | omega | exact hw.1 _ | exact hw.2 _ _ | exact xb_r _) (by first | omega | exact hw.1 _ | exact hw.2 _ _ | exact xb_r _) (fun h26 => ?_) (fun h26 => ?_)
    · exact other (fun h => h26 (by rw [h]; rfl))
    · refine xe_s (f := (30, _, _, _)) xt_g330 rfl rfl rfl rfl rfl ?_
      refine xe_mga xt_g330 rfl (q := 33) rfl (xf_13_7 fm) (by decide) rfl (by omega) ?_
      try simp only [xo_u, xo_w, Nat.reduceEqDiff, reduceIte, false_and, true_and]
      refine xe_s (f := (34, _, xi 0 :: _, _)) xt_g330 rfl rfl rfl rfl rfl ?_
      refine xe_mal (ok := xm_isN) (ty := .int) xt_g330 rfl (q := 35) rfl (fun _ _ => ⟨rfl, rfl, rfl, rfl⟩) rfl rfl rfl (by omega) (by omega) (by omega) (by omega) ?_
      try simp only [xo_u, xo_w, Nat.reduceEqDiff, reduceIte, false_and, true_and]
      refine xe_bipush xt_g330 rfl (q := 37) rfl (by decide) (by decide) ?_
      refine xe_ic_ne xt_g330 rfl (t := 50) rfl (q := 40) rfl (by first | omega | exact hw.1 _ | exact hw.2 _ _ | exact xb_r _) (by first | omega | exact hw.1 _ | exact hw.2 _ _ | exact xb_r _) (fun h37 => ?_) (fun h37 => ?_)
      · exact other (fun h => h37 (by rw [b1 (by rw [h]; decide), h]; rfl))
      · refine star ?_
        have hlen : (mu_ln u).length = 1 := by omega
        have h37' := Decidable.not_not.mp h37
        rw [b1 (by omega)] at h37'
        exact xg_ext (by rw [hlen]; rfl) (fun i hi => by rw [show i = 0 by omega]; exact h37')
  · try simp only [xb_0, xb_1, ne_eq, Decidable.not_not, decide_eq_true_eq, decide_eq_false_iff_not] at h10
    have hb : mu_ir u r = false := by simpa using h10
    rw [hb] at hl hz hR ⊢
    rw [if_neg (by decide)] at hl
    have e : R = mu_sln u [] := by
      rw [← hR]
      cases mu_rq u r.toNat with
      | none => rfl
      | some q => exact if_neg (by decide)
    rw [e]
    refine xe_ret xt_g330 rfl rfl ?_
    exact ⟨_, _, rfl, rfl, hz, hl⟩
end XAW
