/-! the reference: cookies, cookie, bar, storage -/
def mu_cookies (u : mu_T) (f : Int) : Int × mu_T := if mu_if u f = true then (match mu_ad u f with
  | none => (-1, u)
  | some a => ((mk_txt (mk_going (mu_tm u) (mu_ck u) a false) false false).length, mu_ssh u (mk_txt (mk_going (mu_tm u) (mu_ck u) a false) false false))) else (0, u)
def mu_cookie (u : mu_T) (f : Int) : Int × mu_T := if mu_if u f = true then (match mu_ad u f with
  | none => (0, mu_sln u [])
  | some a => (1, mu_cs u a false)) else (0, mu_sln u [])
def mu_bart (u : mu_T) : List Int := if 0 ≤ mu_fo u ∧ 0 ≤ mu_tp u (mu_fo u) then (match mu_ad u (mu_tp u (mu_fo u)) with
  | none => []
  | some a => pa_text a) else []
def mu_bar (u : mu_T) : Int × mu_T := ((mu_bart u).length, mu_ssh u (mu_bart u))
def so_fi (hd : List Int) : List pa_A → Nat → Int
  | [], _ => -1
  | o :: O, k => if pa_hd o = hd then k else so_fi hd O (k + 1)
def mu_store (u : mu_T) (f key v : Int) : Int × mu_T := if mu_if u f = true then (match mu_ad u f with
  | none => (0, u)
  | some a => if key < 0 ∨ 7 < key ∨ (so_fi (pa_hd a) (mu_or u) 0 < 0 ∧ (mu_or u).length = 8) then (0, u) else if so_fi (pa_hd a) (mu_or u) 0 < 0 then (1, mu_sst (mu_sor u (mu_or u ++ [a])) (mu_up (mu_st u) (8 * (mu_or u).length + key).toNat v)) else (1, mu_sst u (mu_up (mu_st u) (8 * so_fi (pa_hd a) (mu_or u) 0 + key).toNat v))) else (0, u)
def mu_stored (u : mu_T) (f key : Int) : Int := if mu_if u f = true then (match mu_ad u f with
  | none => 0
  | some a => if key < 0 ∨ 7 < key ∨ so_fi (pa_hd a) (mu_or u) 0 < 0 then 0 else mu_st u (8 * so_fi (pa_hd a) (mu_or u) 0 + key).toNat) else 0
theorem so_fi_r {hd : List Int} : ∀ (O : List pa_A) (k : Nat), so_fi hd O k = -1 ∨ ((k : Int) ≤ so_fi hd O k ∧ so_fi hd O k < k + O.length)
  | [], k => Or.inl rfl
  | o :: O, k => by
    unfold so_fi
    rw [List.length_cons]
    split
    · right
      omega
    · rcases so_fi_r (hd := hd) O (k + 1) with h | h
      · exact Or.inl h
      · right
        omega
section XCO
variable (fm : Value) {m n : Nat} {h0 : xm_H} {s : Nat → Int} {ar : Nat → Nat → Int} {u : mu_T}
theorem xV_show (hmn : xo_in m n) {M : List Int} (h : rg s ar u 99 M) : xV fm 333 m n h0 s ar [.ref m] (fun z s' ar' => z = M.length ∧ s' 0 = s 0 ∧ rf s' ar' (mu_ssh u M)) := by
  have R := rg_to (r := 99) (u := u) (s := s) (ar := ar)
  obtain ⟨w, B, ⟨z1, z2, z3, z4⟩, r0, r1, r2, r3, r4, r5, r6, r7, r8, r9, ra⟩ := h
  have q : xq [62, 64] [63] s ar (xo_u (xo_u s 64 (s 62)) 62 0) (xd_ap ar 63 0 (fun i => ar 61 i.toNat) (s 62)) := xq_a (xq_u (xq_u xq_r (by decide)) (by decide)) (by decide)
  have F : xs_F [] ar (xd_ap ar 63 0 (fun i => ar 61 i.toNat) (s 62)) := xs_q q (by decide) (by decide)
  refine xV_of (xv_show fm hmn w (by omega)) ⟨z1, rfl, xo_wf_u (xo_wf_u (xd_ap_wf w (fun i => w.2 _ _)) (by omega)) (by omega), xo_B_q B q (by decide), xo_uS, rf_k0 r0 q rfl, rf_k1 r1 q rfl, rf_k2 r2 q rfl, rf_k3 r3 q rfl, rf_k4 r4 q rfl, rf_k5 r5 q F rfl, ?_, rf_k7 r7 q F rfl, rf_k8 r8 q rfl, rf_k9 r9 q rfl, ?_⟩
  · intro r hr
    exact rf_q1_k (r6 r hr (by omega)) hr (fun k h1 h2 => by rw [q.2 k (by simp; omega)]) F ⟨by simp, by simp, by simp⟩
  · refine ⟨?_, z2, ?_⟩
    · show s 62 = (M.length : Int)
      exact z1
    · have := xh_ap (F := 63) (ar := ar) (c := s 62) (P := 0) (gg := fun i => ar 61 i.toNat) (p := 0) (l := []) (by simp) xh_nil
      rw [List.nil_append] at this
      have eT : (List.range (s 62).toNat).map (fun i : Nat => ar 61 (i : Int).toNat) = M := by
        apply xg_ext
        · rw [List.length_map, List.length_range]
          omega
        · intro i hi
          rw [List.length_map, List.length_range] at hi
          rw [show ((List.range (s 62).toNat).map (fun i : Nat => ar 61 (i : Int).toNat)).getD i 0 = ar 61 i by simp [hi], ← z3 i (by omega), Nat.zero_add]
      rw [eT] at this
      exact this
theorem rf_lk0 (h : rf s ar u) {b : Bool} : rf (if b = true then xo_u s 0 0 else if false = true then xo_u (xo_u s 0 1) 2 0 else xo_u s 0 1) ar u ∧ (if b = true then xo_u s 0 0 else if false = true then xo_u (xo_u s 0 1) 2 0 else xo_u s 0 1) 0 = xb (!b) := by
  cases b with
  | true => exact ⟨rf_s0 h (by omega), rfl⟩
  | false => exact ⟨rf_s0 h (by omega), rfl⟩
theorem xV_cookies (hmn : xo_in m n) (h : rf s ar u) {f : Int} (hfr : xr f) : xV fm 332 m n h0 s ar [.ref m, xi f] (fun z s' ar' => z = (mu_cookies u f).1 ∧ s' 0 = xb (!mu_if u f) ∧ rf s' ar' (mu_cookies u f).2) := by
  show xe fm 332 (0, [(0, .ref m), (1, xi f)], [], (xo m s ar h0, n, 0, 0)) _
  generalize hR : mu_cookies u f = R
  unfold mu_cookies at hR
  have e1 := rf_if h (f := f)
  have lk := xv_lacks fm hmn (h0 := h0) (s := s) (ar := ar) (b := mu_if u f) (t := false)
  obtain ⟨hl, hz⟩ := rf_lk0 h (b := mu_if u f)
  generalize (if mu_if u f = true then xo_u s 0 0 else if false = true then xo_u (xo_u s 0 1) 2 0 else xo_u s 0 1) = s1 at *
  refine xe_s (f := (1, _, _, _)) xt_g332 rfl rfl rfl rfl rfl ?_
  refine xe_s (f := (2, _, _, _)) xt_g332 rfl rfl rfl rfl rfl ?_
  refine xe_s (f := (3, _, _, _)) xt_g332 rfl rfl rfl rfl rfl ?_
  refine xe_cvI xt_g332 rfl (q := 6) rfl xk_13_428 rfl (by omega) xt_g298 (by decide) ⟨Nat.le_of_ble_eq_true rfl, Nat.le_of_ble_eq_true rfl, Nat.le_of_ble_eq_true rfl⟩ (xv_isFrame fm hmn h.1 hfr) ?_
  rw [e1]
  refine xe_s (f := (7, _, xi 0 :: _, _)) xt_g332 rfl rfl rfl rfl rfl ?_
  refine xe_cvI xt_g332 rfl (q := 10) rfl xk_13_418 rfl (by omega) xt_g292 (by decide) ⟨Nat.le_of_ble_eq_true rfl, Nat.le_of_ble_eq_true rfl, Nat.le_of_ble_eq_true rfl⟩ (lk) ?_
  refine xe_if_eq xt_g332 rfl (t := 15) rfl (q := 13) rfl (by first | omega | exact hw.1 _ | exact hw.2 _ _ | exact xb_r _) (fun h10 => ?_) (fun h10 => ?_)
  · try simp only [xb_0, xb_1, ne_eq, Decidable.not_not, decide_eq_true_eq, decide_eq_false_iff_not] at h10
    have hb : mu_if u f = true := by simpa using h10
    rw [hb] at hz hR ⊢
    rw [if_pos rfl] at hR
    obtain ⟨F, x, rfl, hF, hx⟩ := mu_if_s hb
    obtain ⟨x1, x2, x3, x4, x5, x6, x7, x8⟩ := rf_f hl hF hx
    have a44 : ar 44 (F : Int).toNat = xb x.2.2.isSome := x7
    have ead : mu_ad u F = x.2.2 := by
      unfold mu_ad
      rw [Int.toNat_natCast, hx]
    cases hxa : x.2.2 with
    | none =>
      rw [hxa] at a44 ead
      rw [ead] at hR
      rw [← hR]
      refine xe_s (f := (16, _, _, _)) xt_g332 rfl rfl rfl rfl rfl ?_
      refine xe_mga xt_g332 rfl (q := 19) rfl (xf_13_90 fm) (by decide) rfl (by omega) ?_
      try simp only [xo_u, xo_w, Nat.reduceEqDiff, reduceIte, false_and, true_and]
      refine xe_s (f := (20, _, _, _)) xt_g332 rfl rfl rfl rfl rfl ?_
      refine xe_mal (ok := xm_isB) (ty := .boolean) xt_g332 rfl (q := 21) rfl (fun _ _ => ⟨rfl, rfl, rfl, rfl⟩) rfl rfl rfl (by omega) (by omega) (by omega) (by omega) ?_
      try simp only [xo_u, xo_w, Nat.reduceEqDiff, reduceIte, false_and, true_and]
      rw [a44]
      refine xe_if_ne xt_g332 rfl (t := 26) rfl (q := 24) rfl (by first | omega | exact hw.1 _ | exact hw.2 _ _ | exact xb_r _) (fun h21 => ?_) (fun h21 => ?_)
      · exact absurd rfl h21
      · try simp only [xb_0, xb_1, ne_eq, Decidable.not_not, decide_eq_true_eq, decide_eq_false_iff_not] at h21
        refine xe_s (f := (25, _, xi (-1) :: _, _)) xt_g332 rfl rfl rfl rfl rfl ?_
        refine xe_iret xt_g332 rfl rfl xi_int.1 ?_
        exact ⟨_, _, _, rfl, rfl, rfl, hz, hl⟩
    | some a =>
      rw [hxa] at a44 ead
      rw [ead] at hR
      dsimp only at hR
      obtain ⟨A1, A2⟩ := x8 a hxa
      have G := rg_of hl 99
      have C3 := hl.2.2.2.2.2.2.1
      have Q3 := hl.2.2.2.2.2.1
      have mc := xU_makeCookies fm hmn (h0 := h0) (net := false) (blank := false) hl.1 C3.1 (b := (F : Int)) (by omega) A1 A2 G.2.2.1.1 xh_nil (by have := C3.2.1; simp; omega)
      rw [Q3.2.2.2.1, List.nil_append] at mc
      refine xe_s (f := (16, _, _, _)) xt_g332 rfl rfl rfl rfl rfl ?_
      refine xe_mga xt_g332 rfl (q := 19) rfl (xf_13_90 fm) (by decide) rfl (by omega) ?_
      try simp only [xo_u, xo_w, Nat.reduceEqDiff, reduceIte, false_and, true_and]
      refine xe_s (f := (20, _, _, _)) xt_g332 rfl rfl rfl rfl rfl ?_
      refine xe_mal (ok := xm_isB) (ty := .boolean) xt_g332 rfl (q := 21) rfl (fun _ _ => ⟨rfl, rfl, rfl, rfl⟩) rfl rfl rfl (by omega) (by omega) (by omega) (by omega) ?_
      try simp only [xo_u, xo_w, Nat.reduceEqDiff, reduceIte, false_and, true_and]
      rw [a44]
      refine xe_if_ne xt_g332 rfl (t := 26) rfl (q := 24) rfl (by first | omega | exact hw.1 _ | exact hw.2 _ _ | exact xb_r _) (fun h21 => ?_) (fun h21 => ?_)
      · try simp only [xb_0, xb_1, ne_eq, Decidable.not_not, decide_eq_true_eq, decide_eq_false_iff_not] at h21
        refine xe_s (f := (27, _, _, _)) xt_g332 rfl rfl rfl rfl rfl ?_
        refine xe_s (f := (28, _, _, _)) xt_g332 rfl rfl rfl rfl rfl ?_
        refine xe_s (f := (29, _, xi 0 :: _, _)) xt_g332 rfl rfl rfl rfl rfl ?_
        refine xe_s (f := (30, _, xi 0 :: _, _)) xt_g332 rfl rfl rfl rfl rfl ?_
        refine xe_chV xt_g332 rfl (q := 33) rfl xk_13_392 rfl (by omega) xt_g285 (by decide) ⟨Nat.le_of_ble_eq_true rfl, Nat.le_of_ble_eq_true rfl, Nat.le_of_ble_eq_true rfl⟩ (mc) (fun s2 ar2 hp2 => ?_)
        have hp2' : xd_PM s1 ar (mk_txt (mk_going (mu_tm u) (mu_ck u) a false) false false) s2 ar2 := hp2
        have hl4 := mk_txt_l (G := mk_going (mu_tm u) (mu_ck u) a false) (sm := false) (bl := false) (fun c hc => ck_all_m C3.1 (mk_low_m _ _ hc))
        have hg4 := mk_going_len (t := mu_tm u) (a := a) (net := false) (C := mu_ck u)
        have h40 := C3.2.1
        have G2 := rf_mk G hp2' ⟨by omega, fun c hc => mk_txt_c (fun c hc => C3.2.2 c (mk_low_m _ _ hc)) hc⟩
        refine xe_s (f := (34, _, _, _)) xt_g332 rfl rfl rfl rfl rfl ?_
        refine xe_chI xt_g332 rfl (q := 37) rfl xk_13_458 rfl (by omega) xt_g333 (by decide) ⟨Nat.le_of_ble_eq_true rfl, Nat.le_of_ble_eq_true rfl, Nat.le_of_ble_eq_true rfl⟩ (xV_show fm hmn G2) (fun z3 s3 ar3 hp3 => ?_)
        refine xe_iret xt_g332 rfl rfl xi_int.1 ?_
        rw [← hR]
        exact ⟨_, _, _, rfl, rfl, hp3.1, hp3.2.1.trans ((hp2'.2.1.1 0 (by decide)).trans hz), hp3.2.2⟩
      · exact absurd (show xb true ≠ 0 by decide) h21
  · try simp only [xb_0, xb_1, ne_eq, Decidable.not_not, decide_eq_true_eq, decide_eq_false_iff_not] at h10
    have hb : mu_if u f = false := by simpa using h10
    rw [hb] at hz hR ⊢
    rw [if_neg (by decide)] at hR
    rw [← hR]
    refine xe_s (f := (14, _, xi 0 :: _, _)) xt_g332 rfl rfl rfl rfl rfl ?_
    refine xe_iret xt_g332 rfl rfl xi_int.1 ?_
    exact ⟨_, _, _, rfl, rfl, rfl, hz, hl⟩
theorem xV_cookie (hmn : xo_in m n) (h : rf s ar u) {f : Int} (hfr : xr f) : xV fm 334 m n h0 s ar [.ref m, xi f] (fun z s' ar' => z = (mu_cookie u f).1 ∧ s' 0 = xb (!mu_if u f) ∧ rf s' ar' (mu_cookie u f).2) := by
  show xe fm 334 (0, [(0, .ref m), (1, xi f)], [], (xo m s ar h0, n, 0, 0)) _
  generalize hR : mu_cookie u f = R
  unfold mu_cookie at hR
  have e1 := rf_if h (f := f)
  have lk := xv_lacks fm hmn (h0 := h0) (s := s) (ar := ar) (b := mu_if u f) (t := true)
  obtain ⟨hl, hz⟩ := rf_lkt h (b := mu_if u f)
  generalize (if mu_if u f = true then xo_u s 0 0 else if true = true then xo_u (xo_u s 0 1) 2 0 else xo_u s 0 1) = s1 at *
  refine xe_s (f := (1, _, _, _)) xt_g334 rfl rfl rfl rfl rfl ?_
  refine xe_s (f := (2, _, _, _)) xt_g334 rfl rfl rfl rfl rfl ?_
  refine xe_s (f := (3, _, _, _)) xt_g334 rfl rfl rfl rfl rfl ?_
  refine xe_cvI xt_g334 rfl (q := 6) rfl xk_13_428 rfl (by omega) xt_g298 (by decide) ⟨Nat.le_of_ble_eq_true rfl, Nat.le_of_ble_eq_true rfl, Nat.le_of_ble_eq_true rfl⟩ (xv_isFrame fm hmn h.1 hfr) ?_
  rw [e1]
  refine xe_s (f := (7, _, xi 1 :: _, _)) xt_g334 rfl rfl rfl rfl rfl ?_
  refine xe_cvI xt_g334 rfl (q := 10) rfl xk_13_418 rfl (by omega) xt_g292 (by decide) ⟨Nat.le_of_ble_eq_true rfl, Nat.le_of_ble_eq_true rfl, Nat.le_of_ble_eq_true rfl⟩ (lk) ?_
  refine xe_if_eq xt_g334 rfl (t := 15) rfl (q := 13) rfl (by first | omega | exact hw.1 _ | exact hw.2 _ _ | exact xb_r _) (fun h10 => ?_) (fun h10 => ?_)
  · try simp only [xb_0, xb_1, ne_eq, Decidable.not_not, decide_eq_true_eq, decide_eq_false_iff_not] at h10
    have hb : mu_if u f = true := by simpa using h10
    rw [hb] at hl hz hR ⊢
    rw [if_pos rfl] at hl hR
    obtain ⟨F, x, rfl, hF, hx⟩ := mu_if_s hb
    obtain ⟨x1, x2, x3, x4, x5, x6, x7, x8⟩ := rf_f hl hF hx
    have a44 : ar 44 (F : Int).toNat = xb x.2.2.isSome := x7
    have ead : mu_ad u F = x.2.2 := by
      unfold mu_ad
      rw [Int.toNat_natCast, hx]
    cases hxa : x.2.2 with
    | none =>
      rw [hxa] at a44 ead
      rw [ead] at hR
      rw [← hR]
      have hxb := xb_or (none : Option pa_A).isSome
      refine xe_s (f := (16, _, _, _)) xt_g334 rfl rfl rfl rfl rfl ?_
      refine xe_mga xt_g334 rfl (q := 19) rfl (xf_13_90 fm) (by decide) rfl (by omega) ?_
      try simp only [xo_u, xo_w, Nat.reduceEqDiff, reduceIte, false_and, true_and]
      refine xe_s (f := (20, _, _, _)) xt_g334 rfl rfl rfl rfl rfl ?_
      refine xe_mal (ok := xm_isB) (ty := .boolean) xt_g334 rfl (q := 21) rfl (fun _ _ => ⟨rfl, rfl, rfl, rfl⟩) rfl rfl rfl (by omega) (by omega) (by omega) (by omega) ?_
      try simp only [xo_u, xo_w, Nat.reduceEqDiff, reduceIte, false_and, true_and]
      rw [a44]
      refine xe_if_eq xt_g334 rfl (t := 30) rfl (q := 24) rfl (by first | omega | exact hw.1 _ | exact hw.2 _ _ | exact xb_r _) (fun h21 => ?_) (fun h21 => ?_)
      · try simp only [xb_0, xb_1, ne_eq, Decidable.not_not, decide_eq_true_eq, decide_eq_false_iff_not] at h21
        refine xe_s (f := (31, _, _, _)) xt_g334 rfl rfl rfl rfl rfl ?_
        refine xe_s (f := (32, _, xi 0 :: _, _)) xt_g334 rfl rfl rfl rfl rfl ?_
        refine xe_mps xt_g334 rfl (q := 35) rfl (xf_13_149 fm) (by decide) rfl (by omega) (by omega) xi_int (Or.inl rfl) ?_
        refine xe_s (f := (36, _, _, _)) xt_g334 rfl rfl rfl rfl rfl ?_
        refine xe_mga xt_g334 rfl (q := 39) rfl (xf_13_90 fm) (by decide) rfl (by omega) ?_
        try simp only [xo_u, xo_w, Nat.reduceEqDiff, reduceIte, false_and, true_and]
        refine xe_s (f := (40, _, _, _)) xt_g334 rfl rfl rfl rfl rfl ?_
        refine xe_mal (ok := xm_isB) (ty := .boolean) xt_g334 rfl (q := 41) rfl (fun _ _ => ⟨rfl, rfl, rfl, rfl⟩) rfl rfl rfl (by omega) (by omega) (by omega) (by omega) ?_
        try simp only [xo_u, xo_w, Nat.reduceEqDiff, reduceIte, false_and, true_and]
        rw [a44]
        refine xe_iret xt_g334 rfl rfl (xi_bool (by first | omega | exact xb_or _)).1 ?_
        exact ⟨_, _, _, rfl, rfl, rfl, hz, rf_cl hl⟩
      · exact absurd rfl h21
    | some a =>
      rw [hxa] at a44 ead
      rw [ead] at hR
      dsimp only at hR
      obtain ⟨A1, A2⟩ := x8 a hxa
      have sc := xU_setc fm hmn (h0 := h0) (net := false) hl (b := (F : Int)) (by omega) A1 A2
      refine xe_s (f := (16, _, _, _)) xt_g334 rfl rfl rfl rfl rfl ?_
      refine xe_mga xt_g334 rfl (q := 19) rfl (xf_13_90 fm) (by decide) rfl (by omega) ?_
      try simp only [xo_u, xo_w, Nat.reduceEqDiff, reduceIte, false_and, true_and]
      refine xe_s (f := (20, _, _, _)) xt_g334 rfl rfl rfl rfl rfl ?_
      refine xe_mal (ok := xm_isB) (ty := .boolean) xt_g334 rfl (q := 21) rfl (fun _ _ => ⟨rfl, rfl, rfl, rfl⟩) rfl rfl rfl (by omega) (by omega) (by omega) (by omega) ?_
      try simp only [xo_u, xo_w, Nat.reduceEqDiff, reduceIte, false_and, true_and]
      rw [a44]
      refine xe_if_eq xt_g334 rfl (t := 30) rfl (q := 24) rfl (by first | omega | exact hw.1 _ | exact hw.2 _ _ | exact xb_r _) (fun h21 => ?_) (fun h21 => ?_)
      · exact absurd h21 (show ¬ xb true = 0 by decide)
      · try simp only [xb_0, xb_1, ne_eq, Decidable.not_not, decide_eq_true_eq, decide_eq_false_iff_not] at h21
        refine xe_s (f := (25, _, _, _)) xt_g334 rfl rfl rfl rfl rfl ?_
        refine xe_s (f := (26, _, _, _)) xt_g334 rfl rfl rfl rfl rfl ?_
        refine xe_s (f := (27, _, xi 0 :: _, _)) xt_g334 rfl rfl rfl rfl rfl ?_
        refine xe_chV xt_g334 rfl (q := 30) rfl xk_13_452 rfl (by omega) xt_g310 (by decide) ⟨Nat.le_of_ble_eq_true rfl, Nat.le_of_ble_eq_true rfl, Nat.le_of_ble_eq_true rfl⟩ (sc) (fun s2 ar2 hp2 => ?_)
        obtain ⟨g1, g2, g3⟩ := hp2
        have b44 : ar2 44 (F : Int).toNat = xb true := by rw [g2]; exact a44
        refine xe_s (f := (31, _, _, _)) xt_g334 rfl rfl rfl rfl rfl ?_
        refine xe_s (f := (32, _, xi 0 :: _, _)) xt_g334 rfl rfl rfl rfl rfl ?_
        refine xe_mps xt_g334 rfl (q := 35) rfl (xf_13_149 fm) (by decide) rfl (by omega) (by omega) xi_int (Or.inl rfl) ?_
        refine xe_s (f := (36, _, _, _)) xt_g334 rfl rfl rfl rfl rfl ?_
        refine xe_mga xt_g334 rfl (q := 39) rfl (xf_13_90 fm) (by decide) rfl (by omega) ?_
        try simp only [xo_u, xo_w, Nat.reduceEqDiff, reduceIte, false_and, true_and]
        refine xe_s (f := (40, _, _, _)) xt_g334 rfl rfl rfl rfl rfl ?_
        refine xe_mal (ok := xm_isB) (ty := .boolean) xt_g334 rfl (q := 41) rfl (fun _ _ => ⟨rfl, rfl, rfl, rfl⟩) rfl rfl rfl (by omega) (by omega) (by omega) (by omega) ?_
        try simp only [xo_u, xo_w, Nat.reduceEqDiff, reduceIte, false_and, true_and]
        rw [b44]
        refine xe_iret xt_g334 rfl rfl (xi_bool (by first | omega | exact xb_or _)).1 ?_
        rw [← hR]
        exact ⟨_, _, _, rfl, rfl, rfl, g1.trans hz, rf_cl (u := mu_cs u a false) g3⟩
  · try simp only [xb_0, xb_1, ne_eq, Decidable.not_not, decide_eq_true_eq, decide_eq_false_iff_not] at h10
    have hb : mu_if u f = false := by simpa using h10
    rw [hb] at hl hz hR ⊢
    rw [if_neg (by decide)] at hl hR
    rw [← hR]
    refine xe_s (f := (14, _, xi 0 :: _, _)) xt_g334 rfl rfl rfl rfl rfl ?_
    refine xe_iret xt_g334 rfl rfl (xi_bool (by first | omega | exact xb_or _)).1 ?_
    exact ⟨_, _, _, rfl, rfl, rfl, hz, hl⟩
theorem xV_bar (hmn : xo_in m n) (h : rf s ar u) : xV fm 340 m n h0 s ar [.ref m] (fun z s' ar' => z = (mu_bar u).1 ∧ s' 0 = 0 ∧ rf s' ar' (mu_bar u).2) := by
  show xe fm 340 (0, [(0, .ref m)], [], (xo m s ar h0, n, 0, 0)) _
  have hl := rf_s0 h (z := 0) (by omega)
  have e41 : s 41 = mu_fo u := h.2.2.2.2.2.2.2.1.2.1
  have f1 := h.2.2.2.2.2.2.2.1.2.2.1
  have f2 := h.2.2.2.2.2.2.2.1.2.2.2
  have fin : ∀ (s1 : Nat → Int) (ar1 : Nat → Nat → Int), s1 0 = 0 → rg s1 ar1 u 99 (mu_bart u) → ∀ L, xe fm 340 (43, (0, .ref m) :: L, [], (xo m s1 ar1 h0, n, 0, 0)) (xQI m n h0 (fun z s' ar' => z = (mu_bar u).1 ∧ s' 0 = 0 ∧ rf s' ar' (mu_bar u).2)) := by
    intro s1 ar1 z0 G L
    have hG := xV_show fm hmn (h0 := h0) G
    refine xe_s (f := (44, _, _, _)) xt_g340 rfl rfl rfl rfl rfl ?_
    refine xe_chI xt_g340 rfl (q := 47) rfl xk_13_458 rfl (by omega) xt_g333 (by decide) ⟨Nat.le_of_ble_eq_true rfl, Nat.le_of_ble_eq_true rfl, Nat.le_of_ble_eq_true rfl⟩ (hG) (fun z3 s3 ar3 hp3 => ?_)
    refine xe_iret xt_g340 rfl rfl xi_int.1 ?_
    exact ⟨_, _, _, rfl, rfl, hp3.1, hp3.2.1.trans z0, hp3.2.2⟩
  have j24 : ∀ v : Int, (v = -1 ∧ mu_bart u = []) ∨ (0 ≤ mu_fo u ∧ v = mu_tp u (mu_fo u)) → xe fm 340 (24, [(0, .ref m)], [xi v], (xo m (xo_u s 0 0) ar h0, n, 0, 0)) (xQI m n h0 (fun z s' ar' => z = (mu_bar u).1 ∧ s' 0 = 0 ∧ rf s' ar' (mu_bar u).2)) := by
    intro v hv
    have htp := xd_first_r (p := fun f => mf_tp (mu_fo u) (mu_fr u f.toNat)) 16 0
    have htp2 : mu_tp u (mu_fo u) = -1 ∨ (0 ≤ mu_tp u (mu_fo u) ∧ mu_tp u (mu_fo u) < 16 ∧ mf_tp (mu_fo u) (mu_fr u (mu_tp u (mu_fo u)).toNat) = true) := by
      rcases htp with e | ⟨g1, g2, g3⟩
      · exact Or.inl e
      · have g2' : xd_first (fun f => mf_tp (mu_fo u) (mu_fr u f.toNat)) 16 0 < 16 := by omega
        exact Or.inr ⟨g1, g2', g3⟩
    rcases hv with ⟨hv, hb⟩ | ⟨hv, hb⟩
    · subst hv
      have hf := fin (xo_u s 0 0) ar rfl (by rw [hb]; exact rg_of hl 99) []
      refine xe_s (f := (25, [(1, _), (0, _)], _, _)) xt_g340 rfl rfl rfl rfl rfl ?_
      refine xe_s (f := (26, _, _, _)) xt_g340 rfl rfl rfl rfl rfl ?_
      refine xe_if_lt xt_g340 rfl (t := 43) rfl (q := 29) rfl (by first | omega | exact hw.1 _ | exact hw.2 _ _ | exact xb_r _) (fun h26 => ?_) (fun h26 => ?_)
      · try simp only [xb_0, xb_1, ne_eq, Decidable.not_not, decide_eq_true_eq, decide_eq_false_iff_not] at h26
        exact xe_loc (by intro q hq; simp only [List.mem_cons, List.not_mem_nil, or_false] at hq; rcases hq with rfl <;> rfl) (hf)
      · exact absurd h26 (by omega)
    · rcases htp2 with ht | ⟨ht1, ht2, ht3⟩
      · rw [ht] at hb
        subst hb
        have hf := fin (xo_u s 0 0) ar rfl (by rw [show mu_bart u = [] by unfold mu_bart; rw [if_neg (by omega)]]; exact rg_of hl 99) []
        refine xe_s (f := (25, [(1, _), (0, _)], _, _)) xt_g340 rfl rfl rfl rfl rfl ?_
        refine xe_s (f := (26, _, _, _)) xt_g340 rfl rfl rfl rfl rfl ?_
        refine xe_if_lt xt_g340 rfl (t := 43) rfl (q := 29) rfl (by first | omega | exact hw.1 _ | exact hw.2 _ _ | exact xb_r _) (fun h26 => ?_) (fun h26 => ?_)
        · try simp only [xb_0, xb_1, ne_eq, Decidable.not_not, decide_eq_true_eq, decide_eq_false_iff_not] at h26
          exact xe_loc (by intro q hq; simp only [List.mem_cons, List.not_mem_nil, or_false] at hq; rcases hq with rfl <;> rfl) (hf)
        · exact absurd h26 (by omega)
      · obtain ⟨G, hG⟩ := Int.eq_ofNat_of_zero_le ht1
        rw [hG, Int.toNat_natCast] at ht3
        obtain ⟨x, hx⟩ : ∃ x, mu_fr u G = some x := by
          cases hh : mu_fr u G with
          | none => rw [hh] at ht3; cases ht3
          | some x => exact ⟨x, rfl⟩
        obtain ⟨x1, x2, x3, x4, x5, x6, x7, x8⟩ := rf_f hl (f := G) (by omega) hx
        have a44 : ar 44 (G : Int).toNat = xb x.2.2.isSome := x7
        have ebt : mu_bart u = (match x.2.2 with
          | none => []
          | some a => pa_text a) := by
          unfold mu_bart
          rw [if_pos ⟨hv, ht1⟩, hG]
          unfold mu_ad
          rw [Int.toNat_natCast, hx]
        subst hb
        rw [hG]
        cases hxa : x.2.2 with
        | none =>
          rw [hxa] at a44 ebt
          have hf := fin (xo_u s 0 0) ar rfl (by rw [ebt]; exact rg_of hl 99) []
          refine xe_s (f := (25, [(1, _), (0, _)], _, _)) xt_g340 rfl rfl rfl rfl rfl ?_
          refine xe_s (f := (26, _, _, _)) xt_g340 rfl rfl rfl rfl rfl ?_
          refine xe_if_lt xt_g340 rfl (t := 43) rfl (q := 29) rfl (by first | omega | exact hw.1 _ | exact hw.2 _ _ | exact xb_r _) (fun h26 => ?_) (fun h26 => ?_)
          · exact absurd h26 (by omega)
          · try simp only [xb_0, xb_1, ne_eq, Decidable.not_not, decide_eq_true_eq, decide_eq_false_iff_not] at h26
            refine xe_s (f := (30, _, _, _)) xt_g340 rfl rfl rfl rfl rfl ?_
            refine xe_mga xt_g340 rfl (q := 33) rfl (xf_13_90 fm) (by decide) rfl (by omega) ?_
            try simp only [xo_u, xo_w, Nat.reduceEqDiff, reduceIte, false_and, true_and]
            refine xe_s (f := (34, _, _, _)) xt_g340 rfl rfl rfl rfl rfl ?_
            refine xe_mal (ok := xm_isB) (ty := .boolean) xt_g340 rfl (q := 35) rfl (fun _ _ => ⟨rfl, rfl, rfl, rfl⟩) rfl rfl rfl (by omega) (by omega) (by omega) (by omega) ?_
            try simp only [xo_u, xo_w, Nat.reduceEqDiff, reduceIte, false_and, true_and]
            rw [a44]
            refine xe_if_eq xt_g340 rfl (t := 43) rfl (q := 38) rfl (by first | omega | exact hw.1 _ | exact hw.2 _ _ | exact xb_r _) (fun h35 => ?_) (fun h35 => ?_)
            · try simp only [xb_0, xb_1, ne_eq, Decidable.not_not, decide_eq_true_eq, decide_eq_false_iff_not] at h35
              exact xe_loc (by intro q hq; simp only [List.mem_cons, List.not_mem_nil, or_false] at hq; rcases hq with rfl <;> rfl) (hf)
            · exact absurd rfl h35
        | some a =>
          rw [hxa] at a44 ebt
          dsimp only at ebt
          obtain ⟨A1, A2⟩ := x8 a hxa
          have Gr := rg_of hl 99
          have mt := xU_makeText fm hmn (h0 := h0) (s := xo_u s 0 0) (ar := ar) hl.1 (M := []) (T := pa_text a) (b := (G : Int)) (by omega) Gr.2.2.1.1 xh_nil (by simp) A1
          rw [List.nil_append] at mt
          refine xe_s (f := (25, [(1, _), (0, _)], _, _)) xt_g340 rfl rfl rfl rfl rfl ?_
          refine xe_s (f := (26, _, _, _)) xt_g340 rfl rfl rfl rfl rfl ?_
          refine xe_if_lt xt_g340 rfl (t := 43) rfl (q := 29) rfl (by first | omega | exact hw.1 _ | exact hw.2 _ _ | exact xb_r _) (fun h26 => ?_) (fun h26 => ?_)
          · exact absurd h26 (by omega)
          · try simp only [xb_0, xb_1, ne_eq, Decidable.not_not, decide_eq_true_eq, decide_eq_false_iff_not] at h26
            refine xe_s (f := (30, _, _, _)) xt_g340 rfl rfl rfl rfl rfl ?_
            refine xe_mga xt_g340 rfl (q := 33) rfl (xf_13_90 fm) (by decide) rfl (by omega) ?_
            try simp only [xo_u, xo_w, Nat.reduceEqDiff, reduceIte, false_and, true_and]
            refine xe_s (f := (34, _, _, _)) xt_g340 rfl rfl rfl rfl rfl ?_
            refine xe_mal (ok := xm_isB) (ty := .boolean) xt_g340 rfl (q := 35) rfl (fun _ _ => ⟨rfl, rfl, rfl, rfl⟩) rfl rfl rfl (by omega) (by omega) (by omega) (by omega) ?_
            try simp only [xo_u, xo_w, Nat.reduceEqDiff, reduceIte, false_and, true_and]
            rw [a44]
            refine xe_if_eq xt_g340 rfl (t := 43) rfl (q := 38) rfl (by first | omega | exact hw.1 _ | exact hw.2 _ _ | exact xb_r _) (fun h35 => ?_) (fun h35 => ?_)
            · exact absurd h35 (show ¬ xb true = 0 by decide)
            · try simp only [xb_0, xb_1, ne_eq, Decidable.not_not, decide_eq_true_eq, decide_eq_false_iff_not] at h35
              refine xe_s (f := (39, _, _, _)) xt_g340 rfl rfl rfl rfl rfl ?_
              refine xe_s (f := (40, _, _, _)) xt_g340 rfl rfl rfl rfl rfl ?_
              refine xe_chV xt_g340 rfl (q := 43) rfl xk_13_389 rfl (by omega) xt_g283 (by decide) ⟨Nat.le_of_ble_eq_true rfl, Nat.le_of_ble_eq_true rfl, Nat.le_of_ble_eq_true rfl⟩ (mt) (fun s2 ar2 hp2 => ?_)
              have hp2' : xd_PM (xo_u s 0 0) ar (pa_text a) s2 ar2 := hp2
              have G2 := rf_mk Gr hp2' ⟨by have := A1.2.1; omega, fun c hc => pa_ok_c A2 hc⟩
              have hf := fin s2 ar2 (hp2'.2.1.1 0 (by decide)) (by rw [ebt]; exact G2) []
              exact xe_loc (by intro q hq; simp only [List.mem_cons, List.not_mem_nil, or_false] at hq; rcases hq with rfl <;> rfl) (hf)
  have e2 : 0 ≤ mu_fo u → xd_top ar (mu_fo u) = mu_tp u (mu_fo u) := fun hh => rf_tp h.2.2.2.2.2.2.2.2.1 hh
  refine xe_s (f := (1, _, _, _)) xt_g340 rfl rfl rfl rfl rfl ?_
  refine xe_s (f := (2, _, xi 0 :: _, _)) xt_g340 rfl rfl rfl rfl rfl ?_
  refine xe_mps xt_g340 rfl (q := 5) rfl (xf_13_146 fm) (by decide) rfl (by omega) (by omega) xi_int (Or.inl rfl) ?_
  refine xe_s (f := (6, _, _, _)) xt_g340 rfl rfl rfl rfl rfl ?_
  refine xe_mgs xt_g340 rfl (q := 9) rfl (xf_13_80 fm) (by decide) rfl (by omega) ?_
  try simp only [xo_u, xo_w, Nat.reduceEqDiff, reduceIte, false_and, true_and]
  rw [e41]
  refine xe_if_ge xt_g340 rfl (t := 16) rfl (q := 12) rfl (by first | omega | exact hw.1 _ | exact hw.2 _ _ | exact xb_r _) (fun h9 => ?_) (fun h9 => ?_)
  · try simp only [xb_0, xb_1, ne_eq, Decidable.not_not, decide_eq_true_eq, decide_eq_false_iff_not] at h9
    refine xe_s (f := (17, _, _, _)) xt_g340 rfl rfl rfl rfl rfl ?_
    refine xe_s (f := (18, _, _, _)) xt_g340 rfl rfl rfl rfl rfl ?_
    refine xe_mgs xt_g340 rfl (q := 21) rfl (xf_13_80 fm) (by decide) rfl (by omega) ?_
    try simp only [xo_u, xo_w, Nat.reduceEqDiff, reduceIte, false_and, true_and]
    rw [e41]
    refine xe_cvI xt_g340 rfl (q := 24) rfl xk_13_422 rfl (by omega) xt_g293 (by decide) ⟨Nat.le_of_ble_eq_true rfl, Nat.le_of_ble_eq_true rfl, Nat.le_of_ble_eq_true rfl⟩ (xv_topOf fm hmn hl.1 (by omega)) ?_
    rw [e2 (by omega)]
    exact j24 _ (Or.inr ⟨by omega, rfl⟩)
  · try simp only [xb_0, xb_1, ne_eq, Decidable.not_not, decide_eq_true_eq, decide_eq_false_iff_not] at h9
    refine xe_s (f := (13, _, xi (-1) :: _, _)) xt_g340 rfl rfl rfl rfl rfl ?_
    refine xe_s (f := (24, _, _, _)) xt_g340 rfl rfl rfl rfl rfl ?_
    exact j24 _ (Or.inl ⟨rfl, by unfold mu_bart; rw [if_neg (by omega)]⟩)
theorem xv_storageOf (hmn : xo_in m n) (h : rf s ar u) {f : Nat} {a : pa_A} (hf : f < 16) (hA : pa_at ar (f : Int) (pa_text a)) (ho : pa_ok a) : xv fm 336 m n h0 s ar [.ref m, xi (f : Int)] (some (xi (so_fi (pa_hd a) (mu_or u) 0))) s ar := by
  show xe fm 336 (0, [(0, .ref m), (1, xi (f : Int))], [], (xo m s ar h0, n, 0, 0)) _
  obtain ⟨o1, o2, o3⟩ := h.2.2.2.2.2.2.2.2.2.2.1
  have loop : ∀ (N k : Nat), k + N = (mu_or u).length → so_fi (pa_hd a) ((mu_or u).drop k) k = so_fi (pa_hd a) (mu_or u) 0 → xe fm 336 (2, [(2, xi (k : Int)), (0, .ref m), (1, xi (f : Int))], [], (xo m s ar h0, n, 0, 0)) (fun r M => r = .inl (some (xi (so_fi (pa_hd a) (mu_or u) 0))) ∧ M = (xo m s ar h0, n, 0, 0)) := by
    intro N
    induction N with
    | zero =>
      intro k hk he
      rw [List.drop_of_length_le (by omega), so_fi] at he
      rw [← he]
      refine xe_s (f := (3, _, _, _)) xt_g336 rfl rfl rfl rfl rfl ?_
      refine xe_s (f := (4, _, _, _)) xt_g336 rfl rfl rfl rfl rfl ?_
      refine xe_mgs xt_g336 rfl (q := 7) rfl (xf_13_461 fm) (by decide) rfl (by omega) ?_
      try simp only [xo_u, xo_w, Nat.reduceEqDiff, reduceIte, false_and, true_and]
      rw [o1]
      refine xe_ic_ge xt_g336 rfl (t := 30) rfl (q := 10) rfl (by first | omega | exact hw.1 _ | exact hw.2 _ _ | exact xb_r _) (by first | omega | exact hw.1 _ | exact hw.2 _ _ | exact xb_r _) (fun h7 => ?_) (fun h7 => ?_)
      · refine xe_s (f := (31, _, xi (-1) :: _, _)) xt_g336 rfl rfl rfl rfl rfl ?_
        refine xe_iret xt_g336 rfl rfl xi_int.1 ?_
        exact ⟨rfl, rfl⟩
      · exact absurd h7 (by omega)
    | succ N ih =>
      intro k hk he
      have hlt : k < (mu_or u).length := by omega
      obtain ⟨K1, K2⟩ := o3 k hlt
      rw [List.drop_eq_getElem_cons hlt, show (mu_or u)[k] = (mu_or u).getD k pa_0 by simp [List.getD, hlt], so_fi] at he
      have K1' : pa_at ar ((90 + k : Nat) : Int) (pa_hd ((mu_or u).getD k pa_0) ++ []) := by rw [List.append_nil]; exact K1
      have hA' := hA
      rw [(pa_tx ho).1] at hA'
      have oo := xv_isOfOrigin fm hmn (h0 := h0) h.1 (a := ((90 + k : Nat) : Int)) (b := (f : Int)) (by omega) (by omega) (pa_at5 K1) (by omega) (by omega) (pa_at5 hA)
      rw [rf_oo (by omega) (by omega) K1' hA' K2 ho (Or.inl rfl) (pa_tx ho).2, show ((90 + k : Nat) : Int) = 90 + (k : Int) by omega] at oo
      refine xe_s (f := (3, _, _, _)) xt_g336 rfl rfl rfl rfl rfl ?_
      refine xe_s (f := (4, _, _, _)) xt_g336 rfl rfl rfl rfl rfl ?_
      refine xe_mgs xt_g336 rfl (q := 7) rfl (xf_13_461 fm) (by decide) rfl (by omega) ?_
      try simp only [xo_u, xo_w, Nat.reduceEqDiff, reduceIte, false_and, true_and]
      rw [o1]
      refine xe_ic_ge xt_g336 rfl (t := 30) rfl (q := 10) rfl (by first | omega | exact hw.1 _ | exact hw.2 _ _ | exact xb_r _) (by first | omega | exact hw.1 _ | exact hw.2 _ _ | exact xb_r _) (fun h7 => ?_) (fun h7 => ?_)
      · exact absurd h7 (by omega)
      · refine xe_s (f := (11, _, _, _)) xt_g336 rfl rfl rfl rfl rfl ?_
        refine xe_bipush xt_g336 rfl (q := 13) rfl (by decide) (by decide) ?_
        refine xe_s (f := (14, _, _, _)) xt_g336 rfl rfl rfl rfl rfl ?_
        refine xe_iadd xt_g336 rfl (q := 15) rfl ?_
        refine xe_s (f := (16, _, _, _)) xt_g336 rfl rfl rfl rfl rfl ?_
        refine xe_cvI xt_g336 rfl (q := 19) rfl xk_13_437 rfl (by omega) xt_g303 (by decide) ⟨Nat.le_of_ble_eq_true rfl, Nat.le_of_ble_eq_true rfl, Nat.le_of_ble_eq_true rfl⟩ (oo) ?_
        refine xe_if_eq xt_g336 rfl (t := 24) rfl (q := 22) rfl (by first | omega | exact hw.1 _ | exact hw.2 _ _ | exact xb_r _) (fun h19 => ?_) (fun h19 => ?_)
        · try simp only [xb_0, xb_1, ne_eq, Decidable.not_not, decide_eq_true_eq, decide_eq_false_iff_not] at h19
          refine xe_iinc xt_g336 rfl (q := 27) rfl rfl (by decide) (L1 := [(2, _), (0, _), (1, _)]) rfl ?_
          refine xe_s (f := (2, _, _, _)) xt_g336 rfl rfl rfl rfl rfl ?_
          rw [if_neg h19] at he
          rw [show ((k : Int) + 1) = ((k + 1 : Nat) : Int) by omega]
          exact ih (k + 1) (by omega) he
        · try simp only [xb_0, xb_1, ne_eq, Decidable.not_not, decide_eq_true_eq, decide_eq_false_iff_not] at h19
          refine xe_s (f := (23, _, _, _)) xt_g336 rfl rfl rfl rfl rfl ?_
          refine xe_iret xt_g336 rfl rfl xi_int.1 ?_
          rw [if_pos h19] at he
          rw [← he]
          exact ⟨rfl, rfl⟩
  refine xe_s (f := (1, _, xi 0 :: _, _)) xt_g336 rfl rfl rfl rfl rfl ?_
  refine xe_s (f := (2, [(2, _), (0, _), (1, _)], _, _)) xt_g336 rfl rfl rfl rfl rfl ?_
  exact loop (mu_or u).length 0 (by omega) rfl
theorem rf_sto (h : rf s ar u) {i : Nat} {v : Int} (hv : xr v) : rf s (xo_w ar 54 i v) (mu_sst u (mu_up (mu_st u) i v)) := by
  obtain ⟨w, B, z6, r0, r1, r2, r3, r4, r5, r6, r7, r8, r9, ra⟩ := h
  have q : xq [] [54] s ar s (xo_w ar 54 i v) := xq_w xq_r (by decide)
  have F : xs_F [] ar (xo_w ar 54 i v) := xs_q q (by decide) (by decide)
  refine ⟨xo_wf_w w hv, xo_B_w B (fun h => absurd h (by decide)), z6, rf_k0 r0 q rfl, rf_k1 r1 q rfl, rf_k2 r2 q rfl, rf_k3 r3 q rfl, rf_k4 r4 q rfl, rf_k5 r5 q F rfl, rf_k6 r6 q F rfl, rf_k7 r7 q F rfl, fun j hj => ?_, rf_k9 r9 q rfl, rf_ka ra q rfl⟩
  show xo_w ar 54 i v 54 j = mu_up (mu_st u) i v j
  by_cases e : j = i
  · subst e
    rw [xo_wS, mu_upS]
  · rw [xo_wI e, mu_upN e]
    exact r8 j hj
theorem xV_store (hmn : xo_in m n) (h : rf s ar u) {f key v : Int} (hfr : xr f) (hkr : xr key) (hvr : xr v) : xV fm 335 m n h0 s ar [.ref m, xi f, xi key, xi v] (fun z s' ar' => z = (mu_store u f key v).1 ∧ s' 0 = xb (!mu_if u f) ∧ rf s' ar' (mu_store u f key v).2) := by
  show xe fm 335 (0, [(0, .ref m), (1, xi f), (2, xi key), (3, xi v)], [], (xo m s ar h0, n, 0, 0)) _
  generalize hR : mu_store u f key v = R
  unfold mu_store at hR
  have e1 := rf_if h (f := f)
  have lk := xv_lacks fm hmn (h0 := h0) (s := s) (ar := ar) (b := mu_if u f) (t := false)
  obtain ⟨hl, hz⟩ := rf_lk0 h (b := mu_if u f)
  generalize (if mu_if u f = true then xo_u s 0 0 else if false = true then xo_u (xo_u s 0 1) 2 0 else xo_u s 0 1) = s1 at *
  refine xe_s (f := (1, _, _, _)) xt_g335 rfl rfl rfl rfl rfl ?_
  refine xe_s (f := (2, _, _, _)) xt_g335 rfl rfl rfl rfl rfl ?_
  refine xe_s (f := (3, _, _, _)) xt_g335 rfl rfl rfl rfl rfl ?_
  refine xe_cvI xt_g335 rfl (q := 6) rfl xk_13_428 rfl (by omega) xt_g298 (by decide) ⟨Nat.le_of_ble_eq_true rfl, Nat.le_of_ble_eq_true rfl, Nat.le_of_ble_eq_true rfl⟩ (xv_isFrame fm hmn h.1 hfr) ?_
  rw [e1]
  refine xe_s (f := (7, _, xi 0 :: _, _)) xt_g335 rfl rfl rfl rfl rfl ?_
  refine xe_cvI xt_g335 rfl (q := 10) rfl xk_13_418 rfl (by omega) xt_g292 (by decide) ⟨Nat.le_of_ble_eq_true rfl, Nat.le_of_ble_eq_true rfl, Nat.le_of_ble_eq_true rfl⟩ (lk) ?_
  refine xe_if_eq xt_g335 rfl (t := 15) rfl (q := 13) rfl (by first | omega | exact hw.1 _ | exact hw.2 _ _ | exact xb_r _) (fun h10 => ?_) (fun h10 => ?_)
  · try simp only [xb_0, xb_1, ne_eq, Decidable.not_not, decide_eq_true_eq, decide_eq_false_iff_not] at h10
    have hb : mu_if u f = true := by simpa using h10
    rw [hb] at hz hR ⊢
    rw [if_pos rfl] at hR
    obtain ⟨F, x, rfl, hF, hx⟩ := mu_if_s hb
    obtain ⟨x1, x2, x3, x4, x5, x6, x7, x8⟩ := rf_f hl hF hx
    have a44 : ar 44 (F : Int).toNat = xb x.2.2.isSome := x7
    have ead : mu_ad u F = x.2.2 := by
      unfold mu_ad
      rw [Int.toNat_natCast, hx]
    cases hxa : x.2.2 with
    | none =>
      rw [hxa] at a44 ead
      rw [ead] at hR
      rw [← hR]
      refine xe_s (f := (16, _, _, _)) xt_g335 rfl rfl rfl rfl rfl ?_
      refine xe_mga xt_g335 rfl (q := 19) rfl (xf_13_90 fm) (by decide) rfl (by omega) ?_
      try simp only [xo_u, xo_w, Nat.reduceEqDiff, reduceIte, false_and, true_and]
      refine xe_s (f := (20, _, _, _)) xt_g335 rfl rfl rfl rfl rfl ?_
      refine xe_mal (ok := xm_isB) (ty := .boolean) xt_g335 rfl (q := 21) rfl (fun _ _ => ⟨rfl, rfl, rfl, rfl⟩) rfl rfl rfl (by omega) (by omega) (by omega) (by omega) ?_
      try simp only [xo_u, xo_w, Nat.reduceEqDiff, reduceIte, false_and, true_and]
      rw [a44]
      refine xe_if_eq xt_g335 rfl (t := 34) rfl (q := 24) rfl (by first | omega | exact hw.1 _ | exact hw.2 _ _ | exact xb_r _) (fun h21 => ?_) (fun h21 => ?_)
      · try simp only [xb_0, xb_1, ne_eq, Decidable.not_not, decide_eq_true_eq, decide_eq_false_iff_not] at h21
        refine xe_s (f := (35, _, xi 0 :: _, _)) xt_g335 rfl rfl rfl rfl rfl ?_
        refine xe_iret xt_g335 rfl rfl (xi_bool (by first | omega | exact xb_or _)).1 ?_
        exact ⟨_, _, _, rfl, rfl, rfl, hz, hl⟩
      · exact absurd rfl h21
    | some a =>
      rw [hxa] at a44 ead
      rw [ead] at hR
      dsimp only at hR
      obtain ⟨A1, A2⟩ := x8 a hxa
      have sr := so_fi_r (hd := pa_hd a) (mu_or u) 0
      have r7 := hl.2.2.2.2.2.2.2.2.2.2.1
      have o1 := r7.1
      have o2 := r7.2.1
      refine xe_s (f := (16, _, _, _)) xt_g335 rfl rfl rfl rfl rfl ?_
      refine xe_mga xt_g335 rfl (q := 19) rfl (xf_13_90 fm) (by decide) rfl (by omega) ?_
      try simp only [xo_u, xo_w, Nat.reduceEqDiff, reduceIte, false_and, true_and]
      refine xe_s (f := (20, _, _, _)) xt_g335 rfl rfl rfl rfl rfl ?_
      refine xe_mal (ok := xm_isB) (ty := .boolean) xt_g335 rfl (q := 21) rfl (fun _ _ => ⟨rfl, rfl, rfl, rfl⟩) rfl rfl rfl (by omega) (by omega) (by omega) (by omega) ?_
      try simp only [xo_u, xo_w, Nat.reduceEqDiff, reduceIte, false_and, true_and]
      rw [a44]
      refine xe_if_eq xt_g335 rfl (t := 34) rfl (q := 24) rfl (by first | omega | exact hw.1 _ | exact hw.2 _ _ | exact xb_r _) (fun h21 => ?_) (fun h21 => ?_)
      · exact absurd h21 (show ¬ xb true = 0 by decide)
      · try simp only [xb_0, xb_1, ne_eq, Decidable.not_not, decide_eq_true_eq, decide_eq_false_iff_not] at h21
        refine xe_s (f := (25, _, _, _)) xt_g335 rfl rfl rfl rfl rfl ?_
        refine xe_if_lt xt_g335 rfl (t := 34) rfl (q := 28) rfl (by first | omega | exact hw.1 _ | exact hw.2 _ _ | exact xb_r _) (fun h25 => ?_) (fun h25 => ?_)
        · try simp only [xb_0, xb_1, ne_eq, Decidable.not_not, decide_eq_true_eq, decide_eq_false_iff_not] at h25
          refine xe_s (f := (35, _, xi 0 :: _, _)) xt_g335 rfl rfl rfl rfl rfl ?_
          refine xe_iret xt_g335 rfl rfl (xi_bool (by first | omega | exact xb_or _)).1 ?_
          rw [if_pos (by omega)] at hR
          rw [← hR]
          exact ⟨_, _, _, rfl, rfl, rfl, hz, hl⟩
        · try simp only [xb_0, xb_1, ne_eq, Decidable.not_not, decide_eq_true_eq, decide_eq_false_iff_not] at h25
          refine xe_s (f := (29, _, _, _)) xt_g335 rfl rfl rfl rfl rfl ?_
          refine xe_bipush xt_g335 rfl (q := 31) rfl (by decide) (by decide) ?_
          refine xe_ic_le xt_g335 rfl (t := 36) rfl (q := 34) rfl (by first | omega | exact hw.1 _ | exact hw.2 _ _ | exact xb_r _) (by first | omega | exact hw.1 _ | exact hw.2 _ _ | exact xb_r _) (fun h31 => ?_) (fun h31 => ?_)
          · refine xe_s (f := (37, _, _, _)) xt_g335 rfl rfl rfl rfl rfl ?_
            refine xe_s (f := (38, _, _, _)) xt_g335 rfl rfl rfl rfl rfl ?_
            refine xe_cvI xt_g335 rfl (q := 41) rfl xk_13_464 rfl (by omega) xt_g336 (by decide) ⟨Nat.le_of_ble_eq_true rfl, Nat.le_of_ble_eq_true rfl, Nat.le_of_ble_eq_true rfl⟩ (xv_storageOf fm hmn hl hF A1 A2) ?_
            refine xe_s (f := (43, [(4, _), (0, _), (1, _), (2, _), (3, _)], _, _)) xt_g335 rfl rfl rfl rfl rfl ?_
            refine xe_s (f := (45, _, _, _)) xt_g335 rfl rfl rfl rfl rfl ?_
            refine xe_if_ge xt_g335 rfl (t := 59) rfl (q := 48) rfl (by first | omega | exact hw.1 _ | exact hw.2 _ _ | exact xb_r _) (fun h45 => ?_) (fun h45 => ?_)
            · try simp only [xb_0, xb_1, ne_eq, Decidable.not_not, decide_eq_true_eq, decide_eq_false_iff_not] at h45
              refine xe_s (f := (61, _, _, _)) xt_g335 rfl rfl rfl rfl rfl ?_
              refine xe_if_ge xt_g335 rfl (t := 95) rfl (q := 64) rfl (by first | omega | exact hw.1 _ | exact hw.2 _ _ | exact xb_r _) (fun h61 => ?_) (fun h61 => ?_)
              · try simp only [xb_0, xb_1, ne_eq, Decidable.not_not, decide_eq_true_eq, decide_eq_false_iff_not] at h61
                rw [if_neg (by omega), if_neg (by omega)] at hR
                rw [← hR]
                have h5 := rf_sto hl (i := (8 * so_fi (pa_hd a) (mu_or u) 0 + key).toNat) (v := v) hvr
                refine xe_s (f := (96, _, _, _)) xt_g335 rfl rfl rfl rfl rfl ?_
                refine xe_mga xt_g335 rfl (q := 99) rfl (xf_13_117 fm) (by decide) rfl (by omega) ?_
                try simp only [xo_u, xo_w, Nat.reduceEqDiff, reduceIte, false_and, true_and]
                refine xe_bipush xt_g335 rfl (q := 101) rfl (by decide) (by decide) ?_
                refine xe_s (f := (103, _, _, _)) xt_g335 rfl rfl rfl rfl rfl ?_
                refine xe_imul xt_g335 rfl (q := 104) rfl ?_
                refine xe_s (f := (105, _, _, _)) xt_g335 rfl rfl rfl rfl rfl ?_
                refine xe_iadd xt_g335 rfl (q := 106) rfl ?_
                refine xe_s (f := (107, _, _, _)) xt_g335 rfl rfl rfl rfl rfl ?_
                refine xe_mas (ok := xm_isN) (ty := .int) xt_g335 rfl (q := 108) rfl (fun _ _ => ⟨rfl, rfl, rfl, rfl⟩) rfl rfl rfl (by omega) (by omega) (by omega) (by omega) (by omega) rfl ?_
                refine xe_s (f := (109, _, xi 1 :: _, _)) xt_g335 rfl rfl rfl rfl rfl ?_
                refine xe_iret xt_g335 rfl rfl (xi_bool (by first | omega | exact xb_or _)).1 ?_
                exact ⟨_, _, _, rfl, rfl, rfl, hz, h5⟩
              · try simp only [xb_0, xb_1, ne_eq, Decidable.not_not, decide_eq_true_eq, decide_eq_false_iff_not] at h61
                rw [if_neg (by omega), if_pos (by omega)] at hR
                rw [← hR]
                have A1' := A1
                rw [(pa_tx A2).1] at A1'
                have w5 : xo_wf (xo_u s1 53 ((mu_or u).length + 1)) ar := xo_wf_u hl.1 (by omega)
                have oe := xv_originEnd fm hmn (h0 := h0) (s := xo_u s1 53 ((mu_or u).length + 1)) (ar := ar) w5 (a := (F : Int)) (by omega) (by omega) (pa_at5 A1)
                rw [pa_oe A1' (by omega) A2 (pa_tx A2).2] at oe
                have ct := xU_copyText fm hmn (h0 := h0) (s := xo_u s1 53 ((mu_or u).length + 1)) (ar := ar) w5 (a := F) (b := 90 + (mu_or u).length) (e := (pa_hd a).length) (l := pa_hd a) (l' := a.2.2.2.1 ++ a.2.2.2.2) (by omega) (by omega) (by omega) A1' rfl
                rw [show ((90 + (mu_or u).length : Nat) : Int) = 90 + ((mu_or u).length : Int) by omega] at ct
                refine xe_s (f := (65, _, _, _)) xt_g335 rfl rfl rfl rfl rfl ?_
                refine xe_mgs xt_g335 rfl (q := 68) rfl (xf_13_461 fm) (by decide) rfl (by omega) ?_
                try simp only [xo_u, xo_w, Nat.reduceEqDiff, reduceIte, false_and, true_and]
                rw [o1]
                refine xe_s (f := (70, [(4, _), (0, _), (1, _), (2, _), (3, _)], _, _)) xt_g335 rfl rfl rfl rfl rfl ?_
                refine xe_s (f := (71, _, _, _)) xt_g335 rfl rfl rfl rfl rfl ?_
                refine xe_s (f := (72, _, _, _)) xt_g335 rfl rfl rfl rfl rfl ?_
                refine xe_mgs xt_g335 rfl (q := 75) rfl (xf_13_461 fm) (by decide) rfl (by omega) ?_
                try simp only [xo_u, xo_w, Nat.reduceEqDiff, reduceIte, false_and, true_and]
                rw [o1]
                refine xe_s (f := (76, _, xi 1 :: _, _)) xt_g335 rfl rfl rfl rfl rfl ?_
                refine xe_iadd xt_g335 rfl (q := 77) rfl ?_
                refine xe_mps xt_g335 rfl (q := 80) rfl (xf_13_461 fm) (by decide) rfl (by omega) (by omega) xi_int (Or.inl rfl) ?_
                refine xe_s (f := (81, _, _, _)) xt_g335 rfl rfl rfl rfl rfl ?_
                refine xe_s (f := (82, _, _, _)) xt_g335 rfl rfl rfl rfl rfl ?_
                refine xe_bipush xt_g335 rfl (q := 84) rfl (by decide) (by decide) ?_
                refine xe_s (f := (86, _, _, _)) xt_g335 rfl rfl rfl rfl rfl ?_
                refine xe_iadd xt_g335 rfl (q := 87) rfl ?_
                refine xe_s (f := (88, _, _, _)) xt_g335 rfl rfl rfl rfl rfl ?_
                refine xe_s (f := (89, _, _, _)) xt_g335 rfl rfl rfl rfl rfl ?_
                refine xe_cvI xt_g335 rfl (q := 92) rfl xk_13_182 rfl (by omega) xt_g271 (by decide) ⟨Nat.le_of_ble_eq_true rfl, Nat.le_of_ble_eq_true rfl, Nat.le_of_ble_eq_true rfl⟩ (oe) ?_
                refine xe_chV xt_g335 rfl (q := 95) rfl xk_13_386 rfl (by omega) xt_g282 (by decide) ⟨Nat.le_of_ble_eq_true rfl, Nat.le_of_ble_eq_true rfl, Nat.le_of_ble_eq_true rfl⟩ (ct) (fun s6 ar6 hp6 => ?_)
                obtain ⟨es, w6, q6, F6, A6⟩ := hp6
                subst es
                have h6 : rf (xo_u s1 53 ((mu_or u).length + 1)) ar6 (mu_sor u (mu_or u ++ [a])) := by
                  obtain ⟨w, B, z6, r0, r1, r2, r3, r4, r5, r6, r7, r8, r9, ra⟩ := hl
                  have q7 : xq [53] [4, 5] s1 ar (xo_u s1 53 ((mu_or u).length + 1)) ar6 := xq_t (xq_u xq_r (by decide)) (xq_mm q6 (by decide) (by decide))
                  refine ⟨w6, xo_B_q B q7 (by decide), z6, rf_k0 r0 q7 rfl, rf_k1 r1 q7 rfl, rf_k2 r2 q7 rfl, rf_k3 r3 q7 rfl, rf_k4 r4 q7 rfl, ?_, ?_, ?_, rf_k8 r8 q7 rfl, rf_k9 r9 q7 rfl, rf_ka ra q7 rfl⟩
                  · intro g hg
                    exact ⟨rf_f1_k (r5 g hg).1 hg (by rw [q7.2 42 (by decide)]) (by rw [q7.2 43 (by decide)]) (by rw [q7.2 44 (by decide)]) F6 (by rw [List.mem_singleton]; omega), by rw [q7.2 45 (by decide)]; exact (r5 g hg).2⟩
                  · intro r' hr'
                    refine rf_q1_k (r6 r' hr') hr' (fun k h1 h2 => by rw [q7.2 k (by simp; omega)]) F6 ?_
                    simp only [List.mem_singleton]
                    omega
                  · show rf_or _ _ (mu_or u ++ [a])
                    refine ⟨?_, ?_, fun k hk => ?_⟩
                    · rw [xo_uS, List.length_append]
                      simp
                    · rw [List.length_append]
                      simp
                      omega
                    · rw [List.length_append, List.length_singleton] at hk
                      by_cases hkl : k < (mu_or u).length
                      · rw [show (mu_or u ++ [a]).getD k pa_0 = (mu_or u).getD k pa_0 by simp [List.getD, List.getElem?_append_left hkl]]
                        exact ⟨pa_at_F (r7.2.2 k hkl).1 F6 (by omega) (by rw [List.mem_singleton]; omega), (r7.2.2 k hkl).2⟩
                      · have hke : k = (mu_or u).length := by omega
                        subst hke
                        rw [show (mu_or u ++ [a]).getD (mu_or u).length pa_0 = a by simp, show ((90 + (mu_or u).length : Nat) : Int) = 90 + ((mu_or u).length : Int) by omega]
                        exact ⟨A6, A2⟩
                have h7 := rf_sto h6 (i := (8 * ((mu_or u).length : Int) + key).toNat) (v := v) hvr
                refine xe_s (f := (96, _, _, _)) xt_g335 rfl rfl rfl rfl rfl ?_
                refine xe_mga xt_g335 rfl (q := 99) rfl (xf_13_117 fm) (by decide) rfl (by omega) ?_
                try simp only [xo_u, xo_w, Nat.reduceEqDiff, reduceIte, false_and, true_and]
                refine xe_bipush xt_g335 rfl (q := 101) rfl (by decide) (by decide) ?_
                refine xe_s (f := (103, _, _, _)) xt_g335 rfl rfl rfl rfl rfl ?_
                refine xe_imul xt_g335 rfl (q := 104) rfl ?_
                refine xe_s (f := (105, _, _, _)) xt_g335 rfl rfl rfl rfl rfl ?_
                refine xe_iadd xt_g335 rfl (q := 106) rfl ?_
                refine xe_s (f := (107, _, _, _)) xt_g335 rfl rfl rfl rfl rfl ?_
                refine xe_mas (ok := xm_isN) (ty := .int) xt_g335 rfl (q := 108) rfl (fun _ _ => ⟨rfl, rfl, rfl, rfl⟩) rfl rfl rfl (by omega) (by omega) (by omega) (by omega) (by omega) rfl ?_
                refine xe_s (f := (109, _, xi 1 :: _, _)) xt_g335 rfl rfl rfl rfl rfl ?_
                refine xe_iret xt_g335 rfl rfl (xi_bool (by first | omega | exact xb_or _)).1 ?_
                exact ⟨_, _, _, rfl, rfl, rfl, hz, h7⟩
            · try simp only [xb_0, xb_1, ne_eq, Decidable.not_not, decide_eq_true_eq, decide_eq_false_iff_not] at h45
              refine xe_s (f := (49, _, _, _)) xt_g335 rfl rfl rfl rfl rfl ?_
              refine xe_mgs xt_g335 rfl (q := 52) rfl (xf_13_461 fm) (by decide) rfl (by omega) ?_
              try simp only [xo_u, xo_w, Nat.reduceEqDiff, reduceIte, false_and, true_and]
              rw [o1]
              refine xe_bipush xt_g335 rfl (q := 54) rfl (by decide) (by decide) ?_
              refine xe_ic_ne xt_g335 rfl (t := 59) rfl (q := 57) rfl (by first | omega | exact hw.1 _ | exact hw.2 _ _ | exact xb_r _) (by first | omega | exact hw.1 _ | exact hw.2 _ _ | exact xb_r _) (fun h54 => ?_) (fun h54 => ?_)
              · refine xe_s (f := (61, _, _, _)) xt_g335 rfl rfl rfl rfl rfl ?_
                refine xe_if_ge xt_g335 rfl (t := 95) rfl (q := 64) rfl (by first | omega | exact hw.1 _ | exact hw.2 _ _ | exact xb_r _) (fun h61 => ?_) (fun h61 => ?_)
                · try simp only [xb_0, xb_1, ne_eq, Decidable.not_not, decide_eq_true_eq, decide_eq_false_iff_not] at h61
                  rw [if_neg (by omega), if_neg (by omega)] at hR
                  rw [← hR]
                  have h5 := rf_sto hl (i := (8 * so_fi (pa_hd a) (mu_or u) 0 + key).toNat) (v := v) hvr
                  refine xe_s (f := (96, _, _, _)) xt_g335 rfl rfl rfl rfl rfl ?_
                  refine xe_mga xt_g335 rfl (q := 99) rfl (xf_13_117 fm) (by decide) rfl (by omega) ?_
                  try simp only [xo_u, xo_w, Nat.reduceEqDiff, reduceIte, false_and, true_and]
                  refine xe_bipush xt_g335 rfl (q := 101) rfl (by decide) (by decide) ?_
                  refine xe_s (f := (103, _, _, _)) xt_g335 rfl rfl rfl rfl rfl ?_
                  refine xe_imul xt_g335 rfl (q := 104) rfl ?_
                  refine xe_s (f := (105, _, _, _)) xt_g335 rfl rfl rfl rfl rfl ?_
                  refine xe_iadd xt_g335 rfl (q := 106) rfl ?_
                  refine xe_s (f := (107, _, _, _)) xt_g335 rfl rfl rfl rfl rfl ?_
                  refine xe_mas (ok := xm_isN) (ty := .int) xt_g335 rfl (q := 108) rfl (fun _ _ => ⟨rfl, rfl, rfl, rfl⟩) rfl rfl rfl (by omega) (by omega) (by omega) (by omega) (by omega) rfl ?_
                  refine xe_s (f := (109, _, xi 1 :: _, _)) xt_g335 rfl rfl rfl rfl rfl ?_
                  refine xe_iret xt_g335 rfl rfl (xi_bool (by first | omega | exact xb_or _)).1 ?_
                  exact ⟨_, _, _, rfl, rfl, rfl, hz, h5⟩
                · try simp only [xb_0, xb_1, ne_eq, Decidable.not_not, decide_eq_true_eq, decide_eq_false_iff_not] at h61
                  rw [if_neg (by omega), if_pos (by omega)] at hR
                  rw [← hR]
                  have A1' := A1
                  rw [(pa_tx A2).1] at A1'
                  have w5 : xo_wf (xo_u s1 53 ((mu_or u).length + 1)) ar := xo_wf_u hl.1 (by omega)
                  have oe := xv_originEnd fm hmn (h0 := h0) (s := xo_u s1 53 ((mu_or u).length + 1)) (ar := ar) w5 (a := (F : Int)) (by omega) (by omega) (pa_at5 A1)
                  rw [pa_oe A1' (by omega) A2 (pa_tx A2).2] at oe
                  have ct := xU_copyText fm hmn (h0 := h0) (s := xo_u s1 53 ((mu_or u).length + 1)) (ar := ar) w5 (a := F) (b := 90 + (mu_or u).length) (e := (pa_hd a).length) (l := pa_hd a) (l' := a.2.2.2.1 ++ a.2.2.2.2) (by omega) (by omega) (by omega) A1' rfl
                  rw [show ((90 + (mu_or u).length : Nat) : Int) = 90 + ((mu_or u).length : Int) by omega] at ct
                  refine xe_s (f := (65, _, _, _)) xt_g335 rfl rfl rfl rfl rfl ?_
                  refine xe_mgs xt_g335 rfl (q := 68) rfl (xf_13_461 fm) (by decide) rfl (by omega) ?_
                  try simp only [xo_u, xo_w, Nat.reduceEqDiff, reduceIte, false_and, true_and]
                  rw [o1]
                  refine xe_s (f := (70, [(4, _), (0, _), (1, _), (2, _), (3, _)], _, _)) xt_g335 rfl rfl rfl rfl rfl ?_
                  refine xe_s (f := (71, _, _, _)) xt_g335 rfl rfl rfl rfl rfl ?_
                  refine xe_s (f := (72, _, _, _)) xt_g335 rfl rfl rfl rfl rfl ?_
                  refine xe_mgs xt_g335 rfl (q := 75) rfl (xf_13_461 fm) (by decide) rfl (by omega) ?_
                  try simp only [xo_u, xo_w, Nat.reduceEqDiff, reduceIte, false_and, true_and]
                  rw [o1]
                  refine xe_s (f := (76, _, xi 1 :: _, _)) xt_g335 rfl rfl rfl rfl rfl ?_
                  refine xe_iadd xt_g335 rfl (q := 77) rfl ?_
                  refine xe_mps xt_g335 rfl (q := 80) rfl (xf_13_461 fm) (by decide) rfl (by omega) (by omega) xi_int (Or.inl rfl) ?_
                  refine xe_s (f := (81, _, _, _)) xt_g335 rfl rfl rfl rfl rfl ?_
                  refine xe_s (f := (82, _, _, _)) xt_g335 rfl rfl rfl rfl rfl ?_
                  refine xe_bipush xt_g335 rfl (q := 84) rfl (by decide) (by decide) ?_
                  refine xe_s (f := (86, _, _, _)) xt_g335 rfl rfl rfl rfl rfl ?_
                  refine xe_iadd xt_g335 rfl (q := 87) rfl ?_
                  refine xe_s (f := (88, _, _, _)) xt_g335 rfl rfl rfl rfl rfl ?_
                  refine xe_s (f := (89, _, _, _)) xt_g335 rfl rfl rfl rfl rfl ?_
                  refine xe_cvI xt_g335 rfl (q := 92) rfl xk_13_182 rfl (by omega) xt_g271 (by decide) ⟨Nat.le_of_ble_eq_true rfl, Nat.le_of_ble_eq_true rfl, Nat.le_of_ble_eq_true rfl⟩ (oe) ?_
                  refine xe_chV xt_g335 rfl (q := 95) rfl xk_13_386 rfl (by omega) xt_g282 (by decide) ⟨Nat.le_of_ble_eq_true rfl, Nat.le_of_ble_eq_true rfl, Nat.le_of_ble_eq_true rfl⟩ (ct) (fun s6 ar6 hp6 => ?_)
                  obtain ⟨es, w6, q6, F6, A6⟩ := hp6
                  subst es
                  have h6 : rf (xo_u s1 53 ((mu_or u).length + 1)) ar6 (mu_sor u (mu_or u ++ [a])) := by
                    obtain ⟨w, B, z6, r0, r1, r2, r3, r4, r5, r6, r7, r8, r9, ra⟩ := hl
                    have q7 : xq [53] [4, 5] s1 ar (xo_u s1 53 ((mu_or u).length + 1)) ar6 := xq_t (xq_u xq_r (by decide)) (xq_mm q6 (by decide) (by decide))
                    refine ⟨w6, xo_B_q B q7 (by decide), z6, rf_k0 r0 q7 rfl, rf_k1 r1 q7 rfl, rf_k2 r2 q7 rfl, rf_k3 r3 q7 rfl, rf_k4 r4 q7 rfl, ?_, ?_, ?_, rf_k8 r8 q7 rfl, rf_k9 r9 q7 rfl, rf_ka ra q7 rfl⟩
                    · intro g hg
                      exact ⟨rf_f1_k (r5 g hg).1 hg (by rw [q7.2 42 (by decide)]) (by rw [q7.2 43 (by decide)]) (by rw [q7.2 44 (by decide)]) F6 (by rw [List.mem_singleton]; omega), by rw [q7.2 45 (by decide)]; exact (r5 g hg).2⟩
                    · intro r' hr'
                      refine rf_q1_k (r6 r' hr') hr' (fun k h1 h2 => by rw [q7.2 k (by simp; omega)]) F6 ?_
                      simp only [List.mem_singleton]
                      omega
                    · show rf_or _ _ (mu_or u ++ [a])
                      refine ⟨?_, ?_, fun k hk => ?_⟩
                      · rw [xo_uS, List.length_append]
                        simp
                      · rw [List.length_append]
                        simp
                        omega
                      · rw [List.length_append, List.length_singleton] at hk
                        by_cases hkl : k < (mu_or u).length
                        · rw [show (mu_or u ++ [a]).getD k pa_0 = (mu_or u).getD k pa_0 by simp [List.getD, List.getElem?_append_left hkl]]
                          exact ⟨pa_at_F (r7.2.2 k hkl).1 F6 (by omega) (by rw [List.mem_singleton]; omega), (r7.2.2 k hkl).2⟩
                        · have hke : k = (mu_or u).length := by omega
                          subst hke
                          rw [show (mu_or u ++ [a]).getD (mu_or u).length pa_0 = a by simp, show ((90 + (mu_or u).length : Nat) : Int) = 90 + ((mu_or u).length : Int) by omega]
                          exact ⟨A6, A2⟩
                  have h7 := rf_sto h6 (i := (8 * ((mu_or u).length : Int) + key).toNat) (v := v) hvr
                  refine xe_s (f := (96, _, _, _)) xt_g335 rfl rfl rfl rfl rfl ?_
                  refine xe_mga xt_g335 rfl (q := 99) rfl (xf_13_117 fm) (by decide) rfl (by omega) ?_
                  try simp only [xo_u, xo_w, Nat.reduceEqDiff, reduceIte, false_and, true_and]
                  refine xe_bipush xt_g335 rfl (q := 101) rfl (by decide) (by decide) ?_
                  refine xe_s (f := (103, _, _, _)) xt_g335 rfl rfl rfl rfl rfl ?_
                  refine xe_imul xt_g335 rfl (q := 104) rfl ?_
                  refine xe_s (f := (105, _, _, _)) xt_g335 rfl rfl rfl rfl rfl ?_
                  refine xe_iadd xt_g335 rfl (q := 106) rfl ?_
                  refine xe_s (f := (107, _, _, _)) xt_g335 rfl rfl rfl rfl rfl ?_
                  refine xe_mas (ok := xm_isN) (ty := .int) xt_g335 rfl (q := 108) rfl (fun _ _ => ⟨rfl, rfl, rfl, rfl⟩) rfl rfl rfl (by omega) (by omega) (by omega) (by omega) (by omega) rfl ?_
                  refine xe_s (f := (109, _, xi 1 :: _, _)) xt_g335 rfl rfl rfl rfl rfl ?_
                  refine xe_iret xt_g335 rfl rfl (xi_bool (by first | omega | exact xb_or _)).1 ?_
                  exact ⟨_, _, _, rfl, rfl, rfl, hz, h7⟩
              · refine xe_s (f := (58, _, xi 0 :: _, _)) xt_g335 rfl rfl rfl rfl rfl ?_
                refine xe_iret xt_g335 rfl rfl (xi_bool (by first | omega | exact xb_or _)).1 ?_
                rw [if_pos (by omega)] at hR
                rw [← hR]
                exact ⟨_, _, _, rfl, rfl, rfl, hz, hl⟩
          · refine xe_s (f := (35, _, xi 0 :: _, _)) xt_g335 rfl rfl rfl rfl rfl ?_
            refine xe_iret xt_g335 rfl rfl (xi_bool (by first | omega | exact xb_or _)).1 ?_
            rw [if_pos (by omega)] at hR
            rw [← hR]
            exact ⟨_, _, _, rfl, rfl, rfl, hz, hl⟩
  · try simp only [xb_0, xb_1, ne_eq, Decidable.not_not, decide_eq_true_eq, decide_eq_false_iff_not] at h10
    have hb : mu_if u f = false := by simpa using h10
    rw [hb] at hz hR ⊢
    rw [if_neg (by decide)] at hR
    rw [← hR]
    refine xe_s (f := (14, _, xi 0 :: _, _)) xt_g335 rfl rfl rfl rfl rfl ?_
    refine xe_iret xt_g335 rfl rfl (xi_bool (by first | omega | exact xb_or _)).1 ?_
    exact ⟨_, _, _, rfl, rfl, rfl, hz, hl⟩
theorem xV_stored (hmn : xo_in m n) (h : rf s ar u) {f key : Int} (hfr : xr f) (hkr : xr key) : xV fm 337 m n h0 s ar [.ref m, xi f, xi key] (fun z s' ar' => z = mu_stored u f key ∧ s' 0 = xb (!mu_if u f) ∧ rf s' ar' u) := by
  show xe fm 337 (0, [(0, .ref m), (1, xi f), (2, xi key)], [], (xo m s ar h0, n, 0, 0)) _
  generalize hR : mu_stored u f key = R
  unfold mu_stored at hR
  have e1 := rf_if h (f := f)
  have lk := xv_lacks fm hmn (h0 := h0) (s := s) (ar := ar) (b := mu_if u f) (t := false)
  obtain ⟨hl, hz⟩ := rf_lk0 h (b := mu_if u f)
  generalize (if mu_if u f = true then xo_u s 0 0 else if false = true then xo_u (xo_u s 0 1) 2 0 else xo_u s 0 1) = s1 at *
  refine xe_s (f := (1, _, _, _)) xt_g337 rfl rfl rfl rfl rfl ?_
  refine xe_s (f := (2, _, _, _)) xt_g337 rfl rfl rfl rfl rfl ?_
  refine xe_s (f := (3, _, _, _)) xt_g337 rfl rfl rfl rfl rfl ?_
  refine xe_cvI xt_g337 rfl (q := 6) rfl xk_13_428 rfl (by omega) xt_g298 (by decide) ⟨Nat.le_of_ble_eq_true rfl, Nat.le_of_ble_eq_true rfl, Nat.le_of_ble_eq_true rfl⟩ (xv_isFrame fm hmn h.1 hfr) ?_
  rw [e1]
  refine xe_s (f := (7, _, xi 0 :: _, _)) xt_g337 rfl rfl rfl rfl rfl ?_
  refine xe_cvI xt_g337 rfl (q := 10) rfl xk_13_418 rfl (by omega) xt_g292 (by decide) ⟨Nat.le_of_ble_eq_true rfl, Nat.le_of_ble_eq_true rfl, Nat.le_of_ble_eq_true rfl⟩ (lk) ?_
  refine xe_if_eq xt_g337 rfl (t := 15) rfl (q := 13) rfl (by first | omega | exact hw.1 _ | exact hw.2 _ _ | exact xb_r _) (fun h10 => ?_) (fun h10 => ?_)
  · try simp only [xb_0, xb_1, ne_eq, Decidable.not_not, decide_eq_true_eq, decide_eq_false_iff_not] at h10
    have hb : mu_if u f = true := by simpa using h10
    rw [hb] at hz hR ⊢
    rw [if_pos rfl] at hR
    obtain ⟨F, x, rfl, hF, hx⟩ := mu_if_s hb
    obtain ⟨x1, x2, x3, x4, x5, x6, x7, x8⟩ := rf_f hl hF hx
    have a44 : ar 44 (F : Int).toNat = xb x.2.2.isSome := x7
    have ead : mu_ad u F = x.2.2 := by
      unfold mu_ad
      rw [Int.toNat_natCast, hx]
    cases hxa : x.2.2 with
    | none =>
      rw [hxa] at a44 ead
      rw [ead] at hR
      rw [← hR]
      refine xe_s (f := (16, _, _, _)) xt_g337 rfl rfl rfl rfl rfl ?_
      refine xe_mga xt_g337 rfl (q := 19) rfl (xf_13_90 fm) (by decide) rfl (by omega) ?_
      try simp only [xo_u, xo_w, Nat.reduceEqDiff, reduceIte, false_and, true_and]
      refine xe_s (f := (20, _, _, _)) xt_g337 rfl rfl rfl rfl rfl ?_
      refine xe_mal (ok := xm_isB) (ty := .boolean) xt_g337 rfl (q := 21) rfl (fun _ _ => ⟨rfl, rfl, rfl, rfl⟩) rfl rfl rfl (by omega) (by omega) (by omega) (by omega) ?_
      try simp only [xo_u, xo_w, Nat.reduceEqDiff, reduceIte, false_and, true_and]
      rw [a44]
      refine xe_if_eq xt_g337 rfl (t := 42) rfl (q := 24) rfl (by first | omega | exact hw.1 _ | exact hw.2 _ _ | exact xb_r _) (fun h21 => ?_) (fun h21 => ?_)
      · try simp only [xb_0, xb_1, ne_eq, Decidable.not_not, decide_eq_true_eq, decide_eq_false_iff_not] at h21
        refine xe_s (f := (43, _, xi 0 :: _, _)) xt_g337 rfl rfl rfl rfl rfl ?_
        refine xe_iret xt_g337 rfl rfl xi_int.1 ?_
        exact ⟨_, _, _, rfl, rfl, rfl, hz, hl⟩
      · exact absurd rfl h21
    | some a =>
      rw [hxa] at a44 ead
      rw [ead] at hR
      dsimp only at hR
      obtain ⟨A1, A2⟩ := x8 a hxa
      have sr := so_fi_r (hd := pa_hd a) (mu_or u) 0
      have o2 := hl.2.2.2.2.2.2.2.2.2.2.1.2.1
      have r8 := hl.2.2.2.2.2.2.2.2.2.2.2.1
      refine xe_s (f := (16, _, _, _)) xt_g337 rfl rfl rfl rfl rfl ?_
      refine xe_mga xt_g337 rfl (q := 19) rfl (xf_13_90 fm) (by decide) rfl (by omega) ?_
      try simp only [xo_u, xo_w, Nat.reduceEqDiff, reduceIte, false_and, true_and]
      refine xe_s (f := (20, _, _, _)) xt_g337 rfl rfl rfl rfl rfl ?_
      refine xe_mal (ok := xm_isB) (ty := .boolean) xt_g337 rfl (q := 21) rfl (fun _ _ => ⟨rfl, rfl, rfl, rfl⟩) rfl rfl rfl (by omega) (by omega) (by omega) (by omega) ?_
      try simp only [xo_u, xo_w, Nat.reduceEqDiff, reduceIte, false_and, true_and]
      rw [a44]
      refine xe_if_eq xt_g337 rfl (t := 42) rfl (q := 24) rfl (by first | omega | exact hw.1 _ | exact hw.2 _ _ | exact xb_r _) (fun h21 => ?_) (fun h21 => ?_)
      · exact absurd h21 (show ¬ xb true = 0 by decide)
      · try simp only [xb_0, xb_1, ne_eq, Decidable.not_not, decide_eq_true_eq, decide_eq_false_iff_not] at h21
        refine xe_s (f := (25, _, _, _)) xt_g337 rfl rfl rfl rfl rfl ?_
        refine xe_if_lt xt_g337 rfl (t := 42) rfl (q := 28) rfl (by first | omega | exact hw.1 _ | exact hw.2 _ _ | exact xb_r _) (fun h25 => ?_) (fun h25 => ?_)
        · try simp only [xb_0, xb_1, ne_eq, Decidable.not_not, decide_eq_true_eq, decide_eq_false_iff_not] at h25
          refine xe_s (f := (43, _, xi 0 :: _, _)) xt_g337 rfl rfl rfl rfl rfl ?_
          refine xe_iret xt_g337 rfl rfl xi_int.1 ?_
          rw [if_pos (by omega)] at hR
          rw [← hR]
          exact ⟨_, _, _, rfl, rfl, rfl, hz, hl⟩
        · try simp only [xb_0, xb_1, ne_eq, Decidable.not_not, decide_eq_true_eq, decide_eq_false_iff_not] at h25
          refine xe_s (f := (29, _, _, _)) xt_g337 rfl rfl rfl rfl rfl ?_
          refine xe_bipush xt_g337 rfl (q := 31) rfl (by decide) (by decide) ?_
          refine xe_ic_gt xt_g337 rfl (t := 42) rfl (q := 34) rfl (by first | omega | exact hw.1 _ | exact hw.2 _ _ | exact xb_r _) (by first | omega | exact hw.1 _ | exact hw.2 _ _ | exact xb_r _) (fun h31 => ?_) (fun h31 => ?_)
          · refine xe_s (f := (43, _, xi 0 :: _, _)) xt_g337 rfl rfl rfl rfl rfl ?_
            refine xe_iret xt_g337 rfl rfl xi_int.1 ?_
            rw [if_pos (by omega)] at hR
            rw [← hR]
            exact ⟨_, _, _, rfl, rfl, rfl, hz, hl⟩
          · refine xe_s (f := (35, _, _, _)) xt_g337 rfl rfl rfl rfl rfl ?_
            refine xe_s (f := (36, _, _, _)) xt_g337 rfl rfl rfl rfl rfl ?_
            refine xe_cvI xt_g337 rfl (q := 39) rfl xk_13_464 rfl (by omega) xt_g336 (by decide) ⟨Nat.le_of_ble_eq_true rfl, Nat.le_of_ble_eq_true rfl, Nat.le_of_ble_eq_true rfl⟩ (xv_storageOf fm hmn hl hF A1 A2) ?_
            refine xe_if_ge xt_g337 rfl (t := 44) rfl (q := 42) rfl (by first | omega | exact hw.1 _ | exact hw.2 _ _ | exact xb_r _) (fun h39 => ?_) (fun h39 => ?_)
            · try simp only [xb_0, xb_1, ne_eq, Decidable.not_not, decide_eq_true_eq, decide_eq_false_iff_not] at h39
              refine xe_s (f := (45, _, _, _)) xt_g337 rfl rfl rfl rfl rfl ?_
              refine xe_mga xt_g337 rfl (q := 48) rfl (xf_13_117 fm) (by decide) rfl (by omega) ?_
              try simp only [xo_u, xo_w, Nat.reduceEqDiff, reduceIte, false_and, true_and]
              refine xe_bipush xt_g337 rfl (q := 50) rfl (by decide) (by decide) ?_
              refine xe_s (f := (51, _, _, _)) xt_g337 rfl rfl rfl rfl rfl ?_
              refine xe_s (f := (52, _, _, _)) xt_g337 rfl rfl rfl rfl rfl ?_
              refine xe_cvI xt_g337 rfl (q := 55) rfl xk_13_464 rfl (by omega) xt_g336 (by decide) ⟨Nat.le_of_ble_eq_true rfl, Nat.le_of_ble_eq_true rfl, Nat.le_of_ble_eq_true rfl⟩ (xv_storageOf fm hmn hl hF A1 A2) ?_
              refine xe_imul xt_g337 rfl (q := 56) rfl ?_
              refine xe_s (f := (57, _, _, _)) xt_g337 rfl rfl rfl rfl rfl ?_
              refine xe_iadd xt_g337 rfl (q := 58) rfl ?_
              refine xe_mal (ok := xm_isN) (ty := .int) xt_g337 rfl (q := 59) rfl (fun _ _ => ⟨rfl, rfl, rfl, rfl⟩) rfl rfl rfl (by omega) (by omega) (by omega) (by omega) ?_
              try simp only [xo_u, xo_w, Nat.reduceEqDiff, reduceIte, false_and, true_and]
              refine xe_iret xt_g337 rfl rfl xi_int.1 ?_
              rw [if_neg (by omega)] at hR
              rw [← hR, ← r8 _ (by omega)]
              exact ⟨_, _, _, rfl, rfl, rfl, hz, hl⟩
            · try simp only [xb_0, xb_1, ne_eq, Decidable.not_not, decide_eq_true_eq, decide_eq_false_iff_not] at h39
              refine xe_s (f := (43, _, xi 0 :: _, _)) xt_g337 rfl rfl rfl rfl rfl ?_
              refine xe_iret xt_g337 rfl rfl xi_int.1 ?_
              rw [if_pos (by omega)] at hR
              rw [← hR]
              exact ⟨_, _, _, rfl, rfl, rfl, hz, hl⟩
  · try simp only [xb_0, xb_1, ne_eq, Decidable.not_not, decide_eq_true_eq, decide_eq_false_iff_not] at h10
    have hb : mu_if u f = false := by simpa using h10
    rw [hb] at hz hR ⊢
    rw [if_neg (by decide)] at hR
    rw [← hR]
    refine xe_s (f := (14, _, xi 0 :: _, _)) xt_g337 rfl rfl rfl rfl rfl ?_
    refine xe_iret xt_g337 rfl rfl xi_int.1 ?_
    exact ⟨_, _, _, rfl, rfl, rfl, hz, hl⟩
end XCO
