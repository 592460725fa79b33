/-! the reference: post, about, and what is left -/
def mu_meant (u : mu_T) (a b : pa_A) : Bool := if mu_ln u = [42] then true else if mu_ln u = [47] then decide (pa_hd a = pa_hd b) else match mu_res u none with
  | none => false
  | some c => decide (pa_hd c = pa_hd b)
def mu_post1 (u : mu_T) (f g d : Int) : Option (mu_T) := match mu_ad u f with
  | none => none
  | some a => match mu_ad u g with
    | none => none
    | some b => if mu_meant u a b = true then some (mu_note (mu_sln u []) 5 g f (nm_txt d)) else none
def mu_post (u : mu_T) (f g d : Int) : Int × mu_T := if (mu_if u f && mu_if u g) = true then (match mu_post1 u f g d with
  | none => (0, mu_sln u [])
  | some v => (1, v)) else (0, mu_sln u [])
def mu_abf (u : mu_T) (f w : Int) : Int := if mu_if u f = true then (if w = 1 then (mf_pt (mu_fr u f.toNat)).1 else if w = 2 then (mf_pt (mu_fr u f.toNat)).2 else if w = 3 then xb (mu_ad u f).isSome else mu_nv u f) else -1
def mu_abr (u : mu_T) (r w : Int) : Int := match mu_rq u r.toNat with
  | none => -1
  | some q => if mu_ir u r = true then (if w = 5 then q.1 else xb q.2.1.isSome) else -1
def mu_about (u : mu_T) (k w : Int) : Int := if w = 0 then (if mu_ht u k = true then mu_tp u k else -1) else if 0 < w ∧ w < 5 then mu_abf u k w else if w = 5 ∨ w = 6 then mu_abr u k w else if w = 7 then mu_fo u else if w = 8 then ((ck_nov (mu_tm u) (mu_ck u)).length : Int) else if w = 9 then ((mu_ms u).length : Int) else if w = 10 then ((mu_sf u).length : Int) else -1
theorem nm_dgs_c {w : Int} {bs : List Int} {c : Int} (h : c ∈ nm_dgs w bs) : 48 ≤ c ∧ c ≤ 57 := by
  unfold nm_dgs at h
  obtain ⟨x, _, rfl⟩ := List.mem_map.mp h
  have h1 := Int.emod_nonneg (w / x) (b := 10) (by decide)
  have h2 := Int.emod_lt_of_pos (w / x) (b := 10) (by decide)
  omega
theorem nm_txt_c {v c : Int} (h : c ∈ nm_txt v) : 0 ≤ c ∧ c < 127 := by
  unfold nm_txt at h
  rcases List.mem_append.mp h with h | h
  · split at h
    · rw [List.mem_singleton] at h
      omega
    · cases h
  · have := nm_dgs_c h
    omega
theorem nm_txt_l {v : Int} : (nm_txt v).length ≤ 11 := by
  unfold nm_txt
  rw [List.length_append]
  have h1 : (nm_dgs (nm_abs v) nm_bs).length ≤ 10 := by
    unfold nm_dgs
    rw [List.length_map]
    exact List.length_filter_le _ _
  split
  · simp
    omega
  · simp
    omega
section XPO
variable (fm : Value) {m n : Nat} {h0 : xm_H} {s : Nat → Int} {ar : Nat → Nat → Int} {u : mu_T}
theorem xV_post (hmn : xo_in m n) (h : rf s ar u) {f g d : Int} (hfr : xr f) (hgr : xr g) (hdr : xr d) : xV fm 338 m n h0 s ar [.ref m, xi f, xi g, xi d] (fun z s' ar' => z = (mu_post u f g d).1 ∧ s' 0 = xb (!(mu_if u f && mu_if u g)) ∧ rf s' ar' (mu_post u f g d).2) := by
  show xe fm 338 (0, [(0, .ref m), (1, xi f), (2, xi g), (3, xi d)], [], (xo m s ar h0, n, 0, 0)) _
  generalize hR : mu_post u f g d = R
  unfold mu_post at hR
  have e1 := rf_if h (f := f)
  have e2 := rf_if h (f := g)
  have lk := xv_lacks fm hmn (h0 := h0) (s := s) (ar := ar) (b := mu_if u f && mu_if u g) (t := true)
  obtain ⟨hl, hz⟩ := rf_lkt h (b := mu_if u f && mu_if u g)
  generalize (if (mu_if u f && mu_if u g) = true then xo_u s 0 0 else if true = true then xo_u (xo_u s 0 1) 2 0 else xo_u s 0 1) = s1 at *
  have main : ∀ z : Int, z = xb (mu_if u f && mu_if u g) → xe fm 338 (22, [(0, .ref m), (1, xi f), (2, xi g), (3, xi d)], [xi z, .ref m], (xo m s ar h0, n, 0, 0)) (xQI m n h0 (fun z s' ar' => z = R.1 ∧ s' 0 = xb (!(mu_if u f && mu_if u g)) ∧ rf s' ar' R.2)) := by
    intro z hzz
    rw [hzz]
    refine xe_s (f := (23, _, xi 1 :: _, _)) xt_g338 rfl rfl rfl rfl rfl ?_
    refine xe_cvI xt_g338 rfl (q := 26) rfl xk_13_418 rfl (by omega) xt_g292 (by decide) ⟨Nat.le_of_ble_eq_true rfl, Nat.le_of_ble_eq_true rfl, Nat.le_of_ble_eq_true rfl⟩ (lk) ?_
    refine xe_if_eq xt_g338 rfl (t := 31) rfl (q := 29) rfl (by first | omega | exact hw.1 _ | exact hw.2 _ _ | exact xb_r _) (fun h26 => ?_) (fun h26 => ?_)
    · try simp only [xb_0, xb_1, ne_eq, Decidable.not_not, decide_eq_true_eq, decide_eq_false_iff_not] at h26
      have hb : (mu_if u f && mu_if u g) = true := by simpa using h26
      rw [hb] at hl hz hR ⊢
      rw [if_pos rfl] at hl hR
      rw [Bool.and_eq_true] at hb
      obtain ⟨F, x, rfl, hF, hx⟩ := mu_if_s hb.1
      obtain ⟨G, y, rfl, hG, hy⟩ := mu_if_s hb.2
      have eadf : mu_ad u F = x.2.2 := by
        unfold mu_ad
        rw [Int.toNat_natCast, hx]
      have eadg : mu_ad u G = y.2.2 := by
        unfold mu_ad
        rw [Int.toNat_natCast, hy]
      have r0 := hl.2.2.2.1
      have i2 := r0.1
      have l160 := r0.2.1
      have b1 : 0 < (mu_ln u).length → ar 1 (0 : Int).toNat = (mu_ln u).getD 0 0 := fun h => rf_line_0 r0 h
      have rb1 := hl.1.2 1 (0 : Int).toNat
      have one : ∀ c : Int, mu_ln u = [c] ↔ ((mu_ln u).length : Int) = 1 ∧ (mu_ln u).getD 0 0 = c := by
        intro c
        constructor
        · intro e
          rw [e]
          exact ⟨rfl, rfl⟩
        · rintro ⟨g1, g2⟩
          exact xg_ext (by show (mu_ln u).length = 1; omega) (fun i hi => by rw [show i = 0 by omega]; exact g2)
      -- behind the address
      have tail : ∀ (s2 : Nat → Int) (ar2 : Nat → Nat → Int) (ad : Bool), s2 0 = xb (!true) → rf s2 ar2 (mu_sln u []) → (ad = true → mu_ln u ≠ [42] ∧ mu_ln u ≠ [47] ∧ ∃ c, mu_res u none = some c ∧ pa_at ar2 ((40 : Nat) : Int) (pa_text c) ∧ pa_ok c) → (ad = false → mu_ln u = [42] ∨ mu_ln u = [47] ∨ mu_res u none = none) → xe fm 338 (113, [(6, xi (xb ad)), (5, xi (xb (decide (mu_ln u = [47])))), (4, xi (xb (decide (mu_ln u = [42])))), (0, .ref m), (1, xi (F : Int)), (2, xi (G : Int)), (3, xi d)], [], (xo m s2 ar2 h0, n, 0, 0)) (xQI m n h0 (fun z s' ar' => z = R.1 ∧ s' 0 = xb (!true) ∧ rf s' ar' R.2)) := by
        intro s2 ar2 ad z2 h2 hy1 hy2
        obtain ⟨x1, x2, x3, x4, x5, x6, x7, x8⟩ := rf_f h2 hF hx
        obtain ⟨y1, y2, y3, y4, y5, y6, y7, y8⟩ := rf_f h2 hG hy
        have f44 : ar2 44 (F : Int).toNat = xb x.2.2.isSome := x7
        have g44 : ar2 44 (G : Int).toNat = xb y.2.2.isSome := y7
        have no : ∀ pc L, pc = 131 ∨ pc = 167 → mu_post1 u F G d = none → xe fm 338 (pc, L, [], (xo m s2 ar2 h0, n, 0, 0)) (xQI m n h0 (fun z s' ar' => z = R.1 ∧ s' 0 = xb (!true) ∧ rf s' ar' R.2)) := by
          intro pc L hpc hn
          rw [hn] at hR
          rw [← hR]
          rcases hpc with rfl | rfl
          · refine xe_s (f := (132, _, xi 0 :: _, _)) xt_g338 rfl rfl rfl rfl rfl ?_
            refine xe_iret xt_g338 rfl rfl (xi_bool (by first | omega | exact xb_or _)).1 ?_
            exact ⟨_, _, _, rfl, rfl, rfl, z2, h2⟩
          · refine xe_s (f := (168, _, xi 0 :: _, _)) xt_g338 rfl rfl rfl rfl rfl ?_
            refine xe_iret xt_g338 rfl rfl (xi_bool (by first | omega | exact xb_or _)).1 ?_
            exact ⟨_, _, _, rfl, rfl, rfl, z2, h2⟩
        cases hxa : x.2.2 with
        | none =>
          rw [hxa] at f44 eadf
          have hn : mu_post1 u F G d = none := by
            unfold mu_post1
            rw [eadf]
          refine xe_s (f := (114, _, _, _)) xt_g338 rfl rfl rfl rfl rfl ?_
          refine xe_mga xt_g338 rfl (q := 117) rfl (xf_13_90 fm) (by decide) rfl (by omega) ?_
          try simp only [xo_u, xo_w, Nat.reduceEqDiff, reduceIte, false_and, true_and]
          refine xe_s (f := (118, _, _, _)) xt_g338 rfl rfl rfl rfl rfl ?_
          refine xe_mal (ok := xm_isB) (ty := .boolean) xt_g338 rfl (q := 119) rfl (fun _ _ => ⟨rfl, rfl, rfl, rfl⟩) rfl rfl rfl (by omega) (by omega) (by omega) (by omega) ?_
          try simp only [xo_u, xo_w, Nat.reduceEqDiff, reduceIte, false_and, true_and]
          rw [f44]
          refine xe_if_eq xt_g338 rfl (t := 131) rfl (q := 122) rfl (by first | omega | exact hw.1 _ | exact hw.2 _ _ | exact xb_r _) (fun h119 => ?_) (fun h119 => ?_)
          · try simp only [xb_0, xb_1, ne_eq, Decidable.not_not, decide_eq_true_eq, decide_eq_false_iff_not] at h119
            exact no 131 _ (Or.inl rfl) hn
          · exact absurd rfl h119
        | some a =>
          rw [hxa] at f44 eadf
          obtain ⟨A1, A2⟩ := x8 a hxa
          cases hya : y.2.2 with
          | none =>
            rw [hya] at g44 eadg
            have hn : mu_post1 u F G d = none := by
              unfold mu_post1
              rw [eadf]
              dsimp only
              rw [eadg]
            refine xe_s (f := (114, _, _, _)) xt_g338 rfl rfl rfl rfl rfl ?_
            refine xe_mga xt_g338 rfl (q := 117) rfl (xf_13_90 fm) (by decide) rfl (by omega) ?_
            try simp only [xo_u, xo_w, Nat.reduceEqDiff, reduceIte, false_and, true_and]
            refine xe_s (f := (118, _, _, _)) xt_g338 rfl rfl rfl rfl rfl ?_
            refine xe_mal (ok := xm_isB) (ty := .boolean) xt_g338 rfl (q := 119) rfl (fun _ _ => ⟨rfl, rfl, rfl, rfl⟩) rfl rfl rfl (by omega) (by omega) (by omega) (by omega) ?_
            try simp only [xo_u, xo_w, Nat.reduceEqDiff, reduceIte, false_and, true_and]
            rw [f44]
            refine xe_if_eq xt_g338 rfl (t := 131) rfl (q := 122) rfl (by first | omega | exact hw.1 _ | exact hw.2 _ _ | exact xb_r _) (fun h119 => ?_) (fun h119 => ?_)
            · exact absurd h119 (show ¬ xb true = 0 by decide)
            · try simp only [xb_0, xb_1, ne_eq, Decidable.not_not, decide_eq_true_eq, decide_eq_false_iff_not] at h119
              refine xe_s (f := (123, _, _, _)) xt_g338 rfl rfl rfl rfl rfl ?_
              refine xe_mga xt_g338 rfl (q := 126) rfl (xf_13_90 fm) (by decide) rfl (by omega) ?_
              try simp only [xo_u, xo_w, Nat.reduceEqDiff, reduceIte, false_and, true_and]
              refine xe_s (f := (127, _, _, _)) xt_g338 rfl rfl rfl rfl rfl ?_
              refine xe_mal (ok := xm_isB) (ty := .boolean) xt_g338 rfl (q := 128) rfl (fun _ _ => ⟨rfl, rfl, rfl, rfl⟩) rfl rfl rfl (by omega) (by omega) (by omega) (by omega) ?_
              try simp only [xo_u, xo_w, Nat.reduceEqDiff, reduceIte, false_and, true_and]
              rw [g44]
              refine xe_if_ne xt_g338 rfl (t := 133) rfl (q := 131) rfl (by first | omega | exact hw.1 _ | exact hw.2 _ _ | exact xb_r _) (fun h128 => ?_) (fun h128 => ?_)
              · exact absurd rfl h128
              · try simp only [xb_0, xb_1, ne_eq, Decidable.not_not, decide_eq_true_eq, decide_eq_false_iff_not] at h128
                exact no 131 _ (Or.inl rfl) hn
          | some b =>
            rw [hya] at g44 eadg
            obtain ⟨B1, B2⟩ := y8 b hya
            have ep : mu_post1 u F G d = if mu_meant u a b = true then some (mu_note (mu_sln u []) 5 G F (nm_txt d)) else none := by
              unfold mu_post1
              rw [eadf]
              dsimp only
              rw [eadg]
            have yes : mu_meant u a b = true → ∀ v6 v5 v4, xe fm 338 (169, [(6, xi v6), (5, xi v5), (4, xi v4), (0, .ref m), (1, xi (F : Int)), (2, xi (G : Int)), (3, xi d)], [], (xo m s2 ar2 h0, n, 0, 0)) (xQI m n h0 (fun z s' ar' => z = R.1 ∧ s' 0 = xb (!true) ∧ rf s' ar' R.2)) := by
              intro hm v6 v5 v4
              rw [ep, if_pos hm] at hR
              rw [← hR]
              have Gr := rg_of h2 99
              have mn := xU_makeNumber fm hmn (h0 := h0) h2.1 hdr Gr.2.2.1.1 xh_nil (by simp)
              rw [List.nil_append] at mn
              have nl := nm_txt_l (v := d)
              refine xe_s (f := (170, _, _, _)) xt_g338 rfl rfl rfl rfl rfl ?_
              refine xe_s (f := (171, _, _, _)) xt_g338 rfl rfl rfl rfl rfl ?_
              refine xe_chV xt_g338 rfl (q := 174) rfl xk_13_471 rfl (by omega) xt_g339 (by decide) ⟨Nat.le_of_ble_eq_true rfl, Nat.le_of_ble_eq_true rfl, Nat.le_of_ble_eq_true rfl⟩ (mn) (fun s3 ar3 hp3 => ?_)
              have hp3' : xd_PM s2 ar2 (nm_txt d) s3 ar3 := hp3
              have G3 := rf_mk Gr hp3' ⟨by omega, fun c hc => nm_txt_c hc⟩
              have tl := xU_tell fm hmn (h0 := h0) G3 (w := 5) (a := (G : Int)) (b := (F : Int)) (by omega) (by omega) (by omega)
              rw [List.take_of_length_le (by omega)] at tl
              refine xe_s (f := (175, _, _, _)) xt_g338 rfl rfl rfl rfl rfl ?_
              refine xe_s (f := (176, _, xi 5 :: _, _)) xt_g338 rfl rfl rfl rfl rfl ?_
              refine xe_s (f := (177, _, _, _)) xt_g338 rfl rfl rfl rfl rfl ?_
              refine xe_s (f := (178, _, _, _)) xt_g338 rfl rfl rfl rfl rfl ?_
              refine xe_chV xt_g338 rfl (q := 181) rfl xk_13_376 rfl (by omega) xt_g289 (by decide) ⟨Nat.le_of_ble_eq_true rfl, Nat.le_of_ble_eq_true rfl, Nat.le_of_ble_eq_true rfl⟩ (tl) (fun s4 ar4 hp4 => ?_)
              refine xe_s (f := (182, _, xi 1 :: _, _)) xt_g338 rfl rfl rfl rfl rfl ?_
              refine xe_iret xt_g338 rfl rfl (xi_bool (by first | omega | exact xb_or _)).1 ?_
              exact ⟨_, _, _, rfl, rfl, rfl, (hp4.1.1 0 (by decide)).trans ((hp3'.2.1.1 0 (by decide)).trans z2), rg_to hp4.2 (fun h => absurd h (by decide))⟩
            have o1 := xv_isOfOrigin fm hmn (h0 := h0) (s := s2) (ar := ar2) h2.1 (a := (F : Int)) (b := (G : Int)) (by omega) (by omega) (pa_at5 A1) (by omega) (by omega) (pa_at5 B1)
            rw [rf_oot (by omega) (by omega) A1 B1 A2 B2] at o1
            by_cases c42 : mu_ln u = [42]
            · have hm : mu_meant u a b = true := by unfold mu_meant; rw [if_pos c42]
              rw [decide_eq_true c42]
              refine xe_s (f := (114, _, _, _)) xt_g338 rfl rfl rfl rfl rfl ?_
              refine xe_mga xt_g338 rfl (q := 117) rfl (xf_13_90 fm) (by decide) rfl (by omega) ?_
              try simp only [xo_u, xo_w, Nat.reduceEqDiff, reduceIte, false_and, true_and]
              refine xe_s (f := (118, _, _, _)) xt_g338 rfl rfl rfl rfl rfl ?_
              refine xe_mal (ok := xm_isB) (ty := .boolean) xt_g338 rfl (q := 119) rfl (fun _ _ => ⟨rfl, rfl, rfl, rfl⟩) rfl rfl rfl (by omega) (by omega) (by omega) (by omega) ?_
              try simp only [xo_u, xo_w, Nat.reduceEqDiff, reduceIte, false_and, true_and]
              rw [f44]
              refine xe_if_eq xt_g338 rfl (t := 131) rfl (q := 122) rfl (by first | omega | exact hw.1 _ | exact hw.2 _ _ | exact xb_r _) (fun h119 => ?_) (fun h119 => ?_)
              · exact absurd h119 (show ¬ xb true = 0 by decide)
              · try simp only [xb_0, xb_1, ne_eq, Decidable.not_not, decide_eq_true_eq, decide_eq_false_iff_not] at h119
                refine xe_s (f := (123, _, _, _)) xt_g338 rfl rfl rfl rfl rfl ?_
                refine xe_mga xt_g338 rfl (q := 126) rfl (xf_13_90 fm) (by decide) rfl (by omega) ?_
                try simp only [xo_u, xo_w, Nat.reduceEqDiff, reduceIte, false_and, true_and]
                refine xe_s (f := (127, _, _, _)) xt_g338 rfl rfl rfl rfl rfl ?_
                refine xe_mal (ok := xm_isB) (ty := .boolean) xt_g338 rfl (q := 128) rfl (fun _ _ => ⟨rfl, rfl, rfl, rfl⟩) rfl rfl rfl (by omega) (by omega) (by omega) (by omega) ?_
                try simp only [xo_u, xo_w, Nat.reduceEqDiff, reduceIte, false_and, true_and]
                rw [g44]
                refine xe_if_ne xt_g338 rfl (t := 133) rfl (q := 131) rfl (by first | omega | exact hw.1 _ | exact hw.2 _ _ | exact xb_r _) (fun h128 => ?_) (fun h128 => ?_)
                · try simp only [xb_0, xb_1, ne_eq, Decidable.not_not, decide_eq_true_eq, decide_eq_false_iff_not] at h128
                  refine xe_s (f := (135, _, _, _)) xt_g338 rfl rfl rfl rfl rfl ?_
                  refine xe_if_ne xt_g338 rfl (t := 169) rfl (q := 138) rfl (by first | omega | exact hw.1 _ | exact hw.2 _ _ | exact xb_r _) (fun h135 => ?_) (fun h135 => ?_)
                  · try simp only [xb_0, xb_1, ne_eq, Decidable.not_not, decide_eq_true_eq, decide_eq_false_iff_not] at h135
                    exact yes hm _ _ _
                  · exact absurd (show xb true ≠ 0 by decide) h135
                · exact absurd (show xb true ≠ 0 by decide) h128
            · rw [decide_eq_false c42]
              by_cases c47 : mu_ln u = [47]
              · have hm : mu_meant u a b = decide (pa_hd a = pa_hd b) := by unfold mu_meant; rw [if_neg c42, if_pos c47]
                have had : ad = false := by
                  cases ad with
                  | false => rfl
                  | true => exact absurd c47 (hy1 rfl).2.1
                rw [decide_eq_true c47, had]
                refine xe_s (f := (114, _, _, _)) xt_g338 rfl rfl rfl rfl rfl ?_
                refine xe_mga xt_g338 rfl (q := 117) rfl (xf_13_90 fm) (by decide) rfl (by omega) ?_
                try simp only [xo_u, xo_w, Nat.reduceEqDiff, reduceIte, false_and, true_and]
                refine xe_s (f := (118, _, _, _)) xt_g338 rfl rfl rfl rfl rfl ?_
                refine xe_mal (ok := xm_isB) (ty := .boolean) xt_g338 rfl (q := 119) rfl (fun _ _ => ⟨rfl, rfl, rfl, rfl⟩) rfl rfl rfl (by omega) (by omega) (by omega) (by omega) ?_
                try simp only [xo_u, xo_w, Nat.reduceEqDiff, reduceIte, false_and, true_and]
                rw [f44]
                refine xe_if_eq xt_g338 rfl (t := 131) rfl (q := 122) rfl (by first | omega | exact hw.1 _ | exact hw.2 _ _ | exact xb_r _) (fun h119 => ?_) (fun h119 => ?_)
                · exact absurd h119 (show ¬ xb true = 0 by decide)
                · try simp only [xb_0, xb_1, ne_eq, Decidable.not_not, decide_eq_true_eq, decide_eq_false_iff_not] at h119
                  refine xe_s (f := (123, _, _, _)) xt_g338 rfl rfl rfl rfl rfl ?_
                  refine xe_mga xt_g338 rfl (q := 126) rfl (xf_13_90 fm) (by decide) rfl (by omega) ?_
                  try simp only [xo_u, xo_w, Nat.reduceEqDiff, reduceIte, false_and, true_and]
                  refine xe_s (f := (127, _, _, _)) xt_g338 rfl rfl rfl rfl rfl ?_
                  refine xe_mal (ok := xm_isB) (ty := .boolean) xt_g338 rfl (q := 128) rfl (fun _ _ => ⟨rfl, rfl, rfl, rfl⟩) rfl rfl rfl (by omega) (by omega) (by omega) (by omega) ?_
                  try simp only [xo_u, xo_w, Nat.reduceEqDiff, reduceIte, false_and, true_and]
                  rw [g44]
                  refine xe_if_ne xt_g338 rfl (t := 133) rfl (q := 131) rfl (by first | omega | exact hw.1 _ | exact hw.2 _ _ | exact xb_r _) (fun h128 => ?_) (fun h128 => ?_)
                  · try simp only [xb_0, xb_1, ne_eq, Decidable.not_not, decide_eq_true_eq, decide_eq_false_iff_not] at h128
                    refine xe_s (f := (135, _, _, _)) xt_g338 rfl rfl rfl rfl rfl ?_
                    refine xe_if_ne xt_g338 rfl (t := 169) rfl (q := 138) rfl (by first | omega | exact hw.1 _ | exact hw.2 _ _ | exact xb_r _) (fun h135 => ?_) (fun h135 => ?_)
                    · exact absurd rfl h135
                    · try simp only [xb_0, xb_1, ne_eq, Decidable.not_not, decide_eq_true_eq, decide_eq_false_iff_not] at h135
                      refine xe_s (f := (140, _, _, _)) xt_g338 rfl rfl rfl rfl rfl ?_
                      refine xe_if_eq xt_g338 rfl (t := 152) rfl (q := 143) rfl (by first | omega | exact hw.1 _ | exact hw.2 _ _ | exact xb_r _) (fun h140 => ?_) (fun h140 => ?_)
                      · exact absurd h140 (show ¬ xb true = 0 by decide)
                      · try simp only [xb_0, xb_1, ne_eq, Decidable.not_not, decide_eq_true_eq, decide_eq_false_iff_not] at h140
                        refine xe_s (f := (144, _, _, _)) xt_g338 rfl rfl rfl rfl rfl ?_
                        refine xe_s (f := (145, _, _, _)) xt_g338 rfl rfl rfl rfl rfl ?_
                        refine xe_s (f := (146, _, _, _)) xt_g338 rfl rfl rfl rfl rfl ?_
                        refine xe_cvI xt_g338 rfl (q := 149) rfl xk_13_437 rfl (by omega) xt_g303 (by decide) ⟨Nat.le_of_ble_eq_true rfl, Nat.le_of_ble_eq_true rfl, Nat.le_of_ble_eq_true rfl⟩ (o1) ?_
                        refine xe_if_ne xt_g338 rfl (t := 169) rfl (q := 152) rfl (by first | omega | exact hw.1 _ | exact hw.2 _ _ | exact xb_r _) (fun h149 => ?_) (fun h149 => ?_)
                        · try simp only [xb_0, xb_1, ne_eq, Decidable.not_not, decide_eq_true_eq, decide_eq_false_iff_not] at h149
                          exact yes (by rw [hm]; exact decide_eq_true h149) _ _ _
                        · try simp only [xb_0, xb_1, ne_eq, Decidable.not_not, decide_eq_true_eq, decide_eq_false_iff_not] at h149
                          refine xe_s (f := (154, _, _, _)) xt_g338 rfl rfl rfl rfl rfl ?_
                          refine xe_if_eq xt_g338 rfl (t := 167) rfl (q := 157) rfl (by first | omega | exact hw.1 _ | exact hw.2 _ _ | exact xb_r _) (fun h154 => ?_) (fun h154 => ?_)
                          · try simp only [xb_0, xb_1, ne_eq, Decidable.not_not, decide_eq_true_eq, decide_eq_false_iff_not] at h154
                            exact no 167 _ (Or.inr rfl) (by rw [ep, hm, decide_eq_false h149]; rfl)
                          · exact absurd rfl h154
                  · exact absurd (show xb true ≠ 0 by decide) h128
              · rw [decide_eq_false c47]
                cases ad with
                | false =>
                  have hn : mu_res u none = none := by
                    rcases hy2 rfl with e | e | e
                    · exact absurd e c42
                    · exact absurd e c47
                    · exact e
                  have hm : mu_meant u a b = false := by unfold mu_meant; rw [if_neg c42, if_neg c47, hn]
                  refine xe_s (f := (114, _, _, _)) xt_g338 rfl rfl rfl rfl rfl ?_
                  refine xe_mga xt_g338 rfl (q := 117) rfl (xf_13_90 fm) (by decide) rfl (by omega) ?_
                  try simp only [xo_u, xo_w, Nat.reduceEqDiff, reduceIte, false_and, true_and]
                  refine xe_s (f := (118, _, _, _)) xt_g338 rfl rfl rfl rfl rfl ?_
                  refine xe_mal (ok := xm_isB) (ty := .boolean) xt_g338 rfl (q := 119) rfl (fun _ _ => ⟨rfl, rfl, rfl, rfl⟩) rfl rfl rfl (by omega) (by omega) (by omega) (by omega) ?_
                  try simp only [xo_u, xo_w, Nat.reduceEqDiff, reduceIte, false_and, true_and]
                  rw [f44]
                  refine xe_if_eq xt_g338 rfl (t := 131) rfl (q := 122) rfl (by first | omega | exact hw.1 _ | exact hw.2 _ _ | exact xb_r _) (fun h119 => ?_) (fun h119 => ?_)
                  · exact absurd h119 (show ¬ xb true = 0 by decide)
                  · try simp only [xb_0, xb_1, ne_eq, Decidable.not_not, decide_eq_true_eq, decide_eq_false_iff_not] at h119
                    refine xe_s (f := (123, _, _, _)) xt_g338 rfl rfl rfl rfl rfl ?_
                    refine xe_mga xt_g338 rfl (q := 126) rfl (xf_13_90 fm) (by decide) rfl (by omega) ?_
                    try simp only [xo_u, xo_w, Nat.reduceEqDiff, reduceIte, false_and, true_and]
                    refine xe_s (f := (127, _, _, _)) xt_g338 rfl rfl rfl rfl rfl ?_
                    refine xe_mal (ok := xm_isB) (ty := .boolean) xt_g338 rfl (q := 128) rfl (fun _ _ => ⟨rfl, rfl, rfl, rfl⟩) rfl rfl rfl (by omega) (by omega) (by omega) (by omega) ?_
                    try simp only [xo_u, xo_w, Nat.reduceEqDiff, reduceIte, false_and, true_and]
                    rw [g44]
                    refine xe_if_ne xt_g338 rfl (t := 133) rfl (q := 131) rfl (by first | omega | exact hw.1 _ | exact hw.2 _ _ | exact xb_r _) (fun h128 => ?_) (fun h128 => ?_)
                    · try simp only [xb_0, xb_1, ne_eq, Decidable.not_not, decide_eq_true_eq, decide_eq_false_iff_not] at h128
                      refine xe_s (f := (135, _, _, _)) xt_g338 rfl rfl rfl rfl rfl ?_
                      refine xe_if_ne xt_g338 rfl (t := 169) rfl (q := 138) rfl (by first | omega | exact hw.1 _ | exact hw.2 _ _ | exact xb_r _) (fun h135 => ?_) (fun h135 => ?_)
                      · exact absurd rfl h135
                      · try simp only [xb_0, xb_1, ne_eq, Decidable.not_not, decide_eq_true_eq, decide_eq_false_iff_not] at h135
                        refine xe_s (f := (140, _, _, _)) xt_g338 rfl rfl rfl rfl rfl ?_
                        refine xe_if_eq xt_g338 rfl (t := 152) rfl (q := 143) rfl (by first | omega | exact hw.1 _ | exact hw.2 _ _ | exact xb_r _) (fun h140 => ?_) (fun h140 => ?_)
                        · try simp only [xb_0, xb_1, ne_eq, Decidable.not_not, decide_eq_true_eq, decide_eq_false_iff_not] at h140
                          refine xe_s (f := (154, _, _, _)) xt_g338 rfl rfl rfl rfl rfl ?_
                          refine xe_if_eq xt_g338 rfl (t := 167) rfl (q := 157) rfl (by first | omega | exact hw.1 _ | exact hw.2 _ _ | exact xb_r _) (fun h154 => ?_) (fun h154 => ?_)
                          · try simp only [xb_0, xb_1, ne_eq, Decidable.not_not, decide_eq_true_eq, decide_eq_false_iff_not] at h154
                            exact no 167 _ (Or.inr rfl) (by rw [ep, hm]; rfl)
                          · exact absurd rfl h154
                        · exact absurd rfl h140
                    · exact absurd (show xb true ≠ 0 by decide) h128
                | true =>
                  obtain ⟨_, _, c, hc, C1, C2⟩ := hy1 rfl
                  have hm : mu_meant u a b = decide (pa_hd c = pa_hd b) := by unfold mu_meant; rw [if_neg c42, if_neg c47, hc]
                  have o2 := xv_isOfOrigin fm hmn (h0 := h0) (s := s2) (ar := ar2) h2.1 (a := ((40 : Nat) : Int)) (b := (G : Int)) (by omega) (by omega) (pa_at5 C1) (by omega) (by omega) (pa_at5 B1)
                  rw [rf_oot (by omega) (by omega) C1 B1 C2 B2] at o2
                  refine xe_s (f := (114, _, _, _)) xt_g338 rfl rfl rfl rfl rfl ?_
                  refine xe_mga xt_g338 rfl (q := 117) rfl (xf_13_90 fm) (by decide) rfl (by omega) ?_
                  try simp only [xo_u, xo_w, Nat.reduceEqDiff, reduceIte, false_and, true_and]
                  refine xe_s (f := (118, _, _, _)) xt_g338 rfl rfl rfl rfl rfl ?_
                  refine xe_mal (ok := xm_isB) (ty := .boolean) xt_g338 rfl (q := 119) rfl (fun _ _ => ⟨rfl, rfl, rfl, rfl⟩) rfl rfl rfl (by omega) (by omega) (by omega) (by omega) ?_
                  try simp only [xo_u, xo_w, Nat.reduceEqDiff, reduceIte, false_and, true_and]
                  rw [f44]
                  refine xe_if_eq xt_g338 rfl (t := 131) rfl (q := 122) rfl (by first | omega | exact hw.1 _ | exact hw.2 _ _ | exact xb_r _) (fun h119 => ?_) (fun h119 => ?_)
                  · exact absurd h119 (show ¬ xb true = 0 by decide)
                  · try simp only [xb_0, xb_1, ne_eq, Decidable.not_not, decide_eq_true_eq, decide_eq_false_iff_not] at h119
                    refine xe_s (f := (123, _, _, _)) xt_g338 rfl rfl rfl rfl rfl ?_
                    refine xe_mga xt_g338 rfl (q := 126) rfl (xf_13_90 fm) (by decide) rfl (by omega) ?_
                    try simp only [xo_u, xo_w, Nat.reduceEqDiff, reduceIte, false_and, true_and]
                    refine xe_s (f := (127, _, _, _)) xt_g338 rfl rfl rfl rfl rfl ?_
                    refine xe_mal (ok := xm_isB) (ty := .boolean) xt_g338 rfl (q := 128) rfl (fun _ _ => ⟨rfl, rfl, rfl, rfl⟩) rfl rfl rfl (by omega) (by omega) (by omega) (by omega) ?_
                    try simp only [xo_u, xo_w, Nat.reduceEqDiff, reduceIte, false_and, true_and]
                    rw [g44]
                    refine xe_if_ne xt_g338 rfl (t := 133) rfl (q := 131) rfl (by first | omega | exact hw.1 _ | exact hw.2 _ _ | exact xb_r _) (fun h128 => ?_) (fun h128 => ?_)
                    · try simp only [xb_0, xb_1, ne_eq, Decidable.not_not, decide_eq_true_eq, decide_eq_false_iff_not] at h128
                      refine xe_s (f := (135, _, _, _)) xt_g338 rfl rfl rfl rfl rfl ?_
                      refine xe_if_ne xt_g338 rfl (t := 169) rfl (q := 138) rfl (by first | omega | exact hw.1 _ | exact hw.2 _ _ | exact xb_r _) (fun h135 => ?_) (fun h135 => ?_)
                      · exact absurd rfl h135
                      · try simp only [xb_0, xb_1, ne_eq, Decidable.not_not, decide_eq_true_eq, decide_eq_false_iff_not] at h135
                        refine xe_s (f := (140, _, _, _)) xt_g338 rfl rfl rfl rfl rfl ?_
                        refine xe_if_eq xt_g338 rfl (t := 152) rfl (q := 143) rfl (by first | omega | exact hw.1 _ | exact hw.2 _ _ | exact xb_r _) (fun h140 => ?_) (fun h140 => ?_)
                        · try simp only [xb_0, xb_1, ne_eq, Decidable.not_not, decide_eq_true_eq, decide_eq_false_iff_not] at h140
                          refine xe_s (f := (154, _, _, _)) xt_g338 rfl rfl rfl rfl rfl ?_
                          refine xe_if_eq xt_g338 rfl (t := 167) rfl (q := 157) rfl (by first | omega | exact hw.1 _ | exact hw.2 _ _ | exact xb_r _) (fun h154 => ?_) (fun h154 => ?_)
                          · exact absurd h154 (show ¬ xb true = 0 by decide)
                          · try simp only [xb_0, xb_1, ne_eq, Decidable.not_not, decide_eq_true_eq, decide_eq_false_iff_not] at h154
                            refine xe_s (f := (158, _, _, _)) xt_g338 rfl rfl rfl rfl rfl ?_
                            refine xe_bipush xt_g338 rfl (q := 160) rfl (by decide) (by decide) ?_
                            refine xe_s (f := (161, _, _, _)) xt_g338 rfl rfl rfl rfl rfl ?_
                            refine xe_cvI xt_g338 rfl (q := 164) rfl xk_13_437 rfl (by omega) xt_g303 (by decide) ⟨Nat.le_of_ble_eq_true rfl, Nat.le_of_ble_eq_true rfl, Nat.le_of_ble_eq_true rfl⟩ (o2) ?_
                            refine xe_if_ne xt_g338 rfl (t := 169) rfl (q := 167) rfl (by first | omega | exact hw.1 _ | exact hw.2 _ _ | exact xb_r _) (fun h164 => ?_) (fun h164 => ?_)
                            · try simp only [xb_0, xb_1, ne_eq, Decidable.not_not, decide_eq_true_eq, decide_eq_false_iff_not] at h164
                              exact yes (by rw [hm]; exact decide_eq_true h164) _ _ _
                            · try simp only [xb_0, xb_1, ne_eq, Decidable.not_not, decide_eq_true_eq, decide_eq_false_iff_not] at h164
                              exact no 167 _ (Or.inr rfl) (by rw [ep, hm, decide_eq_false h164]; rfl)
                        · exact absurd rfl h140
                    · exact absurd (show xb true ≠ 0 by decide) h128
      have rs := xV_res fm hmn (h0 := h0) hl (b := -1) (base := none) (Or.inl ⟨rfl, rfl⟩)
      have j83 : xe fm 338 (83, [(5, xi (xb (decide (mu_ln u = [47])))), (4, xi (xb (decide (mu_ln u = [42])))), (0, .ref m), (1, xi (F : Int)), (2, xi (G : Int)), (3, xi d)], [], (xo m s1 ar h0, n, 0, 0)) (xQI m n h0 (fun z s' ar' => z = R.1 ∧ s' 0 = xb (!true) ∧ rf s' ar' R.2)) := by
        by_cases c42 : mu_ln u = [42]
        · have ht := tail (xo_u s1 2 0) ar false hz (rf_cl hl) (fun h => by cases h) (fun _ => Or.inl c42)
          rw [decide_eq_true c42] at ht ⊢
          refine xe_s (f := (85, _, _, _)) xt_g338 rfl rfl rfl rfl rfl ?_
          refine xe_if_ne xt_g338 rfl (t := 105) rfl (q := 88) rfl (by first | omega | exact hw.1 _ | exact hw.2 _ _ | exact xb_r _) (fun h85 => ?_) (fun h85 => ?_)
          · try simp only [xb_0, xb_1, ne_eq, Decidable.not_not, decide_eq_true_eq, decide_eq_false_iff_not] at h85
            refine xe_s (f := (106, _, xi 0 :: _, _)) xt_g338 rfl rfl rfl rfl rfl ?_
            refine xe_s (f := (108, [(6, _), (5, _), (4, _), (0, _), (1, _), (2, _), (3, _)], _, _)) xt_g338 rfl rfl rfl rfl rfl ?_
            refine xe_s (f := (109, _, _, _)) xt_g338 rfl rfl rfl rfl rfl ?_
            refine xe_s (f := (110, _, xi 0 :: _, _)) xt_g338 rfl rfl rfl rfl rfl ?_
            refine xe_mps xt_g338 rfl (q := 113) rfl (xf_13_149 fm) (by decide) rfl (by omega) (by omega) xi_int (Or.inl rfl) ?_
            exact ht
          · exact absurd (show xb true ≠ 0 by decide) h85
        · rw [decide_eq_false c42] at tail ⊢
          by_cases c47 : mu_ln u = [47]
          · have ht := tail (xo_u s1 2 0) ar false hz (rf_cl hl) (fun h => by cases h) (fun _ => Or.inr (Or.inl c47))
            rw [decide_eq_true c47] at ht ⊢
            refine xe_s (f := (85, _, _, _)) xt_g338 rfl rfl rfl rfl rfl ?_
            refine xe_if_ne xt_g338 rfl (t := 105) rfl (q := 88) rfl (by first | omega | exact hw.1 _ | exact hw.2 _ _ | exact xb_r _) (fun h85 => ?_) (fun h85 => ?_)
            · exact absurd rfl h85
            · try simp only [xb_0, xb_1, ne_eq, Decidable.not_not, decide_eq_true_eq, decide_eq_false_iff_not] at h85
              refine xe_s (f := (90, _, _, _)) xt_g338 rfl rfl rfl rfl rfl ?_
              refine xe_if_ne xt_g338 rfl (t := 105) rfl (q := 93) rfl (by first | omega | exact hw.1 _ | exact hw.2 _ _ | exact xb_r _) (fun h90 => ?_) (fun h90 => ?_)
              · try simp only [xb_0, xb_1, ne_eq, Decidable.not_not, decide_eq_true_eq, decide_eq_false_iff_not] at h90
                refine xe_s (f := (106, _, xi 0 :: _, _)) xt_g338 rfl rfl rfl rfl rfl ?_
                refine xe_s (f := (108, [(6, _), (5, _), (4, _), (0, _), (1, _), (2, _), (3, _)], _, _)) xt_g338 rfl rfl rfl rfl rfl ?_
                refine xe_s (f := (109, _, _, _)) xt_g338 rfl rfl rfl rfl rfl ?_
                refine xe_s (f := (110, _, xi 0 :: _, _)) xt_g338 rfl rfl rfl rfl rfl ?_
                refine xe_mps xt_g338 rfl (q := 113) rfl (xf_13_149 fm) (by decide) rfl (by omega) (by omega) xi_int (Or.inl rfl) ?_
                exact ht
              · exact absurd (show xb true ≠ 0 by decide) h90
          · rw [decide_eq_false c47] at tail ⊢
            refine xe_s (f := (85, _, _, _)) xt_g338 rfl rfl rfl rfl rfl ?_
            refine xe_if_ne xt_g338 rfl (t := 105) rfl (q := 88) rfl (by first | omega | exact hw.1 _ | exact hw.2 _ _ | exact xb_r _) (fun h85 => ?_) (fun h85 => ?_)
            · exact absurd rfl h85
            · try simp only [xb_0, xb_1, ne_eq, Decidable.not_not, decide_eq_true_eq, decide_eq_false_iff_not] at h85
              refine xe_s (f := (90, _, _, _)) xt_g338 rfl rfl rfl rfl rfl ?_
              refine xe_if_ne xt_g338 rfl (t := 105) rfl (q := 93) rfl (by first | omega | exact hw.1 _ | exact hw.2 _ _ | exact xb_r _) (fun h90 => ?_) (fun h90 => ?_)
              · exact absurd rfl h90
              · try simp only [xb_0, xb_1, ne_eq, Decidable.not_not, decide_eq_true_eq, decide_eq_false_iff_not] at h90
                refine xe_s (f := (94, _, _, _)) xt_g338 rfl rfl rfl rfl rfl ?_
                refine xe_s (f := (95, _, xi (-1) :: _, _)) xt_g338 rfl rfl rfl rfl rfl ?_
                refine xe_chI xt_g338 rfl (q := 98) rfl xk_13_403 rfl (by omega) xt_g257 (by decide) ⟨Nat.le_of_ble_eq_true rfl, Nat.le_of_ble_eq_true rfl, Nat.le_of_ble_eq_true rfl⟩ (rs) (fun z3 s3 ar3 hp3 => ?_)
                obtain ⟨q3, F3, h3, pz3, po3⟩ := hp3
                rw [pz3]
                have z03 : s3 0 = xb (!true) := (q3.1 0 (by decide)).trans hz
                refine xe_if_eq xt_g338 rfl (t := 105) rfl (q := 101) rfl (by first | omega | exact hw.1 _ | exact hw.2 _ _ | exact xb_r _) (fun h98 => ?_) (fun h98 => ?_)
                · try simp only [xb_0, xb_1, ne_eq, Decidable.not_not, decide_eq_true_eq, decide_eq_false_iff_not] at h98
                  refine xe_s (f := (106, _, xi 0 :: _, _)) xt_g338 rfl rfl rfl rfl rfl ?_
                  refine xe_s (f := (108, [(6, _), (5, _), (4, _), (0, _), (1, _), (2, _), (3, _)], _, _)) xt_g338 rfl rfl rfl rfl rfl ?_
                  refine xe_s (f := (109, _, _, _)) xt_g338 rfl rfl rfl rfl rfl ?_
                  refine xe_s (f := (110, _, xi 0 :: _, _)) xt_g338 rfl rfl rfl rfl rfl ?_
                  refine xe_mps xt_g338 rfl (q := 113) rfl (xf_13_149 fm) (by decide) rfl (by omega) (by omega) xi_int (Or.inl rfl) ?_
                  have hn : mu_res u none = none := by
                    cases hh : mu_res u none with
                    | none => rfl
                    | some c => rw [hh] at h98; cases h98
                  exact tail (xo_u s3 2 0) ar3 false z03 (rf_cl h3) (fun h => by cases h) (fun _ => Or.inr (Or.inr hn))
                · try simp only [xb_0, xb_1, ne_eq, Decidable.not_not, decide_eq_true_eq, decide_eq_false_iff_not] at h98
                  refine xe_s (f := (102, _, xi 1 :: _, _)) xt_g338 rfl rfl rfl rfl rfl ?_
                  refine xe_s (f := (106, _, _, _)) xt_g338 rfl rfl rfl rfl rfl ?_
                  refine xe_s (f := (108, [(6, _), (5, _), (4, _), (0, _), (1, _), (2, _), (3, _)], _, _)) xt_g338 rfl rfl rfl rfl rfl ?_
                  refine xe_s (f := (109, _, _, _)) xt_g338 rfl rfl rfl rfl rfl ?_
                  refine xe_s (f := (110, _, xi 0 :: _, _)) xt_g338 rfl rfl rfl rfl rfl ?_
                  refine xe_mps xt_g338 rfl (q := 113) rfl (xf_13_149 fm) (by decide) rfl (by omega) (by omega) xi_int (Or.inl rfl) ?_
                  obtain ⟨c, hc⟩ : ∃ c, mu_res u none = some c := by
                    cases hh : mu_res u none with
                    | none => rw [hh] at h98; exact absurd rfl h98
                    | some c => exact ⟨c, rfl⟩
                  exact tail (xo_u s3 2 0) ar3 true z03 (rf_cl h3) (fun _ => ⟨c42, c47, c, hc, (po3 c hc).1, (po3 c hc).2⟩) (fun h => by cases h)
      have j81 : ∀ v : Int, v = xb (decide (mu_ln u = [47])) → xe fm 338 (81, [(4, xi (xb (decide (mu_ln u = [42])))), (0, .ref m), (1, xi (F : Int)), (2, xi (G : Int)), (3, xi d)], [xi v], (xo m s1 ar h0, n, 0, 0)) (xQI m n h0 (fun z s' ar' => z = R.1 ∧ s' 0 = xb (!true) ∧ rf s' ar' R.2)) := by
        intro v hv
        rw [hv]
        refine xe_s (f := (83, [(5, _), (4, _), (0, _), (1, _), (2, _), (3, _)], _, _)) xt_g338 rfl rfl rfl rfl rfl ?_
        exact j83
      have j55 : ∀ v : Int, v = xb (decide (mu_ln u = [42])) → xe fm 338 (55, [(0, .ref m), (1, xi (F : Int)), (2, xi (G : Int)), (3, xi d)], [xi v], (xo m s1 ar h0, n, 0, 0)) (xQI m n h0 (fun z s' ar' => z = R.1 ∧ s' 0 = xb (!true) ∧ rf s' ar' R.2)) := by
        intro v hv
        rw [hv]
        refine xe_s (f := (57, [(4, _), (0, _), (1, _), (2, _), (3, _)], _, _)) xt_g338 rfl rfl rfl rfl rfl ?_
        refine xe_s (f := (58, _, _, _)) xt_g338 rfl rfl rfl rfl rfl ?_
        refine xe_mgs xt_g338 rfl (q := 61) rfl (xf_13_149 fm) (by decide) rfl (by omega) ?_
        try simp only [xo_u, xo_w, Nat.reduceEqDiff, reduceIte, false_and, true_and]
        rw [i2]
        refine xe_s (f := (62, _, xi 1 :: _, _)) xt_g338 rfl rfl rfl rfl rfl ?_
        refine xe_ic_ne xt_g338 rfl (t := 80) rfl (q := 65) rfl (by first | omega | exact hw.1 _ | exact hw.2 _ _ | exact xb_r _) (by first | omega | exact hw.1 _ | exact hw.2 _ _ | exact xb_r _) (fun h62 => ?_) (fun h62 => ?_)
        · refine xe_s (f := (81, _, xi 0 :: _, _)) xt_g338 rfl rfl rfl rfl rfl ?_
          exact j81 _ (by rw [decide_eq_false (fun e => h62 ((one 47).mp e).1)]; rfl)
        · refine xe_s (f := (66, _, _, _)) xt_g338 rfl rfl rfl rfl rfl ?_
          refine xe_mga xt_g338 rfl (q := 69) rfl (xf_13_7 fm) (by decide) rfl (by omega) ?_
          try simp only [xo_u, xo_w, Nat.reduceEqDiff, reduceIte, false_and, true_and]
          refine xe_s (f := (70, _, xi 0 :: _, _)) xt_g338 rfl rfl rfl rfl rfl ?_
          refine xe_mal (ok := xm_isN) (ty := .int) xt_g338 rfl (q := 71) rfl (fun _ _ => ⟨rfl, rfl, rfl, rfl⟩) rfl rfl rfl (by omega) (by omega) (by omega) (by omega) ?_
          try simp only [xo_u, xo_w, Nat.reduceEqDiff, reduceIte, false_and, true_and]
          refine xe_bipush xt_g338 rfl (q := 73) rfl (by decide) (by decide) ?_
          refine xe_ic_ne xt_g338 rfl (t := 80) rfl (q := 76) rfl (by first | omega | exact hw.1 _ | exact hw.2 _ _ | exact xb_r _) (by first | omega | exact hw.1 _ | exact hw.2 _ _ | exact xb_r _) (fun h73 => ?_) (fun h73 => ?_)
          · refine xe_s (f := (81, _, xi 0 :: _, _)) xt_g338 rfl rfl rfl rfl rfl ?_
            exact j81 _ (by rw [b1 (by omega)] at h73; rw [decide_eq_false (fun e => h73 ((one 47).mp e).2)]; rfl)
          · refine xe_s (f := (77, _, xi 1 :: _, _)) xt_g338 rfl rfl rfl rfl rfl ?_
            refine xe_s (f := (81, _, _, _)) xt_g338 rfl rfl rfl rfl rfl ?_
            exact j81 _ (by rw [b1 (by omega)] at h73; rw [decide_eq_true ((one 47).mpr ⟨by omega, Decidable.not_not.mp h73⟩)]; rfl)
      refine xe_s (f := (32, _, _, _)) xt_g338 rfl rfl rfl rfl rfl ?_
      refine xe_mgs xt_g338 rfl (q := 35) rfl (xf_13_149 fm) (by decide) rfl (by omega) ?_
      try simp only [xo_u, xo_w, Nat.reduceEqDiff, reduceIte, false_and, true_and]
      rw [i2]
      refine xe_s (f := (36, _, xi 1 :: _, _)) xt_g338 rfl rfl rfl rfl rfl ?_
      refine xe_ic_ne xt_g338 rfl (t := 54) rfl (q := 39) rfl (by first | omega | exact hw.1 _ | exact hw.2 _ _ | exact xb_r _) (by first | omega | exact hw.1 _ | exact hw.2 _ _ | exact xb_r _) (fun h36 => ?_) (fun h36 => ?_)
      · refine xe_s (f := (55, _, xi 0 :: _, _)) xt_g338 rfl rfl rfl rfl rfl ?_
        exact j55 _ (by rw [decide_eq_false (fun e => h36 ((one 42).mp e).1)]; rfl)
      · refine xe_s (f := (40, _, _, _)) xt_g338 rfl rfl rfl rfl rfl ?_
        refine xe_mga xt_g338 rfl (q := 43) rfl (xf_13_7 fm) (by decide) rfl (by omega) ?_
        try simp only [xo_u, xo_w, Nat.reduceEqDiff, reduceIte, false_and, true_and]
        refine xe_s (f := (44, _, xi 0 :: _, _)) xt_g338 rfl rfl rfl rfl rfl ?_
        refine xe_mal (ok := xm_isN) (ty := .int) xt_g338 rfl (q := 45) rfl (fun _ _ => ⟨rfl, rfl, rfl, rfl⟩) rfl rfl rfl (by omega) (by omega) (by omega) (by omega) ?_
        try simp only [xo_u, xo_w, Nat.reduceEqDiff, reduceIte, false_and, true_and]
        refine xe_bipush xt_g338 rfl (q := 47) rfl (by decide) (by decide) ?_
        refine xe_ic_ne xt_g338 rfl (t := 54) rfl (q := 50) rfl (by first | omega | exact hw.1 _ | exact hw.2 _ _ | exact xb_r _) (by first | omega | exact hw.1 _ | exact hw.2 _ _ | exact xb_r _) (fun h47 => ?_) (fun h47 => ?_)
        · refine xe_s (f := (55, _, xi 0 :: _, _)) xt_g338 rfl rfl rfl rfl rfl ?_
          exact j55 _ (by rw [b1 (by omega)] at h47; rw [decide_eq_false (fun e => h47 ((one 42).mp e).2)]; rfl)
        · refine xe_s (f := (51, _, xi 1 :: _, _)) xt_g338 rfl rfl rfl rfl rfl ?_
          refine xe_s (f := (55, _, _, _)) xt_g338 rfl rfl rfl rfl rfl ?_
          exact j55 _ (by rw [b1 (by omega)] at h47; rw [decide_eq_true ((one 42).mpr ⟨by omega, Decidable.not_not.mp h47⟩)]; rfl)
    · try simp only [xb_0, xb_1, ne_eq, Decidable.not_not, decide_eq_true_eq, decide_eq_false_iff_not] at h26
      have hb : (mu_if u f && mu_if u g) = false := by simpa using h26
      rw [hb] at hl hz hR ⊢
      rw [if_neg (by decide)] at hl hR
      rw [← hR]
      refine xe_s (f := (30, _, xi 0 :: _, _)) xt_g338 rfl rfl rfl rfl rfl ?_
      refine xe_iret xt_g338 rfl rfl (xi_bool (by first | omega | exact xb_or _)).1 ?_
      exact ⟨_, _, _, rfl, rfl, rfl, hz, hl⟩
  refine xe_s (f := (1, _, _, _)) xt_g338 rfl rfl rfl rfl rfl ?_
  refine xe_s (f := (2, _, _, _)) xt_g338 rfl rfl rfl rfl rfl ?_
  refine xe_s (f := (3, _, _, _)) xt_g338 rfl rfl rfl rfl rfl ?_
  refine xe_cvI xt_g338 rfl (q := 6) rfl xk_13_428 rfl (by omega) xt_g298 (by decide) ⟨Nat.le_of_ble_eq_true rfl, Nat.le_of_ble_eq_true rfl, Nat.le_of_ble_eq_true rfl⟩ (xv_isFrame fm hmn h.1 hfr) ?_
  rw [e1]
  refine xe_if_eq xt_g338 rfl (t := 21) rfl (q := 9) rfl (by first | omega | exact hw.1 _ | exact hw.2 _ _ | exact xb_r _) (fun h6 => ?_) (fun h6 => ?_)
  · try simp only [xb_0, xb_1, ne_eq, Decidable.not_not, decide_eq_true_eq, decide_eq_false_iff_not] at h6
    refine xe_s (f := (22, _, xi 0 :: _, _)) xt_g338 rfl rfl rfl rfl rfl ?_
    exact main _ (by rw [h6]; rfl)
  · try simp only [xb_0, xb_1, ne_eq, Decidable.not_not, decide_eq_true_eq, decide_eq_false_iff_not] at h6
    refine xe_s (f := (10, _, _, _)) xt_g338 rfl rfl rfl rfl rfl ?_
    refine xe_s (f := (11, _, _, _)) xt_g338 rfl rfl rfl rfl rfl ?_
    refine xe_cvI xt_g338 rfl (q := 14) rfl xk_13_428 rfl (by omega) xt_g298 (by decide) ⟨Nat.le_of_ble_eq_true rfl, Nat.le_of_ble_eq_true rfl, Nat.le_of_ble_eq_true rfl⟩ (xv_isFrame fm hmn h.1 hgr) ?_
    rw [e2]
    refine xe_if_eq xt_g338 rfl (t := 21) rfl (q := 17) rfl (by first | omega | exact hw.1 _ | exact hw.2 _ _ | exact xb_r _) (fun h14 => ?_) (fun h14 => ?_)
    · try simp only [xb_0, xb_1, ne_eq, Decidable.not_not, decide_eq_true_eq, decide_eq_false_iff_not] at h14
      refine xe_s (f := (22, _, xi 0 :: _, _)) xt_g338 rfl rfl rfl rfl rfl ?_
      exact main _ (by rw [h14, Bool.and_false]; rfl)
    · try simp only [xb_0, xb_1, ne_eq, Decidable.not_not, decide_eq_true_eq, decide_eq_false_iff_not] at h14
      refine xe_s (f := (18, _, xi 1 :: _, _)) xt_g338 rfl rfl rfl rfl rfl ?_
      refine xe_s (f := (22, _, _, _)) xt_g338 rfl rfl rfl rfl rfl ?_
      exact main _ (by rw [show mu_if u f = true by simpa using h6, show mu_if u g = true by simpa using h14]; rfl)
end XPO
