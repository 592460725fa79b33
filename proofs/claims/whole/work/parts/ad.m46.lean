/-! the reference: child, navigate, fetch -/
def mu_child (u : mu_T) (f : Int) : Int × mu_T := if mu_if u f = true then (if mu_ad u f = none ∨ mu_dep (mu_fr u) 6 f = 5 then (-1, mu_refuse u f 2) else match mu_res u (mu_ad u f) with
  | none => (-1, mu_refuse u f 1)
  | some a => if mu_ff u < 0 ∨ mu_fq u < 0 then (-1, mu_refuse u f 3) else (mu_ff u, (mu_go (mu_sfr (mu_sln u []) (mu_up (mu_fr u) (mu_ff u).toNat (some ((mf_pt (mu_fr u f.toNat)).1, f, none)))) (mu_ff u) a).2)) else (0, mu_sln u [])
def mu_nav (u : mu_T) (f g : Int) : Int × mu_T := if (mu_if u f && mu_if u g) = true then (if mu_may u f g = false then (-1, mu_refuse u f 2) else match mu_res u (mu_ad u f) with
  | none => (-1, mu_refuse u f 1)
  | some a => if (mu_go u g a).1 < 0 then (-1, mu_refuse (mu_go u g a).2 f 3) else ((mu_go u g a).1, mu_sln (mu_go u g a).2 [])) else (0, mu_sln u [])
def mu_fetch (u : mu_T) (f how : Int) (wi : Bool) : Int × mu_T := if mu_if u f = true then (match mu_ad u f with
  | none => (-1, mu_refuse u f 2)
  | some b => if how < 0 ∨ 2 < how then (-1, mu_refuse u f 2) else match mu_res u (some b) with
    | none => (-1, mu_refuse u f 1)
    | some a => if how = 0 ∧ pa_hd a ≠ pa_hd b then (-1, mu_refuse u f 2) else if mu_fq u < 0 then (-1, mu_refuse u f 3) else (mu_fq u, mu_send (mu_sln u []) (mu_fq u).toNat (f, some (how, wi, b), 0, a, none))) else (0, mu_sln u [])
theorem rf_or_k {K : List Nat} {s s1 : Nat → Int} {ar ar1 : Nat → Nat → Int} {O : List pa_A} (h : rf_or s ar O) (e : s1 53 = s 53) (F : xs_F K ar ar1) (hK : ∀ k, k ∈ K → k < 90) : rf_or s1 ar1 O := by
  have h8 := h.2.1
  refine ⟨e.trans h.1, h8, fun k hk => ⟨pa_at_F (h.2.2 k hk).1 F (by omega) (fun hm => ?_), (h.2.2 k hk).2⟩⟩
  have := hK _ hm
  omega
section XCN
variable (fm : Value) {m n : Nat} {h0 : xm_H} {s : Nat → Int} {ar : Nat → Nat → Int} {u : mu_T}
theorem xV_child (hmn : xo_in m n) (h : rf s ar u) {dp : Nat → Nat} (ht : mi_tr (mu_fr u) dp) {f : Int} (hfr : xr f) : xV fm 297 m n h0 s ar [.ref m, xi f] (fun z s' ar' => z = (mu_child u f).1 ∧ s' 0 = xb (!mu_if u f) ∧ rf s' ar' (mu_child u f).2) := by
  show xe fm 297 (0, [(0, .ref m), (1, xi f)], [], (xo m s ar h0, n, 0, 0)) _
  generalize hR : mu_child u f = R
  unfold mu_child at hR
  have e1 := rf_if h (f := f)
  have lk := xv_lacks fm hmn (h0 := h0) (s := s) (ar := ar) (b := mu_if u f) (t := true)
  obtain ⟨hl, hz⟩ := rf_lkt h (b := mu_if u f)
  generalize (if mu_if u f = true then xo_u s 0 0 else if true = true then xo_u (xo_u s 0 1) 2 0 else xo_u s 0 1) = s1 at *
  refine xe_s (f := (1, _, _, _)) xt_g297 rfl rfl rfl rfl rfl ?_
  refine xe_s (f := (2, _, _, _)) xt_g297 rfl rfl rfl rfl rfl ?_
  refine xe_s (f := (3, _, _, _)) xt_g297 rfl rfl rfl rfl rfl ?_
  refine xe_cvI xt_g297 rfl (q := 6) rfl xk_13_428 rfl (by omega) xt_g298 (by decide) ⟨Nat.le_of_ble_eq_true rfl, Nat.le_of_ble_eq_true rfl, Nat.le_of_ble_eq_true rfl⟩ (xv_isFrame fm hmn h.1 hfr) ?_
  rw [e1]
  refine xe_s (f := (7, _, xi 1 :: _, _)) xt_g297 rfl rfl rfl rfl rfl ?_
  refine xe_cvI xt_g297 rfl (q := 10) rfl xk_13_418 rfl (by omega) xt_g292 (by decide) ⟨Nat.le_of_ble_eq_true rfl, Nat.le_of_ble_eq_true rfl, Nat.le_of_ble_eq_true rfl⟩ (lk) ?_
  refine xe_if_eq xt_g297 rfl (t := 15) rfl (q := 13) rfl (by first | omega | exact hw.1 _ | exact hw.2 _ _ | exact xb_r _) (fun h10 => ?_) (fun h10 => ?_)
  · try simp only [xb_0, xb_1, ne_eq, Decidable.not_not, decide_eq_true_eq, decide_eq_false_iff_not] at h10
    have hb : mu_if u f = true := by simpa using h10
    rw [hb] at hl hz hR ⊢
    rw [if_pos rfl] at hl hR
    obtain ⟨F, x, rfl, hF, hx⟩ := mu_if_s hb
    obtain ⟨x1, x2, x3, x4, x5, x6, x7, x8⟩ := rf_f hl hF hx
    have a44 : ar 44 (F : Int).toNat = xb x.2.2.isSome := x7
    have a42 : ar 42 (F : Int).toNat = x.1 := x1
    have ead : mu_ad u F = x.2.2 := by
      unfold mu_ad
      rw [Int.toNat_natCast, hx]
    have d5 := (ht F hF x hx).2.1
    have edp := mu_dep_eq ht 6 F x hF hx (by omega)
    rw [edp] at hR
    have rfs : ∀ w : Int, 1 ≤ w ∧ w ≤ 3 → R = (-1, mu_refuse u F w) → ∀ (s2 : Nat → Int) (ar2 : Nat → Nat → Int), rf s2 ar2 u → s2 0 = xb (!true) → xV fm 300 m n h0 s2 ar2 [.ref m, xi (F : Int), xi w] (fun z s' ar' => z = R.1 ∧ s' 0 = xb (!true) ∧ rf s' ar' R.2) := by
      intro w hw hRw s2 ar2 h2 hz2
      rw [hRw]
      exact xV_mono (xV_refuse fm hmn h2 (f := (F : Int)) (w := w) (by omega) (by omega)) (fun z s' ar' hp => ⟨hp.1, hp.2.1.trans hz2, hp.2.2⟩)
    cases hxa : x.2.2 with
    | none =>
      rw [hxa] at a44 ead
      rw [if_pos (Or.inl ead)] at hR
      refine xe_s (f := (16, _, _, _)) xt_g297 rfl rfl rfl rfl rfl ?_
      refine xe_mga xt_g297 rfl (q := 19) rfl (xf_13_90 fm) (by decide) rfl (by omega) ?_
      try simp only [xo_u, xo_w, Nat.reduceEqDiff, reduceIte, false_and, true_and]
      refine xe_s (f := (20, _, _, _)) xt_g297 rfl rfl rfl rfl rfl ?_
      refine xe_mal (ok := xm_isB) (ty := .boolean) xt_g297 rfl (q := 21) rfl (fun _ _ => ⟨rfl, rfl, rfl, rfl⟩) rfl rfl rfl (by omega) (by omega) (by omega) (by omega) ?_
      try simp only [xo_u, xo_w, Nat.reduceEqDiff, reduceIte, false_and, true_and]
      rw [a44]
      refine xe_if_eq xt_g297 rfl (t := 33) rfl (q := 24) rfl (by first | omega | exact hw.1 _ | exact hw.2 _ _ | exact xb_r _) (fun h21 => ?_) (fun h21 => ?_)
      · try simp only [xb_0, xb_1, ne_eq, Decidable.not_not, decide_eq_true_eq, decide_eq_false_iff_not] at h21
        refine xe_s (f := (34, _, _, _)) xt_g297 rfl rfl rfl rfl rfl ?_
        refine xe_s (f := (35, _, _, _)) xt_g297 rfl rfl rfl rfl rfl ?_
        refine xe_s (f := (36, _, xi 2 :: _, _)) xt_g297 rfl rfl rfl rfl rfl ?_
        refine xe_chI xt_g297 rfl (q := 39) rfl xk_13_434 rfl (by omega) xt_g300 (by decide) ⟨Nat.le_of_ble_eq_true rfl, Nat.le_of_ble_eq_true rfl, Nat.le_of_ble_eq_true rfl⟩ (rfs 2 (by omega) hR.symm s1 ar hl hz) (fun z3 s3 ar3 hp3 => ?_)
        refine xe_iret xt_g297 rfl rfl xi_int.1 ?_
        exact ⟨_, _, _, rfl, rfl, hp3⟩
      · exact absurd rfl h21
    | some b =>
      rw [hxa] at a44 ead
      obtain ⟨A1, A2⟩ := x8 b hxa
      have rs := xV_res fm hmn (h0 := h0) hl (b := (F : Int)) (base := mu_ad u F) (Or.inr ⟨by omega, b, ead, A1, A2⟩)
      refine xe_s (f := (16, _, _, _)) xt_g297 rfl rfl rfl rfl rfl ?_
      refine xe_mga xt_g297 rfl (q := 19) rfl (xf_13_90 fm) (by decide) rfl (by omega) ?_
      try simp only [xo_u, xo_w, Nat.reduceEqDiff, reduceIte, false_and, true_and]
      refine xe_s (f := (20, _, _, _)) xt_g297 rfl rfl rfl rfl rfl ?_
      refine xe_mal (ok := xm_isB) (ty := .boolean) xt_g297 rfl (q := 21) rfl (fun _ _ => ⟨rfl, rfl, rfl, rfl⟩) rfl rfl rfl (by omega) (by omega) (by omega) (by omega) ?_
      try simp only [xo_u, xo_w, Nat.reduceEqDiff, reduceIte, false_and, true_and]
      rw [a44]
      refine xe_if_eq xt_g297 rfl (t := 33) rfl (q := 24) rfl (by first | omega | exact hw.1 _ | exact hw.2 _ _ | exact xb_r _) (fun h21 => ?_) (fun h21 => ?_)
      · exact absurd h21 (show ¬ xb true = 0 by decide)
      · try simp only [xb_0, xb_1, ne_eq, Decidable.not_not, decide_eq_true_eq, decide_eq_false_iff_not] at h21
        refine xe_s (f := (25, _, _, _)) xt_g297 rfl rfl rfl rfl rfl ?_
        refine xe_s (f := (26, _, _, _)) xt_g297 rfl rfl rfl rfl rfl ?_
        refine xe_cvI xt_g297 rfl (q := 29) rfl xk_13_431 rfl (by omega) xt_g299 (by decide) ⟨Nat.le_of_ble_eq_true rfl, Nat.le_of_ble_eq_true rfl, Nat.le_of_ble_eq_true rfl⟩ (xv_depthOf fm hmn hl ht hF hx) ?_
        refine xe_s (f := (30, _, xi 5 :: _, _)) xt_g297 rfl rfl rfl rfl rfl ?_
        refine xe_ic_ne xt_g297 rfl (t := 40) rfl (q := 33) rfl (by first | omega | exact hw.1 _ | exact hw.2 _ _ | exact xb_r _) (by first | omega | exact hw.1 _ | exact hw.2 _ _ | exact xb_r _) (fun h30 => ?_) (fun h30 => ?_)
        · have hno : ¬ (mu_ad u F = none ∨ (dp F : Int) = 5) := by
            rintro (h | h)
            · rw [ead] at h; cases h
            · exact h30 h
          rw [if_neg hno] at hR
          refine xe_s (f := (41, _, _, _)) xt_g297 rfl rfl rfl rfl rfl ?_
          refine xe_s (f := (42, _, _, _)) xt_g297 rfl rfl rfl rfl rfl ?_
          refine xe_chI xt_g297 rfl (q := 45) rfl xk_13_403 rfl (by omega) xt_g257 (by decide) ⟨Nat.le_of_ble_eq_true rfl, Nat.le_of_ble_eq_true rfl, Nat.le_of_ble_eq_true rfl⟩ (rs) (fun z4 s4 ar4 hp4 => ?_)
          obtain ⟨q4, F4, h4, pz4, po4⟩ := hp4
          have z04 : s4 0 = xb (!true) := (q4.1 0 (by decide)).trans hz
          rw [pz4]
          refine xe_if_ne xt_g297 rfl (t := 55) rfl (q := 48) rfl (by first | omega | exact hw.1 _ | exact hw.2 _ _ | exact xb_r _) (fun h45 => ?_) (fun h45 => ?_)
          · try simp only [xb_0, xb_1, ne_eq, Decidable.not_not, decide_eq_true_eq, decide_eq_false_iff_not] at h45
            obtain ⟨a, hra⟩ : ∃ a, mu_res u (mu_ad u F) = some a := by
              cases hh : mu_res u (mu_ad u F) with
              | none => rw [hh] at h45; exact absurd h45 (by decide)
              | some a => exact ⟨a, rfl⟩
            rw [hra] at hR
            dsimp only at hR
            have oa := po4 a hra
            have e2 : xd_ff ar4 = mu_ff u := rf_ff h4.2.2.2.2.2.2.2.2.1
            have e3 : xd_fq ar4 = mu_fq u := rf_fq h4.2.2.2.2.2.2.2.2.2.1
            have hff := xd_first_r (p := fun f => (mu_fr u f.toNat).isNone) 16 0
            have hff2 : mu_ff u = -1 ∨ (0 ≤ mu_ff u ∧ mu_ff u < 16) := by unfold mu_ff; omega
            have hfq := xd_first_r (p := fun r => (mu_rq u r.toNat).isNone) 24 0
            have hfq2 : mu_fq u = -1 ∨ (0 ≤ mu_fq u ∧ mu_fq u < 24) := by unfold mu_fq; omega
            refine xe_s (f := (56, _, _, _)) xt_g297 rfl rfl rfl rfl rfl ?_
            refine xe_cvI xt_g297 rfl (q := 59) rfl xk_13_406 rfl (by omega) xt_g275 (by decide) ⟨Nat.le_of_ble_eq_true rfl, Nat.le_of_ble_eq_true rfl, Nat.le_of_ble_eq_true rfl⟩ (xv_freeFrame fm hmn h4.1) ?_
            rw [e2]
            refine xe_s (f := (60, [(2, _), (0, _), (1, _)], _, _)) xt_g297 rfl rfl rfl rfl rfl ?_
            refine xe_s (f := (61, _, _, _)) xt_g297 rfl rfl rfl rfl rfl ?_
            refine xe_if_lt xt_g297 rfl (t := 71) rfl (q := 64) rfl (by first | omega | exact hw.1 _ | exact hw.2 _ _ | exact xb_r _) (fun h61 => ?_) (fun h61 => ?_)
            · try simp only [xb_0, xb_1, ne_eq, Decidable.not_not, decide_eq_true_eq, decide_eq_false_iff_not] at h61
              rw [if_pos (by omega)] at hR
              refine xe_s (f := (72, _, _, _)) xt_g297 rfl rfl rfl rfl rfl ?_
              refine xe_s (f := (73, _, _, _)) xt_g297 rfl rfl rfl rfl rfl ?_
              refine xe_s (f := (74, _, xi 3 :: _, _)) xt_g297 rfl rfl rfl rfl rfl ?_
              refine xe_chI xt_g297 rfl (q := 77) rfl xk_13_434 rfl (by omega) xt_g300 (by decide) ⟨Nat.le_of_ble_eq_true rfl, Nat.le_of_ble_eq_true rfl, Nat.le_of_ble_eq_true rfl⟩ (rfs 3 (by omega) hR.symm s4 ar4 h4 z04) (fun z3 s3 ar3 hp3 => ?_)
              refine xe_iret xt_g297 rfl rfl xi_int.1 ?_
              exact ⟨_, _, _, rfl, rfl, hp3⟩
            · try simp only [xb_0, xb_1, ne_eq, Decidable.not_not, decide_eq_true_eq, decide_eq_false_iff_not] at h61
              refine xe_s (f := (65, _, _, _)) xt_g297 rfl rfl rfl rfl rfl ?_
              refine xe_cvI xt_g297 rfl (q := 68) rfl xk_13_380 rfl (by omega) xt_g276 (by decide) ⟨Nat.le_of_ble_eq_true rfl, Nat.le_of_ble_eq_true rfl, Nat.le_of_ble_eq_true rfl⟩ (xv_freeRequest fm hmn h4.1) ?_
              rw [e3]
              refine xe_if_ge xt_g297 rfl (t := 78) rfl (q := 71) rfl (by first | omega | exact hw.1 _ | exact hw.2 _ _ | exact xb_r _) (fun h68 => ?_) (fun h68 => ?_)
              · try simp only [xb_0, xb_1, ne_eq, Decidable.not_not, decide_eq_true_eq, decide_eq_false_iff_not] at h68
                rw [if_neg (by omega)] at hR
                obtain ⟨G, hG⟩ := Int.eq_ofNat_of_zero_le (show 0 ≤ mu_ff u by omega)
                have h5 := rf_cl h4
                have h6 := rf_nf h5 (f := G) (t := x.1) (p := (F : Int)) (by omega) (by omega) (by omega)
                have A6 : pa_at (xo_w (xo_w (xo_w ar4 42 G x.1) 43 G (F : Int)) 44 G 0) ((40 : Nat) : Int) (pa_text a) := pa_at_c oa.1 (by rw [xo_wK (by decide), xo_wK (by decide), xo_wK (by decide)]) (by rw [xo_wK (by decide), xo_wK (by decide), xo_wK (by decide)])
                have gg := xV_go fm hmn (h0 := h0) h6 (f := G) A6 oa.2 (by omega)
                have nf := xv_newFrame fm hmn (h0 := h0) (s := xo_u s4 2 0) (ar := ar4) (f := (G : Int)) (t := x.1) (p := (F : Int)) (by omega)
                rw [Int.toNat_natCast] at nf
                rw [← hG] at nf gg
                have b42 : ar4 42 (F : Int).toNat = x.1 := (rf_f h4 hF hx).1
                refine xe_s (f := (79, _, _, _)) xt_g297 rfl rfl rfl rfl rfl ?_
                refine xe_s (f := (80, _, xi 0 :: _, _)) xt_g297 rfl rfl rfl rfl rfl ?_
                refine xe_mps xt_g297 rfl (q := 83) rfl (xf_13_149 fm) (by decide) rfl (by omega) (by omega) xi_int (Or.inl rfl) ?_
                refine xe_s (f := (84, _, _, _)) xt_g297 rfl rfl rfl rfl rfl ?_
                refine xe_s (f := (85, _, _, _)) xt_g297 rfl rfl rfl rfl rfl ?_
                refine xe_s (f := (86, _, _, _)) xt_g297 rfl rfl rfl rfl rfl ?_
                refine xe_mga xt_g297 rfl (q := 89) rfl (xf_13_84 fm) (by decide) rfl (by omega) ?_
                try simp only [xo_u, xo_w, Nat.reduceEqDiff, reduceIte, false_and, true_and]
                refine xe_s (f := (90, _, _, _)) xt_g297 rfl rfl rfl rfl rfl ?_
                refine xe_mal (ok := xm_isN) (ty := .int) xt_g297 rfl (q := 91) rfl (fun _ _ => ⟨rfl, rfl, rfl, rfl⟩) rfl rfl rfl (by omega) (by omega) (by omega) (by omega) ?_
                try simp only [xo_u, xo_w, Nat.reduceEqDiff, reduceIte, false_and, true_and]
                rw [b42]
                refine xe_s (f := (92, _, _, _)) xt_g297 rfl rfl rfl rfl rfl ?_
                refine xe_cvV xt_g297 rfl (q := 95) rfl xk_13_409 rfl (by omega) xt_g277 (by decide) ⟨Nat.le_of_ble_eq_true rfl, Nat.le_of_ble_eq_true rfl, Nat.le_of_ble_eq_true rfl⟩ (nf) ?_
                refine xe_s (f := (96, _, _, _)) xt_g297 rfl rfl rfl rfl rfl ?_
                refine xe_s (f := (97, _, _, _)) xt_g297 rfl rfl rfl rfl rfl ?_
                refine xe_chI xt_g297 rfl (q := 100) rfl xk_13_412 rfl (by omega) xt_g278 (by decide) ⟨Nat.le_of_ble_eq_true rfl, Nat.le_of_ble_eq_true rfl, Nat.le_of_ble_eq_true rfl⟩ (gg) (fun z7 s7 ar7 hp7 => ?_)
                refine xe_s (f := (101, [(3, _), (2, _), (0, _), (1, _)], _, _)) xt_g297 rfl rfl rfl rfl rfl ?_
                refine xe_s (f := (102, _, _, _)) xt_g297 rfl rfl rfl rfl rfl ?_
                refine xe_iret xt_g297 rfl rfl xi_int.1 ?_
                obtain ⟨_, g2, g3⟩ := hp7
                rw [← hR]
                refine ⟨_, _, _, rfl, rfl, rfl, g2.trans z04, ?_⟩
                rw [Int.toNat_natCast, hx, show (mu_ff u).toNat = G by omega]
                exact g3
              · try simp only [xb_0, xb_1, ne_eq, Decidable.not_not, decide_eq_true_eq, decide_eq_false_iff_not] at h68
                rw [if_pos (by omega)] at hR
                refine xe_s (f := (72, _, _, _)) xt_g297 rfl rfl rfl rfl rfl ?_
                refine xe_s (f := (73, _, _, _)) xt_g297 rfl rfl rfl rfl rfl ?_
                refine xe_s (f := (74, _, xi 3 :: _, _)) xt_g297 rfl rfl rfl rfl rfl ?_
                refine xe_chI xt_g297 rfl (q := 77) rfl xk_13_434 rfl (by omega) xt_g300 (by decide) ⟨Nat.le_of_ble_eq_true rfl, Nat.le_of_ble_eq_true rfl, Nat.le_of_ble_eq_true rfl⟩ (rfs 3 (by omega) hR.symm s4 ar4 h4 z04) (fun z3 s3 ar3 hp3 => ?_)
                refine xe_iret xt_g297 rfl rfl xi_int.1 ?_
                exact ⟨_, _, _, rfl, rfl, hp3⟩
          · try simp only [xb_0, xb_1, ne_eq, Decidable.not_not, decide_eq_true_eq, decide_eq_false_iff_not] at h45
            have hrn : mu_res u (mu_ad u F) = none := by
              cases hh : mu_res u (mu_ad u F) with
              | none => rfl
              | some a => rw [hh] at h45; cases h45
            rw [hrn] at hR
            refine xe_s (f := (49, _, _, _)) xt_g297 rfl rfl rfl rfl rfl ?_
            refine xe_s (f := (50, _, _, _)) xt_g297 rfl rfl rfl rfl rfl ?_
            refine xe_s (f := (51, _, xi 1 :: _, _)) xt_g297 rfl rfl rfl rfl rfl ?_
            refine xe_chI xt_g297 rfl (q := 54) rfl xk_13_434 rfl (by omega) xt_g300 (by decide) ⟨Nat.le_of_ble_eq_true rfl, Nat.le_of_ble_eq_true rfl, Nat.le_of_ble_eq_true rfl⟩ (rfs 1 (by omega) hR.symm s4 ar4 h4 z04) (fun z3 s3 ar3 hp3 => ?_)
            refine xe_iret xt_g297 rfl rfl xi_int.1 ?_
            exact ⟨_, _, _, rfl, rfl, hp3⟩
        · rw [if_pos (Or.inr (Decidable.not_not.mp h30))] at hR
          refine xe_s (f := (34, _, _, _)) xt_g297 rfl rfl rfl rfl rfl ?_
          refine xe_s (f := (35, _, _, _)) xt_g297 rfl rfl rfl rfl rfl ?_
          refine xe_s (f := (36, _, xi 2 :: _, _)) xt_g297 rfl rfl rfl rfl rfl ?_
          refine xe_chI xt_g297 rfl (q := 39) rfl xk_13_434 rfl (by omega) xt_g300 (by decide) ⟨Nat.le_of_ble_eq_true rfl, Nat.le_of_ble_eq_true rfl, Nat.le_of_ble_eq_true rfl⟩ (rfs 2 (by omega) hR.symm s1 ar hl hz) (fun z3 s3 ar3 hp3 => ?_)
          refine xe_iret xt_g297 rfl rfl xi_int.1 ?_
          exact ⟨_, _, _, rfl, rfl, hp3⟩
  · try simp only [xb_0, xb_1, ne_eq, Decidable.not_not, decide_eq_true_eq, decide_eq_false_iff_not] at h10
    have hb : mu_if u f = false := by simpa using h10
    rw [hb] at hl hz hR ⊢
    rw [if_neg (by decide)] at hl hR
    rw [← hR]
    refine xe_s (f := (14, _, xi 0 :: _, _)) xt_g297 rfl rfl rfl rfl rfl ?_
    refine xe_iret xt_g297 rfl rfl xi_int.1 ?_
    exact ⟨_, _, _, rfl, rfl, rfl, hz, hl⟩
theorem xV_navigate (hmn : xo_in m n) (h : rf s ar u) {dp : Nat → Nat} (ht : mi_tr (mu_fr u) dp) {f g : Int} (hfr : xr f) (hgr : xr g) : xV fm 301 m n h0 s ar [.ref m, xi f, xi g] (fun z s' ar' => z = (mu_nav u f g).1 ∧ s' 0 = xb (!(mu_if u f && mu_if u g)) ∧ rf s' ar' (mu_nav u f g).2) := by
  show xe fm 301 (0, [(0, .ref m), (1, xi f), (2, xi g)], [], (xo m s ar h0, n, 0, 0)) _
  generalize hR : mu_nav u f g = R
  unfold mu_nav at hR
  have e1 := rf_if h (f := f)
  have e2 := rf_if h (f := g)
  have lk := xv_lacks fm hmn (h0 := h0) (s := s) (ar := ar) (b := mu_if u f && mu_if u g) (t := true)
  obtain ⟨hl, hz⟩ := rf_lkt h (b := mu_if u f && mu_if u g)
  generalize (if (mu_if u f && mu_if u g) = true then xo_u s 0 0 else if true = true then xo_u (xo_u s 0 1) 2 0 else xo_u s 0 1) = s1 at *
  have main : ∀ z : Int, z = xb (mu_if u f && mu_if u g) → xe fm 301 (22, [(0, .ref m), (1, xi f), (2, xi g)], [xi z, .ref m], (xo m s ar h0, n, 0, 0)) (xQI m n h0 (fun z s' ar' => z = R.1 ∧ s' 0 = xb (!(mu_if u f && mu_if u g)) ∧ rf s' ar' R.2)) := by
    intro z hzz
    rw [hzz]
    refine xe_s (f := (23, _, xi 1 :: _, _)) xt_g301 rfl rfl rfl rfl rfl ?_
    refine xe_cvI xt_g301 rfl (q := 26) rfl xk_13_418 rfl (by omega) xt_g292 (by decide) ⟨Nat.le_of_ble_eq_true rfl, Nat.le_of_ble_eq_true rfl, Nat.le_of_ble_eq_true rfl⟩ (lk) ?_
    refine xe_if_eq xt_g301 rfl (t := 31) rfl (q := 29) rfl (by first | omega | exact hw.1 _ | exact hw.2 _ _ | exact xb_r _) (fun h26 => ?_) (fun h26 => ?_)
    · try simp only [xb_0, xb_1, ne_eq, Decidable.not_not, decide_eq_true_eq, decide_eq_false_iff_not] at h26
      have hb : (mu_if u f && mu_if u g) = true := by simpa using h26
      rw [hb] at hl hz hR ⊢
      rw [if_pos rfl] at hl hR
      rw [Bool.and_eq_true] at hb
      obtain ⟨F, x, rfl, hF, hx⟩ := mu_if_s hb.1
      obtain ⟨G, y, rfl, hG, hy⟩ := mu_if_s hb.2
      obtain ⟨x1, x2, x3, x4, x5, x6, x7, x8⟩ := rf_f hl hF hx
      have ead : mu_ad u F = x.2.2 := by
        unfold mu_ad
        rw [Int.toNat_natCast, hx]
      have rfs : ∀ w : Int, 1 ≤ w ∧ w ≤ 3 → ∀ u' : mu_T, R = (-1, mu_refuse u' F w) → ∀ (s2 : Nat → Int) (ar2 : Nat → Nat → Int), rf s2 ar2 u' → s2 0 = xb (!true) → xV fm 300 m n h0 s2 ar2 [.ref m, xi (F : Int), xi w] (fun z s' ar' => z = R.1 ∧ s' 0 = xb (!true) ∧ rf s' ar' R.2) := by
        intro w hw u' hRw s2 ar2 h2 hz2
        rw [hRw]
        exact xV_mono (xV_refuse fm hmn h2 (f := (F : Int)) (w := w) (by omega) (by omega)) (fun z s' ar' hp => ⟨hp.1, hp.2.1.trans hz2, hp.2.2⟩)
      refine xe_s (f := (32, _, _, _)) xt_g301 rfl rfl rfl rfl rfl ?_
      refine xe_s (f := (33, _, _, _)) xt_g301 rfl rfl rfl rfl rfl ?_
      refine xe_s (f := (34, _, _, _)) xt_g301 rfl rfl rfl rfl rfl ?_
      refine xe_cvI xt_g301 rfl (q := 37) rfl xk_13_440 rfl (by omega) xt_g302 (by decide) ⟨Nat.le_of_ble_eq_true rfl, Nat.le_of_ble_eq_true rfl, Nat.le_of_ble_eq_true rfl⟩ (xv_may fm hmn hl ht hF hx hG hy) ?_
      refine xe_if_ne xt_g301 rfl (t := 47) rfl (q := 40) rfl (by first | omega | exact hw.1 _ | exact hw.2 _ _ | exact xb_r _) (fun h37 => ?_) (fun h37 => ?_)
      · try simp only [xb_0, xb_1, ne_eq, Decidable.not_not, decide_eq_true_eq, decide_eq_false_iff_not] at h37
        have hmy : mu_may u F G = true := by simpa using h37
        rw [if_neg (by rw [hmy]; decide)] at hR
        obtain ⟨b, hxa⟩ : ∃ b, x.2.2 = some b := by
          cases hh : x.2.2 with
          | none =>
            rw [hh] at ead
            unfold mu_may at hmy
            rw [ead] at hmy
            cases hmy
          | some b => exact ⟨b, rfl⟩
        obtain ⟨A1, A2⟩ := x8 b hxa
        have rs := xV_res fm hmn (h0 := h0) hl (b := (F : Int)) (base := mu_ad u F) (Or.inr ⟨by omega, b, ead.trans hxa, A1, A2⟩)
        refine xe_s (f := (48, _, _, _)) xt_g301 rfl rfl rfl rfl rfl ?_
        refine xe_s (f := (49, _, _, _)) xt_g301 rfl rfl rfl rfl rfl ?_
        refine xe_chI xt_g301 rfl (q := 52) rfl xk_13_403 rfl (by omega) xt_g257 (by decide) ⟨Nat.le_of_ble_eq_true rfl, Nat.le_of_ble_eq_true rfl, Nat.le_of_ble_eq_true rfl⟩ (rs) (fun z4 s4 ar4 hp4 => ?_)
        obtain ⟨q4, F4, h4, pz4, po4⟩ := hp4
        have z04 : s4 0 = xb (!true) := (q4.1 0 (by decide)).trans hz
        rw [pz4]
        refine xe_if_ne xt_g301 rfl (t := 62) rfl (q := 55) rfl (by first | omega | exact hw.1 _ | exact hw.2 _ _ | exact xb_r _) (fun h52 => ?_) (fun h52 => ?_)
        · try simp only [xb_0, xb_1, ne_eq, Decidable.not_not, decide_eq_true_eq, decide_eq_false_iff_not] at h52
          obtain ⟨a, hra⟩ : ∃ a, mu_res u (mu_ad u F) = some a := by
            cases hh : mu_res u (mu_ad u F) with
            | none => rw [hh] at h52; exact absurd h52 (by decide)
            | some a => exact ⟨a, rfl⟩
          rw [hra] at hR
          dsimp only at hR
          have oa := po4 a hra
          have gg := xV_go fm hmn (h0 := h0) h4 (f := G) oa.1 oa.2 hG
          refine xe_s (f := (63, _, _, _)) xt_g301 rfl rfl rfl rfl rfl ?_
          refine xe_s (f := (64, _, _, _)) xt_g301 rfl rfl rfl rfl rfl ?_
          refine xe_chI xt_g301 rfl (q := 67) rfl xk_13_412 rfl (by omega) xt_g278 (by decide) ⟨Nat.le_of_ble_eq_true rfl, Nat.le_of_ble_eq_true rfl, Nat.le_of_ble_eq_true rfl⟩ (gg) (fun z5 s5 ar5 hp5 => ?_)
          obtain ⟨g1, g2, g3⟩ := hp5
          have hzr : xr z5 := by
            rw [g1]
            have hfq := xd_first_r (p := fun r => (mu_rq (mu_go1 u G) r.toNat).isNone) 24 0
            unfold mu_go
            split
            · show xr (-1)
              omega
            · show xr (mu_fq (mu_go1 u G))
              unfold mu_fq
              omega
          refine xe_s (f := (68, [(3, _), (0, _), (1, _), (2, _)], _, _)) xt_g301 rfl rfl rfl rfl rfl ?_
          refine xe_s (f := (69, _, _, _)) xt_g301 rfl rfl rfl rfl rfl ?_
          refine xe_if_ge xt_g301 rfl (t := 79) rfl (q := 72) rfl (by first | omega | exact hw.1 _ | exact hw.2 _ _ | exact xb_r _) (fun h69 => ?_) (fun h69 => ?_)
          · try simp only [xb_0, xb_1, ne_eq, Decidable.not_not, decide_eq_true_eq, decide_eq_false_iff_not] at h69
            refine xe_s (f := (80, _, _, _)) xt_g301 rfl rfl rfl rfl rfl ?_
            refine xe_s (f := (81, _, xi 0 :: _, _)) xt_g301 rfl rfl rfl rfl rfl ?_
            refine xe_mps xt_g301 rfl (q := 84) rfl (xf_13_149 fm) (by decide) rfl (by omega) (by omega) xi_int (Or.inl rfl) ?_
            refine xe_s (f := (85, _, _, _)) xt_g301 rfl rfl rfl rfl rfl ?_
            refine xe_iret xt_g301 rfl rfl xi_int.1 ?_
            rw [if_neg (by omega)] at hR
            rw [← hR]
            exact ⟨_, _, _, rfl, rfl, g1, g2.trans z04, rf_cl g3⟩
          · try simp only [xb_0, xb_1, ne_eq, Decidable.not_not, decide_eq_true_eq, decide_eq_false_iff_not] at h69
            rw [if_pos (by omega)] at hR
            refine xe_s (f := (73, _, _, _)) xt_g301 rfl rfl rfl rfl rfl ?_
            refine xe_s (f := (74, _, _, _)) xt_g301 rfl rfl rfl rfl rfl ?_
            refine xe_s (f := (75, _, xi 3 :: _, _)) xt_g301 rfl rfl rfl rfl rfl ?_
            refine xe_chI xt_g301 rfl (q := 78) rfl xk_13_434 rfl (by omega) xt_g300 (by decide) ⟨Nat.le_of_ble_eq_true rfl, Nat.le_of_ble_eq_true rfl, Nat.le_of_ble_eq_true rfl⟩ (rfs 3 (by omega) (mu_go u G a).2 hR.symm s5 ar5 g3 (g2.trans z04)) (fun z3 s3 ar3 hp3 => ?_)
            refine xe_iret xt_g301 rfl rfl xi_int.1 ?_
            exact ⟨_, _, _, rfl, rfl, hp3⟩
        · try simp only [xb_0, xb_1, ne_eq, Decidable.not_not, decide_eq_true_eq, decide_eq_false_iff_not] at h52
          have hrn : mu_res u (mu_ad u F) = none := by
            cases hh : mu_res u (mu_ad u F) with
            | none => rfl
            | some a => rw [hh] at h52; cases h52
          rw [hrn] at hR
          refine xe_s (f := (56, _, _, _)) xt_g301 rfl rfl rfl rfl rfl ?_
          refine xe_s (f := (57, _, _, _)) xt_g301 rfl rfl rfl rfl rfl ?_
          refine xe_s (f := (58, _, xi 1 :: _, _)) xt_g301 rfl rfl rfl rfl rfl ?_
          refine xe_chI xt_g301 rfl (q := 61) rfl xk_13_434 rfl (by omega) xt_g300 (by decide) ⟨Nat.le_of_ble_eq_true rfl, Nat.le_of_ble_eq_true rfl, Nat.le_of_ble_eq_true rfl⟩ (rfs 1 (by omega) u hR.symm s4 ar4 h4 z04) (fun z3 s3 ar3 hp3 => ?_)
          refine xe_iret xt_g301 rfl rfl xi_int.1 ?_
          exact ⟨_, _, _, rfl, rfl, hp3⟩
      · try simp only [xb_0, xb_1, ne_eq, Decidable.not_not, decide_eq_true_eq, decide_eq_false_iff_not] at h37
        rw [if_pos h37] at hR
        refine xe_s (f := (41, _, _, _)) xt_g301 rfl rfl rfl rfl rfl ?_
        refine xe_s (f := (42, _, _, _)) xt_g301 rfl rfl rfl rfl rfl ?_
        refine xe_s (f := (43, _, xi 2 :: _, _)) xt_g301 rfl rfl rfl rfl rfl ?_
        refine xe_chI xt_g301 rfl (q := 46) rfl xk_13_434 rfl (by omega) xt_g300 (by decide) ⟨Nat.le_of_ble_eq_true rfl, Nat.le_of_ble_eq_true rfl, Nat.le_of_ble_eq_true rfl⟩ (rfs 2 (by omega) u hR.symm s1 ar hl hz) (fun z3 s3 ar3 hp3 => ?_)
        refine xe_iret xt_g301 rfl rfl xi_int.1 ?_
        exact ⟨_, _, _, rfl, rfl, hp3⟩
    · try simp only [xb_0, xb_1, ne_eq, Decidable.not_not, decide_eq_true_eq, decide_eq_false_iff_not] at h26
      have hb : (mu_if u f && mu_if u g) = false := by simpa using h26
      rw [hb] at hl hz hR ⊢
      rw [if_neg (by decide)] at hl hR
      rw [← hR]
      refine xe_s (f := (30, _, xi 0 :: _, _)) xt_g301 rfl rfl rfl rfl rfl ?_
      refine xe_iret xt_g301 rfl rfl xi_int.1 ?_
      exact ⟨_, _, _, rfl, rfl, rfl, hz, hl⟩
  refine xe_s (f := (1, _, _, _)) xt_g301 rfl rfl rfl rfl rfl ?_
  refine xe_s (f := (2, _, _, _)) xt_g301 rfl rfl rfl rfl rfl ?_
  refine xe_s (f := (3, _, _, _)) xt_g301 rfl rfl rfl rfl rfl ?_
  refine xe_cvI xt_g301 rfl (q := 6) rfl xk_13_428 rfl (by omega) xt_g298 (by decide) ⟨Nat.le_of_ble_eq_true rfl, Nat.le_of_ble_eq_true rfl, Nat.le_of_ble_eq_true rfl⟩ (xv_isFrame fm hmn h.1 hfr) ?_
  rw [e1]
  refine xe_if_eq xt_g301 rfl (t := 21) rfl (q := 9) rfl (by first | omega | exact hw.1 _ | exact hw.2 _ _ | exact xb_r _) (fun h6 => ?_) (fun h6 => ?_)
  · try simp only [xb_0, xb_1, ne_eq, Decidable.not_not, decide_eq_true_eq, decide_eq_false_iff_not] at h6
    refine xe_s (f := (22, _, xi 0 :: _, _)) xt_g301 rfl rfl rfl rfl rfl ?_
    exact main _ (by rw [h6]; rfl)
  · try simp only [xb_0, xb_1, ne_eq, Decidable.not_not, decide_eq_true_eq, decide_eq_false_iff_not] at h6
    refine xe_s (f := (10, _, _, _)) xt_g301 rfl rfl rfl rfl rfl ?_
    refine xe_s (f := (11, _, _, _)) xt_g301 rfl rfl rfl rfl rfl ?_
    refine xe_cvI xt_g301 rfl (q := 14) rfl xk_13_428 rfl (by omega) xt_g298 (by decide) ⟨Nat.le_of_ble_eq_true rfl, Nat.le_of_ble_eq_true rfl, Nat.le_of_ble_eq_true rfl⟩ (xv_isFrame fm hmn h.1 hgr) ?_
    rw [e2]
    refine xe_if_eq xt_g301 rfl (t := 21) rfl (q := 17) rfl (by first | omega | exact hw.1 _ | exact hw.2 _ _ | exact xb_r _) (fun h14 => ?_) (fun h14 => ?_)
    · try simp only [xb_0, xb_1, ne_eq, Decidable.not_not, decide_eq_true_eq, decide_eq_false_iff_not] at h14
      refine xe_s (f := (22, _, xi 0 :: _, _)) xt_g301 rfl rfl rfl rfl rfl ?_
      exact main _ (by rw [h14, Bool.and_false]; rfl)
    · try simp only [xb_0, xb_1, ne_eq, Decidable.not_not, decide_eq_true_eq, decide_eq_false_iff_not] at h14
      refine xe_s (f := (18, _, xi 1 :: _, _)) xt_g301 rfl rfl rfl rfl rfl ?_
      refine xe_s (f := (22, _, _, _)) xt_g301 rfl rfl rfl rfl rfl ?_
      exact main _ (by rw [show mu_if u f = true by simpa using h6, show mu_if u g = true by simpa using h14]; rfl)
theorem xV_fetch (hmn : xo_in m n) (h : rf s ar u) {f how : Int} {wi : Bool} (hfr : xr f) (hhr : xr how) : xV fm 304 m n h0 s ar [.ref m, xi f, xi how, xi (xb wi)] (fun z s' ar' => z = (mu_fetch u f how wi).1 ∧ s' 0 = xb (!mu_if u f) ∧ rf s' ar' (mu_fetch u f how wi).2) := by
  show xe fm 304 (0, [(0, .ref m), (1, xi f), (2, xi how), (3, xi (xb wi))], [], (xo m s ar h0, n, 0, 0)) _
  generalize hR : mu_fetch u f how wi = R
  unfold mu_fetch at hR
  have e1 := rf_if h (f := f)
  have lk := xv_lacks fm hmn (h0 := h0) (s := s) (ar := ar) (b := mu_if u f) (t := true)
  obtain ⟨hl, hz⟩ := rf_lkt h (b := mu_if u f)
  generalize (if mu_if u f = true then xo_u s 0 0 else if true = true then xo_u (xo_u s 0 1) 2 0 else xo_u s 0 1) = s1 at *
  refine xe_s (f := (1, _, _, _)) xt_g304 rfl rfl rfl rfl rfl ?_
  refine xe_s (f := (2, _, _, _)) xt_g304 rfl rfl rfl rfl rfl ?_
  refine xe_s (f := (3, _, _, _)) xt_g304 rfl rfl rfl rfl rfl ?_
  refine xe_cvI xt_g304 rfl (q := 6) rfl xk_13_428 rfl (by omega) xt_g298 (by decide) ⟨Nat.le_of_ble_eq_true rfl, Nat.le_of_ble_eq_true rfl, Nat.le_of_ble_eq_true rfl⟩ (xv_isFrame fm hmn h.1 hfr) ?_
  rw [e1]
  refine xe_s (f := (7, _, xi 1 :: _, _)) xt_g304 rfl rfl rfl rfl rfl ?_
  refine xe_cvI xt_g304 rfl (q := 10) rfl xk_13_418 rfl (by omega) xt_g292 (by decide) ⟨Nat.le_of_ble_eq_true rfl, Nat.le_of_ble_eq_true rfl, Nat.le_of_ble_eq_true rfl⟩ (lk) ?_
  refine xe_if_eq xt_g304 rfl (t := 15) rfl (q := 13) rfl (by first | omega | exact hw.1 _ | exact hw.2 _ _ | exact xb_r _) (fun h10 => ?_) (fun h10 => ?_)
  · try simp only [xb_0, xb_1, ne_eq, Decidable.not_not, decide_eq_true_eq, decide_eq_false_iff_not] at h10
    have hb : mu_if u f = true := by simpa using h10
    rw [hb] at hl hz hR ⊢
    rw [if_pos rfl] at hl hR
    obtain ⟨F, x, rfl, hF, hx⟩ := mu_if_s hb
    obtain ⟨x1, x2, x3, x4, x5, x6, x7, x8⟩ := rf_f hl hF hx
    have a44 : ar 44 (F : Int).toNat = xb x.2.2.isSome := x7
    have ead : mu_ad u F = x.2.2 := by
      unfold mu_ad
      rw [Int.toNat_natCast, hx]
    have rfs : ∀ w : Int, 1 ≤ w ∧ w ≤ 3 → R = (-1, mu_refuse u F w) → ∀ (s2 : Nat → Int) (ar2 : Nat → Nat → Int), rf s2 ar2 u → s2 0 = xb (!true) → xV fm 300 m n h0 s2 ar2 [.ref m, xi (F : Int), xi w] (fun z s' ar' => z = R.1 ∧ s' 0 = xb (!true) ∧ rf s' ar' R.2) := by
      intro w hw hRw s2 ar2 h2 hz2
      rw [hRw]
      exact xV_mono (xV_refuse fm hmn h2 (f := (F : Int)) (w := w) (by omega) (by omega)) (fun z s' ar' hp => ⟨hp.1, hp.2.1.trans hz2, hp.2.2⟩)
    cases hxa : x.2.2 with
    | none =>
      rw [hxa] at a44 ead
      rw [ead] at hR
      refine xe_s (f := (16, _, _, _)) xt_g304 rfl rfl rfl rfl rfl ?_
      refine xe_mga xt_g304 rfl (q := 19) rfl (xf_13_90 fm) (by decide) rfl (by omega) ?_
      try simp only [xo_u, xo_w, Nat.reduceEqDiff, reduceIte, false_and, true_and]
      refine xe_s (f := (20, _, _, _)) xt_g304 rfl rfl rfl rfl rfl ?_
      refine xe_mal (ok := xm_isB) (ty := .boolean) xt_g304 rfl (q := 21) rfl (fun _ _ => ⟨rfl, rfl, rfl, rfl⟩) rfl rfl rfl (by omega) (by omega) (by omega) (by omega) ?_
      try simp only [xo_u, xo_w, Nat.reduceEqDiff, reduceIte, false_and, true_and]
      rw [a44]
      refine xe_if_eq xt_g304 rfl (t := 33) rfl (q := 24) rfl (by first | omega | exact hw.1 _ | exact hw.2 _ _ | exact xb_r _) (fun h21 => ?_) (fun h21 => ?_)
      · try simp only [xb_0, xb_1, ne_eq, Decidable.not_not, decide_eq_true_eq, decide_eq_false_iff_not] at h21
        refine xe_s (f := (34, _, _, _)) xt_g304 rfl rfl rfl rfl rfl ?_
        refine xe_s (f := (35, _, _, _)) xt_g304 rfl rfl rfl rfl rfl ?_
        refine xe_s (f := (36, _, xi 2 :: _, _)) xt_g304 rfl rfl rfl rfl rfl ?_
        refine xe_chI xt_g304 rfl (q := 39) rfl xk_13_434 rfl (by omega) xt_g300 (by decide) ⟨Nat.le_of_ble_eq_true rfl, Nat.le_of_ble_eq_true rfl, Nat.le_of_ble_eq_true rfl⟩ (rfs 2 (by omega) hR.symm s1 ar hl hz) (fun z3 s3 ar3 hp3 => ?_)
        refine xe_iret xt_g304 rfl rfl xi_int.1 ?_
        exact ⟨_, _, _, rfl, rfl, hp3⟩
      · exact absurd rfl h21
    | some b =>
      rw [hxa] at a44 ead
      rw [ead] at hR
      dsimp only at hR
      obtain ⟨A1, A2⟩ := x8 b hxa
      have rs := xV_res fm hmn (h0 := h0) hl (b := (F : Int)) (base := some b) (Or.inr ⟨by omega, b, rfl, A1, A2⟩)
      refine xe_s (f := (16, _, _, _)) xt_g304 rfl rfl rfl rfl rfl ?_
      refine xe_mga xt_g304 rfl (q := 19) rfl (xf_13_90 fm) (by decide) rfl (by omega) ?_
      try simp only [xo_u, xo_w, Nat.reduceEqDiff, reduceIte, false_and, true_and]
      refine xe_s (f := (20, _, _, _)) xt_g304 rfl rfl rfl rfl rfl ?_
      refine xe_mal (ok := xm_isB) (ty := .boolean) xt_g304 rfl (q := 21) rfl (fun _ _ => ⟨rfl, rfl, rfl, rfl⟩) rfl rfl rfl (by omega) (by omega) (by omega) (by omega) ?_
      try simp only [xo_u, xo_w, Nat.reduceEqDiff, reduceIte, false_and, true_and]
      rw [a44]
      refine xe_if_eq xt_g304 rfl (t := 33) rfl (q := 24) rfl (by first | omega | exact hw.1 _ | exact hw.2 _ _ | exact xb_r _) (fun h21 => ?_) (fun h21 => ?_)
      · exact absurd h21 (show ¬ xb true = 0 by decide)
      · try simp only [xb_0, xb_1, ne_eq, Decidable.not_not, decide_eq_true_eq, decide_eq_false_iff_not] at h21
        refine xe_s (f := (25, _, _, _)) xt_g304 rfl rfl rfl rfl rfl ?_
        refine xe_if_lt xt_g304 rfl (t := 33) rfl (q := 28) rfl (by first | omega | exact hw.1 _ | exact hw.2 _ _ | exact xb_r _) (fun h25 => ?_) (fun h25 => ?_)
        · try simp only [xb_0, xb_1, ne_eq, Decidable.not_not, decide_eq_true_eq, decide_eq_false_iff_not] at h25
          rw [if_pos (by omega)] at hR
          refine xe_s (f := (34, _, _, _)) xt_g304 rfl rfl rfl rfl rfl ?_
          refine xe_s (f := (35, _, _, _)) xt_g304 rfl rfl rfl rfl rfl ?_
          refine xe_s (f := (36, _, xi 2 :: _, _)) xt_g304 rfl rfl rfl rfl rfl ?_
          refine xe_chI xt_g304 rfl (q := 39) rfl xk_13_434 rfl (by omega) xt_g300 (by decide) ⟨Nat.le_of_ble_eq_true rfl, Nat.le_of_ble_eq_true rfl, Nat.le_of_ble_eq_true rfl⟩ (rfs 2 (by omega) hR.symm s1 ar hl hz) (fun z3 s3 ar3 hp3 => ?_)
          refine xe_iret xt_g304 rfl rfl xi_int.1 ?_
          exact ⟨_, _, _, rfl, rfl, hp3⟩
        · try simp only [xb_0, xb_1, ne_eq, Decidable.not_not, decide_eq_true_eq, decide_eq_false_iff_not] at h25
          refine xe_s (f := (29, _, _, _)) xt_g304 rfl rfl rfl rfl rfl ?_
          refine xe_s (f := (30, _, xi 2 :: _, _)) xt_g304 rfl rfl rfl rfl rfl ?_
          refine xe_ic_le xt_g304 rfl (t := 40) rfl (q := 33) rfl (by first | omega | exact hw.1 _ | exact hw.2 _ _ | exact xb_r _) (by first | omega | exact hw.1 _ | exact hw.2 _ _ | exact xb_r _) (fun h30 => ?_) (fun h30 => ?_)
          · rw [if_neg (by omega)] at hR
            refine xe_s (f := (41, _, _, _)) xt_g304 rfl rfl rfl rfl rfl ?_
            refine xe_s (f := (42, _, _, _)) xt_g304 rfl rfl rfl rfl rfl ?_
            refine xe_chI xt_g304 rfl (q := 45) rfl xk_13_403 rfl (by omega) xt_g257 (by decide) ⟨Nat.le_of_ble_eq_true rfl, Nat.le_of_ble_eq_true rfl, Nat.le_of_ble_eq_true rfl⟩ (rs) (fun z4 s4 ar4 hp4 => ?_)
            obtain ⟨q4, F4, h4, pz4, po4⟩ := hp4
            have z04 : s4 0 = xb (!true) := (q4.1 0 (by decide)).trans hz
            rw [pz4]
            refine xe_if_ne xt_g304 rfl (t := 55) rfl (q := 48) rfl (by first | omega | exact hw.1 _ | exact hw.2 _ _ | exact xb_r _) (fun h45 => ?_) (fun h45 => ?_)
            · try simp only [xb_0, xb_1, ne_eq, Decidable.not_not, decide_eq_true_eq, decide_eq_false_iff_not] at h45
              obtain ⟨a, hra⟩ : ∃ a, mu_res u (some b) = some a := by
                cases hh : mu_res u (some b) with
                | none => rw [hh] at h45; exact absurd h45 (by decide)
                | some a => exact ⟨a, rfl⟩
              rw [hra] at hR
              dsimp only at hR
              have oa := po4 a hra
              have A4 : pa_at ar4 (F : Int) (pa_text b) := ((rf_f h4 hF hx).2.2.2.2.2.2.2 b hxa).1
              have oo := xv_isOfOrigin fm hmn (h0 := h0) (s := s4) (ar := ar4) h4.1 (a := ((40 : Nat) : Int)) (b := (F : Int)) (by omega) (by omega) (pa_at5 oa.1) (by omega) (by omega) (pa_at5 A4)
              rw [rf_oot (by omega) (by omega) oa.1 A4 oa.2 A2] at oo
              have e3 : xd_fq ar4 = mu_fq u := rf_fq h4.2.2.2.2.2.2.2.2.2.1
              have hfq := xd_first_r (p := fun r => (mu_rq u r.toNat).isNone) 24 0
              have hfq2 : mu_fq u = -1 ∨ (0 ≤ mu_fq u ∧ mu_fq u < 24) := by unfold mu_fq; omega
              have main : ¬ (how = 0 ∧ pa_hd a ≠ pa_hd b) → xe fm 304 (76, [(0, .ref m), (1, xi (F : Int)), (2, xi how), (3, xi (xb wi))], [], (xo m s4 ar4 h0, n, 0, 0)) (xQI m n h0 (fun z s' ar' => z = R.1 ∧ s' 0 = xb (!true) ∧ rf s' ar' R.2)) := by
                intro hok
                rw [if_neg hok] at hR
                refine xe_s (f := (77, _, _, _)) xt_g304 rfl rfl rfl rfl rfl ?_
                refine xe_cvI xt_g304 rfl (q := 80) rfl xk_13_380 rfl (by omega) xt_g276 (by decide) ⟨Nat.le_of_ble_eq_true rfl, Nat.le_of_ble_eq_true rfl, Nat.le_of_ble_eq_true rfl⟩ (xv_freeRequest fm hmn h4.1) ?_
                rw [e3]
                refine xe_if_ge xt_g304 rfl (t := 90) rfl (q := 83) rfl (by first | omega | exact hw.1 _ | exact hw.2 _ _ | exact xb_r _) (fun h80 => ?_) (fun h80 => ?_)
                · try simp only [xb_0, xb_1, ne_eq, Decidable.not_not, decide_eq_true_eq, decide_eq_false_iff_not] at h80
                  rw [if_neg (by omega)] at hR
                  have h5 := rf_cl h4
                  have ask := xV_ask fm hmn (h0 := h0) h5 (f := F) (ft := 1) (how := how) (wi := wi) oa.1 oa.2 hF (Or.inr rfl) hhr h80
                  refine xe_s (f := (91, _, _, _)) xt_g304 rfl rfl rfl rfl rfl ?_
                  refine xe_s (f := (92, _, xi 0 :: _, _)) xt_g304 rfl rfl rfl rfl rfl ?_
                  refine xe_mps xt_g304 rfl (q := 95) rfl (xf_13_149 fm) (by decide) rfl (by omega) (by omega) xi_int (Or.inl rfl) ?_
                  refine xe_s (f := (96, _, _, _)) xt_g304 rfl rfl rfl rfl rfl ?_
                  refine xe_s (f := (97, _, _, _)) xt_g304 rfl rfl rfl rfl rfl ?_
                  refine xe_s (f := (98, _, xi 1 :: _, _)) xt_g304 rfl rfl rfl rfl rfl ?_
                  refine xe_s (f := (99, _, _, _)) xt_g304 rfl rfl rfl rfl rfl ?_
                  refine xe_s (f := (100, _, _, _)) xt_g304 rfl rfl rfl rfl rfl ?_
                  refine xe_chI xt_g304 rfl (q := 103) rfl xk_13_399 rfl (by omega) xt_g280 (by decide) ⟨Nat.le_of_ble_eq_true rfl, Nat.le_of_ble_eq_true rfl, Nat.le_of_ble_eq_true rfl⟩ (ask) (fun z6 s6 ar6 hp6 => ?_)
                  refine xe_s (f := (105, [(4, _), (0, _), (1, _), (2, _), (3, _)], _, _)) xt_g304 rfl rfl rfl rfl rfl ?_
                  obtain ⟨p1, p2, p3, p4, p5, p6, p7, p8, p9, p10, p11⟩ := hp6
                  rw [p1]
                  obtain ⟨r, hr⟩ := Int.eq_ofNat_of_zero_le h80
                  have er : mu_fq (mu_sln u []) = (r : Int) := hr
                  rw [er] at p3 p4 p5 p6 p7 p8 p9 p10 p11 ⊢
                  rw [Int.toNat_natCast] at p3 p4 p5 p6 p7 p8 p9 p10 p11
                  rw [hr, Int.toNat_natCast] at hR
                  have A6 : pa_at ar6 (F : Int) (pa_text b) := pa_at_F A4 p4 (by omega) (by rw [List.mem_singleton]; omega)
                  have A6' := A6
                  rw [(pa_tx A2).1] at A6'
                  have eoe : xd_oe ar6 (F : Int) = (pa_hd b).length := pa_oe A6' (by omega) A2 (pa_tx A2).2
                  have ct := xU_copyText fm hmn (h0 := h0) (s := s6) (ar := ar6) p3.1 (a := F) (b := 42 + r) (e := (pa_hd b).length) (l := pa_hd b) (l' := b.2.2.2.1 ++ b.2.2.2.2) (by omega) (by omega) (by omega) A6' rfl
                  rw [show ((42 + r : Nat) : Int) = 42 + (r : Int) by omega] at ct
                  have oe := xv_originEnd fm hmn (h0 := h0) (s := s6) (ar := ar6) p3.1 (a := (F : Int)) (by omega) (by omega) (pa_at5 A6)
                  rw [eoe] at oe
                  refine xe_s (f := (106, _, _, _)) xt_g304 rfl rfl rfl rfl rfl ?_
                  refine xe_s (f := (107, _, _, _)) xt_g304 rfl rfl rfl rfl rfl ?_
                  refine xe_bipush xt_g304 rfl (q := 109) rfl (by decide) (by decide) ?_
                  refine xe_s (f := (111, _, _, _)) xt_g304 rfl rfl rfl rfl rfl ?_
                  refine xe_iadd xt_g304 rfl (q := 112) rfl ?_
                  refine xe_s (f := (113, _, _, _)) xt_g304 rfl rfl rfl rfl rfl ?_
                  refine xe_s (f := (114, _, _, _)) xt_g304 rfl rfl rfl rfl rfl ?_
                  refine xe_cvI xt_g304 rfl (q := 117) rfl xk_13_182 rfl (by omega) xt_g271 (by decide) ⟨Nat.le_of_ble_eq_true rfl, Nat.le_of_ble_eq_true rfl, Nat.le_of_ble_eq_true rfl⟩ (oe) ?_
                  refine xe_chV xt_g304 rfl (q := 120) rfl xk_13_386 rfl (by omega) xt_g282 (by decide) ⟨Nat.le_of_ble_eq_true rfl, Nat.le_of_ble_eq_true rfl, Nat.le_of_ble_eq_true rfl⟩ (ct) (fun s7 ar7 hp7 => ?_)
                  refine xe_s (f := (122, _, _, _)) xt_g304 rfl rfl rfl rfl rfl ?_
                  refine xe_iret xt_g304 rfl rfl xi_int.1 ?_
                  obtain ⟨es, w7, q7, F7, A7⟩ := hp7
                  subst es
                  rw [← hR]
                  refine ⟨_, _, _, rfl, rfl, rfl, (p2.1 0 (by decide)).trans z04, ?_⟩
                  have e9 : mu_send (mu_sln u []) r ((F : Int), some (how, wi, b), 0, a, none) = mu_srq (mu_note (mu_sln u []) 1 r F (mu_rtx (mu_sln u []) a (decide ((1 : Int) = 0) || wi))) (mu_up (mu_rq u) r (some ((F : Int), some (how, wi, b), 0, a, none))) := rfl
                  show rf s7 ar7 (mu_send (mu_sln u []) r ((F : Int), some (how, wi, b), 0, a, none))
                  rw [e9]
                  obtain ⟨w2, B2, z2, r0, r1, r2, r3, r4, r5, r6, r7, r8, r9, ra⟩ := p3
                  refine ⟨w7, xo_B_q B2 q7 (by decide), z2.1, rf_k0 r0 q7 rfl, rf_k1 r1 q7 rfl, rf_k2 r2 q7 rfl, rf_k3 r3 q7 rfl, rf_k4 r4 q7 rfl, ?_, ?_, ?_, rf_k8 r8 q7 rfl, rf_k9 r9 q7 rfl, rf_ka ra q7 rfl⟩
                  · intro g hg
                    exact ⟨rf_f1_k (r5 g hg).1 hg (by rw [q7.2 42 (by decide)]) (by rw [q7.2 43 (by decide)]) (by rw [q7.2 44 (by decide)]) F7 (by rw [List.mem_singleton]; omega), by rw [q7.2 45 (by decide)]; exact (r5 g hg).2⟩
                  · intro r' hr'
                    show rf_q1 ar7 r' (mu_up (mu_rq u) r (some ((F : Int), some (how, wi, b), 0, a, none)) r')
                    by_cases e : r' = r
                    · subst e
                      rw [mu_upS]
                      refine ⟨by rw [q7.2 46 (by decide)]; exact p6, by show 0 ≤ (F : Int); omega, by show (F : Int) < 16; omega, by rw [q7.2 49 (by decide)]; exact p9, by show (0 : Int) ≤ 0; omega, by show (0 : Int) ≤ 5; omega, pa_at_F p5 F7 (by omega) (by rw [List.mem_singleton]; omega), oa.2, ⟨by rw [q7.2 47 (by decide)]; exact p7, by rw [q7.2 48 (by decide)]; exact p8, by show 0 ≤ how; omega, by show how ≤ 2; omega, by rw [q7.2 51 (by decide)]; exact p11, ?_, A2⟩, by show ar7 50 r' = 0; rw [q7.2 50 (by decide)]; exact p10⟩
                      rw [show ((42 + r' : Nat) : Int) = 42 + (r' : Int) by omega]
                      exact A7
                    · rw [mu_upN e]
                      have h6 := r6 r' hr' e
                      rw [mu_note_rq] at h6
                      refine rf_q1_k h6 hr' (fun k h1 h2 => by rw [q7.2 k (by simp; omega)]) F7 ?_
                      simp only [List.mem_singleton]
                      omega
                  · exact rf_or_k r7 rfl F7 (fun k hk => by rw [List.mem_singleton] at hk; omega)
                · try simp only [xb_0, xb_1, ne_eq, Decidable.not_not, decide_eq_true_eq, decide_eq_false_iff_not] at h80
                  rw [if_pos (by omega)] at hR
                  refine xe_s (f := (84, _, _, _)) xt_g304 rfl rfl rfl rfl rfl ?_
                  refine xe_s (f := (85, _, _, _)) xt_g304 rfl rfl rfl rfl rfl ?_
                  refine xe_s (f := (86, _, xi 3 :: _, _)) xt_g304 rfl rfl rfl rfl rfl ?_
                  refine xe_chI xt_g304 rfl (q := 89) rfl xk_13_434 rfl (by omega) xt_g300 (by decide) ⟨Nat.le_of_ble_eq_true rfl, Nat.le_of_ble_eq_true rfl, Nat.le_of_ble_eq_true rfl⟩ (rfs 3 (by omega) hR.symm s4 ar4 h4 z04) (fun z3 s3 ar3 hp3 => ?_)
                  refine xe_iret xt_g304 rfl rfl xi_int.1 ?_
                  exact ⟨_, _, _, rfl, rfl, hp3⟩
              refine xe_s (f := (56, _, _, _)) xt_g304 rfl rfl rfl rfl rfl ?_
              refine xe_if_ne xt_g304 rfl (t := 76) rfl (q := 59) rfl (by first | omega | exact hw.1 _ | exact hw.2 _ _ | exact xb_r _) (fun h56 => ?_) (fun h56 => ?_)
              · try simp only [xb_0, xb_1, ne_eq, Decidable.not_not, decide_eq_true_eq, decide_eq_false_iff_not] at h56
                exact main (fun h => h56 h.1)
              · try simp only [xb_0, xb_1, ne_eq, Decidable.not_not, decide_eq_true_eq, decide_eq_false_iff_not] at h56
                refine xe_s (f := (60, _, _, _)) xt_g304 rfl rfl rfl rfl rfl ?_
                refine xe_bipush xt_g304 rfl (q := 62) rfl (by decide) (by decide) ?_
                refine xe_s (f := (63, _, _, _)) xt_g304 rfl rfl rfl rfl rfl ?_
                refine xe_cvI xt_g304 rfl (q := 66) rfl xk_13_437 rfl (by omega) xt_g303 (by decide) ⟨Nat.le_of_ble_eq_true rfl, Nat.le_of_ble_eq_true rfl, Nat.le_of_ble_eq_true rfl⟩ (oo) ?_
                refine xe_if_ne xt_g304 rfl (t := 76) rfl (q := 69) rfl (by first | omega | exact hw.1 _ | exact hw.2 _ _ | exact xb_r _) (fun h66 => ?_) (fun h66 => ?_)
                · try simp only [xb_0, xb_1, ne_eq, Decidable.not_not, decide_eq_true_eq, decide_eq_false_iff_not] at h66
                  exact main (fun h => h.2 h66)
                · try simp only [xb_0, xb_1, ne_eq, Decidable.not_not, decide_eq_true_eq, decide_eq_false_iff_not] at h66
                  rw [if_pos ⟨by omega, h66⟩] at hR
                  refine xe_s (f := (70, _, _, _)) xt_g304 rfl rfl rfl rfl rfl ?_
                  refine xe_s (f := (71, _, _, _)) xt_g304 rfl rfl rfl rfl rfl ?_
                  refine xe_s (f := (72, _, xi 2 :: _, _)) xt_g304 rfl rfl rfl rfl rfl ?_
                  refine xe_chI xt_g304 rfl (q := 75) rfl xk_13_434 rfl (by omega) xt_g300 (by decide) ⟨Nat.le_of_ble_eq_true rfl, Nat.le_of_ble_eq_true rfl, Nat.le_of_ble_eq_true rfl⟩ (rfs 2 (by omega) hR.symm s4 ar4 h4 z04) (fun z3 s3 ar3 hp3 => ?_)
                  refine xe_iret xt_g304 rfl rfl xi_int.1 ?_
                  exact ⟨_, _, _, rfl, rfl, hp3⟩
            · try simp only [xb_0, xb_1, ne_eq, Decidable.not_not, decide_eq_true_eq, decide_eq_false_iff_not] at h45
              have hrn : mu_res u (some b) = none := by
                cases hh : mu_res u (some b) with
                | none => rfl
                | some a => rw [hh] at h45; cases h45
              rw [hrn] at hR
              refine xe_s (f := (49, _, _, _)) xt_g304 rfl rfl rfl rfl rfl ?_
              refine xe_s (f := (50, _, _, _)) xt_g304 rfl rfl rfl rfl rfl ?_
              refine xe_s (f := (51, _, xi 1 :: _, _)) xt_g304 rfl rfl rfl rfl rfl ?_
              refine xe_chI xt_g304 rfl (q := 54) rfl xk_13_434 rfl (by omega) xt_g300 (by decide) ⟨Nat.le_of_ble_eq_true rfl, Nat.le_of_ble_eq_true rfl, Nat.le_of_ble_eq_true rfl⟩ (rfs 1 (by omega) hR.symm s4 ar4 h4 z04) (fun z3 s3 ar3 hp3 => ?_)
              refine xe_iret xt_g304 rfl rfl xi_int.1 ?_
              exact ⟨_, _, _, rfl, rfl, hp3⟩
          · rw [if_pos (by omega)] at hR
            refine xe_s (f := (34, _, _, _)) xt_g304 rfl rfl rfl rfl rfl ?_
            refine xe_s (f := (35, _, _, _)) xt_g304 rfl rfl rfl rfl rfl ?_
            refine xe_s (f := (36, _, xi 2 :: _, _)) xt_g304 rfl rfl rfl rfl rfl ?_
            refine xe_chI xt_g304 rfl (q := 39) rfl xk_13_434 rfl (by omega) xt_g300 (by decide) ⟨Nat.le_of_ble_eq_true rfl, Nat.le_of_ble_eq_true rfl, Nat.le_of_ble_eq_true rfl⟩ (rfs 2 (by omega) hR.symm s1 ar hl hz) (fun z3 s3 ar3 hp3 => ?_)
            refine xe_iret xt_g304 rfl rfl xi_int.1 ?_
            exact ⟨_, _, _, rfl, rfl, hp3⟩
  · try simp only [xb_0, xb_1, ne_eq, Decidable.not_not, decide_eq_true_eq, decide_eq_false_iff_not] at h10
    have hb : mu_if u f = false := by simpa using h10
    rw [hb] at hl hz hR ⊢
    rw [if_neg (by decide)] at hl hR
    rw [← hR]
    refine xe_s (f := (14, _, xi 0 :: _, _)) xt_g304 rfl rfl rfl rfl rfl ?_
    refine xe_iret xt_g304 rfl rfl xi_int.1 ?_
    exact ⟨_, _, _, rfl, rfl, rfl, hz, hl⟩
end XCN
