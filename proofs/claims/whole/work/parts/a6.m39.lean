/-! the reference: makeCookies -/
def mk_one (c : ck_T) (sm blank : Bool) : List Int := (if sm = true then [59, 32] else if blank = true then [32] else []) ++ c.1 ++ 61 :: c.2.1
def mk_txt : List ck_T → Bool → Bool → List Int
  | [], _, _ => []
  | c :: G, sm, blank => mk_one c sm blank ++ mk_txt G true blank
def mk_p (t : Int) (a : pa_A) (net : Bool) (n : Nat) (c : ck_T) : Bool := decide (c.2.2.2.1.length = n) && ck_go t c a net
def mk_low (C : List ck_T) (p : Nat → ck_T → Bool) : Nat → List ck_T
  | 0 => []
  | n + 1 => C.filter (p (n + 1)) ++ mk_low C p n
def mk_going (t : Int) (C : List ck_T) (a : pa_A) (net : Bool) : List ck_T := mk_low C (mk_p t a net) 30
theorem mk_fl {t : Int} {a : pa_A} {net : Bool} : ∀ (C : List ck_T) (n : Nat), (C.filter (mk_p t a net (n + 1))).length + (C.filter (fun c => decide (c.2.2.2.1.length ≤ n))).length ≤ (C.filter (fun c => decide (c.2.2.2.1.length ≤ n + 1))).length
  | [], n => by simp
  | c :: C, n => by
    have ih := mk_fl (t := t) (a := a) (net := net) C n
    simp only [List.filter_cons]
    by_cases h1 : mk_p t a net (n + 1) c = true
    · have h2 : c.2.2.2.1.length = n + 1 := by
        unfold mk_p at h1
        rw [Bool.and_eq_true] at h1
        exact of_decide_eq_true h1.1
      rw [if_pos h1, if_neg (by simp; omega), if_pos (by simp; omega)]
      simp only [List.length_cons]
      omega
    · rw [if_neg h1]
      by_cases h3 : c.2.2.2.1.length ≤ n
      · rw [if_pos (by simpa using h3), if_pos (by simp; omega)]
        simp only [List.length_cons]
        omega
      · rw [if_neg (by simpa using h3)]
        split
        · simp only [List.length_cons]
          omega
        · exact ih
theorem mk_low_len {t : Int} {a : pa_A} {net : Bool} {C : List ck_T} : ∀ n, (mk_low C (mk_p t a net) n).length ≤ (C.filter (fun c => decide (c.2.2.2.1.length ≤ n))).length
  | 0 => Nat.zero_le _
  | n + 1 => by
    unfold mk_low
    rw [List.length_append]
    have h1 := mk_low_len (t := t) (a := a) (net := net) (C := C) n
    have h2 := mk_fl (t := t) (a := a) (net := net) C n
    omega
theorem mk_going_len {t : Int} {a : pa_A} {net : Bool} {C : List ck_T} : (mk_going t C a net).length ≤ C.length := Nat.le_trans (mk_low_len 30) (List.length_filter_le _ _)
section XMK
variable (fm : Value) {m n : Nat} {h0 : xm_H} {s : Nat → Int} {ar : Nat → Nat → Int}
def xd_PM (s : Nat → Int) (ar : Nat → Nat → Int) (T : List Int) (s' : Nat → Int) (ar' : Nat → Nat → Int) : Prop := xo_wf s' ar' ∧ xq [62] [61] s ar s' ar' ∧ s' 62 = T.length ∧ xh (ar' 61) 0 T
theorem xU_make (hmn : xo_in m n) (hw : xo_wf s ar) {M : List Int} {x : Int} (hx : xr x) (h62 : s 62 = M.length) (hM : xh (ar 61) 0 M) (hl : M.length < 1400) : xU fm 284 m n h0 s ar [.ref m, xi x] (xd_PM s ar (M ++ [x])) := by
  refine xU_of (xv_make fm hmn (by omega)) ⟨xo_wf_u (xo_wf_w hw hx) (by omega), xq_u (xq_w xq_r (by decide)) (by decide), ?_, xh_w (by omega) hM⟩
  rw [xo_uS, h62, List.length_append]
  simp
theorem xU_makeText (hmn : xo_in m n) (hw : xo_wf s ar) {M T : List Int} {b : Int} (hb : 0 ≤ b ∧ b < 98) (h62 : s 62 = M.length) (hM : xh (ar 61) 0 M) (hl : M.length ≤ 1300) (hT : pa_at ar b T) : xU fm 283 m n h0 s ar [.ref m, xi b] (xd_PM s ar (M ++ T)) := by
  have h5 := hT.1
  have h60 := hT.2.1
  refine xU_of (xv_makeText fm hmn hw hb (by omega) (by omega)) ⟨xo_wf_u (xd_ap_wf hw (fun i => hw.2 _ _)) (by omega), xq_u (xq_a xq_r (by decide)) (by decide), ?_, ?_⟩
  · rw [xo_uS, h62, h5, List.length_append]
    omega
  · have := xh_ap (F := 61) (ar := ar) (c := ar 5 b.toNat) (P := s 62) (gg := xd_tx ar b) (p := 0) (l := M) (by omega) hM
    have e : (List.range (ar 5 b.toNat).toNat).map (fun i : Nat => xd_tx ar b i) = T := by
      apply xg_ext
      · rw [List.length_map, List.length_range, h5]
        omega
      · intro i hi
        rw [List.length_map, List.length_range] at hi
        have hi' : i < T.length := by omega
        rw [show ((List.range (ar 5 b.toNat).toNat).map (fun i : Nat => xd_tx ar b i)).getD i 0 = xd_tx ar b i by simp [hi]]
        unfold xd_tx
        rw [pa_at_get hT hb.1 (by omega) (by omega)]
        rfl
    rw [e] at this
    exact this
theorem xU_makeCookies (hmn : xo_in m n) (hw : xo_wf s ar) {C : List ck_T} {M : List Int} {b : Int} {a : pa_A} {net blank : Bool} (hC : ck_all s ar C) (hb : 0 ≤ b ∧ b < 97) (hs : pa_at ar b (pa_text a)) (ho : pa_ok a) (h62 : s 62 = M.length) (hM : xh (ar 61) 0 M) (hl : M.length + 27 * C.length ≤ 1400) : xU fm 285 m n h0 s ar [.ref m, xi b, xi (xb net), xi (xb blank)] (xd_PM s ar (M ++ mk_txt (mk_going (s 18) C a net) false blank)) := by
  show xe fm 285 (0, [(0, .ref m), (1, xi b), (2, xi (xb net)), (3, xi (xb blank))], [], (xo m s ar h0, n, 0, 0)) _
  generalize hT : M ++ mk_txt (mk_going (s 18) C a net) false blank = T
  have hCl := hC.2.1
  have outer : ∀ (nn : Nat) (M1 : List Int) (sm : Bool) (s1 : Nat → Int) (ar1 : Nat → Nat → Int), nn ≤ 30 → xo_wf s1 ar1 → xq [62] [61] s ar s1 ar1 → s1 62 = M1.length → xh (ar1 61) 0 M1 → M1.length + 27 * (mk_low C (mk_p (s 18) a net) nn).length ≤ 1400 → M1 ++ mk_txt (mk_low C (mk_p (s 18) a net) nn) sm blank = T → xe fm 285 (7, [(5, xi nn), (4, xi (xb sm)), (0, .ref m), (1, xi b), (2, xi (xb net)), (3, xi (xb blank))], [], (xo m s1 ar1 h0, n, 0, 0)) (xQU m n h0 (xd_PM s ar T)) := by
    intro nn
    induction nn with
    | zero =>
      intro M1 sm s1 ar1 hn w1 q1 g62 gM hb1 hT1
      have e : M1 = T := by
        rw [← hT1]
        simp [mk_low, mk_txt]
      subst e
      refine xe_s (f := (9, _, _, _)) xt_g285 rfl rfl rfl rfl rfl ?_
      refine xe_if_le xt_g285 rfl (t := 173) rfl (q := 12) rfl (by first | omega | exact hw.1 _ | exact hw.2 _ _ | exact xb_r _) (fun h9 => ?_) (fun h9 => ?_)
      · try simp only [xb_0, xb_1, ne_eq, Decidable.not_not, decide_eq_true_eq, decide_eq_false_iff_not] at h9
        refine xe_ret xt_g285 rfl rfl ?_
        exact ⟨_, _, rfl, rfl, w1, q1, g62, gM⟩
      · exact absurd h9 (by omega)
    | succ nn ih =>
      intro M1 sm s1 ar1 hn w1 q1 g62 gM hb1 hT1
      have inner : ∀ (N i : Nat) (M1 : List Int) (sm : Bool) (s1 : Nat → Int) (ar1 : Nat → Nat → Int), i + N = C.length → xo_wf s1 ar1 → xq [62] [61] s ar s1 ar1 → s1 62 = M1.length → xh (ar1 61) 0 M1 → M1.length + 27 * ((C.drop i).filter (mk_p (s 18) a net (nn + 1)) ++ mk_low C (mk_p (s 18) a net) nn).length ≤ 1400 → M1 ++ mk_txt ((C.drop i).filter (mk_p (s 18) a net (nn + 1)) ++ mk_low C (mk_p (s 18) a net) nn) sm blank = T → xe fm 285 (15, [(6, xi i), (5, xi ((nn + 1 : Nat) : Int)), (4, xi (xb sm)), (0, .ref m), (1, xi b), (2, xi (xb net)), (3, xi (xb blank))], [], (xo m s1 ar1 h0, n, 0, 0)) (xQU m n h0 (xd_PM s ar T)) := by
        intro N
        induction N with
        | zero =>
          intro i M1 sm s1 ar1 hi w1 q1 g62 gM hb1 hT1
          rw [List.drop_of_length_le (by omega), List.filter_nil, List.nil_append] at hb1 hT1
          have g19 : s1 19 = (C.length : Int) := (q1.1 19 (by decide)).trans hC.1
          have h := ih M1 sm s1 ar1 (by omega) w1 q1 g62 gM hb1 hT1
          refine xe_s (f := (17, _, _, _)) xt_g285 rfl rfl rfl rfl rfl ?_
          refine xe_s (f := (18, _, _, _)) xt_g285 rfl rfl rfl rfl rfl ?_
          refine xe_mgs xt_g285 rfl (q := 21) rfl (xf_13_265 fm) (by decide) rfl (by omega) ?_
          try simp only [xo_u, xo_w, Nat.reduceEqDiff, reduceIte, false_and, true_and]
          rw [g19]
          refine xe_ic_ge xt_g285 rfl (t := 167) rfl (q := 24) rfl (by first | omega | exact hw.1 _ | exact hw.2 _ _ | exact xb_r _) (by first | omega | exact hw.1 _ | exact hw.2 _ _ | exact xb_r _) (fun h21 => ?_) (fun h21 => ?_)
          · refine xe_iinc xt_g285 rfl (q := 170) rfl rfl (by decide) (L1 := [(5, _), (6, _), (4, _), (0, _), (1, _), (2, _), (3, _)]) rfl ?_
            refine xe_s (f := (7, _, _, _)) xt_g285 rfl rfl rfl rfl rfl ?_
            rw [show ((nn + 1 : Nat) : Int) + -1 = (nn : Int) by omega]
            exact xe_loc (by intro q hq; simp only [List.mem_cons, List.not_mem_nil, or_false] at hq; rcases hq with rfl | rfl | rfl | rfl | rfl | rfl <;> rfl) (h)
          · exact absurd h21 (by omega)
        | succ N ihN =>
          intro i M1 sm s1 ar1 hi w1 q1 g62 gM hb1 hT1
          have hlt : i < C.length := by omega
          have g19 : s1 19 = (C.length : Int) := (q1.1 19 (by decide)).trans hC.1
          have e18 : s1 18 = s 18 := q1.1 18 (by decide)
          have hC1 : ck_all s1 ar1 C := ck_all_q hC q1 (by decide) (by decide)
          have hrow := hC1.2.2 i hlt
          generalize hc : C.getD i ck_0 = c at *
          have hd := ck_getD hlt
          rw [hc] at hd
          rw [hd] at hb1 hT1
          have hS1 := pa_at_c hs (q1.2 4 (by decide)) (q1.2 5 (by decide))
          have a27 : ar1 27 (i : Int).toNat = c.2.2.2.1.length := hrow.2.2.2.1.1
          have hpl := hrow.2.2.2.1.2.1
          have skip : mk_p (s 18) a net (nn + 1) c = false → xe fm 285 (161, [(6, xi i), (5, xi ((nn + 1 : Nat) : Int)), (4, xi (xb sm)), (0, .ref m), (1, xi b), (2, xi (xb net)), (3, xi (xb blank))], [], (xo m s1 ar1 h0, n, 0, 0)) (xQU m n h0 (xd_PM s ar T)) := by
            intro hp
            rw [List.filter_cons_of_neg (by rw [hp]; decide)] at hb1 hT1
            have h := ihN (i + 1) M1 sm s1 ar1 (by omega) w1 q1 g62 gM hb1 hT1
            refine xe_iinc xt_g285 rfl (q := 164) rfl rfl (by decide) (L1 := [(6, _), (5, _), (4, _), (0, _), (1, _), (2, _), (3, _)]) rfl ?_
            refine xe_s (f := (15, _, _, _)) xt_g285 rfl rfl rfl rfl rfl ?_
            rw [show ((i : Int) + 1) = ((i + 1 : Nat) : Int) by omega]
            exact xe_loc (by intro q hq; simp only [List.mem_cons, List.not_mem_nil, or_false] at hq; rcases hq with rfl | rfl | rfl | rfl | rfl | rfl | rfl <;> rfl) (h)
          have take : mk_p (s 18) a net (nn + 1) c = true → xe fm 285 (50, [(6, xi i), (5, xi ((nn + 1 : Nat) : Int)), (4, xi (xb sm)), (0, .ref m), (1, xi b), (2, xi (xb net)), (3, xi (xb blank))], [], (xo m s1 ar1 h0, n, 0, 0)) (xQU m n h0 (xd_PM s ar T)) := by
            intro hp
            rw [List.filter_cons_of_pos hp, List.cons_append] at hb1 hT1
            rw [List.length_cons] at hb1
            rw [mk_txt] at hT1
            obtain ⟨⟨n1, n2, n3⟩, ⟨v1, v2, v3⟩, _⟩ := hrow
            -- the value
            have lv : ∀ (N k : Nat) (s2 : Nat → Int) (ar2 : Nat → Nat → Int) (Mv : List Int), k + N = c.2.1.length → xo_wf s2 ar2 → xq [62] [61] s ar s2 ar2 → xq [62] [61] s1 ar1 s2 ar2 → s2 62 = (Mv ++ c.2.1.take k).length → xh (ar2 61) 0 (Mv ++ c.2.1.take k) → (Mv.length + 12 ≤ 1400) → Mv ++ c.2.1 = M1 ++ mk_one c sm blank → (Mv ++ c.2.1).length ≤ M1.length + 27 → xe fm 285 (126, [(7, xi k), (4, xi 1), (6, xi i), (5, xi ((nn + 1 : Nat) : Int)), (0, .ref m), (1, xi b), (2, xi (xb net)), (3, xi (xb blank))], [], (xo m s2 ar2 h0, n, 0, 0)) (xQU m n h0 (xd_PM s ar T)) := by
              intro N
              induction N with
              | zero =>
                intro k s2 ar2 Mv hk w2 q2 q12 z62 zM hMv hE hEl
                have b25 : ar2 25 (i : Int).toNat = c.2.1.length := by rw [q12.2 25 (by decide)]; exact v1
                rw [List.take_of_length_le (by omega)] at z62 zM
                have h := ihN (i + 1) (Mv ++ c.2.1) true s2 ar2 (by omega) w2 q2 z62 zM (by omega) (by rw [hE, List.append_assoc]; exact hT1)
                refine xe_s (f := (128, _, _, _)) xt_g285 rfl rfl rfl rfl rfl ?_
                refine xe_s (f := (129, _, _, _)) xt_g285 rfl rfl rfl rfl rfl ?_
                refine xe_mga xt_g285 rfl (q := 132) rfl (xf_13_52 fm) (by decide) rfl (by omega) ?_
                try simp only [xo_u, xo_w, Nat.reduceEqDiff, reduceIte, false_and, true_and]
                refine xe_s (f := (134, _, _, _)) xt_g285 rfl rfl rfl rfl rfl ?_
                refine xe_mal (ok := xm_isN) (ty := .int) xt_g285 rfl (q := 135) rfl (fun _ _ => ⟨rfl, rfl, rfl, rfl⟩) rfl rfl rfl (by omega) (by omega) (by omega) (by omega) ?_
                try simp only [xo_u, xo_w, Nat.reduceEqDiff, reduceIte, false_and, true_and]
                rw [b25]
                refine xe_ic_ge xt_g285 rfl (t := 161) rfl (q := 138) rfl (by first | omega | exact hw.1 _ | exact hw.2 _ _ | exact xb_r _) (by first | omega | exact hw.1 _ | exact hw.2 _ _ | exact xb_r _) (fun h135 => ?_) (fun h135 => ?_)
                · refine xe_iinc xt_g285 rfl (q := 164) rfl rfl (by decide) (L1 := [(6, _), (7, _), (4, _), (5, _), (0, _), (1, _), (2, _), (3, _)]) rfl ?_
                  refine xe_s (f := (15, _, _, _)) xt_g285 rfl rfl rfl rfl rfl ?_
                  rw [show ((i : Int) + 1) = ((i + 1 : Nat) : Int) by omega]
                  exact xe_loc (by intro q hq; simp only [List.mem_cons, List.not_mem_nil, or_false] at hq; rcases hq with rfl | rfl | rfl | rfl | rfl | rfl | rfl <;> rfl) (h)
                · exact absurd h135 (by omega)
              | succ N ihv =>
                intro k s2 ar2 Mv hk w2 q2 q12 z62 zM hMv hE hEl
                have b25 : ar2 25 (i : Int).toNat = c.2.1.length := by rw [q12.2 25 (by decide)]; exact v1
                have hlk : k < c.2.1.length := by omega
                have y : ar2 21 (12 * (i : Int) + k).toNat = c.2.1.getD k 0 := by
                  rw [q12.2 21 (by decide), ← v3 k hlk]
                  congr 1
                have hlm : (Mv ++ c.2.1.take k).length < 1400 := by
                  rw [List.length_append, List.length_take]
                  omega
                refine xe_s (f := (128, _, _, _)) xt_g285 rfl rfl rfl rfl rfl ?_
                refine xe_s (f := (129, _, _, _)) xt_g285 rfl rfl rfl rfl rfl ?_
                refine xe_mga xt_g285 rfl (q := 132) rfl (xf_13_52 fm) (by decide) rfl (by omega) ?_
                try simp only [xo_u, xo_w, Nat.reduceEqDiff, reduceIte, false_and, true_and]
                refine xe_s (f := (134, _, _, _)) xt_g285 rfl rfl rfl rfl rfl ?_
                refine xe_mal (ok := xm_isN) (ty := .int) xt_g285 rfl (q := 135) rfl (fun _ _ => ⟨rfl, rfl, rfl, rfl⟩) rfl rfl rfl (by omega) (by omega) (by omega) (by omega) ?_
                try simp only [xo_u, xo_w, Nat.reduceEqDiff, reduceIte, false_and, true_and]
                rw [b25]
                refine xe_ic_ge xt_g285 rfl (t := 161) rfl (q := 138) rfl (by first | omega | exact hw.1 _ | exact hw.2 _ _ | exact xb_r _) (by first | omega | exact hw.1 _ | exact hw.2 _ _ | exact xb_r _) (fun h135 => ?_) (fun h135 => ?_)
                · exact absurd h135 (by omega)
                · refine xe_s (f := (139, _, _, _)) xt_g285 rfl rfl rfl rfl rfl ?_
                  refine xe_s (f := (140, _, _, _)) xt_g285 rfl rfl rfl rfl rfl ?_
                  refine xe_mga xt_g285 rfl (q := 143) rfl (xf_13_40 fm) (by decide) rfl (by omega) ?_
                  try simp only [xo_u, xo_w, Nat.reduceEqDiff, reduceIte, false_and, true_and]
                  refine xe_bipush xt_g285 rfl (q := 145) rfl (by decide) (by decide) ?_
                  refine xe_s (f := (147, _, _, _)) xt_g285 rfl rfl rfl rfl rfl ?_
                  refine xe_imul xt_g285 rfl (q := 148) rfl ?_
                  refine xe_s (f := (150, _, _, _)) xt_g285 rfl rfl rfl rfl rfl ?_
                  refine xe_iadd xt_g285 rfl (q := 151) rfl ?_
                  refine xe_mal (ok := xm_isN) (ty := .int) xt_g285 rfl (q := 152) rfl (fun _ _ => ⟨rfl, rfl, rfl, rfl⟩) rfl rfl rfl (by omega) (by omega) (by omega) (by omega) ?_
                  try simp only [xo_u, xo_w, Nat.reduceEqDiff, reduceIte, false_and, true_and]
                  refine xe_chV xt_g285 rfl (q := 155) rfl xk_13_370 rfl (by omega) xt_g284 (by decide) ⟨Nat.le_of_ble_eq_true rfl, Nat.le_of_ble_eq_true rfl, Nat.le_of_ble_eq_true rfl⟩ (xU_make fm hmn w2 (w2.2 _ _) z62 zM hlm) (fun s3 ar3 hp3 => ?_)
                  refine xe_iinc xt_g285 rfl (q := 158) rfl rfl (by decide) (L1 := [(7, _), (4, _), (6, _), (5, _), (0, _), (1, _), (2, _), (3, _)]) rfl ?_
                  refine xe_s (f := (126, _, _, _)) xt_g285 rfl rfl rfl rfl rfl ?_
                  obtain ⟨w3, q3, p62, pM⟩ := hp3
                  rw [y, List.append_assoc, ← xg_get hlk, ← List.take_succ_eq_append_getElem hlk] at p62 pM
                  have h := ihv (k + 1) s3 ar3 Mv (by omega) w3 (xq_t q2 q3) (xq_t q12 q3) p62 pM hMv hE hEl
                  rw [show ((k : Int) + 1) = ((k + 1 : Nat) : Int) by omega]
                  exact xe_loc (by intro q hq; simp only [List.mem_cons, List.not_mem_nil, or_false] at hq; rcases hq with rfl | rfl | rfl | rfl | rfl | rfl | rfl | rfl <;> rfl) (h)
            -- the name
            have ln : ∀ (N k : Nat) (s2 : Nat → Int) (ar2 : Nat → Nat → Int) (Mn : List Int), k + N = c.1.length → xo_wf s2 ar2 → xq [62] [61] s ar s2 ar2 → xq [62] [61] s1 ar1 s2 ar2 → s2 62 = (Mn ++ c.1.take k).length → xh (ar2 61) 0 (Mn ++ c.1.take k) → Mn.length + 25 ≤ 1400 → Mn ++ c.1 ++ 61 :: c.2.1 = M1 ++ mk_one c sm blank → Mn.length ≤ M1.length + 2 → xe fm 285 (82, [(7, xi k), (4, xi 1), (6, xi i), (5, xi ((nn + 1 : Nat) : Int)), (0, .ref m), (1, xi b), (2, xi (xb net)), (3, xi (xb blank))], [], (xo m s2 ar2 h0, n, 0, 0)) (xQU m n h0 (xd_PM s ar T)) := by
              intro N
              induction N with
              | zero =>
                intro k s2 ar2 Mn hk w2 q2 q12 z62 zM hMn hE hEl
                have b24 : ar2 24 (i : Int).toNat = c.1.length := by rw [q12.2 24 (by decide)]; exact n1
                rw [List.take_of_length_le (by omega)] at z62 zM
                refine xe_s (f := (84, _, _, _)) xt_g285 rfl rfl rfl rfl rfl ?_
                refine xe_s (f := (85, _, _, _)) xt_g285 rfl rfl rfl rfl rfl ?_
                refine xe_mga xt_g285 rfl (q := 88) rfl (xf_13_49 fm) (by decide) rfl (by omega) ?_
                try simp only [xo_u, xo_w, Nat.reduceEqDiff, reduceIte, false_and, true_and]
                refine xe_s (f := (90, _, _, _)) xt_g285 rfl rfl rfl rfl rfl ?_
                refine xe_mal (ok := xm_isN) (ty := .int) xt_g285 rfl (q := 91) rfl (fun _ _ => ⟨rfl, rfl, rfl, rfl⟩) rfl rfl rfl (by omega) (by omega) (by omega) (by omega) ?_
                try simp only [xo_u, xo_w, Nat.reduceEqDiff, reduceIte, false_and, true_and]
                rw [b24]
                refine xe_ic_ge xt_g285 rfl (t := 117) rfl (q := 94) rfl (by first | omega | exact hw.1 _ | exact hw.2 _ _ | exact xb_r _) (by first | omega | exact hw.1 _ | exact hw.2 _ _ | exact xb_r _) (fun h91 => ?_) (fun h91 => ?_)
                · refine xe_s (f := (118, _, _, _)) xt_g285 rfl rfl rfl rfl rfl ?_
                  refine xe_bipush xt_g285 rfl (q := 120) rfl (by decide) (by decide) ?_
                  refine xe_chV xt_g285 rfl (q := 123) rfl xk_13_370 rfl (by omega) xt_g284 (by decide) ⟨Nat.le_of_ble_eq_true rfl, Nat.le_of_ble_eq_true rfl, Nat.le_of_ble_eq_true rfl⟩ (xU_make fm hmn w2 (by omega) z62 zM (by rw [List.length_append]; omega)) (fun s3 ar3 hp3 => ?_)
                  refine xe_s (f := (124, _, xi 0 :: _, _)) xt_g285 rfl rfl rfl rfl rfl ?_
                  refine xe_s (f := (126, [(7, _), (4, _), (6, _), (5, _), (0, _), (1, _), (2, _), (3, _)], _, _)) xt_g285 rfl rfl rfl rfl rfl ?_
                  obtain ⟨w3, q3, p62, pM⟩ := hp3
                  have h := lv c.2.1.length 0 s3 ar3 (Mn ++ c.1 ++ [61]) (by omega) w3 (xq_t q2 q3) (xq_t q12 q3) (by simpa using p62) (by simpa using pM) (by simp; omega) (by rw [← hE]; simp) (by simp; omega)
                  exact xe_loc (by intro q hq; simp only [List.mem_cons, List.not_mem_nil, or_false] at hq; rcases hq with rfl | rfl | rfl | rfl | rfl | rfl | rfl | rfl <;> rfl) (h)
                · exact absurd h91 (by omega)
              | succ N ihn =>
                intro k s2 ar2 Mn hk w2 q2 q12 z62 zM hMn hE hEl
                have b24 : ar2 24 (i : Int).toNat = c.1.length := by rw [q12.2 24 (by decide)]; exact n1
                have hlk : k < c.1.length := by omega
                have y : ar2 20 (12 * (i : Int) + k).toNat = c.1.getD k 0 := by
                  rw [q12.2 20 (by decide), ← n3 k hlk]
                  congr 1
                have hlm : (Mn ++ c.1.take k).length < 1400 := by
                  rw [List.length_append, List.length_take]
                  omega
                refine xe_s (f := (84, _, _, _)) xt_g285 rfl rfl rfl rfl rfl ?_
                refine xe_s (f := (85, _, _, _)) xt_g285 rfl rfl rfl rfl rfl ?_
                refine xe_mga xt_g285 rfl (q := 88) rfl (xf_13_49 fm) (by decide) rfl (by omega) ?_
                try simp only [xo_u, xo_w, Nat.reduceEqDiff, reduceIte, false_and, true_and]
                refine xe_s (f := (90, _, _, _)) xt_g285 rfl rfl rfl rfl rfl ?_
                refine xe_mal (ok := xm_isN) (ty := .int) xt_g285 rfl (q := 91) rfl (fun _ _ => ⟨rfl, rfl, rfl, rfl⟩) rfl rfl rfl (by omega) (by omega) (by omega) (by omega) ?_
                try simp only [xo_u, xo_w, Nat.reduceEqDiff, reduceIte, false_and, true_and]
                rw [b24]
                refine xe_ic_ge xt_g285 rfl (t := 117) rfl (q := 94) rfl (by first | omega | exact hw.1 _ | exact hw.2 _ _ | exact xb_r _) (by first | omega | exact hw.1 _ | exact hw.2 _ _ | exact xb_r _) (fun h91 => ?_) (fun h91 => ?_)
                · exact absurd h91 (by omega)
                · refine xe_s (f := (95, _, _, _)) xt_g285 rfl rfl rfl rfl rfl ?_
                  refine xe_s (f := (96, _, _, _)) xt_g285 rfl rfl rfl rfl rfl ?_
                  refine xe_mga xt_g285 rfl (q := 99) rfl (xf_13_37 fm) (by decide) rfl (by omega) ?_
                  try simp only [xo_u, xo_w, Nat.reduceEqDiff, reduceIte, false_and, true_and]
                  refine xe_bipush xt_g285 rfl (q := 101) rfl (by decide) (by decide) ?_
                  refine xe_s (f := (103, _, _, _)) xt_g285 rfl rfl rfl rfl rfl ?_
                  refine xe_imul xt_g285 rfl (q := 104) rfl ?_
                  refine xe_s (f := (106, _, _, _)) xt_g285 rfl rfl rfl rfl rfl ?_
                  refine xe_iadd xt_g285 rfl (q := 107) rfl ?_
                  refine xe_mal (ok := xm_isN) (ty := .int) xt_g285 rfl (q := 108) rfl (fun _ _ => ⟨rfl, rfl, rfl, rfl⟩) rfl rfl rfl (by omega) (by omega) (by omega) (by omega) ?_
                  try simp only [xo_u, xo_w, Nat.reduceEqDiff, reduceIte, false_and, true_and]
                  refine xe_chV xt_g285 rfl (q := 111) rfl xk_13_370 rfl (by omega) xt_g284 (by decide) ⟨Nat.le_of_ble_eq_true rfl, Nat.le_of_ble_eq_true rfl, Nat.le_of_ble_eq_true rfl⟩ (xU_make fm hmn w2 (w2.2 _ _) z62 zM hlm) (fun s3 ar3 hp3 => ?_)
                  refine xe_iinc xt_g285 rfl (q := 114) rfl rfl (by decide) (L1 := [(7, _), (4, _), (6, _), (5, _), (0, _), (1, _), (2, _), (3, _)]) rfl ?_
                  refine xe_s (f := (82, _, _, _)) xt_g285 rfl rfl rfl rfl rfl ?_
                  obtain ⟨w3, q3, p62, pM⟩ := hp3
                  rw [y, List.append_assoc, ← xg_get hlk, ← List.take_succ_eq_append_getElem hlk] at p62 pM
                  have h := ihn (k + 1) s3 ar3 Mn (by omega) w3 (xq_t q2 q3) (xq_t q12 q3) p62 pM hMn hE hEl
                  rw [show ((k : Int) + 1) = ((k + 1 : Nat) : Int) by omega]
                  exact xe_loc (by intro q hq; simp only [List.mem_cons, List.not_mem_nil, or_false] at hq; rcases hq with rfl | rfl | rfl | rfl | rfl | rfl | rfl | rfl <;> rfl) (h)
            have e76 : ∀ (s2 : Nat → Int) (ar2 : Nat → Nat → Int) (Mn : List Int), xo_wf s2 ar2 → xq [62] [61] s1 ar1 s2 ar2 → s2 62 = Mn.length → xh (ar2 61) 0 Mn → Mn ++ c.1 ++ 61 :: c.2.1 = M1 ++ mk_one c sm blank → Mn.length ≤ M1.length + 2 → xe fm 285 (76, [(6, xi i), (5, xi ((nn + 1 : Nat) : Int)), (4, xi (xb sm)), (0, .ref m), (1, xi b), (2, xi (xb net)), (3, xi (xb blank))], [], (xo m s2 ar2 h0, n, 0, 0)) (xQU m n h0 (xd_PM s ar T)) := by
              intro s2 ar2 Mn w2 q12 z62 zM hE hEl
              have h := ln c.1.length 0 s2 ar2 Mn (by omega) w2 (xq_t q1 q12) q12 (by simpa using z62) (by simpa using zM) (by omega) hE hEl
              refine xe_s (f := (77, _, xi 1 :: _, _)) xt_g285 rfl rfl rfl rfl rfl ?_
              refine xe_s (f := (79, [(4, _), (6, _), (5, _), (0, _), (1, _), (2, _), (3, _)], _, _)) xt_g285 rfl rfl rfl rfl rfl ?_
              refine xe_s (f := (80, _, xi 0 :: _, _)) xt_g285 rfl rfl rfl rfl rfl ?_
              refine xe_s (f := (82, [(7, _), (4, _), (6, _), (5, _), (0, _), (1, _), (2, _), (3, _)], _, _)) xt_g285 rfl rfl rfl rfl rfl ?_
              exact xe_loc (by intro q hq; simp only [List.mem_cons, List.not_mem_nil, or_false] at hq; rcases hq with rfl | rfl | rfl | rfl | rfl | rfl | rfl | rfl <;> rfl) (h)
            cases sm with
            | true =>
              refine xe_s (f := (52, _, _, _)) xt_g285 rfl rfl rfl rfl rfl ?_
              refine xe_if_eq xt_g285 rfl (t := 61) rfl (q := 55) rfl (by first | omega | exact hw.1 _ | exact hw.2 _ _ | exact xb_r _) (fun h52 => ?_) (fun h52 => ?_)
              · exact absurd h52 (by decide)
              · try simp only [xb_0, xb_1, ne_eq, Decidable.not_not, decide_eq_true_eq, decide_eq_false_iff_not] at h52
                refine xe_s (f := (56, _, _, _)) xt_g285 rfl rfl rfl rfl rfl ?_
                refine xe_bipush xt_g285 rfl (q := 58) rfl (by decide) (by decide) ?_
                refine xe_chV xt_g285 rfl (q := 61) rfl xk_13_370 rfl (by omega) xt_g284 (by decide) ⟨Nat.le_of_ble_eq_true rfl, Nat.le_of_ble_eq_true rfl, Nat.le_of_ble_eq_true rfl⟩ (xU_make fm hmn w1 (x := 59) (by omega) g62 gM (by omega)) (fun s2 ar2 hp2 => ?_)
                refine xe_s (f := (63, _, _, _)) xt_g285 rfl rfl rfl rfl rfl ?_
                refine xe_if_ne xt_g285 rfl (t := 70) rfl (q := 66) rfl (by first | omega | exact hw.1 _ | exact hw.2 _ _ | exact xb_r _) (fun h63 => ?_) (fun h63 => ?_)
                · try simp only [xb_0, xb_1, ne_eq, Decidable.not_not, decide_eq_true_eq, decide_eq_false_iff_not] at h63
                  refine xe_s (f := (71, _, _, _)) xt_g285 rfl rfl rfl rfl rfl ?_
                  refine xe_bipush xt_g285 rfl (q := 73) rfl (by decide) (by decide) ?_
                  refine xe_chV xt_g285 rfl (q := 76) rfl xk_13_370 rfl (by omega) xt_g284 (by decide) ⟨Nat.le_of_ble_eq_true rfl, Nat.le_of_ble_eq_true rfl, Nat.le_of_ble_eq_true rfl⟩ (xU_make fm hmn hp2.1 (x := 32) (by omega) hp2.2.2.1 hp2.2.2.2 (by simp; omega)) (fun s3 ar3 hp3 => ?_)
                  obtain ⟨w3, q3, p62, pM⟩ := hp3
                  have h := e76 s3 ar3 (M1 ++ [59] ++ [32]) w3 (xq_t hp2.2.1 q3) p62 pM (by unfold mk_one; rw [if_pos rfl]; simp) (by simp)
                  exact xe_loc (by intro q hq; simp only [List.mem_cons, List.not_mem_nil, or_false] at hq; rcases hq with rfl | rfl | rfl | rfl | rfl | rfl | rfl <;> rfl) (h)
                · exact absurd (show xb true ≠ 0 by decide) h63
            | false =>
              cases blank with
              | true =>
                refine xe_s (f := (52, _, _, _)) xt_g285 rfl rfl rfl rfl rfl ?_
                refine xe_if_eq xt_g285 rfl (t := 61) rfl (q := 55) rfl (by first | omega | exact hw.1 _ | exact hw.2 _ _ | exact xb_r _) (fun h52 => ?_) (fun h52 => ?_)
                · try simp only [xb_0, xb_1, ne_eq, Decidable.not_not, decide_eq_true_eq, decide_eq_false_iff_not] at h52
                  refine xe_s (f := (63, _, _, _)) xt_g285 rfl rfl rfl rfl rfl ?_
                  refine xe_if_ne xt_g285 rfl (t := 70) rfl (q := 66) rfl (by first | omega | exact hw.1 _ | exact hw.2 _ _ | exact xb_r _) (fun h63 => ?_) (fun h63 => ?_)
                  · exact absurd rfl h63
                  · try simp only [xb_0, xb_1, ne_eq, Decidable.not_not, decide_eq_true_eq, decide_eq_false_iff_not] at h63
                    refine xe_s (f := (67, _, _, _)) xt_g285 rfl rfl rfl rfl rfl ?_
                    refine xe_if_eq xt_g285 rfl (t := 76) rfl (q := 70) rfl (by first | omega | exact hw.1 _ | exact hw.2 _ _ | exact xb_r _) (fun h67 => ?_) (fun h67 => ?_)
                    · exact absurd h67 (by decide)
                    · try simp only [xb_0, xb_1, ne_eq, Decidable.not_not, decide_eq_true_eq, decide_eq_false_iff_not] at h67
                      refine xe_s (f := (71, _, _, _)) xt_g285 rfl rfl rfl rfl rfl ?_
                      refine xe_bipush xt_g285 rfl (q := 73) rfl (by decide) (by decide) ?_
                      refine xe_chV xt_g285 rfl (q := 76) rfl xk_13_370 rfl (by omega) xt_g284 (by decide) ⟨Nat.le_of_ble_eq_true rfl, Nat.le_of_ble_eq_true rfl, Nat.le_of_ble_eq_true rfl⟩ (xU_make fm hmn w1 (x := 32) (by omega) g62 gM (by omega)) (fun s3 ar3 hp3 => ?_)
                      obtain ⟨w3, q3, p62, pM⟩ := hp3
                      have h := e76 s3 ar3 (M1 ++ [32]) w3 q3 p62 pM (by unfold mk_one; rw [if_neg (by decide), if_pos rfl]; simp) (by simp)
                      exact xe_loc (by intro q hq; simp only [List.mem_cons, List.not_mem_nil, or_false] at hq; rcases hq with rfl | rfl | rfl | rfl | rfl | rfl | rfl <;> rfl) (h)
                · exact absurd rfl h52
              | false =>
                have h := e76 s1 ar1 M1 w1 xq_r g62 gM (by unfold mk_one; rw [if_neg (by decide), if_neg (by decide)]; simp) (by omega)
                refine xe_s (f := (52, _, _, _)) xt_g285 rfl rfl rfl rfl rfl ?_
                refine xe_if_eq xt_g285 rfl (t := 61) rfl (q := 55) rfl (by first | omega | exact hw.1 _ | exact hw.2 _ _ | exact xb_r _) (fun h52 => ?_) (fun h52 => ?_)
                · try simp only [xb_0, xb_1, ne_eq, Decidable.not_not, decide_eq_true_eq, decide_eq_false_iff_not] at h52
                  refine xe_s (f := (63, _, _, _)) xt_g285 rfl rfl rfl rfl rfl ?_
                  refine xe_if_ne xt_g285 rfl (t := 70) rfl (q := 66) rfl (by first | omega | exact hw.1 _ | exact hw.2 _ _ | exact xb_r _) (fun h63 => ?_) (fun h63 => ?_)
                  · exact absurd rfl h63
                  · try simp only [xb_0, xb_1, ne_eq, Decidable.not_not, decide_eq_true_eq, decide_eq_false_iff_not] at h63
                    refine xe_s (f := (67, _, _, _)) xt_g285 rfl rfl rfl rfl rfl ?_
                    refine xe_if_eq xt_g285 rfl (t := 76) rfl (q := 70) rfl (by first | omega | exact hw.1 _ | exact hw.2 _ _ | exact xb_r _) (fun h67 => ?_) (fun h67 => ?_)
                    · try simp only [xb_0, xb_1, ne_eq, Decidable.not_not, decide_eq_true_eq, decide_eq_false_iff_not] at h67
                      exact xe_loc (by intro q hq; simp only [List.mem_cons, List.not_mem_nil, or_false] at hq; rcases hq with rfl | rfl | rfl | rfl | rfl | rfl | rfl <;> rfl) (h)
                    · exact absurd rfl h67
                · exact absurd rfl h52
          refine xe_s (f := (17, _, _, _)) xt_g285 rfl rfl rfl rfl rfl ?_
          refine xe_s (f := (18, _, _, _)) xt_g285 rfl rfl rfl rfl rfl ?_
          refine xe_mgs xt_g285 rfl (q := 21) rfl (xf_13_265 fm) (by decide) rfl (by omega) ?_
          try simp only [xo_u, xo_w, Nat.reduceEqDiff, reduceIte, false_and, true_and]
          rw [g19]
          refine xe_ic_ge xt_g285 rfl (t := 167) rfl (q := 24) rfl (by first | omega | exact hw.1 _ | exact hw.2 _ _ | exact xb_r _) (by first | omega | exact hw.1 _ | exact hw.2 _ _ | exact xb_r _) (fun h21 => ?_) (fun h21 => ?_)
          · exact absurd h21 (by omega)
          · refine xe_s (f := (25, _, _, _)) xt_g285 rfl rfl rfl rfl rfl ?_
            refine xe_mga xt_g285 rfl (q := 28) rfl (xf_13_58 fm) (by decide) rfl (by omega) ?_
            try simp only [xo_u, xo_w, Nat.reduceEqDiff, reduceIte, false_and, true_and]
            refine xe_s (f := (30, _, _, _)) xt_g285 rfl rfl rfl rfl rfl ?_
            refine xe_mal (ok := xm_isN) (ty := .int) xt_g285 rfl (q := 31) rfl (fun _ _ => ⟨rfl, rfl, rfl, rfl⟩) rfl rfl rfl (by omega) (by omega) (by omega) (by omega) ?_
            try simp only [xo_u, xo_w, Nat.reduceEqDiff, reduceIte, false_and, true_and]
            rw [a27]
            refine xe_s (f := (33, _, _, _)) xt_g285 rfl rfl rfl rfl rfl ?_
            refine xe_ic_ne xt_g285 rfl (t := 161) rfl (q := 36) rfl (by first | omega | exact hw.1 _ | exact hw.2 _ _ | exact xb_r _) (by first | omega | exact hw.1 _ | exact hw.2 _ _ | exact xb_r _) (fun h33 => ?_) (fun h33 => ?_)
            · have h := skip (by unfold mk_p; rw [decide_eq_false (by omega)]; rfl)
              exact xe_loc (by intro q hq; simp only [List.mem_cons, List.not_mem_nil, or_false] at hq; rcases hq with rfl | rfl | rfl | rfl | rfl | rfl | rfl <;> rfl) (h)
            · have hln : c.2.2.2.1.length = nn + 1 := by omega
              have hgo := xv_goes fm hmn (h0 := h0) (net := net) w1 (by omega) hrow (by omega) hb hS1 ho
              rw [e18] at hgo
              refine xe_s (f := (37, _, _, _)) xt_g285 rfl rfl rfl rfl rfl ?_
              refine xe_s (f := (39, _, _, _)) xt_g285 rfl rfl rfl rfl rfl ?_
              refine xe_s (f := (40, _, _, _)) xt_g285 rfl rfl rfl rfl rfl ?_
              refine xe_s (f := (41, _, _, _)) xt_g285 rfl rfl rfl rfl rfl ?_
              refine xe_cvI xt_g285 rfl (q := 44) rfl xk_13_366 rfl (by omega) xt_g286 (by decide) ⟨Nat.le_of_ble_eq_true rfl, Nat.le_of_ble_eq_true rfl, Nat.le_of_ble_eq_true rfl⟩ (hgo) ?_
              refine xe_if_ne xt_g285 rfl (t := 50) rfl (q := 47) rfl (by first | omega | exact hw.1 _ | exact hw.2 _ _ | exact xb_r _) (fun h44 => ?_) (fun h44 => ?_)
              · try simp only [xb_0, xb_1, ne_eq, Decidable.not_not, decide_eq_true_eq, decide_eq_false_iff_not] at h44
                have h := take (by unfold mk_p; rw [decide_eq_true hln, show ck_go (s 18) c a net = true by simpa using h44]; rfl)
                exact xe_loc (by intro q hq; simp only [List.mem_cons, List.not_mem_nil, or_false] at hq; rcases hq with rfl | rfl | rfl | rfl | rfl | rfl | rfl <;> rfl) (h)
              · try simp only [xb_0, xb_1, ne_eq, Decidable.not_not, decide_eq_true_eq, decide_eq_false_iff_not] at h44
                refine xe_s (f := (161, _, _, _)) xt_g285 rfl rfl rfl rfl rfl ?_
                have h := skip (by unfold mk_p; rw [h44, Bool.and_false])
                exact xe_loc (by intro q hq; simp only [List.mem_cons, List.not_mem_nil, or_false] at hq; rcases hq with rfl | rfl | rfl | rfl | rfl | rfl | rfl <;> rfl) (h)
      rw [mk_low] at hb1 hT1
      have h := inner C.length 0 M1 sm s1 ar1 (by omega) w1 q1 g62 gM hb1 hT1
      refine xe_s (f := (9, _, _, _)) xt_g285 rfl rfl rfl rfl rfl ?_
      refine xe_if_le xt_g285 rfl (t := 173) rfl (q := 12) rfl (by first | omega | exact hw.1 _ | exact hw.2 _ _ | exact xb_r _) (fun h9 => ?_) (fun h9 => ?_)
      · exact absurd h9 (by omega)
      · try simp only [xb_0, xb_1, ne_eq, Decidable.not_not, decide_eq_true_eq, decide_eq_false_iff_not] at h9
        refine xe_s (f := (13, _, xi 0 :: _, _)) xt_g285 rfl rfl rfl rfl rfl ?_
        refine xe_s (f := (15, [(6, _), (5, _), (4, _), (0, _), (1, _), (2, _), (3, _)], _, _)) xt_g285 rfl rfl rfl rfl rfl ?_
        exact xe_loc (by intro q hq; simp only [List.mem_cons, List.not_mem_nil, or_false] at hq; rcases hq with rfl | rfl | rfl | rfl | rfl | rfl | rfl <;> rfl) (h)
  have hgl := mk_going_len (t := s 18) (a := a) (net := net) (C := C)
  have h := outer 30 M false s ar (Nat.le_refl _) hw xq_r h62 hM (by unfold mk_going at hgl; omega) hT
  refine xe_s (f := (1, _, xi 0 :: _, _)) xt_g285 rfl rfl rfl rfl rfl ?_
  refine xe_s (f := (3, [(4, _), (0, _), (1, _), (2, _), (3, _)], _, _)) xt_g285 rfl rfl rfl rfl rfl ?_
  refine xe_bipush xt_g285 rfl (q := 5) rfl (by decide) (by decide) ?_
  refine xe_s (f := (7, [(5, _), (4, _), (0, _), (1, _), (2, _), (3, _)], _, _)) xt_g285 rfl rfl rfl rfl rfl ?_
  exact xe_loc (by intro q hq; simp only [List.mem_cons, List.not_mem_nil, or_false] at hq; rcases hq with rfl | rfl | rfl | rfl | rfl | rfl <;> rfl) (h)
end XMK
