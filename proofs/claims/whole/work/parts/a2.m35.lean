/-! the reference: isHost, isToldSuffix, chooseDomain, choosePath -/
def st_pre (H d : List Int) (ins : Bool) : Bool := if ins = true then decide (d.length < H.length ∧ H.getD (H.length - d.length - 1) 0 = 46) else decide (d.length = H.length)
def st_in (H d : List Int) (ins : Bool) : Bool := st_pre H d ins && decide (H.drop (H.length - d.length) = d)
def ts_is (d : List Int) (L : List (List Int)) : Bool := decide (46 ∉ d) || decide (d ∈ L)
def cd_ch (H : List Int) (L : List (List Int)) : Option (List Int) → Option (Bool × List Int)
  | none => if H.length ≤ 40 then some (true, H) else none
  | some d => if ts_is d L = true then (if H = d ∧ H.length ≤ 40 then some (true, H) else none) else if st_ends H d = true ∧ d.length ≤ 40 then some (false, d) else none
def cp_fo (P : List Int) : List Int := if pa_bl P 47 P.length ≤ 1 then P.take 1 else P.take (pa_bl P 47 P.length - 1)
def cp_ch (P : List Int) : Option (List Int) → Option (List Int)
  | none => if (cp_fo P).length ≤ 30 then some (cp_fo P) else none
  | some p => if p.length ≤ 30 then some p else none
theorem st_in_f {H d : List Int} : st_in H d false = decide (H = d) := by
  unfold st_in st_pre
  rw [if_neg (by decide)]
  by_cases h : d.length = H.length
  · rw [decide_eq_true h, Bool.true_and, show H.length - d.length = 0 by omega, List.drop_zero]
  · rw [decide_eq_false h, Bool.false_and, decide_eq_false (fun e => h (by rw [e]))]
theorem st_in_e {H d : List Int} : (st_in H d false || st_in H d true) = st_ends H d := by
  unfold st_in st_ends
  rw [← Bool.and_or_distrib_right]
  congr 1
  unfold st_pre st_ed
  rw [if_neg (by decide), if_pos rfl]
  simp [Bool.decide_or]
theorem xg_drop {l : List Int} {j k : Nat} : (l.drop j).getD k 0 = l.getD (j + k) 0 := by simp only [List.getD, List.getElem?_drop]
theorem xg_get {l : List Int} {k : Nat} (h : k < l.length) : l[k] = l.getD k 0 := by simp [List.getD, h]
section XCH
variable (fm : Value) {m n : Nat} {h0 : xm_H} {s : Nat → Int} {ar : Nat → Nat → Int}
/-- the slot of an address: what is asked of it -/
theorem pa_slot {b : Int} {a : pa_A} (hs : pa_at ar b (pa_text a)) (ho : pa_ok a) (hb : 0 ≤ b) : xd_hf ar b = (pa_scm a.1).length ∧ xd_oe ar b = (pa_hd a).length ∧ xd_he ar b = ((pa_scm a.1).length : Int) + a.2.1.length ∧ xd_pe ar b = ((pa_hd a).length : Int) + a.2.2.2.1.length ∧ xd_safe ar b = a.1 ∧ (∀ i, i < a.2.1.length → ar 4 (60 * b + ((pa_scm a.1).length + i : Nat)).toNat = a.2.1.getD i 0) ∧ (∀ i, i < a.2.2.2.1.length → ar 4 (60 * b + ((pa_hd a).length + i : Nat)).toNat = a.2.2.2.1.getD i 0) ∧ (pa_hd a).length + a.2.2.2.1.length ≤ 60 ∧ (pa_scm a.1).length + a.2.1.length ≤ (pa_hd a).length ∧ (0 ≤ ar 5 b.toNat ∧ ar 5 b.toNat ≤ 60) ∧ 7 ≤ (pa_scm a.1).length ∧ (pa_scm a.1).length ≤ 8 := by
  have h1 : pa_at ar b (pa_hd a ++ (a.2.2.2.1 ++ a.2.2.2.2)) := by
    have := hs
    unfold pa_text at this
    rw [List.append_assoc] at this
    exact this
  have h2 : pa_at ar b (pa_scm a.1 ++ (a.2.1 ++ (pa_pt a.1 a.2.2.1 ++ (a.2.2.2.1 ++ a.2.2.2.2)))) := by
    have := h1
    unfold pa_hd at this
    rw [List.append_assoc, List.append_assoc] at this
    exact this
  obtain ⟨p, hp⟩ := ho.2.1
  have hr : (a.2.2.2.1 ++ a.2.2.2.2) = [] ∨ ∃ p, (a.2.2.2.1 ++ a.2.2.2.2) = 47 :: p := Or.inr ⟨p ++ a.2.2.2.2, by rw [hp]; rfl⟩
  have hl : (pa_text a).length = (pa_hd a).length + a.2.2.2.1.length + a.2.2.2.2.length := by
    unfold pa_text
    simp [Nat.add_assoc]
  have hl2 : (pa_hd a).length = (pa_scm a.1).length + a.2.1.length + (pa_pt a.1 a.2.2.1).length := by
    unfold pa_hd
    simp [Nat.add_assoc]
  have h60 := hs.2.1
  refine ⟨pa_hf h2 hb, pa_oe h1 hb ho hr, ?_, ?_, pa_safe h2 hb, fun i hi => ?_, fun i hi => ?_, by omega, by omega, ?_, ?_, ?_⟩
  · rw [pa_he h1 hb ho hr, List.length_append]
    omega
  · rw [pa_pe hs hb ho, List.length_append]
    omega
  · rw [pa_at_get h2 hb (by omega) (by rw [List.length_append, List.length_append]; omega)]
    unfold lc
    rw [xg_r (by omega), xg_l (by omega)]
    congr 1
    omega
  · rw [pa_at_get h1 hb (by omega) (by rw [List.length_append, List.length_append]; omega)]
    unfold lc
    rw [xg_r (by omega), xg_l (by omega)]
    congr 1
    omega
  · have := hs.1
    omega
  · cases a.1 <;> decide
  · cases a.1 <;> decide
theorem xv_isHost (hmn : xo_in m n) (hw : xo_wf s ar) {b : Int} {a : pa_A} {d : List Int} {ins : Bool} (hb : 0 ≤ b ∧ b < 98) (hs : pa_at ar b (pa_text a)) (ho : pa_ok a) (h33 : s 33 = d.length) (hdl : d.length ≤ 160) (hd : xh (ar 32) 0 d) : xv fm 322 m n h0 s ar [.ref m, xi b, xi (xb ins)] (some (xi (xb (st_in a.2.1 d ins)))) s ar := by
  show xe fm 322 (0, [(0, .ref m), (1, xi b), (2, xi (xb ins))], [], (xo m s ar h0, n, 0, 0)) _
  obtain ⟨e1, e2, e3, e4, e5, e6, e7, e8, e9, e10, e11, e12⟩ := pa_slot hs ho hb.1
  generalize hP : (pa_scm a.1).length = P at *
  generalize hH : a.2.1 = H at *
  have fin : ∀ b' : Bool, b' = st_in H d ins → ∀ v6 v4 v3, xe fm 322 (117, [(6, xi v6), (5, xi (xb b')), (4, xi v4), (3, xi v3), (0, .ref m), (1, xi b), (2, xi (xb ins))], [], (xo m s ar h0, n, 0, 0)) (fun r M => r = .inl (some (xi (xb (st_in H d ins)))) ∧ M = (xo m s ar h0, n, 0, 0)) := by
    intro b' hb' v6 v4 v3
    rw [hb']
    refine xe_s (f := (119, _, _, _)) xt_g322 rfl rfl rfl rfl rfl ?_
    refine xe_iret xt_g322 rfl rfl (xi_bool (by first | omega | exact xb_or _)).1 ?_
    exact ⟨rfl, rfl⟩
  have l70 : ∀ b' : Bool, b' = st_pre H d ins → xe fm 322 (70, [(6, xi ((0 : Nat) : Int)), (5, xi (xb b')), (4, xi ((P : Int) + H.length - d.length)), (3, xi ((P : Int) + H.length)), (0, .ref m), (1, xi b), (2, xi (xb ins))], [], (xo m s ar h0, n, 0, 0)) (fun r M => r = .inl (some (xi (xb (st_in H d ins)))) ∧ M = (xo m s ar h0, n, 0, 0)) := by
    intro b' hb'
    have hle : b' = true → d.length ≤ H.length := by
      intro h
      rw [h] at hb'
      unfold st_pre at hb'
      split at hb'
      · have := of_decide_eq_true hb'.symm
        omega
      · have := of_decide_eq_true hb'.symm
        omega
    refine xc_loop (n := d.length) (B := fun k => decide ((H.drop (H.length - d.length)).getD k 0 = d.getD k 0)) (P := fun k b' => (b' = true → d.length ≤ H.length) → xe fm 322 (70, [(6, xi (k : Nat)), (5, xi (xb b')), (4, xi ((P : Int) + H.length - d.length)), (3, xi ((P : Int) + H.length)), (0, .ref m), (1, xi b), (2, xi (xb ins))], [], (xo m s ar h0, n, 0, 0)) (fun r M => r = .inl (some (xi (xb (st_in H d ins)))) ∧ M = (xo m s ar h0, n, 0, 0))) (E := fun b' => b' = st_in H d ins) b' ?_ ?_ ?_ hle
    · unfold st_in
      rw [← hb']
      cases b' with
      | false => rfl
      | true => rw [xc_all_eq (by rw [List.length_drop]; have := hle rfl; omega) rfl (fun _ _ => rfl)]
    · intro k b' hk hkb hE _
      refine xe_s (f := (72, _, _, _)) xt_g322 rfl rfl rfl rfl rfl ?_
      refine xe_s (f := (73, _, _, _)) xt_g322 rfl rfl rfl rfl rfl ?_
      refine xe_mgs xt_g322 rfl (q := 76) rfl (xf_13_307 fm) (by decide) rfl (by omega) ?_
      try simp only [xo_u, xo_w, Nat.reduceEqDiff, reduceIte, false_and, true_and]
      rw [h33]
      refine xe_ic_ge xt_g322 rfl (t := 117) rfl (q := 79) rfl (by first | omega | exact hw.1 _ | exact hw.2 _ _ | exact xb_r _) (by first | omega | exact hw.1 _ | exact hw.2 _ _ | exact xb_r _) (fun h76 => ?_) (fun h76 => ?_)
      · exact fin b' hE _ _ _
      · refine xe_s (f := (81, _, _, _)) xt_g322 rfl rfl rfl rfl rfl ?_
        refine xe_if_eq xt_g322 rfl (t := 117) rfl (q := 84) rfl (by first | omega | exact hw.1 _ | exact hw.2 _ _ | exact xb_r _) (fun h81 => ?_) (fun h81 => ?_)
        · try simp only [xb_0, xb_1, ne_eq, Decidable.not_not, decide_eq_true_eq, decide_eq_false_iff_not] at h81
          exact fin b' hE _ _ _
        · try simp only [xb_0, xb_1, ne_eq, Decidable.not_not, decide_eq_true_eq, decide_eq_false_iff_not] at h81
          exfalso
          rcases hkb with h | h
          · omega
          · rw [h] at h81; exact absurd rfl h81
    · intro k hk ih hlt
      have hl := hlt rfl
      have y1 : ar 4 (60 * b + ((P : Int) + H.length - d.length + k)).toNat = (H.drop (H.length - d.length)).getD k 0 := by
        have := e6 (H.length - d.length + k) (by omega)
        rw [show (60 * b + ((P + (H.length - d.length + k) : Nat) : Int)).toNat = (60 * b + ((P : Int) + H.length - d.length + k)).toNat by omega] at this
        rw [this]
        simp [List.getD]
      have y2 : ar 32 (k : Int).toNat = d.getD k 0 := by
        rw [← hd k hk, Nat.zero_add]
        rfl
      have r1 := hw.2 4 (60 * b + ((P : Int) + H.length - d.length + k)).toNat
      have r2 := hw.2 32 (k : Int).toNat
      have ih' := ih (fun _ => hl)
      refine xe_s (f := (72, _, _, _)) xt_g322 rfl rfl rfl rfl rfl ?_
      refine xe_s (f := (73, _, _, _)) xt_g322 rfl rfl rfl rfl rfl ?_
      refine xe_mgs xt_g322 rfl (q := 76) rfl (xf_13_307 fm) (by decide) rfl (by omega) ?_
      try simp only [xo_u, xo_w, Nat.reduceEqDiff, reduceIte, false_and, true_and]
      rw [h33]
      refine xe_ic_ge xt_g322 rfl (t := 117) rfl (q := 79) rfl (by first | omega | exact hw.1 _ | exact hw.2 _ _ | exact xb_r _) (by first | omega | exact hw.1 _ | exact hw.2 _ _ | exact xb_r _) (fun h76 => ?_) (fun h76 => ?_)
      · exact absurd h76 (by omega)
      · refine xe_s (f := (81, _, _, _)) xt_g322 rfl rfl rfl rfl rfl ?_
        refine xe_if_eq xt_g322 rfl (t := 117) rfl (q := 84) rfl (by first | omega | exact hw.1 _ | exact hw.2 _ _ | exact xb_r _) (fun h81 => ?_) (fun h81 => ?_)
        · exact absurd h81 (by decide)
        · try simp only [xb_0, xb_1, ne_eq, Decidable.not_not, decide_eq_true_eq, decide_eq_false_iff_not] at h81
          refine xe_s (f := (85, _, _, _)) xt_g322 rfl rfl rfl rfl rfl ?_
          refine xe_s (f := (86, _, _, _)) xt_g322 rfl rfl rfl rfl rfl ?_
          refine xe_s (f := (88, _, _, _)) xt_g322 rfl rfl rfl rfl rfl ?_
          refine xe_s (f := (90, _, _, _)) xt_g322 rfl rfl rfl rfl rfl ?_
          refine xe_iadd xt_g322 rfl (q := 91) rfl ?_
          refine xe_cvI xt_g322 rfl (q := 94) rfl xk_13_172 rfl (by omega) xt_g270 (by decide) ⟨Nat.le_of_ble_eq_true rfl, Nat.le_of_ble_eq_true rfl, Nat.le_of_ble_eq_true rfl⟩ (xv_textAt fm hmn (by omega) (by omega)) ?_
          refine xe_s (f := (95, _, _, _)) xt_g322 rfl rfl rfl rfl rfl ?_
          refine xe_mga xt_g322 rfl (q := 98) rfl (xf_13_74 fm) (by decide) rfl (by omega) ?_
          try simp only [xo_u, xo_w, Nat.reduceEqDiff, reduceIte, false_and, true_and]
          refine xe_s (f := (100, _, _, _)) xt_g322 rfl rfl rfl rfl rfl ?_
          refine xe_mal (ok := xm_isN) (ty := .int) xt_g322 rfl (q := 101) rfl (fun _ _ => ⟨rfl, rfl, rfl, rfl⟩) rfl rfl rfl (by omega) (by omega) (by omega) (by omega) ?_
          try simp only [xo_u, xo_w, Nat.reduceEqDiff, reduceIte, false_and, true_and]
          refine xe_ic_ne xt_g322 rfl (t := 108) rfl (q := 104) rfl (by first | omega | exact hw.1 _ | exact hw.2 _ _ | exact xb_r _) (by first | omega | exact hw.1 _ | exact hw.2 _ _ | exact xb_r _) (fun h101 => ?_) (fun h101 => ?_)
          · refine xe_s (f := (109, _, xi 0 :: _, _)) xt_g322 rfl rfl rfl rfl rfl ?_
            refine xe_s (f := (111, [(5, _), (6, _), (4, _), (3, _), (0, _), (1, _), (2, _)], _, _)) xt_g322 rfl rfl rfl rfl rfl ?_
            refine xe_iinc xt_g322 rfl (q := 114) rfl rfl (by decide) (L1 := [(6, _), (5, _), (4, _), (3, _), (0, _), (1, _), (2, _)]) rfl ?_
            refine xe_s (f := (70, _, _, _)) xt_g322 rfl rfl rfl rfl rfl ?_
            rw [y1, y2] at h101
            rw [decide_eq_false h101] at ih'
            rw [show ((k : Int) + 1) = ((k + 1 : Nat) : Int) by omega]
            exact xe_loc (by intro q hq; simp only [List.mem_cons, List.not_mem_nil, or_false] at hq; rcases hq with rfl | rfl | rfl | rfl | rfl | rfl | rfl <;> rfl) (ih')
          · refine xe_s (f := (105, _, xi 1 :: _, _)) xt_g322 rfl rfl rfl rfl rfl ?_
            refine xe_s (f := (109, _, _, _)) xt_g322 rfl rfl rfl rfl rfl ?_
            refine xe_s (f := (111, [(5, _), (6, _), (4, _), (3, _), (0, _), (1, _), (2, _)], _, _)) xt_g322 rfl rfl rfl rfl rfl ?_
            refine xe_iinc xt_g322 rfl (q := 114) rfl rfl (by decide) (L1 := [(6, _), (5, _), (4, _), (3, _), (0, _), (1, _), (2, _)]) rfl ?_
            refine xe_s (f := (70, _, _, _)) xt_g322 rfl rfl rfl rfl rfl ?_
            rw [y1, y2] at h101
            rw [decide_eq_true (Decidable.not_not.mp h101)] at ih'
            rw [show ((k : Int) + 1) = ((k + 1 : Nat) : Int) by omega]
            exact xe_loc (by intro q hq; simp only [List.mem_cons, List.not_mem_nil, or_false] at hq; rcases hq with rfl | rfl | rfl | rfl | rfl | rfl | rfl <;> rfl) (ih')
  have j65 : ∀ z : Int, z = xb (st_pre H d ins) → xe fm 322 (65, [(4, xi ((P : Int) + H.length - d.length)), (3, xi ((P : Int) + H.length)), (0, .ref m), (1, xi b), (2, xi (xb ins))], [xi z], (xo m s ar h0, n, 0, 0)) (fun r M => r = .inl (some (xi (xb (st_in H d ins)))) ∧ M = (xo m s ar h0, n, 0, 0)) := by
    intro z hz
    rw [hz]
    refine xe_s (f := (67, [(5, _), (4, _), (3, _), (0, _), (1, _), (2, _)], _, _)) xt_g322 rfl rfl rfl rfl rfl ?_
    refine xe_s (f := (68, _, xi 0 :: _, _)) xt_g322 rfl rfl rfl rfl rfl ?_
    refine xe_s (f := (70, [(6, _), (5, _), (4, _), (3, _), (0, _), (1, _), (2, _)], _, _)) xt_g322 rfl rfl rfl rfl rfl ?_
    exact l70 _ rfl
  have y46 : d.length < H.length → ar 4 (60 * b + ((P : Int) + H.length - d.length - 1)).toNat = H.getD (H.length - d.length - 1) 0 := by
    intro h
    have := e6 (H.length - d.length - 1) (by omega)
    rw [show (60 * b + ((P + (H.length - d.length - 1) : Nat) : Int)).toNat = (60 * b + ((P : Int) + H.length - d.length - 1)).toNat by omega] at this
    exact this
  have r46 := hw.2 4 (60 * b + ((P : Int) + H.length - d.length - 1)).toNat
  refine xe_s (f := (1, _, _, _)) xt_g322 rfl rfl rfl rfl rfl ?_
  refine xe_s (f := (2, _, _, _)) xt_g322 rfl rfl rfl rfl rfl ?_
  refine xe_cvI xt_g322 rfl (q := 5) rfl xk_13_343 rfl (by omega) xt_g288 (by decide) ⟨Nat.le_of_ble_eq_true rfl, Nat.le_of_ble_eq_true rfl, Nat.le_of_ble_eq_true rfl⟩ (xv_hostEnd fm hmn hw hb.1 hb.2 e10) ?_
  rw [e3]
  refine xe_s (f := (6, [(3, _), (0, _), (1, _), (2, _)], _, _)) xt_g322 rfl rfl rfl rfl rfl ?_
  refine xe_s (f := (7, _, _, _)) xt_g322 rfl rfl rfl rfl rfl ?_
  refine xe_s (f := (8, _, _, _)) xt_g322 rfl rfl rfl rfl rfl ?_
  refine xe_mgs xt_g322 rfl (q := 11) rfl (xf_13_307 fm) (by decide) rfl (by omega) ?_
  try simp only [xo_u, xo_w, Nat.reduceEqDiff, reduceIte, false_and, true_and]
  rw [h33]
  refine xe_isub xt_g322 rfl (q := 12) rfl ?_
  refine xe_s (f := (14, [(4, _), (3, _), (0, _), (1, _), (2, _)], _, _)) xt_g322 rfl rfl rfl rfl rfl ?_
  refine xe_s (f := (15, _, _, _)) xt_g322 rfl rfl rfl rfl rfl ?_
  refine xe_if_eq xt_g322 rfl (t := 50) rfl (q := 18) rfl (by first | omega | exact hw.1 _ | exact hw.2 _ _ | exact xb_r _) (fun h15 => ?_) (fun h15 => ?_)
  · try simp only [xb_0, xb_1, ne_eq, Decidable.not_not, decide_eq_true_eq, decide_eq_false_iff_not] at h15
    refine xe_s (f := (52, _, _, _)) xt_g322 rfl rfl rfl rfl rfl ?_
    refine xe_s (f := (53, _, _, _)) xt_g322 rfl rfl rfl rfl rfl ?_
    refine xe_s (f := (54, _, _, _)) xt_g322 rfl rfl rfl rfl rfl ?_
    refine xe_cvI xt_g322 rfl (q := 57) rfl xk_13_179 rfl (by omega) xt_g272 (by decide) ⟨Nat.le_of_ble_eq_true rfl, Nat.le_of_ble_eq_true rfl, Nat.le_of_ble_eq_true rfl⟩ (xv_hostFrom fm hmn hw hb.1 hb.2) ?_
    rw [e1]
    refine xe_ic_ne xt_g322 rfl (t := 64) rfl (q := 60) rfl (by first | omega | exact hw.1 _ | exact hw.2 _ _ | exact xb_r _) (by first | omega | exact hw.1 _ | exact hw.2 _ _ | exact xb_r _) (fun h57 => ?_) (fun h57 => ?_)
    · refine xe_s (f := (65, _, xi 0 :: _, _)) xt_g322 rfl rfl rfl rfl rfl ?_
      exact j65 _ (by rw [h15]; unfold st_pre; rw [if_neg (by decide), decide_eq_false (by omega)]; rfl)
    · refine xe_s (f := (61, _, xi 1 :: _, _)) xt_g322 rfl rfl rfl rfl rfl ?_
      refine xe_s (f := (65, _, _, _)) xt_g322 rfl rfl rfl rfl rfl ?_
      exact j65 _ (by rw [h15]; unfold st_pre; rw [if_neg (by decide), decide_eq_true (by omega)]; rfl)
  · try simp only [xb_0, xb_1, ne_eq, Decidable.not_not, decide_eq_true_eq, decide_eq_false_iff_not] at h15
    refine xe_s (f := (20, _, _, _)) xt_g322 rfl rfl rfl rfl rfl ?_
    refine xe_s (f := (21, _, _, _)) xt_g322 rfl rfl rfl rfl rfl ?_
    refine xe_s (f := (22, _, _, _)) xt_g322 rfl rfl rfl rfl rfl ?_
    refine xe_cvI xt_g322 rfl (q := 25) rfl xk_13_179 rfl (by omega) xt_g272 (by decide) ⟨Nat.le_of_ble_eq_true rfl, Nat.le_of_ble_eq_true rfl, Nat.le_of_ble_eq_true rfl⟩ (xv_hostFrom fm hmn hw hb.1 hb.2) ?_
    rw [e1]
    refine xe_ic_le xt_g322 rfl (t := 46) rfl (q := 28) rfl (by first | omega | exact hw.1 _ | exact hw.2 _ _ | exact xb_r _) (by first | omega | exact hw.1 _ | exact hw.2 _ _ | exact xb_r _) (fun h25 => ?_) (fun h25 => ?_)
    · refine xe_s (f := (47, _, xi 0 :: _, _)) xt_g322 rfl rfl rfl rfl rfl ?_
      refine xe_s (f := (65, _, _, _)) xt_g322 rfl rfl rfl rfl rfl ?_
      exact j65 _ (by rw [show ins = true by simpa using h15]; unfold st_pre; rw [if_pos rfl, decide_eq_false (by omega)]; rfl)
    · refine xe_s (f := (29, _, _, _)) xt_g322 rfl rfl rfl rfl rfl ?_
      refine xe_s (f := (30, _, _, _)) xt_g322 rfl rfl rfl rfl rfl ?_
      refine xe_s (f := (32, _, _, _)) xt_g322 rfl rfl rfl rfl rfl ?_
      refine xe_s (f := (33, _, xi 1 :: _, _)) xt_g322 rfl rfl rfl rfl rfl ?_
      refine xe_isub xt_g322 rfl (q := 34) rfl ?_
      refine xe_cvI xt_g322 rfl (q := 37) rfl xk_13_172 rfl (by omega) xt_g270 (by decide) ⟨Nat.le_of_ble_eq_true rfl, Nat.le_of_ble_eq_true rfl, Nat.le_of_ble_eq_true rfl⟩ (xv_textAt fm hmn (by omega) (by omega)) ?_
      refine xe_bipush xt_g322 rfl (q := 39) rfl (by decide) (by decide) ?_
      refine xe_ic_ne xt_g322 rfl (t := 46) rfl (q := 42) rfl (by first | omega | exact hw.1 _ | exact hw.2 _ _ | exact xb_r _) (by first | omega | exact hw.1 _ | exact hw.2 _ _ | exact xb_r _) (fun h39 => ?_) (fun h39 => ?_)
      · refine xe_s (f := (47, _, xi 0 :: _, _)) xt_g322 rfl rfl rfl rfl rfl ?_
        refine xe_s (f := (65, _, _, _)) xt_g322 rfl rfl rfl rfl rfl ?_
        exact j65 _ (by rw [y46 (by omega)] at h39; rw [show ins = true by simpa using h15]; unfold st_pre; rw [if_pos rfl, decide_eq_false (fun h => h39 h.2)]; rfl)
      · refine xe_s (f := (43, _, xi 1 :: _, _)) xt_g322 rfl rfl rfl rfl rfl ?_
        refine xe_s (f := (65, _, _, _)) xt_g322 rfl rfl rfl rfl rfl ?_
        exact j65 _ (by rw [y46 (by omega)] at h39; rw [show ins = true by simpa using h15]; unfold st_pre; rw [if_pos rfl, decide_eq_true ⟨by omega, Decidable.not_not.mp h39⟩]; rfl)
theorem xv_isToldSuffix (hmn : xo_in m n) (hw : xo_wf s ar) {d : List Int} {L : List (List Int)} (hL : sf_at s ar L) (h33 : s 33 = d.length) (hdl : d.length ≤ 160) (hd : xh (ar 32) 0 d) : xv fm 321 m n h0 s ar [.ref m] (some (xi (xb (ts_is d L)))) s ar := by
  show xe fm 321 (0, [(0, .ref m)], [], (xo m s ar h0, n, 0, 0)) _
  have g16 := hL.1
  have hL8 := hL.2.1
  have l43 : ∀ (N k : Nat) (b : Bool), k + N = L.length → b = (decide (46 ∉ d) || decide (d ∈ L.take k)) → ∀ v1, xe fm 321 (43, [(3, xi k), (2, xi (xb b)), (1, xi v1), (0, .ref m)], [], (xo m s ar h0, n, 0, 0)) (fun r M => r = .inl (some (xi (xb (ts_is d L)))) ∧ M = (xo m s ar h0, n, 0, 0)) := by
    intro N
    induction N with
    | zero =>
      intro k b hk hb v1
      rw [List.take_of_length_le (by omega)] at hb
      refine xe_s (f := (44, _, _, _)) xt_g321 rfl rfl rfl rfl rfl ?_
      refine xe_s (f := (45, _, _, _)) xt_g321 rfl rfl rfl rfl rfl ?_
      refine xe_mgs xt_g321 rfl (q := 48) rfl (xf_13_247 fm) (by decide) rfl (by omega) ?_
      try simp only [xo_u, xo_w, Nat.reduceEqDiff, reduceIte, false_and, true_and]
      rw [g16]
      refine xe_ic_ge xt_g321 rfl (t := 84) rfl (q := 51) rfl (by first | omega | exact hw.1 _ | exact hw.2 _ _ | exact xb_r _) (by first | omega | exact hw.1 _ | exact hw.2 _ _ | exact xb_r _) (fun h48 => ?_) (fun h48 => ?_)
      · refine xe_s (f := (85, _, _, _)) xt_g321 rfl rfl rfl rfl rfl ?_
        refine xe_iret xt_g321 rfl rfl (xi_bool (by first | omega | exact xb_or _)).1 ?_
        rw [hb]
        exact ⟨rfl, rfl⟩
      · exact absurd h48 (by omega)
    | succ N ih =>
      intro k b hk hb v1
      obtain ⟨a1, a2, a3⟩ := hL.2.2 k (by omega)
      have hsx := xv_isSuffix fm hmn (h0 := h0) hw (j := 21) (kF := 32) (eF := 160) rfl (by decide) (i := k) (b := 0) (e := d.length) (S := L.getD k []) (R := d) (by omega) a1 a2 a3 hd (by omega) (by omega)
      have htk : decide (d ∈ L.take (k + 1)) = (decide (d ∈ L.take k) || decide (d = L.getD k [])) := by
        rw [List.take_succ_eq_append_getElem (show k < L.length by omega), show L[k] = L.getD k [] by simp [List.getD, show k < L.length by omega]]
        simp only [List.mem_append, List.mem_singleton, Bool.decide_or]
      have j77 : ∀ z : Int, z = xb (decide (46 ∉ d) || decide (d ∈ L.take (k + 1))) → xe fm 321 (77, [(3, xi k), (2, xi (xb b)), (1, xi v1), (0, .ref m)], [xi z], (xo m s ar h0, n, 0, 0)) (fun r M => r = .inl (some (xi (xb (ts_is d L)))) ∧ M = (xo m s ar h0, n, 0, 0)) := by
        intro z hz
        rw [hz]
        refine xe_s (f := (78, [(2, _), (3, _), (1, _), (0, _)], _, _)) xt_g321 rfl rfl rfl rfl rfl ?_
        refine xe_iinc xt_g321 rfl (q := 81) rfl rfl (by decide) (L1 := [(3, _), (2, _), (1, _), (0, _)]) rfl ?_
        refine xe_s (f := (43, _, _, _)) xt_g321 rfl rfl rfl rfl rfl ?_
        rw [show ((k : Int) + 1) = ((k + 1 : Nat) : Int) by omega]
        exact xe_loc (by intro q hq; simp only [List.mem_cons, List.not_mem_nil, or_false] at hq; rcases hq with rfl | rfl | rfl | rfl <;> rfl) (ih (k + 1) _ (by omega) rfl v1)
      refine xe_s (f := (44, _, _, _)) xt_g321 rfl rfl rfl rfl rfl ?_
      refine xe_s (f := (45, _, _, _)) xt_g321 rfl rfl rfl rfl rfl ?_
      refine xe_mgs xt_g321 rfl (q := 48) rfl (xf_13_247 fm) (by decide) rfl (by omega) ?_
      try simp only [xo_u, xo_w, Nat.reduceEqDiff, reduceIte, false_and, true_and]
      rw [g16]
      refine xe_ic_ge xt_g321 rfl (t := 84) rfl (q := 51) rfl (by first | omega | exact hw.1 _ | exact hw.2 _ _ | exact xb_r _) (by first | omega | exact hw.1 _ | exact hw.2 _ _ | exact xb_r _) (fun h48 => ?_) (fun h48 => ?_)
      · exact absurd h48 (by omega)
      · refine xe_s (f := (52, _, _, _)) xt_g321 rfl rfl rfl rfl rfl ?_
        refine xe_if_ne xt_g321 rfl (t := 72) rfl (q := 55) rfl (by first | omega | exact hw.1 _ | exact hw.2 _ _ | exact xb_r _) (fun h52 => ?_) (fun h52 => ?_)
        · try simp only [xb_0, xb_1, ne_eq, Decidable.not_not, decide_eq_true_eq, decide_eq_false_iff_not] at h52
          refine xe_s (f := (73, _, xi 1 :: _, _)) xt_g321 rfl rfl rfl rfl rfl ?_
          refine xe_s (f := (77, _, _, _)) xt_g321 rfl rfl rfl rfl rfl ?_
          exact j77 _ (by rw [htk, ← Bool.or_assoc, ← hb, show b = true by simpa using h52]; rfl)
        · try simp only [xb_0, xb_1, ne_eq, Decidable.not_not, decide_eq_true_eq, decide_eq_false_iff_not] at h52
          refine xe_s (f := (56, _, _, _)) xt_g321 rfl rfl rfl rfl rfl ?_
          refine xe_s (f := (57, _, _, _)) xt_g321 rfl rfl rfl rfl rfl ?_
          refine xe_s (f := (58, _, _, _)) xt_g321 rfl rfl rfl rfl rfl ?_
          refine xe_mga xt_g321 rfl (q := 61) rfl (xf_13_74 fm) (by decide) rfl (by omega) ?_
          try simp only [xo_u, xo_w, Nat.reduceEqDiff, reduceIte, false_and, true_and]
          refine xe_s (f := (62, _, xi 0 :: _, _)) xt_g321 rfl rfl rfl rfl rfl ?_
          refine xe_s (f := (63, _, _, _)) xt_g321 rfl rfl rfl rfl rfl ?_
          refine xe_mgs xt_g321 rfl (q := 66) rfl (xf_13_307 fm) (by decide) rfl (by omega) ?_
          try simp only [xo_u, xo_w, Nat.reduceEqDiff, reduceIte, false_and, true_and]
          rw [h33]
          refine xe_cvI xt_g321 rfl (q := 69) rfl xk_13_250 rfl (by omega) xt_g254 (by decide) ⟨Nat.le_of_ble_eq_true rfl, Nat.le_of_ble_eq_true rfl, Nat.le_of_ble_eq_true rfl⟩ (hsx) ?_
          refine xe_if_eq xt_g321 rfl (t := 76) rfl (q := 72) rfl (by first | omega | exact hw.1 _ | exact hw.2 _ _ | exact xb_r _) (fun h69 => ?_) (fun h69 => ?_)
          · try simp only [xb_0, xb_1, ne_eq, Decidable.not_not, decide_eq_true_eq, decide_eq_false_iff_not] at h69
            refine xe_s (f := (77, _, xi 0 :: _, _)) xt_g321 rfl rfl rfl rfl rfl ?_
            exact j77 _ (by rw [htk, ← Bool.or_assoc, ← hb, decide_eq_false h69, Bool.or_false, h52]; rfl)
          · try simp only [xb_0, xb_1, ne_eq, Decidable.not_not, decide_eq_true_eq, decide_eq_false_iff_not] at h69
            refine xe_s (f := (73, _, xi 1 :: _, _)) xt_g321 rfl rfl rfl rfl rfl ?_
            refine xe_s (f := (77, _, _, _)) xt_g321 rfl rfl rfl rfl rfl ?_
            exact j77 _ (by rw [htk, ← Bool.or_assoc, ← hb, decide_eq_true h69, Bool.or_true]; rfl)
  have l4 : ∀ (N k : Nat) (b : Bool), k + N = d.length → b = decide (46 ∉ d.take k) → xe fm 321 (4, [(2, xi k), (1, xi (xb b)), (0, .ref m)], [], (xo m s ar h0, n, 0, 0)) (fun r M => r = .inl (some (xi (xb (ts_is d L)))) ∧ M = (xo m s ar h0, n, 0, 0)) := by
    intro N
    induction N with
    | zero =>
      intro k b hk hb
      rw [List.take_of_length_le (by omega)] at hb
      refine xe_s (f := (5, _, _, _)) xt_g321 rfl rfl rfl rfl rfl ?_
      refine xe_s (f := (6, _, _, _)) xt_g321 rfl rfl rfl rfl rfl ?_
      refine xe_mgs xt_g321 rfl (q := 9) rfl (xf_13_307 fm) (by decide) rfl (by omega) ?_
      try simp only [xo_u, xo_w, Nat.reduceEqDiff, reduceIte, false_and, true_and]
      rw [h33]
      refine xe_ic_ge xt_g321 rfl (t := 39) rfl (q := 12) rfl (by first | omega | exact hw.1 _ | exact hw.2 _ _ | exact xb_r _) (by first | omega | exact hw.1 _ | exact hw.2 _ _ | exact xb_r _) (fun h9 => ?_) (fun h9 => ?_)
      · refine xe_s (f := (40, _, _, _)) xt_g321 rfl rfl rfl rfl rfl ?_
        refine xe_s (f := (41, [(2, _), (1, _), (0, _)], _, _)) xt_g321 rfl rfl rfl rfl rfl ?_
        refine xe_s (f := (42, _, xi 0 :: _, _)) xt_g321 rfl rfl rfl rfl rfl ?_
        refine xe_s (f := (43, [(3, _), (2, _), (1, _), (0, _)], _, _)) xt_g321 rfl rfl rfl rfl rfl ?_
        exact xe_loc (by intro q hq; simp only [List.mem_cons, List.not_mem_nil, or_false] at hq; rcases hq with rfl | rfl | rfl | rfl <;> rfl) (l43 L.length 0 b (by omega) (by rw [hb, List.take_zero]; simp) (xb b))
      · exact absurd h9 (by omega)
    | succ N ih =>
      intro k b hk hb
      have hlt : k < d.length := by omega
      have y : ar 32 (k : Int).toNat = d.getD k 0 := by
        rw [← hd k hlt, Nat.zero_add]
        rfl
      have r1 := hw.2 32 (k : Int).toNat
      have htk : decide (46 ∉ d.take (k + 1)) = (decide (46 ∉ d.take k) && decide (d.getD k 0 ≠ 46)) := by
        rw [List.take_succ_eq_append_getElem hlt, show d[k] = d.getD k 0 by simp [List.getD, hlt]]
        rw [← Bool.decide_and]
        apply decide_eq_decide.mpr
        simp only [List.mem_append, List.mem_singleton, not_or]
        constructor
        · rintro ⟨h1, h2⟩
          exact ⟨h1, fun e => h2 e.symm⟩
        · rintro ⟨h1, h2⟩
          exact ⟨h1, fun e => h2 e.symm⟩
      have j32 : ∀ z : Int, z = xb (decide (46 ∉ d.take (k + 1))) → xe fm 321 (32, [(2, xi k), (1, xi (xb b)), (0, .ref m)], [xi z], (xo m s ar h0, n, 0, 0)) (fun r M => r = .inl (some (xi (xb (ts_is d L)))) ∧ M = (xo m s ar h0, n, 0, 0)) := by
        intro z hz
        rw [hz]
        refine xe_s (f := (33, [(1, _), (2, _), (0, _)], _, _)) xt_g321 rfl rfl rfl rfl rfl ?_
        refine xe_iinc xt_g321 rfl (q := 36) rfl rfl (by decide) (L1 := [(2, _), (1, _), (0, _)]) rfl ?_
        refine xe_s (f := (4, _, _, _)) xt_g321 rfl rfl rfl rfl rfl ?_
        rw [show ((k : Int) + 1) = ((k + 1 : Nat) : Int) by omega]
        exact xe_loc (by intro q hq; simp only [List.mem_cons, List.not_mem_nil, or_false] at hq; rcases hq with rfl | rfl | rfl <;> rfl) (ih (k + 1) _ (by omega) rfl)
      refine xe_s (f := (5, _, _, _)) xt_g321 rfl rfl rfl rfl rfl ?_
      refine xe_s (f := (6, _, _, _)) xt_g321 rfl rfl rfl rfl rfl ?_
      refine xe_mgs xt_g321 rfl (q := 9) rfl (xf_13_307 fm) (by decide) rfl (by omega) ?_
      try simp only [xo_u, xo_w, Nat.reduceEqDiff, reduceIte, false_and, true_and]
      rw [h33]
      refine xe_ic_ge xt_g321 rfl (t := 39) rfl (q := 12) rfl (by first | omega | exact hw.1 _ | exact hw.2 _ _ | exact xb_r _) (by first | omega | exact hw.1 _ | exact hw.2 _ _ | exact xb_r _) (fun h9 => ?_) (fun h9 => ?_)
      · exact absurd h9 (by omega)
      · refine xe_s (f := (13, _, _, _)) xt_g321 rfl rfl rfl rfl rfl ?_
        refine xe_if_eq xt_g321 rfl (t := 31) rfl (q := 16) rfl (by first | omega | exact hw.1 _ | exact hw.2 _ _ | exact xb_r _) (fun h13 => ?_) (fun h13 => ?_)
        · try simp only [xb_0, xb_1, ne_eq, Decidable.not_not, decide_eq_true_eq, decide_eq_false_iff_not] at h13
          refine xe_s (f := (32, _, xi 0 :: _, _)) xt_g321 rfl rfl rfl rfl rfl ?_
          exact j32 _ (by rw [htk, ← hb, h13]; rfl)
        · try simp only [xb_0, xb_1, ne_eq, Decidable.not_not, decide_eq_true_eq, decide_eq_false_iff_not] at h13
          refine xe_s (f := (17, _, _, _)) xt_g321 rfl rfl rfl rfl rfl ?_
          refine xe_mga xt_g321 rfl (q := 20) rfl (xf_13_74 fm) (by decide) rfl (by omega) ?_
          try simp only [xo_u, xo_w, Nat.reduceEqDiff, reduceIte, false_and, true_and]
          refine xe_s (f := (21, _, _, _)) xt_g321 rfl rfl rfl rfl rfl ?_
          refine xe_mal (ok := xm_isN) (ty := .int) xt_g321 rfl (q := 22) rfl (fun _ _ => ⟨rfl, rfl, rfl, rfl⟩) rfl rfl rfl (by omega) (by omega) (by omega) (by omega) ?_
          try simp only [xo_u, xo_w, Nat.reduceEqDiff, reduceIte, false_and, true_and]
          refine xe_bipush xt_g321 rfl (q := 24) rfl (by decide) (by decide) ?_
          refine xe_ic_eq xt_g321 rfl (t := 31) rfl (q := 27) rfl (by first | omega | exact hw.1 _ | exact hw.2 _ _ | exact xb_r _) (by first | omega | exact hw.1 _ | exact hw.2 _ _ | exact xb_r _) (fun h24 => ?_) (fun h24 => ?_)
          · refine xe_s (f := (32, _, xi 0 :: _, _)) xt_g321 rfl rfl rfl rfl rfl ?_
            exact j32 _ (by rw [y] at h24; rw [htk, show decide (d.getD k 0 ≠ 46) = false from decide_eq_false (fun h => h h24), Bool.and_false]; rfl)
          · refine xe_s (f := (28, _, xi 1 :: _, _)) xt_g321 rfl rfl rfl rfl rfl ?_
            refine xe_s (f := (32, _, _, _)) xt_g321 rfl rfl rfl rfl rfl ?_
            exact j32 _ (by rw [y] at h24; rw [htk, decide_eq_true h24, ← hb, show b = true by simpa using h13]; rfl)
  refine xe_s (f := (1, _, xi 1 :: _, _)) xt_g321 rfl rfl rfl rfl rfl ?_
  refine xe_s (f := (2, [(1, _), (0, _)], _, _)) xt_g321 rfl rfl rfl rfl rfl ?_
  refine xe_s (f := (3, _, xi 0 :: _, _)) xt_g321 rfl rfl rfl rfl rfl ?_
  refine xe_s (f := (4, [(2, _), (1, _), (0, _)], _, _)) xt_g321 rfl rfl rfl rfl rfl ?_
  exact xe_loc (by intro q hq; simp only [List.mem_cons, List.not_mem_nil, or_false] at hq; rcases hq with rfl | rfl | rfl <;> rfl) (l4 d.length 0 true (by omega) (by rw [List.take_zero]; rfl))
def xd_PD2 (s : Nat → Int) (ar : Nat → Nat → Int) (r : Option (Bool × List Int)) (z : Int) (s' : Nat → Int) (ar' : Nat → Nat → Int) : Prop := xo_wf s' ar' ∧ xo_B ar' ∧ xq [] [22, 26, 29] s ar s' ar' ∧ ck_keep ar ar' ∧ (r = none → z = 0) ∧ ∀ p, r = some p → z = 1 ∧ ck_dom ar' 41 p.2 ∧ ar' 29 41 = xb p.1
theorem xV_chooseDomain (hmn : xo_in m n) (hw : xo_wf s ar) (hB : xo_B ar) {b : Int} {a : pa_A} {o : Option (List Int)} {L : List (List Int)} (hb : 0 ≤ b ∧ b < 98) (hs : pa_at ar b (pa_text a)) (ho : pa_ok a) (hL : sf_at s ar L) (hr : at_rd s ar o) : xV fm 320 m n h0 s ar [.ref m, xi b] (xd_PD2 s ar (cd_ch a.2.1 L o)) := by
  show xe fm 320 (0, [(0, .ref m), (1, xi b)], [], (xo m s ar h0, n, 0, 0)) _
  obtain ⟨e1, e2, e3, e4, e5, e6, e7, e8, e9, e10, e11, e12⟩ := pa_slot hs ho hb.1
  generalize hR : cd_ch a.2.1 L o = R
  -- from the choice on: D is the end of the host from place j on
  have fin : ∀ (own : Bool) (j : Nat), j ≤ a.2.1.length → (own = true ∧ j = 0 ∨ own = false ∧ s 33 = ((a.2.1.length - j : Nat) : Int)) → (R = if (a.2.1.drop j).length ≤ 40 then some (own, a.2.1.drop j) else none) → xe fm 320 (61, [(2, xi (xb own)), (0, .ref m), (1, xi b)], [], (xo m s ar h0, n, 0, 0)) (xQI m n h0 (xd_PD2 s ar R)) := by
    intro own j hj hown hRj
    have hdl : (a.2.1.drop j).length = a.2.1.length - j := List.length_drop
    have W : xo_wf s (xo_w ar 29 41 (xb own)) := xo_wf_w hw (xb_r _)
    have Bq : xo_B (xo_w ar 29 41 (xb own)) := xo_B_w hB (fun _ => xb_or own)
    have Q : xq [] [22, 26, 29] s ar s (xo_w ar 29 41 (xb own)) := xq_w xq_r (by decide)
    have Kk : ck_keep ar (xo_w ar 29 41 (xb own)) := ck_keep_b ck_keep_r (by omega)
    have f1 : xd_hf (xo_w ar 29 41 (xb own)) b = (pa_scm a.1).length := e1
    have f3 : xd_he (xo_w ar 29 41 (xb own)) b = ((pa_scm a.1).length : Int) + a.2.1.length := e3
    have loop : a.2.1.length - j ≤ 40 → ∀ (N k : Nat) (ar1 : Nat → Nat → Int), k + N = a.2.1.length - j → xo_wf s ar1 → xo_B ar1 → xq [] [22, 26, 29] s ar s ar1 → ck_keep ar ar1 → ar1 29 41 = xb own → xh (ar1 22) 1640 ((a.2.1.drop j).take k) → xe fm 320 (110, [(5, xi (((pa_scm a.1).length : Int) + j + k)), (4, xi (((pa_scm a.1).length : Int) + j)), (3, xi (((pa_scm a.1).length : Int) + a.2.1.length)), (2, xi (xb own)), (0, .ref m), (1, xi b)], [], (xo m s ar1 h0, n, 0, 0)) (xQI m n h0 (xd_PD2 s ar R)) := by
      intro h40 N
      rw [if_pos (by omega)] at hRj
      induction N with
      | zero =>
        intro k ar1 hk w1 B1 q1 k1 z29 hx
        rw [List.take_of_length_le (by omega)] at hx
        refine xe_s (f := (112, _, _, _)) xt_g320 rfl rfl rfl rfl rfl ?_
        refine xe_s (f := (113, _, _, _)) xt_g320 rfl rfl rfl rfl rfl ?_
        refine xe_ic_ge xt_g320 rfl (t := 143) rfl (q := 116) rfl (by first | omega | exact hw.1 _ | exact hw.2 _ _ | exact xb_r _) (by first | omega | exact hw.1 _ | exact hw.2 _ _ | exact xb_r _) (fun h113 => ?_) (fun h113 => ?_)
        · refine xe_s (f := (144, _, _, _)) xt_g320 rfl rfl rfl rfl rfl ?_
          refine xe_mga xt_g320 rfl (q := 147) rfl (xf_13_55 fm) (by decide) rfl (by omega) ?_
          try simp only [xo_u, xo_w, Nat.reduceEqDiff, reduceIte, false_and, true_and]
          refine xe_bipush xt_g320 rfl (q := 149) rfl (by decide) (by decide) ?_
          refine xe_s (f := (150, _, _, _)) xt_g320 rfl rfl rfl rfl rfl ?_
          refine xe_s (f := (152, _, _, _)) xt_g320 rfl rfl rfl rfl rfl ?_
          refine xe_isub xt_g320 rfl (q := 153) rfl ?_
          refine xe_mas (ok := xm_isN) (ty := .int) xt_g320 rfl (q := 154) rfl (fun _ _ => ⟨rfl, rfl, rfl, rfl⟩) rfl rfl rfl (by omega) (by omega) (by omega) (by omega) (by omega) rfl ?_
          refine xe_s (f := (155, _, xi 1 :: _, _)) xt_g320 rfl rfl rfl rfl rfl ?_
          refine xe_iret xt_g320 rfl rfl (xi_bool (by first | omega | exact xb_or _)).1 ?_
          rw [hRj]
          refine ⟨_, _, _, rfl, rfl, xo_wf_w w1 (by omega), xo_B_w B1 (fun h => absurd h (by decide)), xq_w q1 (by decide), ck_keep_b k1 (by omega), fun h => (by cases h), fun p hp => ?_⟩
          cases hp
          refine ⟨rfl, ⟨?_, ?_, ?_⟩, ?_⟩
          · show xo_w ar1 26 41 _ 26 41 = ((a.2.1.drop j).length : Int)
            rw [xo_wS, hdl]
            omega
          · show (a.2.1.drop j).length ≤ 40
            omega
          · rw [xo_wK (by decide)]
            exact hx
          · rw [xo_wK (by decide)]
            exact z29
        · exact absurd h113 (by omega)
      | succ N ih =>
        intro k ar1 hk w1 B1 q1 k1 z29 hx
        have hlt : k < (a.2.1.drop j).length := by omega
        have y : ar1 4 (60 * b + (((pa_scm a.1).length : Int) + j + k)).toNat = (a.2.1.drop j).getD k 0 := by
          have := e6 (j + k) (by omega)
          rw [show (60 * b + (((pa_scm a.1).length + (j + k) : Nat) : Int)).toNat = (60 * b + (((pa_scm a.1).length : Int) + j + k)).toNat by omega] at this
          rw [q1.2 4 (by decide), this, xg_drop]
        refine xe_s (f := (112, _, _, _)) xt_g320 rfl rfl rfl rfl rfl ?_
        refine xe_s (f := (113, _, _, _)) xt_g320 rfl rfl rfl rfl rfl ?_
        refine xe_ic_ge xt_g320 rfl (t := 143) rfl (q := 116) rfl (by first | omega | exact hw.1 _ | exact hw.2 _ _ | exact xb_r _) (by first | omega | exact hw.1 _ | exact hw.2 _ _ | exact xb_r _) (fun h113 => ?_) (fun h113 => ?_)
        · exact absurd h113 (by omega)
        · refine xe_s (f := (117, _, _, _)) xt_g320 rfl rfl rfl rfl rfl ?_
          refine xe_mga xt_g320 rfl (q := 120) rfl (xf_13_43 fm) (by decide) rfl (by omega) ?_
          try simp only [xo_u, xo_w, Nat.reduceEqDiff, reduceIte, false_and, true_and]
          refine xe_sipush xt_g320 rfl (q := 123) rfl (by decide) (by decide) ?_
          refine xe_s (f := (125, _, _, _)) xt_g320 rfl rfl rfl rfl rfl ?_
          refine xe_iadd xt_g320 rfl (q := 126) rfl ?_
          refine xe_s (f := (128, _, _, _)) xt_g320 rfl rfl rfl rfl rfl ?_
          refine xe_isub xt_g320 rfl (q := 129) rfl ?_
          refine xe_s (f := (130, _, _, _)) xt_g320 rfl rfl rfl rfl rfl ?_
          refine xe_s (f := (131, _, _, _)) xt_g320 rfl rfl rfl rfl rfl ?_
          refine xe_s (f := (133, _, _, _)) xt_g320 rfl rfl rfl rfl rfl ?_
          refine xe_cvI xt_g320 rfl (q := 136) rfl xk_13_172 rfl (by omega) xt_g270 (by decide) ⟨Nat.le_of_ble_eq_true rfl, Nat.le_of_ble_eq_true rfl, Nat.le_of_ble_eq_true rfl⟩ (xv_textAt fm hmn (by omega) (by omega)) ?_
          refine xe_mas (ok := xm_isN) (ty := .int) xt_g320 rfl (q := 137) rfl (fun _ _ => ⟨rfl, rfl, rfl, rfl⟩) rfl rfl rfl (by omega) (by omega) (by omega) (by omega) (by omega) rfl ?_
          refine xe_iinc xt_g320 rfl (q := 140) rfl rfl (by decide) (L1 := [(5, _), (4, _), (3, _), (2, _), (0, _), (1, _)]) rfl ?_
          refine xe_s (f := (110, _, _, _)) xt_g320 rfl rfl rfl rfl rfl ?_
          rw [y, show ((pa_scm a.1).length : Int) + j + k + 1 = ((pa_scm a.1).length : Int) + j + ((k + 1 : Nat) : Int) by omega, show (1640 + (((pa_scm a.1).length : Int) + j + k) - (((pa_scm a.1).length : Int) + j)).toNat = 1640 + k by omega]
          refine ih (k + 1) _ (by omega) (xo_wf_w w1 (by rw [← y]; exact w1.2 _ _)) (xo_B_w B1 (fun h => absurd h (by decide))) (xq_w q1 (by decide)) (ck_keep_x k1 (by omega)) (by rw [xo_wK (by decide)]; exact z29) ?_
          rw [List.take_succ_eq_append_getElem hlt, xg_get hlt]
          exact xh_w (by rw [List.length_take]; omega) hx
    have j93 : ∀ z : Int, z = ((pa_scm a.1).length : Int) + j → xe fm 320 (93, [(3, xi (((pa_scm a.1).length : Int) + a.2.1.length)), (2, xi (xb own)), (0, .ref m), (1, xi b)], [xi z], (xo m s (xo_w ar 29 41 (xb own)) h0, n, 0, 0)) (xQI m n h0 (xd_PD2 s ar R)) := by
      intro z hz
      rw [hz]
      refine xe_s (f := (95, [(4, _), (3, _), (2, _), (0, _), (1, _)], _, _)) xt_g320 rfl rfl rfl rfl rfl ?_
      refine xe_s (f := (96, _, _, _)) xt_g320 rfl rfl rfl rfl rfl ?_
      refine xe_s (f := (98, _, _, _)) xt_g320 rfl rfl rfl rfl rfl ?_
      refine xe_isub xt_g320 rfl (q := 99) rfl ?_
      refine xe_bipush xt_g320 rfl (q := 101) rfl (by decide) (by decide) ?_
      refine xe_ic_le xt_g320 rfl (t := 106) rfl (q := 104) rfl (by first | omega | exact hw.1 _ | exact hw.2 _ _ | exact xb_r _) (by first | omega | exact hw.1 _ | exact hw.2 _ _ | exact xb_r _) (fun h101 => ?_) (fun h101 => ?_)
      · refine xe_s (f := (108, _, _, _)) xt_g320 rfl rfl rfl rfl rfl ?_
        refine xe_s (f := (110, [(5, _), (4, _), (3, _), (2, _), (0, _), (1, _)], _, _)) xt_g320 rfl rfl rfl rfl rfl ?_
        have h := loop (by omega) (a.2.1.length - j) 0 _ (by omega) W Bq Q Kk xo_wS xh_nil
        rw [show ((pa_scm a.1).length : Int) + j + ((0 : Nat) : Int) = ((pa_scm a.1).length : Int) + j by omega] at h
        exact xe_loc (by intro q hq; simp only [List.mem_cons, List.not_mem_nil, or_false] at hq; rcases hq with rfl | rfl | rfl | rfl | rfl | rfl <;> rfl) (h)
      · refine xe_s (f := (105, _, xi 0 :: _, _)) xt_g320 rfl rfl rfl rfl rfl ?_
        refine xe_iret xt_g320 rfl rfl (xi_bool (by first | omega | exact xb_or _)).1 ?_
        rw [if_neg (by omega)] at hRj
        rw [hRj]
        exact ⟨_, _, _, rfl, rfl, W, Bq, Q, Kk, fun _ => rfl, fun _ h => (by cases h)⟩
    have hx := xb_or own
    refine xe_s (f := (62, _, _, _)) xt_g320 rfl rfl rfl rfl rfl ?_
    refine xe_mga xt_g320 rfl (q := 65) rfl (xf_13_64 fm) (by decide) rfl (by omega) ?_
    try simp only [xo_u, xo_w, Nat.reduceEqDiff, reduceIte, false_and, true_and]
    refine xe_bipush xt_g320 rfl (q := 67) rfl (by decide) (by decide) ?_
    refine xe_s (f := (68, _, _, _)) xt_g320 rfl rfl rfl rfl rfl ?_
    refine xe_mas (ok := xm_isB) (ty := .boolean) xt_g320 rfl (q := 69) rfl (fun _ _ => ⟨rfl, rfl, rfl, rfl⟩) rfl rfl rfl (by omega) (by omega) (by omega) (by omega) (by omega) (xi_nb (by first | omega | exact xb_or _)) ?_
    refine xe_s (f := (70, _, _, _)) xt_g320 rfl rfl rfl rfl rfl ?_
    refine xe_s (f := (71, _, _, _)) xt_g320 rfl rfl rfl rfl rfl ?_
    refine xe_cvI xt_g320 rfl (q := 74) rfl xk_13_343 rfl (by omega) xt_g288 (by decide) ⟨Nat.le_of_ble_eq_true rfl, Nat.le_of_ble_eq_true rfl, Nat.le_of_ble_eq_true rfl⟩ (xv_hostEnd fm hmn W hb.1 hb.2 e10) ?_
    rw [f3]
    refine xe_s (f := (75, [(3, _), (2, _), (0, _), (1, _)], _, _)) xt_g320 rfl rfl rfl rfl rfl ?_
    refine xe_s (f := (76, _, _, _)) xt_g320 rfl rfl rfl rfl rfl ?_
    refine xe_if_eq xt_g320 rfl (t := 87) rfl (q := 79) rfl (by first | omega | exact hw.1 _ | exact hw.2 _ _ | exact xb_r _) (fun h76 => ?_) (fun h76 => ?_)
    · try simp only [xb_0, xb_1, ne_eq, Decidable.not_not, decide_eq_true_eq, decide_eq_false_iff_not] at h76
      refine xe_s (f := (88, _, _, _)) xt_g320 rfl rfl rfl rfl rfl ?_
      refine xe_s (f := (89, _, _, _)) xt_g320 rfl rfl rfl rfl rfl ?_
      refine xe_mgs xt_g320 rfl (q := 92) rfl (xf_13_307 fm) (by decide) rfl (by omega) ?_
      try simp only [xo_u, xo_w, Nat.reduceEqDiff, reduceIte, false_and, true_and]
      refine xe_isub xt_g320 rfl (q := 93) rfl ?_
      rcases hown with ⟨h, _⟩ | ⟨_, h⟩
      · rw [h] at h76; exact absurd h76 (by decide)
      · exact j93 _ (by rw [h]; omega)
    · try simp only [xb_0, xb_1, ne_eq, Decidable.not_not, decide_eq_true_eq, decide_eq_false_iff_not] at h76
      refine xe_s (f := (80, _, _, _)) xt_g320 rfl rfl rfl rfl rfl ?_
      refine xe_s (f := (81, _, _, _)) xt_g320 rfl rfl rfl rfl rfl ?_
      refine xe_cvI xt_g320 rfl (q := 84) rfl xk_13_179 rfl (by omega) xt_g272 (by decide) ⟨Nat.le_of_ble_eq_true rfl, Nat.le_of_ble_eq_true rfl, Nat.le_of_ble_eq_true rfl⟩ (xv_hostFrom fm hmn W hb.1 hb.2) ?_
      rw [f1]
      refine xe_s (f := (93, _, _, _)) xt_g320 rfl rfl rfl rfl rfl ?_
      rcases hown with ⟨_, h⟩ | ⟨h, _⟩
      · exact j93 _ (by rw [h]; omega)
      · rw [h] at h76; exact absurd h76 (by decide)
  have h33r := hw.1 33
  cases o with
  | none =>
    have h33 : s 33 = -1 := hr
    refine xe_s (f := (1, _, _, _)) xt_g320 rfl rfl rfl rfl rfl ?_
    refine xe_mgs xt_g320 rfl (q := 4) rfl (xf_13_307 fm) (by decide) rfl (by omega) ?_
    try simp only [xo_u, xo_w, Nat.reduceEqDiff, reduceIte, false_and, true_and]
    rw [h33]
    refine xe_if_ge xt_g320 rfl (t := 11) rfl (q := 7) rfl (by first | omega | exact hw.1 _ | exact hw.2 _ _ | exact xb_r _) (fun h4 => ?_) (fun h4 => ?_)
    · exact absurd h4 (by omega)
    · try simp only [xb_0, xb_1, ne_eq, Decidable.not_not, decide_eq_true_eq, decide_eq_false_iff_not] at h4
      refine xe_s (f := (8, _, xi 1 :: _, _)) xt_g320 rfl rfl rfl rfl rfl ?_
      refine xe_s (f := (12, _, _, _)) xt_g320 rfl rfl rfl rfl rfl ?_
      refine xe_s (f := (13, [(2, _), (0, _), (1, _)], _, _)) xt_g320 rfl rfl rfl rfl rfl ?_
      refine xe_s (f := (14, _, _, _)) xt_g320 rfl rfl rfl rfl rfl ?_
      refine xe_if_ne xt_g320 rfl (t := 37) rfl (q := 17) rfl (by first | omega | exact hw.1 _ | exact hw.2 _ _ | exact xb_r _) (fun h14 => ?_) (fun h14 => ?_)
      · try simp only [xb_0, xb_1, ne_eq, Decidable.not_not, decide_eq_true_eq, decide_eq_false_iff_not] at h14
        refine xe_s (f := (38, _, _, _)) xt_g320 rfl rfl rfl rfl rfl ?_
        refine xe_if_ne xt_g320 rfl (t := 61) rfl (q := 41) rfl (by first | omega | exact hw.1 _ | exact hw.2 _ _ | exact xb_r _) (fun h38 => ?_) (fun h38 => ?_)
        · try simp only [xb_0, xb_1, ne_eq, Decidable.not_not, decide_eq_true_eq, decide_eq_false_iff_not] at h38
          exact fin true 0 (Nat.zero_le _) (Or.inl ⟨rfl, rfl⟩) (by rw [← hR, List.drop_zero]; rfl)
        · exact absurd (show (1 : Int) ≠ 0 by decide) h38
      · exact absurd (show (1 : Int) ≠ 0 by decide) h14
  | some d =>
    obtain ⟨h33, hd1, hd2, hdx⟩ := hr
    have c1 := xv_isToldSuffix fm hmn (h0 := h0) hw hL h33 hd2 hdx
    have c2 := xv_isHost fm hmn (h0 := h0) hw (ins := false) hb hs ho h33 hd2 hdx
    have c3 := xv_isHost fm hmn (h0 := h0) hw (ins := true) hb hs ho h33 hd2 hdx
    rw [st_in_f] at c2
    rw [cd_ch] at hR
    have sub : st_ends a.2.1 d = true → a.2.1.drop (a.2.1.length - d.length) = d ∧ d.length ≤ a.2.1.length := by
      intro h
      unfold st_ends at h
      rw [Bool.and_eq_true] at h
      have h1 := of_decide_eq_true h.1
      exact ⟨of_decide_eq_true h.2, by omega⟩
    have yes : st_ends a.2.1 d = true → ts_is d L = false → xe fm 320 (61, [(2, xi (xb false)), (0, .ref m), (1, xi b)], [], (xo m s ar h0, n, 0, 0)) (xQI m n h0 (xd_PD2 s ar R)) := by
      intro hse hts
      obtain ⟨g1, g2⟩ := sub hse
      refine fin false (a.2.1.length - d.length) (by omega) (Or.inr ⟨rfl, by rw [h33]; omega⟩) ?_
      rw [← hR, if_neg (by rw [hts]; decide), g1]
      by_cases h40 : d.length ≤ 40
      · rw [if_pos ⟨hse, h40⟩, if_pos h40]
      · rw [if_neg (fun h => h40 h.2), if_neg h40]
    refine xe_s (f := (1, _, _, _)) xt_g320 rfl rfl rfl rfl rfl ?_
    refine xe_mgs xt_g320 rfl (q := 4) rfl (xf_13_307 fm) (by decide) rfl (by omega) ?_
    try simp only [xo_u, xo_w, Nat.reduceEqDiff, reduceIte, false_and, true_and]
    rw [h33]
    refine xe_if_ge xt_g320 rfl (t := 11) rfl (q := 7) rfl (by first | omega | exact hw.1 _ | exact hw.2 _ _ | exact xb_r _) (fun h4 => ?_) (fun h4 => ?_)
    · try simp only [xb_0, xb_1, ne_eq, Decidable.not_not, decide_eq_true_eq, decide_eq_false_iff_not] at h4
      refine xe_s (f := (12, _, xi 0 :: _, _)) xt_g320 rfl rfl rfl rfl rfl ?_
      refine xe_s (f := (13, [(2, _), (0, _), (1, _)], _, _)) xt_g320 rfl rfl rfl rfl rfl ?_
      refine xe_s (f := (14, _, _, _)) xt_g320 rfl rfl rfl rfl rfl ?_
      refine xe_if_ne xt_g320 rfl (t := 37) rfl (q := 17) rfl (by first | omega | exact hw.1 _ | exact hw.2 _ _ | exact xb_r _) (fun h14 => ?_) (fun h14 => ?_)
      · exact absurd h14 (by decide)
      · try simp only [xb_0, xb_1, ne_eq, Decidable.not_not, decide_eq_true_eq, decide_eq_false_iff_not] at h14
        refine xe_s (f := (18, _, _, _)) xt_g320 rfl rfl rfl rfl rfl ?_
        refine xe_cvI xt_g320 rfl (q := 21) rfl xk_13_346 rfl (by omega) xt_g321 (by decide) ⟨Nat.le_of_ble_eq_true rfl, Nat.le_of_ble_eq_true rfl, Nat.le_of_ble_eq_true rfl⟩ (c1) ?_
        refine xe_if_eq xt_g320 rfl (t := 37) rfl (q := 24) rfl (by first | omega | exact hw.1 _ | exact hw.2 _ _ | exact xb_r _) (fun h21 => ?_) (fun h21 => ?_)
        · try simp only [xb_0, xb_1, ne_eq, Decidable.not_not, decide_eq_true_eq, decide_eq_false_iff_not] at h21
          refine xe_s (f := (38, _, _, _)) xt_g320 rfl rfl rfl rfl rfl ?_
          refine xe_if_ne xt_g320 rfl (t := 61) rfl (q := 41) rfl (by first | omega | exact hw.1 _ | exact hw.2 _ _ | exact xb_r _) (fun h38 => ?_) (fun h38 => ?_)
          · exact absurd h38 (by decide)
          · try simp only [xb_0, xb_1, ne_eq, Decidable.not_not, decide_eq_true_eq, decide_eq_false_iff_not] at h38
            refine xe_s (f := (42, _, _, _)) xt_g320 rfl rfl rfl rfl rfl ?_
            refine xe_s (f := (43, _, _, _)) xt_g320 rfl rfl rfl rfl rfl ?_
            refine xe_s (f := (44, _, xi 0 :: _, _)) xt_g320 rfl rfl rfl rfl rfl ?_
            refine xe_cvI xt_g320 rfl (q := 47) rfl xk_13_349 rfl (by omega) xt_g322 (by decide) ⟨Nat.le_of_ble_eq_true rfl, Nat.le_of_ble_eq_true rfl, Nat.le_of_ble_eq_true rfl⟩ (c2) ?_
            refine xe_if_ne xt_g320 rfl (t := 61) rfl (q := 50) rfl (by first | omega | exact hw.1 _ | exact hw.2 _ _ | exact xb_r _) (fun h47 => ?_) (fun h47 => ?_)
            · try simp only [xb_0, xb_1, ne_eq, Decidable.not_not, decide_eq_true_eq, decide_eq_false_iff_not] at h47
              exact yes (by rw [← st_in_e, st_in_f, decide_eq_true h47, Bool.true_or]) h21
            · try simp only [xb_0, xb_1, ne_eq, Decidable.not_not, decide_eq_true_eq, decide_eq_false_iff_not] at h47
              refine xe_s (f := (51, _, _, _)) xt_g320 rfl rfl rfl rfl rfl ?_
              refine xe_s (f := (52, _, _, _)) xt_g320 rfl rfl rfl rfl rfl ?_
              refine xe_s (f := (53, _, xi 1 :: _, _)) xt_g320 rfl rfl rfl rfl rfl ?_
              refine xe_cvI xt_g320 rfl (q := 56) rfl xk_13_349 rfl (by omega) xt_g322 (by decide) ⟨Nat.le_of_ble_eq_true rfl, Nat.le_of_ble_eq_true rfl, Nat.le_of_ble_eq_true rfl⟩ (c3) ?_
              refine xe_if_ne xt_g320 rfl (t := 61) rfl (q := 59) rfl (by first | omega | exact hw.1 _ | exact hw.2 _ _ | exact xb_r _) (fun h56 => ?_) (fun h56 => ?_)
              · try simp only [xb_0, xb_1, ne_eq, Decidable.not_not, decide_eq_true_eq, decide_eq_false_iff_not] at h56
                exact yes (by rw [← st_in_e, show st_in a.2.1 d true = true by simpa using h56, Bool.or_true]) h21
              · try simp only [xb_0, xb_1, ne_eq, Decidable.not_not, decide_eq_true_eq, decide_eq_false_iff_not] at h56
                refine xe_s (f := (60, _, xi 0 :: _, _)) xt_g320 rfl rfl rfl rfl rfl ?_
                refine xe_iret xt_g320 rfl rfl (xi_bool (by first | omega | exact xb_or _)).1 ?_
                have hno : st_ends a.2.1 d = false := by rw [← st_in_e, st_in_f, decide_eq_false h47, h56]; rfl
                rw [if_neg (by rw [h21]; decide), if_neg (by rw [hno]; simp)] at hR
                rw [← hR]
                exact ⟨_, _, _, rfl, rfl, hw, hB, xq_r, ck_keep_r, fun _ => rfl, fun _ h => (by cases h)⟩
        · try simp only [xb_0, xb_1, ne_eq, Decidable.not_not, decide_eq_true_eq, decide_eq_false_iff_not] at h21
          refine xe_s (f := (25, _, _, _)) xt_g320 rfl rfl rfl rfl rfl ?_
          refine xe_s (f := (26, _, _, _)) xt_g320 rfl rfl rfl rfl rfl ?_
          refine xe_s (f := (27, _, xi 0 :: _, _)) xt_g320 rfl rfl rfl rfl rfl ?_
          refine xe_cvI xt_g320 rfl (q := 30) rfl xk_13_349 rfl (by omega) xt_g322 (by decide) ⟨Nat.le_of_ble_eq_true rfl, Nat.le_of_ble_eq_true rfl, Nat.le_of_ble_eq_true rfl⟩ (c2) ?_
          refine xe_if_ne xt_g320 rfl (t := 35) rfl (q := 33) rfl (by first | omega | exact hw.1 _ | exact hw.2 _ _ | exact xb_r _) (fun h30 => ?_) (fun h30 => ?_)
          · try simp only [xb_0, xb_1, ne_eq, Decidable.not_not, decide_eq_true_eq, decide_eq_false_iff_not] at h30
            refine xe_s (f := (36, _, xi 1 :: _, _)) xt_g320 rfl rfl rfl rfl rfl ?_
            refine xe_s (f := (37, [(2, _), (0, _), (1, _)], _, _)) xt_g320 rfl rfl rfl rfl rfl ?_
            rw [if_pos (by simpa using h21)] at hR
            refine xe_s (f := (38, _, _, _)) xt_g320 rfl rfl rfl rfl rfl ?_
            refine xe_if_ne xt_g320 rfl (t := 61) rfl (q := 41) rfl (by first | omega | exact hw.1 _ | exact hw.2 _ _ | exact xb_r _) (fun h38 => ?_) (fun h38 => ?_)
            · try simp only [xb_0, xb_1, ne_eq, Decidable.not_not, decide_eq_true_eq, decide_eq_false_iff_not] at h38
              refine fin true 0 (Nat.zero_le _) (Or.inl ⟨rfl, rfl⟩) ?_
              rw [← hR, List.drop_zero]
              by_cases h40 : a.2.1.length ≤ 40
              · rw [if_pos ⟨h30, h40⟩, if_pos h40]
              · rw [if_neg (fun h => h40 h.2), if_neg h40]
            · exact absurd (show (1 : Int) ≠ 0 by decide) h38
          · try simp only [xb_0, xb_1, ne_eq, Decidable.not_not, decide_eq_true_eq, decide_eq_false_iff_not] at h30
            refine xe_s (f := (34, _, xi 0 :: _, _)) xt_g320 rfl rfl rfl rfl rfl ?_
            refine xe_iret xt_g320 rfl rfl (xi_bool (by first | omega | exact xb_or _)).1 ?_
            rw [if_pos (by simpa using h21), if_neg (fun h => h30 h.1)] at hR
            rw [← hR]
            exact ⟨_, _, _, rfl, rfl, hw, hB, xq_r, ck_keep_r, fun _ => rfl, fun _ h => (by cases h)⟩
    · exact absurd h4 (by omega)
def xd_PP3 (s : Nat → Int) (ar : Nat → Nat → Int) (r : Option (List Int)) (z : Int) (s' : Nat → Int) (ar' : Nat → Nat → Int) : Prop := xo_wf s' ar' ∧ xo_B ar' ∧ xq [] [23, 27] s ar s' ar' ∧ ck_keep ar ar' ∧ (r = none → z = 0) ∧ ∀ p, r = some p → z = 1 ∧ ck_txt ar' 27 23 30 41 p
theorem xV_choosePath (hmn : xo_in m n) (hw : xo_wf s ar) (hB : xo_B ar) (h2 : s 2 ≤ 160) {b : Int} {a : pa_A} {o : Option (List Int)} (hb : 0 ≤ b ∧ b < 98) (hs : pa_at ar b (pa_text a)) (ho : pa_ok a) (hr : at_rp s ar o) : xV fm 323 m n h0 s ar [.ref m, xi b] (xd_PP3 s ar (cp_ch a.2.2.2.1 o)) := by
  show xe fm 323 (0, [(0, .ref m), (1, xi b)], [], (xo m s ar h0, n, 0, 0)) _
  obtain ⟨e1, e2, e3, e4, e5, e6, e7, e8, e9, e10, e11, e12⟩ := pa_slot hs ho hb.1
  generalize hR : cp_ch a.2.2.2.1 o = R
  have h34r := hw.1 34
  cases o with
  | some p =>
    obtain ⟨g1, g2, g3, g4⟩ := hr
    have hpl : p.length = (s 35 - s 34).toNat := by rw [g4, pa_sl_len]
    rw [cp_ch] at hR
    have loop : s 35 - s 34 ≤ 30 → ∀ (N : Nat) (k : Int) (ar1 : Nat → Nat → Int), s 34 ≤ k → k + N = s 35 → xo_wf s ar1 → xo_B ar1 → xq [] [23, 27] s ar s ar1 → ck_keep ar ar1 → xh (ar1 23) 1230 (pa_sl (xd_at s ar) (s 34) k) → xe fm 323 (28, [(2, xi k), (0, .ref m), (1, xi b)], [], (xo m s ar1 h0, n, 0, 0)) (xQI m n h0 (xd_PP3 s ar R)) := by
      intro h30 N
      rw [if_pos (by omega)] at hR
      induction N with
      | zero =>
        intro k ar1 hk hN w1 B1 q1 k1 hx
        rw [show k = s 35 by omega, ← g4] at hx
        refine xe_s (f := (29, _, _, _)) xt_g323 rfl rfl rfl rfl rfl ?_
        refine xe_s (f := (30, _, _, _)) xt_g323 rfl rfl rfl rfl rfl ?_
        refine xe_mgs xt_g323 rfl (q := 33) rfl (xf_13_330 fm) (by decide) rfl (by omega) ?_
        try simp only [xo_u, xo_w, Nat.reduceEqDiff, reduceIte, false_and, true_and]
        refine xe_ic_ge xt_g323 rfl (t := 63) rfl (q := 36) rfl (by first | omega | exact hw.1 _ | exact hw.2 _ _ | exact xb_r _) (by first | omega | exact hw.1 _ | exact hw.2 _ _ | exact xb_r _) (fun h33 => ?_) (fun h33 => ?_)
        · refine xe_s (f := (64, _, _, _)) xt_g323 rfl rfl rfl rfl rfl ?_
          refine xe_mga xt_g323 rfl (q := 67) rfl (xf_13_58 fm) (by decide) rfl (by omega) ?_
          try simp only [xo_u, xo_w, Nat.reduceEqDiff, reduceIte, false_and, true_and]
          refine xe_bipush xt_g323 rfl (q := 69) rfl (by decide) (by decide) ?_
          refine xe_s (f := (70, _, _, _)) xt_g323 rfl rfl rfl rfl rfl ?_
          refine xe_mgs xt_g323 rfl (q := 73) rfl (xf_13_330 fm) (by decide) rfl (by omega) ?_
          try simp only [xo_u, xo_w, Nat.reduceEqDiff, reduceIte, false_and, true_and]
          refine xe_s (f := (74, _, _, _)) xt_g323 rfl rfl rfl rfl rfl ?_
          refine xe_mgs xt_g323 rfl (q := 77) rfl (xf_13_310 fm) (by decide) rfl (by omega) ?_
          try simp only [xo_u, xo_w, Nat.reduceEqDiff, reduceIte, false_and, true_and]
          refine xe_isub xt_g323 rfl (q := 78) rfl ?_
          refine xe_mas (ok := xm_isN) (ty := .int) xt_g323 rfl (q := 79) rfl (fun _ _ => ⟨rfl, rfl, rfl, rfl⟩) rfl rfl rfl (by omega) (by omega) (by omega) (by omega) (by omega) rfl ?_
          refine xe_s (f := (80, _, xi 1 :: _, _)) xt_g323 rfl rfl rfl rfl rfl ?_
          refine xe_iret xt_g323 rfl rfl (xi_bool (by first | omega | exact xb_or _)).1 ?_
          rw [← hR]
          refine ⟨_, _, _, rfl, rfl, xo_wf_w w1 (by omega), xo_B_w B1 (fun h => absurd h (by decide)), xq_w q1 (by decide), ck_keep_b k1 (by omega), fun h => (by cases h), fun p' hp => ?_⟩
          cases hp
          refine ⟨rfl, ?_, by omega, ?_⟩
          · show xo_w ar1 27 41 _ 27 41 = (p.length : Int)
            rw [xo_wS, hpl]
            omega
          · rw [xo_wK (by decide)]
            exact hx
        · exact absurd h33 (by omega)
      | succ N ih =>
        intro k ar1 hk hN w1 B1 q1 k1 hx
        have ek : ar1 1 k.toNat = xd_at s ar k := by
          rw [q1.2 1 (by decide), xd_at_in (by omega) (by omega)]
        refine xe_s (f := (29, _, _, _)) xt_g323 rfl rfl rfl rfl rfl ?_
        refine xe_s (f := (30, _, _, _)) xt_g323 rfl rfl rfl rfl rfl ?_
        refine xe_mgs xt_g323 rfl (q := 33) rfl (xf_13_330 fm) (by decide) rfl (by omega) ?_
        try simp only [xo_u, xo_w, Nat.reduceEqDiff, reduceIte, false_and, true_and]
        refine xe_ic_ge xt_g323 rfl (t := 63) rfl (q := 36) rfl (by first | omega | exact hw.1 _ | exact hw.2 _ _ | exact xb_r _) (by first | omega | exact hw.1 _ | exact hw.2 _ _ | exact xb_r _) (fun h33 => ?_) (fun h33 => ?_)
        · exact absurd h33 (by omega)
        · refine xe_s (f := (37, _, _, _)) xt_g323 rfl rfl rfl rfl rfl ?_
          refine xe_mga xt_g323 rfl (q := 40) rfl (xf_13_46 fm) (by decide) rfl (by omega) ?_
          try simp only [xo_u, xo_w, Nat.reduceEqDiff, reduceIte, false_and, true_and]
          refine xe_sipush xt_g323 rfl (q := 43) rfl (by decide) (by decide) ?_
          refine xe_s (f := (44, _, _, _)) xt_g323 rfl rfl rfl rfl rfl ?_
          refine xe_iadd xt_g323 rfl (q := 45) rfl ?_
          refine xe_s (f := (46, _, _, _)) xt_g323 rfl rfl rfl rfl rfl ?_
          refine xe_mgs xt_g323 rfl (q := 49) rfl (xf_13_310 fm) (by decide) rfl (by omega) ?_
          try simp only [xo_u, xo_w, Nat.reduceEqDiff, reduceIte, false_and, true_and]
          refine xe_isub xt_g323 rfl (q := 50) rfl ?_
          refine xe_s (f := (51, _, _, _)) xt_g323 rfl rfl rfl rfl rfl ?_
          refine xe_mga xt_g323 rfl (q := 54) rfl (xf_13_7 fm) (by decide) rfl (by omega) ?_
          try simp only [xo_u, xo_w, Nat.reduceEqDiff, reduceIte, false_and, true_and]
          refine xe_s (f := (55, _, _, _)) xt_g323 rfl rfl rfl rfl rfl ?_
          refine xe_mal (ok := xm_isN) (ty := .int) xt_g323 rfl (q := 56) rfl (fun _ _ => ⟨rfl, rfl, rfl, rfl⟩) rfl rfl rfl (by omega) (by omega) (by omega) (by omega) ?_
          try simp only [xo_u, xo_w, Nat.reduceEqDiff, reduceIte, false_and, true_and]
          refine xe_mas (ok := xm_isN) (ty := .int) xt_g323 rfl (q := 57) rfl (fun _ _ => ⟨rfl, rfl, rfl, rfl⟩) rfl rfl rfl (by omega) (by omega) (by omega) (by omega) (by omega) rfl ?_
          refine xe_iinc xt_g323 rfl (q := 60) rfl rfl (by decide) (L1 := [(2, _), (0, _), (1, _)]) rfl ?_
          refine xe_s (f := (28, _, _, _)) xt_g323 rfl rfl rfl rfl rfl ?_
          rw [ek]
          refine ih (k + 1) _ (by omega) (by omega) (xo_wf_w w1 (xd_at_r hw _)) (xo_B_w B1 (fun h => absurd h (by decide))) (xq_w q1 (by decide)) (ck_keep_x k1 (by omega)) ?_
          rw [pa_sl_s hk]
          exact xh_w (by rw [pa_sl_len]; omega) hx
    refine xe_s (f := (1, _, _, _)) xt_g323 rfl rfl rfl rfl rfl ?_
    refine xe_mgs xt_g323 rfl (q := 4) rfl (xf_13_310 fm) (by decide) rfl (by omega) ?_
    try simp only [xo_u, xo_w, Nat.reduceEqDiff, reduceIte, false_and, true_and]
    refine xe_if_lt xt_g323 rfl (t := 81) rfl (q := 7) rfl (by first | omega | exact hw.1 _ | exact hw.2 _ _ | exact xb_r _) (fun h4 => ?_) (fun h4 => ?_)
    · exact absurd h4 (by omega)
    · try simp only [xb_0, xb_1, ne_eq, Decidable.not_not, decide_eq_true_eq, decide_eq_false_iff_not] at h4
      refine xe_s (f := (8, _, _, _)) xt_g323 rfl rfl rfl rfl rfl ?_
      refine xe_mgs xt_g323 rfl (q := 11) rfl (xf_13_330 fm) (by decide) rfl (by omega) ?_
      try simp only [xo_u, xo_w, Nat.reduceEqDiff, reduceIte, false_and, true_and]
      refine xe_s (f := (12, _, _, _)) xt_g323 rfl rfl rfl rfl rfl ?_
      refine xe_mgs xt_g323 rfl (q := 15) rfl (xf_13_310 fm) (by decide) rfl (by omega) ?_
      try simp only [xo_u, xo_w, Nat.reduceEqDiff, reduceIte, false_and, true_and]
      refine xe_isub xt_g323 rfl (q := 16) rfl ?_
      refine xe_bipush xt_g323 rfl (q := 18) rfl (by decide) (by decide) ?_
      refine xe_ic_le xt_g323 rfl (t := 23) rfl (q := 21) rfl (by first | omega | exact hw.1 _ | exact hw.2 _ _ | exact xb_r _) (by first | omega | exact hw.1 _ | exact hw.2 _ _ | exact xb_r _) (fun h18 => ?_) (fun h18 => ?_)
      · refine xe_s (f := (24, _, _, _)) xt_g323 rfl rfl rfl rfl rfl ?_
        refine xe_mgs xt_g323 rfl (q := 27) rfl (xf_13_310 fm) (by decide) rfl (by omega) ?_
        try simp only [xo_u, xo_w, Nat.reduceEqDiff, reduceIte, false_and, true_and]
        refine xe_s (f := (28, [(2, _), (0, _), (1, _)], _, _)) xt_g323 rfl rfl rfl rfl rfl ?_
        exact loop (by omega) (s 35 - s 34).toNat (s 34) ar (Int.le_refl _) (by omega) hw hB xq_r ck_keep_r (by rw [pa_sl_nil (Int.le_refl _)]; exact xh_nil)
      · refine xe_s (f := (22, _, xi 0 :: _, _)) xt_g323 rfl rfl rfl rfl rfl ?_
        refine xe_iret xt_g323 rfl rfl (xi_bool (by first | omega | exact xb_or _)).1 ?_
        rw [if_neg (by omega)] at hR
        rw [← hR]
        exact ⟨_, _, _, rfl, rfl, hw, hB, xq_r, ck_keep_r, fun _ => rfl, fun _ h => (by cases h)⟩
  | none =>
    have g34 : s 34 = -1 := hr
    rw [cp_ch] at hR
    obtain ⟨p0, hp0⟩ := ho.2.1
    have hKl := pa_bl_le (l := a.2.2.2.1) (c := 47) a.2.2.2.1.length
    have hKp : 0 < pa_bl a.2.2.2.1 47 a.2.2.2.1.length := pa_bl_pos (by rw [hp0]; rfl) _ (by rw [hp0]; simp)
    generalize hK : pa_bl a.2.2.2.1 47 a.2.2.2.1.length = K at *
    have fin : ∀ F : Nat, cp_fo a.2.2.2.1 = a.2.2.2.1.take F → F ≤ a.2.2.2.1.length → xe fm 323 (126, [(3, xi (((pa_hd a).length : Int) + K)), (2, xi (pa_hd a).length), (0, .ref m), (1, xi b)], [xi (((pa_hd a).length : Int) + F)], (xo m s ar h0, n, 0, 0)) (xQI m n h0 (xd_PP3 s ar R)) := by
      intro F hF hFl
      have hfl : (cp_fo a.2.2.2.1).length = F := by rw [hF, List.length_take]; omega
      have loop : F ≤ 30 → ∀ (N k : Nat) (ar1 : Nat → Nat → Int), k + N = F → xo_wf s ar1 → xo_B ar1 → xq [] [23, 27] s ar s ar1 → ck_keep ar ar1 → xh (ar1 23) 1230 (a.2.2.2.1.take k) → xe fm 323 (140, [(4, xi (((pa_hd a).length : Int) + k)), (3, xi (((pa_hd a).length : Int) + F)), (2, xi (pa_hd a).length), (0, .ref m), (1, xi b)], [], (xo m s ar1 h0, n, 0, 0)) (xQI m n h0 (xd_PP3 s ar R)) := by
        intro h30 N
        rw [if_pos (by omega)] at hR
        induction N with
        | zero =>
          intro k ar1 hN w1 B1 q1 k1 hx
          rw [show k = F by omega, ← hF] at hx
          refine xe_s (f := (142, _, _, _)) xt_g323 rfl rfl rfl rfl rfl ?_
          refine xe_s (f := (143, _, _, _)) xt_g323 rfl rfl rfl rfl rfl ?_
          refine xe_ic_ge xt_g323 rfl (t := 172) rfl (q := 146) rfl (by first | omega | exact hw.1 _ | exact hw.2 _ _ | exact xb_r _) (by first | omega | exact hw.1 _ | exact hw.2 _ _ | exact xb_r _) (fun h143 => ?_) (fun h143 => ?_)
          · refine xe_s (f := (173, _, _, _)) xt_g323 rfl rfl rfl rfl rfl ?_
            refine xe_mga xt_g323 rfl (q := 176) rfl (xf_13_58 fm) (by decide) rfl (by omega) ?_
            try simp only [xo_u, xo_w, Nat.reduceEqDiff, reduceIte, false_and, true_and]
            refine xe_bipush xt_g323 rfl (q := 178) rfl (by decide) (by decide) ?_
            refine xe_s (f := (179, _, _, _)) xt_g323 rfl rfl rfl rfl rfl ?_
            refine xe_s (f := (180, _, _, _)) xt_g323 rfl rfl rfl rfl rfl ?_
            refine xe_isub xt_g323 rfl (q := 181) rfl ?_
            refine xe_mas (ok := xm_isN) (ty := .int) xt_g323 rfl (q := 182) rfl (fun _ _ => ⟨rfl, rfl, rfl, rfl⟩) rfl rfl rfl (by omega) (by omega) (by omega) (by omega) (by omega) rfl ?_
            refine xe_s (f := (183, _, xi 1 :: _, _)) xt_g323 rfl rfl rfl rfl rfl ?_
            refine xe_iret xt_g323 rfl rfl (xi_bool (by first | omega | exact xb_or _)).1 ?_
            rw [← hR]
            refine ⟨_, _, _, rfl, rfl, xo_wf_w w1 (by omega), xo_B_w B1 (fun h => absurd h (by decide)), xq_w q1 (by decide), ck_keep_b k1 (by omega), fun h => (by cases h), fun p' hp => ?_⟩
            cases hp
            refine ⟨rfl, ?_, by omega, ?_⟩
            · show xo_w ar1 27 41 _ 27 41 = ((cp_fo a.2.2.2.1).length : Int)
              rw [xo_wS, hfl]
              omega
            · rw [xo_wK (by decide)]
              exact hx
          · exact absurd h143 (by omega)
        | succ N ih =>
          intro k ar1 hN w1 B1 q1 k1 hx
          have hlt : k < a.2.2.2.1.length := by omega
          have y : ar1 4 (60 * b + (((pa_hd a).length : Int) + k)).toNat = a.2.2.2.1.getD k 0 := by
            have := e7 k hlt
            rw [show (60 * b + (((pa_hd a).length + k : Nat) : Int)).toNat = (60 * b + (((pa_hd a).length : Int) + k)).toNat by omega] at this
            rw [q1.2 4 (by decide), this]
          refine xe_s (f := (142, _, _, _)) xt_g323 rfl rfl rfl rfl rfl ?_
          refine xe_s (f := (143, _, _, _)) xt_g323 rfl rfl rfl rfl rfl ?_
          refine xe_ic_ge xt_g323 rfl (t := 172) rfl (q := 146) rfl (by first | omega | exact hw.1 _ | exact hw.2 _ _ | exact xb_r _) (by first | omega | exact hw.1 _ | exact hw.2 _ _ | exact xb_r _) (fun h143 => ?_) (fun h143 => ?_)
          · exact absurd h143 (by omega)
          · refine xe_s (f := (147, _, _, _)) xt_g323 rfl rfl rfl rfl rfl ?_
            refine xe_mga xt_g323 rfl (q := 150) rfl (xf_13_46 fm) (by decide) rfl (by omega) ?_
            try simp only [xo_u, xo_w, Nat.reduceEqDiff, reduceIte, false_and, true_and]
            refine xe_sipush xt_g323 rfl (q := 153) rfl (by decide) (by decide) ?_
            refine xe_s (f := (155, _, _, _)) xt_g323 rfl rfl rfl rfl rfl ?_
            refine xe_iadd xt_g323 rfl (q := 156) rfl ?_
            refine xe_s (f := (157, _, _, _)) xt_g323 rfl rfl rfl rfl rfl ?_
            refine xe_isub xt_g323 rfl (q := 158) rfl ?_
            refine xe_s (f := (159, _, _, _)) xt_g323 rfl rfl rfl rfl rfl ?_
            refine xe_s (f := (160, _, _, _)) xt_g323 rfl rfl rfl rfl rfl ?_
            refine xe_s (f := (162, _, _, _)) xt_g323 rfl rfl rfl rfl rfl ?_
            refine xe_cvI xt_g323 rfl (q := 165) rfl xk_13_172 rfl (by omega) xt_g270 (by decide) ⟨Nat.le_of_ble_eq_true rfl, Nat.le_of_ble_eq_true rfl, Nat.le_of_ble_eq_true rfl⟩ (xv_textAt fm hmn (by omega) (by omega)) ?_
            refine xe_mas (ok := xm_isN) (ty := .int) xt_g323 rfl (q := 166) rfl (fun _ _ => ⟨rfl, rfl, rfl, rfl⟩) rfl rfl rfl (by omega) (by omega) (by omega) (by omega) (by omega) rfl ?_
            refine xe_iinc xt_g323 rfl (q := 169) rfl rfl (by decide) (L1 := [(4, _), (3, _), (2, _), (0, _), (1, _)]) rfl ?_
            refine xe_s (f := (140, _, _, _)) xt_g323 rfl rfl rfl rfl rfl ?_
            rw [y, show ((pa_hd a).length : Int) + k + 1 = ((pa_hd a).length : Int) + ((k + 1 : Nat) : Int) by omega, show (1230 + (((pa_hd a).length : Int) + k) - ((pa_hd a).length : Int)).toNat = 1230 + k by omega]
            refine ih (k + 1) _ (by omega) (xo_wf_w w1 (by rw [← y]; exact w1.2 _ _)) (xo_B_w B1 (fun h => absurd h (by decide))) (xq_w q1 (by decide)) (ck_keep_x k1 (by omega)) ?_
            rw [List.take_succ_eq_append_getElem hlt, show a.2.2.2.1[k] = a.2.2.2.1.getD k 0 by simp [List.getD, hlt]]
            exact xh_w (by rw [List.length_take]; omega) hx
      refine xe_s (f := (127, [(3, _), (2, _), (0, _), (1, _)], _, _)) xt_g323 rfl rfl rfl rfl rfl ?_
      refine xe_s (f := (128, _, _, _)) xt_g323 rfl rfl rfl rfl rfl ?_
      refine xe_s (f := (129, _, _, _)) xt_g323 rfl rfl rfl rfl rfl ?_
      refine xe_isub xt_g323 rfl (q := 130) rfl ?_
      refine xe_bipush xt_g323 rfl (q := 132) rfl (by decide) (by decide) ?_
      refine xe_ic_le xt_g323 rfl (t := 137) rfl (q := 135) rfl (by first | omega | exact hw.1 _ | exact hw.2 _ _ | exact xb_r _) (by first | omega | exact hw.1 _ | exact hw.2 _ _ | exact xb_r _) (fun h132 => ?_) (fun h132 => ?_)
      · refine xe_s (f := (138, _, _, _)) xt_g323 rfl rfl rfl rfl rfl ?_
        refine xe_s (f := (140, [(4, _), (3, _), (2, _), (0, _), (1, _)], _, _)) xt_g323 rfl rfl rfl rfl rfl ?_
        have h := loop (by omega) F 0 ar (by omega) hw hB xq_r ck_keep_r xh_nil
        rw [show ((pa_hd a).length : Int) + ((0 : Nat) : Int) = ((pa_hd a).length : Int) by omega] at h
        exact xe_loc (by intro q hq; simp only [List.mem_cons, List.not_mem_nil, or_false] at hq; rcases hq with rfl | rfl | rfl | rfl | rfl <;> rfl) (h)
      · refine xe_s (f := (136, _, xi 0 :: _, _)) xt_g323 rfl rfl rfl rfl rfl ?_
        refine xe_iret xt_g323 rfl rfl (xi_bool (by first | omega | exact xb_or _)).1 ?_
        rw [if_neg (by omega)] at hR
        rw [← hR]
        exact ⟨_, _, _, rfl, rfl, hw, hB, xq_r, ck_keep_r, fun _ => rfl, fun _ h => (by cases h)⟩
    have e112 : xe fm 323 (112, [(3, xi (((pa_hd a).length : Int) + K)), (2, xi (pa_hd a).length), (0, .ref m), (1, xi b)], [], (xo m s ar h0, n, 0, 0)) (xQI m n h0 (xd_PP3 s ar R)) := by
      refine xe_s (f := (113, _, _, _)) xt_g323 rfl rfl rfl rfl rfl ?_
      refine xe_s (f := (114, _, xi 1 :: _, _)) xt_g323 rfl rfl rfl rfl rfl ?_
      refine xe_isub xt_g323 rfl (q := 115) rfl ?_
      refine xe_s (f := (116, _, _, _)) xt_g323 rfl rfl rfl rfl rfl ?_
      refine xe_ic_le xt_g323 rfl (t := 125) rfl (q := 119) rfl (by first | omega | exact hw.1 _ | exact hw.2 _ _ | exact xb_r _) (by first | omega | exact hw.1 _ | exact hw.2 _ _ | exact xb_r _) (fun h116 => ?_) (fun h116 => ?_)
      · refine xe_s (f := (126, _, _, _)) xt_g323 rfl rfl rfl rfl rfl ?_
        exact fin K (by unfold cp_fo; rw [hK, if_pos (by omega), show K = 1 by omega]) (by omega)
      · refine xe_s (f := (120, _, _, _)) xt_g323 rfl rfl rfl rfl rfl ?_
        refine xe_s (f := (121, _, xi 1 :: _, _)) xt_g323 rfl rfl rfl rfl rfl ?_
        refine xe_isub xt_g323 rfl (q := 122) rfl ?_
        refine xe_s (f := (126, _, _, _)) xt_g323 rfl rfl rfl rfl rfl ?_
        rw [show ((pa_hd a).length : Int) + K - 1 = ((pa_hd a).length : Int) + ((K - 1 : Nat) : Int) by omega]
        exact fin (K - 1) (by unfold cp_fo; rw [hK, if_neg (by omega)]) (by omega)
    have l93 : ∀ j : Nat, j ≤ a.2.2.2.1.length → pa_bl a.2.2.2.1 47 j = K → xe fm 323 (93, [(3, xi (((pa_hd a).length : Int) + j)), (2, xi (pa_hd a).length), (0, .ref m), (1, xi b)], [], (xo m s ar h0, n, 0, 0)) (xQI m n h0 (xd_PP3 s ar R)) := by
      intro j
      induction j with
      | zero =>
        intro hj hbl
        rw [pa_bl] at hbl
        omega
      | succ j ih =>
        intro hj hbl
        have y : ar 4 (60 * b + (((pa_hd a).length : Int) + ((j + 1 : Nat) : Int) - 1)).toNat = a.2.2.2.1.getD j 0 := by
          have := e7 j (by omega)
          rw [show (60 * b + (((pa_hd a).length + j : Nat) : Int)).toNat = (60 * b + (((pa_hd a).length : Int) + ((j + 1 : Nat) : Int) - 1)).toNat by omega] at this
          exact this
        have hbr := hw.2 4 (60 * b + (((pa_hd a).length : Int) + ((j + 1 : Nat) : Int) - 1)).toNat
        refine xe_s (f := (94, _, _, _)) xt_g323 rfl rfl rfl rfl rfl ?_
        refine xe_s (f := (95, _, _, _)) xt_g323 rfl rfl rfl rfl rfl ?_
        refine xe_s (f := (96, _, _, _)) xt_g323 rfl rfl rfl rfl rfl ?_
        refine xe_s (f := (97, _, xi 1 :: _, _)) xt_g323 rfl rfl rfl rfl rfl ?_
        refine xe_isub xt_g323 rfl (q := 98) rfl ?_
        refine xe_cvI xt_g323 rfl (q := 101) rfl xk_13_172 rfl (by omega) xt_g270 (by decide) ⟨Nat.le_of_ble_eq_true rfl, Nat.le_of_ble_eq_true rfl, Nat.le_of_ble_eq_true rfl⟩ (xv_textAt fm hmn (by omega) (by omega)) ?_
        refine xe_bipush xt_g323 rfl (q := 103) rfl (by decide) (by decide) ?_
        refine xe_ic_eq xt_g323 rfl (t := 112) rfl (q := 106) rfl (by first | omega | exact hw.1 _ | exact hw.2 _ _ | exact xb_r _) (by first | omega | exact hw.1 _ | exact hw.2 _ _ | exact xb_r _) (fun h103 => ?_) (fun h103 => ?_)
        · rw [y] at h103
          rw [pa_bl, if_pos h103] at hbl
          rw [hbl]
          exact e112
        · refine xe_iinc xt_g323 rfl (q := 109) rfl rfl (by decide) (L1 := [(3, _), (2, _), (0, _), (1, _)]) rfl ?_
          refine xe_s (f := (93, _, _, _)) xt_g323 rfl rfl rfl rfl rfl ?_
          rw [y] at h103
          rw [pa_bl, if_neg h103] at hbl
          rw [show ((pa_hd a).length : Int) + ((j + 1 : Nat) : Int) + -1 = ((pa_hd a).length : Int) + (j : Int) by omega]
          exact ih (by omega) hbl
    refine xe_s (f := (1, _, _, _)) xt_g323 rfl rfl rfl rfl rfl ?_
    refine xe_mgs xt_g323 rfl (q := 4) rfl (xf_13_310 fm) (by decide) rfl (by omega) ?_
    try simp only [xo_u, xo_w, Nat.reduceEqDiff, reduceIte, false_and, true_and]
    refine xe_if_lt xt_g323 rfl (t := 81) rfl (q := 7) rfl (by first | omega | exact hw.1 _ | exact hw.2 _ _ | exact xb_r _) (fun h4 => ?_) (fun h4 => ?_)
    · try simp only [xb_0, xb_1, ne_eq, Decidable.not_not, decide_eq_true_eq, decide_eq_false_iff_not] at h4
      refine xe_s (f := (82, _, _, _)) xt_g323 rfl rfl rfl rfl rfl ?_
      refine xe_s (f := (83, _, _, _)) xt_g323 rfl rfl rfl rfl rfl ?_
      refine xe_cvI xt_g323 rfl (q := 86) rfl xk_13_182 rfl (by omega) xt_g271 (by decide) ⟨Nat.le_of_ble_eq_true rfl, Nat.le_of_ble_eq_true rfl, Nat.le_of_ble_eq_true rfl⟩ (xv_originEnd fm hmn hw hb.1 hb.2 e10) ?_
      rw [e2]
      refine xe_s (f := (87, [(2, _), (0, _), (1, _)], _, _)) xt_g323 rfl rfl rfl rfl rfl ?_
      refine xe_s (f := (88, _, _, _)) xt_g323 rfl rfl rfl rfl rfl ?_
      refine xe_s (f := (89, _, _, _)) xt_g323 rfl rfl rfl rfl rfl ?_
      refine xe_cvI xt_g323 rfl (q := 92) rfl xk_13_238 rfl (by omega) xt_g273 (by decide) ⟨Nat.le_of_ble_eq_true rfl, Nat.le_of_ble_eq_true rfl, Nat.le_of_ble_eq_true rfl⟩ (xv_pathEnd fm hmn hw hb.1 hb.2 e10) ?_
      rw [e4]
      refine xe_s (f := (93, [(3, _), (2, _), (0, _), (1, _)], _, _)) xt_g323 rfl rfl rfl rfl rfl ?_
      exact l93 _ (Nat.le_refl _) hK
    · exact absurd h4 (by omega)
end XCH
