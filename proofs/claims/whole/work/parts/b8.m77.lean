/-! the reader of addresses: without dots, finished, read -/
theorem dlp_pop {cl : List Int} (h : cl = [] ∨ ∃ q, cl = 47 :: q) : dlp cl = pa_pop cl := by
  unfold dlp pa_pop
  rcases h with e | ⟨q, e⟩
  · subst e; rfl
  · have := pa_blp (q := q) (47 :: q).length (by simp)
    subst e
    rw [if_neg (by omega)]
theorem pop_hd {cl : List Int} (h : cl = [] ∨ ∃ q, cl = 47 :: q) : pa_pop cl = [] ∨ ∃ q, pa_pop cl = 47 :: q := by
  unfold pa_pop
  rcases h with e | ⟨q, e⟩
  · subst e; exact Or.inl rfl
  · subst e
    cases pa_bl (47 :: q) 47 (47 :: q).length - 1 with
    | zero => exact Or.inl rfl
    | succ m => exact Or.inr ⟨_, rfl⟩
theorem kpf_hd {cl Pt : List Int} {b : Bool} (h : cl = [] ∨ ∃ q, cl = 47 :: q) : kpf cl Pt b = [] ∨ ∃ q, kpf cl Pt b = 47 :: q := by
  have ap : ∀ {cl : List Int} (x : List Int), (cl = [] ∨ ∃ q, cl = 47 :: q) → (∃ q, cl ++ 47 :: x = 47 :: q) := by
    intro cl x h
    rcases h with e | ⟨q, e⟩
    · subst e; exact ⟨_, rfl⟩
    · subst e; exact ⟨_, rfl⟩
  unfold kpf
  rw [dlp_pop h]
  split
  · split
    · exact Or.inr (ap _ (pop_hd h))
    · exact pop_hd h
  · split
    · split
      · exact Or.inr (ap _ h)
      · exact h
    · exact Or.inr (ap _ h)
theorem dl_flag {F : Nat} {r cl : List Int} {c : Int} {d d' : Bool} : pa_dl (F + 1) (c :: r) cl d = pa_dl (F + 1) (c :: r) cl d' := rfl
theorem dl_nil {F : Nat} {cl : List Int} {d : Bool} : pa_dl F [] cl d = (cl, d) := by
  cases F <;> rfl
/-- the last part -/
theorem wd_last {F : Nat} {r cl : List Int} {d : Bool} (hw : pa_wd r = r.length) (h : cl = [] ∨ ∃ q, cl = 47 :: q) : pa_fin (pa_dl (F + 1) (47 :: r) cl d) = kpf cl r true := by
  unfold pa_dl kpf
  rw [hw, List.take_length, List.drop_length, dlp_pop h]
  by_cases e1 : r = [46]
  · rw [if_pos e1, if_neg (by rw [e1]; decide), if_pos e1, dl_nil]
    rfl
  · rw [if_neg e1]
    by_cases e2 : r = [46, 46]
    · rw [if_pos e2, if_pos e2, dl_nil]
      rfl
    · rw [if_neg e2, if_neg e2, if_neg e1, dl_nil]
      unfold pa_fin
      rw [if_neg]
      rintro (g | g)
      · cases g
      · exact absurd g (by simp)
/-- another part -/
theorem wd_step {F : Nat} {r cl : List Int} {d : Bool} (hF : 1 ≤ F) (hw : pa_wd r < r.length) (h : cl = [] ∨ ∃ q, cl = 47 :: q) : pa_fin (pa_dl (F + 1) (47 :: r) cl d) = pa_fin (pa_dl F (r.drop (pa_wd r)) (kpf cl (r.take (pa_wd r)) false) false) := by
  obtain ⟨F, rfl⟩ : ∃ m, F = m + 1 := ⟨F - 1, by omega⟩
  obtain ⟨c, r', e⟩ : ∃ c r', r.drop (pa_wd r) = c :: r' := by
    cases hh : r.drop (pa_wd r) with
    | nil =>
      have := congrArg List.length hh
      rw [List.length_drop] at this
      simp at this
      omega
    | cons c r' => exact ⟨c, r', rfl⟩
  rw [pa_dl]
  unfold kpf
  rw [dlp_pop h, e]
  by_cases e1 : r.take (pa_wd r) = [46]
  · rw [if_pos e1, if_neg (by rw [e1]; decide), if_pos e1, dl_flag (d' := false)]
    rfl
  · rw [if_neg e1]
    by_cases e2 : r.take (pa_wd r) = [46, 46]
    · rw [if_pos e2, if_pos e2, dl_flag (d' := false)]
      rfl
    · rw [if_neg e2, if_neg e2, if_neg e1]
theorem pa_qy_len {t : Int → Int} {E k : Int} (hk : 0 ≤ k) (hE : 0 ≤ E) : ((pa_qy t E k).length : Int) ≤ E + 1 := by
  unfold pa_qy
  rw [pa_sl_len]
  unfold pa_q1
  have := xd_cnt_r (p := xd_qry) (t := t) (E - (k + 1)).toNat (k + 1)
  split <;> omega
theorem pa_port_k {t : Int → Int} {sec : Bool} {k v k' : Int} (h : pa_port t sec k = some (v, k')) : k ≤ k' := by
  unfold pa_port at h
  split at h
  · split at h
    · cases h
    · cases h
      have := xd_cnt_r (p := xd_dig) (t := t) 6 (k + 1)
      unfold pa_pd
      omega
  · cases h
    omega
theorem pa_p1_k {t : Int → Int} {E k : Int} : k ≤ pa_p1 t E k := by
  unfold pa_p1
  have := xd_cnt_r (p := xd_pth) (t := t) (E - k).toNat k
  split <;> omega
theorem pa_from_len {l : List Int} {sec : Bool} {k : Int} {x : List Int × Int × List Int × List Int} (hk : 0 ≤ k) (hk2 : k ≤ l.length) (h : pa_from (lt l) l.length sec k = some x) : x.1.length ≤ l.length ∧ x.2.2.2.length ≤ l.length + 1 := by
  have out : ∀ j : Int, (l.length : Int) ≤ j → lt l j = 0 := fun j hj => lt_out hj
  have hb := xd_hs_b out 7 0 k hk2
  unfold pa_from at h
  split at h
  · split at h
    · cases h
    · rename_i v k2 e
      have a1 := pa_port_k e
      have a2 := pa_p1_k (t := lt l) (E := l.length) (k := k2)
      split at h
      · cases h
        have := pa_qy_len (t := lt l) (E := l.length) (k := pa_p1 (lt l) l.length k2) (by omega) (by omega)
        refine ⟨?_, by dsimp only; omega⟩
        unfold pa_hn
        rw [List.length_map, pa_sl_len]
        omega
      · cases h
  · cases h
theorem hsc_len {l : List Int} (h : xd_hsc (lt l) = true) : xd_sk (lt l) + 3 ≤ l.length := by
  unfold xd_hsc at h
  simp only [Bool.and_eq_true, decide_eq_true_eq] at h
  obtain ⟨_, h1, h2, h3⟩ := h
  apply Decidable.byContradiction
  intro hn
  rw [lt_out (by omega)] at h3
  exact absurd h3 (by decide)
theorem pa_pre_len {l : List Int} {b : Option pa_A} {a : pa_A} (hb : ∀ x, b = some x → pa_ok x) (h : pa_pre (lt l) l.length b = some a) : a.2.1.length ≤ l.length + 60 ∧ a.2.2.2.2.length ≤ l.length + 61 := by
  unfold pa_pre at h
  split at h
  · rename_i hs
    have h3 := hsc_len hs
    cases e : pa_from (lt l) l.length (xd_ss (lt l)) (xd_sk (lt l) + 3) with
    | none => rw [e] at h; cases h
    | some x =>
      rw [e] at h
      cases h
      have := pa_from_len (by unfold xd_sk; split <;> omega) h3 e
      exact ⟨by dsimp only; omega, by dsimp only; omega⟩
  · cases b with
    | none => cases h
    | some b =>
      have hb := hb b rfl
      obtain ⟨l1, l2, l3⟩ := pa_ok_len hb
      dsimp only at h
      unfold pa_ref at h
      split at h
      · rename_i h47
        have h2 : (2 : Int) ≤ l.length := by
          apply Decidable.byContradiction
          intro hn
          have := h47.2
          rw [lt_out (by omega)] at this
          exact absurd this (by decide)
        cases e : pa_from (lt l) l.length b.1 2 with
        | none => rw [e] at h; cases h
        | some x =>
          rw [e] at h
          cases h
          have := pa_from_len (by omega) h2 e
          exact ⟨by dsimp only; omega, by dsimp only; omega⟩
      · split at h
        · split at h
          · cases h
            refine ⟨by dsimp only; omega, ?_⟩
            dsimp only
            split
            · have := pa_qy_len (t := lt l) (E := l.length) (k := 0) (by omega) (by omega)
              omega
            · omega
          · cases h
        · split at h
          · cases h
            refine ⟨by dsimp only; omega, ?_⟩
            dsimp only
            have c := xd_cnt_r (p := xd_pth) (t := lt l) ((l.length : Int).toNat) 0
            have := pa_qy_len (t := lt l) (E := l.length) (k := xd_cnt xd_pth (lt l) ((l.length : Int).toNat) 0) (by omega) (by omega)
            omega
          · cases h
theorem pt_nm {sec : Bool} {v : Int} (h1 : 1 ≤ v) (h2 : v ≤ 65535) : pa_dg v = (if v < 0 then [45] else []) ++ dg v.natAbs := by
  rw [pa_dg_dg h1 (by omega), if_neg (by omega), show v.natAbs = v.toNat by omega]
  rfl
/-- origins -/
theorem app_48 {A B : List Int} {c : Int} {x y : List Int} (ha : c ∉ A) (hb : c ∉ B) (hx : x = [] ∨ ∃ q, x = c :: q) (hy : y = [] ∨ ∃ q, y = c :: q) (h : A ++ x = B ++ y) : A = B ∧ x = y := by
  induction A generalizing B with
  | nil =>
    cases B with
    | nil => exact ⟨rfl, h⟩
    | cons b B =>
      rw [List.nil_append] at h
      rcases hx with e | ⟨q, e⟩
      · rw [e] at h; cases h
      · rw [e] at h
        cases h
        exact absurd (List.mem_cons_self) hb
  | cons a A ih =>
    cases B with
    | nil =>
      rw [List.nil_append] at h
      rcases hy with e | ⟨q, e⟩
      · rw [e] at h; cases h
      · rw [e] at h
        cases h
        exact absurd (List.mem_cons_self) ha
    | cons b B =>
      simp only [List.cons_append, List.cons.injEq] at h
      have := ih (B := B) (fun g => ha (List.mem_cons_of_mem _ g)) (fun g => hb (List.mem_cons_of_mem _ g)) h.2
      exact ⟨by rw [h.1, this.1], this.2⟩
theorem dgt_val : ∀ (F m : Nat), m < F → (dgt F m).foldl (fun a c => 10 * a + c - 48) 0 = (m : Int)
  | 0, m, h => by omega
  | F + 1, m, h => by
    unfold dgt
    split
    · simp; omega
    · rw [List.foldl_append, dgt_val F (m / 10) (by omega)]
      simp
      omega
theorem dg_inj {m k : Nat} (h : dg m = dg k) : m = k := by
  have a := dgt_val (m + 1) m (by omega)
  have b := dgt_val (k + 1) k (by omega)
  unfold dg at h
  rw [h, b] at a
  omega
theorem pa_hd_inj {A B : pa_A} (hA : pa_ok A) (hB : pa_ok B) : pa_hd A = pa_hd B ↔ A.1 = B.1 ∧ A.2.2.1 = B.2.2.1 ∧ A.2.1 = B.2.1 := by
  constructor
  · intro h
    obtain ⟨s1, h1, p1, q1⟩ := A
    obtain ⟨s2, h2, p2, q2⟩ := B
    have a1 := hA.1
    have b1 := hB.1
    obtain ⟨_, _, _, _, _, ap1, ap2, _⟩ := hA
    obtain ⟨_, _, _, _, _, bp1, bp2, _⟩ := hB
    unfold pa_hd at h
    dsimp only at h a1 b1 ap1 ap2 bp1 bp2 ⊢
    have e1 : s1 = s2 := by
      cases s1 <;> cases s2
      · rfl
      · simp [pa_scm] at h
      · simp [pa_scm] at h
      · rfl
    subst e1
    rw [List.append_assoc, List.append_assoc, List.append_cancel_left_eq] at h
    have pt : ∀ v, pa_pt s1 v = [] ∨ ∃ q, pa_pt s1 v = 58 :: q := by
      intro v
      unfold pa_pt
      split
      · exact Or.inl rfl
      · exact Or.inr ⟨_, rfl⟩
    obtain ⟨e2, e3⟩ := app_48 (c := 58) (fun g => (a1 58 g).2.1 rfl) (fun g => (b1 58 g).2.1 rfl) (pt p1) (pt p2) h
    refine ⟨rfl, ?_, e2⟩
    unfold pa_pt at e3
    split at e3
    · split at e3
      · rename_i x y; rw [x, y]
      · cases e3
    · split at e3
      · cases e3
      · simp only [List.cons.injEq, true_and] at e3
        rw [pa_dg_dg ap1 (by omega), pa_dg_dg bp1 (by omega)] at e3
        have := dg_inj e3
        omega
  · rintro ⟨h1, h2, h3⟩
    unfold pa_hd
    rw [h1, h2, h3]
theorem va_uu {T : Type} {h : Nat → T} {a : Nat} {e e' : T} : va_up (va_up h a e) a e' = va_up h a e' := by
  funext b
  by_cases g : b = a
  · rw [g, va_up_s, va_up_s]
  · rw [va_up_n g, va_up_n g, va_up_n g]
theorem drop_hd {P : List Int} {a : Nat} (ha : a < P.length) : P.drop a = P.getD a 0 :: P.drop (a + 1) := by
  rw [List.drop_eq_getElem_cons ha, List.getD_eq_getElem?_getD, List.getElem?_eq_getElem ha]
  rfl
theorem sl_nat {P : List Int} {a e : Nat} : sl P ((a : Int) + 1) (e : Int) = (P.drop (a + 1)).take (e - (a + 1)) := by
  unfold sl
  rw [show ((a : Int) + 1).toNat = a + 1 by omega, show ((e : Int) - ((a : Int) + 1)).toNat = e - (a + 1) by omega]
section XB8
variable {fm : Value} {w w' w1 w2 : kW} {s s' s1 s2 : Nat → Int} {p p' p1 p2 : Nat → Nat} {ar : Nat → Nat → Option Nat} {v : Nat → Int} {h h' h1 h2 : xm_H} {n n' n1 n2 r k k' u' u1 u2 x : Nat} {l L W P : List Int} {A : pa_A} {t t' t1 t2 : Nat → List Int} {kc kc' kc1 kc2 : Nat → Nat}
theorem k120_x (K : KW w h n t kc) (H : sS (gd w) h n r P) (hl : (t 2).length < 9000) (lP : P.length ≤ 401) {e a : Int} (he : e = P.length + 1) {c u : Nat} : xe fm 120 (12, [(3, xi e), (2, xi a), (0, .ref 49), (1, .ref r)], [], (ko w s p ar v h, n, c, u)) (fun q M => ∃ x, q = .inl (some (.ref x)) ∧ ∃ h1 u', M.1 = ko w s p ar v h1 ∧ M.2.2.2 = u + u' ∧ ke h n h1 M.2.1 ∧ sS (gd w) h1 M.2.1 x (t 2) ∧ M.2.1 ≤ n + 2 ∧ u' ≤ 4 + (t 2).length) := by
  have W0 := K.1.1
  obtain ⟨fs, F1, q1, ha, l1⟩ := sS_at H
  refine xe_s (f := (13, _, _, _)) xt_g120 rfl rfl rfl rfl rfl ?_
  refine xe_s (f := (14, _, _, _)) xt_g120 rfl rfl rfl rfl rfl ?_
  refine xe_cR xt_g120 rfl rfl rfl (q := 17) rfl (kc_V xk_2_64 rfl (F1 _ _ _ _ _) (by omega) rfl rfl) xt_g31 (by decide) ⟨Nat.le_of_ble_eq_true rfl, Nat.le_of_ble_eq_true rfl, Nat.le_of_ble_eq_true rfl⟩ (s31 (sS_ko H)) ?_
  refine xe_ic_gt xt_g120 rfl (t := 72) rfl (q := 20) rfl (by first | omega | exact xb_r _) (by first | omega | exact xb_r _) (fun b17 => ?_) (fun b17 => ?_)
  · try simp only [xb_0, xb_1, ne_eq, Decidable.not_not, Bool.not_eq_false, Bool.not_eq_true, decide_eq_true_eq, decide_eq_false_iff_not] at b17
    refine xe_s (f := (73, _, _, _)) xt_g120 rfl rfl rfl rfl rfl ?_
    refine xe_gf xt_g120 rfl (q := 76) rfl (xf_2_12 fm) (ko_49) (by omega) rfl rfl ?_
    refine xe_cA xt_g120 rfl rfl rfl (q := 79) rfl (kc_V xk_2_144 rfl (ko_50) (by omega) rfl rfl) xt_g48 (by decide) ⟨Nat.le_of_ble_eq_true rfl, Nat.le_of_ble_eq_true rfl, Nat.le_of_ble_eq_true rfl⟩ (k48_2 K hl) (fun x1 h1' n1 c1 u1 hp => ?_)
    obtain ⟨h2, rfl, k1, S1, n1', u1'⟩ := hp
    refine xe_aret xt_g120 rfl (Or.inl ⟨_, rfl⟩) rfl ?_
    try dsimp only
    exact ⟨x1, rfl, h2, u1, rfl, rfl, k1, S1, n1', u1'⟩
  · exact absurd b17 (by omega)
theorem k120_loop (hfm : fm = .null ∨ ∃ j, fm = .ref j) (lP : P.length ≤ 401) : ∀ (m F a e : Nat) (w : kW) (h : xm_H) (n : Nat) (t : Nat → List Int) (kc : Nat → Nat) (c u : Nat), e + m = P.length → a < e → P.getD a 0 = 47 → e - (a + 1) ≤ pa_wd (P.drop (a + 1)) → P.length - a ≤ F → KW w h n t kc → cst w h n → sS (gd w) h n r P → (t 2).length ≤ a → (t 2 = [] ∨ ∃ q, t 2 = 47 :: q) →
    xe fm 120 (12, [(3, xi (e : Int)), (2, xi (a : Int)), (0, .ref 49), (1, .ref r)], [], (ko w s p ar v h, n, c, u)) (fun q M => ∃ x, q = .inl (some (.ref x)) ∧ ∃ w' h1 t' kc' u', M.1 = ko w' s p ar v h1 ∧ M.2.2.2 = u + u' ∧ RR [] [] (5 * (P.length - a) + 410) (2 * (P.length - a) + 2) w s p h n t kc w' s p h1 M.2.1 t' kc' u' ∧ (t' 2).length ≤ 401 ∧ (pa_fin (pa_dl F (P.drop a) (t 2) false)).length ≤ 401 ∧ sS (gd w') h1 M.2.1 x (pa_fin (pa_dl F (P.drop a) (t 2) false))) := by
  intro m
  induction m with
  | zero =>
    intro F a e w h n t kc c u hm hae h47 hw hF K C H ht hd
    have W0 := K.1.1
    obtain ⟨fs, F1, q1, ha, l1⟩ := sS_at H
    have wl := pa_wd_le (P.drop (a + 1))
    have hld : (P.drop (a + 1)).length = P.length - (a + 1) := List.length_drop
    have wd : pa_wd (P.drop (a + 1)) = (P.drop (a + 1)).length := by omega
    have es : sl P ((a : Int) + 1) (e : Int) = P.drop (a + 1) := by
      rw [sl_nat, show e - (a + 1) = (P.drop (a + 1)).length by omega, List.take_length]
    obtain ⟨F', rfl⟩ : ∃ j, F = j + 1 := ⟨F - 1, by omega⟩
    rw [drop_hd (by omega), h47, wd_last wd hd]
    refine xe_s (f := (13, _, _, _)) xt_g120 rfl rfl rfl rfl rfl ?_
    refine xe_s (f := (14, _, _, _)) xt_g120 rfl rfl rfl rfl rfl ?_
    refine xe_cR xt_g120 rfl rfl rfl (q := 17) rfl (kc_V xk_2_64 rfl (F1 _ _ _ _ _) (by omega) rfl rfl) xt_g31 (by decide) ⟨Nat.le_of_ble_eq_true rfl, Nat.le_of_ble_eq_true rfl, Nat.le_of_ble_eq_true rfl⟩ (s31 (sS_ko H)) ?_
    refine xe_ic_gt xt_g120 rfl (t := 72) rfl (q := 20) rfl (by first | omega | exact xb_r _) (by first | omega | exact xb_r _) (fun b17 => ?_) (fun b17 => ?_)
    · exact absurd b17 (by omega)
    · try simp only [xb_0, xb_1, ne_eq, Decidable.not_not, Bool.not_eq_false, Bool.not_eq_true, decide_eq_true_eq, decide_eq_false_iff_not] at b17
      refine xe_s (f := (21, _, _, _)) xt_g120 rfl rfl rfl rfl rfl ?_
      refine xe_s (f := (22, _, _, _)) xt_g120 rfl rfl rfl rfl rfl ?_
      refine xe_cR xt_g120 rfl rfl rfl (q := 25) rfl (kc_V xk_2_64 rfl (F1 _ _ _ _ _) (by omega) rfl rfl) xt_g31 (by decide) ⟨Nat.le_of_ble_eq_true rfl, Nat.le_of_ble_eq_true rfl, Nat.le_of_ble_eq_true rfl⟩ (s31 (sS_ko H)) ?_
      refine xe_ic_ne xt_g120 rfl (t := 32) rfl (q := 28) rfl (by first | omega | exact xb_r _) (by first | omega | exact xb_r _) (fun b25 => ?_) (fun b25 => ?_)
      · exact absurd b25 (by omega)
      · try simp only [xb_0, xb_1, ne_eq, Decidable.not_not, Bool.not_eq_false, Bool.not_eq_true, decide_eq_true_eq, decide_eq_false_iff_not] at b25
        refine xe_s (f := (29, _, xi 1 :: _, _)) xt_g120 rfl rfl rfl rfl rfl ?_
        refine xe_s (f := (33, _, _, _)) xt_g120 rfl rfl rfl rfl rfl ?_
        refine xe_s (f := (35, [(4, _), (3, _), (2, _), (0, _), (1, _)], _, _)) xt_g120 rfl rfl rfl rfl rfl ?_
        refine xe_s (f := (37, _, _, _)) xt_g120 rfl rfl rfl rfl rfl ?_
        refine xe_if_ne xt_g120 rfl (t := 50) rfl (q := 40) rfl (by first | omega | exact xb_r _) (fun b37 => ?_) (fun b37 => ?_)
        · try simp only [xb_0, xb_1, ne_eq, Decidable.not_not, Bool.not_eq_false, Bool.not_eq_true, decide_eq_true_eq, decide_eq_false_iff_not] at b37
          refine xe_s (f := (51, _, _, _)) xt_g120 rfl rfl rfl rfl rfl ?_
          refine xe_s (f := (52, _, _, _)) xt_g120 rfl rfl rfl rfl rfl ?_
          refine xe_s (f := (53, _, _, _)) xt_g120 rfl rfl rfl rfl rfl ?_
          refine xe_s (f := (54, _, xi 1 :: _, _)) xt_g120 rfl rfl rfl rfl rfl ?_
          refine xe_iadd xt_g120 rfl (q := 55) rfl ?_
          refine xe_s (f := (56, _, _, _)) xt_g120 rfl rfl rfl rfl rfl ?_
          refine xe_cA xt_g120 rfl rfl rfl (q := 59) rfl (kc_V xk_2_70 rfl (F1 _ _ _ _ _) (by omega) rfl rfl) xt_g103 (by decide) ⟨Nat.le_of_ble_eq_true rfl, Nat.le_of_ble_eq_true rfl, Nat.le_of_ble_eq_true rfl⟩ (k103 (i := (a : Int) + 1) (j := (e : Int)) hfm K C H (by omega) (by omega) (by omega)) (fun x1 h1' n1 c1 u1 hp => ?_)
          obtain ⟨h2, rfl, k1, S1, n1', u1'⟩ := hp
          have N1 := k1.1
          rw [es] at S1
          have K1 := KW_ke K k1
          refine xe_s (f := (61, _, _, _)) xt_g120 rfl rfl rfl rfl rfl ?_
          refine xe_cN xt_g120 rfl rfl rfl (q := 64) rfl (kc_V xk_2_157 rfl (ko_49) (by omega) rfl rfl) xt_g121 (by decide) ⟨Nat.le_of_ble_eq_true rfl, Nat.le_of_ble_eq_true rfl, Nat.le_of_ble_eq_true rfl⟩ (k121 (b := true) hfm K1 (cst_kp C K.1 (ke_kp k1)) S1 (by omega)) (fun h2' n2 c2 u2 hq => ?_)
          obtain ⟨w2, h3, t2, kc2, rfl, R2, e2⟩ := hq
          have N2 := R2.2.1.1
          have kl := kpf_len (cl := t 2) (Pt := P.drop (a + 1)) (b := true)
          refine xe_s (f := (65, _, _, _)) xt_g120 rfl rfl rfl rfl rfl ?_
          refine xe_s (f := (66, [(2, _), (4, _), (3, _), (0, _), (1, _)], _, _)) xt_g120 rfl rfl rfl rfl rfl ?_
          refine xe_iinc xt_g120 rfl (q := 69) rfl rfl (by decide) (L1 := [(3, _), (2, _), (4, _), (0, _), (1, _)]) rfl ?_
          refine xe_s (f := (12, _, _, _)) xt_g120 rfl rfl rfl rfl rfl ?_
          refine xe_mono (xe_loc (by intro q hq; simp only [List.mem_cons, List.not_mem_nil, or_false] at hq; rcases hq with rfl | rfl | rfl | rfl <;> rfl) ((k120_x (fm := fm) (e := (e : Int) + 1) (a := (e : Int)) (c := c + c1 + c2) (u := u + u1 + u2) (s := s) (p := p) (ar := ar) (v := v) R2.1 (sS_kp (sS_ke H k1) R2.2.1) (by rw [e2]; omega) lP (by omega)))) (fun r M hM => ?_)
          obtain ⟨x3, g1, h4, u3, g2, g3, k3, S3, n3', u3'⟩ := hM
          rw [e2] at S3 u3'
          refine ⟨x3, g1, w2, h4, t2, kc2, u1 + u2 + u3, g2, by omega, RR_mono (RR_trans (RR_trans (RR_ke (S := []) (Q := []) (s := s) (p := p) (s' := s) (p' := p) (B := 4 + (P.length - a)) (C := 2) (u' := u1) K k1 (fun _ _ => rfl) (fun _ _ => rfl) n1' (by omega)) R2) (RR_ke (S := []) (Q := []) (s := s) (p := p) (s' := s) (p' := p) (B := 405) (C := 2) (u' := u3) R2.1 k3 (fun _ _ => rfl) (fun _ _ => rfl) n3' (by omega))) rfl rfl (by omega) (by omega) (by omega), by rw [e2]; omega, by omega, S3⟩
        · exact absurd b37 (by omega)
  | succ m ih =>
    intro F a e w h n t kc c u hm hae h47 hw hF K C H ht hd
    have W0 := K.1.1
    obtain ⟨fs, F1, q1, ha, l1⟩ := sS_at H
    have wl := pa_wd_le (P.drop (a + 1))
    have hld : (P.drop (a + 1)).length = P.length - (a + 1) := List.length_drop
    have a1 := lt_r ha (e : Int)
    have elt : lt P (e : Int) = P.getD e 0 := by rw [lt_in (by omega) (by omega), Int.toNat_natCast]
    have edr : (P.drop (a + 1)).getD (e - (a + 1)) 0 = P.getD e 0 := by
      rw [List.getD_eq_getElem?_getD, List.getElem?_drop, show a + 1 + (e - (a + 1)) = e by omega, ← List.getD_eq_getElem?_getD]
    refine xe_s (f := (13, _, _, _)) xt_g120 rfl rfl rfl rfl rfl ?_
    refine xe_s (f := (14, _, _, _)) xt_g120 rfl rfl rfl rfl rfl ?_
    refine xe_cR xt_g120 rfl rfl rfl (q := 17) rfl (kc_V xk_2_64 rfl (F1 _ _ _ _ _) (by omega) rfl rfl) xt_g31 (by decide) ⟨Nat.le_of_ble_eq_true rfl, Nat.le_of_ble_eq_true rfl, Nat.le_of_ble_eq_true rfl⟩ (s31 (sS_ko H)) ?_
    refine xe_ic_gt xt_g120 rfl (t := 72) rfl (q := 20) rfl (by first | omega | exact xb_r _) (by first | omega | exact xb_r _) (fun b17 => ?_) (fun b17 => ?_)
    · exact absurd b17 (by omega)
    · try simp only [xb_0, xb_1, ne_eq, Decidable.not_not, Bool.not_eq_false, Bool.not_eq_true, decide_eq_true_eq, decide_eq_false_iff_not] at b17
      refine xe_s (f := (21, _, _, _)) xt_g120 rfl rfl rfl rfl rfl ?_
      refine xe_s (f := (22, _, _, _)) xt_g120 rfl rfl rfl rfl rfl ?_
      refine xe_cR xt_g120 rfl rfl rfl (q := 25) rfl (kc_V xk_2_64 rfl (F1 _ _ _ _ _) (by omega) rfl rfl) xt_g31 (by decide) ⟨Nat.le_of_ble_eq_true rfl, Nat.le_of_ble_eq_true rfl, Nat.le_of_ble_eq_true rfl⟩ (s31 (sS_ko H)) ?_
      refine xe_ic_ne xt_g120 rfl (t := 32) rfl (q := 28) rfl (by first | omega | exact xb_r _) (by first | omega | exact xb_r _) (fun b25 => ?_) (fun b25 => ?_)
      · try simp only [xb_0, xb_1, ne_eq, Decidable.not_not, Bool.not_eq_false, Bool.not_eq_true, decide_eq_true_eq, decide_eq_false_iff_not] at b25
        refine xe_s (f := (33, _, xi 0 :: _, _)) xt_g120 rfl rfl rfl rfl rfl ?_
        refine xe_s (f := (35, [(4, _), (3, _), (2, _), (0, _), (1, _)], _, _)) xt_g120 rfl rfl rfl rfl rfl ?_
        refine xe_s (f := (37, _, _, _)) xt_g120 rfl rfl rfl rfl rfl ?_
        refine xe_if_ne xt_g120 rfl (t := 50) rfl (q := 40) rfl (by first | omega | exact xb_r _) (fun b37 => ?_) (fun b37 => ?_)
        · exact absurd b37 (by omega)
        · try simp only [xb_0, xb_1, ne_eq, Decidable.not_not, Bool.not_eq_false, Bool.not_eq_true, decide_eq_true_eq, decide_eq_false_iff_not] at b37
          refine xe_s (f := (41, _, _, _)) xt_g120 rfl rfl rfl rfl rfl ?_
          refine xe_s (f := (42, _, _, _)) xt_g120 rfl rfl rfl rfl rfl ?_
          refine xe_cR xt_g120 rfl rfl rfl (q := 45) rfl (kc_V xk_2_82 rfl (F1 _ _ _ _ _) (by omega) rfl rfl) xt_g85 (by decide) ⟨Nat.le_of_ble_eq_true rfl, Nat.le_of_ble_eq_true rfl, Nat.le_of_ble_eq_true rfl⟩ (s85t hfm (sS_ko H) (by omega) (by omega)) ?_
          refine xe_bipush xt_g120 rfl (q := 47) rfl (by decide) (by decide) ?_
          refine xe_ic_ne xt_g120 rfl (t := 66) rfl (q := 50) rfl (by first | omega | exact xb_r _) (by first | omega | exact xb_r _) (fun b47 => ?_) (fun b47 => ?_)
          · try simp only [xb_0, xb_1, ne_eq, Decidable.not_not, Bool.not_eq_false, Bool.not_eq_true, decide_eq_true_eq, decide_eq_false_iff_not] at b47
            refine xe_iinc xt_g120 rfl (q := 69) rfl rfl (by decide) (L1 := [(3, _), (4, _), (2, _), (0, _), (1, _)]) rfl ?_
            refine xe_s (f := (12, _, _, _)) xt_g120 rfl rfl rfl rfl rfl ?_
            have g := ih F a (e + 1) w h n t kc c u (by omega) (by omega) h47 (by
              apply Decidable.byContradiction
              intro hn
              have wd : pa_wd (P.drop (a + 1)) = e - (a + 1) := by omega
              rcases pa_wd_end (P.drop (a + 1)) with q | ⟨_, q⟩
              · omega
              · rw [wd, edr, ← elt] at q
                exact b47 q) hF K C H ht hd
            rw [show ((e + 1 : Nat) : Int) = (e : Int) + 1 by omega] at g
            exact xe_loc (by intro q hq; simp only [List.mem_cons, List.not_mem_nil, or_false] at hq; rcases hq with rfl | rfl | rfl | rfl <;> rfl) (g)
          · try simp only [xb_0, xb_1, ne_eq, Decidable.not_not, Bool.not_eq_false, Bool.not_eq_true, decide_eq_true_eq, decide_eq_false_iff_not] at b47
            refine xe_s (f := (51, _, _, _)) xt_g120 rfl rfl rfl rfl rfl ?_
            refine xe_s (f := (52, _, _, _)) xt_g120 rfl rfl rfl rfl rfl ?_
            refine xe_s (f := (53, _, _, _)) xt_g120 rfl rfl rfl rfl rfl ?_
            refine xe_s (f := (54, _, xi 1 :: _, _)) xt_g120 rfl rfl rfl rfl rfl ?_
            refine xe_iadd xt_g120 rfl (q := 55) rfl ?_
            refine xe_s (f := (56, _, _, _)) xt_g120 rfl rfl rfl rfl rfl ?_
            have wd : pa_wd (P.drop (a + 1)) = e - (a + 1) := by
              apply Decidable.byContradiction
              intro hn
              exact pa_wd_ne (P.drop (a + 1)) (e - (a + 1)) (by omega) (by rw [edr, ← elt]; exact b47)
            have es : sl P ((a : Int) + 1) (e : Int) = (P.drop (a + 1)).take (pa_wd (P.drop (a + 1))) := by rw [sl_nat, wd]
            refine xe_cA xt_g120 rfl rfl rfl (q := 59) rfl (kc_V xk_2_70 rfl (F1 _ _ _ _ _) (by omega) rfl rfl) xt_g103 (by decide) ⟨Nat.le_of_ble_eq_true rfl, Nat.le_of_ble_eq_true rfl, Nat.le_of_ble_eq_true rfl⟩ (k103 (i := (a : Int) + 1) (j := (e : Int)) hfm K C H (by omega) (by omega) (by omega)) (fun x1 h1' n1 c1 u1 hp => ?_)
            obtain ⟨h2, rfl, k1, S1, n1', u1'⟩ := hp
            have N1 := k1.1
            rw [es] at S1
            have K1 := KW_ke K k1
            have tl : ((P.drop (a + 1)).take (pa_wd (P.drop (a + 1)))).length = e - (a + 1) := by rw [List.length_take]; omega
            refine xe_s (f := (61, _, _, _)) xt_g120 rfl rfl rfl rfl rfl ?_
            refine xe_cN xt_g120 rfl rfl rfl (q := 64) rfl (kc_V xk_2_157 rfl (ko_49) (by omega) rfl rfl) xt_g121 (by decide) ⟨Nat.le_of_ble_eq_true rfl, Nat.le_of_ble_eq_true rfl, Nat.le_of_ble_eq_true rfl⟩ (k121 (b := false) hfm K1 (cst_kp C K.1 (ke_kp k1)) S1 (by omega)) (fun h2' n2 c2 u2 hq => ?_)
            obtain ⟨w2, h3, t2, kc2, rfl, R2, e2⟩ := hq
            have N2 := R2.2.1.1
            have kl := kpf_len (cl := t 2) (Pt := (P.drop (a + 1)).take (pa_wd (P.drop (a + 1)))) (b := false)
            have kh := kpf_hd (Pt := (P.drop (a + 1)).take (pa_wd (P.drop (a + 1)))) (b := false) hd
            refine xe_s (f := (65, _, _, _)) xt_g120 rfl rfl rfl rfl rfl ?_
            refine xe_s (f := (66, [(2, _), (4, _), (3, _), (0, _), (1, _)], _, _)) xt_g120 rfl rfl rfl rfl rfl ?_
            refine xe_iinc xt_g120 rfl (q := 69) rfl rfl (by decide) (L1 := [(3, _), (2, _), (4, _), (0, _), (1, _)]) rfl ?_
            refine xe_s (f := (12, _, _, _)) xt_g120 rfl rfl rfl rfl rfl ?_
            obtain ⟨F', rfl⟩ : ∃ j, F = j + 1 := ⟨F - 1, by omega⟩
            have edp : (P.drop (a + 1)).drop (pa_wd (P.drop (a + 1))) = P.drop e := by rw [List.drop_drop, wd, show a + 1 + (e - (a + 1)) = e by omega]
            rw [drop_hd (a := a) (by omega), h47, wd_step (by omega) (by omega) hd, edp]
            have g := ih F' e (e + 1) w2 h3 n2 t2 kc2 (c + c1 + c2) (u + u1 + u2) (by omega) (by omega) (by rw [← elt]; exact b47) (by omega) (by omega) R2.1 (cst_kp (cst_kp C K.1 (ke_kp k1)) K1.1 R2.2.1) (sS_kp (sS_ke H k1) R2.2.1) (by rw [e2]; omega) (by rw [e2]; exact kh)
            rw [show ((e + 1 : Nat) : Int) = (e : Int) + 1 by omega] at g
            refine xe_mono (xe_loc (by intro q hq; simp only [List.mem_cons, List.not_mem_nil, or_false] at hq; rcases hq with rfl | rfl | rfl | rfl <;> rfl) (g)) (fun r M hM => ?_)
            obtain ⟨x3, g1, w4, h4, t4, kc4, u3, g2, g3, R3, t4l, dl, S3⟩ := hM
            rw [e2] at S3 dl
            refine ⟨x3, g1, w4, h4, t4, kc4, u1 + u2 + u3, g2, by omega, RR_mono (RR_trans (RR_trans (RR_ke (S := []) (Q := []) (s := s) (p := p) (s' := s) (p' := p) (B := 4 + (e - (a + 1))) (C := 2) (u' := u1) K k1 (fun _ _ => rfl) (fun _ _ => rfl) n1' (by omega)) R2) R3) rfl rfl (by omega) (by omega) (by omega), t4l, dl, S3⟩
      · exact absurd b25 (by omega)
/-- withoutDots -/
theorem k120 (hfm : fm = .null ∨ ∃ j, fm = .ref j) (K : KW w h n t kc) (C : cst w h n) (H : sS (gd w) h n r (47 :: P)) (lP : P.length ≤ 400) (ht : (t 2).length < 8000) : xA fm 120 (ko w s p ar v h) n [.ref 49, .ref r] (fun x h' n' u' => ∃ w' h1 t' kc', h' = ko w' s p ar v h1 ∧ RR [] [] 2415 804 w s p h n t kc w' s p h1 n' t' kc' u' ∧ (t' 2).length ≤ 401 ∧ (pa_dots (47 :: P)).length ≤ 401 ∧ sS (gd w') h1 n' x (pa_dots (47 :: P))) := by
  have W0 := K.1.1
  have hlc : (47 :: P).length = P.length + 1 := List.length_cons
  unfold xA
  refine xe_s (f := (1, _, _, _)) xt_g120 rfl rfl rfl rfl rfl ?_
  refine xe_gf xt_g120 rfl (q := 4) rfl (xf_2_12 fm) (ko_49) (by omega) rfl rfl ?_
  refine xe_s (f := (5, _, xi 0 :: _, _)) xt_g120 rfl rfl rfl rfl rfl ?_
  refine xe_cN xt_g120 rfl rfl rfl (q := 8) rfl (kc_V xk_2_136 rfl (ko_50) (by omega) rfl rfl) xt_g14 (by decide) ⟨Nat.le_of_ble_eq_true rfl, Nat.le_of_ble_eq_true rfl, Nat.le_of_ble_eq_true rfl⟩ (k14_2 (m := 0) K (by omega) (by omega) (by omega)) (fun h1' n1 c1 u1 hp => ?_)
  obtain ⟨w1, h2, k1, rfl, R1⟩ := hp
  rw [show (0 : Int).toNat = 0 from rfl, List.take_zero] at R1
  have N1 := R1.2.1.1
  refine xe_s (f := (9, _, xi 0 :: _, _)) xt_g120 rfl rfl rfl rfl rfl ?_
  refine xe_s (f := (10, [(2, _), (0, _), (1, _)], _, _)) xt_g120 rfl rfl rfl rfl rfl ?_
  refine xe_s (f := (11, _, xi 1 :: _, _)) xt_g120 rfl rfl rfl rfl rfl ?_
  refine xe_s (f := (12, [(3, _), (2, _), (0, _), (1, _)], _, _)) xt_g120 rfl rfl rfl rfl rfl ?_
  have g := k120_loop (fm := fm) (r := r) (s := s) (p := p) (ar := ar) (v := v) (P := 47 :: P) hfm (by omega) P.length (47 :: P).length 0 1 w1 h2 n1 _ _ (0 + c1) (0 + u1) (by omega) (by omega) rfl (by omega) (by omega) R1.1 (cst_kp C K.1 R1.2.1) (sS_kp H R1.2.1) (by simp [tu_s]) (Or.inl tu_s)
  refine xe_mono (xe_loc (by intro q hq; simp only [List.mem_cons, List.not_mem_nil, or_false] at hq; rcases hq with rfl | rfl | rfl | rfl <;> rfl) (g)) (fun r M hM => ?_)
  obtain ⟨x3, g1, w4, h4, t4, kc4, u3, g2, g3, R3, t4l, dl, S3⟩ := hM
  rw [tu_s] at S3 dl
  refine ⟨x3, g1, w4, h4, t4, kc4, g2, RR_mono (RR_trans (kR_RR2 (s := s) (p := p) R1) R3) rfl rfl (by omega) (by omega) (by omega), t4l, dl, S3⟩
/-- new Address -/
theorem k125 {fs : List Value} {sec port : Int} {ho pa qu te : Nat} (ha : h x = .inr (8, fs)) (hf : fs.length = 6) (h44 : 44 ≤ x) (hx : x < n) (hs : sec = 0 ∨ sec = 1) : xN fm 125 h n [.ref x, xi sec, .ref ho, xi port, .ref pa, .ref qu, .ref te] (fun h' n' u' => h' = va_up h x (.inr (8, [xi sec, .ref ho, xi port, .ref pa, .ref qu, .ref te])) ∧ n' = n ∧ u' = 0) := by
  obtain ⟨f0, f1, f2, f3, f4, f5, rfl⟩ : ∃ f0 f1 f2 f3 f4 f5, fs = [f0, f1, f2, f3, f4, f5] := by
    match fs, hf with
    | [f0, f1, f2, f3, f4, f5], _ => exact ⟨_, _, _, _, _, _, rfl⟩
  unfold xN
  refine xe_s (f := (1, _, _, _)) xt_g125 rfl rfl rfl rfl rfl ?_
  refine xe_obj xt_g125 rfl (q := 4) rfl xz0_1_1 (xp_1_1 fm) (Nat.le_of_ble_eq_true rfl) ?_
  refine xe_s (f := (5, _, _, _)) xt_g125 rfl rfl rfl rfl rfl ?_
  refine xe_s (f := (6, _, _, _)) xt_g125 rfl rfl rfl rfl rfl ?_
  refine xe_pf xt_g125 rfl (q := 9) rfl (xf_1_7 fm) (ha) (by omega) (by omega) rfl (Nat.le_of_ble_eq_true rfl) (Nat.le_of_ble_eq_true rfl) (xi_bool (by first | omega | exact xb_or _)) (Or.inr ⟨by decide, rfl⟩) ?_
  refine xe_s (f := (10, _, _, _)) xt_g125 rfl rfl rfl rfl rfl ?_
  refine xe_s (f := (11, _, _, _)) xt_g125 rfl rfl rfl rfl rfl ?_
  refine xe_pf xt_g125 rfl (q := 14) rfl (xf_1_13 fm) (va_up_s) (by omega) (by omega) rfl (Nat.le_of_ble_eq_true rfl) (Nat.le_of_ble_eq_true rfl) ⟨rfl, rfl⟩ (Or.inr ⟨by decide, rfl⟩) ?_
  refine xe_s (f := (15, _, _, _)) xt_g125 rfl rfl rfl rfl rfl ?_
  refine xe_s (f := (16, _, _, _)) xt_g125 rfl rfl rfl rfl rfl ?_
  refine xe_pf xt_g125 rfl (q := 19) rfl (xf_1_17 fm) (va_up_s) (by omega) (by omega) rfl (Nat.le_of_ble_eq_true rfl) (Nat.le_of_ble_eq_true rfl) xi_int (Or.inr ⟨by decide, rfl⟩) ?_
  refine xe_s (f := (20, _, _, _)) xt_g125 rfl rfl rfl rfl rfl ?_
  refine xe_s (f := (22, _, _, _)) xt_g125 rfl rfl rfl rfl rfl ?_
  refine xe_pf xt_g125 rfl (q := 25) rfl (xf_1_21 fm) (va_up_s) (by omega) (by omega) rfl (Nat.le_of_ble_eq_true rfl) (Nat.le_of_ble_eq_true rfl) ⟨rfl, rfl⟩ (Or.inr ⟨by decide, rfl⟩) ?_
  refine xe_s (f := (26, _, _, _)) xt_g125 rfl rfl rfl rfl rfl ?_
  refine xe_s (f := (28, _, _, _)) xt_g125 rfl rfl rfl rfl rfl ?_
  refine xe_pf xt_g125 rfl (q := 31) rfl (xf_1_24 fm) (va_up_s) (by omega) (by omega) rfl (Nat.le_of_ble_eq_true rfl) (Nat.le_of_ble_eq_true rfl) ⟨rfl, rfl⟩ (Or.inr ⟨by decide, rfl⟩) ?_
  refine xe_s (f := (32, _, _, _)) xt_g125 rfl rfl rfl rfl rfl ?_
  refine xe_s (f := (34, _, _, _)) xt_g125 rfl rfl rfl rfl rfl ?_
  refine xe_pf xt_g125 rfl (q := 37) rfl (xf_1_27 fm) (va_up_s) (by omega) (by omega) rfl (Nat.le_of_ble_eq_true rfl) (Nat.le_of_ble_eq_true rfl) ⟨rfl, rfl⟩ (Or.inr ⟨by decide, rfl⟩) ?_
  refine xe_ret xt_g125 rfl rfl ?_
  try dsimp only
  rw [va_uu, va_uu, va_uu, va_uu, va_uu]
  exact ⟨rfl, rfl, rfl, rfl⟩
theorem ko_new {a : Nat} {e : va_E} (ha : 64 ≤ a) : va_up (ko w s p ar v h) a e = ko w s p ar v (va_up h a e) := by
  funext b
  by_cases g : b = a
  · subst g
    rw [va_up_s, ko_d (Or.inr (Or.inr (Or.inr (Or.inr ha)))), va_up_s]
  · rw [va_up_n g]
    unfold ko
    rw [va_up_n g]
theorem ke_up {a : Nat} {e : va_E} (ha : n ≤ a) (hn : n ≤ n') : ke h n (va_up h a e) n' := ⟨hn, fun i hi _ => va_up_n (by omega)⟩
theorem gd_n {a : Nat} (W : kw w n) (ha : n ≤ a) : gd w a := gd_new W (Or.inr ha)
end XB8
