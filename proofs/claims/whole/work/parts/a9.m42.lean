/-! the reference: messages and requests over the shared state -/
def rf_rx (ar : Nat → Nat → Int) (rq : Nat → Option mq_T) (r : Nat) : Prop := ∀ r', r' < 24 → r' ≠ r → rf_q1 ar r' (rq r')
def rf_md (s : Nat → Int) (ar : Nat → Nat → Int) (M : List Int) : Prop := s 62 = M.length ∧ M.length ≤ 1400 ∧ xh (ar 61) 0 M ∧ ∀ c, c ∈ M → 0 ≤ c ∧ c < 127
/-- all but request r is as it should be; M is being made -/
def rg (s : Nat → Int) (ar : Nat → Nat → Int) (u : mu_T) (r : Nat) (M : List Int) : Prop := xo_wf s ar ∧ xo_B ar ∧ rf_md s ar M ∧ rf_line s ar (mu_ln u) ∧ sf_at s ar (mu_sf u) ∧ rf_qt s (mu_qt u) (mu_tm u) ∧ rf_ck s ar (mu_ck u) ∧ rf_tab s ar (mu_tb u) (mu_fo u) ∧ rf_fr ar (mu_fr u) ∧ rf_rx ar (mu_rq u) r ∧ rf_or s ar (mu_or u) ∧ rf_st ar (mu_st u) ∧ rf_ms s ar (mu_ms u) ∧ rf_sh s ar (mu_sh u)
theorem rg_of {s : Nat → Int} {ar : Nat → Nat → Int} {u : mu_T} (h : rf s ar u) (r : Nat) : rg s ar u r [] := by
  obtain ⟨w, B, z, r0, r1, r2, r3, r4, r5, r6, r7, r8, r9, ra⟩ := h
  exact ⟨w, B, ⟨z, by decide, xh_nil, fun c hc => by cases hc⟩, r0, r1, r2, r3, r4, r5, fun r' hr _ => r6 r' hr, r7, r8, r9, ra⟩
theorem rg_to {s : Nat → Int} {ar : Nat → Nat → Int} {u : mu_T} {r : Nat} (h : rg s ar u r []) (hr : r < 24 → rf_q1 ar r (mu_rq u r)) : rf s ar u := by
  obtain ⟨w, B, z, r0, r1, r2, r3, r4, r5, r6, r7, r8, r9, ra⟩ := h
  refine ⟨w, B, z.1, r0, r1, r2, r3, r4, r5, fun r' hr' => ?_, r7, r8, r9, ra⟩
  by_cases e : r' = r
  · subst e
    exact hr hr'
  · exact r6 r' hr' e
theorem rf_k6x {S A K : List Nat} {s s1 : Nat → Int} {ar ar1 : Nat → Nat → Int} {rq : Nat → Option mq_T} {r : Nat} (h : rf_rx ar rq r) (q : xq S A s ar s1 ar1) (F : xs_F K ar ar1) (hd : (rf_fS [46, 47, 48, 49, 50, 51, 52] A && K.all (fun k => decide (k < 16 ∨ k = 40 ∨ k = 41 ∨ 90 ≤ k))) = true) : rf_rx ar1 rq r := by
  rw [Bool.and_eq_true] at hd
  intro r' hr hne
  have hk : ∀ k, k ∈ K → k < 16 ∨ k = 40 ∨ k = 41 ∨ 90 ≤ k := fun k e => of_decide_eq_true (List.all_eq_true.mp hd.2 k e)
  refine rf_q1_k (h r' hr hne) hr (fun k h1 h2 => ?_) F ⟨fun e => ?_, fun e => ?_, fun e => ?_⟩
  · rw [q.2 k (rf_fS_n hd.1 (by simp; omega))]
  · have := hk _ e
    omega
  · have := hk _ e
    omega
  · have := hk _ e
    omega
def mu_note (u : mu_T) (k a b : Int) (t : List Int) : mu_T := if (mu_ms u).length < 200 then mu_sms u (mu_ms u ++ [(k, a, b, t)]) else u
section XTL
variable (fm : Value) {m n : Nat} {h0 : xm_H} {s : Nat → Int} {ar : Nat → Nat → Int}
theorem xU_tell (hmn : xo_in m n) {u : mu_T} {r : Nat} {M : List Int} (h : rg s ar u r M) {w a b : Int} (hw : xr w) (ha : xr a) (hb : xr b) : xU fm 289 m n h0 s ar [.ref m, xi w, xi a, xi b] (fun s' ar' => xq [55, 62] [56, 57, 58, 59, 60] s ar s' ar' ∧ rg s' ar' (mu_note u w a b (M.take 200)) r []) := by
  obtain ⟨wf, B, ⟨z1, z2, z3, z4⟩, r0, r1, r2, r3, r4, r5, r6, r7, r8, ⟨y1, y2, y3, y4⟩, ra⟩ := h
  have hmd : ∀ i : Int, 0 ≤ i → i < s 62 → -128 ≤ ar 61 i.toNat ∧ ar 61 i.toNat < 128 := by
    intro i h1 h2
    have := z3 i.toNat (by omega)
    rw [Nat.zero_add] at this
    rw [this]
    have := z4 _ (xg_mem (l := M) (i := i.toNat) (by omega))
    omega
  refine xU_of (xv_tell fm hmn wf (w := w) (a := a) (b := b) (by omega) (by omega) hmd) ?_
  unfold xd_ts xd_tl
  by_cases h200 : s 55 = 200
  · rw [if_pos h200, if_pos h200]
    have q : xq [55, 62] [56, 57, 58, 59, 60] s ar (xo_u s 62 0) ar := xq_u xq_r (by decide)
    have e : mu_note u w a b (M.take 200) = u := by
      unfold mu_note
      rw [if_neg (by omega)]
    rw [e]
    exact ⟨q, xo_wf_u wf (by omega), B, ⟨xo_uS, by decide, xh_nil, fun c hc => by cases hc⟩, rf_k0 r0 q rfl, rf_k1 r1 q rfl, rf_k2 r2 q rfl, rf_k3 r3 q rfl, rf_k4 r4 q rfl, r5, r6, rf_k7 r7 q xs_r (K := []) rfl, r8, ⟨y1, y2, y3, y4⟩, rf_ka ra q rfl⟩
  · rw [if_neg h200, if_neg h200]
    generalize hN : xd_min (s 62) 200 = N
    have hN2 : N = ((M.take 200).length : Int) ∧ 0 ≤ N ∧ N ≤ 200 ∧ N ≤ s 62 := by
      rw [List.length_take, ← hN]
      unfold xd_min
      split <;> omega
    have hg : ∀ i : Int, xr (ar 61 i.toNat) := fun i => wf.2 _ _
    have q : xq [55, 62] [56, 57, 58, 59, 60] s ar (xo_u (xo_u s 62 0) 55 (s 55 + 1)) (xd_ap (xo_w (xo_w (xo_w (xo_w ar 56 (s 55).toNat w) 57 (s 55).toNat a) 58 (s 55).toNat b) 59 (s 55).toNat N) 60 (200 * s 55) (fun i => ar 61 i.toNat) N) := xq_a (xq_w (xq_w (xq_w (xq_w (xq_u (xq_u xq_r (by decide)) (by decide)) (by decide)) (by decide)) (by decide)) (by decide)) (by decide)
    have B' : xo_B (xd_ap (xo_w (xo_w (xo_w (xo_w ar 56 (s 55).toNat w) 57 (s 55).toNat a) 58 (s 55).toNat b) 59 (s 55).toNat N) 60 (200 * s 55) (fun i => ar 61 i.toNat) N) := xo_B_q B q (by decide)
    have e : mu_note u w a b (M.take 200) = mu_sms u (mu_ms u ++ [(w, a, b, M.take 200)]) := by
      unfold mu_note
      rw [if_pos (by omega)]
    rw [e]
    refine ⟨q, xo_wf_u (xo_wf_u (xd_ap_wf (xo_wf_w (xo_wf_w (xo_wf_w (xo_wf_w wf hw) ha) hb) (by omega)) hg) (by omega)) (by omega), B', ⟨rfl, by decide, xh_nil, fun c hc => by cases hc⟩, rf_k0 r0 q rfl, rf_k1 r1 q rfl, rf_k2 r2 q rfl, rf_k3 r3 q rfl, rf_k4 r4 q rfl, rf_k5 r5 q (K := []) (xs_q q (by decide) (by decide)) rfl, rf_k6x r6 q (K := []) (xs_q q (by decide) (by decide)) rfl, rf_k7 r7 q (K := []) (xs_q q (by decide) (by decide)) rfl, rf_k8 r8 q rfl, ?_, rf_ka ra q rfl⟩
    have hmn2 : (s 55).toNat = (mu_ms u).length := by omega
    show rf_ms _ _ (mu_ms u ++ [(w, a, b, M.take 200)])
    refine ⟨?_, ?_, fun i => ?_, fun k hk => ?_⟩
    · show s 55 + 1 = _
      rw [y1, List.length_append]
      simp
    · rw [List.length_append]
      simp
      omega
    · rw [xd_apK (by decide)]
      by_cases hi : i = (s 55).toNat
      · rw [hi, xo_wS]
        omega
      · rw [xo_wI hi, xo_wK (by decide), xo_wK (by decide), xo_wK (by decide)]
        exact y3 i
    · rw [List.length_append, List.length_singleton] at hk
      by_cases hkl : k < (mu_ms u).length
      · have eg : (mu_ms u ++ [(w, a, b, M.take 200)]).getD k ms_0 = (mu_ms u).getD k ms_0 := by simp [List.getD, List.getElem?_append_left hkl]
        rw [eg]
        obtain ⟨c1, c2, c3, c4, c5, c6⟩ := y4 k hkl
        have hne : k ≠ (s 55).toNat := by omega
        refine ⟨?_, ?_, ?_, ?_, c5, ?_⟩
        · rw [xd_apK (by decide), xo_wK (by decide), xo_wK (by decide), xo_wK (by decide), xo_wI hne]
          exact c1
        · rw [xd_apK (by decide), xo_wK (by decide), xo_wK (by decide), xo_wI hne, xo_wK (by decide)]
          exact c2
        · rw [xd_apK (by decide), xo_wK (by decide), xo_wI hne, xo_wK (by decide), xo_wK (by decide)]
          exact c3
        · rw [xd_apK (by decide), xo_wI hne, xo_wK (by decide), xo_wK (by decide), xo_wK (by decide)]
          exact c4
        · refine xh_apo (by omega) ?_
          rw [xo_wK (by decide), xo_wK (by decide), xo_wK (by decide), xo_wK (by decide)]
          exact c6
      · have hke : k = (mu_ms u).length := by omega
        subst hke
        have eg : (mu_ms u ++ [(w, a, b, M.take 200)]).getD (mu_ms u).length ms_0 = (w, a, b, M.take 200) := by simp
        rw [eg]
        refine ⟨?_, ?_, ?_, ?_, by rw [List.length_take]; omega, ?_⟩
        · rw [xd_apK (by decide), xo_wK (by decide), xo_wK (by decide), xo_wK (by decide), hmn2, xo_wS]
        · rw [xd_apK (by decide), xo_wK (by decide), xo_wK (by decide), hmn2, xo_wS]
        · rw [xd_apK (by decide), xo_wK (by decide), hmn2, xo_wS]
        · rw [xd_apK (by decide), hmn2, xo_wS]
          exact hN2.1
        · have := xh_ap (F := 60) (ar := xo_w (xo_w (xo_w (xo_w ar 56 (s 55).toNat w) 57 (s 55).toNat a) 58 (s 55).toNat b) 59 (s 55).toNat N) (c := N) (P := 200 * s 55) (gg := fun i => ar 61 i.toNat) (p := 200 * (mu_ms u).length) (l := []) (by simp; omega) xh_nil
          rw [List.nil_append] at this
          have eT : (List.range N.toNat).map (fun i : Nat => ar 61 (i : Int).toNat) = M.take 200 := by
            apply xg_ext
            · rw [List.length_map, List.length_range]
              omega
            · intro i hi
              rw [List.length_map, List.length_range] at hi
              rw [show ((List.range N.toNat).map (fun i : Nat => ar 61 (i : Int).toNat)).getD i 0 = ar 61 i by simp [hi], xg_take (by omega), ← z3 i (by omega), Nat.zero_add]
          rw [eT] at this
          exact this
/-- the slot b gets what slot a holds, as far as l goes -/
theorem xU_copyText (hmn : xo_in m n) (hw : xo_wf s ar) {a b : Nat} {e : Int} {l l' : List Int} (ha : a < 98) (hb : b < 98) (hab : a ≠ b) (hl : pa_at ar (a : Int) (l ++ l')) (he : e = l.length) : xU fm 282 m n h0 s ar [.ref m, xi (a : Int), xi (b : Int), xi e] (fun s' ar' => s' = s ∧ xo_wf s' ar' ∧ xq [] [4, 5] s ar s' ar' ∧ xs_F [b] ar ar' ∧ pa_at ar' (b : Int) l) := by
  obtain ⟨g1, g2, g3⟩ := hl
  rw [List.length_append] at g1 g2
  have h := xv_copyText fm hmn (h0 := h0) (s := s) (ar := ar) (a := (a : Int)) (b := (b : Int)) (e := e) (by omega) (by omega) (by omega) (by omega)
  have q : xq [] [4, 5] s ar s (xo_w (xd_ap ar 4 (60 * (b : Int)) (xd_tx ar (a : Int)) e) 5 (b : Int).toNat e) := xq_w (xq_a xq_r (by decide)) (by decide)
  refine xU_of h ⟨rfl, xo_wf_w (xd_ap_wf hw (fun i => hw.2 _ _)) (by omega), q, fun k hk hn => ⟨?_, fun i hi => ?_⟩, ?_, by omega, ?_⟩
  · rw [List.mem_singleton] at hn
    rw [xo_wI (by omega), xd_apK (by decide)]
  · rw [List.mem_singleton] at hn
    rw [xo_wK (by decide)]
    exact xd_apI (by omega)
  · rw [Int.toNat_natCast, xo_wS]
    exact he
  · rw [xo_wK (by decide)]
    have := xh_ap (F := 4) (ar := ar) (c := e) (P := 60 * (b : Int)) (gg := xd_tx ar (a : Int)) (p := (60 * (b : Int)).toNat) (l := []) (by simp; omega) xh_nil
    rw [List.nil_append] at this
    have eT : (List.range e.toNat).map (fun i : Nat => xd_tx ar (a : Int) i) = l := by
      apply xg_ext
      · rw [List.length_map, List.length_range]
        omega
      · intro i hi
        rw [List.length_map, List.length_range] at hi
        rw [show ((List.range e.toNat).map (fun i : Nat => xd_tx ar (a : Int) i)).getD i 0 = xd_tx ar (a : Int) i by simp [hi]]
        unfold xd_tx
        have := g3 i (by rw [List.length_append]; omega)
        rw [xg_l (by omega)] at this
        rw [← this]
        congr 1
    rw [eT] at this
    exact this
def mu_rtx (u : mu_T) (a : pa_A) (wi : Bool) : List Int := (pa_text a ++ if wi = true then mk_txt (mk_going (mu_tm u) (mu_ck u) a true) false true else []).take 200
theorem mk_one_c {c : ck_T} {sm bl : Bool} (h : ck_gd c) {x : Int} (hx : x ∈ mk_one c sm bl) : 0 ≤ x ∧ x < 127 := by
  unfold mk_one at hx
  simp only [List.mem_append, List.mem_cons] at hx
  rcases hx with (hx | hx) | hx | hx
  · split at hx
    · simp at hx
      omega
    · split at hx
      · simp at hx
        omega
      · cases hx
  · have := h x (Or.inl hx)
    omega
  · omega
  · have := h x (Or.inr hx)
    omega
theorem mk_txt_c : ∀ {G : List ck_T} {sm bl : Bool}, (∀ c, c ∈ G → ck_gd c) → ∀ {x : Int}, x ∈ mk_txt G sm bl → 0 ≤ x ∧ x < 127
  | [], _, _, _, x, hx => by cases hx
  | c :: G, sm, bl, h, x, hx => by
    unfold mk_txt at hx
    rcases List.mem_append.mp hx with hx | hx
    · exact mk_one_c (h c (List.mem_cons_self)) hx
    · exact mk_txt_c (fun c hc => h c (List.mem_cons_of_mem _ hc)) hx
theorem mk_low_m {C : List ck_T} {p : Nat → ck_T → Bool} : ∀ (n : Nat) (c : ck_T), c ∈ mk_low C p n → c ∈ C
  | 0, c, h => by cases h
  | n + 1, c, h => by
    unfold mk_low at h
    rcases List.mem_append.mp h with h | h
    · exact (List.mem_filter.mp h).1
    · exact mk_low_m n c h
theorem mk_txt_l : ∀ {G : List ck_T} {sm bl : Bool}, (∀ c, c ∈ G → c.1.length ≤ 12 ∧ c.2.1.length ≤ 12) → (mk_txt G sm bl).length ≤ 27 * G.length
  | [], _, _, _ => by simp [mk_txt]
  | c :: G, sm, bl, h => by
    have ih := mk_txt_l (G := G) (sm := true) (bl := bl) (fun c hc => h c (List.mem_cons_of_mem _ hc))
    have hc := h c (List.mem_cons_self)
    unfold mk_txt mk_one
    simp only [List.length_append, List.length_cons]
    split
    · simp only [List.length_cons, List.length_nil]
      omega
    · split
      · simp only [List.length_cons, List.length_nil]
        omega
      · simp only [List.length_nil]
        omega
theorem ck_all_m {C : List ck_T} (h : ck_all s ar C) {c : ck_T} (hc : c ∈ C) : c.1.length ≤ 12 ∧ c.2.1.length ≤ 12 := by
  obtain ⟨i, hi, e⟩ := List.getElem_of_mem hc
  have := h.2.2 i hi
  rw [show C.getD i ck_0 = c by simp [List.getD, hi, e]] at this
  exact ⟨this.1.2.1, this.2.1.2.1⟩
/-- a text of an address that is being made -/
theorem rf_mk {u : mu_T} {r : Nat} {M T : List Int} {s1 : Nat → Int} {ar1 : Nat → Nat → Int} (h : rg s ar u r M) (hp : xd_PM s ar T s1 ar1) (hT : T.length ≤ 1400 ∧ ∀ c, c ∈ T → 0 ≤ c ∧ c < 127) : rg s1 ar1 u r T := by
  obtain ⟨w, B, z, r0, r1, r2, r3, r4, r5, r6, r7, r8, r9, ra⟩ := h
  obtain ⟨w1, q, p1, p2⟩ := hp
  exact ⟨w1, xo_B_q B q (by decide), ⟨p1, hT.1, p2, hT.2⟩, rf_k0 r0 q rfl, rf_k1 r1 q rfl, rf_k2 r2 q rfl, rf_k3 r3 q rfl, rf_k4 r4 q rfl, rf_k5 r5 q (K := []) (xs_q q (by decide) (by decide)) rfl, rf_k6x r6 q (K := []) (xs_q q (by decide) (by decide)) rfl, rf_k7 r7 q (K := []) (xs_q q (by decide) (by decide)) rfl, rf_k8 r8 q rfl, rf_k9 r9 q rfl, rf_ka ra q rfl⟩
theorem pa_ok_c {a : pa_A} (ho : pa_ok a) {c : Int} (hc : c ∈ pa_text a) : 0 ≤ c ∧ c < 127 := by
  have := ho.2.2.2.2.2.2.2.2 c hc
  omega
theorem xU_send (hmn : xo_in m n) {u : mu_T} {r : Nat} {a : pa_A} {f : Int} {wi : Bool} (h : rg s ar u r []) (hr : r < 24) (ha : pa_at ar ((40 : Nat) : Int) (pa_text a)) (ho : pa_ok a) (hf : ar 46 r = f ∧ 0 ≤ f ∧ f < 16) (hwi : wi = decide (ar 47 r = 0 ∨ ar 51 r ≠ 0)) : xU fm 281 m n h0 s ar [.ref m, xi (r : Int)] (fun s' ar' => xq [55, 62] [4, 5, 50, 56, 57, 58, 59, 60, 61] s ar s' ar' ∧ rg s' ar' (mu_note u 1 r f (mu_rtx u a wi)) r [] ∧ xs_F [16 + r] ar ar' ∧ pa_at ar' ((16 + r : Nat) : Int) (pa_text a) ∧ ar' 50 r = 0 ∧ ∀ j, j ≠ r → ar' 50 j = ar 50 j) := by
  show xe fm 281 (0, [(0, .ref m), (1, xi (r : Int))], [], (xo m s ar h0, n, 0, 0)) _
  have h5 : ar 5 (40 : Int).toNat = (pa_text a).length := ha.1
  have hal : (pa_text a).length ≤ 60 := ha.2.1
  have w := h.1
  have cc := xU_copyText fm hmn (h0 := h0) (s := s) (ar := ar) w (a := 40) (b := 16 + r) (e := (pa_text a).length) (l := pa_text a) (l' := []) (by decide) (by omega) (by omega) (by rw [List.append_nil]; exact ha) rfl
  rw [show ((16 + r : Nat) : Int) = 16 + (r : Int) by omega] at cc
  refine xe_s (f := (1, _, _, _)) xt_g281 rfl rfl rfl rfl rfl ?_
  refine xe_bipush xt_g281 rfl (q := 3) rfl (by decide) (by decide) ?_
  refine xe_bipush xt_g281 rfl (q := 5) rfl (by decide) (by decide) ?_
  refine xe_s (f := (6, _, _, _)) xt_g281 rfl rfl rfl rfl rfl ?_
  refine xe_iadd xt_g281 rfl (q := 7) rfl ?_
  refine xe_s (f := (8, _, _, _)) xt_g281 rfl rfl rfl rfl rfl ?_
  refine xe_mga xt_g281 rfl (q := 11) rfl (xf_13_16 fm) (by decide) rfl (by omega) ?_
  refine xe_bipush xt_g281 rfl (q := 13) rfl (by decide) (by decide) ?_
  refine xe_mal (ok := xm_isN) (ty := .int) xt_g281 rfl (q := 14) rfl (fun _ _ => ⟨rfl, rfl, rfl, rfl⟩) rfl rfl rfl (by omega) (by omega) (by omega) (by omega) ?_
  rw [h5]
  refine xe_chV xt_g281 rfl (q := 17) rfl xk_13_386 rfl (by omega) xt_g282 (by decide) ⟨Nat.le_of_ble_eq_true rfl, Nat.le_of_ble_eq_true rfl, Nat.le_of_ble_eq_true rfl⟩ (cc) (fun s1 ar1 hp1 => ?_)
  obtain ⟨es, w1, q1, F1, A1⟩ := hp1
  subst es
  rw [show 16 + (r : Int) = ((16 + r : Nat) : Int) by omega] at A1
  have q2 : xq [] [4, 5, 50] s1 ar s1 (xo_w ar1 50 r 0) := xq_w (xq_mm q1 (by decide) (by decide)) (by decide)
  have F2 : xs_F [16 + r] ar (xo_w ar1 50 r 0) := xs_e F1 (xo_wK (by decide)) (xo_wK (by decide))
  have A2 : pa_at (xo_w ar1 50 r 0) ((16 + r : Nat) : Int) (pa_text a) := pa_at_c A1 (xo_wK (by decide)) (xo_wK (by decide))
  have z50 : ∀ j, j ≠ r → xo_w ar1 50 r 0 50 j = ar 50 j := by
    intro j hj
    rw [xo_wI hj, q1.2 50 (by decide)]
  have G2 : rg s1 (xo_w ar1 50 r 0) u r [] := by
    obtain ⟨w, B, z, r0, r1, r2, r3, r4, r5, r6, r7, r8, r9, ra⟩ := h
    refine ⟨xo_wf_w w1 (by omega), xo_B_w (xo_B_q B q1 (by decide)) (fun h => absurd h (by decide)), ⟨z.1, z.2.1, xh_nil, z.2.2.2⟩, rf_k0 r0 q2 rfl, rf_k1 r1 q2 rfl, rf_k2 r2 q2 rfl, rf_k3 r3 q2 rfl, rf_k4 r4 q2 rfl, ?_, ?_, ?_, rf_k8 r8 q2 rfl, rf_k9 r9 q2 rfl, rf_ka ra q2 rfl⟩
    · intro g hg
      exact ⟨rf_f1_k (r5 g hg).1 hg (by rw [q2.2 42 (by decide)]) (by rw [q2.2 43 (by decide)]) (by rw [q2.2 44 (by decide)]) F2 (by rw [List.mem_singleton]; omega), by rw [q2.2 45 (by decide)]; exact (r5 g hg).2⟩
    · intro r' hr' hne
      refine rf_q1_k (r6 r' hr' hne) hr' (fun k h1 h2 => ?_) F2 ?_
      · by_cases hk : k = 50
        · rw [hk]
          exact z50 r' hne
        · rw [q2.2 k (by simp; omega)]
      · simp only [List.mem_singleton]
        omega
    · have h8 := r7.2.1
      refine ⟨r7.1, h8, fun k hk => ⟨pa_at_F (r7.2.2 k hk).1 F2 (by omega) (by rw [List.mem_singleton]; omega), (r7.2.2 k hk).2⟩⟩
  have e46 : xo_w ar1 50 r 0 46 r = f := by rw [q2.2 46 (by decide)]; exact hf.1
  have e47 : xo_w ar1 50 r 0 47 r = ar 47 r := by rw [q2.2 47 (by decide)]
  have e51 : xo_w ar1 50 r 0 51 r = ar 51 r := by rw [q2.2 51 (by decide)]
  have t1 := xU_makeText fm hmn (h0 := h0) (s := s1) (ar := xo_w ar1 50 r 0) G2.1 (M := []) (T := pa_text a) (b := ((16 + r : Nat) : Int)) (by omega) G2.2.2.1.1 xh_nil (by simp) A2
  rw [show ((16 + r : Nat) : Int) = 16 + (r : Int) by omega, List.nil_append] at t1
  have r47 := w.2 47 r
  have r51 := w.2 51 r
  -- the message
  have fin : ∀ (T : List Int) (s2 : Nat → Int) (ar2 : Nat → Nat → Int), T.take 200 = mu_rtx u a wi → rg s2 ar2 u r T → xq [62] [61] s1 (xo_w ar1 50 r 0) s2 ar2 → xe fm 281 (60, [(0, .ref m), (1, xi (r : Int))], [], (xo m s2 ar2 h0, n, 0, 0)) (xQU m n h0 (fun s' ar' => xq [55, 62] [4, 5, 50, 56, 57, 58, 59, 60, 61] s1 ar s' ar' ∧ rg s' ar' (mu_note u 1 r f (mu_rtx u a wi)) r [] ∧ xs_F [16 + r] ar ar' ∧ pa_at ar' ((16 + r : Nat) : Int) (pa_text a) ∧ ar' 50 r = 0 ∧ ∀ j, j ≠ r → ar' 50 j = ar 50 j)) := by
    intro T s2 ar2 hT G q
    have e46' : ar2 46 (r : Int).toNat = f := by rw [q.2 46 (by decide)]; exact e46
    have tl := xU_tell fm hmn (h0 := h0) G (w := 1) (a := (r : Int)) (b := f) (by omega) (by omega) (by omega)
    refine xe_s (f := (61, _, _, _)) xt_g281 rfl rfl rfl rfl rfl ?_
    refine xe_s (f := (62, _, xi 1 :: _, _)) xt_g281 rfl rfl rfl rfl rfl ?_
    refine xe_s (f := (63, _, _, _)) xt_g281 rfl rfl rfl rfl rfl ?_
    refine xe_s (f := (64, _, _, _)) xt_g281 rfl rfl rfl rfl rfl ?_
    refine xe_mga xt_g281 rfl (q := 67) rfl (xf_13_96 fm) (by decide) rfl (by omega) ?_
    refine xe_s (f := (68, _, _, _)) xt_g281 rfl rfl rfl rfl rfl ?_
    refine xe_mal (ok := xm_isN) (ty := .int) xt_g281 rfl (q := 69) rfl (fun _ _ => ⟨rfl, rfl, rfl, rfl⟩) rfl rfl rfl (by omega) (by omega) (by omega) (by omega) ?_
    rw [e46']
    refine xe_chV xt_g281 rfl (q := 72) rfl xk_13_376 rfl (by omega) xt_g289 (by decide) ⟨Nat.le_of_ble_eq_true rfl, Nat.le_of_ble_eq_true rfl, Nat.le_of_ble_eq_true rfl⟩ (tl) (fun s3 ar3 hp3 => ?_)
    obtain ⟨q3, G3⟩ := hp3
    rw [hT] at G3
    refine xe_ret xt_g281 rfl rfl ?_
    refine ⟨_, _, rfl, rfl, xq_t (xq_t (xq_mm q2 (by decide) (by decide)) (xq_mm q (by decide) (by decide))) (xq_mm q3 (by decide) (by decide)), G3, ?_, ?_, ?_, ?_⟩
    · exact xs_t (xs_t F2 (xs_q q (by decide) (by decide))) (xs_q q3 (by decide) (by decide))
    · exact pa_at_c (pa_at_c A2 (q.2 4 (by decide)) (q.2 5 (by decide))) (q3.2 4 (by decide)) (q3.2 5 (by decide))
    · rw [q3.2 50 (by decide), q.2 50 (by decide)]
      exact xo_wS
    · intro j hj
      rw [q3.2 50 (by decide), q.2 50 (by decide)]
      exact z50 j hj
  have hC := h.2.2.2.2.2.2.1
  have hqt := h.2.2.2.2.2.1
  refine xe_s (f := (18, _, _, _)) xt_g281 rfl rfl rfl rfl rfl ?_
  refine xe_mga xt_g281 rfl (q := 21) rfl (xf_13_108 fm) (by decide) rfl (by omega) ?_
  try simp only [xo_u, xo_w, Nat.reduceEqDiff, reduceIte, false_and, true_and]
  refine xe_s (f := (22, _, _, _)) xt_g281 rfl rfl rfl rfl rfl ?_
  refine xe_s (f := (23, _, xi 0 :: _, _)) xt_g281 rfl rfl rfl rfl rfl ?_
  refine xe_mas (ok := xm_isN) (ty := .int) xt_g281 rfl (q := 24) rfl (fun _ _ => ⟨rfl, rfl, rfl, rfl⟩) rfl rfl rfl (by omega) (by omega) (by omega) (by omega) (by omega) rfl ?_
  refine xe_s (f := (25, _, _, _)) xt_g281 rfl rfl rfl rfl rfl ?_
  refine xe_bipush xt_g281 rfl (q := 27) rfl (by decide) (by decide) ?_
  refine xe_s (f := (28, _, _, _)) xt_g281 rfl rfl rfl rfl rfl ?_
  refine xe_iadd xt_g281 rfl (q := 29) rfl ?_
  refine xe_chV xt_g281 rfl (q := 32) rfl xk_13_389 rfl (by omega) xt_g283 (by decide) ⟨Nat.le_of_ble_eq_true rfl, Nat.le_of_ble_eq_true rfl, Nat.le_of_ble_eq_true rfl⟩ (t1) (fun s2 ar2 hp2 => ?_)
  have hp2' : xd_PM s1 (xo_w ar1 50 r 0) (pa_text a) s2 ar2 := hp2
  have G3 := rf_mk G2 hp2' ⟨by omega, fun c hc => pa_ok_c ho hc⟩
  obtain ⟨w2, q3, p62, pM⟩ := hp2'
  have b47 : ar2 47 (r : Int).toNat = ar 47 r := by rw [q3.2 47 (by decide)]; exact e47
  have b51 : ar2 51 (r : Int).toNat = ar 51 r := by rw [q3.2 51 (by decide)]; exact e51
  have A3 : pa_at ar2 ((16 + r : Nat) : Int) (pa_text a) := pa_at_c A2 (q3.2 4 (by decide)) (q3.2 5 (by decide))
  have C3 := G3.2.2.2.2.2.2.1
  have Q3 := G3.2.2.2.2.2.1
  have mc := xU_makeCookies fm hmn (h0 := h0) (net := true) (blank := true) w2 C3.1 (b := ((16 + r : Nat) : Int)) (by omega) A3 ho p62 pM (by have := C3.2.1; omega)
  rw [show ((16 + r : Nat) : Int) = 16 + (r : Int) by omega, Q3.2.2.2.1] at mc
  refine xe_s (f := (33, _, _, _)) xt_g281 rfl rfl rfl rfl rfl ?_
  refine xe_mga xt_g281 rfl (q := 36) rfl (xf_13_99 fm) (by decide) rfl (by omega) ?_
  try simp only [xo_u, xo_w, Nat.reduceEqDiff, reduceIte, false_and, true_and]
  refine xe_s (f := (37, _, _, _)) xt_g281 rfl rfl rfl rfl rfl ?_
  refine xe_mal (ok := xm_isN) (ty := .int) xt_g281 rfl (q := 38) rfl (fun _ _ => ⟨rfl, rfl, rfl, rfl⟩) rfl rfl rfl (by omega) (by omega) (by omega) (by omega) ?_
  try simp only [xo_u, xo_w, Nat.reduceEqDiff, reduceIte, false_and, true_and]
  rw [b47]
  refine xe_if_eq xt_g281 rfl (t := 50) rfl (q := 41) rfl (by first | omega | exact hw.1 _ | exact hw.2 _ _ | exact xb_r _) (fun h38 => ?_) (fun h38 => ?_)
  · try simp only [xb_0, xb_1, ne_eq, Decidable.not_not, decide_eq_true_eq, decide_eq_false_iff_not] at h38
    refine xe_s (f := (51, _, _, _)) xt_g281 rfl rfl rfl rfl rfl ?_
    refine xe_bipush xt_g281 rfl (q := 53) rfl (by decide) (by decide) ?_
    refine xe_s (f := (54, _, _, _)) xt_g281 rfl rfl rfl rfl rfl ?_
    refine xe_iadd xt_g281 rfl (q := 55) rfl ?_
    refine xe_s (f := (56, _, xi 1 :: _, _)) xt_g281 rfl rfl rfl rfl rfl ?_
    refine xe_s (f := (57, _, xi 1 :: _, _)) xt_g281 rfl rfl rfl rfl rfl ?_
    refine xe_chV xt_g281 rfl (q := 60) rfl xk_13_392 rfl (by omega) xt_g285 (by decide) ⟨Nat.le_of_ble_eq_true rfl, Nat.le_of_ble_eq_true rfl, Nat.le_of_ble_eq_true rfl⟩ (mc) (fun s4 ar4 hp4 => ?_)
    have hp4' : xd_PM s2 ar2 (pa_text a ++ mk_txt (mk_going (mu_tm u) (mu_ck u) a true) false true) s4 ar4 := hp4
    have hl4 := mk_txt_l (G := mk_going (mu_tm u) (mu_ck u) a true) (sm := false) (bl := true) (fun c hc => ck_all_m C3.1 (mk_low_m _ _ hc))
    have hg4 := mk_going_len (t := mu_tm u) (a := a) (net := true) (C := mu_ck u)
    have h40 := C3.2.1
    refine fin _ s4 ar4 ?_ (rf_mk G3 hp4' ⟨by rw [List.length_append]; omega, fun c hc => ?_⟩) (xq_t q3 hp4'.2.1)
    · unfold mu_rtx
      rw [hwi, decide_eq_true (Or.inl h38), if_pos rfl]
    · rcases List.mem_append.mp hc with hc | hc
      · exact pa_ok_c ho hc
      · exact mk_txt_c (fun c hc => C3.2.2 c (mk_low_m _ _ hc)) hc
  · try simp only [xb_0, xb_1, ne_eq, Decidable.not_not, decide_eq_true_eq, decide_eq_false_iff_not] at h38
    refine xe_s (f := (42, _, _, _)) xt_g281 rfl rfl rfl rfl rfl ?_
    refine xe_mga xt_g281 rfl (q := 45) rfl (xf_13_111 fm) (by decide) rfl (by omega) ?_
    try simp only [xo_u, xo_w, Nat.reduceEqDiff, reduceIte, false_and, true_and]
    refine xe_s (f := (46, _, _, _)) xt_g281 rfl rfl rfl rfl rfl ?_
    refine xe_mal (ok := xm_isB) (ty := .boolean) xt_g281 rfl (q := 47) rfl (fun _ _ => ⟨rfl, rfl, rfl, rfl⟩) rfl rfl rfl (by omega) (by omega) (by omega) (by omega) ?_
    try simp only [xo_u, xo_w, Nat.reduceEqDiff, reduceIte, false_and, true_and]
    rw [b51]
    refine xe_if_eq xt_g281 rfl (t := 60) rfl (q := 50) rfl (by first | omega | exact hw.1 _ | exact hw.2 _ _ | exact xb_r _) (fun h47 => ?_) (fun h47 => ?_)
    · try simp only [xb_0, xb_1, ne_eq, Decidable.not_not, decide_eq_true_eq, decide_eq_false_iff_not] at h47
      refine fin (pa_text a) s2 ar2 ?_ G3 q3
      unfold mu_rtx
      rw [hwi, decide_eq_false (fun h => h.elim (fun h => h38 h) (fun h => h h47)), if_neg (by decide), List.append_nil]
    · try simp only [xb_0, xb_1, ne_eq, Decidable.not_not, decide_eq_true_eq, decide_eq_false_iff_not] at h47
      refine xe_s (f := (51, _, _, _)) xt_g281 rfl rfl rfl rfl rfl ?_
      refine xe_bipush xt_g281 rfl (q := 53) rfl (by decide) (by decide) ?_
      refine xe_s (f := (54, _, _, _)) xt_g281 rfl rfl rfl rfl rfl ?_
      refine xe_iadd xt_g281 rfl (q := 55) rfl ?_
      refine xe_s (f := (56, _, xi 1 :: _, _)) xt_g281 rfl rfl rfl rfl rfl ?_
      refine xe_s (f := (57, _, xi 1 :: _, _)) xt_g281 rfl rfl rfl rfl rfl ?_
      refine xe_chV xt_g281 rfl (q := 60) rfl xk_13_392 rfl (by omega) xt_g285 (by decide) ⟨Nat.le_of_ble_eq_true rfl, Nat.le_of_ble_eq_true rfl, Nat.le_of_ble_eq_true rfl⟩ (mc) (fun s4 ar4 hp4 => ?_)
      have hp4' : xd_PM s2 ar2 (pa_text a ++ mk_txt (mk_going (mu_tm u) (mu_ck u) a true) false true) s4 ar4 := hp4
      have hl4 := mk_txt_l (G := mk_going (mu_tm u) (mu_ck u) a true) (sm := false) (bl := true) (fun c hc => ck_all_m C3.1 (mk_low_m _ _ hc))
      have hg4 := mk_going_len (t := mu_tm u) (a := a) (net := true) (C := mu_ck u)
      have h40 := C3.2.1
      refine fin _ s4 ar4 ?_ (rf_mk G3 hp4' ⟨by rw [List.length_append]; omega, fun c hc => ?_⟩) (xq_t q3 hp4'.2.1)
      · unfold mu_rtx
        rw [hwi, decide_eq_true (Or.inr h47), if_pos rfl]
      · rcases List.mem_append.mp hc with hc | hc
        · exact pa_ok_c ho hc
        · exact mk_txt_c (fun c hc => C3.2.2 c (mk_low_m _ _ hc)) hc
end XTL
