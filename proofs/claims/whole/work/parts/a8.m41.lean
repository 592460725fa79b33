/-! the state that class and reference share, and how the reference holds it -/
abbrev mf_T : Type := Int × Int × Option pa_A
abbrev mq_T : Type := Int × Option (Int × Bool × pa_A) × Int × pa_A × Option (Option (pa_A × Bool))
abbrev ms_T : Type := Int × Int × Int × List Int
abbrev mu_T : Type := List Int × List (List Int) × Int × Int × List ck_T × (Nat → Bool) × Int × (Nat → Option mf_T) × (Nat → Option mq_T) × List pa_A × (Nat → Int) × List ms_T × List Int
def mu_ln (u : mu_T) : List Int := u.1
def mu_sf (u : mu_T) : List (List Int) := u.2.1
def mu_qt (u : mu_T) : Int := u.2.2.1
def mu_tm (u : mu_T) : Int := u.2.2.2.1
def mu_ck (u : mu_T) : List ck_T := u.2.2.2.2.1
def mu_tb (u : mu_T) : Nat → Bool := u.2.2.2.2.2.1
def mu_fo (u : mu_T) : Int := u.2.2.2.2.2.2.1
def mu_fr (u : mu_T) : Nat → Option mf_T := u.2.2.2.2.2.2.2.1
def mu_rq (u : mu_T) : Nat → Option mq_T := u.2.2.2.2.2.2.2.2.1
def mu_or (u : mu_T) : List pa_A := u.2.2.2.2.2.2.2.2.2.1
def mu_st (u : mu_T) : Nat → Int := u.2.2.2.2.2.2.2.2.2.2.1
def mu_ms (u : mu_T) : List ms_T := u.2.2.2.2.2.2.2.2.2.2.2.1
def mu_sh (u : mu_T) : List Int := u.2.2.2.2.2.2.2.2.2.2.2.2
def mu_sln (u : mu_T) (x : List Int) : mu_T := (x, u.2)
def mu_ssf (u : mu_T) (x : List (List Int)) : mu_T := (u.1, x, u.2.2)
def mu_stm (u : mu_T) (x : Int) : mu_T := (u.1, u.2.1, u.2.2.1, x, u.2.2.2.2)
def mu_sck (u : mu_T) (x : List ck_T) : mu_T := (u.1, u.2.1, u.2.2.1, u.2.2.2.1, x, u.2.2.2.2.2)
def mu_stb (u : mu_T) (x : Nat → Bool) : mu_T := (u.1, u.2.1, u.2.2.1, u.2.2.2.1, u.2.2.2.2.1, x, u.2.2.2.2.2.2)
def mu_sfo (u : mu_T) (x : Int) : mu_T := (u.1, u.2.1, u.2.2.1, u.2.2.2.1, u.2.2.2.2.1, u.2.2.2.2.2.1, x, u.2.2.2.2.2.2.2)
def mu_sfr (u : mu_T) (x : Nat → Option mf_T) : mu_T := (u.1, u.2.1, u.2.2.1, u.2.2.2.1, u.2.2.2.2.1, u.2.2.2.2.2.1, u.2.2.2.2.2.2.1, x, u.2.2.2.2.2.2.2.2)
def mu_srq (u : mu_T) (x : Nat → Option mq_T) : mu_T := (u.1, u.2.1, u.2.2.1, u.2.2.2.1, u.2.2.2.2.1, u.2.2.2.2.2.1, u.2.2.2.2.2.2.1, u.2.2.2.2.2.2.2.1, x, u.2.2.2.2.2.2.2.2.2)
def mu_sor (u : mu_T) (x : List pa_A) : mu_T := (u.1, u.2.1, u.2.2.1, u.2.2.2.1, u.2.2.2.2.1, u.2.2.2.2.2.1, u.2.2.2.2.2.2.1, u.2.2.2.2.2.2.2.1, u.2.2.2.2.2.2.2.2.1, x, u.2.2.2.2.2.2.2.2.2.2)
def mu_sst (u : mu_T) (x : Nat → Int) : mu_T := (u.1, u.2.1, u.2.2.1, u.2.2.2.1, u.2.2.2.2.1, u.2.2.2.2.2.1, u.2.2.2.2.2.2.1, u.2.2.2.2.2.2.2.1, u.2.2.2.2.2.2.2.2.1, u.2.2.2.2.2.2.2.2.2.1, x, u.2.2.2.2.2.2.2.2.2.2.2)
def mu_sms (u : mu_T) (x : List ms_T) : mu_T := (u.1, u.2.1, u.2.2.1, u.2.2.2.1, u.2.2.2.2.1, u.2.2.2.2.2.1, u.2.2.2.2.2.2.1, u.2.2.2.2.2.2.2.1, u.2.2.2.2.2.2.2.2.1, u.2.2.2.2.2.2.2.2.2.1, u.2.2.2.2.2.2.2.2.2.2.1, x, u.2.2.2.2.2.2.2.2.2.2.2.2)
def mu_ssh (u : mu_T) (x : List Int) : mu_T := (u.1, u.2.1, u.2.2.1, u.2.2.2.1, u.2.2.2.2.1, u.2.2.2.2.2.1, u.2.2.2.2.2.2.1, u.2.2.2.2.2.2.2.1, u.2.2.2.2.2.2.2.2.1, u.2.2.2.2.2.2.2.2.2.1, u.2.2.2.2.2.2.2.2.2.2.1, u.2.2.2.2.2.2.2.2.2.2.2.1, x)
def mu_up {T : Type} (f : Nat → T) (k : Nat) (v : T) (j : Nat) : T := if j = k then v else f j
theorem mu_upS {T : Type} {f : Nat → T} {k : Nat} {v : T} : mu_up f k v k = v := by
  unfold mu_up
  rw [if_pos rfl]
theorem mu_upN {T : Type} {f : Nat → T} {k j : Nat} {v : T} (h : j ≠ k) : mu_up f k v j = f j := by
  unfold mu_up
  rw [if_neg h]
/-- all slots but those stay -/
def xs_F (K : List Nat) (ar ar' : Nat → Nat → Int) : Prop := ∀ k, k < 98 → k ∉ K → ar' 5 k = ar 5 k ∧ ∀ i, i < 60 → ar' 4 (60 * k + i) = ar 4 (60 * k + i)
theorem xs_r {K : List Nat} {ar : Nat → Nat → Int} : xs_F K ar ar := fun _ _ _ => ⟨rfl, fun _ _ => rfl⟩
theorem xs_t {K : List Nat} {ar ar1 ar2 : Nat → Nat → Int} (h : xs_F K ar ar1) (h' : xs_F K ar1 ar2) : xs_F K ar ar2 := fun k hk hn => ⟨(h' k hk hn).1.trans (h k hk hn).1, fun i hi => ((h' k hk hn).2 i hi).trans ((h k hk hn).2 i hi)⟩
theorem xs_m {K K' : List Nat} {ar ar1 : Nat → Nat → Int} (h : xs_F K ar ar1) (hK : ∀ k, k ∈ K → k ∈ K') : xs_F K' ar ar1 := fun k hk hn => h k hk (fun e => hn (hK k e))
theorem xs_q {S A K : List Nat} {s s1 : Nat → Int} {ar ar1 : Nat → Nat → Int} (q : xq S A s ar s1 ar1) (h4 : 4 ∉ A) (h5 : 5 ∉ A) : xs_F K ar ar1 := fun k _ _ => ⟨by rw [q.2 5 h5], fun i _ => by rw [q.2 4 h4]⟩
theorem xs_e {K : List Nat} {ar ar1 ar2 : Nat → Nat → Int} (h : xs_F K ar ar1) (h4 : ar2 4 = ar1 4) (h5 : ar2 5 = ar1 5) : xs_F K ar ar2 := fun k hk hn => ⟨by rw [h5]; exact (h k hk hn).1, fun i hi => by rw [h4]; exact (h k hk hn).2 i hi⟩
theorem xs_4 {ar ar1 : Nat → Nat → Int} (h : xd_F4 ar ar1) : xs_F [40] ar ar1 := by
  intro k hk hn
  rw [List.mem_singleton] at hn
  exact ⟨h.2 k hn, fun i hi => h.1 _ (by omega)⟩
theorem pa_at_F {K : List Nat} {ar ar1 : Nat → Nat → Int} {k : Nat} {l : List Int} (h : pa_at ar (k : Int) l) (F : xs_F K ar ar1) (hk : k < 98) (hn : k ∉ K) : pa_at ar1 (k : Int) l := by
  obtain ⟨h1, h2, h3⟩ := h
  obtain ⟨f1, f2⟩ := F k hk hn
  refine ⟨f1.trans h1, h2, fun i hi => ?_⟩
  rw [show (60 * (k : Int)).toNat = 60 * k by omega, f2 i (by omega), ← h3 i hi, show (60 * (k : Int)).toNat = 60 * k by omega]
def rf_line (s : Nat → Int) (ar : Nat → Nat → Int) (l : List Int) : Prop := s 2 = l.length ∧ l.length ≤ 160 ∧ xh (ar 1) 0 l ∧ ∀ c, c ∈ l → 32 ≤ c ∧ c ≤ 126
def rf_qt (s : Nat → Int) (q t : Int) : Prop := s 17 = q ∧ 1 ≤ q ∧ q ≤ 40 ∧ s 18 = t ∧ 0 ≤ t ∧ t ≤ 1000000000
def ck_gd (c : ck_T) : Prop := ∀ x, x ∈ c.1 ∨ x ∈ c.2.1 → 32 ≤ x ∧ x ≤ 126
def rf_ck (s : Nat → Int) (ar : Nat → Nat → Int) (C : List ck_T) : Prop := ck_all s ar C ∧ C.length ≤ 40 ∧ ∀ c, c ∈ C → ck_gd c
def rf_tab (s : Nat → Int) (ar : Nat → Nat → Int) (tb : Nat → Bool) (fo : Int) : Prop := (∀ t, t < 4 → ar 40 t = xb (tb t)) ∧ s 41 = fo ∧ -1 ≤ fo ∧ fo < 4
def rf_f1 (ar : Nat → Nat → Int) (f : Nat) : Option mf_T → Prop
  | none => ar 42 f < 0
  | some x => ar 42 f = x.1 ∧ 0 ≤ x.1 ∧ x.1 < 4 ∧ ar 43 f = x.2.1 ∧ -1 ≤ x.2.1 ∧ x.2.1 < 16 ∧ ar 44 f = xb x.2.2.isSome ∧ ∀ a, x.2.2 = some a → pa_at ar (f : Int) (pa_text a) ∧ pa_ok a
def rf_fr (ar : Nat → Nat → Int) (fr : Nat → Option mf_T) : Prop := ∀ f, f < 16 → rf_f1 ar f (fr f) ∧ ar 45 f = 0
def rf_ft (ar : Nat → Nat → Int) (r : Nat) : Option (Int × Bool × pa_A) → Prop
  | none => ar 47 r = 0
  | some x => ar 47 r = 1 ∧ ar 48 r = x.1 ∧ 0 ≤ x.1 ∧ x.1 ≤ 2 ∧ ar 51 r = xb x.2.1 ∧ pa_at ar ((42 + r : Nat) : Int) (pa_hd x.2.2) ∧ pa_ok x.2.2
def rf_lv (ar : Nat → Nat → Int) (r : Nat) : Option (Option (pa_A × Bool)) → Prop
  | none => ar 50 r = 0
  | some none => ar 50 r = 1
  | some (some x) => ar 50 r = 2 ∧ pa_at ar ((66 + r : Nat) : Int) (pa_hd x.1) ∧ pa_ok x.1 ∧ ar 52 r = xb x.2
def rf_q1 (ar : Nat → Nat → Int) (r : Nat) : Option mq_T → Prop
  | none => ar 46 r < 0
  | some x => ar 46 r = x.1 ∧ 0 ≤ x.1 ∧ x.1 < 16 ∧ ar 49 r = x.2.2.1 ∧ 0 ≤ x.2.2.1 ∧ x.2.2.1 ≤ 5 ∧ pa_at ar ((16 + r : Nat) : Int) (pa_text x.2.2.2.1) ∧ pa_ok x.2.2.2.1 ∧ rf_ft ar r x.2.1 ∧ rf_lv ar r x.2.2.2.2
def rf_rq (ar : Nat → Nat → Int) (rq : Nat → Option mq_T) : Prop := ∀ r, r < 24 → rf_q1 ar r (rq r)
def pa_0 : pa_A := (false, [], 80, [], [])
def rf_or (s : Nat → Int) (ar : Nat → Nat → Int) (O : List pa_A) : Prop := s 53 = O.length ∧ O.length ≤ 8 ∧ ∀ k, k < O.length → pa_at ar ((90 + k : Nat) : Int) (pa_hd (O.getD k pa_0)) ∧ pa_ok (O.getD k pa_0)
def rf_st (ar : Nat → Nat → Int) (st : Nat → Int) : Prop := ∀ i, i < 64 → ar 54 i = st i
def rf_m1 (ar : Nat → Nat → Int) (k : Nat) (x : ms_T) : Prop := ar 56 k = x.1 ∧ ar 57 k = x.2.1 ∧ ar 58 k = x.2.2.1 ∧ ar 59 k = x.2.2.2.length ∧ x.2.2.2.length ≤ 200 ∧ xh (ar 60) (200 * k) x.2.2.2
def ms_0 : ms_T := (0, 0, 0, [])
def rf_ms (s : Nat → Int) (ar : Nat → Nat → Int) (M : List ms_T) : Prop := s 55 = M.length ∧ M.length ≤ 200 ∧ (∀ i, ar 59 i ≤ 200) ∧ ∀ k, k < M.length → rf_m1 ar k (M.getD k ms_0)
def rf_sh (s : Nat → Int) (ar : Nat → Nat → Int) (l : List Int) : Prop := s 64 = l.length ∧ l.length ≤ 1400 ∧ xh (ar 63) 0 l
def rf (s : Nat → Int) (ar : Nat → Nat → Int) (u : mu_T) : Prop := xo_wf s ar ∧ xo_B ar ∧ s 62 = 0 ∧ rf_line s ar (mu_ln u) ∧ sf_at s ar (mu_sf u) ∧ rf_qt s (mu_qt u) (mu_tm u) ∧ rf_ck s ar (mu_ck u) ∧ rf_tab s ar (mu_tb u) (mu_fo u) ∧ rf_fr ar (mu_fr u) ∧ rf_rq ar (mu_rq u) ∧ rf_or s ar (mu_or u) ∧ rf_st ar (mu_st u) ∧ rf_ms s ar (mu_ms u) ∧ rf_sh s ar (mu_sh u)
section XRF2
variable {S A K : List Nat} {s s1 : Nat → Int} {ar ar1 : Nat → Nat → Int}
theorem rf_no {k : Nat} {L : List Nat} (h : L.contains k = false) : k ∉ L := by
  intro e
  rw [List.contains_iff_mem.mpr e] at h
  cases h
def rf_fS (ks S : List Nat) : Bool := ks.all (fun k => !S.contains k)
theorem rf_fS_n {ks S : List Nat} (h : rf_fS ks S = true) {k : Nat} (hk : k ∈ ks) : k ∉ S := by
  have := List.all_eq_true.mp h k hk
  exact rf_no (by simpa using this)
theorem rf_k0 {l : List Int} (h : rf_line s ar l) (q : xq S A s ar s1 ar1) (hd : (rf_fS [2] S && rf_fS [1] A) = true) : rf_line s1 ar1 l := by
  rw [Bool.and_eq_true] at hd
  unfold rf_line
  rw [q.1 2 (rf_fS_n hd.1 (by decide)), q.2 1 (rf_fS_n hd.2 (by decide))]
  exact h
theorem rf_k1 {L : List (List Int)} (h : sf_at s ar L) (q : xq S A s ar s1 ar1) (hd : (rf_fS [16] S && rf_fS [14, 15] A) = true) : sf_at s1 ar1 L := by
  rw [Bool.and_eq_true] at hd
  exact sf_at_q h q (rf_fS_n hd.1 (by decide)) (rf_fS_n hd.2 (by decide)) (rf_fS_n hd.2 (by decide))
theorem rf_k2 {x t : Int} (h : rf_qt s x t) (q : xq S A s ar s1 ar1) (hd : rf_fS [17, 18] S = true) : rf_qt s1 x t := by
  unfold rf_qt
  rw [q.1 17 (rf_fS_n hd (by decide)), q.1 18 (rf_fS_n hd (by decide))]
  exact h
theorem rf_k3 {C : List ck_T} (h : rf_ck s ar C) (q : xq S A s ar s1 ar1) (hd : (rf_fS [19] S && A.all (fun k => decide (k < 20 ∨ 31 < k))) = true) : rf_ck s1 ar1 C := by
  rw [Bool.and_eq_true] at hd
  exact ⟨ck_all_q h.1 q (rf_fS_n hd.1 (by decide)) hd.2, h.2⟩
theorem rf_k4 {tb : Nat → Bool} {fo : Int} (h : rf_tab s ar tb fo) (q : xq S A s ar s1 ar1) (hd : (rf_fS [41] S && rf_fS [40] A) = true) : rf_tab s1 ar1 tb fo := by
  rw [Bool.and_eq_true] at hd
  unfold rf_tab
  rw [q.1 41 (rf_fS_n hd.1 (by decide)), q.2 40 (rf_fS_n hd.2 (by decide))]
  exact h
theorem rf_f1_k {f : Nat} {x : Option mf_T} (h : rf_f1 ar f x) (hf : f < 16) (h42 : ar1 42 f = ar 42 f) (h43 : ar1 43 f = ar 43 f) (h44 : ar1 44 f = ar 44 f) (F : xs_F K ar ar1) (hK : f ∉ K) : rf_f1 ar1 f x := by
  cases x with
  | none =>
    show ar1 42 f < 0
    rw [h42]
    exact h
  | some x =>
    obtain ⟨a1, a2, a3, a4, a5, a6, a7, a8⟩ := h
    exact ⟨h42.trans a1, a2, a3, h43.trans a4, a5, a6, h44.trans a7, fun a ha => ⟨pa_at_F (a8 a ha).1 F (by omega) hK, (a8 a ha).2⟩⟩
theorem rf_k5 {fr : Nat → Option mf_T} (h : rf_fr ar fr) (q : xq S A s ar s1 ar1) (F : xs_F K ar ar1) (hd : (rf_fS [42, 43, 44, 45] A && K.all (fun k => decide (16 ≤ k))) = true) : rf_fr ar1 fr := by
  rw [Bool.and_eq_true] at hd
  intro f hf
  have hk : f ∉ K := fun e => by
    have := of_decide_eq_true (List.all_eq_true.mp hd.2 f e)
    omega
  exact ⟨rf_f1_k (h f hf).1 hf (by rw [q.2 42 (rf_fS_n hd.1 (by decide))]) (by rw [q.2 43 (rf_fS_n hd.1 (by decide))]) (by rw [q.2 44 (rf_fS_n hd.1 (by decide))]) F hk, by rw [q.2 45 (rf_fS_n hd.1 (by decide))]; exact (h f hf).2⟩
theorem rf_q1_k {r : Nat} {x : Option mq_T} (h : rf_q1 ar r x) (hr : r < 24) (e : ∀ k, 46 ≤ k → k ≤ 52 → ar1 k r = ar k r) (F : xs_F K ar ar1) (hK : 16 + r ∉ K ∧ 42 + r ∉ K ∧ 66 + r ∉ K) : rf_q1 ar1 r x := by
  cases x with
  | none =>
    show ar1 46 r < 0
    rw [e 46 (by decide) (by decide)]
    exact h
  | some x =>
    obtain ⟨a1, a2, a3, a4, a5, a6, a7, a8, a9, a10⟩ := h
    refine ⟨(e 46 (by decide) (by decide)).trans a1, a2, a3, (e 49 (by decide) (by decide)).trans a4, a5, a6, pa_at_F a7 F (by omega) hK.1, a8, ?_, ?_⟩
    · cases hx : x.2.1 with
      | none =>
        rw [hx] at a9
        exact (e 47 (by decide) (by decide)).trans a9
      | some y =>
        rw [hx] at a9
        obtain ⟨b1, b2, b3, b4, b5, b6, b7⟩ := a9
        exact ⟨(e 47 (by decide) (by decide)).trans b1, (e 48 (by decide) (by decide)).trans b2, b3, b4, (e 51 (by decide) (by decide)).trans b5, pa_at_F b6 F (by omega) hK.2.1, b7⟩
    · cases hx : x.2.2.2.2 with
      | none =>
        rw [hx] at a10
        exact (e 50 (by decide) (by decide)).trans a10
      | some y =>
        rw [hx] at a10
        cases y with
        | none => exact (e 50 (by decide) (by decide)).trans a10
        | some z =>
          obtain ⟨b1, b2, b3, b4⟩ := a10
          exact ⟨(e 50 (by decide) (by decide)).trans b1, pa_at_F b2 F (by omega) hK.2.2, b3, (e 52 (by decide) (by decide)).trans b4⟩
theorem rf_k6 {rq : Nat → Option mq_T} (h : rf_rq ar rq) (q : xq S A s ar s1 ar1) (F : xs_F K ar ar1) (hd : (rf_fS [46, 47, 48, 49, 50, 51, 52] A && K.all (fun k => decide (k < 16 ∨ k = 40 ∨ k = 41 ∨ 90 ≤ k))) = true) : rf_rq ar1 rq := by
  rw [Bool.and_eq_true] at hd
  intro r hr
  have hk : ∀ k, k ∈ K → k < 16 ∨ k = 40 ∨ k = 41 ∨ 90 ≤ k := fun k e => of_decide_eq_true (List.all_eq_true.mp hd.2 k e)
  refine rf_q1_k (h r hr) hr (fun k h1 h2 => ?_) F ⟨fun e => ?_, fun e => ?_, fun e => ?_⟩
  · rw [q.2 k (rf_fS_n hd.1 (by simp; omega))]
  · have := hk _ e
    omega
  · have := hk _ e
    omega
  · have := hk _ e
    omega
theorem rf_k7 {O : List pa_A} (h : rf_or s ar O) (q : xq S A s ar s1 ar1) (F : xs_F K ar ar1) (hd : (rf_fS [53] S && K.all (fun k => decide (k < 90))) = true) : rf_or s1 ar1 O := by
  rw [Bool.and_eq_true] at hd
  have h8 := h.2.1
  refine ⟨(q.1 53 (rf_fS_n hd.1 (by decide))).trans h.1, h.2.1, fun k hk => ⟨pa_at_F (h.2.2 k hk).1 F (by omega) (fun e => ?_), (h.2.2 k hk).2⟩⟩
  have := of_decide_eq_true (List.all_eq_true.mp hd.2 _ e)
  omega
theorem rf_k8 {st : Nat → Int} (h : rf_st ar st) (q : xq S A s ar s1 ar1) (hd : rf_fS [54] A = true) : rf_st ar1 st := by
  intro i hi
  rw [q.2 54 (rf_fS_n hd (by decide))]
  exact h i hi
theorem rf_k9 {M : List ms_T} (h : rf_ms s ar M) (q : xq S A s ar s1 ar1) (hd : (rf_fS [55] S && rf_fS [56, 57, 58, 59, 60] A) = true) : rf_ms s1 ar1 M := by
  rw [Bool.and_eq_true] at hd
  unfold rf_ms rf_m1
  rw [q.1 55 (rf_fS_n hd.1 (by decide)), q.2 56 (rf_fS_n hd.2 (by decide)), q.2 57 (rf_fS_n hd.2 (by decide)), q.2 58 (rf_fS_n hd.2 (by decide)), q.2 59 (rf_fS_n hd.2 (by decide)), q.2 60 (rf_fS_n hd.2 (by decide))]
  exact h
theorem rf_ka {l : List Int} (h : rf_sh s ar l) (q : xq S A s ar s1 ar1) (hd : (rf_fS [64] S && rf_fS [63] A) = true) : rf_sh s1 ar1 l := by
  rw [Bool.and_eq_true] at hd
  unfold rf_sh
  rw [q.1 64 (rf_fS_n hd.1 (by decide)), q.2 63 (rf_fS_n hd.2 (by decide))]
  exact h
theorem rf_line_t {l : List Int} (h : rf_line s ar l) : 0 ≤ s 2 ∧ s 2 ≤ 160 ∧ xd_lok s ar := by
  have h1 := h.1
  have h2 := h.2.1
  refine ⟨by omega, by omega, fun k h0 hk => ?_⟩
  have := h.2.2.1 k.toNat (by omega)
  rw [Nat.zero_add] at this
  rw [this]
  exact h.2.2.2 _ (xg_mem (by omega))
def lt (l : List Int) (k : Int) : Int := if 0 ≤ k ∧ k < l.length then l.getD k.toNat 0 else 0
theorem rf_line_at {l : List Int} (h : rf_line s ar l) : xd_at s ar = lt l := by
  funext k
  unfold xd_at lt
  rw [h.1]
  split
  · rename_i hk
    have := h.2.2.1 k.toNat (by omega)
    rw [Nat.zero_add] at this
    exact this
  · rfl
end XRF2
