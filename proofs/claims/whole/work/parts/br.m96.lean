/-! what holds of frames, tabs and requests is kept -/
/-- u and u' agree in frames, tabs, focus -/
theorem mI_eq {u u' : mu_T} {dp : Nat → Nat} (I : mI u dp) (h1 : mu_fr u' = mu_fr u) (h2 : mu_rq u' = mu_rq u) (h3 : mu_tb u' = mu_tb u) (h4 : mu_fo u' = mu_fo u) : mI u' dp := by
  unfold mI
  rw [h1, h2, h3, h4]
  exact I
theorem note_fr {u : mu_T} {k a b : Int} {t : List Int} : mu_fr (mu_note u k a b t) = mu_fr u := by
  unfold mu_note
  split <;> rfl
theorem note_rq {u : mu_T} {k a b : Int} {t : List Int} : mu_rq (mu_note u k a b t) = mu_rq u := by
  unfold mu_note
  split <;> rfl
theorem note_tb {u : mu_T} {k a b : Int} {t : List Int} : mu_tb (mu_note u k a b t) = mu_tb u := by
  unfold mu_note
  split <;> rfl
theorem note_fo {u : mu_T} {k a b : Int} {t : List Int} : mu_fo (mu_note u k a b t) = mu_fo u := by
  unfold mu_note
  split <;> rfl
theorem mI_note {u : mu_T} {dp : Nat → Nat} {k a b : Int} {t : List Int} (I : mI u dp) : mI (mu_note u k a b t) dp := mI_eq I note_fr note_rq note_tb note_fo
/-- some requests go -/
theorem mI_rq {u : mu_T} {dp : Nat → Nat} {X : Nat → Option mq_T} (I : mI u dp) (h : ∀ r, r < 24 → ∀ q, X r = some q → mu_rq u r = some q) : mI (mu_srq u X) dp := by
  obtain ⟨i1, i2, i3, i4, i5, i6, i7⟩ := I
  refine ⟨i1, fun r hr q e => i2 r hr q (h r hr q e), fun r r' q q' hr hr' e e' => i3 r r' q q' hr hr' (h r hr q e) (h r' hr' q' e'), i4, i5, i6, i7⟩
theorem mI_r0 {u : mu_T} {dp : Nat → Nat} {R : Nat} (I : mI u dp) : mI (mu_srq u (mu_up (mu_rq u) R none)) dp := by
  refine mI_rq I (fun r hr q e => ?_)
  by_cases g : r = R
  · rw [g, mu_upS] at e; cases e
  · rw [mu_upN g] at e; exact e
/-- a request comes -/
theorem mI_r1 {u : mu_T} {dp : Nat → Nat} {R : Nat} {q : mq_T} (I : mI u dp) (h0 : 0 ≤ q.1 ∧ q.1 < 16 ∧ (mu_fr u q.1.toNat).isSome = true) (hn : q.2.1 = none → ∀ r, r < 24 → r ≠ R → ∀ q', mu_rq u r = some q' → q'.2.1 = none → q'.1 ≠ q.1) : mI (mu_srq u (mu_up (mu_rq u) R (some q))) dp := by
  obtain ⟨i1, i2, i3, i4, i5, i6, i7⟩ := I
  refine ⟨i1, fun r hr q1 e => ?_, fun r r' q1 q2 hr hr' e e' n1 n2 ne => ?_, i4, i5, i6, i7⟩
  · have e : mu_up (mu_rq u) R (some q) r = some q1 := e
    by_cases g : r = R
    · rw [g, mu_upS] at e; cases e; exact h0
    · rw [mu_upN g] at e; exact i2 r hr q1 e
  · have e : mu_up (mu_rq u) R (some q) r = some q1 := e
    have e' : mu_up (mu_rq u) R (some q) r' = some q2 := e'
    by_cases g : r = R
    · by_cases g' : r' = R
      · rw [g, g']
      · rw [g, mu_upS] at e
        rw [mu_upN g'] at e'
        cases e
        exact absurd ne.symm (hn n1 r' hr' g' q2 e' n2)
    · rw [mu_upN g] at e
      by_cases g' : r' = R
      · rw [g', mu_upS] at e'
        cases e'
        exact absurd ne (hn n2 r hr g q1 e n1)
      · rw [mu_upN g'] at e'
        exact i3 r r' q1 q2 hr hr' e e' n1 n2 ne
theorem mI_send {u : mu_T} {dp : Nat → Nat} {R : Nat} {q : mq_T} (I : mI u dp) (h0 : 0 ≤ q.1 ∧ q.1 < 16 ∧ (mu_fr u q.1.toNat).isSome = true) (hn : q.2.1 = none → ∀ r, r < 24 → r ≠ R → ∀ q', mu_rq u r = some q' → q'.2.1 = none → q'.1 ≠ q.1) : mI (mu_send u R q) dp := by
  unfold mu_send
  rw [← note_srq]
  exact mI_note (mI_r1 I h0 hn)
theorem nv_no {u : mu_T} {f : Int} (h : mu_nv u f < 0) : ∀ r, r < 24 → ∀ q, mu_rq u r = some q → q.2.1 = none → q.1 ≠ f := by
  have no : ∀ (N : Nat) (k : Int), xd_first (fun r => mq_nv f (mu_rq u r.toNat)) N k < 0 → 0 ≤ k → ∀ j : Int, k ≤ j → j < k + N → mq_nv f (mu_rq u j.toNat) = false := by
    intro N
    induction N with
    | zero => intro k _ _ j h1 h2; omega
    | succ N ih =>
      intro k hk h0 j h1 h2
      unfold xd_first at hk
      split at hk
      · omega
      · rename_i g
        by_cases e : j = k
        · rw [e]; simpa using g
        · exact ih (k + 1) hk (by omega) j (by omega) (by omega)
  intro r hr q e n e1
  have := no 24 0 h (by omega) r (by omega) (by omega)
  rw [Int.toNat_natCast, e] at this
  unfold mq_nv at this
  dsimp only at this
  rw [decide_eq_true e1, n] at this
  cases this
theorem go1_fr {u : mu_T} {f : Int} : mu_fr (mu_go1 u f) = mu_fr u ∧ mu_tb (mu_go1 u f) = mu_tb u ∧ mu_fo (mu_go1 u f) = mu_fo u := by
  unfold mu_go1
  split <;> exact ⟨rfl, rfl, rfl⟩
theorem mI_go1 {u : mu_T} {dp : Nat → Nat} {f : Int} (I : mI u dp) : mI (mu_go1 u f) dp ∧ ∀ r, r < 24 → ∀ q, mu_rq (mu_go1 u f) r = some q → q.2.1 = none → q.1 ≠ f := by
  unfold mu_go1
  split
  · rename_i g
    refine ⟨mI_r0 I, fun r hr q e n e1 => ?_⟩
    have e : mu_up (mu_rq u) (mu_nv u f).toNat none r = some q := e
    by_cases e2 : r = (mu_nv u f).toNat
    · rw [e2, mu_upS] at e; cases e
    · rw [mu_upN e2] at e
      have r1 := xd_first_r (p := fun j => mq_nv f (mu_rq u j.toNat)) 24 0
      have r2 : xd_first (fun j => mq_nv f (mu_rq u j.toNat)) 24 0 = mu_nv u f := rfl
      rw [r2] at r1
      rcases r1 with r1 | ⟨r3, r4, r5⟩
      · omega
      · cases e5 : mu_rq u (mu_nv u f).toNat with
        | none => rw [e5] at r5; cases r5
        | some q' =>
          rw [e5] at r5
          unfold mq_nv at r5
          dsimp only at r5
          rw [Bool.and_eq_true, decide_eq_true_eq, Option.isNone_iff_eq_none] at r5
          exact e2 (I.2.2.1 r (mu_nv u f).toNat q q' hr (by omega) e e5 n r5.2 (by rw [e1, r5.1]))
  · rename_i g
    exact ⟨I, nv_no (by omega)⟩
theorem mI_go {u : mu_T} {dp : Nat → Nat} {f : Int} {A : pa_A} (I : mI u dp) (h0 : 0 ≤ f ∧ f < 16 ∧ (mu_fr u f.toNat).isSome = true) : mI (mu_go u f A).2 dp := by
  obtain ⟨J, Jn⟩ := mI_go1 (f := f) I
  unfold mu_go
  split
  · exact J
  · exact mI_send J (by show 0 ≤ f ∧ f < 16 ∧ (mu_fr (mu_go1 u f) f.toNat).isSome = true; rw [go1_fr.1]; exact h0) (fun _ r hr _ q' e n => Jn r hr q' e n)
/-- a frame comes -/
theorem tr_new {fr : Nat → Option mf_T} {dp : Nat → Nat} {F d : Nat} {x : mf_T} (T : mi_tr fr dp) (hF : fr F = none) (h1 : 1 ≤ d ∧ d ≤ 5) (h2 : x.2.1 < 0 → d = 1) (h3 : 0 ≤ x.2.1 → x.2.1 < 16 ∧ d = dp x.2.1.toNat + 1 ∧ ∃ y, fr x.2.1.toNat = some y ∧ y.1 = x.1) : mi_tr (mu_up fr F (some x)) (mu_up dp F d) := by
  intro f hf y e
  by_cases g : f = F
  · subst g
    rw [mu_upS] at e
    cases e
    rw [mu_upS]
    refine ⟨h1.1, h1.2, h2, fun h => ?_⟩
    obtain ⟨a1, a2, z, a3, a4⟩ := h3 h
    have ne : x.2.1.toNat ≠ f := by
      intro q
      rw [q, hF] at a3
      cases a3
    exact ⟨a1, by rw [mu_upN ne]; exact a2, z, by rw [mu_upN ne]; exact a3, a4⟩
  · rw [mu_upN g] at e
    rw [mu_upN g]
    obtain ⟨b1, b2, b3, b4⟩ := T f hf y e
    refine ⟨b1, b2, b3, fun h => ?_⟩
    obtain ⟨a1, a2, z, a3, a4⟩ := b4 h
    have ne : y.2.1.toNat ≠ F := by
      intro q
      rw [q, hF] at a3
      cases a3
    exact ⟨a1, by rw [mu_upN ne]; exact a2, z, by rw [mu_upN ne]; exact a3, a4⟩
theorem mI_child {u : mu_T} {dp : Nat → Nat} {F : Nat} {f : Int} {X : mf_T} (I : mI u dp) (hF : F < 16) (eF : mu_fr u F = none) (hf : 0 ≤ f ∧ f < 16) (eX : mu_fr u f.toNat = some X) (hd : dp f.toNat < 5) : mI (mu_sfr u (mu_up (mu_fr u) F (some (X.1, f, none)))) (mu_up dp F (dp f.toNat + 1)) := by
  obtain ⟨i1, i2, i3, i4, i5, i6, i7⟩ := I
  have nF : f.toNat ≠ F := by
    intro g
    rw [g, eF] at eX
    cases eX
  refine ⟨tr_new i1 eF ⟨by omega, by omega⟩ (fun h => by dsimp only at h; omega) (fun _ => ⟨hf.2, rfl, X, eX, rfl⟩), fun r hr q e => ?_, i3, fun g hg x e => ?_, fun i hi e => ?_, fun g g' x y hg hg' e e' p p' ne => ?_, i7⟩
  · obtain ⟨a1, a2, a3⟩ := i2 r hr q e
    refine ⟨a1, a2, ?_⟩
    show (mu_up (mu_fr u) F (some (X.1, f, none)) q.1.toNat).isSome = true
    by_cases g : q.1.toNat = F
    · rw [g, mu_upS]; rfl
    · rw [mu_upN g]; exact a3
  · have e : mu_up (mu_fr u) F (some (X.1, f, none)) g = some x := e
    by_cases q : g = F
    · rw [q, mu_upS] at e
      cases e
      obtain ⟨b1, b2, b3, b4⟩ := i4 f.toNat (by omega) X eX
      exact ⟨b1, b2, by dsimp only; omega, b4⟩
    · rw [mu_upN q] at e
      exact i4 g hg x e
  · obtain ⟨f', x, h1, h2, h3, h4⟩ := i5 i hi e
    refine ⟨f', x, h1, ?_, h3, h4⟩
    show mu_up (mu_fr u) F (some (X.1, f, none)) f' = some x
    rw [mu_upN (fun g => by rw [g, eF] at h2; cases h2)]
    exact h2
  · have e : mu_up (mu_fr u) F (some (X.1, f, none)) g = some x := e
    have e' : mu_up (mu_fr u) F (some (X.1, f, none)) g' = some y := e'
    by_cases q : g = F
    · rw [q, mu_upS] at e; cases e; dsimp only at p; omega
    · by_cases q' : g' = F
      · rw [q', mu_upS] at e'; cases e'; dsimp only at p'; omega
      · rw [mu_upN q] at e
        rw [mu_upN q'] at e'
        exact i6 g g' x y hg hg' e e' p p' ne
theorem mI_open {u : mu_T} {dp : Nat → Nat} {F T : Nat} (I : mI u dp) (hF : F < 16) (eF : mu_fr u F = none) (hT : T < 4) (eT : mu_tb u T = false) : mI (mu_sfr (mu_sfo (mu_stb u (mu_up (mu_tb u) T true)) (T : Int)) (mu_up (mu_fr u) F (some ((T : Int), -1, none)))) (mu_up dp F 1) := by
  obtain ⟨i1, i2, i3, i4, i5, i6, i7⟩ := I
  refine ⟨tr_new i1 eF ⟨by omega, by omega⟩ (fun _ => rfl) (fun h => by dsimp only at h; omega), fun r hr q e => ?_, i3, fun g hg x e => ?_, fun i hi e => ?_, fun g g' x y hg hg' e e' p p' ne => ?_, fun _ => ⟨by show (T : Int) < 4; omega, ?_⟩⟩
  · obtain ⟨a1, a2, a3⟩ := i2 r hr q e
    refine ⟨a1, a2, ?_⟩
    show (mu_up (mu_fr u) F (some ((T : Int), -1, none)) q.1.toNat).isSome = true
    by_cases g : q.1.toNat = F
    · rw [g, mu_upS]; rfl
    · rw [mu_upN g]; exact a3
  · have e : mu_up (mu_fr u) F (some ((T : Int), -1, none)) g = some x := e
    show 0 ≤ x.1 ∧ x.1 < 4 ∧ -1 ≤ x.2.1 ∧ mu_up (mu_tb u) T true x.1.toNat = true
    by_cases q : g = F
    · rw [q, mu_upS] at e
      cases e
      exact ⟨by dsimp only; omega, by dsimp only; omega, by dsimp only; omega, by rw [show ((T : Int)).toNat = T from Int.toNat_natCast T, mu_upS]⟩
    · rw [mu_upN q] at e
      obtain ⟨b1, b2, b3, b4⟩ := i4 g hg x e
      refine ⟨b1, b2, b3, ?_⟩
      unfold mu_up
      split
      · rfl
      · exact b4
  · have e : mu_up (mu_tb u) T true i = true := e
    show ∃ f x, f < 16 ∧ mu_up (mu_fr u) F (some ((T : Int), -1, none)) f = some x ∧ x.1 = (i : Int) ∧ x.2.1 < 0
    by_cases q : i = T
    · exact ⟨F, ((T : Int), -1, none), hF, mu_upS, by rw [q], by dsimp only; omega⟩
    · rw [mu_upN q] at e
      obtain ⟨f', x, h1, h2, h3, h4⟩ := i5 i hi e
      exact ⟨f', x, h1, by rw [mu_upN (fun g => by rw [g, eF] at h2; cases h2)]; exact h2, h3, h4⟩
  · have e : mu_up (mu_fr u) F (some ((T : Int), -1, none)) g = some x := e
    have e' : mu_up (mu_fr u) F (some ((T : Int), -1, none)) g' = some y := e'
    have old : ∀ k z, k < 16 → mu_fr u k = some z → z.1 ≠ (T : Int) := by
      intro k z hk ez q
      have := (i4 k hk z ez).2.2.2
      rw [q, Int.toNat_natCast, eT] at this
      cases this
    by_cases q : g = F
    · by_cases q' : g' = F
      · rw [q, q']
      · rw [q, mu_upS] at e
        cases e
        rw [mu_upN q'] at e'
        exact absurd ne.symm (old g' y hg' e')
    · rw [mu_upN q] at e
      by_cases q' : g' = F
      · rw [q', mu_upS] at e'
        cases e'
        exact absurd ne (old g x hg e)
      · rw [mu_upN q'] at e'
        exact i6 g g' x y hg hg' e e' p p' ne
  · show mu_up (mu_tb u) T true ((T : Int)).toNat = true
    rw [Int.toNat_natCast, mu_upS]
/-- frames go: with each its children and requests -/
theorem mI_drop {u : mu_T} {dp : Nat → Nat} {c : Nat → Bool} (I : mI u dp) (hc : ∀ f, f < 16 → ∀ x, mu_fr u f = some x → 0 ≤ x.2.1 → c x.2.1.toNat = true → c f = true) (tb : Nat → Bool) (fo : Int) (ht : ∀ i, i < 4 → tb i = true → mu_tb u i = true ∧ ∀ f, f < 16 → ∀ x, mu_fr u f = some x → x.1 = (i : Int) → x.2.1 < 0 → c f = false) (ht2 : ∀ f, f < 16 → ∀ x, mu_fr u f = some x → c f = false → tb x.1.toNat = true) (hfo : 0 ≤ fo → fo < 4 ∧ tb fo.toNat = true) : mI (mu_sfo (mu_stb (mu_drop u c) tb) fo) dp := by
  obtain ⟨i1, i2, i3, i4, i5, i6, i7⟩ := I
  have fl : ∀ f x, mf_fl c f (mu_fr u f) = some x → mu_fr u f = some x ∧ c f = false := by
    intro f x e
    unfold mf_fl at e
    split at e
    · cases e
    · rename_i g; exact ⟨e, by simpa using g⟩
  have ql : ∀ r q, mq_fl c (mu_rq u r) = some q → mu_rq u r = some q ∧ c q.1.toNat = false := by
    intro r q e
    unfold mq_fl at e
    cases g : mu_rq u r with
    | none => rw [g] at e; cases e
    | some q' =>
      rw [g] at e
      dsimp only at e
      split at e
      · cases e
      · rename_i g2; cases e; exact ⟨rfl, by simpa using g2⟩
  refine ⟨fun f hf x e => ?_, fun r hr q e => ?_, fun r r' q q' hr hr' e e' => i3 r r' q q' hr hr' (ql r q e).1 (ql r' q' e').1, fun f hf x e => ?_, fun i hi e => ?_, fun f g x y hf hg e e' => i6 f g x y hf hg (fl f x e).1 (fl g y e').1, hfo⟩
  · obtain ⟨e1, e2⟩ := fl f x e
    obtain ⟨b1, b2, b3, b4⟩ := i1 f hf x e1
    refine ⟨b1, b2, b3, fun h => ?_⟩
    obtain ⟨a1, a2, z, a3, a4⟩ := b4 h
    refine ⟨a1, a2, z, ?_, a4⟩
    show mf_fl c x.2.1.toNat (mu_fr u x.2.1.toNat) = some z
    unfold mf_fl
    rw [if_neg]
    · exact a3
    · intro g
      rw [hc f hf x e1 h g] at e2
      cases e2
  · obtain ⟨e1, e2⟩ := ql r q e
    obtain ⟨a1, a2, a3⟩ := i2 r hr q e1
    refine ⟨a1, a2, ?_⟩
    show (mf_fl c q.1.toNat (mu_fr u q.1.toNat)).isSome = true
    unfold mf_fl
    rw [e2]
    exact a3
  · obtain ⟨e1, e2⟩ := fl f x e
    obtain ⟨b1, b2, b3, b4⟩ := i4 f hf x e1
    exact ⟨b1, b2, b3, ht2 f hf x e1 e2⟩
  · obtain ⟨h1, h2⟩ := ht i hi e
    obtain ⟨f', x, g1, g2, g3, g4⟩ := i5 i hi h1
    refine ⟨f', x, g1, ?_, g3, g4⟩
    show mf_fl c f' (mu_fr u f') = some x
    unfold mf_fl
    rw [h2 f' g1 x g2 g3 g4]
    exact g2
theorem ia_par {fr : Nat → Option mf_T} {dp : Nat → Nat} {F : Int} (T : mi_tr fr dp) {f : Nat} {x : mf_T} (hf : f < 16) (e : fr f = some x) (h0 : 0 ≤ x.2.1) (h : x.2.1 = F ∨ ia fr F 6 x.2.1 = true) : ia fr F 6 f = true := by
  rw [ia, Int.toNat_natCast, e]
  dsimp only
  rw [if_neg (by omega)]
  by_cases g : x.2.1 = F
  · rw [if_pos g]
  · rw [if_neg g]
    have h := h.resolve_left g
    obtain ⟨t1, t2, t3, t4⟩ := T f hf x e
    obtain ⟨c1, c2, y, c3, _⟩ := t4 h0
    have hh : ((x.2.1.toNat : Nat) : Int) = x.2.1 := by omega
    have h1 := ia_dp T 6 x.2.1.toNat (by omega) (by rw [hh]; exact h)
    have := ia_le h1 (5 - dp x.2.1.toNat)
    rw [hh, show dp x.2.1.toNat + (5 - dp x.2.1.toNat) = 5 by omega] at this
    exact this
theorem mI_cmf {u : mu_T} {dp : Nat → Nat} {F : Nat} {A : pa_A} {X : mf_T} (I : mI u dp) (hF : F < 16) (eX : mu_fr u F = some X) : mI (mu_sfr u (cm_fr (mu_fr u) F A)) dp := by
  obtain ⟨i1, i2, i3, i4, i5, i6, i7⟩ := I
  have ec : cm_fr (mu_fr u) F A = mu_up (mu_fr u) F (some (X.1, X.2.1, some A)) := by
    unfold cm_fr
    rw [Int.toNat_natCast, eX]
    rfl
  have up : ∀ f x, mu_up (mu_fr u) F (some (X.1, X.2.1, some A)) f = some x → ∃ y, mu_fr u f = some y ∧ y.1 = x.1 ∧ y.2.1 = x.2.1 := by
    intro f x e
    by_cases g : f = F
    · rw [g, mu_upS] at e
      cases e
      exact ⟨X, by rw [g]; exact eX, rfl, rfl⟩
    · rw [mu_upN g] at e
      exact ⟨x, e, rfl, rfl⟩
  have dn : ∀ f y, mu_fr u f = some y → ∃ x, mu_up (mu_fr u) F (some (X.1, X.2.1, some A)) f = some x ∧ y.1 = x.1 ∧ y.2.1 = x.2.1 := by
    intro f y e
    by_cases g : f = F
    · rw [g, eX] at e
      cases e
      exact ⟨(X.1, X.2.1, some A), by rw [g, mu_upS], rfl, rfl⟩
    · exact ⟨y, by rw [mu_upN g]; exact e, rfl, rfl⟩
  unfold mI
  rw [ec]
  refine ⟨fun f hf x e => ?_, fun r hr q e => ?_, i3, fun f hf x e => ?_, fun i hi e => ?_, fun f g x y hf hg e e' p p' ne => ?_, i7⟩
  · obtain ⟨y, e1, e2, e3⟩ := up f x e
    obtain ⟨b1, b2, b3, b4⟩ := i1 f hf y e1
    rw [e3] at b3 b4
    refine ⟨b1, b2, b3, fun h => ?_⟩
    obtain ⟨a1, a2, z, a3, a4⟩ := b4 h
    obtain ⟨z', c1, c2, c3⟩ := dn _ z a3
    exact ⟨a1, a2, z', c1, by rw [← c2, a4, e2]⟩
  · obtain ⟨a1, a2, a3⟩ := i2 r hr q e
    obtain ⟨y, ey⟩ := Option.isSome_iff_exists.mp a3
    obtain ⟨z', c1, _⟩ := dn _ y ey
    refine ⟨a1, a2, ?_⟩
    show (mu_up (mu_fr u) F (some (X.1, X.2.1, some A)) q.1.toNat).isSome = true
    rw [c1]
    rfl
  · obtain ⟨y, e1, e2, e3⟩ := up f x e
    have := i4 f hf y e1
    rw [e2, e3] at this
    exact this
  · obtain ⟨f', x, h1, h2, h3, h4⟩ := i5 i hi e
    obtain ⟨z', c1, c2, c3⟩ := dn _ x h2
    exact ⟨f', z', h1, c1, by rw [← c2]; exact h3, by rw [← c3]; exact h4⟩
  · obtain ⟨x', e1, e2, e3⟩ := up f x e
    obtain ⟨y', e1', e2', e3'⟩ := up g y e'
    exact i6 f g x' y' hf hg e1 e1' (by rw [e3]; exact p) (by rw [e3']; exact p') (by rw [e2, e2']; exact ne)
theorem mI_cm {u : mu_T} {dp : Nat → Nat} {F : Nat} {A : pa_A} {X : mf_T} (I : mI u dp) (hF : F < 16) (eX : mu_fr u F = some X) : mI (mu_cm u F A) dp := by
  have J := mI_cmf (A := A) I hF eX
  have J2 : mI (mu_srq (mu_sfr u (cm_fr (mu_fr u) F A)) (fun r => mq_cf F (mu_rq u r))) dp := by
    refine mI_rq J (fun r hr q e => ?_)
    have e : mq_cf F (mu_rq u r) = some q := e
    show mu_rq u r = some q
    unfold mq_cf at e
    cases g : mu_rq u r with
    | none => rw [g] at e; cases e
    | some q' =>
      rw [g] at e
      dsimp only at e
      split at e
      · cases e
      · exact e
  unfold mu_cm
  refine mI_note ?_
  have T := J2.1
  have cl : ∀ k, k < 16 → dm_cl (cm_fr (mu_fr u) F A) (cm_g (cm_fr (mu_fr u) F A) F) k = ia (cm_fr (mu_fr u) F A) F 6 k := fun k hk => dm_commit T hk (fun _ => hF)
  have top : ∀ f, f < 16 → ∀ x, cm_fr (mu_fr u) F A f = some x → x.2.1 < 0 → ia (cm_fr (mu_fr u) F A) F 6 f = false := by
    intro f hf x e h
    rw [ia, Int.toNat_natCast, e]
    dsimp only
    rw [if_pos h]
  have K := mI_drop (c := dm_cl (cm_fr (mu_fr u) F A) (cm_g (cm_fr (mu_fr u) F A) F)) J2 (fun f hf x e h0 h => by
    have e : cm_fr (mu_fr u) F A f = some x := e
    have := ((J2.1 f hf x e).2.2.2 h0).1
    rw [cl _ (by omega)] at h
    rw [cl f hf]
    refine ia_par T hf e h0 (Or.inr ?_)
    rw [show ((x.2.1.toNat : Nat) : Int) = x.2.1 by omega] at h
    exact h) (mu_tb u) (mu_fo u) (fun i hi e => ⟨e, fun f hf x e1 e2 e3 => by rw [cl f hf]; exact top f hf x e1 e3⟩) (fun f hf x e _ => (J2.2.2.2.1 f hf x e).2.2.2) J2.2.2.2.2.2.2
  exact mI_eq K rfl rfl rfl rfl
theorem mI_close {u : mu_T} {dp : Nat → Nat} {t : Int} (I : mI u dp) (ht : mu_ht u t = true) : mI (mu_close u t) dp := by
  unfold mu_close
  rw [if_pos ht]
  have ht' := ht
  unfold mu_ht at ht'
  rw [Bool.and_eq_true, decide_eq_true_eq] at ht'
  obtain ⟨X, p1, p2, p3, p4, p5⟩ := tp_is I (i := t.toNat) (by omega) ht'.2
  rw [show ((t.toNat : Nat) : Int) = t by omega] at p1 p2 p3 p4
  have cl : ∀ k, k < 16 → dm_cl (mu_fr u) (mu_up (fun _ => false) (mu_tp u t).toNat true) k = (decide (k = (mu_tp u t).toNat) || ia (mu_fr u) (mu_tp u t).toNat 6 k) := fun k hk => dm_close I.1 hk
  have top : ∀ f, f < 16 → ∀ x, mu_fr u f = some x → x.2.1 < 0 → ia (mu_fr u) (mu_tp u t).toNat 6 f = false := by
    intro f hf x e h
    rw [ia, Int.toNat_natCast, e]
    dsimp only
    rw [if_pos h]
  -- all frames of the tab lie inside its top
  have ins : ∀ (m f : Nat) (x : mf_T), dp f ≤ m → f < 16 → mu_fr u f = some x → x.1 = t → f = (mu_tp u t).toNat ∨ ia (mu_fr u) (mu_tp u t).toNat 6 f = true := by
    intro m
    induction m with
    | zero => intro f x h1 hf e _; have := (I.1 f hf x e).1; omega
    | succ m ih =>
      intro f x h1 hf e ex
      by_cases q : x.2.1 < 0
      · exact Or.inl (I.2.2.2.2.2.1 f (mu_tp u t).toNat x X hf (by omega) e p3 q p5 (by rw [ex, p4]))
      · obtain ⟨c1, c2, y, c3, c4⟩ := (I.1 f hf x e).2.2.2 (by omega)
        refine Or.inr (ia_par I.1 hf e (by omega) ?_)
        rcases ih x.2.1.toNat y (by omega) (by omega) c3 (by rw [c4, ex]) with g | g
        · exact Or.inl (by omega)
        · rw [show ((x.2.1.toNat : Nat) : Int) = x.2.1 by omega] at g; exact Or.inr g
  refine mI_drop I (fun f hf x e h0 h => ?_) _ _ (fun i hi e => ?_) (fun f hf x e h => ?_) (fun h0 => ?_)
  · have := ((I.1 f hf x e).2.2.2 h0).1
    rw [cl _ (by omega)] at h
    rw [cl f hf, ia_par I.1 hf e h0, Bool.or_true]
    rcases Bool.or_eq_true _ _ ▸ h with h | h
    · exact Or.inl (by have := of_decide_eq_true h; omega)
    · rw [show ((x.2.1.toNat : Nat) : Int) = x.2.1 by omega] at h; exact Or.inr h
  · by_cases g : i = t.toNat
    · rw [g, mu_upS] at e; cases e
    · rw [mu_upN g] at e
      refine ⟨e, fun f hf x e1 e2 e3 => ?_⟩
      rw [cl f hf, top f hf x e1 e3, Bool.or_false, decide_eq_false]
      intro q
      rw [q, p3] at e1
      cases e1
      omega
  · rw [cl f hf, Bool.or_eq_false_iff, decide_eq_false_iff_not] at h
    by_cases g : x.1 = t
    · rcases ins (dp f) f x (Nat.le_refl _) hf e g with q | q
      · exact absurd q h.1
      · rw [h.2] at q; cases q
    · have := I.2.2.2.1 f hf x e
      rw [mu_upN (by omega)]
      exact this.2.2.2
  · have i7 := I.2.2.2.2.2.2
    split at h0
    · omega
    · rename_i g
      have := i7 h0
      rw [if_neg g]
      exact ⟨this.1, by rw [mu_upN (by omega)]; exact this.2⟩
section XBR
variable {fm : Value} {w w' w1 w2 : kW} {s s' s1 s2 : Nat → Int} {p p' p1 p2 : Nat → Nat} {ar ar' : Nat → Nat → Option Nat} {v : Nat → Int} {h h' h1 h2 : xm_H} {n n' n1 n2 r k k' u' u1 u2 x y a b R : Nat} {l D : List Int} {L : List (List Int)} {A B : pa_A} {q : mq_T} {t t' t1 t2 : Nat → List Int} {kc kc' kc1 kc2 : Nat → Nat} {u : mu_T} {dp : Nat → Nat} {fx : Nat → Option Nat} {m : ms_T} {M : List ms_T} {O : List pa_A} {fr : Nat → Option mf_T} {rq : Nat → Option mq_T} {F fo G go d : Nat} {X Y : mf_T}
/-- frames are dropped -/
theorem cB_dr (H : cB w s p ar v h n u dp 24) (I : mI u dp) {c tb : Nat → Bool} {f7 : Int} (h3 : ∀ f, f < 16 → ar' 3 f = if c f = true then none else ar 3 f) (hq : rqL w ar' (ar 3) h n (fun r => mq_fl c (mu_rq u r)) 24) (ho : ∀ k, k ≠ 2 → k ≠ 3 → k ≠ 4 → ar' k = ar k) (hc : ∀ f, f < 16 → ∀ x, mu_fr u f = some x → 0 ≤ x.2.1 → c x.2.1.toNat = true → c f = true) (hs : ∀ k, k ≠ 7 → s' k = s k) (h7 : s' 7 = f7) (ht : tpL ar' (mu_sfo (mu_stb (mu_drop u c) tb) f7)) : cB w s' p ar' v h n (mu_sfo (mu_stb (mu_drop u c) tb) f7) dp 24 := by
  obtain ⟨a1, a2, a3, a4, a5, a6, a7, a8, a9, a10, a11, a12, a13⟩ := H
  refine ⟨a1, a2, msL_kp a3 kp_refl (hs 6 (by decide)) (ho 1 (by decide) (by decide) (by decide)), h7, sfL_kp a5 kp_refl (hs 15 (by decide)) (ho 5 (by decide) (by decide) (by decide)), (hs 12 (by decide)).trans a6, (hs 14 (by decide)).trans a7, ckL_kp a8 kp_refl (hs 13 (by decide)) (ho 6 (by decide) (by decide) (by decide)), ht, fun f hf => ?_, fun r hr hr' => ?_, orL_kp a12 kp_refl (hs 11 (by decide)) (ho 0 (by decide) (by decide) (by decide)), a13⟩
  · show (mf_fl c f (mu_fr u f) = none → ar' 3 f = none) ∧ ∀ x, mf_fl c f (mu_fr u f) = some x → ∃ r, ar' 3 f = some r ∧ frO w h n (ar' 3) f x (dp f) r
    unfold mf_fl
    rw [h3 f hf]
    cases ec : c f with
    | true => exact ⟨fun _ => rfl, fun x e => by cases e⟩
    | false =>
      refine ⟨(a10 f hf).1, fun x e => ?_⟩
      have e : mu_fr u f = some x := e
      obtain ⟨r, b1, ad, b2, b3⟩ := (a10 f hf).2 x e
      refine ⟨r, b1, ad, ?_, b3⟩
      by_cases g : x.2.1 < 0
      · rw [if_pos g] at b2 ⊢; exact b2
      · rw [if_neg g] at b2 ⊢
        have := ((I.1 f hf x e).2.2.2 (by omega)).1
        rw [h3 x.2.1.toNat (by omega), if_neg]
        · exact b2
        · intro g2
          rw [hc f hf x e (by omega) g2] at ec
          cases ec
  · have g := hq r hr hr'
    dsimp only at g
    show (mq_fl c (mu_rq u r) = none → ar' 4 r = none) ∧ ∀ q, mq_fl c (mu_rq u r) = some q → ∃ y, ar' 4 r = some y ∧ rqO w h n (ar' 3) r q y
    refine ⟨g.1, fun q e => ?_⟩
    obtain ⟨y, b1, fo, ad, ak, lf, la, lw, b2, b3, b4, b5, b6, b7⟩ := g.2 q e
    refine ⟨y, b1, fo, ad, ak, lf, la, lw, b2, b3, b4, b5, ?_, b7⟩
    have hq2 : mu_rq u r = some q ∧ c q.1.toNat = false := by
      unfold mq_fl at e
      cases g : mu_rq u r with
      | none => rw [g] at e; cases e
      | some q' =>
        rw [g] at e
        dsimp only at e
        split at e
        · cases e
        · rename_i g2; cases e; exact ⟨rfl, by simpa using g2⟩
    have := I.2.1 r hr q hq2.1
    rw [h3 q.1.toNat (by omega), hq2.2, if_neg (by decide)]
    exact b6
theorem frF_of (H : frL w ar (ar 3) h n fr dp) : frF w (ar 3) h n fr dp := H
/-- close -/
theorem c163 (S : cS w s p ar v h n t kc u dp) (I : mI u dp) (G : mG u) {z : Int} (e : mu_ht u z = true) : xN fm 163 (ko w s p ar v h) n [.ref 44, xi z] (fun h' n' u' => cR 0 0 h n kc h' n' u' (mu_close u z) dp) := by
  obtain ⟨K, H, S1, S2, S3⟩ := S
  have W0 := K.1.1
  obtain ⟨X, fo, z0, z1, t0, t1', eX, e2, e3, HO⟩ := at_tp H I e
  have fo_r := G.2.2.2.2
  have H' := H
  obtain ⟨a1, a2, a3, a4, a5, a6, a7, a8, a9, a10, a11, a12, a13⟩ := H
  have zt := e
  unfold mu_ht at zt
  rw [Bool.and_eq_true, decide_eq_true_eq] at zt
  generalize hF : (mu_tp u z).toNat = F at eX e3 HO
  have hF16 : F < 16 := by omega
  have HI : rqI (mu_fr u) (mu_rq u) := I.2.1
  have px : X.2.1 < 0 ∧ X.1 = z := by
    obtain ⟨X', q1, q2, q3, q4, q5⟩ := tp_is I (i := z.toNat) (by omega) zt.2
    rw [show ((z.toNat : Nat) : Int) = z by omega] at q3 q4
    rw [hF, eX] at q3
    cases q3
    exact ⟨q5, q4⟩
  have HIi : rqI (mu_fr u) (fun r => mq_fl (dc (mu_fr u) F 16) (mu_rq u r)) := by
    intro r hr q hq
    refine HI r hr q ?_
    have hq : mq_fl (dc (mu_fr u) F 16) (mu_rq u r) = some q := hq
    unfold mq_fl at hq
    cases g : mu_rq u r with
    | none => rw [g] at hq; cases hq
    | some q' =>
      rw [g] at hq
      dsimp only at hq
      split at hq
      · cases hq
      · exact hq
  have cl : ∀ k, k < 16 → dm_cl (mu_fr u) (mu_up (fun _ => false) F true) k = (decide (k = F) || dc (mu_fr u) F 16 k) := by
    intro k hk
    rw [dm_close I.1 hk]
    unfold dc
    rw [decide_eq_true hk, Bool.true_and]
  have ec : mu_close u z = mu_sfo (mu_stb (mu_drop u (dm_cl (mu_fr u) (mu_up (fun _ => false) F true))) (mu_up (mu_tb u) z.toNat false)) (if mu_fo u = z then -1 else mu_fo u) := by
    unfold mu_close
    rw [if_pos e, hF]
  have fin : ∀ (ar2 : Nat → Nat → Option Nat) (s2 : Nat → Int), (∀ j, j ≠ 3 → j ≠ 4 → ar2 j = ar j) → (∀ f, f < 16 → ar2 3 f = va_up (fun f => if dc (mu_fr u) F 16 f = true then none else ar 3 f) F none f) → rqL w ar2 (ar 3) h n (fun r => mq_no F (mq_fl (dc (mu_fr u) F 16) (mu_rq u r))) 24 → (∀ k, k ≠ 7 → s2 k = s k) → s2 7 = (if mu_fo u = z then -1 else mu_fo u) → cR 0 0 h n kc (ko w s2 p (aw ar2 2 z.toNat none) v h) n 0 (mu_close u z) dp := by
    intro ar2 s2 f1 f2 HQ2 g1 g2
    have f3 : ∀ f, f < 16 → aw ar2 2 z.toNat none 3 f = if dm_cl (mu_fr u) (mu_up (fun _ => false) F true) f = true then none else ar 3 f := by
      intro f hf
      rw [aw_n (by decide), f2 f hf, cl f hf]
      by_cases g : f = F
      · rw [g, va_up_s, decide_eq_true rfl, Bool.true_or, if_pos rfl]
      · rw [va_up_n g, decide_eq_false g, Bool.false_or]
    rw [ec]
    refine ⟨w, s2, p, _, v, h, t, kc, rfl, RU_0, K, ?_, S1, S2, S3⟩
    refine cB_dr H' I f3 ?_ (fun k h2 h3 h4 => (aw_n h2).trans (f1 k h3 h4)) ?_ g1 g2 ?_
    · intro r hr hr'
      have g := HQ2 r hr hr'
      dsimp only at g ⊢
      rw [aw_n (show (4 : Nat) ≠ 2 by decide)]
      rw [mq_fl_no (fun q hq => (HI r hr q hq).1)] at g
      rw [mq_fl_c (c' := fun k => decide (k = F) || dc (mu_fr u) F 16 k) (fun q hq => cl _ (by have := HI r hr q hq; omega))]
      exact g
    · intro f hf x ex h0 hcx
      have := ((I.1 f hf x ex).2.2.2 h0).1
      rw [cl _ (by omega)] at hcx
      rw [dm_close I.1 hf, ia_par I.1 hf ex h0, Bool.or_true]
      rcases Bool.or_eq_true _ _ ▸ hcx with g | g
      · exact Or.inl (by have := of_decide_eq_true g; omega)
      · unfold dc at g
        rw [Bool.and_eq_true, show ((x.2.1.toNat : Nat) : Int) = x.2.1 by omega] at g
        exact Or.inr g.2
    · intro i hi
      show aw ar2 2 z.toNat none 2 i = if mu_up (mu_tb u) z.toNat false i = true then aw ar2 2 z.toNat none 3 (xd_first (fun f => mf_tp i (mf_fl (dm_cl (mu_fr u) (mu_up (fun _ => false) F true)) f.toNat (mu_fr u f.toNat))) 16 0).toNat else none
      rw [aw_s]
      by_cases g : i = z.toNat
      · rw [g, va_up_s, mu_upS, if_neg (by decide)]
      · rw [va_up_n g, mu_upN g, f1 2 (by decide) (by decide), a9 i hi]
        by_cases gt : mu_tb u i = true
        · rw [if_pos gt, if_pos gt]
          have ef : xd_first (fun f => mf_tp i (mf_fl (dm_cl (mu_fr u) (mu_up (fun _ => false) F true)) f.toNat (mu_fr u f.toNat))) 16 0 = mu_tp u i := by
            refine xd_first_c 16 0 (fun j j0 j1 => ?_)
            show mf_tp i (mf_fl _ j.toNat (mu_fr u j.toNat)) = mf_tp i (mu_fr u j.toNat)
            unfold mf_fl
            split
            · rename_i g9
              rw [dm_close I.1 (by omega)] at g9
              cases ej : mu_fr u j.toNat with
              | none => rfl
              | some xx =>
                show false = decide (xx.1 = (i : Int) ∧ xx.2.1 < 0)
                rw [decide_eq_false]
                rintro ⟨q1, q2⟩
                rcases Bool.or_eq_true _ _ ▸ g9 with g9 | g9
                · have := of_decide_eq_true g9
                  rw [this, eX] at ej
                  cases ej
                  have := px.2
                  omega
                · rw [ia, Int.toNat_natCast, ej] at g9
                  dsimp only at g9
                  rw [if_pos q2] at g9
                  cases g9
            · rfl
          rw [ef]
          obtain ⟨X', q1, q2, q3, q4, q5⟩ := tp_is I hi gt
          rw [f3 _ (by omega), dm_close I.1 (by omega), if_neg]
          intro g9
          rcases Bool.or_eq_true _ _ ▸ g9 with g9 | g9
          · have := of_decide_eq_true g9
            rw [this, eX] at q3
            cases q3
            have := px.2
            omega
          · rw [ia, Int.toNat_natCast, q3] at g9
            dsimp only at g9
            rw [if_pos q5] at g9
            cases g9
        · rw [if_neg gt, if_neg gt]
  unfold xN
  refine xe_s (f := (1, _, _, _)) xt_g163 rfl rfl rfl rfl rfl ?_
  refine xe_s (f := (2, _, _, _)) xt_g163 rfl rfl rfl rfl rfl ?_
  refine xe_cR xt_g163 rfl rfl rfl (q := 5) rfl (kc_V xk_0_149 rfl (ko_44) (by omega) rfl rfl) xt_g164 (by decide) ⟨Nat.le_of_ble_eq_true rfl, Nat.le_of_ble_eq_true rfl, Nat.le_of_ble_eq_true rfl⟩ (k164 (by omega) ⟨z0, z1⟩ e2) ?_
  refine xe_s (f := (6, [(2, _), (0, _), (1, _)], _, _)) xt_g163 rfl rfl rfl rfl rfl ?_
  refine xe_s (f := (7, _, _, _)) xt_g163 rfl rfl rfl rfl rfl ?_
  refine xe_s (f := (8, _, _, _)) xt_g163 rfl rfl rfl rfl rfl ?_
  refine xe_cN xt_g163 rfl rfl rfl (q := 11) rfl (kc_V xk_0_153 rfl (ko_44) (by omega) rfl rfl) xt_g165 (by decide) ⟨Nat.le_of_ble_eq_true rfl, Nat.le_of_ble_eq_true rfl, Nat.le_of_ble_eq_true rfl⟩ (k165 (fx := ar 3) (by omega) a10 I.1 HI a11 hF16 e3 HO (fun _ _ => rfl)) (fun h2' n2 c2 u2 hp => ?_)
  obtain ⟨e5, e6, ar2, rfl, f1, f2, HQ2⟩ := hp
  rw [e5, e6]
  refine xe_s (f := (12, _, _, _)) xt_g163 rfl rfl rfl rfl rfl ?_
  refine xe_s (f := (13, _, _, _)) xt_g163 rfl rfl rfl rfl rfl ?_
  refine xe_cN xt_g163 rfl rfl rfl (q := 16) rfl (kc_V xk_0_157 rfl (ko_44) (by omega) rfl rfl) xt_g167 (by decide) ⟨Nat.le_of_ble_eq_true rfl, Nat.le_of_ble_eq_true rfl, Nat.le_of_ble_eq_true rfl⟩ (k167 (fx := ar 3) (by omega) a10 HIi HQ2 hF16 e3 HO) (fun h3' n3 c3 u3 hq => ?_)
  obtain ⟨e7, e8, ar3, rfl, f3, f4, HQ3⟩ := hq
  rw [e7, e8]
  have g3 : ∀ f, f < 16 → ar3 3 f = va_up (fun f => if dc (mu_fr u) F 16 f = true then none else ar 3 f) F none f := by
    intro f hf
    rw [f4 f]
    by_cases g : f = F
    · rw [g, va_up_s, va_up_s]
    · rw [va_up_n g, va_up_n g, f2 f hf]
  have g4 : ∀ j, j ≠ 3 → j ≠ 4 → ar3 j = ar j := fun j h3 h4 => (f3 j h3 h4).trans (f1 j h3 h4)
  refine xe_s (f := (17, _, _, _)) xt_g163 rfl rfl rfl rfl rfl ?_
  refine xe_gf xt_g163 rfl (q := 20) rfl (xf_0_41 fm) (ko_44) (by omega) rfl rfl ?_
  refine xe_s (f := (21, _, _, _)) xt_g163 rfl rfl rfl rfl rfl ?_
  refine xe_s (f := (22, _, _, _)) xt_g163 rfl rfl rfl rfl rfl ?_
  refine xe_kn_56 xt_g163 rfl (q := 23) rfl (by omega) (by omega) (by omega) ?_
  refine xe_s (f := (24, _, _, _)) xt_g163 rfl rfl rfl rfl rfl ?_
  refine xe_gf xt_g163 rfl (q := 27) rfl (xf_0_54 fm) (ko_44) (by omega) rfl rfl ?_
  rw [a4]
  refine xe_s (f := (28, _, _, _)) xt_g163 rfl rfl rfl rfl rfl ?_
  refine xe_ic_ne xt_g163 rfl (t := 36) rfl (q := 31) rfl (by first | omega | exact xb_r _) (by first | omega | exact xb_r _) (fun b28 => ?_) (fun b28 => ?_)
  · try simp only [xb_0, xb_1, ne_eq, Decidable.not_not, Bool.not_eq_false, Bool.not_eq_true, decide_eq_true_eq, decide_eq_false_iff_not] at b28
    refine xe_ret xt_g163 rfl rfl ?_
    try dsimp only
    exact ⟨rfl, fin ar3 s g4 g3 HQ3 (fun _ _ => rfl) (by rw [a4, if_neg b28])⟩
  · try simp only [xb_0, xb_1, ne_eq, Decidable.not_not, Bool.not_eq_false, Bool.not_eq_true, decide_eq_true_eq, decide_eq_false_iff_not] at b28
    refine xe_s (f := (32, _, _, _)) xt_g163 rfl rfl rfl rfl rfl ?_
    refine xe_s (f := (33, _, xi (-1) :: _, _)) xt_g163 rfl rfl rfl rfl rfl ?_
    refine xe_kp_0_10 xt_g163 rfl (q := 36) rfl (xf_0_54 fm) (by omega) ?_
    refine xe_ret xt_g163 rfl rfl ?_
    try dsimp only
    exact ⟨rfl, fin ar3 _ g4 g3 HQ3 (fun k hk => xo_uN hk) (by rw [xo_uS, if_pos b28])⟩
end XBR
