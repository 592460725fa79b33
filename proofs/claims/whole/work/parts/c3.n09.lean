/-! what holds of the state by itself is kept by every call -/
section XC3
variable {s : Nat → Int} {ar : Nat → Nat → Int} {u : mu_T} {dp : Nat → Nat}
theorem mG_rf (h : rf s ar u) : mG u := by
  obtain ⟨a1, a2, a3, a4, a5, a6, a7, a8, _⟩ := h
  exact ⟨a4.2.1, a7.2.1, ⟨a6.2.1, a6.2.2.1⟩, ⟨a6.2.2.2.2.1, a6.2.2.2.2.2⟩, ⟨a8.2.2.1, a8.2.2.2⟩⟩
theorem mI_sln {l : List Int} (I : mI u dp) : mI (mu_sln u l) dp := mI_eq I rfl rfl rfl rfl
theorem mI_refuse {f z : Int} (I : mI u dp) : mI (mu_refuse u f z) dp := mI_sln (mI_note I)
theorem if_is {f : Int} (e : mu_if u f = true) : 0 ≤ f ∧ f < 16 ∧ (mu_fr u f.toNat).isSome = true := by
  unfold mu_if at e
  rw [Bool.and_eq_true, decide_eq_true_eq] at e
  exact ⟨e.1.1, e.1.2, e.2⟩
theorem ir_is {f : Int} (e : mu_ir u f = true) : 0 ≤ f ∧ f < 24 ∧ (mu_rq u f.toNat).isSome = true := by
  unfold mu_ir at e
  rw [Bool.and_eq_true, decide_eq_true_eq] at e
  exact ⟨e.1.1, e.1.2, e.2⟩
theorem ht_is {f : Int} (e : mu_ht u f = true) : 0 ≤ f ∧ f < 4 ∧ mu_tb u f.toNat = true := by
  unfold mu_ht at e
  rw [Bool.and_eq_true, decide_eq_true_eq] at e
  exact ⟨e.1.1, e.1.2, e.2⟩
theorem ht_tp (I : mI u dp) {f : Int} (e : mu_ht u f = true) : 0 ≤ mu_tp u f ∧ mu_tp u f < 16 ∧ (mu_fr u (mu_tp u f).toNat).isSome = true := by
  obtain ⟨h0, h1, h2⟩ := ht_is e
  obtain ⟨X, e1, e2, e3, e4, e5⟩ := tp_is I (i := f.toNat) (by omega) h2
  rw [show ((f.toNat : Nat) : Int) = f by omega] at e1 e2 e3
  exact ⟨e1, e2, by rw [e3]; rfl⟩
theorem fo_ht (I : mI u dp) (h : 0 ≤ mu_fo u) : mu_ht u (mu_fo u) = true := by
  obtain ⟨a, b⟩ := I.2.2.2.2.2.2 h
  unfold mu_ht
  rw [decide_eq_true (show 0 ≤ mu_fo u ∧ mu_fo u < 4 from ⟨h, a⟩), b]
  rfl
theorem fo_tp (I : mI u dp) (h : 0 ≤ mu_fo u) : 0 ≤ mu_tp u (mu_fo u) := (ht_tp I (fo_ht I h)).1
theorem rq_fr (I : mI u dp) : ∀ r q, r < 24 → mu_rq u r = some q → ∃ x, mu_fr u q.1.toNat = some x := fun r q hr e => Option.isSome_iff_exists.mp (I.2.1 r hr q e).2.2
theorem mI_type {W : Int64} (I : mI u dp) : mI (mu_type u W).2 dp := by
  unfold mu_type
  split
  · exact mI_sln I
  · exact I
theorem mI_suffix (I : mI u dp) : mI (mu_suffix u).2 dp := mI_eq I rfl rfl rfl rfl
theorem mI_pass {z : Int} (I : mI u dp) : mI (mu_pass u z).2 dp := by
  unfold mu_pass
  split
  · exact I
  · exact mI_eq I rfl rfl rfl rfl
theorem mI_focus {z : Int} (I : mI u dp) (e : mu_ht u z = true) : mI (mu_sfo u z) dp := by
  obtain ⟨h0, h1, h2⟩ := ht_is e
  obtain ⟨i1, i2, i3, i4, i5, i6, i7⟩ := I
  exact ⟨i1, i2, i3, i4, i5, i6, fun _ => ⟨h1, h2⟩⟩
theorem mI_enter (I : mI u dp) : mI (mu_enter u).2 dp := by
  unfold mu_enter
  split
  · exact mI_sln I
  · split
    · rename_i g
      exact mI_go (mI_sln I) (ht_tp I (fo_ht I g))
    · exact mI_sln I
theorem mI_mopen (I : mI u dp) : mI (mu_open u).2 (if (mu_open u).1 < 0 then dp else mu_up dp (mu_ff u).toNat 1) := by
  have t1 := xd_first_r (p := fun t => !mu_tb u t.toNat) 4 0
  have t2 : xd_first (fun t => !mu_tb u t.toNat) 4 0 = mu_ft u := rfl
  rw [t2] at t1
  have f1 := xd_first_r (p := fun f => (mu_fr u f.toNat).isNone) 16 0
  have f2 : xd_first (fun f => (mu_fr u f.toNat).isNone) 16 0 = mu_ff u := rfl
  rw [f2] at f1
  cases er : mu_res u none with
  | none =>
    have eo : mu_open u = (-1, mu_sln u []) := by unfold mu_open; rw [er]
    rw [eo]
    exact mI_sln I
  | some A =>
    by_cases c : mu_ft u < 0 ∨ mu_ff u < 0 ∨ mu_fq u < 0
    · have eo : mu_open u = (-1, mu_sln u []) := by unfold mu_open; rw [er]; dsimp only; rw [if_pos c]
      rw [eo]
      exact mI_sln I
    · have eo : mu_open u = (mu_ft u, mu_open2 (mu_sln u []) (mu_ft u) (mu_ff u) A) := by unfold mu_open; rw [er]; dsimp only; rw [if_neg c]
      rw [eo]
      dsimp only
      rw [if_neg (show ¬ mu_ft u < 0 by omega)]
      have tb0 : mu_tb u (mu_ft u).toNat = false := by
        rcases t1 with g | ⟨_, _, g⟩
        · omega
        · simpa using g
      have fr0 : mu_fr u (mu_ff u).toNat = none := by
        rcases f1 with g | ⟨_, _, g⟩
        · omega
        · exact Option.isNone_iff_eq_none.mp g
      have g := mI_open (mI_sln (l := []) I) (F := (mu_ff u).toNat) (T := (mu_ft u).toNat) (by omega) fr0 (by omega) tb0
      rw [show (((mu_ft u).toNat : Nat) : Int) = mu_ft u by omega] at g
      unfold mu_open2
      refine mI_go g ⟨by omega, by omega, ?_⟩
      show (mu_up (mu_fr u) (mu_ff u).toNat (some (mu_ft u, -1, none)) (mu_ff u).toNat).isSome = true
      rw [mu_upS]
      rfl
theorem mI_mchild (I : mI u dp) {f : Int} (e : mu_if u f = true) : mI (mu_child u f).2 (if (mu_child u f).1 < 0 then dp else mu_up dp (mu_ff u).toNat (dp f.toNat + 1)) := by
  obtain ⟨h0, h1, h2⟩ := if_is e
  obtain ⟨X, eX⟩ := Option.isSome_iff_exists.mp h2
  have f1 := xd_first_r (p := fun f => (mu_fr u f.toNat).isNone) 16 0
  have f2 : xd_first (fun f => (mu_fr u f.toNat).isNone) 16 0 = mu_ff u := rfl
  rw [f2] at f1
  have dd := I.1 f.toNat (by omega) X eX
  have edp : mu_dep (mu_fr u) 6 f = dp f.toNat := by
    have g := mu_dep_eq I.1 6 f.toNat X (by omega) eX (by have := dd.2.1; omega)
    rw [show ((f.toNat : Nat) : Int) = f by omega] at g
    exact g
  by_cases c : mu_ad u f = none ∨ mu_dep (mu_fr u) 6 f = 5
  · have eo : mu_child u f = (-1, mu_refuse u f 2) := by unfold mu_child; rw [if_pos e, if_pos c]
    rw [eo]
    exact mI_refuse I
  · cases er : mu_res u (mu_ad u f) with
    | none =>
      have eo : mu_child u f = (-1, mu_refuse u f 1) := by unfold mu_child; rw [if_pos e, if_neg c, er]
      rw [eo]
      exact mI_refuse I
    | some A =>
      by_cases c2 : mu_ff u < 0 ∨ mu_fq u < 0
      · have eo : mu_child u f = (-1, mu_refuse u f 3) := by unfold mu_child; rw [if_pos e, if_neg c, er]; dsimp only; rw [if_pos c2]
        rw [eo]
        exact mI_refuse I
      · have eo : mu_child u f = (mu_ff u, (mu_go (mu_sfr (mu_sln u []) (mu_up (mu_fr u) (mu_ff u).toNat (some ((mf_pt (mu_fr u f.toNat)).1, f, none)))) (mu_ff u) A).2) := by unfold mu_child; rw [if_pos e, if_neg c, er]; dsimp only; rw [if_neg c2]
        rw [eo]
        dsimp only
        rw [if_neg (show ¬ mu_ff u < 0 by omega)]
        have fr0 : mu_fr u (mu_ff u).toNat = none := by
          rcases f1 with g | ⟨_, _, g⟩
          · omega
          · exact Option.isNone_iff_eq_none.mp g
        have d5 : dp f.toNat < 5 := by
          have c' := fun g => c (Or.inr g)
          rw [edp] at c'
          have := dd.2.1
          omega
        have g := mI_child (mI_sln (l := []) I) (F := (mu_ff u).toNat) (by omega) fr0 ⟨h0, h1⟩ eX d5
        have ept : (mf_pt (mu_fr u f.toNat)).1 = X.1 := by rw [eX]; rfl
        rw [ept]
        refine mI_go g ⟨by omega, by omega, ?_⟩
        show (mu_up (mu_fr u) (mu_ff u).toNat (some (X.1, f, none)) (mu_ff u).toNat).isSome = true
        rw [mu_upS]
        rfl
theorem mI_nav (I : mI u dp) {f g : Int} : mI (mu_nav u f g).2 dp := by
  unfold mu_nav
  split
  · rename_i e
    rw [Bool.and_eq_true] at e
    split
    · exact mI_refuse I
    · split
      · exact mI_refuse I
      · split
        · exact mI_refuse (mI_go I (if_is e.2))
        · exact mI_sln (mI_go I (if_is e.2))
  · exact mI_sln I
theorem mI_fetch (I : mI u dp) {f z : Int} {wi : Bool} : mI (mu_fetch u f z wi).2 dp := by
  unfold mu_fetch
  split
  · rename_i e
    split
    · exact mI_refuse I
    · split
      · exact mI_refuse I
      · split
        · exact mI_refuse I
        · split
          · exact mI_refuse I
          · split
            · exact mI_refuse I
            · exact mI_send (mI_sln I) (if_is e) (fun g => by cases g)
  · exact mI_sln I
theorem mI_dq (I : mI u dp) {r : Int} : mI (mu_dq u r) dp := mI_sln (mI_r0 I)
theorem mI_answer (I : mI u dp) {r : Int} : mI (mu_answer u r) dp := by
  unfold mu_answer
  split
  · exact mI_sln I
  · rename_i q eq
    split
    · rename_i e
      obtain ⟨h0, h1, h2⟩ := ir_is e
      obtain ⟨i1, i2, i3⟩ := I.2.1 r.toNat (by omega) q eq
      obtain ⟨X, eX⟩ := Option.isSome_iff_exists.mp i3
      refine mI_dq ?_
      unfold mu_ans1
      split
      · refine mI_note ?_
        have g := mI_cm (F := q.1.toNat) (A := q.2.2.2.1) I (by omega) eX
        rw [show ((q.1.toNat : Nat) : Int) = q.1 by omega] at g
        exact g
      · split
        · exact mI_note I
        · exact mI_note I
    · exact mI_sln I
theorem mI_cs (I : mI u dp) {A : pa_A} {net : Bool} : mI (mu_cs u A net) dp := mI_eq I rfl rfl rfl rfl
theorem mI_set (I : mI u dp) {r : Int} : mI (mu_set u r) dp := by
  unfold mu_set
  split
  · exact mI_sln I
  · split
    · exact mI_cs I
    · exact mI_sln I
theorem mI_leave (I : mI u dp) {r : Int} {wi : Bool} : mI (mu_leave u r wi) dp := by
  unfold mu_leave
  split
  · exact mI_sln I
  · rename_i q eq
    split
    · rename_i e
      obtain ⟨h0, h1, h2⟩ := ir_is e
      refine mI_sln ?_
      unfold mu_lvq
      refine mI_r1 I (I.2.1 r.toNat (by omega) q eq) (fun g r' hr' ne q' e' g' => ?_)
      intro c
      exact ne (I.2.2.1 r' r.toNat q' q hr' (by omega) e' eq g' g c)
    · exact mI_sln I
theorem mI_lead (I : mI u dp) {r : Int} : mI (mu_lead u r).2 dp := by
  unfold mu_lead
  split
  · exact mI_sln I
  · rename_i q eq
    split
    · rename_i e
      obtain ⟨h0, h1, h2⟩ := ir_is e
      have led : ∀ b, mI (mu_ledf u r q b) dp := by
        intro b
        unfold mu_ledf
        refine mI_dq ?_
        split
        · exact mI_note I
        · exact mI_note I
      unfold mu_lead1
      split
      · exact led _
      · split
        · refine mI_send (mI_sln I) (I.2.1 r.toNat (by omega) q eq) (fun g r' hr' ne q' e' g' => ?_)
          intro c
          exact ne (I.2.2.1 r' r.toNat q' q hr' (by omega) e' eq g' g c)
        · exact led _
    · exact mI_sln I
theorem mI_cookies (I : mI u dp) {f : Int} : mI (mu_cookies u f).2 dp := by
  unfold mu_cookies
  split
  · split
    · exact I
    · exact mI_eq I rfl rfl rfl rfl
  · exact I
theorem mI_cookie (I : mI u dp) {f : Int} : mI (mu_cookie u f).2 dp := by
  unfold mu_cookie
  split
  · split
    · exact mI_sln I
    · exact mI_cs I
  · exact mI_sln I
theorem mI_store (I : mI u dp) {f k z : Int} : mI (mu_store u f k z).2 dp := by
  unfold mu_store
  split
  · split
    · exact I
    · split
      · exact I
      · split
        · exact mI_eq I rfl rfl rfl rfl
        · exact mI_eq I rfl rfl rfl rfl
  · exact I
theorem mI_bar (I : mI u dp) : mI (mu_bar u).2 dp := mI_eq I rfl rfl rfl rfl
theorem mI_post (I : mI u dp) {f g z : Int} : mI (mu_post u f g z).2 dp := by
  unfold mu_post
  split
  · split
    · exact mI_sln I
    · rename_i v e
      unfold mu_post1 at e
      split at e
      · cases e
      · split at e
        · cases e
        · split at e
          · cases e
            exact mI_note (mI_sln I)
          · cases e
  · exact mI_sln I
theorem mI_clear (I : mI u dp) : mI (mu_sms u []) dp := mI_eq I rfl rfl rfl rfl
/-! what a call is that throws -/
theorem x_close {z : Int} (e : mu_ht u z = false) : mu_close u z = u := by
  unfold mu_close
  rw [if_neg (by rw [e]; decide)]
theorem x_child {f : Int} (e : mu_if u f = false) : (mu_child u f).2 = mu_sln u [] := by
  unfold mu_child
  rw [if_neg (by rw [e]; decide)]
theorem x_nav {f g : Int} (e : (mu_if u f && mu_if u g) = false) : (mu_nav u f g).2 = mu_sln u [] := by
  unfold mu_nav
  rw [if_neg (by rw [e]; decide)]
theorem x_fetch {f z : Int} {wi : Bool} (e : mu_if u f = false) : (mu_fetch u f z wi).2 = mu_sln u [] := by
  unfold mu_fetch
  rw [if_neg (by rw [e]; decide)]
theorem x_answer {f : Int} (e : mu_ir u f = false) : mu_answer u f = mu_sln u [] := by
  unfold mu_answer
  split
  · rfl
  · rw [if_neg (by rw [e]; decide)]
theorem x_set {f : Int} (e : mu_ir u f = false) : mu_set u f = mu_sln u [] := by
  unfold mu_set
  split
  · rfl
  · rw [if_neg (by rw [e]; intro c; cases c.1)]
theorem x_leave {f : Int} {wi : Bool} (e : mu_ir u f = false) : mu_leave u f wi = mu_sln u [] := by
  unfold mu_leave
  split
  · rfl
  · rw [if_neg (by rw [e]; decide)]
theorem x_lead {f : Int} (e : mu_ir u f = false) : (mu_lead u f).2 = mu_sln u [] := by
  unfold mu_lead
  split
  · rfl
  · rw [if_neg (by rw [e]; decide)]
theorem x_cookies {f : Int} (e : mu_if u f = false) : (mu_cookies u f).2 = u := by
  unfold mu_cookies
  rw [if_neg (by rw [e]; decide)]
theorem x_cookie {f : Int} (e : mu_if u f = false) : (mu_cookie u f).2 = mu_sln u [] := by
  unfold mu_cookie
  rw [if_neg (by rw [e]; decide)]
theorem x_store {f k z : Int} (e : mu_if u f = false) : (mu_store u f k z).2 = u := by
  unfold mu_store
  rw [if_neg (by rw [e]; decide)]
theorem x_post {f g z : Int} (e : (mu_if u f && mu_if u g) = false) : (mu_post u f g z).2 = mu_sln u [] := by
  unfold mu_post
  rw [if_neg (by rw [e]; decide)]
end XC3
