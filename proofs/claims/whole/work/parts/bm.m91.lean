/-! what lies inside a frame -/
def ia (fr : Nat → Option mf_T) (f : Int) : Nat → Int → Bool
  | 0, _ => false
  | F + 1, k => match fr k.toNat with
    | none => false
    | some x => if x.2.1 < 0 then false else if x.2.1 = f then true else ia fr f F x.2.1
def ag (fr : Nat → Option mf_T) (g : Nat → Bool) : Nat → Nat → Bool
  | 0, k => g k
  | j + 1, k => g k || (match fr k with
    | none => false
    | some x => decide (0 ≤ x.2.1) && ag fr g j x.2.1.toNat)
theorem ag_g {fr : Nat → Option mf_T} {g : Nat → Bool} {k : Nat} (h : g k = true) : ∀ j, ag fr g j k = true
  | 0 => h
  | j + 1 => by
    unfold ag
    rw [h]
    rfl
theorem ag_s {fr : Nat → Option mf_T} {g : Nat → Bool} : ∀ (j k : Nat), ag fr g j k = true → ag fr g (j + 1) k = true
  | 0, k, h => ag_g h 1
  | j + 1, k, h => by
    rw [ag] at h ⊢
    cases e : g k with
    | true => rfl
    | false =>
      rw [e, Bool.false_or] at h
      rw [Bool.false_or]
      cases e2 : fr k with
      | none => rw [e2] at h; exact h
      | some x =>
        rw [e2] at h
        simp only [Bool.and_eq_true] at h ⊢
        exact ⟨h.1, ag_s j _ h.2⟩
theorem ag_le {fr : Nat → Option mf_T} {g : Nat → Bool} {k : Nat} : ∀ (d j : Nat), ag fr g j k = true → ag fr g (j + d) k = true
  | 0, j, h => h
  | d + 1, j, h => ag_s _ _ (ag_le d j h)
/-- marked more, the closure stays -/
theorem ag_sub {fr : Nat → Option mf_T} {g g' : Nat → Bool} (hs : ∀ k, g' k = true → ∃ j, ag fr g j k = true) : ∀ (j k : Nat), ag fr g' j k = true → ∃ j', ag fr g j' k = true
  | 0, k, h => hs k h
  | j + 1, k, h => by
    rw [ag] at h
    rcases Bool.or_eq_true _ _ ▸ h with h | h
    · exact hs k h
    · cases e : fr k with
      | none => rw [e] at h; cases h
      | some x =>
        rw [e] at h
        simp only [Bool.and_eq_true] at h
        obtain ⟨j', h'⟩ := ag_sub hs j _ h.2
        refine ⟨j' + 1, ?_⟩
        rw [ag, e]
        simp only [Bool.or_eq_true, Bool.and_eq_true]
        exact Or.inr ⟨h.1, h'⟩
theorem ps_keep {fr : Nat → Option mf_T} {i : Nat} : ∀ (N k : Nat) (g : Nat → Bool), g i = true → dm_ps fr N k g i = true
  | 0, k, g, h => h
  | N + 1, k, g, h => by
    unfold dm_ps
    refine ps_keep N (k + 1) _ ?_
    split
    · unfold mu_up
      split
      · rfl
      · exact h
    · exact h
theorem ps_st {fr : Nat → Option mf_T} {i : Nat} : ∀ (N k : Nat) (g : Nat → Bool), k ≤ i → i < k + N → dm_st fr g i = true → dm_ps fr N k g i = true
  | 0, k, g, h1, h2, h => by omega
  | N + 1, k, g, h1, h2, h => by
    unfold dm_ps
    by_cases e : i = k
    · subst e
      rw [if_pos h]
      exact ps_keep N _ _ mu_upS
    · refine ps_st N (k + 1) _ (by omega) (by omega) ?_
      split
      · unfold dm_st at h ⊢
        cases e2 : fr i with
        | none => rw [e2] at h; exact h
        | some x =>
          rw [e2] at h
          simp only [Bool.and_eq_true] at h ⊢
          refine ⟨h.1, ?_⟩
          unfold mu_up
          split
          · rfl
          · exact h.2
      · exact h
theorem ps_sound {fr : Nat → Option mf_T} {g0 : Nat → Bool} : ∀ (N k : Nat) (g : Nat → Bool), (∀ i, g i = true → ∃ j, ag fr g0 j i = true) → ∀ i, dm_ps fr N k g i = true → ∃ j, ag fr g0 j i = true
  | 0, k, g, hg, i, h => hg i h
  | N + 1, k, g, hg, i, h => by
    unfold dm_ps at h
    refine ps_sound N (k + 1) _ ?_ i h
    intro i hi
    split at hi
    · rename_i hst
      unfold mu_up at hi
      split at hi
      · rename_i e
        subst e
        unfold dm_st at hst
        cases e2 : fr i with
        | none => rw [e2] at hst; cases hst
        | some x =>
          rw [e2] at hst
          simp only [Bool.and_eq_true] at hst
          obtain ⟨j, hj⟩ := hg _ hst.2
          refine ⟨j + 1, ?_⟩
          rw [ag, e2]
          simp only [Bool.or_eq_true, Bool.and_eq_true]
          exact Or.inr ⟨hst.1, hj⟩
      · exact hg i hi
    · exact hg i hi
theorem it_sound {fr : Nat → Option mf_T} : ∀ (N : Nat) (g : Nat → Bool) (i : Nat), dm_it fr N g i = true → ∃ j, ag fr g j i = true
  | 0, g, i, h => ⟨0, h⟩
  | N + 1, g, i, h => by
    unfold dm_it at h
    obtain ⟨j, hj⟩ := it_sound N _ i h
    exact ag_sub (fun k hk => ps_sound 16 0 g (fun i hi => ⟨0, hi⟩) k hk) j i hj
theorem ag_ps {fr : Nat → Option mf_T} {g : Nat → Bool} : ∀ (j k : Nat), k < 16 → (∀ i x, i < 16 → fr i = some x → 0 ≤ x.2.1 → x.2.1 < 16) → ag fr g (j + 1) k = true → ag fr (dm_ps fr 16 0 g) j k = true
  | 0, k, hk, hp, h => by
    rw [ag] at h
    rcases Bool.or_eq_true _ _ ▸ h with h | h
    · exact ps_keep 16 0 g h
    · refine ps_st 16 0 g (Nat.zero_le _) (by omega) ?_
      unfold dm_st
      exact h
  | j + 1, k, hk, hp, h => by
    rw [ag] at h
    rcases Bool.or_eq_true _ _ ▸ h with h | h
    · exact ag_g (ps_keep 16 0 g h) _
    · cases e : fr k with
      | none => rw [e] at h; cases h
      | some x =>
        rw [e] at h
        simp only [Bool.and_eq_true, decide_eq_true_eq] at h
        have := hp k x hk e h.1
        have ih := ag_ps j x.2.1.toNat (by omega) hp h.2
        rw [ag, e]
        simp only [Bool.or_eq_true, Bool.and_eq_true, decide_eq_true_eq]
        exact Or.inr ⟨h.1, ih⟩
theorem it_full {fr : Nat → Option mf_T} (hp : ∀ i x, i < 16 → fr i = some x → 0 ≤ x.2.1 → x.2.1 < 16) : ∀ (N : Nat) (g : Nat → Bool) (i : Nat), i < 16 → ag fr g N i = true → dm_it fr N g i = true
  | 0, g, i, _, h => h
  | N + 1, g, i, hi, h => by
    unfold dm_it
    exact it_full hp N _ i hi (ag_ps N i hi hp h)
theorem ia_s {fr : Nat → Option mf_T} {f : Int} : ∀ (j : Nat) (k : Int), ia fr f j k = true → ia fr f (j + 1) k = true
  | 0, k, h => by cases h
  | j + 1, k, h => by
    rw [ia] at h ⊢
    cases e : fr k.toNat with
    | none => rw [e] at h; cases h
    | some x =>
      rw [e] at h
      dsimp only at h ⊢
      split at h
      · cases h
      · rename_i e1
        rw [if_neg e1]
        split at h
        · rename_i e2; rw [if_pos e2]
        · rename_i e2; rw [if_neg e2]; exact ia_s j _ h
theorem ia_le {fr : Nat → Option mf_T} {f k : Int} {j : Nat} (h : ia fr f j k = true) : ∀ d, ia fr f (j + d) k = true
  | 0 => h
  | d + 1 => ia_s _ _ (ia_le h d)
theorem ia_dp {fr : Nat → Option mf_T} {dp : Nat → Nat} {f : Int} (T : mi_tr fr dp) : ∀ (j k : Nat), k < 16 → ia fr f j k = true → ia fr f (dp k) k = true
  | 0, k, _, h => by cases h
  | j + 1, k, hk, h => by
    rw [ia] at h
    rw [Int.toNat_natCast] at h
    cases e : fr k with
    | none => rw [e] at h; cases h
    | some x =>
      rw [e] at h
      dsimp only at h
      obtain ⟨t1, t2, t3, t4⟩ := T k hk x e
      split at h
      · cases h
      · rename_i e1
        obtain ⟨t5, t6, _⟩ := t4 (by omega)
        rw [t6, ia, Int.toNat_natCast, e]
        dsimp only
        rw [if_neg e1]
        split at h
        · rename_i e2; rw [if_pos e2]
        · rename_i e2
          rw [if_neg e2]
          have hh : ((x.2.1.toNat : Nat) : Int) = x.2.1 := by omega
          have := ia_dp T j x.2.1.toNat (by omega) (by rw [hh]; exact h)
          rw [hh] at this
          exact this
theorem ia_6 {fr : Nat → Option mf_T} {dp : Nat → Nat} {f : Int} (T : mi_tr fr dp) {j k : Nat} (hk : k < 16) (h : ia fr f j k = true) : ia fr f 6 k = true := by
  have h1 := ia_dp T j k hk h
  have h2 : dp k ≤ 6 := by
    cases j with
    | zero => cases h
    | succ j =>
      rw [ia, Int.toNat_natCast] at h
      cases e : fr k with
      | none => rw [e] at h; cases h
      | some x =>
        have := (T k hk x e).2.1
        omega
  have := ia_le h1 (6 - dp k)
  rwa [show dp k + (6 - dp k) = 6 by omega] at this
theorem ag_ia {fr : Nat → Option mf_T} {g : Nat → Bool} {f : Int} (hg : ∀ k : Nat, g k = true → k = f.toNat ∨ ia fr f 1 k = true) (hf : 0 ≤ f) : ∀ (j k : Nat), ag fr g j k = true → k = f.toNat ∨ ∃ i, ia fr f i k = true
  | 0, k, h => by
    rcases hg k h with e | e
    · exact Or.inl e
    · exact Or.inr ⟨1, e⟩
  | j + 1, k, h => by
    rw [ag] at h
    rcases Bool.or_eq_true _ _ ▸ h with h | h
    · rcases hg k h with e | e
      · exact Or.inl e
      · exact Or.inr ⟨1, e⟩
    · cases e : fr k with
      | none => rw [e] at h; cases h
      | some x =>
        rw [e] at h
        simp only [Bool.and_eq_true, decide_eq_true_eq] at h
        refine Or.inr ?_
        have hh : ((x.2.1.toNat : Nat) : Int) = x.2.1 := by omega
        rcases ag_ia hg hf j _ h.2 with h2 | ⟨i, h2⟩
        · refine ⟨1, ?_⟩
          rw [ia, Int.toNat_natCast, e]
          dsimp only
          rw [if_neg (by omega), if_pos (by omega)]
        · refine ⟨i + 1, ?_⟩
          rw [ia, Int.toNat_natCast, e]
          dsimp only
          rw [if_neg (by omega)]
          split
          · rfl
          · rw [hh] at h2; exact h2
theorem ia_ag {fr : Nat → Option mf_T} {g : Nat → Bool} {f : Int} (hg : ∀ k : Nat, ia fr f 1 k = true → ag fr g 1 k = true) : ∀ (j k : Nat), ia fr f j k = true → ag fr g j k = true
  | 0, k, h => by cases h
  | j + 1, k, h => by
    rw [ia, Int.toNat_natCast] at h
    cases e : fr k with
    | none => rw [e] at h; cases h
    | some x =>
      rw [e] at h
      dsimp only at h
      split at h
      · cases h
      · rename_i e1
        split at h
        · rename_i e2
          have := hg k (by rw [ia, Int.toNat_natCast, e]; dsimp only; rw [if_neg e1, if_pos e2])
          have := ag_le j 1 this
          rwa [Nat.add_comm] at this
        · rename_i e2
          have hh : ((x.2.1.toNat : Nat) : Int) = x.2.1 := by omega
          have ih := ia_ag hg j x.2.1.toNat (by rw [hh]; exact h)
          rw [ag, e]
          simp only [Bool.or_eq_true, Bool.and_eq_true, decide_eq_true_eq]
          exact Or.inr ⟨by omega, ih⟩
theorem tr_par {fr : Nat → Option mf_T} {dp : Nat → Nat} (T : mi_tr fr dp) : ∀ i x, i < 16 → fr i = some x → 0 ≤ x.2.1 → x.2.1 < 16 := fun i x hi e h => ((T i hi x e).2.2.2 h).1
/-- close: the top and all that lies inside -/
theorem dm_close {fr : Nat → Option mf_T} {dp : Nat → Nat} (T : mi_tr fr dp) {f k : Nat} (hk : k < 16) : dm_cl fr (mu_up (fun _ => false) f true) k = (decide (k = f) || ia fr f 6 k) := by
  have hg : ∀ i : Nat, mu_up (fun _ => false) f true i = true ↔ i = f := by
    intro i
    unfold mu_up
    split
    · rename_i e; simp [e]
    · rename_i e; simp [e]
  refine bool_iff ⟨fun h => ?_, fun h => ?_⟩
  · obtain ⟨j, hj⟩ := it_sound 16 _ k h
    rcases ag_ia (f := f) (fun i hi => Or.inl (by rw [(hg i).mp hi, Int.toNat_natCast])) (by omega) j k hj with e | ⟨i, e⟩
    · rw [Int.toNat_natCast] at e
      rw [decide_eq_true e]
      rfl
    · rw [ia_6 T hk e, Bool.or_true]
  · refine it_full (tr_par T) 16 _ k hk ?_
    rcases Bool.or_eq_true _ _ ▸ h with h | h
    · exact ag_g ((hg k).mpr (of_decide_eq_true h)) 16
    · refine ag_le 10 6 (ia_ag (f := f) (fun i hi => ?_) 6 k h)
      rw [ia, Int.toNat_natCast] at hi
      cases e : fr i with
      | none => rw [e] at hi; cases hi
      | some x =>
        rw [e] at hi
        dsimp only at hi
        split at hi
        · cases hi
        · rename_i e1
          split at hi
          · rename_i e2
            rw [ag, e]
            simp only [Bool.or_eq_true, Bool.and_eq_true, decide_eq_true_eq]
            exact Or.inr ⟨by omega, (hg _).mpr (by omega)⟩
          · cases hi
/-- commit: all that lies inside -/
theorem dm_commit {fr : Nat → Option mf_T} {dp : Nat → Nat} (T : mi_tr fr dp) {f k : Nat} (hk : k < 16) (hf : (fr f).isSome = true → f < 16) : dm_cl fr (cm_g fr f) k = ia fr f 6 k := by
  have hg : ∀ i : Nat, cm_g fr f i = true → ia fr f 1 i = true := by
    intro i h
    unfold cm_g at h
    rw [Bool.and_eq_true] at h
    have h2 := h.2
    unfold mf_ch at h2
    rw [ia, Int.toNat_natCast]
    cases e : fr i with
    | none => rw [e] at h2; cases h2
    | some x =>
      rw [e] at h2
      dsimp only at h2 ⊢
      have := of_decide_eq_true h2
      rw [if_neg (by omega), if_pos this]
  refine bool_iff ⟨fun h => ?_, fun h => ?_⟩
  · obtain ⟨j, hj⟩ := it_sound 16 _ k h
    clear h
    suffices ∀ (j k : Nat), ag fr (cm_g fr f) j k = true → ∃ i, ia fr f i k = true by
      obtain ⟨i, e⟩ := this j k hj
      exact ia_6 T hk e
    intro j
    induction j with
    | zero => intro k h; exact ⟨1, hg k h⟩
    | succ j ih =>
      intro k h
      rw [ag] at h
      rcases Bool.or_eq_true _ _ ▸ h with h | h
      · exact ⟨1, hg k h⟩
      · cases e : fr k with
        | none => rw [e] at h; cases h
        | some x =>
          rw [e] at h
          simp only [Bool.and_eq_true, decide_eq_true_eq] at h
          obtain ⟨i, e2⟩ := ih _ h.2
          have hh : ((x.2.1.toNat : Nat) : Int) = x.2.1 := by omega
          refine ⟨i + 1, ?_⟩
          rw [ia, Int.toNat_natCast, e]
          dsimp only
          rw [if_neg (by omega)]
          split
          · rfl
          · rw [hh] at e2; exact e2
  · refine it_full (tr_par T) 16 _ k hk ?_
    suffices ∀ (j k : Nat), k < 16 → ia fr f j k = true → ag fr (cm_g fr f) j k = true from ag_le 10 6 (this 6 k hk h)
    clear h
    intro j
    induction j with
    | zero => intro k _ h; cases h
    | succ j ih =>
      intro k hk h
      rw [ia, Int.toNat_natCast] at h
      cases e : fr k with
      | none => rw [e] at h; cases h
      | some x =>
        rw [e] at h
        dsimp only at h
        split at h
        · cases h
        · rename_i e1
          split at h
          · rename_i e2
            refine ag_g ?_ _
            unfold cm_g mf_ch
            rw [e]
            simp only [Bool.and_eq_true, decide_eq_true_eq]
            exact ⟨hk, e2⟩
          · have t := tr_par T k x hk e (by omega)
            have hh : ((x.2.1.toNat : Nat) : Int) = x.2.1 := by omega
            rw [ag, e]
            simp only [Bool.or_eq_true, Bool.and_eq_true, decide_eq_true_eq]
            exact Or.inr ⟨by omega, ih _ (by omega) (by rw [hh]; exact h)⟩

/-- requests of f gone -/
def mq_no (f : Int) (o : Option mq_T) : Option mq_T := match o with
  | none => none
  | some q => if q.1 = f then none else some q
def pj (fr : Nat → Option mf_T) (F : Int) (m : Nat) (P : Int) : Bool := if P < 0 then false else if P = F then true else ia fr F m P
theorem ia_pj {fr : Nat → Option mf_T} {F : Int} {m : Nat} {k : Int} {x : mf_T} (e : fr k.toNat = some x) : ia fr F (m + 1) k = pj fr F m x.2.1 := by
  rw [ia, e]
  rfl
/-- dropped so far -/
def dc (fr : Nat → Option mf_T) (F : Int) (i k : Nat) : Bool := decide (k < i) && ia fr F 6 k
theorem dc_s {fr : Nat → Option mf_T} {F : Int} {i k : Nat} : dc fr F (i + 1) k = (dc fr F i k || (decide (k = i) && ia fr F 6 i)) := by
  unfold dc
  by_cases e : k = i
  · subst e
    rw [decide_eq_true (Nat.lt_succ_self k), decide_eq_false (Nat.lt_irrefl k), decide_eq_true rfl]
    simp
  · rw [decide_eq_false e]
    by_cases g : k < i
    · rw [decide_eq_true g, decide_eq_true (Nat.lt_succ_of_lt g)]
      simp
    · rw [decide_eq_false g, decide_eq_false (by omega)]
      simp
theorem mq_fl_s {fr : Nat → Option mf_T} {F : Int} {i : Nat} {o : Option mq_T} (hq : ∀ q, o = some q → 0 ≤ q.1) (hi : ia fr F 6 i = true) : mq_fl (dc fr F (i + 1)) o = mq_no i (mq_fl (dc fr F i) o) := by
  cases o with
  | none => rfl
  | some q =>
    have h0 := hq q rfl
    unfold mq_fl
    dsimp only
    rw [dc_s, hi, Bool.and_true]
    by_cases g : dc fr F i q.1.toNat = true
    · rw [if_pos g, if_pos (by rw [g]; rfl)]
      rfl
    · rw [if_neg g]
      have g' : dc fr F i q.1.toNat = false := by simpa using g
      rw [g', Bool.false_or]
      unfold mq_no
      dsimp only
      by_cases e : q.1 = (i : Int)
      · rw [if_pos e, if_pos (decide_eq_true (by omega))]
      · rw [if_neg e, if_neg (by rw [decide_eq_false (by omega)]; decide)]
theorem mq_fl_n {fr : Nat → Option mf_T} {F : Int} {i : Nat} {o : Option mq_T} (hi : ia fr F 6 i = false) : mq_fl (dc fr F (i + 1)) o = mq_fl (dc fr F i) o := by
  cases o with
  | none => rfl
  | some q =>
    unfold mq_fl
    dsimp only
    rw [dc_s, hi, Bool.and_false, Bool.or_false]
theorem mq_fl_0 {fr : Nat → Option mf_T} {F : Int} {o : Option mq_T} : mq_fl (dc fr F 0) o = o := by
  cases o with
  | none => rfl
  | some q =>
    have e : dc fr F 0 q.1.toNat = false := by
      unfold dc
      rw [decide_eq_false (Nat.not_lt_zero _), Bool.false_and]
    unfold mq_fl
    dsimp only
    rw [e]
    rfl
theorem mq_fl_c {c c' : Nat → Bool} {o : Option mq_T} (h : ∀ q, o = some q → c q.1.toNat = c' q.1.toNat) : mq_fl c o = mq_fl c' o := by
  cases o with
  | none => rfl
  | some q =>
    unfold mq_fl
    dsimp only
    rw [h q rfl]
theorem mq_fl_no {c : Nat → Bool} {F : Nat} {o : Option mq_T} (hq : ∀ q, o = some q → 0 ≤ q.1) : mq_no F (mq_fl c o) = mq_fl (fun k => decide (k = F) || c k) o := by
  cases o with
  | none => rfl
  | some q =>
    have h0 := hq q rfl
    unfold mq_fl
    dsimp only
    by_cases g : c q.1.toNat = true
    · rw [if_pos g, if_pos (by rw [g, Bool.or_true])]
      rfl
    · rw [if_neg g]
      have g' : c q.1.toNat = false := by simpa using g
      unfold mq_no
      dsimp only
      by_cases e : q.1 = (F : Int)
      · rw [if_pos e, if_pos (by rw [decide_eq_true (by omega)]; rfl)]
      · rw [if_neg e, if_neg (by rw [g', decide_eq_false (by omega)]; decide)]
/-- all frames' objects, wherever the array points by now -/
def frF (w : kW) (fx : Nat → Option Nat) (h : xm_H) (n : Nat) (fr : Nat → Option mf_T) (dp : Nat → Nat) : Prop := ∀ f, f < 16 → (fr f = none → fx f = none) ∧ ∀ x, fr f = some x → ∃ r, fx f = some r ∧ frO w h n fx f x (dp f) r
def rqI (fr : Nat → Option mf_T) (rq : Nat → Option mq_T) : Prop := ∀ r, r < 24 → ∀ q, rq r = some q → 0 ≤ q.1 ∧ q.1 < 16 ∧ (fr q.1.toNat).isSome = true
section XBM2
variable {fm : Value} {w w' w1 w2 : kW} {s s' s1 s2 : Nat → Int} {p p' p1 p2 : Nat → Nat} {ar ar' : Nat → Nat → Option Nat} {v : Nat → Int} {h h' h1 h2 : xm_H} {n n' n1 n2 r k k' u' u1 u2 x y a R : Nat} {t t' t1 t2 : Nat → List Int} {kc kc' kc1 kc2 : Nat → Nat} {u : mu_T} {dp : Nat → Nat} {fx : Nat → Option Nat} {fr : Nat → Option mf_T} {rq : Nat → Option mq_T} {F fo : Nat} {X : mf_T}
theorem k168_l (hn : 64 ≤ n) (HF : frF w fx h n fr dp) (HI : rqI fr rq) (hF : F < 16) (hfo : fx F = some fo) (HO : frO w h n fx F X (dp F) fo) : ∀ (m i : Nat) (ar1 : Nat → Nat → Option Nat), i + m = 24 → (∀ j, j ≠ 4 → ar1 j = ar j) → rqL w ar1 fx h n (fun r => if r < i then mq_no F (rq r) else rq r) 24 → xe fm 168 (2, [(2, xi (i : Int)), (0, .ref 44), (1, .ref fo)], [], (ko w s p ar1 v h, n, 0, 0)) (fun q M => q = .inl none ∧ M.2.1 = n ∧ M.2.2.2 = 0 ∧ ∃ ar', M.1 = ko w s p ar' v h ∧ (∀ j, j ≠ 4 → ar' j = ar j) ∧ rqL w ar' fx h n (fun r => mq_no F (rq r)) 24) := by
  intro m
  induction m with
  | zero =>
    intro i ar1 hi f1 HQ
    refine xe_s (f := (3, _, _, _)) xt_g168 rfl rfl rfl rfl rfl ?_
    refine xe_bipush xt_g168 rfl (q := 5) rfl (by decide) (by decide) ?_
    refine xe_ic_ge xt_g168 rfl (t := 40) rfl (q := 8) rfl (by first | omega | exact xb_r _) (by first | omega | exact xb_r _) (fun b5 => ?_) (fun b5 => ?_)
    · try simp only [xb_0, xb_1, ne_eq, Decidable.not_not, Bool.not_eq_false, Bool.not_eq_true, decide_eq_true_eq, decide_eq_false_iff_not] at b5
      refine xe_ret xt_g168 rfl rfl ?_
      try dsimp only
      refine ⟨rfl, rfl, rfl, ar1, rfl, f1, fun r hr hr' => ?_⟩
      have g := HQ r hr hr'
      dsimp only at g ⊢
      rw [if_pos (show r < i by omega)] at g
      exact g
    · exact absurd b5 (by omega)
  | succ m ih =>
    intro i ar1 hi f1 HQ
    have step : ∀ (ar2 : Nat → Nat → Option Nat), (∀ j, j ≠ 4 → ar2 j = ar j) → (∀ r, r ≠ i → ar2 4 r = ar1 4 r) → ((mq_no F (rq i) = none → ar2 4 i = none) ∧ ∀ q, mq_no F (rq i) = some q → ∃ y, ar2 4 i = some y ∧ rqO w h n fx i q y) → rqL w ar2 fx h n (fun r => if r < i + 1 then mq_no F (rq r) else rq r) 24 := by
      intro ar2 f2 f3 f4 r hr hr'
      dsimp only
      by_cases e : r = i
      · subst e
        rw [if_pos (show r < r + 1 by omega)]
        exact f4
      · have g := HQ r hr hr'
        dsimp only at g
        rw [f3 r e]
        by_cases e2 : r < i
        · rw [if_pos e2] at g
          rw [if_pos (by omega)]
          exact g
        · rw [if_neg e2] at g
          rw [if_neg (by omega)]
          exact g
    have HQi := HQ i (by omega) (by omega)
    dsimp only at HQi
    rw [if_neg (Nat.lt_irrefl i)] at HQi
    cases e : rq i with
    | none =>
      have e4 := HQi.1 e
      refine xe_s (f := (3, _, _, _)) xt_g168 rfl rfl rfl rfl rfl ?_
      refine xe_bipush xt_g168 rfl (q := 5) rfl (by decide) (by decide) ?_
      refine xe_ic_ge xt_g168 rfl (t := 40) rfl (q := 8) rfl (by first | omega | exact xb_r _) (by first | omega | exact xb_r _) (fun b5 => ?_) (fun b5 => ?_)
      · exact absurd b5 (by omega)
      · try simp only [xb_0, xb_1, ne_eq, Decidable.not_not, Bool.not_eq_false, Bool.not_eq_true, decide_eq_true_eq, decide_eq_false_iff_not] at b5
        refine xe_s (f := (9, _, _, _)) xt_g168 rfl rfl rfl rfl rfl ?_
        refine xe_gf xt_g168 rfl (q := 12) rfl (xf_0_50 fm) (ko_44) (by omega) rfl rfl ?_
        refine xe_s (f := (13, _, _, _)) xt_g168 rfl rfl rfl rfl rfl ?_
        refine xe_ka_58 xt_g168 rfl (q := 14) rfl (by omega) (by omega) (by omega) ?_
        rw [Int.toNat_natCast, e4, show va_rf none = Value.null from rfl]
        refine xe_s (f := (15, [(3, _), (2, _), (0, _), (1, _)], _, _)) xt_g168 rfl rfl rfl rfl rfl ?_
        refine xe_s (f := (16, _, _, _)) xt_g168 rfl rfl rfl rfl rfl ?_
        refine xe_s (f := (34, _, _, _)) xt_g168 rfl rfl rfl rfl rfl ?_
        refine xe_iinc xt_g168 rfl (q := 37) rfl rfl (by decide) (L1 := [(2, _), (3, _), (0, _), (1, _)]) rfl ?_
        refine xe_s (f := (2, _, _, _)) xt_g168 rfl rfl rfl rfl rfl ?_
        have g := ih (i + 1) ar1 (by omega) f1 (step ar1 f1 (fun _ _ => rfl) (by rw [e]; exact ⟨fun _ => e4, fun q g => by cases g⟩))
        rw [show ((i + 1 : Nat) : Int) = (i : Int) + 1 by omega] at g
        exact xe_loc (by intro q hq; simp only [List.mem_cons, List.not_mem_nil, or_false] at hq; rcases hq with rfl | rfl | rfl <;> rfl) (g)
    | some q =>
      obtain ⟨yy, e4, HR⟩ := HQi.2 q e
      obtain ⟨i1, i2, i3⟩ := HI i (by omega) q e
      obtain ⟨X', eX'⟩ := Option.isSome_iff_exists.mp i3
      obtain ⟨r', er', HO'⟩ := (HF q.1.toNat (by omega)).2 X' eX'
      have HR' := HR
      obtain ⟨fo', ad, ak, lf, la, lw, a1, a2, a3, a4, a5, a6, a7, a8, a9⟩ := HR
      have X1 := (ko_d (w := w) (s := s) (p := p) (ar := ar1) (v := v) a2.1).trans a1
      rw [er'] at a5
      cases a5
      refine xe_s (f := (3, _, _, _)) xt_g168 rfl rfl rfl rfl rfl ?_
      refine xe_bipush xt_g168 rfl (q := 5) rfl (by decide) (by decide) ?_
      refine xe_ic_ge xt_g168 rfl (t := 40) rfl (q := 8) rfl (by first | omega | exact xb_r _) (by first | omega | exact xb_r _) (fun b5 => ?_) (fun b5 => ?_)
      · exact absurd b5 (by omega)
      · try simp only [xb_0, xb_1, ne_eq, Decidable.not_not, Bool.not_eq_false, Bool.not_eq_true, decide_eq_true_eq, decide_eq_false_iff_not] at b5
        refine xe_s (f := (9, _, _, _)) xt_g168 rfl rfl rfl rfl rfl ?_
        refine xe_gf xt_g168 rfl (q := 12) rfl (xf_0_50 fm) (ko_44) (by omega) rfl rfl ?_
        refine xe_s (f := (13, _, _, _)) xt_g168 rfl rfl rfl rfl rfl ?_
        refine xe_ka_58 xt_g168 rfl (q := 14) rfl (by omega) (by omega) (by omega) ?_
        rw [Int.toNat_natCast, e4, va_some]
        refine xe_s (f := (15, [(3, _), (2, _), (0, _), (1, _)], _, _)) xt_g168 rfl rfl rfl rfl rfl ?_
        refine xe_s (f := (16, _, _, _)) xt_g168 rfl rfl rfl rfl rfl ?_
        refine xe_s (f := (19, _, _, _)) xt_g168 rfl rfl rfl rfl rfl ?_
        refine xe_s (f := (20, _, _, _)) xt_g168 rfl rfl rfl rfl rfl ?_
        refine xe_gf xt_g168 rfl (q := 23) rfl (xf_0_212 fm) (X1) (by omega) rfl rfl ?_
        refine xe_s (f := (24, _, _, _)) xt_g168 rfl rfl rfl rfl rfl ?_
        refine xe_ac_ne xt_g168 rfl (t := 34) rfl (q := 27) rfl rfl rfl (fun b24 => ?_) (fun b24 => ?_)
        · try simp only [xb_0, xb_1, ne_eq, Decidable.not_not, Bool.not_eq_false, Bool.not_eq_true, decide_eq_true_eq, decide_eq_false_iff_not] at b24
          have ne : ¬ q.1 = (F : Int) := by
            intro g
            rw [show q.1.toNat = F by omega, hfo] at er'
            exact b24 er'.symm
          refine xe_iinc xt_g168 rfl (q := 37) rfl rfl (by decide) (L1 := [(2, _), (3, _), (0, _), (1, _)]) rfl ?_
          refine xe_s (f := (2, _, _, _)) xt_g168 rfl rfl rfl rfl rfl ?_
          have g := ih (i + 1) ar1 (by omega) f1 (step ar1 f1 (fun _ _ => rfl) (by rw [e, show mq_no F (some q) = some q from if_neg ne]; exact ⟨fun g => (by cases g), fun q' g => by cases g; exact ⟨yy, e4, HR'⟩⟩))
          rw [show ((i + 1 : Nat) : Int) = (i : Int) + 1 by omega] at g
          exact xe_loc (by intro q hq; simp only [List.mem_cons, List.not_mem_nil, or_false] at hq; rcases hq with rfl | rfl | rfl <;> rfl) (g)
        · try simp only [xb_0, xb_1, ne_eq, Decidable.not_not, Bool.not_eq_false, Bool.not_eq_true, decide_eq_true_eq, decide_eq_false_iff_not] at b24
          have eF : q.1 = (F : Int) := by
            injection b24 with b24
            subst b24
            have := fr_inj (by omega) hF HO' HO
            omega
          refine xe_s (f := (28, _, _, _)) xt_g168 rfl rfl rfl rfl rfl ?_
          refine xe_gf xt_g168 rfl (q := 31) rfl (xf_0_50 fm) (ko_44) (by omega) rfl rfl ?_
          refine xe_s (f := (32, _, _, _)) xt_g168 rfl rfl rfl rfl rfl ?_
          refine xe_s (f := (33, _, _, _)) xt_g168 rfl rfl rfl rfl rfl ?_
          refine xe_kn_58 xt_g168 rfl (q := 34) rfl (by omega) (by omega) (by omega) ?_
          refine xe_iinc xt_g168 rfl (q := 37) rfl rfl (by decide) (L1 := [(2, _), (3, _), (0, _), (1, _)]) rfl ?_
          refine xe_s (f := (2, _, _, _)) xt_g168 rfl rfl rfl rfl rfl ?_
          have g := ih (i + 1) (aw ar1 4 ((i : Int)).toNat none) (by omega) (fun j hj => (aw_n hj).trans (f1 j hj)) (step _ (fun j hj => (aw_n hj).trans (f1 j hj)) (fun r hr => by rw [aw_s, Int.toNat_natCast, va_up_n hr]) (by rw [e, show mq_no F (some q) = none from if_pos eF]; exact ⟨fun _ => by rw [aw_s, Int.toNat_natCast, va_up_s], fun q' g => by cases g⟩))
          rw [show ((i + 1 : Nat) : Int) = (i : Int) + 1 by omega] at g
          exact xe_loc (by intro q hq; simp only [List.mem_cons, List.not_mem_nil, or_false] at hq; rcases hq with rfl | rfl | rfl <;> rfl) (g)
/-- forgetRequests -/
theorem k168 (hn : 64 ≤ n) (HF : frF w fx h n fr dp) (HI : rqI fr rq) (HQ : rqL w ar fx h n rq 24) (hF : F < 16) (hfo : fx F = some fo) (HO : frO w h n fx F X (dp F) fo) : xN fm 168 (ko w s p ar v h) n [.ref 44, .ref fo] (fun h' n' u' => n' = n ∧ u' = 0 ∧ ∃ ar', h' = ko w s p ar' v h ∧ (∀ j, j ≠ 4 → ar' j = ar j) ∧ rqL w ar' fx h n (fun r => mq_no F (rq r)) 24) := by
  unfold xN
  refine xe_s (f := (1, _, xi 0 :: _, _)) xt_g168 rfl rfl rfl rfl rfl ?_
  refine xe_s (f := (2, [(2, _), (0, _), (1, _)], _, _)) xt_g168 rfl rfl rfl rfl rfl ?_
  exact xe_loc (by intro q hq; simp only [List.mem_cons, List.not_mem_nil, or_false] at hq; rcases hq with rfl | rfl | rfl <;> rfl) ((k168_l hn HF HI hF hfo HO 24 0 ar rfl (fun _ _ => rfl) (fun r hr hr' => by dsimp only; rw [if_neg (Nat.not_lt_zero r)]; exact HQ r hr hr')))
theorem k166_l (HF : frF w fx h n fr dp) (T : mi_tr fr dp) (hF : F < 16) (hfo : fx F = some fo) (HO : frO w h n fx F X (dp F) fo) {z : Value} : ∀ (m : Nat) (P : Int), (P < 0 ∨ (0 ≤ P ∧ P < 16 ∧ ∃ y, fr P.toNat = some y ∧ dp P.toNat ≤ m)) → xe fm 166 (5, [(2, va_rf (if P < 0 then none else fx P.toNat)), (0, z), (1, .ref fo)], [], (ko w s p ar v h, n, 0, 0)) (fun q M => q = .inl (some (xi (xb (pj fr F m P)))) ∧ M = (ko w s p ar v h, n, 0, 0)) := by
  intro m
  induction m with
  | zero =>
    intro P hP
    have h0 : P < 0 := by
      rcases hP with g | ⟨g1, g2, y, g3, g4⟩
      · exact g
      · have := (T P.toNat (by omega) y g3).1
        omega
    rw [if_pos h0]
    unfold pj
    rw [if_pos h0]
    refine xe_s (f := (6, _, _, _)) xt_g166 rfl rfl rfl rfl rfl ?_
    refine xe_s (f := (24, _, _, _)) xt_g166 rfl rfl rfl rfl rfl ?_
    refine xe_s (f := (25, _, xi 0 :: _, _)) xt_g166 rfl rfl rfl rfl rfl ?_
    refine xe_iret xt_g166 rfl rfl (xi_bool (by first | omega | exact xb_or _)).1 ?_
    exact ⟨rfl, rfl⟩
  | succ m ih =>
    intro P hP
    by_cases h0 : P < 0
    · rw [if_pos h0]
      unfold pj
      rw [if_pos h0]
      refine xe_s (f := (6, _, _, _)) xt_g166 rfl rfl rfl rfl rfl ?_
      refine xe_s (f := (24, _, _, _)) xt_g166 rfl rfl rfl rfl rfl ?_
      refine xe_s (f := (25, _, xi 0 :: _, _)) xt_g166 rfl rfl rfl rfl rfl ?_
      refine xe_iret xt_g166 rfl rfl (xi_bool (by first | omega | exact xb_or _)).1 ?_
      exact ⟨rfl, rfl⟩
    · obtain ⟨g1, g2, y, g3, g4⟩ : 0 ≤ P ∧ P < 16 ∧ ∃ y, fr P.toNat = some y ∧ dp P.toNat ≤ m + 1 := by
        rcases hP with g | g
        · exact absurd g h0
        · exact g
      obtain ⟨rp, e3, HP⟩ := (HF P.toNat (by omega)).2 y g3
      have HP' := HP
      obtain ⟨ad, b1, b2, b3, b4, b5⟩ := HP
      have X1 := (ko_d (w := w) (s := s) (p := p) (ar := ar) (v := v) b2.1).trans b1
      obtain ⟨t1, t2, t3, t4⟩ := T P.toNat (by omega) y g3
      rw [if_neg h0, e3]
      unfold pj
      rw [if_neg h0]
      refine xe_s (f := (6, _, _, _)) xt_g166 rfl rfl rfl rfl rfl ?_
      refine xe_s (f := (9, _, _, _)) xt_g166 rfl rfl rfl rfl rfl ?_
      refine xe_s (f := (10, _, _, _)) xt_g166 rfl rfl rfl rfl rfl ?_
      refine xe_s (f := (11, _, _, _)) xt_g166 rfl rfl rfl rfl rfl ?_
      refine xe_ac_ne xt_g166 rfl (t := 16) rfl (q := 14) rfl rfl rfl (fun b11 => ?_) (fun b11 => ?_)
      · try simp only [xb_0, xb_1, ne_eq, Decidable.not_not, Bool.not_eq_false, Bool.not_eq_true, decide_eq_true_eq, decide_eq_false_iff_not] at b11
        have nP : ¬ P = (F : Int) := by
          intro g
          rw [show P.toNat = F by omega, hfo] at e3
          exact b11 e3.symm
        rw [if_neg nP]
        refine xe_s (f := (17, _, _, _)) xt_g166 rfl rfl rfl rfl rfl ?_
        refine xe_gf xt_g166 rfl (q := 20) rfl (xf_5_16 fm) (X1) (by omega) rfl xm_kn_va ?_
        have g := ih y.2.1 (by
          by_cases q : y.2.1 < 0
          · exact Or.inl q
          · obtain ⟨c1, c2, y', c3, _⟩ := t4 (by omega)
            exact Or.inr ⟨by omega, c1, y', c3, by omega⟩)
        rw [ia_pj g3]
        generalize ho : (if y.2.1 < 0 then none else fx y.2.1.toNat) = o at g ⊢
        cases o with
        | none =>
          refine xe_s (f := (21, [(2, _), (0, _), (1, _)], _, _)) xt_g166 rfl rfl rfl rfl rfl ?_
          refine xe_s (f := (5, _, _, _)) xt_g166 rfl rfl rfl rfl rfl ?_
          exact xe_loc (by intro q hq; simp only [List.mem_cons, List.not_mem_nil, or_false] at hq; rcases hq with rfl | rfl | rfl <;> rfl) (g)
        | some j =>
          refine xe_s (f := (21, [(2, _), (0, _), (1, _)], _, _)) xt_g166 rfl rfl rfl rfl rfl ?_
          refine xe_s (f := (5, _, _, _)) xt_g166 rfl rfl rfl rfl rfl ?_
          exact xe_loc (by intro q hq; simp only [List.mem_cons, List.not_mem_nil, or_false] at hq; rcases hq with rfl | rfl | rfl <;> rfl) (g)
      · try simp only [xb_0, xb_1, ne_eq, Decidable.not_not, Bool.not_eq_false, Bool.not_eq_true, decide_eq_true_eq, decide_eq_false_iff_not] at b11
        have eP : P = (F : Int) := by
          injection b11 with b11
          subst b11
          have := fr_inj (by omega) hF HP' HO
          omega
        rw [if_pos eP]
        refine xe_s (f := (15, _, xi 1 :: _, _)) xt_g166 rfl rfl rfl rfl rfl ?_
        refine xe_iret xt_g166 rfl rfl (xi_bool (by first | omega | exact xb_or _)).1 ?_
        exact ⟨rfl, rfl⟩
/-- isInside -/
theorem k166 (HF : frF w fx h n fr dp) (T : mi_tr fr dp) (hF : F < 16) (hfo : fx F = some fo) (HO : frO w h n fx F X (dp F) fo) {k : Nat} {Y : mf_T} (hk : k < 16) (eY : fr k = some Y) (HY : frO w h n fx k Y (dp k) r) : xR fm 166 (ko w s p ar v h) n [.ref r, .ref fo] (some (xi (xb (ia fr F 6 k)))) := by
  obtain ⟨ad, b1, b2, b3, b4, b5⟩ := HY
  have X1 := (ko_d (w := w) (s := s) (p := p) (ar := ar) (v := v) b2.1).trans b1
  obtain ⟨t1, t2, t3, t4⟩ := T k hk Y eY
  unfold xR
  refine xe_s (f := (1, _, _, _)) xt_g166 rfl rfl rfl rfl rfl ?_
  refine xe_gf xt_g166 rfl (q := 4) rfl (xf_5_16 fm) (X1) (by omega) rfl xm_kn_va ?_
  have g := k166_l (fm := fm) (s := s) (p := p) (ar := ar) (v := v) (z := .ref r) HF T hF hfo HO 5 Y.2.1 (by
    by_cases q : Y.2.1 < 0
    · exact Or.inl q
    · obtain ⟨c1, c2, y', c3, _⟩ := t4 (by omega)
      exact Or.inr ⟨by omega, c1, y', c3, by omega⟩)
  rw [ia_pj (show fr ((k : Int)).toNat = some Y by rw [Int.toNat_natCast]; exact eY)]
  generalize ho : (if Y.2.1 < 0 then none else fx Y.2.1.toNat) = o at g ⊢
  cases o with
  | none =>
    refine xe_s (f := (5, [(2, _), (0, _), (1, _)], _, _)) xt_g166 rfl rfl rfl rfl rfl ?_
    exact xe_loc (by intro q hq; simp only [List.mem_cons, List.not_mem_nil, or_false] at hq; rcases hq with rfl | rfl | rfl <;> rfl) (g)
  | some j =>
    refine xe_s (f := (5, [(2, _), (0, _), (1, _)], _, _)) xt_g166 rfl rfl rfl rfl rfl ?_
    exact xe_loc (by intro q hq; simp only [List.mem_cons, List.not_mem_nil, or_false] at hq; rcases hq with rfl | rfl | rfl <;> rfl) (g)
/-- dropFrame -/
theorem k167 (hn : 64 ≤ n) (HF : frF w fx h n fr dp) (HI : rqI fr rq) (HQ : rqL w ar fx h n rq 24) (hF : F < 16) (hfo : fx F = some fo) (HO : frO w h n fx F X (dp F) fo) : xN fm 167 (ko w s p ar v h) n [.ref 44, .ref fo] (fun h' n' u' => n' = n ∧ u' = 0 ∧ ∃ ar', h' = ko w s p ar' v h ∧ (∀ j, j ≠ 3 → j ≠ 4 → ar' j = ar j) ∧ (∀ j, ar' 3 j = va_up (ar 3) F none j) ∧ rqL w ar' fx h n (fun r => mq_no F (rq r)) 24) := by
  have HO' := HO
  obtain ⟨ad, b1, b2, b3, b4, b5⟩ := HO
  unfold xN
  refine xe_s (f := (1, _, _, _)) xt_g167 rfl rfl rfl rfl rfl ?_
  refine xe_s (f := (2, _, _, _)) xt_g167 rfl rfl rfl rfl rfl ?_
  refine xe_cN xt_g167 rfl rfl rfl (q := 5) rfl (kc_V xk_0_329 rfl (ko_44) (by omega) rfl rfl) xt_g168 (by decide) ⟨Nat.le_of_ble_eq_true rfl, Nat.le_of_ble_eq_true rfl, Nat.le_of_ble_eq_true rfl⟩ (k168 hn HF HI HQ hF hfo HO') (fun h2' n2 c2 u2 hp => ?_)
  obtain ⟨e1, e2, ar2, rfl, f2, HQ2⟩ := hp
  rw [e1, e2]
  have X1 := (ko_d (w := w) (s := s) (p := p) (ar := ar2) (v := v) b2.1).trans b1
  refine xe_s (f := (6, _, _, _)) xt_g167 rfl rfl rfl rfl rfl ?_
  refine xe_gf xt_g167 rfl (q := 9) rfl (xf_0_45 fm) (ko_44) (by omega) rfl rfl ?_
  refine xe_s (f := (10, _, _, _)) xt_g167 rfl rfl rfl rfl rfl ?_
  refine xe_gf xt_g167 rfl (q := 13) rfl (xf_0_216 fm) (X1) (by omega) rfl rfl ?_
  refine xe_s (f := (14, _, _, _)) xt_g167 rfl rfl rfl rfl rfl ?_
  refine xe_kn_57 xt_g167 rfl (q := 15) rfl (by omega) (by omega) (by omega) ?_
  refine xe_ret xt_g167 rfl rfl ?_
  try dsimp only
  refine ⟨rfl, rfl, rfl, _, rfl, fun j h3 h4 => (aw_n h3).trans (f2 j h4), fun j => ?_, ?_⟩
  · rw [aw_s, Int.toNat_natCast, f2 3 (by decide)]
  · intro r hr hr'
    rw [aw_n (show (4 : Nat) ≠ 3 by decide)]
    exact HQ2 r hr hr'
theorem k165_l (hn : 64 ≤ n) (HF : frF w fx h n fr dp) (T : mi_tr fr dp) (HI : rqI fr rq) (hF : F < 16) (hfo : fx F = some fo) (HO : frO w h n fx F X (dp F) fo) : ∀ (m i : Nat) (ar1 : Nat → Nat → Option Nat) (c : Nat), i + m = 16 → (∀ j, j ≠ 3 → j ≠ 4 → ar1 j = ar j) → (∀ f, f < 16 → ar1 3 f = if dc fr F i f = true then none else fx f) → rqL w ar1 fx h n (fun r => mq_fl (dc fr F i) (rq r)) 24 → xe fm 165 (2, [(2, xi (i : Int)), (0, .ref 44), (1, .ref fo)], [], (ko w s p ar1 v h, n, c, 0)) (fun q M => q = .inl none ∧ M.2.1 = n ∧ M.2.2.2 = 0 ∧ ∃ ar', M.1 = ko w s p ar' v h ∧ (∀ j, j ≠ 3 → j ≠ 4 → ar' j = ar j) ∧ (∀ f, f < 16 → ar' 3 f = if dc fr F 16 f = true then none else fx f) ∧ rqL w ar' fx h n (fun r => mq_fl (dc fr F 16) (rq r)) 24) := by
  intro m
  induction m with
  | zero =>
    intro i ar1 c hi f1 f2 HQ
    have e16 : i = 16 := by omega
    subst e16
    refine xe_s (f := (3, _, _, _)) xt_g165 rfl rfl rfl rfl rfl ?_
    refine xe_bipush xt_g165 rfl (q := 5) rfl (by decide) (by decide) ?_
    refine xe_ic_ge xt_g165 rfl (t := 38) rfl (q := 8) rfl (by first | omega | exact xb_r _) (by first | omega | exact xb_r _) (fun b5 => ?_) (fun b5 => ?_)
    · try simp only [xb_0, xb_1, ne_eq, Decidable.not_not, Bool.not_eq_false, Bool.not_eq_true, decide_eq_true_eq, decide_eq_false_iff_not] at b5
      refine xe_ret xt_g165 rfl rfl ?_
      try dsimp only
      exact ⟨rfl, rfl, rfl, ar1, rfl, f1, f2, HQ⟩
    · exact absurd b5 (by omega)
  | succ m ih =>
    intro i ar1 c hi f1 f2 HQ
    have d0 : dc fr F i i = false := by unfold dc; rw [decide_eq_false (Nat.lt_irrefl i), Bool.false_and]
    have e3 : ar1 3 i = fx i := by rw [f2 i (by omega), d0, if_neg (by decide)]
    have no : ia fr F 6 i = false → ∀ c, xe fm 165 (2, [(2, xi ((i : Int) + 1)), (0, .ref 44), (1, .ref fo)], [], (ko w s p ar1 v h, n, c, 0)) (fun q M => q = .inl none ∧ M.2.1 = n ∧ M.2.2.2 = 0 ∧ ∃ ar', M.1 = ko w s p ar' v h ∧ (∀ j, j ≠ 3 → j ≠ 4 → ar' j = ar j) ∧ (∀ f, f < 16 → ar' 3 f = if dc fr F 16 f = true then none else fx f) ∧ rqL w ar' fx h n (fun r => mq_fl (dc fr F 16) (rq r)) 24) := by
      intro ei c
      have g := ih (i + 1) ar1 c (by omega) f1 (fun f hf => by rw [f2 f hf, dc_s, ei, Bool.and_false, Bool.or_false]) (fun r hr hr' => by
        have g := HQ r hr hr'
        dsimp only at g ⊢
        rw [mq_fl_n ei]
        exact g)
      rw [show ((i + 1 : Nat) : Int) = (i : Int) + 1 by omega] at g
      exact g
    have HIi : rqI fr (fun r => mq_fl (dc fr F i) (rq r)) := by
      intro r hr q hq
      refine HI r hr q ?_
      have hq : mq_fl (dc fr F i) (rq r) = some q := hq
      cases g : rq r with
      | none => rw [g] at hq; cases hq
      | some q' =>
        rw [g] at hq
        unfold mq_fl at hq
        dsimp only at hq
        split at hq
        · cases hq
        · exact hq
    cases e : fr i with
    | none =>
      have e4 := (HF i (by omega)).1 e
      have ei : ia fr F 6 i = false := by rw [ia, Int.toNat_natCast, e]
      refine xe_s (f := (3, _, _, _)) xt_g165 rfl rfl rfl rfl rfl ?_
      refine xe_bipush xt_g165 rfl (q := 5) rfl (by decide) (by decide) ?_
      refine xe_ic_ge xt_g165 rfl (t := 38) rfl (q := 8) rfl (by first | omega | exact xb_r _) (by first | omega | exact xb_r _) (fun b5 => ?_) (fun b5 => ?_)
      · exact absurd b5 (by omega)
      · try simp only [xb_0, xb_1, ne_eq, Decidable.not_not, Bool.not_eq_false, Bool.not_eq_true, decide_eq_true_eq, decide_eq_false_iff_not] at b5
        refine xe_s (f := (9, _, _, _)) xt_g165 rfl rfl rfl rfl rfl ?_
        refine xe_gf xt_g165 rfl (q := 12) rfl (xf_0_45 fm) (ko_44) (by omega) rfl rfl ?_
        refine xe_s (f := (13, _, _, _)) xt_g165 rfl rfl rfl rfl rfl ?_
        refine xe_ka_57 xt_g165 rfl (q := 14) rfl (by omega) (by omega) (by omega) ?_
        rw [Int.toNat_natCast, e3, e4, show va_rf none = Value.null from rfl]
        refine xe_s (f := (15, [(3, _), (2, _), (0, _), (1, _)], _, _)) xt_g165 rfl rfl rfl rfl rfl ?_
        refine xe_s (f := (16, _, _, _)) xt_g165 rfl rfl rfl rfl rfl ?_
        refine xe_s (f := (32, _, _, _)) xt_g165 rfl rfl rfl rfl rfl ?_
        refine xe_iinc xt_g165 rfl (q := 35) rfl rfl (by decide) (L1 := [(2, _), (3, _), (0, _), (1, _)]) rfl ?_
        refine xe_s (f := (2, _, _, _)) xt_g165 rfl rfl rfl rfl rfl ?_
        exact xe_loc (by intro q hq; simp only [List.mem_cons, List.not_mem_nil, or_false] at hq; rcases hq with rfl | rfl | rfl <;> rfl) ((no ei c))
    | some Y =>
      obtain ⟨ry, e4, HY⟩ := (HF i (by omega)).2 Y e
      have HY' := HY
      obtain ⟨ad, b1, b2, b3, b4, b5⟩ := HY
      have X1 := (ko_d (w := w) (s := s) (p := p) (ar := ar1) (v := v) b2.1).trans b1
      refine xe_s (f := (3, _, _, _)) xt_g165 rfl rfl rfl rfl rfl ?_
      refine xe_bipush xt_g165 rfl (q := 5) rfl (by decide) (by decide) ?_
      refine xe_ic_ge xt_g165 rfl (t := 38) rfl (q := 8) rfl (by first | omega | exact xb_r _) (by first | omega | exact xb_r _) (fun b5 => ?_) (fun b5 => ?_)
      · exact absurd b5 (by omega)
      · try simp only [xb_0, xb_1, ne_eq, Decidable.not_not, Bool.not_eq_false, Bool.not_eq_true, decide_eq_true_eq, decide_eq_false_iff_not] at b5
        refine xe_s (f := (9, _, _, _)) xt_g165 rfl rfl rfl rfl rfl ?_
        refine xe_gf xt_g165 rfl (q := 12) rfl (xf_0_45 fm) (ko_44) (by omega) rfl rfl ?_
        refine xe_s (f := (13, _, _, _)) xt_g165 rfl rfl rfl rfl rfl ?_
        refine xe_ka_57 xt_g165 rfl (q := 14) rfl (by omega) (by omega) (by omega) ?_
        rw [Int.toNat_natCast, e3, e4, va_some]
        refine xe_s (f := (15, [(3, _), (2, _), (0, _), (1, _)], _, _)) xt_g165 rfl rfl rfl rfl rfl ?_
        refine xe_s (f := (16, _, _, _)) xt_g165 rfl rfl rfl rfl rfl ?_
        refine xe_s (f := (19, _, _, _)) xt_g165 rfl rfl rfl rfl rfl ?_
        refine xe_s (f := (20, _, _, _)) xt_g165 rfl rfl rfl rfl rfl ?_
        refine xe_s (f := (21, _, _, _)) xt_g165 rfl rfl rfl rfl rfl ?_
        refine xe_cR xt_g165 rfl rfl rfl (q := 24) rfl (kc_V xk_0_332 rfl (X1) (by omega) rfl rfl) xt_g166 (by decide) ⟨Nat.le_of_ble_eq_true rfl, Nat.le_of_ble_eq_true rfl, Nat.le_of_ble_eq_true rfl⟩ (k166 HF T hF hfo HO (by omega) e HY') ?_
        refine xe_if_eq xt_g165 rfl (t := 32) rfl (q := 27) rfl (by first | omega | exact xb_r _) (fun b24 => ?_) (fun b24 => ?_)
        · try simp only [xb_0, xb_1, ne_eq, Decidable.not_not, Bool.not_eq_false, Bool.not_eq_true, decide_eq_true_eq, decide_eq_false_iff_not] at b24
          refine xe_iinc xt_g165 rfl (q := 35) rfl rfl (by decide) (L1 := [(2, _), (3, _), (0, _), (1, _)]) rfl ?_
          refine xe_s (f := (2, _, _, _)) xt_g165 rfl rfl rfl rfl rfl ?_
          exact xe_loc (by intro q hq; simp only [List.mem_cons, List.not_mem_nil, or_false] at hq; rcases hq with rfl | rfl | rfl <;> rfl) ((no b24 c))
        · try simp only [xb_0, xb_1, ne_eq, Decidable.not_not, Bool.not_eq_false, Bool.not_eq_true, decide_eq_true_eq, decide_eq_false_iff_not] at b24
          refine xe_s (f := (28, _, _, _)) xt_g165 rfl rfl rfl rfl rfl ?_
          refine xe_s (f := (29, _, _, _)) xt_g165 rfl rfl rfl rfl rfl ?_
          refine xe_cN xt_g165 rfl rfl rfl (q := 32) rfl (kc_V xk_0_157 rfl (ko_44) (by omega) rfl rfl) xt_g167 (by decide) ⟨Nat.le_of_ble_eq_true rfl, Nat.le_of_ble_eq_true rfl, Nat.le_of_ble_eq_true rfl⟩ (k167 hn HF HIi HQ (by omega) e4 HY') (fun h3' n3 c3 u3 hp => ?_)
          obtain ⟨e1, e2, ar2, rfl, g1, g2, g3⟩ := hp
          rw [e1, e2]
          refine xe_iinc xt_g165 rfl (q := 35) rfl rfl (by decide) (L1 := [(2, _), (3, _), (0, _), (1, _)]) rfl ?_
          refine xe_s (f := (2, _, _, _)) xt_g165 rfl rfl rfl rfl rfl ?_
          have g := ih (i + 1) ar2 (c + c3) (by omega) (fun j h3 h4 => (g1 j h3 h4).trans (f1 j h3 h4)) (fun f hf => by
            rw [g2 f, dc_s, b24, Bool.and_true]
            by_cases q : f = i
            · rw [q, va_up_s, decide_eq_true rfl, Bool.or_true, if_pos rfl]
            · rw [va_up_n q, f2 f hf, decide_eq_false q, Bool.or_false]) (fun r hr hr' => by
            have g := g3 r hr hr'
            dsimp only at g ⊢
            rw [mq_fl_s (fun q hq => (HI r hr q hq).1) b24]
            exact g)
          rw [show ((i + 1 : Nat) : Int) = (i : Int) + 1 by omega] at g
          exact xe_loc (by intro q hq; simp only [List.mem_cons, List.not_mem_nil, or_false] at hq; rcases hq with rfl | rfl | rfl <;> rfl) (g)
/-- dropFramesInside -/
theorem k165 (hn : 64 ≤ n) (HF : frF w fx h n fr dp) (T : mi_tr fr dp) (HI : rqI fr rq) (HQ : rqL w ar fx h n rq 24) (hF : F < 16) (hfo : fx F = some fo) (HO : frO w h n fx F X (dp F) fo) (h3 : ∀ f, f < 16 → ar 3 f = fx f) : xN fm 165 (ko w s p ar v h) n [.ref 44, .ref fo] (fun h' n' u' => n' = n ∧ u' = 0 ∧ ∃ ar', h' = ko w s p ar' v h ∧ (∀ j, j ≠ 3 → j ≠ 4 → ar' j = ar j) ∧ (∀ f, f < 16 → ar' 3 f = if dc fr F 16 f = true then none else fx f) ∧ rqL w ar' fx h n (fun r => mq_fl (dc fr F 16) (rq r)) 24) := by
  unfold xN
  refine xe_s (f := (1, _, xi 0 :: _, _)) xt_g165 rfl rfl rfl rfl rfl ?_
  refine xe_s (f := (2, [(2, _), (0, _), (1, _)], _, _)) xt_g165 rfl rfl rfl rfl rfl ?_
  exact xe_loc (by intro q hq; simp only [List.mem_cons, List.not_mem_nil, or_false] at hq; rcases hq with rfl | rfl | rfl <;> rfl) ((k165_l hn HF T HI hF hfo HO 16 0 ar 0 rfl (fun _ _ _ => rfl) (fun f hf => by rw [h3 f hf]; unfold dc; rw [decide_eq_false (Nat.not_lt_zero f), Bool.false_and, if_neg (by decide)]) (fun r hr hr' => by dsimp only; rw [mq_fl_0]; exact HQ r hr hr')))
end XBM2
