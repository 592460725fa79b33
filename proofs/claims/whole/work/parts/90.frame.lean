/-! runs without fuel and depth -/
def xt_dpl : List Nat := [5, 3, 2, 1, 0, 4, 0, 0, 0, 1, 0, 6, 1, 0, 5, 4, 8, 7, 4, 3, 2, 1, 0, 1, 0, 3, 2, 0, 1, 0, 1, 1, 0, 6, 1, 5, 4, 3, 2, 1, 0, 5, 5, 4, 0, 0, 3, 2, 7, 6, 5, 0, 2, 1, 0, 4, 3, 1, 0, 2, 1, 0, 2, 5, 4, 0, 3, 2, 1, 0, 9, 8, 7, 5, 0, 1, 0, 4, 3, 6, 5, 4, 0, 2, 5, 4, 2, 3, 0, 0, 3, 2, 1, 0, 0, 0, 1, 0, 0, 13, 12, 9, 8, 6, 3, 0, 5, 10, 6, 0, 5, 9, 1, 7, 5, 2, 11, 7, 5, 11, 10, 9, 6, 3, 2, 0, 0, 0, 0, 1, 0, 11, 1, 0, 0, 10, 9, 0, 7, 6, 5, 6, 2, 1, 0, 13, 0, 3, 2, 3, 0, 2, 0, 1, 1, 2, 0, 6, 5, 0, 6, 0, 4, 3, 1, 2, 0, 1, 0, 3, 2, 14, 13, 1, 2, 14, 13, 3, 2, 14, 13, 10, 9, 1, 3, 3, 13, 12, 11, 1, 0, 10, 5, 7, 0, 0, 9, 8, 7, 6, 8, 7, 6, 5, 1, 0, 0, 4, 3, 2, 3, 0, 0, 0, 7, 0, 3, 2, 9, 7, 8, 14, 13, 0, 14, 13, 3, 1, 11, 10, 13, 12, 6, 5, 4, 3, 0, 6, 5, 4, 15, 14, 13, 0, 0, 0, 3, 2, 1, 0, 1, 0, 0, 0, 0, 0, 10, 7, 1, 5, 1, 2, 3, 2, 4, 3, 1, 0, 6, 1, 0, 3, 2, 4, 5, 0, 0, 0, 9, 0, 8, 7, 0, 1, 0, 6, 5, 0, 4, 0, 1, 0, 0, 0, 0, 1, 10, 10, 0, 0, 1, 10, 5, 4, 9, 6, 0, 2, 5, 8, 7, 1, 0, 0, 1, 0, 3, 1, 2, 1, 6, 1, 5, 5, 4, 0, 3, 2, 1, 0, 8, 8, 7, 0, 8, 6, 5, 6, 8, 1, 2, 2, 1, 1, 0, 0, 0, 0, 16]
def xt_dp (y : Nat) : Nat := xt_dpl.getD y 0
def xq_F (P : xm_P) (n0 : Nat) (rec : Nat → Nat → xm_F → Option xm_R) (d y : Nat) (f : xm_F) : Option xm_R := match xm_mt P y with
  | none => none
  | some Y => match Y.2.2.2.2.2 f.1 with
    | none => none
    | some (ins, ln) => match xm_end Y ins f.2.2.1 with
      | some v => some (.inl v, f.2.2.2)
      | none => match xm_thr P Y ins f.1 f.2.2.1 f.2.2.2 with
        | some r => some r
        | none => match xm_call P Y.1.cls ins f.2.2.1 f.2.2.2 with
          | some (y', As, r) => match d, xm_mt P y' with
            | d' + 1, some Y' => if (lg_sl As).length ≤ Y'.2.2.1 ∧ Y'.2.2.1 ≤ 41 ∧ (r.map fun v => v.category).sum ≤ 8 then
                match rec d' y' (0, lv_args 0 As, [], (f.2.2.2.1, f.2.2.2.2.1, 0, 0)) with
                | some (.inl v, m') => rec (d' + 1) y (f.1 + 3, f.2.1, v.toList ++ r, xm_add f.2.2.2 m')
                | some (.inr x, m') => match xm_hnd P Y f.1 x m' with
                  | some (some h) => rec (d' + 1) y (h, f.2.1, [.ref x], xm_add f.2.2.2 m')
                  | some none => some (.inr x, xm_add f.2.2.2 m')
                  | none => none
                | none => none
              else none
            | _, _ => none
          | none => match xm_st (xm_X P) Y.1.cls (decide (Y.1.name = "<init>")) Y.2.2.1 n0 ins f.1 f.2.1 f.2.2.1 f.2.2.2 with
            | some f' => rec d y f'
            | none => none
theorem xq_run (P : xm_P) (n0 k d y : Nat) (f : xm_F) : xm_run P n0 (k + 1) d y f = xq_F P n0 (xm_run P n0 k) d y f := by
  rw [xm_run]
  rfl
theorem xq_mono {P : xm_P} {n0 : Nat} {rec rec' : Nat → Nat → xm_F → Option xm_R} (h : ∀ (d y : Nat) (f : xm_F) (r : xm_R), rec d y f = some r → ∀ d', d ≤ d' → rec' d' y f = some r) (d y : Nat) (f : xm_F) (r : xm_R) (hr : xq_F P n0 rec d y f = some r) (d' : Nat) (hd : d ≤ d') : xq_F P n0 rec' d' y f = some r := by
  unfold xq_F at hr ⊢
  split at hr
  · cases hr
  · rename_i Y hY
    try rw [hY]
    try dsimp only
    split at hr
    · cases hr
    · rename_i ins ln hi
      try rw [hi]
      try dsimp only
      split at hr
      · rename_i v hv
        try rw [hv]
        exact hr
      · rename_i hv
        try rw [hv]
        try dsimp only
        split at hr
        · rename_i r' hr'
          try rw [hr']
          exact hr
        · rename_i hr'
          try rw [hr']
          try dsimp only
          split at hr
          · rename_i y' As r0 hca
            try rw [hca]
            try dsimp only
            split at hr
            · rename_i d0 Y' hY'
              obtain ⟨e, rfl⟩ : ∃ e, d' = e + 1 := ⟨d' - 1, by omega⟩
              try rw [hY']
              try dsimp only
              split at hr
              · rename_i hc
                rw [if_pos hc]
                split at hr
                · rename_i v m' hrun
                  rw [h _ _ _ _ hrun e (by omega)]
                  try dsimp only
                  exact h _ _ _ _ hr _ (by omega)
                · rename_i x m' hrun
                  rw [h _ _ _ _ hrun e (by omega)]
                  try dsimp only
                  split at hr
                  · rename_i hh heq
                    try rw [heq]
                    exact h _ _ _ _ hr _ (by omega)
                  · rename_i heq
                    try rw [heq]
                    exact hr
                  · cases hr
                · cases hr
              · cases hr
            · cases hr
          · rename_i hca
            try rw [hca]
            try dsimp only
            split at hr
            · rename_i f' hst
              try rw [hst]
              exact h _ _ _ _ hr _ hd
            · cases hr
theorem xm_run_mono {P : xm_P} {n0 : Nat} : ∀ (k d y : Nat) (f : xm_F) (r : xm_R), xm_run P n0 k d y f = some r → ∀ k' d', k ≤ k' → d ≤ d' → xm_run P n0 k' d' y f = some r := by
  intro k
  induction k with
  | zero => intro d y f r h; cases h
  | succ k ih =>
    intro d y f r h k' d' hk hd
    obtain ⟨e, rfl⟩ : ∃ e, k' = e + 1 := ⟨k' - 1, by omega⟩
    rw [xq_run] at h ⊢
    exact xq_mono (fun d y f r h d' hd => ih d y f r h e d' (by omega) hd) d y f r h d' hd
abbrev xe_Q : Type := (Option Value ⊕ Nat) → xm_M → Prop
/-- method y, begun at f, comes to Q -/
def xe (fm : Value) (y : Nat) (f : xm_F) (Q : xe_Q) : Prop := ∃ (k : Nat) (r : Option Value ⊕ Nat) (m : xm_M), xm_run (xt_P fm) 44 k (xt_dp y) y f = some (r, m) ∧ Q r m
section XE
variable {fm : Value} {y pc : Nat} {L : xm_L} {S : List Value} {M : xm_M} {Q Q' : xe_Q} {D D' : xt_D} {ins : Instr} {ln : Nat}
theorem xe_mono {f : xm_F} (h : xe fm y f Q') (hq : ∀ r m, Q' r m → Q r m) : xe fm y f Q := by
  obtain ⟨k, r, m, h1, h2⟩ := h
  exact ⟨k, r, m, h1, hq r m h2⟩
theorem xe_mt (hy : xt_md[y]? = some D) : xm_mt (xt_P fm) y = some (xt_y D) := by
  show (xt_md[y]?).map xt_y = _
  rw [hy]
  rfl
/-- one instruction that is no call and no end -/
theorem xe_s (hy : xt_md[y]? = some D) (hi : xt_lk D.2.2.2.2.2 pc = some (ins, ln)) (he : xm_end (xt_y D) ins S = none) (ht : xm_thr (xt_P fm) (xt_y D) ins pc S M = none) (hc : xm_call (xt_P fm) D.1.cls ins S M = none) {f : xm_F} (hs : xm_st (xt_X fm) D.1.cls (decide (D.1.name = "<init>")) D.2.2.1 44 ins pc L S M = some f) (kk : xe fm y f Q) : xe fm y (pc, L, S, M) Q := by
  obtain ⟨k, r, m, h1, h2⟩ := kk
  refine ⟨k + 1, r, m, ?_, h2⟩
  rw [xq_run]
  unfold xq_F
  rw [xe_mt hy]
  dsimp only
  rw [show (xt_y D).2.2.2.2.2 pc = some (ins, ln) from hi]
  dsimp only
  rw [he]
  dsimp only
  rw [ht]
  dsimp only
  rw [show xm_call (xt_P fm) (xt_y D).1.cls ins S M = none from hc]
  dsimp only
  rw [show xm_st (xm_X (xt_P fm)) (xt_y D).1.cls (decide ((xt_y D).1.name = "<init>")) (xt_y D).2.2.1 44 ins pc L S M = some f from hs]
  exact h1
theorem xe_ret (hy : xt_md[y]? = some D) (hi : xt_lk D.2.2.2.2.2 pc = some (ins, ln)) {v : Option Value} (he : xm_end (xt_y D) ins S = some v) (hq : Q (.inl v) M) : xe fm y (pc, L, S, M) Q := by
  refine ⟨1, .inl v, M, ?_, hq⟩
  rw [xq_run]
  unfold xq_F
  rw [xe_mt hy]
  dsimp only
  rw [show (xt_y D).2.2.2.2.2 pc = some (ins, ln) from hi]
  dsimp only
  rw [he]
theorem xe_thr (hy : xt_md[y]? = some D) (hi : xt_lk D.2.2.2.2.2 pc = some (ins, ln)) (he : xm_end (xt_y D) ins S = none) {r : xm_R} (ht : xm_thr (xt_P fm) (xt_y D) ins pc S M = some r) (hq : Q r.1 r.2) : xe fm y (pc, L, S, M) Q := by
  refine ⟨1, r.1, r.2, ?_, hq⟩
  rw [xq_run]
  unfold xq_F
  rw [xe_mt hy]
  dsimp only
  rw [show (xt_y D).2.2.2.2.2 pc = some (ins, ln) from hi]
  dsimp only
  rw [he]
  dsimp only
  rw [ht]
/-- what becomes of an exception -/
def xe_x (fm : Value) (y : Nat) (D : xt_D) (pc : Nat) (L : xm_L) (M : xm_M) (Q : xe_Q) (x : Nat) (m : xm_M) : Prop := match xm_hnd (xt_P fm) (xt_y D) pc x m with
  | some (some h) => xe fm y (h, L, [.ref x], xm_add M m) Q
  | some none => Q (.inr x) (xm_add M m)
  | none => False
theorem xe_call (hy : xt_md[y]? = some D) (hi : xt_lk D.2.2.2.2.2 pc = some (ins, ln)) (he : xm_end (xt_y D) ins S = none) (ht : xm_thr (xt_P fm) (xt_y D) ins pc S M = none) {y' : Nat} {As r0 : List Value} (hc : xm_call (xt_P fm) D.1.cls ins S M = some (y', As, r0)) (hy' : xt_md[y']? = some D') (hd : xt_dp y' < xt_dp y)
    (hsl : (lg_sl As).length ≤ D'.2.2.1 ∧ D'.2.2.1 ≤ 41 ∧ (r0.map fun v => v.category).sum ≤ 8) (hf : xe fm y' (0, lv_args 0 As, [], (M.1, M.2.1, 0, 0)) Q')
    (kk : ∀ v m, Q' (.inl v) m → xe fm y (pc + 3, L, v.toList ++ r0, xm_add M m) Q) (kx : ∀ x m, Q' (.inr x) m → xe_x fm y D pc L M Q x m) : xe fm y (pc, L, S, M) Q := by
  obtain ⟨k1, r1, m1, h1, q1⟩ := hf
  obtain ⟨e, hde⟩ : ∃ e, xt_dp y = e + 1 := ⟨xt_dp y - 1, by omega⟩
  have run : ∀ K, k1 ≤ K → xm_run (xt_P fm) 44 (K + 1) (xt_dp y) y (pc, L, S, M) = (match (some (r1, m1) : Option xm_R) with
      | some (.inl v, m') => xm_run (xt_P fm) 44 K (xt_dp y) y (pc + 3, L, v.toList ++ r0, xm_add M m')
      | some (.inr x, m') => match xm_hnd (xt_P fm) (xt_y D) pc x m' with
        | some (some h) => xm_run (xt_P fm) 44 K (xt_dp y) y (h, L, [.ref x], xm_add M m')
        | some none => some (.inr x, xm_add M m')
        | none => none
      | none => none) := by
    intro K hK
    have h1' := xm_run_mono _ _ _ _ _ h1 K e hK (by omega)
    rw [xq_run, hde]
    unfold xq_F
    rw [xe_mt hy]
    dsimp only
    rw [show (xt_y D).2.2.2.2.2 pc = some (ins, ln) from hi]
    dsimp only
    rw [he]
    dsimp only
    rw [ht]
    dsimp only
    rw [show xm_call (xt_P fm) (xt_y D).1.cls ins S M = some (y', As, r0) from hc]
    dsimp only
    rw [xe_mt hy']
    dsimp only
    rw [if_pos (show (lg_sl As).length ≤ (xt_y D').2.2.1 ∧ (xt_y D').2.2.1 ≤ 41 ∧ (r0.map fun v => v.category).sum ≤ 8 from hsl), h1']
  cases r1 with
  | inl v =>
    obtain ⟨k2, r2, m2, h2, q2⟩ := kk v m1 q1
    refine ⟨max k1 k2 + 1, r2, m2, ?_, q2⟩
    rw [run _ (Nat.le_max_left _ _)]
    exact xm_run_mono _ _ _ _ _ h2 _ _ (Nat.le_max_right _ _) (Nat.le_refl _)
  | inr x =>
    have hx := kx x m1 q1
    unfold xe_x at hx
    split at hx
    · rename_i h heq
      obtain ⟨k2, r2, m2, h2, q2⟩ := hx
      refine ⟨max k1 k2 + 1, r2, m2, ?_, q2⟩
      rw [run _ (Nat.le_max_left _ _)]
      dsimp only
      rw [heq]
      exact xm_run_mono _ _ _ _ _ h2 _ _ (Nat.le_max_right _ _) (Nat.le_refl _)
    · rename_i heq
      refine ⟨k1 + 1, .inr x, xm_add M m1, ?_, hx⟩
      rw [run _ (Nat.le_refl _)]
      dsimp only
      rw [heq]
    · exact hx.elim
end XE
/-! fewer locals -/
def xl_sub (L' L : xm_L) : Prop := ∀ q ∈ L', xm_get L q.1 = some q.2
theorem xl_same {L : xm_L} {i : Nat} {v : Value} : xm_get (xm_s1 L i v) i = some v := by
  unfold xm_s1 xm_get
  rw [if_pos rfl]
theorem xl_same2 {L : xm_L} {i : Nat} {v : Value} : xm_get (xm_s2 L i v) i = some v := by
  unfold xm_s2 xm_get
  rw [if_pos rfl]
theorem xl_filter {p : Nat × Value → Bool} {j : Nat} {w : Value} (hp : p (j, w) = true) : ∀ {L : xm_L}, xm_get L j = some w → xm_get (L.filter p) j = some w
  | [], h => by cases h
  | q :: r, h => by
    unfold xm_get at h
    split at h
    · rename_i hq
      cases h
      obtain ⟨a, b⟩ := q
      cases hq
      rw [List.filter_cons_of_pos hp]
      unfold xm_get
      rw [if_pos rfl]
    · rename_i hq
      have ih := xl_filter hp h
      by_cases hpq : p q = true
      · rw [List.filter_cons_of_pos hpq]
        unfold xm_get
        rw [if_neg hq]
        exact ih
      · rw [List.filter_cons_of_neg hpq]
        exact ih
theorem xl_sub_s1 {L L' : xm_L} {i : Nat} {v : Value} (h : xl_sub L' L) : xl_sub (xm_s1 L' i v) (xm_s1 L i v) := by
  intro q hq
  rcases List.mem_cons.mp hq with rfl | hq
  · exact xl_same
  · obtain ⟨h1, h2⟩ := List.mem_filter.mp hq
    unfold xm_s1 xm_get
    rw [if_neg]
    · exact xl_filter (p := fun q => !(q.1 == i) && !(q.1 + 1 == i && q.2.category == 2)) h2 (h q h1)
    · intro e
      simp [← e] at h2
theorem xl_sub_s2 {L L' : xm_L} {i : Nat} {v : Value} (h : xl_sub L' L) : xl_sub (xm_s2 L' i v) (xm_s2 L i v) := by
  intro q hq
  rcases List.mem_cons.mp hq with rfl | hq
  · exact xl_same2
  · obtain ⟨h1, h2⟩ := List.mem_filter.mp hq
    unfold xm_s2 xm_get
    rw [if_neg]
    · exact xl_filter (p := fun q => !(q.1 == i) && (!(q.1 == i + 1) && !(q.1 + 1 == i && q.2.category == 2))) h2 (h q h1)
    · intro e
      simp [← e] at h2
def xl_ok (L : xm_L) (f' : xm_F) (r : Option xm_F) : Prop := ∃ L1, r = some (f'.1, L1, f'.2.2) ∧ xl_sub f'.2.1 L1
theorem xl_ld {ok : Value → Bool} {a i pc : Nat} {L L' : xm_L} {S : List Value} {m : xm_M} {f' : xm_F} (hle : xl_sub L' L) (h : xm_ld ok a i pc L' S m = some f') : xl_ok L f' (xm_ld ok a i pc L S m) := by
  unfold xm_ld at h ⊢
  split at h
  · rename_i v hv
    rw [hle _ (xm_get_mem hv)]
    try dsimp only
    split at h
    · rename_i hok
      cases h
      try rw [if_pos hok]
      exact ⟨L, rfl, hle⟩
    · cases h
  · cases h
theorem xl_sto {ok : Value → Bool} {a i nL pc : Nat} {L L' : xm_L} {S : List Value} {m : xm_M} {f' : xm_F} (hle : xl_sub L' L) (h : xm_sto ok a i nL pc L' S m = some f') : xl_ok L f' (xm_sto ok a i nL pc L S m) := by
  unfold xm_sto at h ⊢
  split at h
  · split at h
    · rename_i hok
      cases h
      try dsimp only
      try rw [if_pos hok]
      exact ⟨_, rfl, xl_sub_s1 hle⟩
    · cases h
  · cases h
theorem xl_stl {a i nL pc : Nat} {L L' : xm_L} {S : List Value} {m : xm_M} {f' : xm_F} (hle : xl_sub L' L) (h : xm_stl a i nL pc L' S m = some f') : xl_ok L f' (xm_stl a i nL pc L S m) := by
  unfold xm_stl at h ⊢
  split at h
  · split at h
    · rename_i hok
      cases h
      try dsimp only
      try rw [if_pos hok]
      exact ⟨_, rfl, xl_sub_s2 hle⟩
    · cases h
  · cases h
theorem xl_inc {i nL pc : Nat} {k : Int} {L L' : xm_L} {S : List Value} {m : xm_M} {f' : xm_F} (hle : xl_sub L' L) (h : xm_inc i k nL pc L' S m = some f') : xl_ok L f' (xm_inc i k nL pc L S m) := by
  unfold xm_inc at h ⊢
  split at h
  · rename_i x hx
    rw [hle _ (xm_get_mem hx)]
    try dsimp only
    split at h
    · rename_i hok
      cases h
      try rw [if_pos hok]
      exact ⟨_, rfl, xl_sub_s1 hle⟩
    · cases h
  · cases h
theorem xl_br {c : Bool} {off : Int} {pc : Nat} {L L' : xm_L} {r : List Value} {m : xm_M} {f' : xm_F} (hle : xl_sub L' L) (h : xm_br c off pc L' r m = some f') : xl_ok L f' (xm_br c off pc L r m) := by
  unfold xm_br at h ⊢
  split at h
  · cases h
    exact ⟨L, rfl, hle⟩
  · cases h
set_option maxHeartbeats 4000000 in
theorem xl_st {X : xm_T} {own : String} {ini : Bool} {nL n0 pc : Nat} {ins : Instr} {L L' : xm_L} {S : List Value} {m : xm_M} {f' : xm_F} (hle : xl_sub L' L) (h : xm_st X own ini nL n0 ins pc L' S m = some f') : xl_ok L f' (xm_st X own ini nL n0 ins pc L S m) := by
  unfold xm_st at h ⊢
  split at h <;> first
    | (cases h; done)
    | exact xl_ld hle h
    | exact xl_sto hle h
    | exact xl_stl hle h
    | exact xl_inc hle h
    | (cases h; exact ⟨L, rfl, hle⟩)
    | ((try simp only [xm_ii, xm_id, xm_c1, xm_il, xm_li, xm_ll, xm_ldv, xm_lsh, xm_lc, xm_sk, xm_b1, xm_b2, xm_ba, xm_bn, xm_lsw, xm_tsw, xm_gf, xm_pf, xm_pus, xm_al, xm_aq, xm_lal, xm_las, xm_ins, xm_cas, xm_csa, xm_cln, xm_as, xm_asq, xm_alen, xm_new, xm_nwa, xm_nwq, xm_acp] at h ⊢)
       repeat' (split at h)
       all_goals first
         | (cases h; done)
         | exact xl_br hle h
         | (cases h; exact ⟨L, rfl, hle⟩)
         | (cases h; refine ⟨L, ?_, hle⟩; rw [if_pos (by assumption)]; done)
         | (cases h; refine ⟨L, ?_, hle⟩; rw [if_neg (by assumption)]; done)
         | (cases h; refine ⟨L, ?_, hle⟩; simp_all; done))
theorem xl_run {P : xm_P} {n0 : Nat} : ∀ (k d y pc : Nat) (L L' : xm_L) (S : List Value) (m : xm_M) (r : xm_R), xl_sub L' L → xm_run P n0 k d y (pc, L', S, m) = some r → xm_run P n0 k d y (pc, L, S, m) = some r := by
  intro k
  induction k with
  | zero => intro d y pc L L' S m r _ h; cases h
  | succ k ih =>
    intro d y pc L L' S m r hle h
    rw [xq_run] at h ⊢
    unfold xq_F at h ⊢
    split at h
    · cases h
    · rename_i Y hY
      try rw [hY]
      try dsimp only at h ⊢
      split at h
      · cases h
      · rename_i ins ln hi
        try rw [hi]
        try dsimp only
        split at h
        · rename_i v hv
          try rw [hv]
          exact h
        · rename_i hv
          try rw [hv]
          try dsimp only
          split at h
          · rename_i r' hr'
            try rw [hr']
            exact h
          · rename_i hr'
            try rw [hr']
            try dsimp only
            split at h
            · rename_i y' As r0 hca
              try rw [hca]
              try dsimp only
              split at h
              · rename_i d0 Y' hY'
                try rw [hY']
                try dsimp only
                split at h
                · rename_i hc
                  rw [if_pos hc]
                  split at h
                  · rename_i v m' hrun
                    try rw [hrun]
                    exact ih _ _ _ _ _ _ _ _ hle h
                  · rename_i x m' hrun
                    try rw [hrun]
                    try dsimp only
                    split at h
                    · rename_i hh heq
                      try rw [heq]
                      exact ih _ _ _ _ _ _ _ _ hle h
                    · rename_i heq
                      try rw [heq]
                      exact h
                    · cases h
                  · cases h
                · cases h
              · cases h
            · rename_i hca
              try rw [hca]
              try dsimp only
              split at h
              · rename_i f' hst
                obtain ⟨L1, e1, hle1⟩ := xl_st hle hst
                rw [e1]
                exact ih _ _ _ _ _ _ _ _ hle1 h
              · cases h
/-- with fewer locals, in another order -/
theorem xe_loc {fm : Value} {y pc : Nat} {L L' : xm_L} {S : List Value} {M : xm_M} {Q : xe_Q} (hle : xl_sub L' L) (h : xe fm y (pc, L', S, M) Q) : xe fm y (pc, L, S, M) Q := by
  obtain ⟨k, r, m, h1, h2⟩ := h
  exact ⟨k, r, m, xl_run _ _ _ _ _ _ _ _ _ hle h1, h2⟩
