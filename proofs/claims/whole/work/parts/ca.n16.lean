/-! the law from its first instruction, and the claim -/
def q0 (L : Nat) (xs : Nat → Int32) : Int := if 0 < L then (xs 0).toInt else 0
theorem q0_r {L : Nat} {xs : Nat → Int32} : xr (q0 L xs) := by
  unfold q0
  split
  · exact xj_r _
  · decide
theorem qc_qz {q : Int} : qc q = qz q := by
  unfold qc qm qz
  by_cases a : q < 40
  · rw [if_pos a]
    by_cases b : q < 1
    · rw [if_pos b, if_neg (by omega)]
    · rw [if_neg b, if_neg (show ¬ 40 < q by omega)]
      by_cases d : 1 < q
      · rw [if_pos d]
      · rw [if_neg d]
        omega
  · rw [if_neg a, if_pos (by decide), if_neg (by omega)]
    by_cases b : 40 < q
    · rw [if_pos b]
    · rw [if_neg b]
      omega
theorem qz_b {q : Int} : 1 ≤ qz q ∧ qz q ≤ 40 := by
  unfold qz
  split
  · decide
  · split
    · decide
    · omega
section XCA
variable {fm : Value} {h H h1 : xm_H} {n L : Nat} {xs : Nat → Int32} {q : Int}
theorem k161 (e0 : h 0 = .inl (0, L, .inl xs)) (hn : 0 < n) (hL : L ≤ 2049) : xR fm 161 h n [.ref 0, xi 0] (some (xi (q0 L xs))) := by
  unfold xR
  refine xe_s (f := (1, _, _, _)) xt_g161 rfl rfl rfl rfl rfl ?_
  refine xe_s (f := (2, _, _, _)) xt_g161 rfl rfl rfl rfl rfl ?_
  refine xe_alen xt_g161 rfl (q := 3) rfl (e0) (by decide) (by omega) ?_
  refine xe_ic_ge xt_g161 rfl (t := 12) rfl (q := 6) rfl (by first | omega | exact xb_r _) (by first | omega | exact xb_r _) (fun b3 => ?_) (fun b3 => ?_)
  · try simp only [xb_0, xb_1, ne_eq, Decidable.not_not, Bool.not_eq_false, Bool.not_eq_true, decide_eq_true_eq, decide_eq_false_iff_not] at b3
    rw [show q0 L xs = 0 from if_neg (by omega)]
    refine xe_s (f := (13, _, xi 0 :: _, _)) xt_g161 rfl rfl rfl rfl rfl ?_
    refine xe_iret xt_g161 rfl rfl xi_int.1 ?_
    exact ⟨rfl, rfl⟩
  · try simp only [xb_0, xb_1, ne_eq, Decidable.not_not, Bool.not_eq_false, Bool.not_eq_true, decide_eq_true_eq, decide_eq_false_iff_not] at b3
    rw [show q0 L xs = (xs 0).toInt from if_pos (by omega)]
    refine xe_s (f := (7, _, _, _)) xt_g161 rfl rfl rfl rfl rfl ?_
    refine xe_s (f := (8, _, _, _)) xt_g161 rfl rfl rfl rfl rfl ?_
    refine xe_al (ok := xm_isN) (ty := .int) xt_g161 rfl (q := 9) rfl (fun _ _ => ⟨rfl, rfl, rfl, rfl⟩) (e0) rfl rfl (by omega) (by omega) (by omega) (by omega) ((Int32.ofInt_toInt _).symm) ?_
    refine xe_s (f := (13, _, _, _)) xt_g161 rfl rfl rfl rfl rfl ?_
    refine xe_iret xt_g161 rfl rfl xi_int.1 ?_
    exact ⟨rfl, rfl⟩
theorem xe_nwl {y pc r' c u : Nat} {Ls : xm_L} {Q : xe_Q} {D : xt_D} {r : List Value} {Ty : ArrayType} (hy : xt_md[y]? = some D) (hi : xt_lk D.2.2.2.2.2 pc = some (.newarray Ty, 2)) (hq : pc + 2 = r') (hA : newarray.typeOf Ty = .long) (kk : xe fm y (r', Ls, .ref n :: r, (va_up h n (.inl (4, 1, .inr (.inl (fun _ => 0)))), n + 1, c + 1, u + 1)) Q) : xe fm y (pc, Ls, xi 1 :: r, (h, n, c, u)) Q := by
  subst hq
  refine xe_s hy hi rfl rfl rfl (f := (pc + 2, Ls, .ref n :: r, (va_up h n (.inl (4, 1, .inr (.inl (fun _ => 0)))), n + 1, c + 1, u + 1))) ?_ kk
  show xm_nwa (xt_X fm) (newarray.typeOf Ty) pc Ls (xi 1 :: r) (h, n, c, u) = _
  rw [hA]
  unfold xm_nwa
  dsimp only [xm_tag]
  rw [if_pos ⟨rfl, by decide, by decide⟩]
  rfl
/-! the old texts -/
theorem gd_old {a : Nat} (ha : a < 44) : gd k_w a := ⟨Or.inl ha, show a ≠ 46 by omega, show a ≠ 48 by omega, show a ≠ 51 by omega, by omega⟩
theorem str_ho (e : ∀ a, a < 44 → H a = xs_ho L xs a) {r : Nat} {l : List Int} (hr : r % 2 = 1 ∧ r < 41) (hl : (xs_A.getD ((r - 1) / 2) []).length = l.length) (hb : ∀ i, i < l.length → (xs_A.getD ((r - 1) / 2) []).getD i 0 = Int32.ofInt (l.getD i 0)) (ha : ∀ i, i < l.length → 0 ≤ l.getD i 0 ∧ l.getD i 0 < 128) (h5 : l.length < 10000) : sS (gd k_w) H 108 r l := by
  refine ⟨r + 1, .retAddr 0, .retAddr 0, ?_, ⟨fun j => (xs_A.getD ((r - 1) / 2) []).getD j 0, ?_, Nat.le_refl _, hb⟩, gd_old (by omega), gd_old (by omega), by omega, by omega, asc_get ha, h5⟩
  · rw [e r (by omega)]
    unfold xs_ho
    rw [if_neg (by omega), if_pos hr.2, if_pos hr.1]
    rfl
  · rw [e (r + 1) (by omega)]
    unfold xs_ho
    rw [if_neg (by omega), if_pos (by omega), if_neg (by omega), show r + 1 - 2 = r - 1 by omega, hl]
set_option maxRecDepth 4000 in
theorem cst_ho (e : ∀ a, a < 44 → H a = xs_ho L xs a) : cst k_w H 108 := by
  refine ⟨fun q hq => ?_, ⟨fun j => (xs_A.getD (41 - 21) []).getD j 0, ?_, by decide +kernel⟩, fun j => (xs_A.getD (42 - 21) []).getD j 0, ?_, by decide +kernel⟩
  · simp only [cstL, List.mem_cons, List.not_mem_nil, or_false] at hq
    rcases hq with g | g | g | g | g | g | g | g | g | g | g | g | g | g | g <;> (subst g; exact str_ho e (by decide) (by decide +kernel) (by decide +kernel) (by decide +kernel) (by decide +kernel))
  · rw [e 41 (by omega)]
    unfold xs_ho
    rw [if_neg (by omega), if_neg (by omega), if_pos (by omega), show (xs_A.getD (41 - 21) []).length = 100 by decide +kernel]
  · rw [e 42 (by omega)]
    unfold xs_ho
    rw [if_neg (by omega), if_neg (by omega), if_pos (by omega), show (xs_A.getD (42 - 21) []).length = 100 by decide +kernel]
/-- the class as it is made -/
theorem cS_0 (e : ∀ a, a < 44 → H a = xs_ho L xs a) (e46 : H 46 = .inl (1, 16, .inl (fun _ => 0))) (e48 : H 48 = .inl (1, 16, .inl (fun _ => 0))) (e51 : H 51 = .inl (1, 16, .inl (fun _ => 0))) : cS k_w (k_s q) (fun _ => 1) (fun _ _ => none) (fun _ => 0) H 108 (fun _ => []) (fun _ => 16) (mu_0 (qz q)) (fun _ => 0) := by
  have C := cst_ho e
  have no : ∀ {P : Prop} {i : Nat}, i < 0 → P := fun hi => absurd hi (Nat.not_lt_zero _)
  refine ⟨⟨⟨Nat.le_refl _, ?_, ?_, ?_, ?_, ?_, ?_⟩, ?_, ?_, ?_⟩, ⟨C, C.1 (1, []) (by decide), ⟨rfl, Nat.zero_le _, fun i hi => no hi⟩, rfl, ⟨rfl, Nat.zero_le _, fun i hi => no hi⟩, ?_, rfl, ⟨rfl, Nat.zero_le _, fun i hi => no hi⟩, fun i _ => rfl, fun f _ => ⟨fun _ => rfl, fun x g => ?_⟩, fun r _ _ => ⟨fun _ => rfl, fun x g => ?_⟩, ⟨rfl, Nat.zero_le _, fun i hi => no hi⟩, fun i _ => rfl⟩, rfl, by decide, by decide⟩
  · show kw1 46 108
    exact ⟨by unfold dy; omega, by omega, by omega, by omega⟩
  · show kw1 48 108
    exact ⟨by unfold dy; omega, by omega, by omega, by omega⟩
  · show kw1 51 108
    exact ⟨by unfold dy; omega, by omega, by omega, by omega⟩
  · show (46 : Nat) ≠ 48
    decide
  · show (46 : Nat) ≠ 51
    decide
  · show (48 : Nat) ≠ 51
    decide
  · exact ⟨⟨fun _ => 0, e46, Nat.zero_le _, fun i hi => no hi⟩, rfl, Or.inl rfl, asc_nil, by decide⟩
  · exact ⟨⟨fun _ => 0, e48, Nat.zero_le _, fun i hi => no hi⟩, rfl, Or.inl rfl, asc_nil, by decide⟩
  · exact ⟨⟨fun _ => 0, e51, Nat.zero_le _, fun i hi => no hi⟩, rfl, Or.inl rfl, asc_nil, by decide⟩
  · show qc q = qz q
    exact qc_qz
  · have g' : (none : Option mf_T) = some x := g
    cases g'
  · have g' : (none : Option mq_T) = some x := g
    cases g'
/-- at the head of the loop for the first time -/
theorem j_0 {us : Nat} {e9 : va_E} (e3 : h1 = ko k_w (k_s q) (fun _ => 1) (fun _ _ => none) (fun _ => 0) h1) (e4 : ∀ a, a < 44 → h1 a = xs_ho L xs a) (e5 : h1 46 = .inl (1, 16, .inl (fun _ => 0))) (e6 : h1 48 = .inl (1, 16, .inl (fun _ => 0))) (e7 : h1 51 = .inl (1, 16, .inl (fun _ => 0))) (hu : us ≤ 100000) : jJ L xs 0 (va_up (mo (gM (qz q)) (aM (va_up h1 64 e9)) (va_up h1 64 e9)) 107 (.inl (4, 1, .inr (.inl (fun _ => 0))))) 108 us := by
  rw [m_fin]
  have lo : ∀ a, a < 64 → va_up (xo 64 (m_s (qz q)) m_ar (va_up h1 64 e9)) 107 (.inl (4, 1, .inr (.inl (fun _ => 0)))) a = h1 a := fun a ha => by
    rw [va_up_n (by omega), xo_ou (by omega), va_up_n (by omega)]
  refine ⟨fun _ => 16, mu_0 (qz q), fun _ => 0, ?_, ⟨_, va_up_s⟩, ⟨k_w, k_s q, fun _ => 1, fun _ _ => none, fun _ => 0, _, fun _ => [], ko_fix (h0 := h1) (fun a d => ?_), cS_0 (xs := xs) (L := L) (fun a ha => ?_) ?_ ?_ ?_⟩, ⟨m_s (qz q), m_ar, jM_d (H := xo 64 (m_s (qz q)) m_ar (va_up h1 64 e9)) xo_xo.symm (fun a g g' => va_up_n (by omega)), rf_0 qz_b⟩, mI_0, by omega, by omega⟩
  · rw [lo 0 (by omega), e4 0 (by omega)]
    rfl
  · rw [lo a (by unfold dy at d; omega)]
    exact congrFun e3 a
  · rw [lo a (by omega), e4 a ha]
  · rw [lo 46 (by omega), e5]
  · rw [lo 48 (by omega), e6]
  · rw [lo 51 (by omega), e7]
set_option maxRecDepth 100000 in
theorem l_start (hfm : fm = .null ∨ ∃ j, fm = .ref j) (hL : L ≤ 2049) : xe fm 348 (0, [(0, .ref 0)], [], (xs_ho L xs, 44, 0, 0)) lQ := by
  refine xe_new (k := 12) (fs := [.null, .null, .null, .null, .null, .null, xi 0, .null, .null, .null, xi 0, .null]) xt_g348 rfl rfl (q := 3) rfl (xn_12_8 fm) rfl rfl rfl ?_
  show xe fm 348 (_, _, _, (_, 45, _, _)) _
  refine xe_s (f := (4, _, _, _)) xt_g348 rfl rfl rfl rfl rfl ?_
  refine xe_s (f := (5, _, _, _)) xt_g348 rfl rfl rfl rfl rfl ?_
  refine xe_s (f := (6, _, xi 0 :: _, _)) xt_g348 rfl rfl rfl rfl rfl ?_
  refine xe_cR xt_g348 rfl rfl rfl (q := 9) rfl (kc_S xk_12_60 (Nat.le_of_ble_eq_true rfl)) xt_g161 (by decide) ⟨Nat.le_of_ble_eq_true rfl, Nat.le_of_ble_eq_true rfl, Nat.le_of_ble_eq_true rfl⟩ (k161 (L := L) (xs := xs) (show va_up (xs_ho L xs) 44 _ 0 = .inl (0, L, .inl xs) from rfl) (by omega) hL) ?_
  refine xe_cN xt_g348 rfl rfl rfl (q := 12) rfl (kc_P xk_12_66 rfl) xt_g0 (by decide) ⟨Nat.le_of_ble_eq_true rfl, Nat.le_of_ble_eq_true rfl, Nat.le_of_ble_eq_true rfl⟩ (k0 q0_r va_up_s) (fun h1 n1 c1 u1 hp => ?_)
  obtain ⟨e1, e2, e3, e4, e5, e6, e7⟩ := hp
  subst e1
  have e4' : ∀ a, a < 44 → h1 a = xs_ho L xs a := fun a ha => (e4 a ha).trans (va_up_n (by omega))
  have x1 : h1 0 = .inl (0, L, .inl xs) := (e4' 0 (by omega)).trans rfl
  refine xe_s (f := (13, [(1, _), (0, _)], _, _)) xt_g348 rfl rfl rfl rfl rfl ?_
  refine xe_new (k := 65) (fs := [xi 0, .null, xi 0, xi 0, .null, .null, .null, .null, .null, .null, xi 0, xi 0, xi 0, xi 0, .null, .null, xi 0, xi 0, xi 0, xi 0, .null, .null, .null, .null, .null, .null, .null, .null, .null, .null, .null, .null, .null, xi 0, xi 0, xi 0, xi 0, xi 0, xi 0, xi 0, .null, xi 0, .null, .null, .null, .null, .null, .null, .null, .null, .null, .null, .null, xi 0, .null, xi 0, .null, .null, .null, .null, .null, .null, xi 0, .null, xi 0]) xt_g348 rfl rfl (q := 16) rfl (xn_12_68 fm) rfl rfl rfl ?_
  show xe fm 348 (_, _, _, (_, 65, _, _)) _
  refine xe_s (f := (17, _, _, _)) xt_g348 rfl rfl rfl rfl rfl ?_
  refine xe_s (f := (18, _, _, _)) xt_g348 rfl rfl rfl rfl rfl ?_
  refine xe_s (f := (19, _, xi 0 :: _, _)) xt_g348 rfl rfl rfl rfl rfl ?_
  refine xe_cR xt_g348 rfl rfl rfl (q := 22) rfl (kc_S xk_12_60 (Nat.le_of_ble_eq_true rfl)) xt_g161 (by decide) ⟨Nat.le_of_ble_eq_true rfl, Nat.le_of_ble_eq_true rfl, Nat.le_of_ble_eq_true rfl⟩ (k161 (L := L) (xs := xs) ((va_up_n (by omega)).trans x1) (by omega) hL) ?_
  refine xe_cN xt_g348 rfl rfl rfl (q := 25) rfl (kc_P xk_12_70 rfl) xt_g243 (by decide) ⟨Nat.le_of_ble_eq_true rfl, Nat.le_of_ble_eq_true rfl, Nat.le_of_ble_eq_true rfl⟩ (k243 q0_r va_up_s) (fun h2 n2 c2 u2 hp => ?_)
  obtain ⟨f1, f2, f3⟩ := hp
  subst f1
  subst f3
  refine xe_s (f := (26, [(2, _), (1, _), (0, _)], _, _)) xt_g348 rfl rfl rfl rfl rfl ?_
  refine xe_s (f := (27, _, xi 1 :: _, _)) xt_g348 rfl rfl rfl rfl rfl ?_
  refine xe_nwl xt_g348 rfl (r' := 29) rfl rfl ?_
  refine xe_s (f := (30, [(3, _), (2, _), (1, _), (0, _)], _, _)) xt_g348 rfl rfl rfl rfl rfl ?_
  refine xe_s (f := (31, _, xi 1 :: _, _)) xt_g348 rfl rfl rfl rfl rfl ?_
  refine xe_s (f := (33, [(4, _), (3, _), (2, _), (1, _), (0, _)], _, _)) xt_g348 rfl rfl rfl rfl rfl ?_
  have Z := l_loop (fm := fm) (xs := xs) (L := L) hfm hL 513 0 _ _ (0 + 1 + c1 + 1 + c2 + 1) _ rfl (j_0 (xs := xs) (L := L) (us := 0 + 12 + u1 + 65 + u2 + 1) (e9 := .inr (14, mD)) e3 e4' e5 e6 e7 (by omega))
  rw [show (1 + 4 * ((0 : Nat) : Int)) = 1 by decide] at Z
  exact Z
end XCA
theorem xs_pure_ok : xs_pure := by
  intro fm L xs hfm hL
  obtain ⟨k, r, m, h1, ⟨e, h2, h3⟩, h4⟩ := xe_cn (l_start (fm := fm) (L := L) (xs := xs) hfm hL)
  refine ⟨k, m, ?_, by omega, h3⟩
  have d : xt_dp 348 = 16 := by decide +kernel
  have e' : r = .inl (some (.int 1)) := e.trans (congrArg (fun z => Sum.inl (some (Value.int z))) (by decide : Int32.ofInt 1 = 1))
  rw [d, e'] at h1
  exact h1
