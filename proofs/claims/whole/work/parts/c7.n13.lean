/-! the law's loop -/
/-- how the law ends -/
abbrev lQ : xe_Q := fun r M => r = .inl (some (xi 1)) ∧ M.2.1 ≤ 600000 ∧ M.2.2.2 ≤ 7293000
section XC7
variable {fm : Value} {L k n c us : Nat} {xs : Nat → Int32} {H : xm_H} {Q : xe_Q} {i : Int}
theorem jJ_up (J : jJ L xs k H n us) : jJ L xs (k + 1) H n us := by
  obtain ⟨kc, u, dp, j0, j1, j2, j3, j4, b1, b2⟩ := J
  exact ⟨kc, u, dp, j0, j1, j2, j3, j4, by omega, by omega⟩
theorem xe_iandR {y pc q : Nat} {M : xm_M} {Ls : xm_L} {D : xt_D} {r : List Value} {a b : Int32} (hy : xt_md[y]? = some D) (hi : xt_lk D.2.2.2.2.2 pc = some (.iand, 1)) (hq : pc + 1 = q) (kk : ∀ z : Int, xr z → xe fm y (q, Ls, xi z :: r, M) Q) : xe fm y (pc, Ls, .int b :: .int a :: r, M) Q := by
  subst hq
  refine xe_s hy hi rfl rfl rfl (f := (pc + 1, Ls, xi (a &&& b).toInt :: r, M)) ?_ (kk _ (xj_r _))
  show some (pc + 1, Ls, Value.int (a &&& b) :: r, M) = _
  rw [show xi (a &&& b).toInt = Value.int (a &&& b) from congrArg Value.int (Int32.ofInt_toInt _)]
set_option maxRecDepth 100000 in
theorem l_out (hL : L ≤ 2049) (J : jJ L xs k H n us) (hk : k ≤ 513) (i0 : 1 ≤ i ∧ i ≤ 4000) (i1 : (L : Int) < i + 4) : xe fm 348 (33, [(4, xi i), (3, .ref 107), (2, .ref 64), (1, .ref 44), (0, .ref 0)], [], (H, n, c, us)) lQ := by
  obtain ⟨kc, u, dp, j0, ⟨f, O⟩, ⟨w, s, p, ar, v, h, t, eH, S⟩, _, _, b1, b2⟩ := J
  have W0 := S.1.1.1
  have k0 := S.1.2.1.2.2.2.2
  have k1 := S.1.2.2.1.2.2.2.2
  have k2 := S.1.2.2.2.2.2.2.2
  have hkt : kt kc < 60000 := by unfold kt; omega
  refine xe_s (f := (35, _, _, _)) xt_g348 rfl rfl rfl rfl rfl ?_
  refine xe_s (f := (36, _, _, _)) xt_g348 rfl rfl rfl rfl rfl ?_
  refine xe_alen xt_g348 rfl (q := 37) rfl (j0) (by decide) (by omega) ?_
  refine xe_s (f := (38, _, xi 4 :: _, _)) xt_g348 rfl rfl rfl rfl rfl ?_
  refine xe_isub xt_g348 rfl (q := 39) rfl ?_
  refine xe_ic_gt xt_g348 rfl (t := 1303) rfl (q := 42) rfl (by first | omega | exact xb_r _) (by first | omega | exact xb_r _) (fun b39 => ?_) (fun b39 => ?_)
  · try simp only [xb_0, xb_1, ne_eq, Decidable.not_not, Bool.not_eq_false, Bool.not_eq_true, decide_eq_true_eq, decide_eq_false_iff_not] at b39
    refine xe_s (f := (1304, _, xi 1 :: _, _)) xt_g348 rfl rfl rfl rfl rfl ?_
    refine xe_iret xt_g348 rfl rfl (xi_bool (by first | omega | exact xb_or _)).1 ?_
    try dsimp only
    show (.inl (some (xi 1)) : Option Value ⊕ Nat) = .inl (some (xi 1)) ∧ n ≤ 600000 ∧ us ≤ 7293000
    exact ⟨rfl, by omega, by omega⟩
  · exact absurd b39 (by omega)
set_option maxRecDepth 100000 in
theorem l_in (hfm : fm = .null ∨ ∃ j, fm = .ref j) (hL : L ≤ 2049) (i1 : 1 ≤ i) (i2 : i + 4 ≤ L) (J : jJ L xs k H n us) (K : ∀ (H' : xm_H) (n' c' us' : Nat), jJ L xs (k + 1) H' n' us' → xe fm 348 (1297, [(4, xi i), (3, .ref 107), (2, .ref 64), (1, .ref 44), (0, .ref 0)], [], (H', n', c', us')) Q) : xe fm 348 (33, [(4, xi i), (3, .ref 107), (2, .ref 64), (1, .ref 44), (0, .ref 0)], [], (H, n, c, us)) Q := by
  have J' := J
  obtain ⟨kc, u, dp, j0, ⟨f, O⟩, ⟨w, s, p, ar, v, h, t, eH, S⟩, _, _, b1, b2⟩ := J'
  have W0 := S.1.1.1
  refine xe_s (f := (35, _, _, _)) xt_g348 rfl rfl rfl rfl rfl ?_
  refine xe_s (f := (36, _, _, _)) xt_g348 rfl rfl rfl rfl rfl ?_
  refine xe_alen xt_g348 rfl (q := 37) rfl (j0) (by decide) (by omega) ?_
  refine xe_s (f := (38, _, xi 4 :: _, _)) xt_g348 rfl rfl rfl rfl rfl ?_
  refine xe_isub xt_g348 rfl (q := 39) rfl ?_
  refine xe_ic_gt xt_g348 rfl (t := 1303) rfl (q := 42) rfl (by first | omega | exact xb_r _) (by first | omega | exact xb_r _) (fun b39 => ?_) (fun b39 => ?_)
  · exact absurd b39 (by omega)
  · try simp only [xb_0, xb_1, ne_eq, Decidable.not_not, Bool.not_eq_false, Bool.not_eq_true, decide_eq_true_eq, decide_eq_false_iff_not] at b39
    refine xe_s (f := (43, _, _, _)) xt_g348 rfl rfl rfl rfl rfl ?_
    refine xe_s (f := (45, _, _, _)) xt_g348 rfl rfl rfl rfl rfl ?_
    refine xe_al (ok := xm_isN) (ty := .int) xt_g348 rfl (q := 46) rfl (fun _ _ => ⟨rfl, rfl, rfl, rfl⟩) (j0) rfl rfl (by omega) (by omega) (by omega) (by omega) ((Int32.ofInt_toInt _).symm) ?_
    refine xe_bipush xt_g348 rfl (q := 48) rfl (by decide) (by decide) ?_
    refine xe_iandR xt_g348 rfl (q := 49) rfl (fun z hz => ?_)
    have hc : z = 0 ∨ z = 1 ∨ z = 2 ∨ z = 3 ∨ z = 4 ∨ z = 5 ∨ z = 6 ∨ z = 7 ∨ z = 8 ∨ z = 9 ∨ z = 10 ∨ z = 11 ∨ z = 12 ∨ z = 13 ∨ z = 14 ∨ z = 15 ∨ z = 16 ∨ z = 17 ∨ z = 18 ∨ z = 19 ∨ z = 20 ∨ z = 21 ∨ z = 22 ∨ z = 23 ∨ z = 24 ∨ (z < 0 ∨ 24 < z) := by omega
    rcases hc with rfl | rfl | rfl | rfl | rfl | rfl | rfl | rfl | rfl | rfl | rfl | rfl | rfl | rfl | rfl | rfl | rfl | rfl | rfl | rfl | rfl | rfl | rfl | rfl | rfl | g
    · exact xe_tsw xt_g348 rfl (t := 164) hz rfl rfl (l_type hfm hL i1 i2 J K)
    · exact xe_tsw xt_g348 rfl (t := 221) hz rfl rfl (l_suffix hfm hL i1 i2 J K)
    · exact xe_tsw xt_g348 rfl (t := 234) hz rfl rfl (l_pass hfm hL i1 i2 J K)
    · exact xe_tsw xt_g348 rfl (t := 259) hz rfl rfl (l_open hfm hL i1 i2 J K)
    · exact xe_tsw xt_g348 rfl (t := 272) hz rfl rfl (l_close hfm hL i1 i2 J K)
    · exact xe_tsw xt_g348 rfl (t := 308) hz rfl rfl (l_focus hfm hL i1 i2 J K)
    · exact xe_tsw xt_g348 rfl (t := 344) hz rfl rfl (l_enter hfm hL i1 i2 J K)
    · exact xe_tsw xt_g348 rfl (t := 357) hz rfl rfl (l_child hfm hL i1 i2 J K)
    · exact xe_tsw xt_g348 rfl (t := 413) hz rfl rfl (l_navigate hfm hL i1 i2 J K)
    · exact xe_tsw xt_g348 rfl (t := 481) hz rfl rfl (l_fetch hfm hL i1 i2 J K)
    · exact xe_tsw xt_g348 rfl (t := 577) hz rfl rfl (l_answer hfm hL i1 i2 J K)
    · exact xe_tsw xt_g348 rfl (t := 613) hz rfl rfl (l_set hfm hL i1 i2 J K)
    · exact xe_tsw xt_g348 rfl (t := 649) hz rfl rfl (l_leave hfm hL i1 i2 J K)
    · exact xe_tsw xt_g348 rfl (t := 713) hz rfl rfl (l_lead hfm hL i1 i2 J K)
    · exact xe_tsw xt_g348 rfl (t := 776) hz rfl rfl (l_cookies hfm hL i1 i2 J K)
    · exact xe_tsw xt_g348 rfl (t := 832) hz rfl rfl (l_cookie hfm hL i1 i2 J K)
    · exact xe_tsw xt_g348 rfl (t := 895) hz rfl rfl (l_store hfm hL i1 i2 J K)
    · exact xe_tsw xt_g348 rfl (t := 982) hz rfl rfl (l_stored hfm hL i1 i2 J K)
    · exact xe_tsw xt_g348 rfl (t := 1050) hz rfl rfl (l_post hfm hL i1 i2 J K)
    · exact xe_tsw xt_g348 rfl (t := 1137) hz rfl rfl (l_bar hfm hL i1 i2 J K)
    · exact xe_tsw xt_g348 rfl (t := 1150) hz rfl rfl (l_about hfm hL i1 i2 J K)
    · exact xe_tsw xt_g348 rfl (t := 1187) hz rfl rfl (l_message hfm hL i1 i2 J K)
    · exact xe_tsw xt_g348 rfl (t := 1224) hz rfl rfl (l_letter hfm hL i1 i2 J K)
    · exact xe_tsw xt_g348 rfl (t := 1261) hz rfl rfl (l_clear hfm hL i1 i2 J K)
    · exact xe_tsw xt_g348 rfl (t := 1272) hz rfl rfl (l_shown hfm hL i1 i2 J K)
    · exact xe_tsw xt_g348 rfl (t := 1297) hz (if_pos g) rfl (K _ _ _ _ (jJ_up J))
set_option maxRecDepth 100000 in
theorem l_loop (hfm : fm = .null ∨ ∃ j, fm = .ref j) (hL : L ≤ 2049) : ∀ (m k : Nat) (H : xm_H) (n c us : Nat), k + m = 513 → jJ L xs k H n us → xe fm 348 (33, [(4, xi (1 + 4 * (k : Int))), (3, .ref 107), (2, .ref 64), (1, .ref 44), (0, .ref 0)], [], (H, n, c, us)) lQ := by
  intro m
  induction m with
  | zero => intro k H n c us hk J; exact l_out hL J (by omega) (by omega) (by omega)
  | succ m ih =>
    intro k H n c us hk J
    by_cases g : (1 + 4 * (k : Int)) + 4 ≤ L
    · refine l_in hfm hL (by omega) g J (fun H' n' c' us' J' => ?_)
      refine xe_iinc xt_g348 rfl (q := 1300) rfl rfl (by decide) (L1 := [(4, _), (3, _), (2, _), (1, _), (0, _)]) rfl ?_
      refine xe_s (f := (33, _, _, _)) xt_g348 rfl rfl rfl rfl rfl ?_
      rw [show (1 + 4 * (k : Int) + 4) = 1 + 4 * ((k + 1 : Nat) : Int) by omega]
      exact ih (k + 1) H' n' c' us' (by omega) J'
    · exact l_out hL J (by omega) (by omega) (by omega)
end XC7
