/-! calls: lead, post, enter, navigate, fetch -/
theorem nm_txt_len {v : Int} (h : -2147483648 ≤ v ∧ v < 2147483648) : (nm_txt v).length ≤ 11 := by
  unfold nm_txt nm_dgs nm_bs
  rw [List.length_append, List.length_map]
  have a := List.length_filter_le (fun b => decide (b ≤ nm_abs v ∨ b = 1)) [1000000000, 100000000, 10000000, 1000000, 100000, 10000, 1000, 100, 10, 1]
  have b : ((if v < 0 then [45] else [] : List Int)).length ≤ 1 := by split <;> simp
  have c : ([1000000000, 100000000, 10000000, 1000000, 100000, 10000, 1000, 100, 10, 1] : List Int).length = 10 := rfl
  omega
section XBW
variable {fm : Value} {w w' w1 w2 : kW} {s s' s1 s2 : Nat → Int} {p p' p1 p2 : Nat → Nat} {ar ar' : Nat → Nat → Option Nat} {v : Nat → Int} {h h' h1 h2 : xm_H} {n n' n1 n2 r k k' u' u1 u2 x y a b R : Nat} {l D : List Int} {L : List (List Int)} {A B : pa_A} {q : mq_T} {t t' t1 t2 : Nat → List Int} {kc kc' kc1 kc2 : Nat → Nat} {u : mu_T} {dp : Nat → Nat} {F fo G go d : Nat} {X Y : mf_T}
theorem k225_n (S : cS w s p ar v h n t kc (mu_sln u []) dp) (I : mI u dp) {f : Int} (e : mu_ir u f = true) (eq : mu_rq u f.toNat = some q) (e4 : ar 4 f.toNat = some y) (HR : rqO w h n (ar 3) f.toNat q y) {c u0 : Nat} : xe fm 225 (53, [(4, .null), (3, .ref y), (0, .ref 44), (1, xi f)], [], (ko w s p ar v h, n, c, u0)) (fun r M => ∃ z : Int, r = .inl (some (xi z)) ∧ z = 0 ∧ ∃ s' ar' h1 u', M.1 = ko w s' p ar' v h1 ∧ M.2.2.2 = u0 + u' ∧ RT 4 1 w h n kc w h1 M.2.1 t kc u' ∧ cS w s' p ar' v h1 M.2.1 t kc (mu_ledf u f q false) dp) := by
  have S' := S
  obtain ⟨K, H, S1, S2, S3⟩ := S
  have W0 := K.1.1
  have fr : 0 ≤ f ∧ f < 24 := by
    unfold mu_ir at e
    rw [Bool.and_eq_true, decide_eq_true_eq] at e
    exact e.1
  obtain ⟨i1, i2, i3⟩ := I.2.1 f.toNat (by omega) q eq
  obtain ⟨X, eX⟩ := Option.isSome_iff_exists.mp i3
  have H' := H
  obtain ⟨a1, a2, a3, a4, a5, a6, a7, a8, a9, a10, a11, a12, a13⟩ := H
  obtain ⟨fo, e3, HO⟩ := (a10 q.1.toNat (by omega)).2 X eX
  have HR' := HR
  obtain ⟨fo', ad, ak, lf, la, lw, b1, b2, b3, b4, b5, _⟩ := HR
  rw [e3] at b5
  cases b5
  have X1 := (ko_d (w := w) (s := s) (p := p) (ar := aw ar 4 f.toNat none) (v := v) b2.1).trans b1
  have HO' := HO
  obtain ⟨fad, d1, d2, d3, d4, d5⟩ := HO
  have X2 := (ko_d (w := w) (s := s) (p := p) (ar := aw ar 4 f.toNat none) (v := v) d2.1).trans d1
  have H1 := cB_rq (R := f.toNat) (o := none) (oq := none) (cB_x H') (fun _ => rfl) (fun q g => by cases g)
  have S5 : cS w s p (aw ar 4 f.toNat none) v h n t kc (mu_srq (mu_sln u []) (mu_up (mu_rq u) f.toNat none)) dp := ⟨K, H1, S1, S2, S3⟩
  refine xe_s (f := (54, _, _, _)) xt_g225 rfl rfl rfl rfl rfl ?_
  refine xe_gf xt_g225 rfl (q := 57) rfl (xf_0_50 fm) (ko_44) (by omega) rfl rfl ?_
  refine xe_s (f := (58, _, _, _)) xt_g225 rfl rfl rfl rfl rfl ?_
  refine xe_s (f := (59, _, _, _)) xt_g225 rfl rfl rfl rfl rfl ?_
  refine xe_kn_58 xt_g225 rfl (q := 60) rfl (by omega) (by omega) (by omega) ?_
  refine xe_s (f := (61, _, _, _)) xt_g225 rfl rfl rfl rfl rfl ?_
  refine xe_cR xt_g225 rfl rfl rfl (q := 64) rfl (kc_V xk_0_201 rfl (X1) (by omega) rfl rfl) xt_g133 (by decide) ⟨Nat.le_of_ble_eq_true rfl, Nat.le_of_ble_eq_true rfl, Nat.le_of_ble_eq_true rfl⟩ (k133 HR') ?_
  refine xe_if_eq xt_g225 rfl (t := 85) rfl (q := 67) rfl (by first | omega | exact xb_r _) (fun b64 => ?_) (fun b64 => ?_)
  · try simp only [xb_0, xb_1, ne_eq, Decidable.not_not, Bool.not_eq_false, Bool.not_eq_true, decide_eq_true_eq, decide_eq_false_iff_not] at b64
    refine xe_s (f := (86, _, _, _)) xt_g225 rfl rfl rfl rfl rfl ?_
    refine xe_s (f := (87, _, _, _)) xt_g225 rfl rfl rfl rfl rfl ?_
    refine xe_gf xt_g225 rfl (q := 90) rfl (xf_0_212 fm) (X1) (by omega) rfl rfl ?_
    refine xe_s (f := (92, _, _, _)) xt_g225 rfl rfl rfl rfl rfl ?_
    refine xe_s (f := (95, _, _, _)) xt_g225 rfl rfl rfl rfl rfl ?_
    refine xe_s (f := (96, _, xi 1 :: _, _)) xt_g225 rfl rfl rfl rfl rfl ?_
    refine xe_s (f := (100, _, _, _)) xt_g225 rfl rfl rfl rfl rfl ?_
    refine xe_cI xt_g225 rfl rfl rfl (q := 103) rfl (kc_V xk_0_173 rfl (ko_44) (by omega) rfl rfl) xt_g174 (by decide) ⟨Nat.le_of_ble_eq_true rfl, Nat.le_of_ble_eq_true rfl, Nat.le_of_ble_eq_true rfl⟩ (c174 (F := q.1.toNat) (X := X) (d := dp q.1.toNat) S5 (by rw [aw_n (by decide)]; exact HO')) (fun z2 h2' n2 c2 u2 hp => ?_)
    refine xe_s (f := (104, _, _, _)) xt_g225 rfl rfl rfl rfl rfl ?_
    refine xe_s (f := (105, _, xi 0 :: _, _)) xt_g225 rfl rfl rfl rfl rfl ?_
    refine xe_iret xt_g225 rfl rfl (xi_bool (by first | omega | exact xb_or _)).1 ?_
    try dsimp only
    obtain ⟨_, s6, ar6, h7, g1, R6, S6⟩ := hp
    have ez9 : q.2.1 = none := by
      cases g : q.2.1 with
      | none => rfl
      | some _ => rw [g] at b64; cases b64
    have el : mu_ledf u f q false = mu_note (mu_srq (mu_sln u []) (mu_up (mu_rq u) f.toNat none)) 6 ((q.1.toNat : Nat) : Int) 1 [] := by
      unfold mu_ledf
      rw [ez9, show ((q.1.toNat : Nat) : Int) = q.1 by omega, note_srq, note_sln]
      dsimp only
      unfold mu_dq
      rw [note_rq]
      rfl
    rw [el]
    exact ⟨0, rfl, rfl, s6, ar6, h7, u2, g1, rfl, R6, S6⟩
  · try simp only [xb_0, xb_1, ne_eq, Decidable.not_not, Bool.not_eq_false, Bool.not_eq_true, decide_eq_true_eq, decide_eq_false_iff_not] at b64
    refine xe_s (f := (68, _, _, _)) xt_g225 rfl rfl rfl rfl rfl ?_
    refine xe_s (f := (69, _, xi 4 :: _, _)) xt_g225 rfl rfl rfl rfl rfl ?_
    refine xe_s (f := (70, _, _, _)) xt_g225 rfl rfl rfl rfl rfl ?_
    refine xe_gf xt_g225 rfl (q := 73) rfl (xf_0_212 fm) (X1) (by omega) rfl rfl ?_
    refine xe_gf xt_g225 rfl (q := 76) rfl (xf_0_216 fm) (X2) (by omega) rfl rfl ?_
    refine xe_s (f := (77, _, _, _)) xt_g225 rfl rfl rfl rfl rfl ?_
    refine xe_s (f := (79, _, .ref 1 :: _, _)) xt_g225 rfl rfl rfl rfl rfl ?_
    refine xe_cN xt_g225 rfl rfl rfl (q := 82) rfl (kc_V xk_0_219 rfl (ko_44) (by omega) rfl rfl) xt_g143 (by decide) ⟨Nat.le_of_ble_eq_true rfl, Nat.le_of_ble_eq_true rfl, Nat.le_of_ble_eq_true rfl⟩ (k143 K H1 (a1.1 (1, []) (by decide))) (fun h2' n2 c2 u2 hp => ?_)
    refine xe_s (f := (104, _, _, _)) xt_g225 rfl rfl rfl rfl rfl ?_
    refine xe_s (f := (105, _, xi 0 :: _, _)) xt_g225 rfl rfl rfl rfl rfl ?_
    refine xe_iret xt_g225 rfl rfl (xi_bool (by first | omega | exact xb_or _)).1 ?_
    try dsimp only
    obtain ⟨s6, ar6, h7, g1, ke6, n6', u6', f6, g6, H6⟩ := hp
    obtain ⟨z9, ez9⟩ := Option.isSome_iff_exists.mp b64
    have el : mu_ledf u f q false = mu_note (mu_srq (mu_sln u []) (mu_up (mu_rq u) f.toNat none)) 4 ((q.1.toNat : Nat) : Int) f [] := by
      unfold mu_ledf
      rw [ez9, show ((q.1.toNat : Nat) : Int) = q.1 by omega, note_srq, note_sln]
      dsimp only
      unfold mu_dq
      rw [note_rq]
      rfl
    rw [el]
    exact ⟨0, rfl, rfl, s6, ar6, h7, u2, g1, rfl, RT_ke K ke6 n6' u6', KW_ke K ke6, H6, by rw [note_ln]; exact S1, S2, S3⟩
theorem k225_r (S : cS w s p ar v h n t kc (mu_sln u []) dp) (I : mI u dp) {f : Int} (e : mu_ir u f = true) (eq : mu_rq u f.toNat = some q) (e4 : ar 4 f.toNat = some y) (HR : rqO w h n (ar 3) f.toNat q y) {j : Nat} {c u0 : Nat} : xe fm 225 (53, [(4, .ref j), (3, .ref y), (0, .ref 44), (1, xi f)], [], (ko w s p ar v h, n, c, u0)) (fun r M => ∃ z : Int, r = .inl (some (xi z)) ∧ z = 0 ∧ ∃ s' ar' h1 u', M.1 = ko w s' p ar' v h1 ∧ M.2.2.2 = u0 + u' ∧ RT 4 1 w h n kc w h1 M.2.1 t kc u' ∧ cS w s' p ar' v h1 M.2.1 t kc (mu_ledf u f q true) dp) := by
  have S' := S
  obtain ⟨K, H, S1, S2, S3⟩ := S
  have W0 := K.1.1
  have fr : 0 ≤ f ∧ f < 24 := by
    unfold mu_ir at e
    rw [Bool.and_eq_true, decide_eq_true_eq] at e
    exact e.1
  obtain ⟨i1, i2, i3⟩ := I.2.1 f.toNat (by omega) q eq
  obtain ⟨X, eX⟩ := Option.isSome_iff_exists.mp i3
  have H' := H
  obtain ⟨a1, a2, a3, a4, a5, a6, a7, a8, a9, a10, a11, a12, a13⟩ := H
  obtain ⟨fo, e3, HO⟩ := (a10 q.1.toNat (by omega)).2 X eX
  have HR' := HR
  obtain ⟨fo', ad, ak, lf, la, lw, b1, b2, b3, b4, b5, _⟩ := HR
  rw [e3] at b5
  cases b5
  have X1 := (ko_d (w := w) (s := s) (p := p) (ar := aw ar 4 f.toNat none) (v := v) b2.1).trans b1
  have HO' := HO
  obtain ⟨fad, d1, d2, d3, d4, d5⟩ := HO
  have X2 := (ko_d (w := w) (s := s) (p := p) (ar := aw ar 4 f.toNat none) (v := v) d2.1).trans d1
  have H1 := cB_rq (R := f.toNat) (o := none) (oq := none) (cB_x H') (fun _ => rfl) (fun q g => by cases g)
  have S5 : cS w s p (aw ar 4 f.toNat none) v h n t kc (mu_srq (mu_sln u []) (mu_up (mu_rq u) f.toNat none)) dp := ⟨K, H1, S1, S2, S3⟩
  refine xe_s (f := (54, _, _, _)) xt_g225 rfl rfl rfl rfl rfl ?_
  refine xe_gf xt_g225 rfl (q := 57) rfl (xf_0_50 fm) (ko_44) (by omega) rfl rfl ?_
  refine xe_s (f := (58, _, _, _)) xt_g225 rfl rfl rfl rfl rfl ?_
  refine xe_s (f := (59, _, _, _)) xt_g225 rfl rfl rfl rfl rfl ?_
  refine xe_kn_58 xt_g225 rfl (q := 60) rfl (by omega) (by omega) (by omega) ?_
  refine xe_s (f := (61, _, _, _)) xt_g225 rfl rfl rfl rfl rfl ?_
  refine xe_cR xt_g225 rfl rfl rfl (q := 64) rfl (kc_V xk_0_201 rfl (X1) (by omega) rfl rfl) xt_g133 (by decide) ⟨Nat.le_of_ble_eq_true rfl, Nat.le_of_ble_eq_true rfl, Nat.le_of_ble_eq_true rfl⟩ (k133 HR') ?_
  refine xe_if_eq xt_g225 rfl (t := 85) rfl (q := 67) rfl (by first | omega | exact xb_r _) (fun b64 => ?_) (fun b64 => ?_)
  · try simp only [xb_0, xb_1, ne_eq, Decidable.not_not, Bool.not_eq_false, Bool.not_eq_true, decide_eq_true_eq, decide_eq_false_iff_not] at b64
    refine xe_s (f := (86, _, _, _)) xt_g225 rfl rfl rfl rfl rfl ?_
    refine xe_s (f := (87, _, _, _)) xt_g225 rfl rfl rfl rfl rfl ?_
    refine xe_gf xt_g225 rfl (q := 90) rfl (xf_0_212 fm) (X1) (by omega) rfl rfl ?_
    refine xe_s (f := (92, _, _, _)) xt_g225 rfl rfl rfl rfl rfl ?_
    refine xe_s (f := (99, _, _, _)) xt_g225 rfl rfl rfl rfl rfl ?_
    refine xe_s (f := (100, _, xi 2 :: _, _)) xt_g225 rfl rfl rfl rfl rfl ?_
    refine xe_cI xt_g225 rfl rfl rfl (q := 103) rfl (kc_V xk_0_173 rfl (ko_44) (by omega) rfl rfl) xt_g174 (by decide) ⟨Nat.le_of_ble_eq_true rfl, Nat.le_of_ble_eq_true rfl, Nat.le_of_ble_eq_true rfl⟩ (c174 (F := q.1.toNat) (X := X) (d := dp q.1.toNat) S5 (by rw [aw_n (by decide)]; exact HO')) (fun z2 h2' n2 c2 u2 hp => ?_)
    refine xe_s (f := (104, _, _, _)) xt_g225 rfl rfl rfl rfl rfl ?_
    refine xe_s (f := (105, _, xi 0 :: _, _)) xt_g225 rfl rfl rfl rfl rfl ?_
    refine xe_iret xt_g225 rfl rfl (xi_bool (by first | omega | exact xb_or _)).1 ?_
    try dsimp only
    obtain ⟨_, s6, ar6, h7, g1, R6, S6⟩ := hp
    have ez9 : q.2.1 = none := by
      cases g : q.2.1 with
      | none => rfl
      | some _ => rw [g] at b64; cases b64
    have el : mu_ledf u f q true = mu_note (mu_srq (mu_sln u []) (mu_up (mu_rq u) f.toNat none)) 6 ((q.1.toNat : Nat) : Int) 2 [] := by
      unfold mu_ledf
      rw [ez9, show ((q.1.toNat : Nat) : Int) = q.1 by omega, note_srq, note_sln]
      dsimp only
      unfold mu_dq
      rw [note_rq]
      rfl
    rw [el]
    exact ⟨0, rfl, rfl, s6, ar6, h7, u2, g1, rfl, R6, S6⟩
  · try simp only [xb_0, xb_1, ne_eq, Decidable.not_not, Bool.not_eq_false, Bool.not_eq_true, decide_eq_true_eq, decide_eq_false_iff_not] at b64
    refine xe_s (f := (68, _, _, _)) xt_g225 rfl rfl rfl rfl rfl ?_
    refine xe_s (f := (69, _, xi 4 :: _, _)) xt_g225 rfl rfl rfl rfl rfl ?_
    refine xe_s (f := (70, _, _, _)) xt_g225 rfl rfl rfl rfl rfl ?_
    refine xe_gf xt_g225 rfl (q := 73) rfl (xf_0_212 fm) (X1) (by omega) rfl rfl ?_
    refine xe_gf xt_g225 rfl (q := 76) rfl (xf_0_216 fm) (X2) (by omega) rfl rfl ?_
    refine xe_s (f := (77, _, _, _)) xt_g225 rfl rfl rfl rfl rfl ?_
    refine xe_s (f := (79, _, .ref 1 :: _, _)) xt_g225 rfl rfl rfl rfl rfl ?_
    refine xe_cN xt_g225 rfl rfl rfl (q := 82) rfl (kc_V xk_0_219 rfl (ko_44) (by omega) rfl rfl) xt_g143 (by decide) ⟨Nat.le_of_ble_eq_true rfl, Nat.le_of_ble_eq_true rfl, Nat.le_of_ble_eq_true rfl⟩ (k143 K H1 (a1.1 (1, []) (by decide))) (fun h2' n2 c2 u2 hp => ?_)
    refine xe_s (f := (104, _, _, _)) xt_g225 rfl rfl rfl rfl rfl ?_
    refine xe_s (f := (105, _, xi 0 :: _, _)) xt_g225 rfl rfl rfl rfl rfl ?_
    refine xe_iret xt_g225 rfl rfl (xi_bool (by first | omega | exact xb_or _)).1 ?_
    try dsimp only
    obtain ⟨s6, ar6, h7, g1, ke6, n6', u6', f6, g6, H6⟩ := hp
    obtain ⟨z9, ez9⟩ := Option.isSome_iff_exists.mp b64
    have el : mu_ledf u f q true = mu_note (mu_srq (mu_sln u []) (mu_up (mu_rq u) f.toNat none)) 4 ((q.1.toNat : Nat) : Int) f [] := by
      unfold mu_ledf
      rw [ez9, show ((q.1.toNat : Nat) : Int) = q.1 by omega, note_srq, note_sln]
      dsimp only
      unfold mu_dq
      rw [note_rq]
      rfl
    rw [el]
    exact ⟨0, rfl, rfl, s6, ar6, h7, u2, g1, rfl, RT_ke K ke6 n6' u6', KW_ke K ke6, H6, by rw [note_ln]; exact S1, S2, S3⟩
/-- lead -/
theorem c225 (hfm : fm = .null ∨ ∃ j, fm = .ref j) (S : cS w s p ar v h n t kc u dp) (I : mI u dp) (G : mG u) {f : Int} (e : mu_ir u f = true) : xI fm 225 (ko w s p ar v h) n [.ref 44, xi f] (fun z h' n' u' => z = (mu_lead u f).1 ∧ cR 5100 860 h n kc h' n' u' (mu_lead u f).2 dp) := by
  have W0 := S.1.1.1
  have l160 := G.1
  unfold xI
  refine xe_s (f := (1, _, _, _)) xt_g225 rfl rfl rfl rfl rfl ?_
  refine xe_cA xt_g225 rfl rfl rfl (q := 4) rfl (kc_V xk_0_93 rfl (ko_44) (by omega) rfl rfl) xt_g71 (by decide) ⟨Nat.le_of_ble_eq_true rfl, Nat.le_of_ble_eq_true rfl, Nat.le_of_ble_eq_true rfl⟩ (c71 S G) (fun x1 h1' n1 c1 u1 hp => ?_)
  obtain ⟨w1, h2, kc1, rfl, R1, H1, S1⟩ := hp
  have N1 := R1.2.1.1
  obtain ⟨q, yy, f0, f1, eq, e4, HR⟩ := at_rq S1.2.1 (f := f) e
  have eq : mu_rq u f.toNat = some q := eq
  have em : mu_lead u f = mu_lead1 u f q := by
    unfold mu_lead
    rw [eq]
    dsimp only
    rw [if_pos e]
  rw [em]
  have HR' := HR
  obtain ⟨fo', ad, ak, lf, la, lw, b1, b2, b3, b4, b5, b6, b7⟩ := HR
  have X1 := (ko_d (w := w1) (s := s) (p := p) (ar := ar) (v := v) b2.1).trans b1
  refine xe_s (f := (5, [(2, _), (0, _), (1, _)], _, _)) xt_g225 rfl rfl rfl rfl rfl ?_
  refine xe_s (f := (6, _, _, _)) xt_g225 rfl rfl rfl rfl rfl ?_
  refine xe_s (f := (7, _, _, _)) xt_g225 rfl rfl rfl rfl rfl ?_
  refine xe_cR xt_g225 rfl rfl rfl (q := 10) rfl (kc_V xk_0_197 rfl (ko_44) (by omega) rfl rfl) xt_g183 (by decide) ⟨Nat.le_of_ble_eq_true rfl, Nat.le_of_ble_eq_true rfl, Nat.le_of_ble_eq_true rfl⟩ (k183 (by omega) ⟨f0, f1⟩ e4) ?_
  refine xe_s (f := (11, [(3, _), (2, _), (0, _), (1, _)], _, _)) xt_g225 rfl rfl rfl rfl rfl ?_
  refine xe_s (f := (12, _, _, _)) xt_g225 rfl rfl rfl rfl rfl ?_
  refine xe_gf xt_g225 rfl (q := 15) rfl (xf_0_22 fm) (ko_44) (by omega) rfl rfl ?_
  refine xe_s (f := (16, _, _, _)) xt_g225 rfl rfl rfl rfl rfl ?_
  refine xe_s (f := (17, _, _, _)) xt_g225 rfl rfl rfl rfl rfl ?_
  refine xe_gf xt_g225 rfl (q := 20) rfl (xf_0_227 fm) (X1) (by omega) rfl rfl ?_
  refine xe_cO xt_g225 rfl rfl rfl (q := 23) rfl (kc_V xk_0_128 rfl (ko_49) (by omega) rfl rfl) xt_g100 (by decide) ⟨Nat.le_of_ble_eq_true rfl, Nat.le_of_ble_eq_true rfl, Nat.le_of_ble_eq_true rfl⟩ (c100 (ob := some ad) (Bo := some q.2.2.2.1) hfm S1 H1 l160 ⟨ad, rfl, b6⟩) (fun o5 h5' n5 c5 u5 hr => ?_)
  obtain ⟨w5, s5, p5, h6, t5, kc5, rfl, R5, S5, HO5⟩ := hr
  have N5 := R5.2.1.1
  have HR5 := rqO_kp HR' R5.2.1
  have RA := RT_trans R1 R5
  have em2 : mu_res u (some q.2.2.2.1) = pa_res (lt (mu_ln u)) (mu_ln u).length (some q.2.2.2.1) := rfl
  unfold mu_lead1
  cases o5 with
  | none =>
    have er := adO_none HO5
    rw [em2, er]
    dsimp only
    refine xe_s (f := (25, [(4, _), (3, _), (2, _), (0, _), (1, _)], _, _)) xt_g225 rfl rfl rfl rfl rfl ?_
    refine xe_s (f := (27, _, _, _)) xt_g225 rfl rfl rfl rfl rfl ?_
    refine xe_s (f := (53, _, _, _)) xt_g225 rfl rfl rfl rfl rfl ?_
    refine xe_mono (xe_loc (by intro q hq; simp only [List.mem_cons, List.not_mem_nil, or_false] at hq; rcases hq with rfl | rfl | rfl | rfl <;> rfl) ((k225_n (fm := fm) (q := q) (y := yy) S5 I e eq e4 HR5))) (fun r M hM => ?_)
    obtain ⟨z, g1, g2, s7, ar7, h7, u7, g3, g4, g5, g6⟩ := hM
    exact ⟨z, g1, g2, w5, s7, p5, ar7, v, h7, t5, kc5, g3, RU_m (RU_RT (RT_mono (RT_trans RA g5) (Nat.le_refl _) (Nat.le_refl _) (by omega))) (by omega) (by omega), g6⟩
  | some j =>
    obtain ⟨A9, er, HA⟩ := adO_some HO5
    rw [em2, er]
    dsimp only
    have HR5' := HR5
    obtain ⟨fo6, ad6, ak6, lf6, la6, lw6, d1, d2, d3, d4, d5, d6, d7, d8, d9, d10⟩ := HR5
    have X5 := (ko_d (w := w5) (s := s5) (p := p5) (ar := ar) (v := v) d2.1).trans d1
    refine xe_s (f := (25, [(4, _), (3, _), (2, _), (0, _), (1, _)], _, _)) xt_g225 rfl rfl rfl rfl rfl ?_
    refine xe_s (f := (27, _, _, _)) xt_g225 rfl rfl rfl rfl rfl ?_
    refine xe_s (f := (30, _, _, _)) xt_g225 rfl rfl rfl rfl rfl ?_
    refine xe_s (f := (31, _, _, _)) xt_g225 rfl rfl rfl rfl rfl ?_
    refine xe_s (f := (33, _, _, _)) xt_g225 rfl rfl rfl rfl rfl ?_
    refine xe_cR xt_g225 rfl rfl rfl (q := 36) rfl (kc_V xk_0_242 rfl (X5) (by omega) rfl rfl) xt_g226 (by decide) ⟨Nat.le_of_ble_eq_true rfl, Nat.le_of_ble_eq_true rfl, Nat.le_of_ble_eq_true rfl⟩ (k226 HR5' HA) ?_
    refine xe_if_eq xt_g225 rfl (t := 53) rfl (q := 39) rfl (by first | omega | exact xb_r _) (fun b36 => ?_) (fun b36 => ?_)
    · try simp only [xb_0, xb_1, ne_eq, Decidable.not_not, Bool.not_eq_false, Bool.not_eq_true, decide_eq_true_eq, decide_eq_false_iff_not] at b36
      rw [if_neg (by rw [b36]; decide)]
      refine xe_mono (xe_loc (by intro q hq; simp only [List.mem_cons, List.not_mem_nil, or_false] at hq; rcases hq with rfl | rfl | rfl | rfl <;> rfl) ((k225_r (fm := fm) (q := q) (y := yy) (j := j) S5 I e eq e4 HR5'))) (fun r M hM => ?_)
      obtain ⟨z, g1, g2, s7, ar7, h7, u7, g3, g4, g5, g6⟩ := hM
      exact ⟨z, g1, g2, w5, s7, p5, ar7, v, h7, t5, kc5, g3, RU_m (RU_RT (RT_mono (RT_trans RA g5) (Nat.le_refl _) (Nat.le_refl _) (by omega))) (by omega) (by omega), g6⟩
    · try simp only [xb_0, xb_1, ne_eq, Decidable.not_not, Bool.not_eq_false, Bool.not_eq_true, decide_eq_true_eq, decide_eq_false_iff_not] at b36
      rw [if_pos b36]
      refine xe_s (f := (40, _, _, _)) xt_g225 rfl rfl rfl rfl rfl ?_
      refine xe_s (f := (42, _, _, _)) xt_g225 rfl rfl rfl rfl rfl ?_
      refine xe_cN xt_g225 rfl rfl rfl (q := 45) rfl (kc_V xk_0_245 rfl (X5) (by omega) rfl rfl) xt_g227 (by decide) ⟨Nat.le_of_ble_eq_true rfl, Nat.le_of_ble_eq_true rfl, Nat.le_of_ble_eq_true rfl⟩ (k227 X5 (by omega) d4) (fun h7' n7 c7 u7 hs => ?_)
      obtain ⟨i1, i2, i3⟩ := hs
      subst i1
      rw [i2, i3, ko_new (by omega)]
      have lead5 : q.2.2.1 < 5 := by
        unfold mq_led at b36
        rw [Bool.and_eq_true, decide_eq_true_eq] at b36
        exact b36.1
      have Z := kz_up (e := (.inr (10, [xi ((f.toNat : Nat) : Int), .ref fo6, xi (mq_mo q), xi (xb (mq_wi q)), va_rf ak6, .ref j, xi (q.2.2.1 + 1), xi (xb false), va_rf none, xi (xb false)]) : va_E)) d1 (Or.inr rfl)
      have HQ7 : rqO w5 (va_up h6 yy (.inr (10, [xi ((f.toNat : Nat) : Int), .ref fo6, xi (mq_mo q), xi (xb (mq_wi q)), va_rf ak6, .ref j, xi (q.2.2.1 + 1), xi (xb false), va_rf none, xi (xb false)]))) n5 (ar 3) f.toNat (q.1, q.2.1, q.2.2.1 + 1, A9, none) yy := ⟨fo6, j, ak6, none, false, false, va_up_s, d2, d3, d4, d5, aO_kz HA Z, akO_kz d7 Z, ⟨rfl, rfl⟩, by dsimp only; omega, by dsimp only; omega⟩
      have B7 := cB_rup (e := (.inr (10, [xi ((f.toNat : Nat) : Int), .ref fo6, xi (mq_mo q), xi (xb (mq_wi q)), va_rf ak6, .ref j, xi (q.2.2.1 + 1), xi (xb false), va_rf none, xi (xb false)]) : va_E)) (cB_x (R := f.toNat) S5.2.1) (by omega) d1
      obtain ⟨j1, j2, j3⟩ := I.2.1 f.toNat (by omega) q eq
      obtain ⟨X9, eX9⟩ := Option.isSome_iff_exists.mp j3
      obtain ⟨fo9, e39, HO9⟩ := (B7.2.2.2.2.2.2.2.2.2.1 q.1.toNat (by omega)).2 X9 eX9
      refine xe_s (f := (46, _, _, _)) xt_g225 rfl rfl rfl rfl rfl ?_
      refine xe_s (f := (47, _, _, _)) xt_g225 rfl rfl rfl rfl rfl ?_
      refine xe_cI xt_g225 rfl rfl rfl (q := 50) rfl (kc_V xk_0_193 rfl (ko_44) (by omega) rfl rfl) xt_g135 (by decide) ⟨Nat.le_of_ble_eq_true rfl, Nat.le_of_ble_eq_true rfl, Nat.le_of_ble_eq_true rfl⟩ (k135 (q := (q.1, q.2.1, q.2.2.1 + 1, A9, none)) hfm (KW_kz S5.1 Z) B7 (by omega) HQ7 HO9 e39 j1 G.2.1 G.2.2.2.1 S5.2.2.2.1) (fun z8 h8' n8 c8 u8 ht => ?_)
      refine xe_s (f := (51, _, _, _)) xt_g225 rfl rfl rfl rfl rfl ?_
      refine xe_s (f := (52, _, xi 1 :: _, _)) xt_g225 rfl rfl rfl rfl rfl ?_
      refine xe_iret xt_g225 rfl rfl (xi_bool (by first | omega | exact xb_or _)).1 ?_
      try dsimp only
      obtain ⟨_, w9, s9, ar9, h9, t9, kc9, k1, k2, k3, k4, k5, k6⟩ := ht
      refine ⟨1, rfl, rfl, w9, s9, p5, ar9, v, h9, t9, kc9, k1, ?_, k2.1, k6, ?_, k3.2.2, by rw [k3.2.1]; exact S5.2.2.2.2⟩
      · obtain ⟨x1', x2', x3', x4', x5'⟩ := RU_t (RU_z (RU_RT RA) d2 d3) (RU_RT k2)
        exact ⟨by omega, by omega, by omega, by omega, x5'⟩
      · rw [k3.1, S5.2.2.1]
        unfold mu_send
        show _ = mu_ln (mu_note (mu_sln u []) _ _ _ _)
        rw [note_ln]
/-- post -/
theorem c241 (hfm : fm = .null ∨ ∃ j, fm = .ref j) (S : cS w s p ar v h n t kc u dp) (G : mG u) {f g z : Int} (e : mu_if u f = true) (e' : mu_if u g = true) (hz : xr z) : xI fm 241 (ko w s p ar v h) n [.ref 44, xi f, xi g, xi z] (fun y h' n' u' => y = (mu_post u f g z).1 ∧ cR 5000 850 h n kc h' n' u' (mu_post u f g z).2 dp) := by
  have W0 := S.1.1.1
  have l160 := G.1
  unfold xI mu_post
  rw [e, e', show (true && true) = true from rfl, if_pos rfl]
  refine xe_s (f := (1, _, _, _)) xt_g241 rfl rfl rfl rfl rfl ?_
  refine xe_cA xt_g241 rfl rfl rfl (q := 4) rfl (kc_V xk_0_93 rfl (ko_44) (by omega) rfl rfl) xt_g71 (by decide) ⟨Nat.le_of_ble_eq_true rfl, Nat.le_of_ble_eq_true rfl, Nat.le_of_ble_eq_true rfl⟩ (c71 S G) (fun x1 h1' n1 c1 u1 hp => ?_)
  obtain ⟨w1, h2, kc1, rfl, R1, H1, S1⟩ := hp
  have N1 := R1.2.1.1
  obtain ⟨X, fo, f0, f1, eX, e3, HO⟩ := at_fr S1.2.1 (f := f) e
  obtain ⟨Y, go, g0, g1, eY, e3', HG⟩ := at_fr S1.2.1 (f := g) e'
  obtain ⟨ad, b1, b2, b3, b4, b5⟩ := HO
  have X1 := (ko_d (w := w1) (s := s) (p := p) (ar := ar) (v := v) b2.1).trans b1
  obtain ⟨ad', b1', b2', b3', b4', b5'⟩ := HG
  have X2 := (ko_d (w := w1) (s := s) (p := p) (ar := ar) (v := v) b2'.1).trans b1'
  have ea : mu_ad u f = X.2.2 := by unfold mu_ad; rw [show mu_fr u f.toNat = some X from eX]
  have ea' : mu_ad u g = Y.2.2 := by unfold mu_ad; rw [show mu_fr u g.toNat = some Y from eY]
  refine xe_s (f := (6, [(4, _), (0, _), (1, _), (2, _), (3, _)], _, _)) xt_g241 rfl rfl rfl rfl rfl ?_
  refine xe_s (f := (7, _, _, _)) xt_g241 rfl rfl rfl rfl rfl ?_
  refine xe_s (f := (8, _, _, _)) xt_g241 rfl rfl rfl rfl rfl ?_
  refine xe_cR xt_g241 rfl rfl rfl (q := 11) rfl (kc_V xk_0_163 rfl (ko_44) (by omega) rfl rfl) xt_g173 (by decide) ⟨Nat.le_of_ble_eq_true rfl, Nat.le_of_ble_eq_true rfl, Nat.le_of_ble_eq_true rfl⟩ (k173 (by omega) S1.2.1 ⟨f0, f1⟩ e3) ?_
  refine xe_s (f := (13, [(5, _), (4, _), (0, _), (1, _), (2, _), (3, _)], _, _)) xt_g241 rfl rfl rfl rfl rfl ?_
  refine xe_s (f := (14, _, _, _)) xt_g241 rfl rfl rfl rfl rfl ?_
  refine xe_s (f := (15, _, _, _)) xt_g241 rfl rfl rfl rfl rfl ?_
  refine xe_cR xt_g241 rfl rfl rfl (q := 18) rfl (kc_V xk_0_163 rfl (ko_44) (by omega) rfl rfl) xt_g173 (by decide) ⟨Nat.le_of_ble_eq_true rfl, Nat.le_of_ble_eq_true rfl, Nat.le_of_ble_eq_true rfl⟩ (k173 (by omega) S1.2.1 ⟨g0, g1⟩ e3') ?_
  refine xe_s (f := (20, [(6, _), (5, _), (4, _), (0, _), (1, _), (2, _), (3, _)], _, _)) xt_g241 rfl rfl rfl rfl rfl ?_
  unfold mu_post1
  rw [ea, ea']
  cases ec : X.2.2 with
  | none =>
    rw [ec] at b5
    have b5 : ad = none := b5
    subst b5
    refine xe_s (f := (22, _, _, _)) xt_g241 rfl rfl rfl rfl rfl ?_
    refine xe_gf xt_g241 rfl (q := 25) rfl (xf_0_166 fm) (X1) (by omega) rfl rfl ?_
    refine xe_s (f := (55, _, _, _)) xt_g241 rfl rfl rfl rfl rfl ?_
    refine xe_s (f := (56, _, xi 0 :: _, _)) xt_g241 rfl rfl rfl rfl rfl ?_
    refine xe_iret xt_g241 rfl rfl (xi_bool (by first | omega | exact xb_or _)).1 ?_
    try dsimp only
    exact ⟨0, rfl, rfl, w1, s, p, ar, v, h2, _, kc1, rfl, RU_m (RU_RT (RT_mono R1 (Nat.le_refl _) (Nat.le_refl _) (by omega))) (by omega) (by omega), S1⟩
  | some A =>
    rw [ec] at b5
    obtain ⟨xa, eq, HA⟩ := b5
    subst eq
    cases ec' : Y.2.2 with
    | none =>
      rw [ec'] at b5'
      have b5' : ad' = none := b5'
      subst b5'
      refine xe_s (f := (22, _, _, _)) xt_g241 rfl rfl rfl rfl rfl ?_
      refine xe_gf xt_g241 rfl (q := 25) rfl (xf_0_166 fm) (X1) (by omega) rfl rfl ?_
      refine xe_s (f := (28, _, _, _)) xt_g241 rfl rfl rfl rfl rfl ?_
      refine xe_s (f := (30, _, _, _)) xt_g241 rfl rfl rfl rfl rfl ?_
      refine xe_gf xt_g241 rfl (q := 33) rfl (xf_0_166 fm) (X2) (by omega) rfl rfl ?_
      refine xe_s (f := (55, _, _, _)) xt_g241 rfl rfl rfl rfl rfl ?_
      refine xe_s (f := (56, _, xi 0 :: _, _)) xt_g241 rfl rfl rfl rfl rfl ?_
      refine xe_iret xt_g241 rfl rfl (xi_bool (by first | omega | exact xb_or _)).1 ?_
      try dsimp only
      exact ⟨0, rfl, rfl, w1, s, p, ar, v, h2, _, kc1, rfl, RU_m (RU_RT (RT_mono R1 (Nat.le_refl _) (Nat.le_refl _) (by omega))) (by omega) (by omega), S1⟩
    | some B =>
      rw [ec'] at b5'
      obtain ⟨xb9, eq', HB⟩ := b5'
      subst eq'
      dsimp only
      refine xe_s (f := (22, _, _, _)) xt_g241 rfl rfl rfl rfl rfl ?_
      refine xe_gf xt_g241 rfl (q := 25) rfl (xf_0_166 fm) (X1) (by omega) rfl rfl ?_
      refine xe_s (f := (28, _, _, _)) xt_g241 rfl rfl rfl rfl rfl ?_
      refine xe_s (f := (30, _, _, _)) xt_g241 rfl rfl rfl rfl rfl ?_
      refine xe_gf xt_g241 rfl (q := 33) rfl (xf_0_166 fm) (X2) (by omega) rfl rfl ?_
      refine xe_s (f := (36, _, _, _)) xt_g241 rfl rfl rfl rfl rfl ?_
      refine xe_s (f := (37, _, _, _)) xt_g241 rfl rfl rfl rfl rfl ?_
      refine xe_s (f := (39, _, _, _)) xt_g241 rfl rfl rfl rfl rfl ?_
      refine xe_s (f := (41, _, _, _)) xt_g241 rfl rfl rfl rfl rfl ?_
      refine xe_gf xt_g241 rfl (q := 44) rfl (xf_0_166 fm) (X1) (by omega) rfl rfl ?_
      refine xe_s (f := (46, _, _, _)) xt_g241 rfl rfl rfl rfl rfl ?_
      refine xe_gf xt_g241 rfl (q := 49) rfl (xf_0_166 fm) (X2) (by omega) rfl rfl ?_
      refine xe_cI xt_g241 rfl rfl rfl (q := 52) rfl (kc_V xk_0_267 rfl (ko_44) (by omega) rfl rfl) xt_g242 (by decide) ⟨Nat.le_of_ble_eq_true rfl, Nat.le_of_ble_eq_true rfl, Nat.le_of_ble_eq_true rfl⟩ (k242 hfm S1.1 S1.2.1.1 H1 HA HB (by omega) S1.2.2.2.2) (fun z3 h3' n3 c3 u3 hr => ?_)
      obtain ⟨ez, w5, s5, p5, h6, t5, kc5, rfl, R5, t5l⟩ := hr
      have S5 := cS_RT (s' := s5) (p' := p5) (ar' := ar) S1 (RT_RR R5) R5.2.2.2.2.1.1 (by rw [R5.2.2.2.2.1.2]; exact S1.2.2.2.1) t5l (fun k h8 h9 h10 => R5.2.2.1 k (fun g => by simp only [List.mem_cons, List.not_mem_nil, or_false] at g; omega)) (R5.2.2.2.1 3 (by decide)) (fun _ _ => rfl)
      have N5 := R5.2.1.1
      have RA := RT_trans R1 (RT_RR R5)
      have ez : z3 = xb (mu_meant u A B) := ez
      rw [ez]
      refine xe_if_ne xt_g241 rfl (t := 57) rfl (q := 55) rfl (by first | omega | exact xb_r _) (fun b52 => ?_) (fun b52 => ?_)
      · try simp only [xb_0, xb_1, ne_eq, Decidable.not_not, Bool.not_eq_false, Bool.not_eq_true, decide_eq_true_eq, decide_eq_false_iff_not] at b52
        rw [if_pos b52]
        refine xe_s (f := (58, _, _, _)) xt_g241 rfl rfl rfl rfl rfl ?_
        refine xe_gf xt_g241 rfl (q := 61) rfl (xf_0_16 fm) (ko_44) (by omega) rfl rfl ?_
        refine xe_s (f := (62, _, xi 0 :: _, _)) xt_g241 rfl rfl rfl rfl rfl ?_
        refine xe_cN xt_g241 rfl rfl rfl (q := 65) rfl (kc_V xk_0_86 rfl (ko_47) (by omega) rfl rfl) xt_g14 (by decide) ⟨Nat.le_of_ble_eq_true rfl, Nat.le_of_ble_eq_true rfl, Nat.le_of_ble_eq_true rfl⟩ (k14_1 (m := 0) S5.1 (by omega) (by omega) (by have := S5.2.2.2.1; omega)) (fun h7' n7 c7 u7 hs => ?_)
        obtain ⟨w7, h8, k7, rfl, R7⟩ := hs
        rw [show (0 : Int).toNat = 0 from rfl, List.take_zero] at R7
        have N7 := R7.2.1.1
        refine xe_s (f := (66, _, _, _)) xt_g241 rfl rfl rfl rfl rfl ?_
        refine xe_gf xt_g241 rfl (q := 69) rfl (xf_0_16 fm) (ko_44) (by omega) rfl rfl ?_
        refine xe_s (f := (70, _, _, _)) xt_g241 rfl rfl rfl rfl rfl ?_
        refine xe_cA xt_g241 rfl rfl rfl (q := 73) rfl (kc_V xk_0_271 rfl (ko_47) (by omega) rfl rfl) xt_g42 (by decide) ⟨Nat.le_of_ble_eq_true rfl, Nat.le_of_ble_eq_true rfl, Nat.le_of_ble_eq_true rfl⟩ (k42_1 (z := z) R7.1 (cst_kp S5.2.1.1 S5.1.1 R7.2.1) hz (by rw [tu_s]; decide)) (fun x8 h8' n8 c8 u8 ht => ?_)
        obtain ⟨rfl, w8, h9, k8, rfl, R8⟩ := ht
        rw [tu_s, List.nil_append] at R8
        have N8 := R8.2.1.1
        have R8' := RT_trans (RT_1 R7) (RT_1 R8)
        rw [tu_tu] at R8'
        have nl : (nm_txt z).length ≤ 11 := nm_txt_len hz
        refine xe_s (f := (74, _, _, _)) xt_g241 rfl rfl rfl rfl rfl ?_
        refine xe_s (f := (75, _, _, _)) xt_g241 rfl rfl rfl rfl rfl ?_
        refine xe_s (f := (76, _, xi 5 :: _, _)) xt_g241 rfl rfl rfl rfl rfl ?_
        refine xe_s (f := (77, _, _, _)) xt_g241 rfl rfl rfl rfl rfl ?_
        refine xe_s (f := (78, _, _, _)) xt_g241 rfl rfl rfl rfl rfl ?_
        refine xe_s (f := (79, _, _, _)) xt_g241 rfl rfl rfl rfl rfl ?_
        refine xe_gf xt_g241 rfl (q := 82) rfl (xf_0_16 fm) (ko_44) (by omega) rfl rfl ?_
        refine xe_cA xt_g241 rfl rfl rfl (q := 85) rfl (kc_V xk_0_253 rfl (ko_47) (by omega) rfl rfl) xt_g48 (by decide) ⟨Nat.le_of_ble_eq_true rfl, Nat.le_of_ble_eq_true rfl, Nat.le_of_ble_eq_true rfl⟩ (k48_1 R8'.1 (by rw [tu_s]; omega)) (fun x9 h9' n9 c9 u9 hu => ?_)
        obtain ⟨h10, rfl, ke9, H9, n9', u9'⟩ := hu
        rw [tu_s] at H9 u9'
        have N9 := ke9.1
        have R9 := RT_trans R8' (RT_ke (B := 15) (C := 2) (u' := u9) R8'.1 ke9 n9' (by omega))
        have S9 := cS_RT (s' := s5) (p' := p5) (ar' := ar) S5 R9 (tu_n (by decide)) (by rw [tu_s]; omega) (by rw [tu_n (by decide)]; exact S5.2.2.2.2) (fun _ _ _ _ => rfl) rfl (fun _ _ => rfl)
        refine xe_cN xt_g241 rfl rfl rfl (q := 88) rfl (kc_V xk_0_219 rfl (ko_44) (by omega) rfl rfl) xt_g143 (by decide) ⟨Nat.le_of_ble_eq_true rfl, Nat.le_of_ble_eq_true rfl, Nat.le_of_ble_eq_true rfl⟩ (k143 S9.1 S9.2.1 H9) (fun h11' n11 c11 u11 hv => ?_)
        refine xe_s (f := (89, _, xi 1 :: _, _)) xt_g241 rfl rfl rfl rfl rfl ?_
        refine xe_iret xt_g241 rfl rfl (xi_bool (by first | omega | exact xb_or _)).1 ?_
        try dsimp only
        obtain ⟨s12, ar12, h12, g12, ke12, n12', u12', f12, h12', H12⟩ := hv
        refine ⟨1, rfl, rfl, w8, s12, p5, ar12, v, h12, _, _, g12, RU_m (RU_RT (RT_mono (RT_trans (RT_trans RA R9) (RT_ke (B := 4) (C := 1) (u' := u11) S9.1 ke12 n12' u12')) (Nat.le_refl _) (Nat.le_refl _) (by omega))) (by omega) (by omega), KW_ke S9.1 ke12, H12, ?_, S9.2.2.2.1, S9.2.2.2.2⟩
        rw [note_ln]
        exact S9.2.2.1
      · try simp only [xb_0, xb_1, ne_eq, Decidable.not_not, Bool.not_eq_false, Bool.not_eq_true, decide_eq_true_eq, decide_eq_false_iff_not] at b52
        rw [if_neg (by rw [b52]; decide)]
        refine xe_s (f := (56, _, xi 0 :: _, _)) xt_g241 rfl rfl rfl rfl rfl ?_
        refine xe_iret xt_g241 rfl rfl (xi_bool (by first | omega | exact xb_or _)).1 ?_
        try dsimp only
        exact ⟨0, rfl, rfl, w5, s5, p5, ar, v, h6, _, kc5, rfl, RU_m (RU_RT (RT_mono RA (Nat.le_refl _) (Nat.le_refl _) (by omega))) (by omega) (by omega), S5⟩
end XBW
