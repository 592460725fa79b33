/-! the reader of addresses: dots -/
def dlp (cl : List Int) : List Int := if pa_bl cl 47 cl.length = 0 then cl else cl.take (pa_bl cl 47 cl.length - 1)
def kpf (cl Pt : List Int) (last : Bool) : List Int := if Pt = [46, 46] then (if last = true then dlp cl ++ [47] else dlp cl) else if Pt = [46] then (if last = true then cl ++ [47] else cl) else cl ++ 47 :: Pt
section XB7
variable {fm : Value} {w w' w1 w2 : kW} {s s' s1 s2 : Nat → Int} {p p' p1 p2 : Nat → Nat} {ar : Nat → Nat → Option Nat} {v : Nat → Int} {h h' h1 h2 : xm_H} {n n' n1 n2 r k k' u' u1 u2 x : Nat} {l L W P : List Int} {A : pa_A} {t t' t1 t2 : Nat → List Int} {kc kc' kc1 kc2 : Nat → Nat}
theorem tu_id {j : Nat} : tu t j (t j) = t := by
  funext i
  unfold tu
  split
  · rename_i e; rw [e]
  · rfl
theorem pu_id {f : Nat → Nat} {j : Nat} : pu f j (f j) = f := by
  funext i
  unfold pu
  split
  · rename_i e; rw [e]
  · rfl
theorem kR_refl {j : Nat} (K : KW w h n t kc) : kR w h n t kc j (t j) w h n 0 (kc j) := by
  refine ⟨?_, kp_refl, by omega, Nat.le_refl _, by omega, Nat.le_max_left _ _⟩
  rw [tu_id, pu_id]
  exact K
theorem pa_bl_eq {cl : List Int} {c : Int} {m : Nat} : ∀ (k : Nat), m < k → cl.getD m 0 = c → (∀ i, m < i → i < k → cl.getD i 0 ≠ c) → pa_bl cl c k = m + 1
  | 0, h, _, _ => by omega
  | k + 1, h, h1, h2 => by
    unfold pa_bl
    by_cases e : m = k
    · subst e
      rw [if_pos h1]
    · rw [if_neg (h2 k (by omega) (by omega)), pa_bl_eq k (by omega) h1 (fun i g1 g2 => h2 i g1 (by omega))]
theorem pa_bl_no {cl : List Int} {c : Int} : ∀ (k : Nat), (∀ i, i < k → cl.getD i 0 ≠ c) → pa_bl cl c k = 0
  | 0, _ => rfl
  | k + 1, h => by
    unfold pa_bl
    rw [if_neg (h k (by omega)), pa_bl_no k (fun i g => h i (by omega))]
theorem k122_loop (hfm : fm = .null ∨ ∃ j, fm = .ref j) (K : KW w h n t kc) (hl : (t 2).length < 9000) : ∀ (k : Nat), k ≤ (t 2).length → (∀ i, k ≤ i → i < (t 2).length → (t 2).getD i 0 ≠ 47) →
    xe fm 122 (10, [(1, xi ((k : Int) - 1)), (0, .ref 49)], [], (ko w s p ar v h, n, 0, 0)) (fun r M => r = .inl none ∧ ∃ w' h1 k', M.1 = ko w' s p ar v h1 ∧ kR w h n t kc 2 (dlp (t 2)) w' h1 M.2.1 M.2.2.2 k') := by
  have W0 := K.1.1
  have ha : asc (t 2) := K.2.2.2.2.2.2.1
  intro k
  induction k with
  | zero =>
    intro hk hp
    have e : dlp (t 2) = t 2 := by
      unfold dlp
      rw [pa_bl_no _ (fun i hi => hp i (Nat.zero_le _) hi), if_pos rfl]
    rw [e]
    refine xe_s (f := (11, _, _, _)) xt_g122 rfl rfl rfl rfl rfl ?_
    refine xe_if_lt xt_g122 rfl (t := 42) rfl (q := 14) rfl (by first | omega | exact xb_r _) (fun b11 => ?_) (fun b11 => ?_)
    · try simp only [xb_0, xb_1, ne_eq, Decidable.not_not, Bool.not_eq_false, Bool.not_eq_true, decide_eq_true_eq, decide_eq_false_iff_not] at b11
      refine xe_ret xt_g122 rfl rfl ?_
      try dsimp only
      exact ⟨rfl, w, h, kc 2, rfl, kR_refl K⟩
    · exact absurd b11 (by omega)
  | succ k ih =>
    intro hk hp
    have a1 := ha (((k + 1 : Nat) : Int) - 1).toNat
    have ek : (((k + 1 : Nat) : Int) - 1).toNat = k := by omega
    refine xe_s (f := (11, _, _, _)) xt_g122 rfl rfl rfl rfl rfl ?_
    refine xe_if_lt xt_g122 rfl (t := 42) rfl (q := 14) rfl (by first | omega | exact xb_r _) (fun b11 => ?_) (fun b11 => ?_)
    · exact absurd b11 (by omega)
    · try simp only [xb_0, xb_1, ne_eq, Decidable.not_not, Bool.not_eq_false, Bool.not_eq_true, decide_eq_true_eq, decide_eq_false_iff_not] at b11
      refine xe_s (f := (15, _, _, _)) xt_g122 rfl rfl rfl rfl rfl ?_
      refine xe_gf xt_g122 rfl (q := 18) rfl (xf_2_12 fm) (ko_49) (by omega) rfl rfl ?_
      refine xe_s (f := (19, _, _, _)) xt_g122 rfl rfl rfl rfl rfl ?_
      refine xe_cR xt_g122 rfl rfl rfl (q := 22) rfl (kc_V xk_2_172 rfl (ko_50) (by omega) rfl rfl) xt_g123 (by decide) ⟨Nat.le_of_ble_eq_true rfl, Nat.le_of_ble_eq_true rfl, Nat.le_of_ble_eq_true rfl⟩ (k123_2 hfm K (by omega) (by omega)) ?_
      refine xe_bipush xt_g122 rfl (q := 24) rfl (by decide) (by decide) ?_
      refine xe_ic_ne xt_g122 rfl (t := 36) rfl (q := 27) rfl (by first | omega | exact xb_r _) (by first | omega | exact xb_r _) (fun b24 => ?_) (fun b24 => ?_)
      · try simp only [xb_0, xb_1, ne_eq, Decidable.not_not, Bool.not_eq_false, Bool.not_eq_true, decide_eq_true_eq, decide_eq_false_iff_not] at b24
        rw [ek] at b24
        refine xe_iinc xt_g122 rfl (q := 39) rfl rfl (by decide) (L1 := [(1, _), (0, _)]) rfl ?_
        refine xe_s (f := (10, _, _, _)) xt_g122 rfl rfl rfl rfl rfl ?_
        have g := ih (by omega) (fun i g1 g2 => by
          by_cases e : i = k
          · rw [e]; exact b24
          · exact hp i (by omega) g2)
        rw [show (k : Int) - 1 = ((k + 1 : Nat) : Int) - 1 + -1 by omega] at g
        exact g
      · try simp only [xb_0, xb_1, ne_eq, Decidable.not_not, Bool.not_eq_false, Bool.not_eq_true, decide_eq_true_eq, decide_eq_false_iff_not] at b24
        rw [ek] at b24
        refine xe_s (f := (28, _, _, _)) xt_g122 rfl rfl rfl rfl rfl ?_
        refine xe_gf xt_g122 rfl (q := 31) rfl (xf_2_12 fm) (ko_49) (by omega) rfl rfl ?_
        refine xe_s (f := (32, _, _, _)) xt_g122 rfl rfl rfl rfl rfl ?_
        refine xe_cN xt_g122 rfl rfl rfl (q := 35) rfl (kc_V xk_2_136 rfl (ko_50) (by omega) rfl rfl) xt_g14 (by decide) ⟨Nat.le_of_ble_eq_true rfl, Nat.le_of_ble_eq_true rfl, Nat.le_of_ble_eq_true rfl⟩ (k14_2 K (show (0 : Int) ≤ ((k + 1 : Nat) : Int) - 1 by omega) (by omega) hl) (fun h' n' c' u' hp' => ?_)
        refine xe_ret xt_g122 rfl rfl ?_
        try dsimp only
        obtain ⟨w', h1, k', g1, g2⟩ := hp'
        have e : dlp (t 2) = (t 2).take (((k + 1 : Nat) : Int) - 1).toNat := by
          unfold dlp
          rw [pa_bl_eq (m := k) _ (by omega) b24 (fun i g1 g2 => hp i (by omega) g2), if_neg (by omega), ek]
          rfl
        rw [e, Nat.zero_add]
        exact ⟨rfl, w', h1, k', g1, g2⟩
theorem k122 (hfm : fm = .null ∨ ∃ j, fm = .ref j) (K : KW w h n t kc) (hl : (t 2).length < 9000) : xN fm 122 (ko w s p ar v h) n [.ref 49] (fun h' n' u' => ∃ w' h1 k', h' = ko w' s p ar v h1 ∧ kR w h n t kc 2 (dlp (t 2)) w' h1 n' u' k') := by
  have W0 := K.1.1
  unfold xN
  refine xe_s (f := (1, _, _, _)) xt_g122 rfl rfl rfl rfl rfl ?_
  refine xe_gf xt_g122 rfl (q := 4) rfl (xf_2_12 fm) (ko_49) (by omega) rfl rfl ?_
  refine xe_cR xt_g122 rfl rfl rfl (q := 7) rfl (kc_V xk_2_171 rfl (ko_50) (by omega) rfl rfl) xt_g12 (by decide) ⟨Nat.le_of_ble_eq_true rfl, Nat.le_of_ble_eq_true rfl, Nat.le_of_ble_eq_true rfl⟩ (k12_2 K) ?_
  refine xe_s (f := (8, _, xi 1 :: _, _)) xt_g122 rfl rfl rfl rfl rfl ?_
  refine xe_isub xt_g122 rfl (q := 9) rfl ?_
  refine xe_s (f := (10, [(1, _), (0, _)], _, _)) xt_g122 rfl rfl rfl rfl rfl ?_
  exact xe_loc (by intro q hq; simp only [List.mem_cons, List.not_mem_nil, or_false] at hq; rcases hq with rfl | rfl <;> rfl) ((k122_loop hfm K hl (t 2).length (Nat.le_refl _) (fun i g1 g2 => by omega)))
theorem dlp_len {cl : List Int} : (dlp cl).length ≤ cl.length := by
  unfold dlp
  split
  · exact Nat.le_refl _
  · rw [List.length_take]; omega
theorem kpf_len {cl Pt : List Int} {b : Bool} : (kpf cl Pt b).length ≤ cl.length + 1 + Pt.length := by
  have := dlp_len (cl := cl)
  unfold kpf
  split
  · split
    · rw [List.length_append, List.length_singleton]; omega
    · omega
  · split
    · split
      · rw [List.length_append, List.length_singleton]; omega
      · omega
    · rw [List.length_append, List.length_cons]; omega
/-- keepPart -/
theorem k121 (hfm : fm = .null ∨ ∃ j, fm = .ref j) (K : KW w h n t kc) (C : cst w h n) (H : sS (gd w) h n r L) {b : Bool} (hl : (t 2).length + L.length < 7000) : xN fm 121 (ko w s p ar v h) n [.ref 49, .ref r, xi (xb b)] (fun h' n' u' => ∃ w' h1 t' kc', h' = ko w' s p ar v h1 ∧ RR [] [] 0 0 w s p h n t kc w' s p h1 n' t' kc' u' ∧ t' 2 = kpf (t 2) L b) := by
  have W0 := K.1.1
  obtain ⟨fs, F1, q1, ha, l1⟩ := sS_at H
  have hb := xb_or b
  unfold xN kpf
  refine xe_s (f := (1, _, _, _)) xt_g121 rfl rfl rfl rfl rfl ?_
  refine xe_s (f := (3, _, .ref 15 :: _, _)) xt_g121 rfl rfl rfl rfl rfl ?_
  refine xe_cR xt_g121 rfl rfl rfl (q := 6) rfl (kc_V xk_2_78 rfl (F1 _ _ _ _ _) (by omega) rfl rfl) xt_g92 (by decide) ⟨Nat.le_of_ble_eq_true rfl, Nat.le_of_ble_eq_true rfl, Nat.le_of_ble_eq_true rfl⟩ (s92 (sS_ko H) (sS_ko (C.1 (15, [46, 46]) (by decide)))) ?_
  refine xe_s (f := (7, [(3, _), (0, _), (1, _), (2, _)], _, _)) xt_g121 rfl rfl rfl rfl rfl ?_
  refine xe_s (f := (8, _, _, _)) xt_g121 rfl rfl rfl rfl rfl ?_
  refine xe_if_eq xt_g121 rfl (t := 15) rfl (q := 11) rfl (by first | omega | exact xb_r _) (fun b8 => ?_) (fun b8 => ?_)
  · try simp only [xb_0, xb_1, ne_eq, Decidable.not_not, Bool.not_eq_false, Bool.not_eq_true, decide_eq_true_eq, decide_eq_false_iff_not] at b8
    rw [if_neg b8]
    refine xe_s (f := (16, _, _, _)) xt_g121 rfl rfl rfl rfl rfl ?_
    refine xe_if_ne xt_g121 rfl (t := 50) rfl (q := 19) rfl (by first | omega | exact xb_r _) (fun b16 => ?_) (fun b16 => ?_)
    · try simp only [xb_0, xb_1, ne_eq, Decidable.not_not, Bool.not_eq_false, Bool.not_eq_true, decide_eq_true_eq, decide_eq_false_iff_not] at b16
      exact absurd b16 b8
    · try simp only [xb_0, xb_1, ne_eq, Decidable.not_not, Bool.not_eq_false, Bool.not_eq_true, decide_eq_true_eq, decide_eq_false_iff_not] at b16
      refine xe_s (f := (20, _, _, _)) xt_g121 rfl rfl rfl rfl rfl ?_
      refine xe_s (f := (22, _, .ref 17 :: _, _)) xt_g121 rfl rfl rfl rfl rfl ?_
      refine xe_cR xt_g121 rfl rfl rfl (q := 25) rfl (kc_V xk_2_78 rfl (F1 _ _ _ _ _) (by omega) rfl rfl) xt_g92 (by decide) ⟨Nat.le_of_ble_eq_true rfl, Nat.le_of_ble_eq_true rfl, Nat.le_of_ble_eq_true rfl⟩ (s92 (sS_ko H) (sS_ko (C.1 (17, [46]) (by decide)))) ?_
      refine xe_if_ne xt_g121 rfl (t := 50) rfl (q := 28) rfl (by first | omega | exact xb_r _) (fun b25 => ?_) (fun b25 => ?_)
      · try simp only [xb_0, xb_1, ne_eq, Decidable.not_not, Bool.not_eq_false, Bool.not_eq_true, decide_eq_true_eq, decide_eq_false_iff_not] at b25
        rw [if_pos b25]
        refine xe_s (f := (51, _, _, _)) xt_g121 rfl rfl rfl rfl rfl ?_
        refine xe_if_eq xt_g121 rfl (t := 64) rfl (q := 54) rfl (by first | omega | exact xb_r _) (fun b51 => ?_) (fun b51 => ?_)
        · try simp only [xb_0, xb_1, ne_eq, Decidable.not_not, Bool.not_eq_false, Bool.not_eq_true, decide_eq_true_eq, decide_eq_false_iff_not] at b51
          rw [b51, if_neg (by decide)]
          refine xe_ret xt_g121 rfl rfl ?_
          try dsimp only
          exact ⟨rfl, w, h, t, kc, rfl, RR_ke K ke_refl (fun _ _ => rfl) (fun _ _ => rfl) (by omega) (by omega), rfl⟩
        · try simp only [xb_0, xb_1, ne_eq, Decidable.not_not, Bool.not_eq_false, Bool.not_eq_true, decide_eq_true_eq, decide_eq_false_iff_not] at b51
          rw [b51, if_pos rfl]
          refine xe_s (f := (55, _, _, _)) xt_g121 rfl rfl rfl rfl rfl ?_
          refine xe_gf xt_g121 rfl (q := 58) rfl (xf_2_12 fm) (ko_49) (by omega) rfl rfl ?_
          refine xe_bipush xt_g121 rfl (q := 60) rfl (by decide) (by decide) ?_
          refine xe_cA xt_g121 rfl rfl rfl (q := 63) rfl (kc_V xk_2_168 rfl (ko_50) (by omega) rfl rfl) xt_g63 (by decide) ⟨Nat.le_of_ble_eq_true rfl, Nat.le_of_ble_eq_true rfl, Nat.le_of_ble_eq_true rfl⟩ (k63_2 K (by decide) (by omega)) (fun x2 h2' n2 c2 u2 hq => ?_)
          obtain ⟨rfl, w2, h4, k2, rfl, R2⟩ := hq
          refine xe_s (f := (64, _, _, _)) xt_g121 rfl rfl rfl rfl rfl ?_
          refine xe_ret xt_g121 rfl rfl ?_
          try dsimp only
          exact ⟨rfl, w2, h4, _, _, rfl, RR_mono (kR_RR2 (s := s) (p := p) R2) rfl rfl (by omega) (by omega) (by omega), tu_s⟩
      · try simp only [xb_0, xb_1, ne_eq, Decidable.not_not, Bool.not_eq_false, Bool.not_eq_true, decide_eq_true_eq, decide_eq_false_iff_not] at b25
        rw [if_neg b25]
        refine xe_s (f := (29, _, _, _)) xt_g121 rfl rfl rfl rfl rfl ?_
        refine xe_gf xt_g121 rfl (q := 32) rfl (xf_2_12 fm) (ko_49) (by omega) rfl rfl ?_
        refine xe_bipush xt_g121 rfl (q := 34) rfl (by decide) (by decide) ?_
        refine xe_cA xt_g121 rfl rfl rfl (q := 37) rfl (kc_V xk_2_168 rfl (ko_50) (by omega) rfl rfl) xt_g63 (by decide) ⟨Nat.le_of_ble_eq_true rfl, Nat.le_of_ble_eq_true rfl, Nat.le_of_ble_eq_true rfl⟩ (k63_2 K (by decide) (by omega)) (fun x2 h2' n2 c2 u2 hq => ?_)
        obtain ⟨rfl, w2, h4, k2, rfl, R2⟩ := hq
        have N2 := R2.2.1.1
        have K2 := R2.1
        refine xe_s (f := (38, _, _, _)) xt_g121 rfl rfl rfl rfl rfl ?_
        refine xe_s (f := (39, _, _, _)) xt_g121 rfl rfl rfl rfl rfl ?_
        refine xe_gf xt_g121 rfl (q := 42) rfl (xf_2_12 fm) (ko_49) (by omega) rfl rfl ?_
        refine xe_s (f := (43, _, _, _)) xt_g121 rfl rfl rfl rfl rfl ?_
        refine xe_cA xt_g121 rfl rfl rfl (q := 46) rfl (kc_V xk_2_140 rfl (ko_50) (by omega) rfl rfl) xt_g16 (by decide) ⟨Nat.le_of_ble_eq_true rfl, Nat.le_of_ble_eq_true rfl, Nat.le_of_ble_eq_true rfl⟩ (k16_2 K2 (sS_kp H R2.2.1) (by rw [tu_s, List.length_append]; simp; omega)) (fun x3 h3' n3 c3 u3 hr => ?_)
        obtain ⟨rfl, w3, h5, k3, rfl, R3⟩ := hr
        refine xe_s (f := (47, _, _, _)) xt_g121 rfl rfl rfl rfl rfl ?_
        refine xe_s (f := (64, _, _, _)) xt_g121 rfl rfl rfl rfl rfl ?_
        refine xe_ret xt_g121 rfl rfl ?_
        try dsimp only
        rw [tu_s] at R3
        refine ⟨rfl, w3, h5, _, _, rfl, RR_mono (RR_trans (kR_RR2 (s := s) (p := p) R2) (kR_RR2 (s := s) (p := p) R3)) rfl rfl (by omega) (by omega) (by omega), ?_⟩
        rw [tu_s, List.append_assoc]
        rfl
  · try simp only [xb_0, xb_1, ne_eq, Decidable.not_not, Bool.not_eq_false, Bool.not_eq_true, decide_eq_true_eq, decide_eq_false_iff_not] at b8
    rw [if_pos b8]
    refine xe_s (f := (12, _, _, _)) xt_g121 rfl rfl rfl rfl rfl ?_
    refine xe_cN xt_g121 rfl rfl rfl (q := 15) rfl (kc_V xk_2_163 rfl (ko_49) (by omega) rfl rfl) xt_g122 (by decide) ⟨Nat.le_of_ble_eq_true rfl, Nat.le_of_ble_eq_true rfl, Nat.le_of_ble_eq_true rfl⟩ (k122 hfm K (by omega)) (fun h1' n1 c1 u1 hp => ?_)
    obtain ⟨w1, h3, k1, rfl, R1⟩ := hp
    have N1 := R1.2.1.1
    have K1 := R1.1
    have dl := dlp_len (cl := t 2)
    refine xe_s (f := (16, _, _, _)) xt_g121 rfl rfl rfl rfl rfl ?_
    refine xe_if_ne xt_g121 rfl (t := 50) rfl (q := 19) rfl (by first | omega | exact xb_r _) (fun b16 => ?_) (fun b16 => ?_)
    · try simp only [xb_0, xb_1, ne_eq, Decidable.not_not, Bool.not_eq_false, Bool.not_eq_true, decide_eq_true_eq, decide_eq_false_iff_not] at b16
      refine xe_s (f := (51, _, _, _)) xt_g121 rfl rfl rfl rfl rfl ?_
      refine xe_if_eq xt_g121 rfl (t := 64) rfl (q := 54) rfl (by first | omega | exact xb_r _) (fun b51 => ?_) (fun b51 => ?_)
      · try simp only [xb_0, xb_1, ne_eq, Decidable.not_not, Bool.not_eq_false, Bool.not_eq_true, decide_eq_true_eq, decide_eq_false_iff_not] at b51
        rw [b51, if_neg (by decide)]
        refine xe_ret xt_g121 rfl rfl ?_
        try dsimp only
        exact ⟨rfl, w1, h3, _, _, rfl, RR_mono (kR_RR2 (s := s) (p := p) R1) rfl rfl (by omega) (by omega) (by omega), tu_s⟩
      · try simp only [xb_0, xb_1, ne_eq, Decidable.not_not, Bool.not_eq_false, Bool.not_eq_true, decide_eq_true_eq, decide_eq_false_iff_not] at b51
        rw [b51, if_pos rfl]
        refine xe_s (f := (55, _, _, _)) xt_g121 rfl rfl rfl rfl rfl ?_
        refine xe_gf xt_g121 rfl (q := 58) rfl (xf_2_12 fm) (ko_49) (by omega) rfl rfl ?_
        refine xe_bipush xt_g121 rfl (q := 60) rfl (by decide) (by decide) ?_
        refine xe_cA xt_g121 rfl rfl rfl (q := 63) rfl (kc_V xk_2_168 rfl (ko_50) (by omega) rfl rfl) xt_g63 (by decide) ⟨Nat.le_of_ble_eq_true rfl, Nat.le_of_ble_eq_true rfl, Nat.le_of_ble_eq_true rfl⟩ (k63_2 K1 (by decide) (by rw [tu_s]; omega)) (fun x2 h2' n2 c2 u2 hq => ?_)
        obtain ⟨rfl, w2, h4, k2, rfl, R2⟩ := hq
        rw [tu_s] at R2
        refine xe_s (f := (64, _, _, _)) xt_g121 rfl rfl rfl rfl rfl ?_
        refine xe_ret xt_g121 rfl rfl ?_
        try dsimp only
        exact ⟨rfl, w2, h4, _, _, rfl, RR_mono (RR_trans (kR_RR2 (s := s) (p := p) R1) (kR_RR2 (s := s) (p := p) R2)) rfl rfl (by omega) (by omega) (by omega), tu_s⟩
    · try simp only [xb_0, xb_1, ne_eq, Decidable.not_not, Bool.not_eq_false, Bool.not_eq_true, decide_eq_true_eq, decide_eq_false_iff_not] at b16
      exact absurd b8 b16
end XB7
