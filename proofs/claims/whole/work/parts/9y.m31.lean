/-! keys of attributes, as longs -/
def ky_lsh (x : Int64) : Int64 := x <<< ((Int32.ofInt 8).toInt64 &&& 63)
def ky_w (x c : Int64) : Int64 := ky_lsh x ||| c
def ky_pack (K : List Int) : Int := K.foldl (fun a c => a * 256 + c) 0
def ky_M : Nat → Int
  | 0 => 0
  | n + 1 => 256 * ky_M n + 127
section XKY
variable {fm : Value} {y pc q : Nat} {L : xm_L} {M : xm_M} {Q : xe_Q} {D : xt_D} {r : List Value} {w c : Int64}
theorem xe_lshl8 (hy : xt_md[y]? = some D) (hi : xt_lk D.2.2.2.2.2 pc = some (.lshl, 1)) (hq : pc + 1 = q) (kk : xe fm y (q, L, .long (ky_lsh w) :: r, M) Q) : xe fm y (pc, L, xi 8 :: .long w :: r, M) Q := by
  subst hq
  exact xe_s hy hi rfl rfl rfl (f := (pc + 1, L, .long (ky_lsh w) :: r, M)) rfl kk
theorem xe_lor (hy : xt_md[y]? = some D) (hi : xt_lk D.2.2.2.2.2 pc = some (.lor, 1)) (hq : pc + 1 = q) (kk : xe fm y (q, L, .long (ky_w w c) :: r, M) Q) : xe fm y (pc, L, .long c :: .long (ky_lsh w) :: r, M) Q := by
  subst hq
  exact xe_s hy hi rfl rfl rfl (f := (pc + 1, L, .long (ky_w w c) :: r, M)) rfl kk
end XKY
theorem ky_step {a c : Int} (ha : 0 ≤ a ∧ a < 36028797018963968) (hc : 0 ≤ c ∧ c < 256) : ky_w (Int64.ofInt a) (Int64.ofInt c) = Int64.ofInt (a * 256 + c) := by
  obtain ⟨A, rfl⟩ := Int.eq_ofNat_of_zero_le ha.1
  obtain ⟨C, rfl⟩ := Int.eq_ofNat_of_zero_le hc.1
  have hA : A < 36028797018963968 := by omega
  have hC : C < 256 := by omega
  unfold ky_w ky_lsh
  apply Int64.toBitVec_inj.mp
  rw [Int64.toBitVec_or, Int64.toBitVec_shiftLeft]
  have e8 : ((Int32.ofInt 8).toInt64 &&& 63).toBitVec.smod 64#64 = 8#64 := by decide
  rw [show ((64 : BitVec 64)) = 64#64 from rfl] at *
  rw [e8]
  apply BitVec.eq_of_toNat_eq
  have t1 : (Int64.ofInt (A : Int)).toBitVec.toNat = A := by
    rw [Int64.toBitVec_ofInt, BitVec.toNat_ofInt]
    omega
  have t2 : (Int64.ofInt (C : Int)).toBitVec.toNat = C := by
    rw [Int64.toBitVec_ofInt, BitVec.toNat_ofInt]
    omega
  have t3 : (Int64.ofInt ((A : Int) * 256 + (C : Int))).toBitVec.toNat = A * 256 + C := by
    rw [Int64.toBitVec_ofInt, BitVec.toNat_ofInt]
    omega
  rw [t3, BitVec.toNat_or, t2, BitVec.shiftLeft_eq', BitVec.toNat_shiftLeft, t1]
  rw [show (8#64).toNat = 8 from rfl, Nat.shiftLeft_eq, Nat.mod_eq_of_lt (by omega)]
  have := Nat.shiftLeft_add_eq_or_of_lt (i := 8) (b := C) (by omega) A
  rw [Nat.shiftLeft_eq] at this
  omega
theorem ky_M_m : ∀ (k n : Nat), 0 ≤ ky_M n ∧ ky_M n ≤ ky_M (n + k)
  | 0, n => by
    refine ⟨?_, Int.le_refl _⟩
    induction n with
    | zero => decide
    | succ n ih => unfold ky_M; omega
  | k + 1, n => by
    have h := ky_M_m k n
    refine ⟨h.1, ?_⟩
    rw [show n + (k + 1) = n + k + 1 by omega]
    show ky_M n ≤ 256 * ky_M (n + k) + 127
    omega
theorem ky_snoc {K : List Int} {c : Int} : ky_pack (K ++ [c]) = ky_pack K * 256 + c := by
  unfold ky_pack
  rw [List.foldl_append]
  rfl
def ky_ok (K : List Int) : Prop := ∀ c, c ∈ K → 1 ≤ c ∧ c ≤ 127
theorem ky_rev : ∀ (R : List Int), ky_ok R → 0 ≤ ky_pack R.reverse ∧ ky_pack R.reverse ≤ ky_M R.length ∧ (R ≠ [] → 1 ≤ ky_pack R.reverse)
  | [], _ => ⟨by decide, by decide, fun h => absurd rfl h⟩
  | c :: R, h => by
    have ih := ky_rev R (fun x hx => h x (List.mem_cons_of_mem _ hx))
    have hc := h c (List.mem_cons_self)
    rw [List.reverse_cons, ky_snoc, List.length_cons]
    unfold ky_M
    refine ⟨?_, ?_, fun _ => ?_⟩ <;> omega
theorem ky_inj : ∀ (R R' : List Int), ky_ok R → ky_ok R' → ky_pack R.reverse = ky_pack R'.reverse → R = R'
  | [], [], _, _, _ => rfl
  | [], c :: R', _, h', e => by
    have := (ky_rev (c :: R') h').2.2 (by simp)
    rw [← e] at this
    exact absurd this (by decide)
  | c :: R, [], h, _, e => by
    have := (ky_rev (c :: R) h).2.2 (by simp)
    rw [e] at this
    exact absurd this (by decide)
  | c :: R, c' :: R', h, h', e => by
    have hc := h c (List.mem_cons_self)
    have hc' := h' c' (List.mem_cons_self)
    rw [List.reverse_cons, List.reverse_cons, ky_snoc, ky_snoc] at e
    have e1 : c = c' := by omega
    have e2 : ky_pack R.reverse = ky_pack R'.reverse := by omega
    rw [e1, ky_inj R R' (fun x hx => h x (List.mem_cons_of_mem _ hx)) (fun x hx => h' x (List.mem_cons_of_mem _ hx)) e2]
theorem ky_eq {K K' : List Int} (h : ky_ok K) (h' : ky_ok K') : ky_pack K = ky_pack K' ↔ K = K' := by
  constructor
  · intro e
    have := ky_inj K.reverse K'.reverse (fun c hc => h c (List.mem_reverse.mp hc)) (fun c hc => h' c (List.mem_reverse.mp hc)) (by rw [List.reverse_reverse, List.reverse_reverse]; exact e)
    rw [← List.reverse_reverse K, this, List.reverse_reverse]
  · rintro rfl
    rfl
theorem ky_bd {K : List Int} (h : ky_ok K) : 0 ≤ ky_pack K ∧ ky_pack K ≤ ky_M K.length := by
  have := ky_rev K.reverse (fun c hc => h c (List.mem_reverse.mp hc))
  rw [List.reverse_reverse, List.length_reverse] at this
  exact ⟨this.1, this.2.1⟩
/-- the long of a key -/
def ky_of (K : List Int) : Int := if 8 < K.length then 0 else ky_pack K
theorem ky_is {K W : List Int} (h : ky_ok K) (hW : ky_ok W) (h8 : W.length ≤ 8) (h0 : W ≠ []) : ky_of K = ky_pack W ↔ K = W := by
  unfold ky_of
  split
  · rename_i hl
    constructor
    · intro e
      have := (ky_rev W.reverse (fun c hc => hW c (List.mem_reverse.mp hc))).2.2 (by simpa using h0)
      rw [List.reverse_reverse] at this
      omega
    · rintro rfl
      omega
  · exact ky_eq h hW
theorem ky_of_r {K : List Int} (h : ky_ok K) : 0 ≤ ky_of K ∧ ky_of K < 9223372036854775808 := by
  unfold ky_of
  split
  · decide
  · rename_i hl
    have h1 := ky_bd h
    have h2 := ky_M_m (8 - K.length) K.length
    rw [show K.length + (8 - K.length) = 8 by omega] at h2
    have h3 : ky_M 8 = 9187201950435737471 := by decide
    omega
/-! what is found and trimmed in a text -/
def pa_fd (t : Int → Int) (c : Int) : Nat → Int → Int
  | 0, k => k
  | n + 1, k => if t k = c then k else pa_fd t c n (k + 1)
def tr_fw (t : Int → Int) : Nat → Int → Int
  | 0, k => k
  | n + 1, k => if t k = 32 then tr_fw t n (k + 1) else k
def tr_bk (t : Int → Int) : Nat → Int → Int
  | 0, k => k
  | n + 1, k => if t (k - 1) = 32 then tr_bk t n (k - 1) else k
def tr_f (t : Int → Int) (b e : Int) : Int := tr_fw t (e - b).toNat b
def tr_t (t : Int → Int) (b e : Int) : Int := tr_bk t (e - tr_f t b e).toNat e
def tr_m (t : Int → Int) (b e : Int) : List Int := pa_sl t (tr_f t b e) (tr_t t b e)
theorem pa_fd_r {t : Int → Int} {c : Int} : ∀ (N : Nat) (k : Int), k ≤ pa_fd t c N k ∧ pa_fd t c N k ≤ k + N
  | 0, k => by simp [pa_fd]
  | N + 1, k => by
    unfold pa_fd
    have := pa_fd_r (t := t) (c := c) N (k + 1)
    split <;> omega
theorem tr_fw_r {t : Int → Int} : ∀ (N : Nat) (k : Int), k ≤ tr_fw t N k ∧ tr_fw t N k ≤ k + N
  | 0, k => by simp [tr_fw]
  | N + 1, k => by
    unfold tr_fw
    have := tr_fw_r (t := t) N (k + 1)
    split <;> omega
theorem tr_bk_r {t : Int → Int} : ∀ (N : Nat) (k : Int), k - N ≤ tr_bk t N k ∧ tr_bk t N k ≤ k
  | 0, k => by simp [tr_bk]
  | N + 1, k => by
    unfold tr_bk
    have := tr_bk_r (t := t) N (k - 1)
    split <;> omega
theorem tr_r {t : Int → Int} {b e : Int} (h : b ≤ e) : b ≤ tr_f t b e ∧ tr_f t b e ≤ tr_t t b e ∧ tr_t t b e ≤ e := by
  have h1 := tr_fw_r (t := t) (e - b).toNat b
  have h2 := tr_bk_r (t := t) (e - tr_f t b e).toNat e
  unfold tr_t
  unfold tr_f at *
  omega
section XFT
variable {s : Nat → Int} {ar : Nat → Nat → Int}
theorem xd_at_in {k : Int} (h0 : 0 ≤ k) (h : k < s 2) : xd_at s ar k = ar 1 k.toNat := by
  unfold xd_at
  rw [if_pos ⟨h0, h⟩]
theorem xd_fnd_t {c : Int} : ∀ (N : Nat) (k : Int), 0 ≤ k → k + N ≤ s 2 → xd_fnd (ar 1) c N k = pa_fd (xd_at s ar) c N k
  | 0, k, _, _ => rfl
  | N + 1, k, h0, h => by
    unfold xd_fnd pa_fd
    rw [xd_at_in h0 (by omega), xd_fnd_t N (k + 1) (by omega) (by omega)]
theorem xd_fw_t : ∀ (N : Nat) (k : Int), 0 ≤ k → k + N ≤ s 2 → xd_fw (ar 1) N k = tr_fw (xd_at s ar) N k
  | 0, k, _, _ => rfl
  | N + 1, k, h0, h => by
    unfold xd_fw tr_fw
    rw [xd_at_in h0 (by omega), xd_fw_t N (k + 1) (by omega) (by omega)]
theorem xd_bk_t : ∀ (N : Nat) (k : Int), 0 ≤ k - N → k ≤ s 2 → xd_bk (ar 1) N k = tr_bk (xd_at s ar) N k
  | 0, k, _, _ => rfl
  | N + 1, k, h0, h => by
    unfold xd_bk tr_bk
    rw [xd_at_in (by omega) (by omega), xd_bk_t N (k - 1) (by omega) (by omega)]
theorem xd_tf_t {b e : Int} (h0 : 0 ≤ b) (hb : b ≤ e) (he : e ≤ s 2) : xd_tf ar b e = tr_f (xd_at s ar) b e := xd_fw_t _ _ h0 (by omega)
theorem xd_tt_t {b e : Int} (h0 : 0 ≤ b) (hb : b ≤ e) (he : e ≤ s 2) : xd_tt ar b e = tr_t (xd_at s ar) b e := by
  have h1 := tr_fw_r (t := xd_at s ar) (e - b).toNat b
  unfold xd_tt tr_t
  rw [xd_tf_t h0 hb he, xd_bk_t _ _ (by unfold tr_f; omega) he]
end XFT
/-- all that is on the line can be typed -/
def xd_lok (s : Nat → Int) (ar : Nat → Nat → Int) : Prop := ∀ k : Int, 0 ≤ k → k < s 2 → 32 ≤ ar 1 k.toNat ∧ ar 1 k.toNat ≤ 126
section XKO
variable (fm : Value) {m n : Nat} {h0 : xm_H} {s : Nat → Int} {ar : Nat → Nat → Int}
theorem xv_find1 (hmn : xo_in m n) (hw : xo_wf s ar) {c b e : Int} (hc : xr c) (h1 : 0 ≤ b) (h2 : b ≤ e) (h3 : e ≤ s 2) (h4 : s 2 ≤ 160) : xv fm 313 m n h0 s ar [.ref m, xi c, xi b, xi e] (some (xi (pa_fd (xd_at s ar) c (e - b).toNat b))) s ar := by
  have h := xv_find fm hmn (h0 := h0) hw hc h1 (by omega) (by omega) (show 0 ≤ e by omega)
  rw [xd_fnd_t (s := s) _ _ h1 (by omega)] at h
  exact h
theorem xv_trim1 (hmn : xo_in m n) (hw : xo_wf s ar) {b e : Int} (h1 : 0 ≤ b) (h2 : b ≤ e) (h3 : e ≤ s 2) (h4 : s 2 ≤ 160) : xv fm 315 m n h0 s ar [.ref m, xi b, xi e] none (xo_u (xo_u s 38 (tr_f (xd_at s ar) b e)) 39 (tr_t (xd_at s ar) b e)) ar := by
  have h := xv_trim fm hmn (h0 := h0) hw h1 (by omega) (by omega) (show 0 ≤ e by omega)
  rw [xd_tf_t h1 h2 h3, xd_tt_t h1 h2 h3] at h
  exact h
theorem xd_sml_k {c : Int} (h : 32 ≤ c ∧ c ≤ 126) : 32 ≤ xd_sml c ∧ xd_sml c ≤ 127 := by
  unfold xd_sml
  split <;> omega
theorem tr_ky {b e : Int} (hl : xd_lok s ar) (h1 : 0 ≤ b) (h2 : b ≤ e) (h3 : e ≤ s 2) : ky_ok ((pa_sl (xd_at s ar) b e).map xd_sml) := by
  intro c hc
  obtain ⟨x, hx, rfl⟩ := List.mem_map.mp hc
  obtain ⟨i, hi, rfl⟩ := List.mem_map.mp hx
  rw [List.mem_range] at hi
  rw [xd_at_in (by omega) (by omega)]
  have := xd_sml_k (hl (b + i) (by omega) (by omega))
  omega
theorem xv_keyOf (hmn : xo_in m n) (hw : xo_wf s ar) (hl : xd_lok s ar) {b e : Int} (h1 : 0 ≤ b) (h2 : b ≤ e) (h3 : e ≤ s 2) (h4 : s 2 ≤ 160) : xv fm 317 m n h0 s ar [.ref m, xi b, xi e] (some (xl (ky_of ((tr_m (xd_at s ar) b e).map xd_sml)))) (xo_u (xo_u s 38 (tr_f (xd_at s ar) b e)) 39 (tr_t (xd_at s ar) b e)) ar := by
  show xe fm 317 (0, [(0, .ref m), (1, xi b), (2, xi e)], [], (xo m s ar h0, n, 0, 0)) _
  have hr := tr_r (t := xd_at s ar) h2
  have htr := xv_trim1 fm hmn (h0 := h0) hw h1 h2 h3 h4
  unfold tr_m
  generalize tr_f (xd_at s ar) b e = f at *
  generalize tr_t (xd_at s ar) b e = g at *
  have loop : ∀ (N : Nat) (k : Int) (w : Int64), f ≤ k → k + N = g → (k - f ≤ 8 → w = Int64.ofInt (ky_pack ((pa_sl (xd_at s ar) f k).map xd_sml))) → xe fm 317 (14, [(5, xi k), (3, .long w), (0, .ref m), (1, xi b), (2, xi e)], [], (xo m (xo_u (xo_u s 38 f) 39 g) ar h0, n, 0, 0)) (fun r M => r = .inl (some (xl (ky_of ((pa_sl (xd_at s ar) f g).map xd_sml)))) ∧ M = (xo m (xo_u (xo_u s 38 f) 39 g) ar h0, n, 0, 0)) := by
    intro N
    induction N with
    | zero =>
      intro k w hk hN hw8
      rw [show k = g by omega] at hw8 ⊢
      refine xe_s (f := (16, _, _, _)) xt_g317 rfl rfl rfl rfl rfl ?_
      refine xe_s (f := (17, _, _, _)) xt_g317 rfl rfl rfl rfl rfl ?_
      refine xe_mgs xt_g317 rfl (q := 20) rfl (xf_13_275 fm) (by decide) rfl (by omega) ?_
      try simp only [xo_u, xo_w, Nat.reduceEqDiff, reduceIte, false_and, true_and]
      refine xe_ic_ge xt_g317 rfl (t := 46) rfl (q := 23) rfl (by first | omega | exact hw.1 _ | exact hw.2 _ _ | exact xb_r _) (by first | omega | exact hw.1 _ | exact hw.2 _ _ | exact xb_r _) (fun h20 => ?_) (fun h20 => ?_)
      · refine xe_s (f := (47, _, _, _)) xt_g317 rfl rfl rfl rfl rfl ?_
        refine xe_mgs xt_g317 rfl (q := 50) rfl (xf_13_275 fm) (by decide) rfl (by omega) ?_
        try simp only [xo_u, xo_w, Nat.reduceEqDiff, reduceIte, false_and, true_and]
        refine xe_s (f := (51, _, _, _)) xt_g317 rfl rfl rfl rfl rfl ?_
        refine xe_mgs xt_g317 rfl (q := 54) rfl (xf_13_272 fm) (by decide) rfl (by omega) ?_
        try simp only [xo_u, xo_w, Nat.reduceEqDiff, reduceIte, false_and, true_and]
        refine xe_isub xt_g317 rfl (q := 55) rfl ?_
        refine xe_bipush xt_g317 rfl (q := 57) rfl (by decide) (by decide) ?_
        refine xe_ic_le xt_g317 rfl (t := 64) rfl (q := 60) rfl (by first | omega | exact hw.1 _ | exact hw.2 _ _ | exact xb_r _) (by first | omega | exact hw.1 _ | exact hw.2 _ _ | exact xb_r _) (fun h57 => ?_) (fun h57 => ?_)
        · refine xe_s (f := (65, _, _, _)) xt_g317 rfl rfl rfl rfl rfl ?_
          refine xe_ret xt_g317 rfl rfl ?_
          rw [hw8 h57]
          unfold ky_of
          rw [if_neg (by rw [List.length_map, pa_sl_len]; omega)]
          exact ⟨rfl, rfl⟩
        · refine xe_s (f := (61, _, xl 0 :: _, _)) xt_g317 rfl rfl rfl rfl rfl ?_
          refine xe_s (f := (65, _, _, _)) xt_g317 rfl rfl rfl rfl rfl ?_
          refine xe_ret xt_g317 rfl rfl ?_
          unfold ky_of
          rw [if_pos (by rw [List.length_map, pa_sl_len]; omega)]
          exact ⟨rfl, rfl⟩
      · exact absurd h20 (by omega)
    | succ N ih =>
      intro k w hk hN hw8
      have hlk := hl k (by omega) (by omega)
      have hsk := xd_sml_k hlk
      have hrk := hw.2 1 k.toNat
      refine xe_s (f := (16, _, _, _)) xt_g317 rfl rfl rfl rfl rfl ?_
      refine xe_s (f := (17, _, _, _)) xt_g317 rfl rfl rfl rfl rfl ?_
      refine xe_mgs xt_g317 rfl (q := 20) rfl (xf_13_275 fm) (by decide) rfl (by omega) ?_
      try simp only [xo_u, xo_w, Nat.reduceEqDiff, reduceIte, false_and, true_and]
      refine xe_ic_ge xt_g317 rfl (t := 46) rfl (q := 23) rfl (by first | omega | exact hw.1 _ | exact hw.2 _ _ | exact xb_r _) (by first | omega | exact hw.1 _ | exact hw.2 _ _ | exact xb_r _) (fun h20 => ?_) (fun h20 => ?_)
      · exact absurd h20 (by omega)
      · refine xe_s (f := (24, _, _, _)) xt_g317 rfl rfl rfl rfl rfl ?_
        refine xe_bipush xt_g317 rfl (q := 26) rfl (by decide) (by decide) ?_
        refine xe_lshl8 xt_g317 rfl (q := 27) rfl ?_
        refine xe_s (f := (28, _, _, _)) xt_g317 rfl rfl rfl rfl rfl ?_
        refine xe_mga xt_g317 rfl (q := 31) rfl (xf_13_7 fm) (by decide) rfl (by omega) ?_
        try simp only [xo_u, xo_w, Nat.reduceEqDiff, reduceIte, false_and, true_and]
        refine xe_s (f := (33, _, _, _)) xt_g317 rfl rfl rfl rfl rfl ?_
        refine xe_mal (ok := xm_isN) (ty := .int) xt_g317 rfl (q := 34) rfl (fun _ _ => ⟨rfl, rfl, rfl, rfl⟩) rfl rfl rfl (by omega) (by omega) (by omega) (by omega) ?_
        try simp only [xo_u, xo_w, Nat.reduceEqDiff, reduceIte, false_and, true_and]
        refine xe_csI xt_g317 rfl (q := 37) rfl xk_13_159 rfl (Nat.le_of_ble_eq_true rfl) xt_g251 (by decide) ⟨Nat.le_of_ble_eq_true rfl, Nat.le_of_ble_eq_true rfl, Nat.le_of_ble_eq_true rfl⟩ (xv_small fm hrk) ?_
        refine xe_i2l xt_g317 rfl (q := 38) rfl (by first | omega | exact hw.1 _ | exact hw.2 _ _ | exact xb_r _) ?_
        refine xe_lor xt_g317 rfl (q := 39) rfl ?_
        refine xe_s (f := (40, [(3, _), (5, _), (0, _), (1, _), (2, _)], _, _)) xt_g317 rfl rfl rfl rfl rfl ?_
        refine xe_iinc xt_g317 rfl (q := 43) rfl rfl (by decide) (L1 := [(5, _), (3, _), (0, _), (1, _), (2, _)]) rfl ?_
        refine xe_s (f := (14, _, _, _)) xt_g317 rfl rfl rfl rfl rfl ?_
        refine ih (k + 1) _ (by omega) (by omega) (fun h8 => ?_)
        rw [hw8 (by omega), pa_sl_s hk, List.map_append, List.map_singleton, ky_snoc, xd_at_in (by omega) (by omega)]
        have hb := ky_bd (tr_ky (s := s) (ar := ar) hl (b := f) (e := k) (by omega) hk (by omega))
        rw [List.length_map, pa_sl_len] at hb
        have hm := ky_M_m (7 - (k - f).toNat) (k - f).toNat
        rw [show (k - f).toNat + (7 - (k - f).toNat) = 7 by omega] at hm
        have h7 : ky_M 7 = 35887507618889599 := by decide
        exact ky_step (by omega) (by omega)
  refine xe_s (f := (1, _, _, _)) xt_g317 rfl rfl rfl rfl rfl ?_
  refine xe_s (f := (2, _, _, _)) xt_g317 rfl rfl rfl rfl rfl ?_
  refine xe_s (f := (3, _, _, _)) xt_g317 rfl rfl rfl rfl rfl ?_
  refine xe_cvV xt_g317 rfl (q := 6) rfl xk_13_304 rfl (by omega) xt_g315 (by decide) ⟨Nat.le_of_ble_eq_true rfl, Nat.le_of_ble_eq_true rfl, Nat.le_of_ble_eq_true rfl⟩ (htr) ?_
  refine xe_s (f := (7, _, xl 0 :: _, _)) xt_g317 rfl rfl rfl rfl rfl ?_
  refine xe_s (f := (8, [(3, _), (0, _), (1, _), (2, _)], _, _)) xt_g317 rfl rfl rfl rfl rfl ?_
  refine xe_s (f := (9, _, _, _)) xt_g317 rfl rfl rfl rfl rfl ?_
  refine xe_mgs xt_g317 rfl (q := 12) rfl (xf_13_272 fm) (by decide) rfl (by omega) ?_
  try simp only [xo_u, xo_w, Nat.reduceEqDiff, reduceIte, false_and, true_and]
  refine xe_s (f := (14, [(5, _), (3, _), (0, _), (1, _), (2, _)], _, _)) xt_g317 rfl rfl rfl rfl rfl ?_
  exact loop (g - f).toNat f (Int64.ofInt 0) (by omega) (by omega) (fun _ => by rw [pa_sl_nil (Int.le_refl _)]; rfl)
end XKO
