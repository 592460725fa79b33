/-! texts of the class: Strings -/
theorem xi_nc {z : Int} (h : 0 ≤ z ∧ z < 256) : vp_nar .char (Int32.ofInt z) = Int32.ofInt z := by
  obtain ⟨k, rfl⟩ : ∃ k : Nat, z = (k : Int) := ⟨z.toNat, by omega⟩
  have hk : k < 256 := by omega
  have : ∀ k : Fin 256, vp_nar .char (Int32.ofInt (k.val : Int)) = Int32.ofInt (k.val : Int) := by decide +kernel
  exact this ⟨k, hk⟩
theorem xi_chr {z : Int} (h : 0 ≤ z ∧ z < 256) : narrow .char (xi z) = xi z := by
  obtain ⟨k, rfl⟩ : ∃ k : Nat, z = (k : Int) := ⟨z.toNat, by omega⟩
  have hk : k < 256 := by omega
  have : ∀ k : Fin 256, narrow .char (xi (k.val : Int)) = xi (k.val : Int) := by decide +kernel
  exact this ⟨k, hk⟩
theorem xm_isA_va {o : Option Nat} : xm_isA (va_rf o) = true := by cases o <;> rfl
theorem xm_kn_va {o : Option Nat} : xm_kn (va_rf o) = true := by cases o <;> rfl
theorem xe_gst {fm : Value} {y pc q n c u idx : Nat} {L : xm_L} {Q : xe_Q} {D : xt_D} {S : List Value} {h : xm_H} {v : Value} (hy : xt_md[y]? = some D) (hi : xt_lk D.2.2.2.2.2 pc = some (.getstatic idx, 3)) (hq : pc + 3 = q) (hs : xm_sta (xt_X fm) D.1.cls idx = some v) (hk : xm_kn v = true) (kk : xe fm y (q, L, v :: S, (h, n, c, u)) Q) : xe fm y (pc, L, S, (h, n, c, u)) Q := by
  subst hq
  refine xe_s hy hi rfl rfl rfl (f := (pc + 3, L, v :: S, (h, n, c, u))) ?_ kk
  show xm_pus xm_kn (xm_sta (xt_X fm) D.1.cls idx) 3 pc L S (h, n, c, u) = _
  rw [hs]
  unfold xm_pus
  dsimp only
  rw [if_pos hk]
/-- an array of bytes that begins with l -/
def sA (h : xm_H) (b k : Nat) (l : List Int) : Prop := ∃ f : Nat → Int32, h b = .inl (1, k, .inl f) ∧ l.length ≤ k ∧ ∀ i, i < l.length → f i = Int32.ofInt (l.getD i 0)
def asc (l : List Int) : Prop := ∀ i, 0 ≤ l.getD i 0 ∧ l.getD i 0 < 128
/-- a String of good cells -/
def sS (F : Nat → Prop) (h : xm_H) (n r : Nat) (l : List Int) : Prop := ∃ (b : Nat) (x y : Value), h r = .inr (6, [.ref b, xi 0, x, y]) ∧ sA h b l.length l ∧ F r ∧ F b ∧ r < n ∧ b < n ∧ asc l ∧ l.length < 10000
def ex (h : xm_H) (n : Nat) (h' : xm_H) (n' : Nat) : Prop := n ≤ n' ∧ ∀ a, a < n → h' a = h a
theorem ex_refl {h : xm_H} {n : Nat} : ex h n h n := ⟨Nat.le_refl _, fun _ _ => rfl⟩
theorem ex_trans {h h' h'' : xm_H} {n n' n'' : Nat} (a : ex h n h' n') (b : ex h' n' h'' n'') : ex h n h'' n'' := ⟨Nat.le_trans a.1 b.1, fun i hi => (b.2 i (Nat.lt_of_lt_of_le hi a.1)).trans (a.2 i hi)⟩
theorem ex_up {h : xm_H} {n : Nat} {e : va_E} : ex h n (va_up h n e) (n + 1) := ⟨Nat.le_succ _, fun a ha => va_up_n (by omega)⟩
theorem ex_up2 {h h' : xm_H} {n n' a : Nat} {e : va_E} (g : ex h n h' n') (ha : n ≤ a) : ex h n (va_up h' a e) n' := ⟨g.1, fun i hi => (va_up_n (by omega)).trans (g.2 i hi)⟩
theorem sS_F {F F' : Nat → Prop} {h : xm_H} {n r : Nat} {l : List Int} (a : sS F h n r l) (hF : ∀ i, F i → F' i) : sS F' h n r l := by
  obtain ⟨b, x, y, h1, h2, h3, h4, h5⟩ := a
  exact ⟨b, x, y, h1, h2, hF _ h3, hF _ h4, h5⟩
theorem sS_h {F : Nat → Prop} {h h' : xm_H} {n n' r : Nat} {l : List Int} (a : sS F h n r l) (hn : n ≤ n') (hh : ∀ i, F i → i < n → h' i = h i) : sS F h' n' r l := by
  obtain ⟨b, x, y, h1, ⟨f, h2, h6, h7⟩, h3, h4, h5, h8, h9⟩ := a
  exact ⟨b, x, y, (hh r h3 h5).trans h1, ⟨f, (hh b h4 h8).trans h2, h6, h7⟩, h3, h4, by omega, by omega, h9⟩
theorem sS_ex {F : Nat → Prop} {h h' : xm_H} {n n' r : Nat} {l : List Int} (a : sS F h n r l) (e : ex h n h' n') : sS F h' n' r l := sS_h a e.1 (fun i _ hi => e.2 i hi)
theorem gd_e {T : Type} {l : List T} {i : Nat} {d : T} (h : i < l.length) : l.getD i d = l[i] := by
  rw [List.getD_eq_getElem?_getD, List.getElem?_eq_getElem h, Option.getD_some]
theorem gd_ext {l l' : List Int} (he : l.length = l'.length) (hp : ∀ j, j < l.length → l.getD j 0 = l'.getD j 0) : l = l' := by
  refine List.ext_getElem he (fun j h1 h2 => ?_)
  have := hp j h1
  rwa [gd_e h1, gd_e h2] at this
theorem sA_inj {h : xm_H} {b : Nat} {l l' : List Int} (H : sA h b l.length l) (H' : sA h b l'.length l') (ha : asc l) (ha' : asc l') : l = l' := by
  obtain ⟨f, h1, h2, h3⟩ := H
  obtain ⟨f', g1, g2, g3⟩ := H'
  rw [h1] at g1
  injection g1 with g1
  injection g1 with _ g1
  injection g1 with e g1
  injection g1 with g1
  refine gd_ext e (fun j hj => ?_)
  have e2 := h3 j hj
  rw [g1, g3 j (by omega)] at e2
  have a1 := ha j
  have a2 := ha' j
  exact ((xi_eq ⟨by omega, by omega⟩ ⟨by omega, by omega⟩).mp e2).symm
theorem sS_inj {F F' : Nat → Prop} {h : xm_H} {n n' r : Nat} {l l' : List Int} (H : sS F h n r l) (H' : sS F' h n' r l') : l = l' := by
  obtain ⟨b, x, y, h1, h2, h3, h4, h5, h6, h7, h8⟩ := H
  obtain ⟨b', x', y', g1, g2, g3, g4, g5, g6, g7, g8⟩ := H'
  rw [h1] at g1
  injection g1 with g1
  injection g1 with _ g1
  injection g1 with e g1
  injection e with e
  subst e
  exact sA_inj h2 g2 h7 g7
section XSR
variable {fm : Value} {F F' : Nat → Prop} {h : xm_H} {n r r' : Nat} {l l' : List Int}
theorem s32 (H : sS F h n r l) : xR fm 32 h n [.ref r] (some (xi 0)) := by
  obtain ⟨b, x, y, h1, h2, h3, h4, h5, h6, h7⟩ := H
  unfold xR
  refine xe_s (f := (3, _, xi 1 :: _, _)) xt_g32 rfl rfl rfl rfl rfl ?_
  refine xe_s (f := (6, _, _, _)) xt_g32 rfl rfl rfl rfl rfl ?_
  refine xe_s (f := (7, _, _, _)) xt_g32 rfl rfl rfl rfl rfl ?_
  refine xe_gf xt_g32 rfl (q := 10) rfl (xf_15_15 fm) (h1) (by omega) rfl rfl ?_
  refine xe_s (f := (14, _, _, _)) xt_g32 rfl rfl rfl rfl rfl ?_
  refine xe_iret xt_g32 rfl rfl rfl ?_
  exact ⟨rfl, rfl⟩
theorem s74 (H : sS F h n r l) : xR fm 74 h n [.ref r] (some (xi 1)) := by
  obtain ⟨b, x, y, h1, h2, h3, h4, h5, h6, h7⟩ := H
  unfold xR
  refine xe_s (f := (3, _, xi 1 :: _, _)) xt_g74 rfl rfl rfl rfl rfl ?_
  refine xe_s (f := (6, _, _, _)) xt_g74 rfl rfl rfl rfl rfl ?_
  refine xe_s (f := (7, _, _, _)) xt_g74 rfl rfl rfl rfl rfl ?_
  refine xe_gf xt_g74 rfl (q := 10) rfl (xf_15_15 fm) (h1) (by omega) rfl rfl ?_
  refine xe_s (f := (13, _, _, _)) xt_g74 rfl rfl rfl rfl rfl ?_
  refine xe_s (f := (14, _, xi 1 :: _, _)) xt_g74 rfl rfl rfl rfl rfl ?_
  refine xe_s (f := (18, _, _, _)) xt_g74 rfl rfl rfl rfl rfl ?_
  refine xe_iret xt_g74 rfl rfl (xi_bool (by first | omega | exact xb_or _)).1 ?_
  exact ⟨rfl, rfl⟩
theorem s31 (H : sS F h n r l) : xR fm 31 h n [.ref r] (some (xi l.length)) := by
  have H' := H
  obtain ⟨b, x, y, h1, ⟨f, h2, h8⟩, h3, h4, h5, h6, h7⟩ := H
  unfold xR
  refine xe_s (f := (1, _, _, _)) xt_g31 rfl rfl rfl rfl rfl ?_
  refine xe_gf xt_g31 rfl (q := 4) rfl (xf_15_9 fm) (h1) (by omega) rfl rfl ?_
  refine xe_alen xt_g31 rfl (q := 5) rfl (h2) (by decide) (by omega) ?_
  refine xe_s (f := (6, _, _, _)) xt_g31 rfl rfl rfl rfl rfl ?_
  refine xe_cR xt_g31 rfl rfl rfl (q := 9) rfl (kc_V xk_15_335 rfl (h1) (by omega) rfl rfl) xt_g32 (by decide) ⟨Nat.le_of_ble_eq_true rfl, Nat.le_of_ble_eq_true rfl, Nat.le_of_ble_eq_true rfl⟩ (s32 H') ?_
  refine xe_ishr0 xt_g31 rfl (q := 10) rfl ?_
  refine xe_iret xt_g31 rfl rfl xi_int.1 ?_
  exact ⟨rfl, rfl⟩
theorem s194 (H : sS F h n r l) : xR fm 194 h n [.ref r] (some (xi (xb l.isEmpty))) := by
  obtain ⟨b, x, y, h1, ⟨f, h2, h8⟩, h3, h4, h5, h6, h7, h9⟩ := H
  have e : l.isEmpty = decide (l.length = 0) := by cases l <;> simp
  unfold xR
  refine xe_s (f := (1, _, _, _)) xt_g194 rfl rfl rfl rfl rfl ?_
  refine xe_gf xt_g194 rfl (q := 4) rfl (xf_15_9 fm) (h1) (by omega) rfl rfl ?_
  refine xe_alen xt_g194 rfl (q := 5) rfl (h2) (by decide) (by omega) ?_
  refine xe_if_ne xt_g194 rfl (t := 12) rfl (q := 8) rfl (by first | omega | exact xb_r _) (fun b5 => ?_) (fun b5 => ?_)
  · try simp only [xb_0, xb_1, ne_eq, Decidable.not_not, decide_eq_true_eq, decide_eq_false_iff_not] at b5
    rw [e, decide_eq_false (by omega)]
    refine xe_s (f := (13, _, xi 0 :: _, _)) xt_g194 rfl rfl rfl rfl rfl ?_
    refine xe_iret xt_g194 rfl rfl (xi_bool (by first | omega | exact xb_or _)).1 ?_
    exact ⟨rfl, rfl⟩
  · try simp only [xb_0, xb_1, ne_eq, Decidable.not_not, decide_eq_true_eq, decide_eq_false_iff_not] at b5
    rw [e, decide_eq_true (by omega)]
    refine xe_s (f := (9, _, xi 1 :: _, _)) xt_g194 rfl rfl rfl rfl rfl ?_
    refine xe_s (f := (13, _, _, _)) xt_g194 rfl rfl rfl rfl rfl ?_
    refine xe_iret xt_g194 rfl rfl (xi_bool (by first | omega | exact xb_or _)).1 ?_
    exact ⟨rfl, rfl⟩
/-- checkIndex -/
theorem s69 {i k : Int} {v : Value} (hi : 0 ≤ i) (hk : i < k) (hr : k < 2147483648) : xR fm 69 h n [xi i, xi k, v] (some (xi i)) := by
  unfold xR
  refine xe_s (f := (1, _, _, _)) xt_g69 rfl rfl rfl rfl rfl ?_
  refine xe_if_lt xt_g69 rfl (t := 9) rfl (q := 4) rfl (by first | omega | exact xb_r _) (fun b1 => ?_) (fun b1 => ?_)
  · exact absurd b1 (by omega)
  · try simp only [xb_0, xb_1, ne_eq, Decidable.not_not, decide_eq_true_eq, decide_eq_false_iff_not] at b1
    refine xe_s (f := (5, _, _, _)) xt_g69 rfl rfl rfl rfl rfl ?_
    refine xe_s (f := (6, _, _, _)) xt_g69 rfl rfl rfl rfl rfl ?_
    refine xe_ic_lt xt_g69 rfl (t := 16) rfl (q := 9) rfl (by first | omega | exact xb_r _) (by first | omega | exact xb_r _) (fun b6 => ?_) (fun b6 => ?_)
    · try simp only [xb_0, xb_1, ne_eq, Decidable.not_not, decide_eq_true_eq, decide_eq_false_iff_not] at b6
      refine xe_s (f := (17, _, _, _)) xt_g69 rfl rfl rfl rfl rfl ?_
      refine xe_iret xt_g69 rfl rfl xi_int.1 ?_
      exact ⟨rfl, rfl⟩
    · exact absurd b6 (by omega)
theorem s68 {i k : Int} (hfm : fm = .null ∨ ∃ j, fm = .ref j) (hi : 0 ≤ i) (hk : i < k) (hr : k < 2147483648) : xR fm 68 h n [xi i, xi k] none := by
  unfold xR
  rcases hfm with rfl | ⟨j, rfl⟩
  · refine xe_s (f := (1, _, _, _)) xt_g68 rfl rfl rfl rfl rfl ?_
    refine xe_s (f := (2, _, _, _)) xt_g68 rfl rfl rfl rfl rfl ?_
    refine xe_gst xt_g68 rfl (q := 5) rfl rfl rfl ?_
    refine xe_cR xt_g68 rfl rfl rfl (q := 8) rfl (kc_S xk_15_1059 (Nat.le_of_ble_eq_true rfl)) xt_g69 (by decide) ⟨Nat.le_of_ble_eq_true rfl, Nat.le_of_ble_eq_true rfl, Nat.le_of_ble_eq_true rfl⟩ (s69 hi hk hr) ?_
    refine xe_s (f := (9, _, _, _)) xt_g68 rfl rfl rfl rfl rfl ?_
    refine xe_ret xt_g68 rfl rfl ?_
    exact ⟨rfl, rfl⟩
  · refine xe_s (f := (1, _, _, _)) xt_g68 rfl rfl rfl rfl rfl ?_
    refine xe_s (f := (2, _, _, _)) xt_g68 rfl rfl rfl rfl rfl ?_
    refine xe_gst xt_g68 rfl (q := 5) rfl rfl rfl ?_
    refine xe_cR xt_g68 rfl rfl rfl (q := 8) rfl (kc_S xk_15_1059 (Nat.le_of_ble_eq_true rfl)) xt_g69 (by decide) ⟨Nat.le_of_ble_eq_true rfl, Nat.le_of_ble_eq_true rfl, Nat.le_of_ble_eq_true rfl⟩ (s69 hi hk hr) ?_
    refine xe_s (f := (9, _, _, _)) xt_g68 rfl rfl rfl rfl rfl ?_
    refine xe_ret xt_g68 rfl rfl ?_
    exact ⟨rfl, rfl⟩
theorem s29 {i j k : Int} {v : Value} (hi : 0 ≤ i) (hj : i ≤ j) (hk : j ≤ k) (hr : k < 2147483648) : xR fm 29 h n [xi i, xi j, xi k, v] (some (xi i)) := by
  unfold xR
  refine xe_s (f := (1, _, _, _)) xt_g29 rfl rfl rfl rfl rfl ?_
  refine xe_if_lt xt_g29 rfl (t := 14) rfl (q := 4) rfl (by first | omega | exact xb_r _) (fun b1 => ?_) (fun b1 => ?_)
  · exact absurd b1 (by omega)
  · try simp only [xb_0, xb_1, ne_eq, Decidable.not_not, decide_eq_true_eq, decide_eq_false_iff_not] at b1
    refine xe_s (f := (5, _, _, _)) xt_g29 rfl rfl rfl rfl rfl ?_
    refine xe_s (f := (6, _, _, _)) xt_g29 rfl rfl rfl rfl rfl ?_
    refine xe_ic_gt xt_g29 rfl (t := 14) rfl (q := 9) rfl (by first | omega | exact xb_r _) (by first | omega | exact xb_r _) (fun b6 => ?_) (fun b6 => ?_)
    · exact absurd b6 (by omega)
    · try simp only [xb_0, xb_1, ne_eq, Decidable.not_not, decide_eq_true_eq, decide_eq_false_iff_not] at b6
      refine xe_s (f := (10, _, _, _)) xt_g29 rfl rfl rfl rfl rfl ?_
      refine xe_s (f := (11, _, _, _)) xt_g29 rfl rfl rfl rfl rfl ?_
      refine xe_ic_le xt_g29 rfl (t := 22) rfl (q := 14) rfl (by first | omega | exact xb_r _) (by first | omega | exact xb_r _) (fun b11 => ?_) (fun b11 => ?_)
      · try simp only [xb_0, xb_1, ne_eq, Decidable.not_not, decide_eq_true_eq, decide_eq_false_iff_not] at b11
        refine xe_s (f := (23, _, _, _)) xt_g29 rfl rfl rfl rfl rfl ?_
        refine xe_iret xt_g29 rfl rfl xi_int.1 ?_
        exact ⟨rfl, rfl⟩
      · exact absurd b11 (by omega)
theorem s28 {i j k : Int} (hfm : fm = .null ∨ ∃ j, fm = .ref j) (hi : 0 ≤ i) (hj : i ≤ j) (hk : j ≤ k) (hr : k < 2147483648) : xR fm 28 h n [xi i, xi j, xi k] none := by
  unfold xR
  rcases hfm with rfl | ⟨j', rfl⟩
  · refine xe_s (f := (1, _, _, _)) xt_g28 rfl rfl rfl rfl rfl ?_
    refine xe_s (f := (2, _, _, _)) xt_g28 rfl rfl rfl rfl rfl ?_
    refine xe_s (f := (3, _, _, _)) xt_g28 rfl rfl rfl rfl rfl ?_
    refine xe_gst xt_g28 rfl (q := 6) rfl rfl rfl ?_
    refine xe_cR xt_g28 rfl rfl rfl (q := 9) rfl (kc_S xk_15_1062 (Nat.le_of_ble_eq_true rfl)) xt_g29 (by decide) ⟨Nat.le_of_ble_eq_true rfl, Nat.le_of_ble_eq_true rfl, Nat.le_of_ble_eq_true rfl⟩ (s29 hi hj hk hr) ?_
    refine xe_s (f := (10, _, _, _)) xt_g28 rfl rfl rfl rfl rfl ?_
    refine xe_ret xt_g28 rfl rfl ?_
    exact ⟨rfl, rfl⟩
  · refine xe_s (f := (1, _, _, _)) xt_g28 rfl rfl rfl rfl rfl ?_
    refine xe_s (f := (2, _, _, _)) xt_g28 rfl rfl rfl rfl rfl ?_
    refine xe_s (f := (3, _, _, _)) xt_g28 rfl rfl rfl rfl rfl ?_
    refine xe_gst xt_g28 rfl (q := 6) rfl rfl rfl ?_
    refine xe_cR xt_g28 rfl rfl rfl (q := 9) rfl (kc_S xk_15_1062 (Nat.le_of_ble_eq_true rfl)) xt_g29 (by decide) ⟨Nat.le_of_ble_eq_true rfl, Nat.le_of_ble_eq_true rfl, Nat.le_of_ble_eq_true rfl⟩ (s29 hi hj hk hr) ?_
    refine xe_s (f := (10, _, _, _)) xt_g28 rfl rfl rfl rfl rfl ?_
    refine xe_ret xt_g28 rfl rfl ?_
    exact ⟨rfl, rfl⟩
theorem s86 {b : Nat} {i : Int} (hfm : fm = .null ∨ ∃ j, fm = .ref j) (H : sA h b l.length l) (ha : asc l) (hl : l.length < 10000) (hb : b < n) (hi : 0 ≤ i) (hk : i < l.length) : xR fm 86 h n [.ref b, xi i] (some (xi (l.getD i.toNat 0))) := by
  obtain ⟨f, h2, h8, h9⟩ := H
  have h10 := ha i.toNat
  unfold xR
  refine xe_s (f := (1, _, _, _)) xt_g86 rfl rfl rfl rfl rfl ?_
  refine xe_s (f := (2, _, _, _)) xt_g86 rfl rfl rfl rfl rfl ?_
  refine xe_alen xt_g86 rfl (q := 3) rfl (h2) (by decide) (by omega) ?_
  refine xe_cRn xt_g86 rfl rfl rfl (q := 6) rfl (kc_S xk_17_9 (Nat.le_of_ble_eq_true rfl)) xt_g68 (by decide) ⟨Nat.le_of_ble_eq_true rfl, Nat.le_of_ble_eq_true rfl, Nat.le_of_ble_eq_true rfl⟩ (s68 hfm hi hk (by omega)) ?_
  refine xe_s (f := (7, _, _, _)) xt_g86 rfl rfl rfl rfl rfl ?_
  refine xe_s (f := (8, _, _, _)) xt_g86 rfl rfl rfl rfl rfl ?_
  refine xe_al (ok := xm_isB) (ty := .byte) xt_g86 rfl (q := 9) rfl (fun _ _ => ⟨rfl, rfl, rfl, rfl⟩) (h2) rfl rfl (by omega) (by omega) (by omega) (by omega) (h9 _ (by omega)) ?_
  refine xe_sipush xt_g86 rfl (q := 12) rfl (by decide) (by decide) ?_
  refine xe_and255 xt_g86 rfl (q := 13) rfl (by omega) ?_
  refine xe_i2c xt_g86 rfl (q := 14) rfl (by omega) ?_
  refine xe_iret xt_g86 rfl rfl (xi_chr (by omega)) ?_
  exact ⟨rfl, rfl⟩
theorem s85 {i : Int} (hfm : fm = .null ∨ ∃ j, fm = .ref j) (H : sS F h n r l) (hi : 0 ≤ i) (hk : i < l.length) : xR fm 85 h n [.ref r, xi i] (some (xi (l.getD i.toNat 0))) := by
  have H' := H
  obtain ⟨b, x, y, h1, h2, h3, h4, h5, h6, h7, h9⟩ := H
  have h10 := h7 i.toNat
  unfold xR
  refine xe_s (f := (1, _, _, _)) xt_g85 rfl rfl rfl rfl rfl ?_
  refine xe_cR xt_g85 rfl rfl rfl (q := 4) rfl (kc_V xk_15_492 rfl (h1) (by omega) rfl rfl) xt_g74 (by decide) ⟨Nat.le_of_ble_eq_true rfl, Nat.le_of_ble_eq_true rfl, Nat.le_of_ble_eq_true rfl⟩ (s74 H') ?_
  refine xe_s (f := (7, _, _, _)) xt_g85 rfl rfl rfl rfl rfl ?_
  refine xe_s (f := (8, _, _, _)) xt_g85 rfl rfl rfl rfl rfl ?_
  refine xe_gf xt_g85 rfl (q := 11) rfl (xf_15_9 fm) (h1) (by omega) rfl rfl ?_
  refine xe_s (f := (12, _, _, _)) xt_g85 rfl rfl rfl rfl rfl ?_
  refine xe_cR xt_g85 rfl rfl rfl (q := 15) rfl (kc_S xk_15_495 (Nat.le_of_ble_eq_true rfl)) xt_g86 (by decide) ⟨Nat.le_of_ble_eq_true rfl, Nat.le_of_ble_eq_true rfl, Nat.le_of_ble_eq_true rfl⟩ (s86 hfm h2 h7 h9 h6 hi hk) ?_
  refine xe_iret xt_g85 rfl rfl (xi_chr (by omega)) ?_
  exact ⟨rfl, rfl⟩
/-- equals -/
theorem s93_loop {b b' : Nat} (H : sA h b l.length l) (H' : sA h b' l'.length l') (hb : b < n) (hb' : b' < n) (ha : asc l) (ha' : asc l') (hl : l.length < 10000) (he : l.length = l'.length) : ∀ (k i : Nat), l.length - i = k → i ≤ l.length → (∀ j, j < i → l.getD j 0 = l'.getD j 0) →
    xe fm 93 (9, [(2, xi i), (0, .ref b), (1, .ref b')], [], (h, n, 0, 0)) (fun r M => r = .inl (some (xi (xb (decide (l = l'))))) ∧ M = (h, n, 0, 0)) := by
  have G := H
  have G' := H'
  obtain ⟨f, h2, h8, h9⟩ := H
  obtain ⟨f', g2, g8, g9⟩ := H'
  intro k
  induction k with
  | zero =>
    intro i hk hi hp
    have e : l = l' := gd_ext he (fun j hj => hp j (by omega))
    refine xe_s (f := (10, _, _, _)) xt_g93 rfl rfl rfl rfl rfl ?_
    refine xe_s (f := (11, _, _, _)) xt_g93 rfl rfl rfl rfl rfl ?_
    refine xe_alen xt_g93 rfl (q := 12) rfl (h2) (by decide) (by omega) ?_
    refine xe_ic_ge xt_g93 rfl (t := 32) rfl (q := 15) rfl (by first | omega | exact xb_r _) (by first | omega | exact xb_r _) (fun b12 => ?_) (fun b12 => ?_)
    · try simp only [xb_0, xb_1, ne_eq, Decidable.not_not, decide_eq_true_eq, decide_eq_false_iff_not] at b12
      refine xe_s (f := (33, _, xi 1 :: _, _)) xt_g93 rfl rfl rfl rfl rfl ?_
      refine xe_iret xt_g93 rfl rfl (xi_bool (by first | omega | exact xb_or _)).1 ?_
      try dsimp only
      rw [decide_eq_true e]
      exact ⟨rfl, rfl⟩
    · exact absurd b12 (by omega)
  | succ k ih =>
    intro i hk hi hp
    have a1 := ha (i : Int).toNat
    have a2 := ha' (i : Int).toNat
    refine xe_s (f := (10, _, _, _)) xt_g93 rfl rfl rfl rfl rfl ?_
    refine xe_s (f := (11, _, _, _)) xt_g93 rfl rfl rfl rfl rfl ?_
    refine xe_alen xt_g93 rfl (q := 12) rfl (h2) (by decide) (by omega) ?_
    refine xe_ic_ge xt_g93 rfl (t := 32) rfl (q := 15) rfl (by first | omega | exact xb_r _) (by first | omega | exact xb_r _) (fun b12 => ?_) (fun b12 => ?_)
    · exact absurd b12 (by omega)
    · try simp only [xb_0, xb_1, ne_eq, Decidable.not_not, decide_eq_true_eq, decide_eq_false_iff_not] at b12
      refine xe_s (f := (16, _, _, _)) xt_g93 rfl rfl rfl rfl rfl ?_
      refine xe_s (f := (17, _, _, _)) xt_g93 rfl rfl rfl rfl rfl ?_
      refine xe_al (ok := xm_isB) (ty := .byte) xt_g93 rfl (q := 18) rfl (fun _ _ => ⟨rfl, rfl, rfl, rfl⟩) (h2) rfl rfl (by omega) (by omega) (by omega) (by omega) (h9 _ (by omega)) ?_
      refine xe_s (f := (19, _, _, _)) xt_g93 rfl rfl rfl rfl rfl ?_
      refine xe_s (f := (20, _, _, _)) xt_g93 rfl rfl rfl rfl rfl ?_
      refine xe_al (ok := xm_isB) (ty := .byte) xt_g93 rfl (q := 21) rfl (fun _ _ => ⟨rfl, rfl, rfl, rfl⟩) (g2) rfl rfl (by omega) (by omega) (by omega) (by omega) (g9 _ (by omega)) ?_
      refine xe_ic_eq xt_g93 rfl (t := 26) rfl (q := 24) rfl (by first | omega | exact xb_r _) (by first | omega | exact xb_r _) (fun b21 => ?_) (fun b21 => ?_)
      · try simp only [xb_0, xb_1, ne_eq, Decidable.not_not, decide_eq_true_eq, decide_eq_false_iff_not] at b21
        simp only [Int.toNat_natCast] at b21
        refine xe_iinc xt_g93 rfl (q := 29) rfl rfl (by decide) (L1 := [(2, _), (0, _), (1, _)]) rfl ?_
        refine xe_s (f := (9, _, _, _)) xt_g93 rfl rfl rfl rfl rfl ?_
        have hp' : ∀ j, j < i + 1 → l.getD j 0 = l'.getD j 0 := by
          intro j hj
          rcases Nat.lt_succ_iff_lt_or_eq.mp hj with h | h
          · exact hp j h
          · rw [h]; exact b21
        exact ih (i + 1) (by omega) (by omega) hp'
      · try simp only [xb_0, xb_1, ne_eq, Decidable.not_not, decide_eq_true_eq, decide_eq_false_iff_not] at b21
        simp only [Int.toNat_natCast] at b21
        refine xe_s (f := (25, _, xi 0 :: _, _)) xt_g93 rfl rfl rfl rfl rfl ?_
        refine xe_iret xt_g93 rfl rfl (xi_bool (by first | omega | exact xb_or _)).1 ?_
        try dsimp only
        rw [decide_eq_false (fun e => b21 (by rw [e]))]
        exact ⟨rfl, rfl⟩
theorem s93 {b b' : Nat} (H : sA h b l.length l) (H' : sA h b' l'.length l') (hb : b < n) (hb' : b' < n) (ha : asc l) (ha' : asc l') (hl : l.length < 10000) (hl' : l'.length < 10000) : xR fm 93 h n [.ref b, .ref b'] (some (xi (xb (decide (l = l'))))) := by
  have G := H
  have G' := H'
  obtain ⟨f, h2, h8, h9⟩ := H
  obtain ⟨f', g2, g8, g9⟩ := H'
  unfold xR
  refine xe_s (f := (1, _, _, _)) xt_g93 rfl rfl rfl rfl rfl ?_
  refine xe_alen xt_g93 rfl (q := 2) rfl (h2) (by decide) (by omega) ?_
  refine xe_s (f := (3, _, _, _)) xt_g93 rfl rfl rfl rfl rfl ?_
  refine xe_alen xt_g93 rfl (q := 4) rfl (g2) (by decide) (by omega) ?_
  refine xe_ic_ne xt_g93 rfl (t := 34) rfl (q := 7) rfl (by first | omega | exact xb_r _) (by first | omega | exact xb_r _) (fun b4 => ?_) (fun b4 => ?_)
  · try simp only [xb_0, xb_1, ne_eq, Decidable.not_not, decide_eq_true_eq, decide_eq_false_iff_not] at b4
    refine xe_s (f := (35, _, xi 0 :: _, _)) xt_g93 rfl rfl rfl rfl rfl ?_
    refine xe_iret xt_g93 rfl rfl (xi_bool (by first | omega | exact xb_or _)).1 ?_
    try dsimp only
    rw [decide_eq_false (fun e => b4 (by rw [e]))]
    exact ⟨rfl, rfl⟩
  · try simp only [xb_0, xb_1, ne_eq, Decidable.not_not, decide_eq_true_eq, decide_eq_false_iff_not] at b4
    refine xe_s (f := (8, _, xi 0 :: _, _)) xt_g93 rfl rfl rfl rfl rfl ?_
    refine xe_s (f := (9, [(2, _), (0, _), (1, _)], _, _)) xt_g93 rfl rfl rfl rfl rfl ?_
    exact s93_loop G G' hb hb' ha ha' hl (by omega) _ 0 rfl (Nat.zero_le _) (fun j hj => absurd hj (Nat.not_lt_zero j))
theorem s92 (H : sS F h n r l) (H' : sS F' h n r' l') : xR fm 92 h n [.ref r, .ref r'] (some (xi (xb (decide (l = l'))))) := by
  have G := H
  have G' := H'
  obtain ⟨b, x, y, h1, h2, h3, h4, h5, h6, h7, h8⟩ := H
  obtain ⟨b', x', y', g1, g2, g3, g4, g5, g6, g7, g8⟩ := H'
  unfold xR
  refine xe_s (f := (1, _, _, _)) xt_g92 rfl rfl rfl rfl rfl ?_
  refine xe_s (f := (2, _, _, _)) xt_g92 rfl rfl rfl rfl rfl ?_
  refine xe_ac_ne xt_g92 rfl (t := 7) rfl (q := 5) rfl rfl rfl (fun b2 => ?_) (fun b2 => ?_)
  · try simp only [xb_0, xb_1, ne_eq, Decidable.not_not, decide_eq_true_eq, decide_eq_false_iff_not] at b2
    refine xe_s (f := (8, _, _, _)) xt_g92 rfl rfl rfl rfl rfl ?_
    refine xe_ins xt_g92 rfl (q := 11) rfl (xn_15_10 fm) (g1) (by omega) ?_
    refine xe_s (f := (14, _, _, _)) xt_g92 rfl rfl rfl rfl rfl ?_
    refine xe_s (f := (15, _, _, _)) xt_g92 rfl rfl rfl rfl rfl ?_
    refine xe_cas xt_g92 rfl (q := 18) rfl (xp_15_10 fm) (xn_15_10 fm) (g1) (by omega) ?_
    refine xe_s (f := (19, [(2, _), (0, _), (1, _)], _, _)) xt_g92 rfl rfl rfl rfl rfl ?_
    refine xe_s (f := (22, _, xi 1 :: _, _)) xt_g92 rfl rfl rfl rfl rfl ?_
    refine xe_s (f := (25, _, _, _)) xt_g92 rfl rfl rfl rfl rfl ?_
    refine xe_s (f := (26, _, _, _)) xt_g92 rfl rfl rfl rfl rfl ?_
    refine xe_gf xt_g92 rfl (q := 29) rfl (xf_15_15 fm) (h1) (by omega) rfl rfl ?_
    refine xe_s (f := (30, _, _, _)) xt_g92 rfl rfl rfl rfl rfl ?_
    refine xe_gf xt_g92 rfl (q := 33) rfl (xf_15_15 fm) (g1) (by omega) rfl rfl ?_
    refine xe_s (f := (36, _, _, _)) xt_g92 rfl rfl rfl rfl rfl ?_
    refine xe_s (f := (37, _, _, _)) xt_g92 rfl rfl rfl rfl rfl ?_
    refine xe_gf xt_g92 rfl (q := 40) rfl (xf_15_9 fm) (h1) (by omega) rfl rfl ?_
    refine xe_s (f := (41, _, _, _)) xt_g92 rfl rfl rfl rfl rfl ?_
    refine xe_gf xt_g92 rfl (q := 44) rfl (xf_15_9 fm) (g1) (by omega) rfl rfl ?_
    refine xe_cR xt_g92 rfl rfl rfl (q := 47) rfl (kc_S xk_15_541 (Nat.le_of_ble_eq_true rfl)) xt_g93 (by decide) ⟨Nat.le_of_ble_eq_true rfl, Nat.le_of_ble_eq_true rfl, Nat.le_of_ble_eq_true rfl⟩ (s93 h2 g2 h6 g6 h7 g7 h8 g8) ?_
    refine xe_if_eq xt_g92 rfl (t := 54) rfl (q := 50) rfl (by first | omega | exact xb_r _) (fun b47 => ?_) (fun b47 => ?_)
    · try simp only [xb_0, xb_1, ne_eq, Decidable.not_not, decide_eq_true_eq, decide_eq_false_iff_not] at b47
      rw [decide_eq_false (by simpa using b47)]
      refine xe_s (f := (55, _, xi 0 :: _, _)) xt_g92 rfl rfl rfl rfl rfl ?_
      refine xe_iret xt_g92 rfl rfl (xi_bool (by first | omega | exact xb_or _)).1 ?_
      exact ⟨rfl, rfl⟩
    · try simp only [xb_0, xb_1, ne_eq, Decidable.not_not, decide_eq_true_eq, decide_eq_false_iff_not] at b47
      rw [decide_eq_true (by simpa using b47)]
      refine xe_s (f := (51, _, xi 1 :: _, _)) xt_g92 rfl rfl rfl rfl rfl ?_
      refine xe_s (f := (55, _, _, _)) xt_g92 rfl rfl rfl rfl rfl ?_
      refine xe_iret xt_g92 rfl rfl (xi_bool (by first | omega | exact xb_or _)).1 ?_
      exact ⟨rfl, rfl⟩
  · try simp only [xb_0, xb_1, ne_eq, Decidable.not_not, decide_eq_true_eq, decide_eq_false_iff_not] at b2
    refine xe_s (f := (6, _, xi 1 :: _, _)) xt_g92 rfl rfl rfl rfl rfl ?_
    refine xe_iret xt_g92 rfl rfl (xi_bool (by first | omega | exact xb_or _)).1 ?_
    try dsimp only
    injection b2 with b2
    subst b2
    rw [decide_eq_true (sS_inj G G')]
    exact ⟨rfl, rfl⟩
end XSR
