/-! lists: what an array holds, slices, what stays as it was -/
def xh (f : Nat → Int) (p : Nat) (l : List Int) : Prop := ∀ i, i < l.length → f (p + i) = l.getD i 0
def pa_sl (t : Int → Int) (a b : Int) : List Int := (List.range (b - a).toNat).map (fun i : Nat => t (a + i))
theorem xg_l {l l' : List Int} {i : Nat} (h : i < l.length) : (l ++ l').getD i 0 = l.getD i 0 := by simp [List.getD, List.getElem?_append_left h]
theorem xg_r {l l' : List Int} {i : Nat} (h : l.length ≤ i) : (l ++ l').getD i 0 = l'.getD (i - l.length) 0 := by simp [List.getD, List.getElem?_append_right h]
theorem xg_ext {l l' : List Int} (h : l.length = l'.length) (h2 : ∀ i, i < l.length → l.getD i 0 = l'.getD i 0) : l = l' := by
  apply List.ext_getElem h
  intro i h3 h4
  have := h2 i h3
  simpa [List.getD, h3, h4] using this
theorem pa_sl_len {t : Int → Int} {a b : Int} : (pa_sl t a b).length = (b - a).toNat := by simp [pa_sl]
theorem pa_sl_get {t : Int → Int} {a b : Int} {i : Nat} (h : i < (b - a).toNat) : (pa_sl t a b).getD i 0 = t (a + i) := by
  simp [pa_sl, h]
theorem pa_sl_nil {t : Int → Int} {a b : Int} (h : b ≤ a) : pa_sl t a b = [] := by
  apply List.eq_nil_of_length_eq_zero
  rw [pa_sl_len]
  omega
theorem pa_sl_app {t : Int → Int} {a b c : Int} (h1 : a ≤ b) (h2 : b ≤ c) : pa_sl t a b ++ pa_sl t b c = pa_sl t a c := by
  apply xg_ext
  · rw [List.length_append, pa_sl_len, pa_sl_len, pa_sl_len]
    omega
  · intro i hi
    rw [List.length_append, pa_sl_len, pa_sl_len] at hi
    rw [pa_sl_get (by omega)]
    by_cases h : i < (b - a).toNat
    · rw [xg_l (by rw [pa_sl_len]; exact h), pa_sl_get h]
    · rw [xg_r (by rw [pa_sl_len]; omega), pa_sl_len, pa_sl_get (by omega)]
      congr 1
      omega
theorem pa_sl_one {t : Int → Int} {a : Int} : pa_sl t a (a + 1) = [t a] := by
  unfold pa_sl
  rw [show (a + 1 - a).toNat = 1 by omega]
  simp [List.range_succ]
theorem pa_sl_s {t : Int → Int} {a b : Int} (h : a ≤ b) : pa_sl t a (b + 1) = pa_sl t a b ++ [t b] := by
  rw [← pa_sl_app h (by omega), pa_sl_one]
theorem pa_sl_c {t : Int → Int} {a b : Int} (h : a < b) : pa_sl t a b = t a :: pa_sl t (a + 1) b := by
  rw [← pa_sl_app (b := a + 1) (by omega) (by omega), pa_sl_one]
  rfl
theorem pa_sl_e {t t' : Int → Int} {a b a' b' : Int} (h : b - a = b' - a') (h2 : ∀ i : Int, 0 ≤ i → i < b - a → t (a + i) = t' (a' + i)) : pa_sl t a b = pa_sl t' a' b' := by
  apply xg_ext
  · rw [pa_sl_len, pa_sl_len, h]
  · intro i hi
    rw [pa_sl_len] at hi
    rw [pa_sl_get hi, pa_sl_get (by omega), h2 _ (by omega) (by omega)]
section XHL
variable {f g : Nat → Int} {p i k F : Nat} {l l' : List Int} {ar : Nat → Nat → Int} {z : Int}
theorem xh_nil : xh f p [] := fun i h => absurd h (Nat.not_lt_zero i)
theorem xh_app : xh f p (l ++ l') ↔ xh f p l ∧ xh f (p + l.length) l' := by
  constructor
  · intro h
    refine ⟨fun i hi => ?_, fun i hi => ?_⟩
    · rw [h i (by rw [List.length_append]; omega), xg_l hi]
    · rw [Nat.add_assoc, h (l.length + i) (by rw [List.length_append]; omega), xg_r (by omega)]
      congr 1
      omega
  · rintro ⟨h1, h2⟩ i hi
    rw [List.length_append] at hi
    by_cases h : i < l.length
    · rw [h1 i h, xg_l h]
    · rw [xg_r (by omega), ← h2 (i - l.length) (by omega)]
      congr 1
      omega
theorem xh_e (h : xh f p l) (he : ∀ i, i < l.length → g (p + i) = f (p + i)) : xh g p l := fun i hi => by rw [he i hi, h i hi]
theorem xo_wK (h : k ≠ F) : xo_w ar F i z k = ar k := by
  funext j
  exact xo_wN h
theorem xo_wS : xo_w ar F i z F i = z := by
  unfold xo_w
  rw [if_pos ⟨rfl, rfl⟩]
theorem xo_wI {j : Nat} (h : j ≠ i) : xo_w ar F i z k j = ar k j := by
  unfold xo_w
  rw [if_neg (fun e => h e.2)]
theorem xd_apK {P c : Int} {gg : Int → Int} (h : k ≠ F) : xd_ap ar F P gg c k = ar k := by
  funext j
  exact xd_ap_N h
theorem xd_apI {P c : Int} {gg : Int → Int} {j : Nat} (h : (j : Int) < P ∨ P + c ≤ (j : Int)) : xd_ap ar F P gg c k j = ar k j := by
  unfold xd_ap
  rw [if_neg (by omega)]
theorem xh_w (hi : i = p + l.length) (h : xh (ar F) p l) : xh (xo_w ar F i z F) p (l ++ [z]) := by
  rw [xh_app]
  refine ⟨xh_e h (fun j hj => xo_wI (by omega)), fun j hj => ?_⟩
  rw [List.length_singleton] at hj
  rw [show j = 0 by omega, Nat.add_zero, ← hi, xo_wS]
  rfl
theorem xh_wo (hi : i < p ∨ p + l.length ≤ i) (h : xh (ar F) p l) : xh (xo_w ar F i z F) p l := xh_e h (fun j hj => xo_wI (by omega))
theorem xh_ap {P c : Int} {gg : Int → Int} (hP : P = ((p + l.length : Nat) : Int)) (h : xh (ar F) p l) : xh (xd_ap ar F P gg c F) p (l ++ (List.range c.toNat).map (fun i : Nat => gg i)) := by
  rw [xh_app]
  refine ⟨xh_e h (fun j hj => xd_apI (by omega)), fun j hj => ?_⟩
  rw [List.length_map, List.length_range] at hj
  unfold xd_ap
  rw [if_pos ⟨rfl, by omega, by omega⟩, show ((p + l.length + j : Nat) : Int) - P = j by omega]
  simp [hj]
theorem xh_apt {P c b : Int} {t : Int → Int} (hP : P = ((p + l.length : Nat) : Int)) (h : xh (ar F) p l) : xh (xd_ap ar F P (fun i => t (b + i)) c F) p (l ++ pa_sl t b (b + c)) := by
  have := xh_ap (c := c) (gg := fun i => t (b + i)) hP h
  unfold pa_sl
  rw [show b + c - b = c by omega]
  exact this
theorem xh_apo {P c : Int} {gg : Int → Int} (hP : P + c ≤ p ∨ ((p + l.length : Nat) : Int) ≤ P) (h : xh (ar F) p l) : xh (xd_ap ar F P gg c F) p l := xh_e h (fun j hj => xd_apI (by omega))
theorem xh_sl (h : xh f p l) {t : Int → Int} {a : Int} (ht : ∀ i : Nat, i < l.length → t (a + i) = f (p + i)) : pa_sl t a (a + l.length) = l := by
  apply xg_ext
  · rw [pa_sl_len]
    omega
  · intro i hi
    rw [pa_sl_len] at hi
    rw [pa_sl_get hi, ht i (by omega), h i (by omega)]
end XHL
def xq (S A : List Nat) (s : Nat → Int) (ar : Nat → Nat → Int) (s' : Nat → Int) (ar' : Nat → Nat → Int) : Prop := (∀ k, k ∉ S → s' k = s k) ∧ ∀ k, k ∉ A → ar' k = ar k
section XQF
variable {S A S' A' : List Nat} {s s1 s2 : Nat → Int} {ar ar1 ar2 : Nat → Nat → Int} {k i : Nat} {z : Int}
theorem xq_r : xq S A s ar s ar := ⟨fun _ _ => rfl, fun _ _ => rfl⟩
theorem xq_t (h : xq S A s ar s1 ar1) (h' : xq S A s1 ar1 s2 ar2) : xq S A s ar s2 ar2 := ⟨fun k hk => by rw [h'.1 k hk, h.1 k hk], fun k hk => by rw [h'.2 k hk, h.2 k hk]⟩
theorem xq_u (h : xq S A s ar s1 ar1) (hk : k ∈ S) : xq S A s ar (xo_u s1 k z) ar1 := ⟨fun j hj => by rw [xo_uN (by intro e; subst e; exact hj hk), h.1 j hj], h.2⟩
theorem xq_w (h : xq S A s ar s1 ar1) (hk : k ∈ A) : xq S A s ar s1 (xo_w ar1 k i z) := ⟨h.1, fun j hj => by rw [xo_wK (by intro e; subst e; exact hj hk), h.2 j hj]⟩
theorem xq_a {P c : Int} {g : Int → Int} (h : xq S A s ar s1 ar1) (hk : k ∈ A) : xq S A s ar s1 (xd_ap ar1 k P g c) := ⟨h.1, fun j hj => by rw [xd_apK (by intro e; subst e; exact hj hk), h.2 j hj]⟩
theorem xq_m (h : xq S A s ar s1 ar1) (hS : ∀ k, k ∈ S → k ∈ S') (hA : ∀ k, k ∈ A → k ∈ A') : xq S' A' s ar s1 ar1 := ⟨fun k hk => h.1 k (fun e => hk (hS k e)), fun k hk => h.2 k (fun e => hk (hA k e))⟩
theorem xq_at (h : xq S A s ar s1 ar1) (h2 : 2 ∉ S) (h1 : 1 ∉ A) : xd_at s1 ar1 = xd_at s ar := by
  funext k
  unfold xd_at
  rw [h.1 2 h2, h.2 1 h1]
end XQF
/-! addresses: what is read -/
def pa_df (b : Bool) : Int := if b = true then 443 else 80
def pa_num (t : Int → Int) : Nat → Int → Int → Int
  | 0, _, v => v
  | N + 1, k, v => if xd_dig (t k) = true then pa_num t N (k + 1) (10 * v + t k - 48) else v
def pa_pd (t : Int → Int) (k : Int) : Int := xd_cnt xd_dig t 6 k
def pa_port (t : Int → Int) (sec : Bool) (k : Int) : Option (Int × Int) := if t k = 58 then (if pa_pd t (k + 1) < 1 ∨ 5 < pa_pd t (k + 1) ∨ pa_num t 6 (k + 1) 0 < 1 ∨ 65535 < pa_num t 6 (k + 1) 0 then none else some (pa_num t 6 (k + 1) 0, k + 1 + pa_pd t (k + 1))) else some (pa_df sec, k)
def pa_dgs (v : Int) (bs : List Int) : List Int := (bs.filter (fun b => decide (b ≤ v))).map (fun b => 48 + v / b % 10)
def pa_dg (v : Int) : List Int := pa_dgs v [10000, 1000, 100, 10, 1]
def pa_pt (sec : Bool) (v : Int) : List Int := if v = pa_df sec then [] else 58 :: pa_dg v
theorem pa_num_b {t : Int → Int} : ∀ (N : Nat) (k v : Int), 0 ≤ v → 0 ≤ pa_num t N k v ∧ pa_num t N k v < (v + 1) * 10 ^ (xd_cnt xd_dig t N k).toNat
  | 0, k, v, h => by simp [pa_num, xd_cnt]; omega
  | N + 1, k, v, h => by
    unfold pa_num xd_cnt
    by_cases hd : xd_dig (t k) = true
    · rw [if_pos hd, if_pos hd]
      have hc := xd_cnt_r (p := xd_dig) (t := t) N (k + 1)
      have hd2 : 48 ≤ t k ∧ t k ≤ 57 := by
        unfold xd_dig at hd
        exact of_decide_eq_true hd
      have ih := pa_num_b (t := t) N (k + 1) (10 * v + t k - 48) (by omega)
      refine ⟨ih.1, ?_⟩
      rw [show (1 + xd_cnt xd_dig t N (k + 1)).toNat = (xd_cnt xd_dig t N (k + 1)).toNat + 1 by omega, Int.pow_succ]
      generalize (10 : Int) ^ (xd_cnt xd_dig t N (k + 1)).toNat = w at *
      generalize pa_num t N (k + 1) (10 * v + t k - 48) = x at *
      have hw : 0 ≤ w := by
        apply Decidable.byContradiction
        intro hn
        have : (10 * v + t k - 48 + 1) * w ≤ 0 := Int.mul_nonpos_of_nonneg_of_nonpos (by omega) (by omega)
        omega
      have h2 : (10 * v + t k - 48 + 1) * w ≤ ((v + 1) * 10) * w := Int.mul_le_mul_of_nonneg_right (by omega) hw
      rw [show (v + 1) * (w * 10) = ((v + 1) * 10) * w by rw [Int.mul_comm w 10, Int.mul_assoc]]
      omega
    · rw [if_neg hd, if_neg hd]
      simp
      omega
theorem pa_num_5 {t : Int → Int} {k : Int} (h : pa_pd t k ≤ 5) : 0 ≤ pa_num t 6 k 0 ∧ pa_num t 6 k 0 < 100000 := by
  have h1 := pa_num_b (t := t) 6 k 0 (by omega)
  have h2 := xd_cnt_r (p := xd_dig) (t := t) 6 k
  unfold pa_pd at h
  refine ⟨h1.1, ?_⟩
  have h3 := h1.2
  have : xd_cnt xd_dig t 6 k = 0 ∨ xd_cnt xd_dig t 6 k = 1 ∨ xd_cnt xd_dig t 6 k = 2 ∨ xd_cnt xd_dig t 6 k = 3 ∨ xd_cnt xd_dig t 6 k = 4 ∨ xd_cnt xd_dig t 6 k = 5 := by omega
  rcases this with e | e | e | e | e | e <;> rw [e] at h3 <;> simp at h3 <;> omega
section XRP
variable (fm : Value) {m n : Nat} {h0 : xm_H} {s : Nat → Int} {ar : Nat → Nat → Int}
theorem xd_dig_0 : xd_dig 0 = false := by decide
theorem xU_addHead (hmn : xo_in m n) (hw : xo_wf s ar) {H : List Int} {x : Int} (hx : xr x) (h10 : s 10 = H.length) (hH : xh (ar 6) 0 H) (hl : H.length < 300) : xU fm 253 m n h0 s ar [.ref m, xi x] (fun s' ar' => xo_wf s' ar' ∧ xq [3, 10] [6] s ar s' ar' ∧ s' 3 = s 3 ∧ s' 10 = (H ++ [x]).length ∧ xh (ar' 6) 0 (H ++ [x])) := by
  refine xU_of (xv_addHead fm hmn (by omega)) ⟨xo_wf_u (xo_wf_w hw hx) (by omega), xq_u (xq_w xq_r (by decide)) (by decide), xo_uN (by decide), ?_, xh_w (by omega) hH⟩
  rw [xo_uS, List.length_append]
  simp
  omega
def xd_PP (s : Nat → Int) (ar : Nat → Nat → Int) (H : List Int) (sec : Bool) (z : Int) (s' : Nat → Int) (ar' : Nat → Nat → Int) : Prop := xo_wf s' ar' ∧ xq [3, 10] [6] s ar s' ar' ∧ (pa_port (xd_at s ar) sec (s 3) = none → z = 0) ∧ ∀ v k, pa_port (xd_at s ar) sec (s 3) = some (v, k) → z = 1 ∧ s' 3 = k ∧ s' 10 = (H ++ pa_pt sec v).length ∧ xh (ar' 6) 0 (H ++ pa_pt sec v) ∧ s 3 ≤ k ∧ k ≤ s 2
def xd_PD (s : Nat → Int) (ar : Nat → Nat → Int) (H : List Int) (v : Int) (bs : List Int) (z : Int) (s' : Nat → Int) (ar' : Nat → Nat → Int) : Prop := z = 1 ∧ xo_wf s' ar' ∧ xq [3, 10] [6] s ar s' ar' ∧ s' 3 = s 3 ∧ s' 10 = (H ++ pa_dgs v bs).length ∧ xh (ar' 6) 0 (H ++ pa_dgs v bs)
theorem xe_port0 (hmn : xo_in m n) (hw : xo_wf s ar) {H : List Int} {v : Int} {a : Value} (v1 : 0 ≤ v) (v2 : v < 100000) (h10 : s 10 = H.length) (hH : xh (ar 6) 0 H) : xe fm 261 (124, [(3, xi 0), (1, a), (2, xi v), (0, .ref m)], [], (xo m s ar h0, n, 0, 0)) (xQI m n h0 (xd_PD s ar H v [])) := by
  refine xe_s (f := (125, _, _, _)) xt_g261 rfl rfl rfl rfl rfl ?_
  refine xe_if_le xt_g261 rfl (t := 154) rfl (q := 128) rfl (by first | omega | exact hw.1 _ | exact hw.2 _ _ | exact xb_r _) (fun h125 => ?_) (fun h125 => ?_)
  · try simp only [xb_0, xb_1, ne_eq, Decidable.not_not, decide_eq_true_eq, decide_eq_false_iff_not] at h125
    refine xe_s (f := (155, _, xi 1 :: _, _)) xt_g261 rfl rfl rfl rfl rfl ?_
    refine xe_iret xt_g261 rfl rfl (xi_bool (by first | omega | exact xb_or _)).1 ?_
    exact ⟨_, _, _, rfl, rfl, rfl, hw, xq_r, rfl, by simp [pa_dgs, h10], by simpa [pa_dgs] using hH⟩
  · exact absurd h125 (by omega)
theorem xe_port1 (hmn : xo_in m n) {v b : Int} {bs : List Int} (v1 : 0 ≤ v) (v2 : v < 100000) (b1 : 0 < b) (b2 : b ≤ 10000)
    (ih : ∀ (H : List Int) (s : Nat → Int) (ar : Nat → Nat → Int) (a : Value), xo_wf s ar → s 10 = H.length → xh (ar 6) 0 H → H.length + bs.length ≤ 299 → xe fm 261 (124, [(3, xi (b / 10)), (1, a), (2, xi v), (0, .ref m)], [], (xo m s ar h0, n, 0, 0)) (xQI m n h0 (xd_PD s ar H v bs)))
    (H : List Int) (s : Nat → Int) (ar : Nat → Nat → Int) (a : Value) (hw : xo_wf s ar) (h10 : s 10 = H.length) (hH : xh (ar 6) 0 H) (hl : H.length + (b :: bs).length ≤ 299) : xe fm 261 (124, [(3, xi b), (1, a), (2, xi v), (0, .ref m)], [], (xo m s ar h0, n, 0, 0)) (xQI m n h0 (xd_PD s ar H v (b :: bs))) := by
  rw [List.length_cons] at hl
  have d1 : 0 ≤ v / b := Int.ediv_nonneg v1 (by omega)
  have d2 : v / b ≤ v := Int.ediv_le_self b v1
  have d3 : 0 ≤ v / b % 10 ∧ v / b % 10 < 10 := ⟨Int.emod_nonneg _ (by decide), Int.emod_lt_of_pos _ (by decide)⟩
  refine xe_s (f := (125, _, _, _)) xt_g261 rfl rfl rfl rfl rfl ?_
  refine xe_if_le xt_g261 rfl (t := 154) rfl (q := 128) rfl (by first | omega | exact hw.1 _ | exact hw.2 _ _ | exact xb_r _) (fun h125 => ?_) (fun h125 => ?_)
  · exact absurd h125 (by omega)
  · try simp only [xb_0, xb_1, ne_eq, Decidable.not_not, decide_eq_true_eq, decide_eq_false_iff_not] at h125
    refine xe_s (f := (129, _, _, _)) xt_g261 rfl rfl rfl rfl rfl ?_
    refine xe_s (f := (130, _, _, _)) xt_g261 rfl rfl rfl rfl rfl ?_
    refine xe_ic_lt xt_g261 rfl (t := 146) rfl (q := 133) rfl (by first | omega | exact hw.1 _ | exact hw.2 _ _ | exact xb_r _) (by first | omega | exact hw.1 _ | exact hw.2 _ _ | exact xb_r _) (fun h130 => ?_) (fun h130 => ?_)
    · refine xe_s (f := (147, _, _, _)) xt_g261 rfl rfl rfl rfl rfl ?_
      refine xe_bipush xt_g261 rfl (q := 149) rfl (by decide) (by decide) ?_
      refine xe_idiv xt_g261 rfl (q := 150) rfl (by omega) (by omega) ?_
      refine xe_s (f := (151, [(3, _), (1, _), (2, _), (0, _)], _, _)) xt_g261 rfl rfl rfl rfl rfl ?_
      refine xe_s (f := (124, _, _, _)) xt_g261 rfl rfl rfl rfl rfl ?_
      have e : pa_dgs v (b :: bs) = pa_dgs v bs := by
        unfold pa_dgs
        rw [List.filter_cons_of_neg (by simp; omega)]
      unfold xd_PD
      rw [e]
      exact ih H s ar a hw h10 hH (by omega)
    · refine xe_s (f := (134, _, _, _)) xt_g261 rfl rfl rfl rfl rfl ?_
      refine xe_bipush xt_g261 rfl (q := 136) rfl (by decide) (by decide) ?_
      refine xe_s (f := (137, _, _, _)) xt_g261 rfl rfl rfl rfl rfl ?_
      refine xe_s (f := (138, _, _, _)) xt_g261 rfl rfl rfl rfl rfl ?_
      refine xe_idiv xt_g261 rfl (q := 139) rfl (by omega) (by omega) ?_
      refine xe_bipush xt_g261 rfl (q := 141) rfl (by decide) (by decide) ?_
      refine xe_irem xt_g261 rfl (q := 142) rfl (by omega) (by omega) ?_
      refine xe_iadd xt_g261 rfl (q := 143) rfl ?_
      refine xe_chV xt_g261 rfl (q := 146) rfl xk_13_188 rfl (by omega) xt_g253 (by decide) ⟨Nat.le_of_ble_eq_true rfl, Nat.le_of_ble_eq_true rfl, Nat.le_of_ble_eq_true rfl⟩ (xU_addHead fm hmn hw (H := H) (x := 48 + v / b % 10) (by omega) h10 hH (by omega)) (fun s2 ar2 hp => ?_)
      refine xe_s (f := (147, _, _, _)) xt_g261 rfl rfl rfl rfl rfl ?_
      refine xe_bipush xt_g261 rfl (q := 149) rfl (by decide) (by decide) ?_
      refine xe_idiv xt_g261 rfl (q := 150) rfl (by omega) (by omega) ?_
      refine xe_s (f := (151, [(3, _), (1, _), (2, _), (0, _)], _, _)) xt_g261 rfl rfl rfl rfl rfl ?_
      refine xe_s (f := (124, _, _, _)) xt_g261 rfl rfl rfl rfl rfl ?_
      have e : H ++ pa_dgs v (b :: bs) = (H ++ [48 + v / b % 10]) ++ pa_dgs v bs := by
        unfold pa_dgs
        rw [List.filter_cons_of_pos (by simp; omega)]
        simp
      obtain ⟨w2, q2, p3, p10, pH⟩ := hp
      refine xe_mono (ih _ s2 ar2 a w2 p10 pH (by rw [List.length_append]; simp; omega)) ?_
      rintro r M ⟨z, s3, ar3, e1, e2, e3, w3, q3, k3, k10, kH⟩
      rw [← e] at k10 kH
      exact ⟨z, s3, ar3, e1, e2, e3, w3, xq_t q2 q3, by rw [k3, p3], k10, kH⟩
theorem xe_port5 (hmn : xo_in m n) {v : Int} (v1 : 0 ≤ v) (v2 : v < 100000) (H : List Int) (s : Nat → Int) (ar : Nat → Nat → Int) (a : Value) (hw : xo_wf s ar) (h10 : s 10 = H.length) (hH : xh (ar 6) 0 H) (hl : H.length + 5 ≤ 299) : xe fm 261 (124, [(3, xi 10000), (1, a), (2, xi v), (0, .ref m)], [], (xo m s ar h0, n, 0, 0)) (xQI m n h0 (xd_PD s ar H v [10000, 1000, 100, 10, 1])) :=
  xe_port1 fm hmn v1 v2 (by decide) (by decide) (xe_port1 fm hmn v1 v2 (by decide) (by decide) (xe_port1 fm hmn v1 v2 (by decide) (by decide) (xe_port1 fm hmn v1 v2 (by decide) (by decide) (xe_port1 fm hmn v1 v2 (by decide) (by decide) (fun H s ar a hw h10 hH _ => xe_port0 fm hmn hw v1 v2 h10 hH))))) H s ar a hw h10 hH hl
theorem xV_readPort (hmn : xo_in m n) (hw : xo_wf s ar) {H : List Int} {sec : Bool} (h2 : 0 ≤ s 2 ∧ s 2 ≤ 160) (h3 : 0 ≤ s 3 ∧ s 3 ≤ s 2) (h10 : s 10 = H.length) (hH : xh (ar 6) 0 H) (hl : H.length ≤ 290) (h13 : s 13 = xb sec) :
    xV fm 261 m n h0 s ar [.ref m] (xd_PP s ar H sec) := by
  show xe fm 261 (0, [(0, .ref m)], [], (xo m s ar h0, n, 0, 0)) _
  have hr := fun k => xd_at_r hw k
  have r0 := hr (s 3)
  have hx := xb_or sec
  have main : xd_at s ar (s 3) = 58 → s 3 < s 2 → ∀ (N : Nat) (c v : Int), 0 ≤ c → c + N = 6 → s 3 + 1 + c ≤ s 2 → c + xd_cnt xd_dig (xd_at s ar) N (s 3 + 1 + c) = pa_pd (xd_at s ar) (s 3 + 1) → pa_num (xd_at s ar) N (s 3 + 1 + c) v = pa_num (xd_at s ar) 6 (s 3 + 1) 0 →
      xe fm 261 (25, [(2, xi v), (1, xi c), (0, .ref m)], [], (xo m (xo_u s 3 (s 3 + 1 + c)) ar h0, n, 0, 0)) (xQI m n h0 (xd_PP s ar H sec)) := by
    intro h6 hin
    have done : ∀ (c v : Int), 0 ≤ c → c ≤ 6 → s 3 + 1 + c ≤ s 2 → c = pa_pd (xd_at s ar) (s 3 + 1) → v = pa_num (xd_at s ar) 6 (s 3 + 1) 0 → xe fm 261 (70, [(2, xi v), (1, xi c), (0, .ref m)], [], (xo m (xo_u s 3 (s 3 + 1 + c)) ar h0, n, 0, 0)) (xQI m n h0 (xd_PP s ar H sec)) := by
      intro c v c1 c2 c3 hc hv
      have fail : (c < 1 ∨ 5 < c ∨ v < 1 ∨ 65535 < v) → xe fm 261 (91, [(2, xi v), (1, xi c), (0, .ref m)], [], (xo m (xo_u s 3 (s 3 + 1 + c)) ar h0, n, 0, 0)) (xQI m n h0 (xd_PP s ar H sec)) := by
        intro hf
        have e : pa_port (xd_at s ar) sec (s 3) = none := by
          unfold pa_port
          rw [if_pos h6, ← hc, ← hv, if_pos hf]
        refine xe_s (f := (92, _, xi 0 :: _, _)) xt_g261 rfl rfl rfl rfl rfl ?_
        refine xe_iret xt_g261 rfl rfl (xi_bool (by first | omega | exact xb_or _)).1 ?_
        exact ⟨_, _, _, rfl, rfl, xo_wf_u hw (by omega), xq_u xq_r (by decide), fun _ => rfl, fun v k h => by rw [e] at h; cases h⟩
      refine xe_s (f := (71, _, _, _)) xt_g261 rfl rfl rfl rfl rfl ?_
      refine xe_s (f := (72, _, xi 1 :: _, _)) xt_g261 rfl rfl rfl rfl rfl ?_
      refine xe_ic_lt xt_g261 rfl (t := 91) rfl (q := 75) rfl (by first | omega | exact hw.1 _ | exact hw.2 _ _ | exact xb_r _) (by first | omega | exact hw.1 _ | exact hw.2 _ _ | exact xb_r _) (fun h72 => ?_) (fun h72 => ?_)
      · exact fail (by omega)
      · refine xe_s (f := (76, _, _, _)) xt_g261 rfl rfl rfl rfl rfl ?_
        refine xe_s (f := (77, _, xi 5 :: _, _)) xt_g261 rfl rfl rfl rfl rfl ?_
        refine xe_ic_gt xt_g261 rfl (t := 91) rfl (q := 80) rfl (by first | omega | exact hw.1 _ | exact hw.2 _ _ | exact xb_r _) (by first | omega | exact hw.1 _ | exact hw.2 _ _ | exact xb_r _) (fun h77 => ?_) (fun h77 => ?_)
        · exact fail (by omega)
        · have v5 := pa_num_5 (t := xd_at s ar) (k := s 3 + 1) (by omega)
          rw [← hv] at v5
          refine xe_s (f := (81, _, _, _)) xt_g261 rfl rfl rfl rfl rfl ?_
          refine xe_s (f := (82, _, xi 1 :: _, _)) xt_g261 rfl rfl rfl rfl rfl ?_
          refine xe_ic_lt xt_g261 rfl (t := 91) rfl (q := 85) rfl (by first | omega | exact hw.1 _ | exact hw.2 _ _ | exact xb_r _) (by first | omega | exact hw.1 _ | exact hw.2 _ _ | exact xb_r _) (fun h82 => ?_) (fun h82 => ?_)
          · exact fail (by omega)
          · refine xe_s (f := (86, _, _, _)) xt_g261 rfl rfl rfl rfl rfl ?_
            refine xe_ldci (z := 65535) xt_g261 rfl (q := 88) rfl rfl (by decide) ?_
            refine xe_ic_le xt_g261 rfl (t := 93) rfl (q := 91) rfl (by first | omega | exact hw.1 _ | exact hw.2 _ _ | exact xb_r _) (by first | omega | exact hw.1 _ | exact hw.2 _ _ | exact xb_r _) (fun h88 => ?_) (fun h88 => ?_)
            · have e : pa_port (xd_at s ar) sec (s 3) = some (v, s 3 + 1 + c) := by
                unfold pa_port
                rw [if_pos h6, ← hc, ← hv, if_neg (by omega)]
              have j109 : ∀ z, z = pa_df sec → xe fm 261 (109, [(2, xi v), (1, xi c), (0, .ref m)], [xi z, xi v], (xo m (xo_u s 3 (s 3 + 1 + c)) ar h0, n, 0, 0)) (xQI m n h0 (xd_PP s ar H sec)) := by
                intro z hz
                have hz2 : z = 443 ∨ z = 80 := by rw [hz]; unfold pa_df; split <;> simp
                refine xe_ic_ne xt_g261 rfl (t := 114) rfl (q := 112) rfl (by first | omega | exact hw.1 _ | exact hw.2 _ _ | exact xb_r _) (by first | omega | exact hw.1 _ | exact hw.2 _ _ | exact xb_r _) (fun h109 => ?_) (fun h109 => ?_)
                · refine xe_s (f := (115, _, _, _)) xt_g261 rfl rfl rfl rfl rfl ?_
                  refine xe_bipush xt_g261 rfl (q := 117) rfl (by decide) (by decide) ?_
                  refine xe_chV xt_g261 rfl (q := 120) rfl xk_13_188 rfl (by omega) xt_g253 (by decide) ⟨Nat.le_of_ble_eq_true rfl, Nat.le_of_ble_eq_true rfl, Nat.le_of_ble_eq_true rfl⟩ (xU_addHead fm hmn (xo_wf_u hw (by omega)) (H := H) (x := 58) (by omega) (by rw [xo_uN (by decide)]; exact h10) hH (by omega)) (fun s2 ar2 hp => ?_)
                  obtain ⟨w2, q2, p3, p10, pH⟩ := hp
                  rw [xo_uS] at p3
                  refine xe_sipush xt_g261 rfl (q := 123) rfl (by decide) (by decide) ?_
                  refine xe_s (f := (124, [(3, _), (2, _), (1, _), (0, _)], _, _)) xt_g261 rfl rfl rfl rfl rfl ?_
                  refine xe_mono (xe_loc (by intro q hq; simp only [List.mem_cons, List.not_mem_nil, or_false] at hq; rcases hq with rfl | rfl | rfl | rfl <;> rfl) (xe_port5 fm hmn v5.1 v5.2 _ s2 ar2 (xi c) w2 p10 pH (by rw [List.length_append]; simp; omega))) ?_
                  rintro r M ⟨z', s3, ar3, e1, e2, e3, w3, q3, k3, k10, kH⟩
                  refine ⟨z', s3, ar3, e1, e2, w3, xq_t (xq_t (xq_u xq_r (by decide)) q2) q3, fun h => (by rw [e] at h; cases h), fun v' k' h => ?_⟩
                  rw [e] at h
                  cases h
                  have e5 : H ++ pa_pt sec v = H ++ [58] ++ pa_dgs v [10000, 1000, 100, 10, 1] := by
                    unfold pa_pt pa_dg
                    rw [if_neg (by omega)]
                    simp
                  rw [e5]
                  exact ⟨e3, by rw [k3, p3], k10, kH, by omega, by omega⟩
                · refine xe_s (f := (113, _, xi 1 :: _, _)) xt_g261 rfl rfl rfl rfl rfl ?_
                  refine xe_iret xt_g261 rfl rfl (xi_bool (by first | omega | exact xb_or _)).1 ?_
                  refine ⟨_, _, _, rfl, rfl, xo_wf_u hw (by omega), xq_u xq_r (by decide), fun h => (by rw [e] at h; cases h), fun v' k' h => ?_⟩
                  rw [e] at h
                  cases h
                  have e5 : H ++ pa_pt sec v = H := by
                    unfold pa_pt
                    rw [if_pos (by omega), List.append_nil]
                  rw [e5]
                  exact ⟨rfl, xo_uS, by rw [xo_uN (by decide)]; exact h10, hH, by omega, by omega⟩
              refine xe_s (f := (94, _, _, _)) xt_g261 rfl rfl rfl rfl rfl ?_
              refine xe_s (f := (95, _, _, _)) xt_g261 rfl rfl rfl rfl rfl ?_
              refine xe_mgs xt_g261 rfl (q := 98) rfl (xf_13_192 fm) (by decide) rfl (by omega) ?_
              rw [xo_uN (by decide), h13]
              refine xe_if_eq xt_g261 rfl (t := 107) rfl (q := 101) rfl (by first | omega | exact hw.1 _ | exact hw.2 _ _ | exact xb_r _) (fun h98 => ?_) (fun h98 => ?_)
              · refine xe_bipush xt_g261 rfl (q := 109) rfl (by decide) (by decide) ?_
                exact j109 _ (by rw [xb_0] at h98; rw [h98]; rfl)
              · refine xe_sipush xt_g261 rfl (q := 104) rfl (by decide) (by decide) ?_
                refine xe_s (f := (109, _, _, _)) xt_g261 rfl rfl rfl rfl rfl ?_
                exact j109 _ (by rw [xb_0] at h98; unfold pa_df; rw [if_pos (by simpa using h98)])
            · exact fail (by omega)
    intro N
    induction N with
    | zero =>
      intro c v c1 c2 c3 hc hv
      rw [xd_cnt, Int.add_zero] at hc
      rw [pa_num] at hv
      have hrc := hr (s 3 + 1 + c)
      refine xe_s (f := (26, _, _, _)) xt_g261 rfl rfl rfl rfl rfl ?_
      refine xe_cvI xt_g261 rfl (q := 29) rfl xk_13_196 rfl (by omega) xt_g248 (by decide) ⟨Nat.le_of_ble_eq_true rfl, Nat.le_of_ble_eq_true rfl, Nat.le_of_ble_eq_true rfl⟩ (xv_here3 fm hmn h2 (by omega)) ?_
      refine xe_csI xt_g261 rfl (q := 32) rfl xk_13_162 rfl (Nat.le_of_ble_eq_true rfl) xt_g252 (by decide) ⟨Nat.le_of_ble_eq_true rfl, Nat.le_of_ble_eq_true rfl, Nat.le_of_ble_eq_true rfl⟩ (xv_isDigit fm hrc) ?_
      refine xe_if_eq xt_g261 rfl (t := 70) rfl (q := 35) rfl (by first | omega | exact hw.1 _ | exact hw.2 _ _ | exact xb_r _) (fun h32 => ?_) (fun h32 => ?_)
      · try simp only [xb_0, xb_1, ne_eq, Decidable.not_not, decide_eq_true_eq, decide_eq_false_iff_not] at h32
        exact done c v c1 (by omega) c3 hc hv
      · try simp only [xb_0, xb_1, ne_eq, Decidable.not_not, decide_eq_true_eq, decide_eq_false_iff_not] at h32
        refine xe_s (f := (36, _, _, _)) xt_g261 rfl rfl rfl rfl rfl ?_
        refine xe_bipush xt_g261 rfl (q := 38) rfl (by decide) (by decide) ?_
        refine xe_ic_ge xt_g261 rfl (t := 70) rfl (q := 41) rfl (by first | omega | exact hw.1 _ | exact hw.2 _ _ | exact xb_r _) (by first | omega | exact hw.1 _ | exact hw.2 _ _ | exact xb_r _) (fun h38 => ?_) (fun h38 => ?_)
        · exact done c v c1 (by omega) c3 hc hv
        · exact absurd h38 (by omega)
    | succ N ih =>
      intro c v c1 c2 c3 hc hv
      rw [xd_cnt] at hc
      rw [pa_num] at hv
      have hrc := hr (s 3 + 1 + c)
      refine xe_s (f := (26, _, _, _)) xt_g261 rfl rfl rfl rfl rfl ?_
      refine xe_cvI xt_g261 rfl (q := 29) rfl xk_13_196 rfl (by omega) xt_g248 (by decide) ⟨Nat.le_of_ble_eq_true rfl, Nat.le_of_ble_eq_true rfl, Nat.le_of_ble_eq_true rfl⟩ (xv_here3 fm hmn h2 (by omega)) ?_
      refine xe_csI xt_g261 rfl (q := 32) rfl xk_13_162 rfl (Nat.le_of_ble_eq_true rfl) xt_g252 (by decide) ⟨Nat.le_of_ble_eq_true rfl, Nat.le_of_ble_eq_true rfl, Nat.le_of_ble_eq_true rfl⟩ (xv_isDigit fm hrc) ?_
      refine xe_if_eq xt_g261 rfl (t := 70) rfl (q := 35) rfl (by first | omega | exact hw.1 _ | exact hw.2 _ _ | exact xb_r _) (fun h32 => ?_) (fun h32 => ?_)
      · try simp only [xb_0, xb_1, ne_eq, Decidable.not_not, decide_eq_true_eq, decide_eq_false_iff_not] at h32
        rw [if_neg (by rw [h32]; decide), Int.add_zero] at hc
        rw [if_neg (by rw [h32]; decide)] at hv
        exact done c v c1 (by omega) c3 hc hv
      · try simp only [xb_0, xb_1, ne_eq, Decidable.not_not, decide_eq_true_eq, decide_eq_false_iff_not] at h32
        refine xe_s (f := (36, _, _, _)) xt_g261 rfl rfl rfl rfl rfl ?_
        refine xe_bipush xt_g261 rfl (q := 38) rfl (by decide) (by decide) ?_
        refine xe_ic_ge xt_g261 rfl (t := 70) rfl (q := 41) rfl (by first | omega | exact hw.1 _ | exact hw.2 _ _ | exact xb_r _) (by first | omega | exact hw.1 _ | exact hw.2 _ _ | exact xb_r _) (fun h38 => ?_) (fun h38 => ?_)
        · exact absurd h38 (by omega)
        · have h32' : xd_dig (xd_at s ar (s 3 + 1 + c)) = true := by simpa using h32
          rw [if_pos h32'] at hc hv
          have hin2 : s 3 + 1 + c < s 2 := by
            apply Decidable.byContradiction
            intro h
            rw [xd_at_0 (by omega)] at h32'
            exact absurd h32' (by decide)
          refine xe_bipush xt_g261 rfl (q := 43) rfl (by decide) (by decide) ?_
          refine xe_s (f := (44, _, _, _)) xt_g261 rfl rfl rfl rfl rfl ?_
          refine xe_imul xt_g261 rfl (q := 45) rfl ?_
          refine xe_s (f := (46, _, _, _)) xt_g261 rfl rfl rfl rfl rfl ?_
          refine xe_cvI xt_g261 rfl (q := 49) rfl xk_13_196 rfl (by omega) xt_g248 (by decide) ⟨Nat.le_of_ble_eq_true rfl, Nat.le_of_ble_eq_true rfl, Nat.le_of_ble_eq_true rfl⟩ (xv_here3 fm hmn h2 (by omega)) ?_
          refine xe_iadd xt_g261 rfl (q := 50) rfl ?_
          refine xe_bipush xt_g261 rfl (q := 52) rfl (by decide) (by decide) ?_
          refine xe_isub xt_g261 rfl (q := 53) rfl ?_
          refine xe_s (f := (54, [(2, _), (1, _), (0, _)], _, _)) xt_g261 rfl rfl rfl rfl rfl ?_
          refine xe_s (f := (55, _, _, _)) xt_g261 rfl rfl rfl rfl rfl ?_
          refine xe_s (f := (56, _, _, _)) xt_g261 rfl rfl rfl rfl rfl ?_
          refine xe_mgs xt_g261 rfl (q := 59) rfl (xf_13_152 fm) (by decide) rfl (by omega) ?_
          try simp only [xo_u, xo_w, Nat.reduceEqDiff, reduceIte, false_and, true_and]
          refine xe_s (f := (60, _, xi 1 :: _, _)) xt_g261 rfl rfl rfl rfl rfl ?_
          refine xe_iadd xt_g261 rfl (q := 61) rfl ?_
          refine xe_mps xt_g261 rfl (q := 64) rfl (xf_13_152 fm) (by decide) rfl (by omega) (by omega) xi_int (Or.inl rfl) ?_
          refine xe_iinc xt_g261 rfl (q := 67) rfl rfl (by decide) (L1 := [(1, _), (2, _), (0, _)]) rfl ?_
          refine xe_s (f := (25, _, _, _)) xt_g261 rfl rfl rfl rfl rfl ?_
          rw [show xo_u (xo_u s 3 (s 3 + 1 + c)) 3 (s 3 + 1 + c + 1) = xo_u s 3 (s 3 + 1 + (c + 1)) by rw [xo_uu, show s 3 + 1 + c + 1 = s 3 + 1 + (c + 1) by omega]]
          exact xe_loc (by intro q hq; simp only [List.mem_cons, List.not_mem_nil, or_false] at hq; rcases hq with rfl | rfl | rfl <;> rfl) (ih (c + 1) (10 * v + xd_at s ar (s 3 + 1 + c) - 48) (by omega) (by omega) (by omega) (by rw [← hc, show s 3 + 1 + (c + 1) = s 3 + 1 + c + 1 by omega]; omega) (by rw [← hv, show s 3 + 1 + (c + 1) = s 3 + 1 + c + 1 by omega]))
  refine xe_s (f := (1, _, _, _)) xt_g261 rfl rfl rfl rfl rfl ?_
  refine xe_cvI xt_g261 rfl (q := 4) rfl xk_13_196 rfl (by omega) xt_g248 (by decide) ⟨Nat.le_of_ble_eq_true rfl, Nat.le_of_ble_eq_true rfl, Nat.le_of_ble_eq_true rfl⟩ (xv_here fm hmn h2 (by omega)) ?_
  refine xe_bipush xt_g261 rfl (q := 6) rfl (by decide) (by decide) ?_
  refine xe_ic_eq xt_g261 rfl (t := 11) rfl (q := 9) rfl (by first | omega | exact hw.1 _ | exact hw.2 _ _ | exact xb_r _) (by first | omega | exact hw.1 _ | exact hw.2 _ _ | exact xb_r _) (fun h6 => ?_) (fun h6 => ?_)
  · have hin : s 3 < s 2 := by
      apply Decidable.byContradiction
      intro h
      rw [xd_at_0 (by omega)] at h6
      exact absurd h6 (by decide)
    have h := main h6 hin 6 0 0 (by omega) (by omega) (by omega) (by rw [Int.add_zero, Int.zero_add]; rfl) (by rw [Int.add_zero])
    rw [Int.add_zero] at h
    refine xe_s (f := (12, _, _, _)) xt_g261 rfl rfl rfl rfl rfl ?_
    refine xe_s (f := (13, _, _, _)) xt_g261 rfl rfl rfl rfl rfl ?_
    refine xe_mgs xt_g261 rfl (q := 16) rfl (xf_13_152 fm) (by decide) rfl (by omega) ?_
    refine xe_s (f := (17, _, xi 1 :: _, _)) xt_g261 rfl rfl rfl rfl rfl ?_
    refine xe_iadd xt_g261 rfl (q := 18) rfl ?_
    refine xe_mps xt_g261 rfl (q := 21) rfl (xf_13_152 fm) (by decide) rfl (by omega) (by omega) xi_int (Or.inl rfl) ?_
    refine xe_s (f := (22, _, xi 0 :: _, _)) xt_g261 rfl rfl rfl rfl rfl ?_
    refine xe_s (f := (23, [(1, _), (0, _)], _, _)) xt_g261 rfl rfl rfl rfl rfl ?_
    refine xe_s (f := (24, _, xi 0 :: _, _)) xt_g261 rfl rfl rfl rfl rfl ?_
    refine xe_s (f := (25, [(2, _), (1, _), (0, _)], _, _)) xt_g261 rfl rfl rfl rfl rfl ?_
    exact h
  · refine xe_s (f := (10, _, xi 1 :: _, _)) xt_g261 rfl rfl rfl rfl rfl ?_
    refine xe_iret xt_g261 rfl rfl (xi_bool (by first | omega | exact xb_or _)).1 ?_
    have e : pa_port (xd_at s ar) sec (s 3) = some (pa_df sec, s 3) := by
      unfold pa_port
      rw [if_neg h6]
    refine ⟨_, _, _, rfl, rfl, hw, xq_r, fun h => (by rw [e] at h; cases h), fun v' k' h => ?_⟩
    rw [e] at h
    cases h
    have e5 : H ++ pa_pt sec (pa_df sec) = H := by
      unfold pa_pt
      rw [if_pos rfl, List.append_nil]
    rw [e5]
    exact ⟨rfl, rfl, h10, hH, by omega, by omega⟩
end XRP
