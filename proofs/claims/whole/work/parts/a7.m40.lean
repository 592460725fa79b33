/-! what is resolved is an address -/
theorem xd_cnt_p {p : Int → Bool} {t : Int → Int} : ∀ (N : Nat) (k j : Int), k ≤ j → j < k + xd_cnt p t N k → p (t j) = true
  | 0, k, j, h1, h2 => by
    unfold xd_cnt at h2
    omega
  | N + 1, k, j, h1, h2 => by
    unfold xd_cnt at h2
    split at h2
    · rename_i hp
      by_cases h : j = k
      · rw [h]
        exact hp
      · exact xd_cnt_p N (k + 1) j (by omega) (by omega)
    · omega
theorem xd_hs_c {t : Int → Int} {E : Int} : ∀ (F : Nat) (lb k j : Int), (xd_hs t E F lb k).2 = true → k ≤ j → j < (xd_hs t E F lb k).1 → xd_lbl (t j) = true ∨ t j = 46
  | 0, lb, k, j, h, _, _ => by
    unfold xd_hs at h
    cases h
  | F + 1, lb, k, j, h, h1, h2 => by
    unfold xd_hs at h h2
    split at h
    · cases h
    · rename_i g1
      rw [if_neg g1] at h2
      split at h
      · rename_i g2
        rw [if_pos g2] at h2
        by_cases hj : j < k + xd_cnt xd_lbl t (E - k).toNat k
        · exact Or.inl (xd_cnt_p _ _ _ h1 hj)
        · by_cases hj2 : j = k + xd_cnt xd_lbl t (E - k).toNat k
          · rw [hj2]
            exact Or.inr g2
          · exact xd_hs_c F (lb + 1) _ j h (by omega) h2
      · rename_i g2
        rw [if_neg g2] at h2
        exact Or.inl (xd_cnt_p _ _ _ h1 h2)
theorem pa_lbl_s {c : Int} (h : xd_lbl c = true ∨ c = 46) : 45 ≤ xd_sml c ∧ xd_sml c ≤ 122 ∧ xd_sml c ≠ 47 ∧ xd_sml c ≠ 58 ∧ xd_sml c ≠ 63 ∧ ¬ (65 ≤ xd_sml c ∧ xd_sml c ≤ 90) := by
  unfold xd_lbl xd_pln xd_dig at h
  simp only [Bool.or_eq_true, decide_eq_true_eq] at h
  unfold xd_sml at *
  split at h <;> split <;> omega
theorem pa_pth_s {c : Int} (h : xd_pth c = true) : 45 ≤ c ∧ c ≤ 126 ∧ c ≠ 63 := by
  unfold xd_pth xd_pln xd_dig xd_sml at h
  simp only [Bool.or_eq_true, decide_eq_true_eq] at h
  split at h <;> omega
theorem pa_qry_s {c : Int} (h : xd_qry c = true) : 38 ≤ c ∧ c ≤ 126 := by
  unfold xd_qry at h
  rw [Bool.or_eq_true, decide_eq_true_eq] at h
  rcases h with h | h
  · have := pa_pth_s h
    omega
  · omega
theorem pa_sl_m {t : Int → Int} {a b c : Int} (h : c ∈ pa_sl t a b) : ∃ j, a ≤ j ∧ j < b ∧ c = t j := by
  obtain ⟨i, hi, rfl⟩ := List.mem_map.mp h
  rw [List.mem_range] at hi
  exact ⟨a + i, by omega, by omega, rfl⟩
/-- before the dots: host, port, path and query are good -/
def pa_ok0 (a : pa_A) : Prop := (∀ c, c ∈ a.2.1 → 32 < c ∧ c < 127 ∧ c ≠ 47 ∧ c ≠ 58 ∧ c ≠ 63) ∧ (a.2.2.2.1 = [] ∨ ∃ p, a.2.2.2.1 = 47 :: p) ∧ (∀ c, c ∈ a.2.2.2.1 → 32 < c ∧ c < 127 ∧ c ≠ 63) ∧ (a.2.2.2.2 = [] ∨ ∃ q, a.2.2.2.2 = 63 :: q) ∧ (∀ c, c ∈ a.2.2.2.2 → 32 < c ∧ c < 127) ∧ 1 ≤ a.2.2.1 ∧ a.2.2.1 ≤ 65535 ∧ a.2.1 ≠ []
theorem pa_qy_ok {t : Int → Int} {E k : Int} : (pa_qy t E k = [] ∨ ∃ q, pa_qy t E k = 63 :: q) ∧ ∀ c, c ∈ pa_qy t E k → 32 < c ∧ c < 127 := by
  unfold pa_qy pa_q1
  by_cases h : t k = 63
  · have hc := xd_cnt_r (p := xd_qry) (t := t) (E - (k + 1)).toNat (k + 1)
    rw [if_pos h, pa_sl_c (by omega), h]
    refine ⟨Or.inr ⟨_, rfl⟩, fun c hc2 => ?_⟩
    rcases List.mem_cons.mp hc2 with e | hm
    · omega
    · obtain ⟨j, h1, h2, rfl⟩ := pa_sl_m hm
      have := pa_qry_s (xd_cnt_p _ _ _ h1 h2)
      omega
  · rw [if_neg h, pa_sl_nil (Int.le_refl _)]
    exact ⟨Or.inl rfl, fun c hc => by cases hc⟩
theorem pa_port_ok {t : Int → Int} {sec : Bool} {k v k' : Int} (h : pa_port t sec k = some (v, k')) : 1 ≤ v ∧ v ≤ 65535 := by
  unfold pa_port at h
  split at h
  · split at h
    · cases h
    · cases h
      omega
  · cases h
    unfold pa_df
    split <;> omega
theorem pa_from_ok {t : Int → Int} {E : Int} {sec : Bool} {k : Int} {x : List Int × Int × List Int × List Int} (h : pa_from t E sec k = some x) : pa_ok0 (sec, x) := by
  unfold pa_from at h
  split at h
  · rename_i h1
    split at h
    · cases h
    · rename_i v k2 hp
      split at h
      · cases h
        have h77 := xd_hs_77 7 0 k h1
        refine ⟨fun c hc => ?_, ?_, fun c hc => ?_, pa_qy_ok.1, pa_qy_ok.2, (pa_port_ok hp).1, (pa_port_ok hp).2, ?_⟩
        · obtain ⟨y, hy, rfl⟩ := List.mem_map.mp hc
          obtain ⟨j, g1, g2, rfl⟩ := pa_sl_m hy
          have := pa_lbl_s (xd_hs_c 7 0 k j h1 g1 g2)
          omega
        · show pa_sl t k2 (pa_p1 t E k2) = [] ∨ _
          unfold pa_p1
          split
          · rename_i h47
            have hc := xd_cnt_r (p := xd_pth) (t := t) (E - k2).toNat k2
            by_cases h0 : xd_cnt xd_pth t (E - k2).toNat k2 = 0
            · exact Or.inl (pa_sl_nil (by omega))
            · rw [pa_sl_c (by omega), h47]
              exact Or.inr ⟨_, rfl⟩
          · exact Or.inl (pa_sl_nil (Int.le_refl _))
        · have hc2 : c ∈ pa_sl t k2 (pa_p1 t E k2) := hc
          obtain ⟨j, g1, g2, rfl⟩ := pa_sl_m hc2
          unfold pa_p1 at g2
          split at g2
          · have := pa_pth_s (xd_cnt_p _ _ _ g1 g2)
            omega
          · omega
        · show pa_hn t k _ ≠ []
          unfold pa_hn
          rw [pa_sl_c (by omega)]
          simp
      · cases h
  · cases h
theorem pa_ref_ok {t : Int → Int} {E : Int} {b a : pa_A} (hb : pa_ok b) (h : pa_ref t E b = some a) : pa_ok0 a := by
  obtain ⟨b1, ⟨p, b2⟩, b3, b4, b5, b6, b7, b8, b9⟩ := hb
  have mH : ∀ c, c ∈ b.2.1 → c ∈ pa_text b := by
    intro c hc
    unfold pa_text pa_hd
    simp [hc]
  have mP : ∀ c, c ∈ b.2.2.2.1 → c ∈ pa_text b := by
    intro c hc
    unfold pa_text
    simp [hc]
  have mQ : ∀ c, c ∈ b.2.2.2.2 → c ∈ pa_text b := by
    intro c hc
    unfold pa_text
    simp [hc]
  unfold pa_ref at h
  split at h
  · cases hf : pa_from t E b.1 2 with
    | none => rw [hf] at h; cases h
    | some x =>
      rw [hf] at h
      cases h
      exact pa_from_ok hf
  · have hH : ∀ c, c ∈ b.2.1 → 32 < c ∧ c < 127 ∧ c ≠ 47 ∧ c ≠ 58 ∧ c ≠ 63 := by
      intro c hc
      have h1 := b9 c (mH c hc)
      have h2 := b1 c hc
      exact ⟨h1.1, h1.2, h2⟩
    split at h
    · split at h
      · cases h
        refine ⟨hH, Or.inr ⟨p, b2⟩, fun c hc => ⟨(b9 c (mP c hc)).1, (b9 c (mP c hc)).2, b3 c hc⟩, ?_, ?_, b6, b7, b8⟩
        · show (if t 0 = 63 then pa_qy t E 0 else b.2.2.2.2) = [] ∨ ∃ q, (if t 0 = 63 then pa_qy t E 0 else b.2.2.2.2) = 63 :: q
          split
          · exact pa_qy_ok.1
          · exact b4
        · show ∀ c, c ∈ (if t 0 = 63 then pa_qy t E 0 else b.2.2.2.2) → _
          split
          · exact pa_qy_ok.2
          · exact fun c hc => b9 c (mQ c hc)
      · cases h
    · split at h
      · rename_i hk hno hE
        cases h
        have hsl : ∀ c, c ∈ pa_sl t 0 (xd_cnt xd_pth t E.toNat 0) → 32 < c ∧ c < 127 ∧ c ≠ 63 := by
          intro c hc
          obtain ⟨j, g1, g2, rfl⟩ := pa_sl_m hc
          have := pa_pth_s (xd_cnt_p (p := xd_pth) (t := t) E.toNat 0 j g1 (by omega))
          omega
        refine ⟨hH, ?_, ?_, pa_qy_ok.1, pa_qy_ok.2, b6, b7, b8⟩
        · show (if t 0 = 47 then [] else pa_fold b.2.2.2.1) ++ pa_sl t 0 (xd_cnt xd_pth t E.toNat 0) = [] ∨ _
          split
          · rename_i h47
            rw [List.nil_append]
            have hc := xd_cnt_r (p := xd_pth) (t := t) E.toNat 0
            by_cases h0 : xd_cnt xd_pth t E.toNat 0 = 0
            · exact Or.inl (pa_sl_nil (by omega))
            · rw [pa_sl_c (by omega), h47]
              exact Or.inr ⟨_, rfl⟩
          · have hpos : 0 < pa_bl b.2.2.2.1 47 b.2.2.2.1.length := pa_bl_pos (by rw [b2]; rfl) _ (by rw [b2]; simp)
            unfold pa_fold
            obtain ⟨K, hK⟩ := Nat.exists_eq_succ_of_ne_zero (Nat.ne_of_gt hpos)
            rw [hK, b2]
            exact Or.inr ⟨_, rfl⟩
        · show ∀ c, c ∈ (if t 0 = 47 then [] else pa_fold b.2.2.2.1) ++ pa_sl t 0 (xd_cnt xd_pth t E.toNat 0) → _
          intro c hc
          rcases List.mem_append.mp hc with hc | hc
          · split at hc
            · cases hc
            · have hc2 := List.mem_of_mem_take hc
              exact ⟨(b9 c (mP c hc2)).1, (b9 c (mP c hc2)).2, b3 c hc2⟩
          · exact hsl c hc
      · cases h
theorem pa_wd_rem : ∀ r : List Int, r.drop (pa_wd r) = [] ∨ ∃ q, r.drop (pa_wd r) = 47 :: q := by
  intro r
  rcases pa_wd_end r with h | ⟨h1, h2⟩
  · rw [h]
    exact Or.inl (List.drop_of_length_le (Nat.le_refl _))
  · rw [List.drop_eq_getElem_cons h1, show r[pa_wd r] = r.getD (pa_wd r) 0 by simp [List.getD, h1], h2]
    exact Or.inr ⟨_, rfl⟩
/-- nothing, or a slash in front -/
def pa_sf (l : List Int) : Prop := l = [] ∨ ∃ p, l = 47 :: p
theorem pa_sf_take {l : List Int} (h : pa_sf l) (k : Nat) : pa_sf (l.take k) := by
  rcases h with h | ⟨p, h⟩
  · rw [h]
    exact Or.inl (by simp)
  · rw [h]
    cases k with
    | zero => exact Or.inl rfl
    | succ k => exact Or.inr ⟨_, rfl⟩
theorem pa_dl_sf : ∀ (F : Nat) (rem cl : List Int) (d : Bool), pa_sf rem → pa_sf cl → pa_sf (pa_dl F rem cl d).1
  | 0, rem, cl, d, h1, h2 => by
    unfold pa_dl
    exact h2
  | F + 1, [], cl, d, h1, h2 => by
    unfold pa_dl
    exact h2
  | F + 1, c :: r, cl, d, h1, h2 => by
    have hc : c = 47 := by
      rcases h1 with h | ⟨p, h⟩
      · cases h
      · cases h
        rfl
    have hr : pa_sf (r.drop (pa_wd r)) := pa_wd_rem r
    unfold pa_dl
    split
    · exact pa_dl_sf F _ _ _ hr h2
    · split
      · exact pa_dl_sf F _ _ _ hr (pa_sf_take h2 _)
      · refine pa_dl_sf F _ _ _ hr ?_
        rcases h2 with h | ⟨p, h⟩
        · rw [h, hc]
          exact Or.inr ⟨_, rfl⟩
        · rw [h]
          exact Or.inr ⟨_, rfl⟩
theorem pa_dl_mem : ∀ (F : Nat) (rem cl : List Int) (d : Bool) (c : Int), c ∈ (pa_dl F rem cl d).1 → c ∈ rem ∨ c ∈ cl
  | 0, rem, cl, d, c, h => by
    unfold pa_dl at h
    exact Or.inr h
  | F + 1, [], cl, d, c, h => by
    unfold pa_dl at h
    exact Or.inr h
  | F + 1, x :: r, cl, d, c, h => by
    unfold pa_dl at h
    split at h
    · rcases pa_dl_mem F _ _ _ c h with h | h
      · exact Or.inl (List.mem_cons_of_mem _ (List.mem_of_mem_drop h))
      · exact Or.inr h
    · split at h
      · rcases pa_dl_mem F _ _ _ c h with h | h
        · exact Or.inl (List.mem_cons_of_mem _ (List.mem_of_mem_drop h))
        · exact Or.inr (List.mem_of_mem_take h)
      · rcases pa_dl_mem F _ _ _ c h with h | h
        · exact Or.inl (List.mem_cons_of_mem _ (List.mem_of_mem_drop h))
        · rcases List.mem_append.mp h with h | h
          · exact Or.inr h
          · rcases List.mem_cons.mp h with h | h
            · rw [h]
              exact Or.inl (List.mem_cons_self)
            · exact Or.inl (List.mem_cons_of_mem _ (List.mem_of_mem_take h))
theorem pa_dots_ok {P : List Int} (h : P = [] ∨ ∃ p, P = 47 :: p) : (∃ p, pa_dots P = 47 :: p) ∧ ∀ c, c ∈ pa_dots P → c ∈ P ∨ c = 47 := by
  have h1 := pa_dl_sf P.length P [] false h (Or.inl rfl)
  have h2 := pa_dl_mem P.length P [] false
  unfold pa_dots pa_fin
  split
  · rcases h1 with e | ⟨p, e⟩
    · rw [e]
      exact ⟨⟨_, rfl⟩, fun c hc => Or.inr (by simpa using hc)⟩
    · refine ⟨⟨p ++ [47], by rw [e]; rfl⟩, fun c hc => ?_⟩
      rcases List.mem_append.mp hc with hc | hc
      · rcases h2 c hc with h | h
        · exact Or.inl h
        · cases h
      · exact Or.inr (by simpa using hc)
  · rename_i hn
    rcases h1 with e | ⟨p, e⟩
    · exact absurd (Or.inr e) hn
    · refine ⟨⟨p, e⟩, fun c hc => ?_⟩
      rcases h2 c hc with h | h
      · exact Or.inl h
      · cases h
theorem pa_cl_ok {a : pa_A} (h : pa_ok0 a) (hl : (pa_text (pa_cl a)).length ≤ 60) : pa_ok (pa_cl a) := by
  obtain ⟨h1, h2, h3, h4, h5, h6, h7, h8⟩ := h
  obtain ⟨d1, d2⟩ := pa_dots_ok h2
  have hp : ∀ c, c ∈ pa_dots a.2.2.2.1 → 32 < c ∧ c < 127 ∧ c ≠ 63 := by
    intro c hc
    rcases d2 c hc with h | h
    · exact h3 c h
    · omega
  refine ⟨fun c hc => ⟨(h1 c hc).2.2.1, (h1 c hc).2.2.2.1, (h1 c hc).2.2.2.2⟩, d1, fun c hc => (hp c hc).2.2, h4, hl, h6, h7, h8, fun c hc => ?_⟩
  unfold pa_text pa_hd at hc
  simp only [List.mem_append] at hc
  rcases hc with (((hc | hc) | hc) | hc) | hc
  · have hc2 : c ∈ pa_scm a.1 := hc
    unfold pa_scm at hc2
    split at hc2 <;> simp at hc2 <;> omega
  · have := h1 c hc
    omega
  · have := pa_pt_c hc
    omega
  · have := hp c hc
    omega
  · have := h5 c hc
    omega
theorem pa_res_ok {t : Int → Int} {E : Int} {base : Option pa_A} {a : pa_A} (hb : ∀ b, base = some b → pa_ok b) (h : pa_res t E base = some a) : pa_ok a := by
  unfold pa_res at h
  split at h
  · cases h
  · rename_i x hx
    split at h
    · rename_i hl
      cases h
      refine pa_cl_ok ?_ hl
      unfold pa_pre at hx
      split at hx
      · cases hf : pa_from t E (xd_ss t) (xd_sk t + 3) with
        | none => rw [hf] at hx; cases hx
        | some y =>
          rw [hf] at hx
          cases hx
          exact pa_from_ok hf
      · split at hx
        · cases hx
        · rename_i b
          exact pa_ref_ok (hb b rfl) hx
    · cases h
