/-! the class's methods on texts that only read -/
theorem lt_in {l : List Int} {k : Int} (h0 : 0 ≤ k) (h1 : k < l.length) : lt l k = l.getD k.toNat 0 := by
  unfold lt
  rw [if_pos ⟨h0, h1⟩]
theorem lt_r {l : List Int} (ha : asc l) (k : Int) : 0 ≤ lt l k ∧ lt l k < 128 := by
  unfold lt
  split
  · exact ha _
  · omega
theorem lt_out {l : List Int} {k : Int} (h : l.length ≤ k) : lt l k = 0 := by
  unfold lt
  rw [if_neg (by omega)]
def ltr (c : Int) : Bool := decide (97 ≤ xd_sml c ∧ xd_sml c ≤ 122)
section XTR
variable {fm : Value} {F F' : Nat → Prop} {h : xm_H} {n r r' : Nat} {l w : List Int}
theorem s85t {i : Int} (hfm : fm = .null ∨ ∃ j, fm = .ref j) (H : sS F h n r l) (hi : 0 ≤ i) (hk : i < l.length) : xR fm 85 h n [.ref r, xi i] (some (xi (lt l i))) := by
  rw [lt_in hi hk]
  exact s85 hfm H hi hk
theorem s88 {c : Int} (hc : 0 ≤ c ∧ c < 128) : xR fm 88 h n [xi c] (some (xi (xb (ltr c)))) := by
  have e : ltr c = decide ((97 ≤ c ∧ c ≤ 122) ∨ (65 ≤ c ∧ c ≤ 90)) := by
    unfold ltr xd_sml
    refine decide_eq_decide.mpr ?_
    split <;> omega
  rw [e]
  unfold xR
  refine xe_s (f := (1, _, _, _)) xt_g88 rfl rfl rfl rfl rfl ?_
  refine xe_bipush xt_g88 rfl (q := 3) rfl (by decide) (by decide) ?_
  refine xe_ic_lt xt_g88 rfl (t := 12) rfl (q := 6) rfl (by first | omega | exact xb_r _) (by first | omega | exact xb_r _) (fun b3 => ?_) (fun b3 => ?_)
  · try simp only [xb_0, xb_1, ne_eq, Decidable.not_not, Bool.not_eq_false, Bool.not_eq_true, decide_eq_true_eq, decide_eq_false_iff_not] at b3
    refine xe_s (f := (13, _, _, _)) xt_g88 rfl rfl rfl rfl rfl ?_
    refine xe_bipush xt_g88 rfl (q := 15) rfl (by decide) (by decide) ?_
    refine xe_ic_lt xt_g88 rfl (t := 28) rfl (q := 18) rfl (by first | omega | exact xb_r _) (by first | omega | exact xb_r _) (fun b15 => ?_) (fun b15 => ?_)
    · try simp only [xb_0, xb_1, ne_eq, Decidable.not_not, Bool.not_eq_false, Bool.not_eq_true, decide_eq_true_eq, decide_eq_false_iff_not] at b15
      refine xe_s (f := (29, _, xi 0 :: _, _)) xt_g88 rfl rfl rfl rfl rfl ?_
      refine xe_iret xt_g88 rfl rfl (xi_bool (by first | omega | exact xb_or _)).1 ?_
      try dsimp only
      rw [decide_eq_false (by omega)]
      exact ⟨rfl, rfl⟩
    · try simp only [xb_0, xb_1, ne_eq, Decidable.not_not, Bool.not_eq_false, Bool.not_eq_true, decide_eq_true_eq, decide_eq_false_iff_not] at b15
      refine xe_s (f := (19, _, _, _)) xt_g88 rfl rfl rfl rfl rfl ?_
      refine xe_bipush xt_g88 rfl (q := 21) rfl (by decide) (by decide) ?_
      refine xe_ic_gt xt_g88 rfl (t := 28) rfl (q := 24) rfl (by first | omega | exact xb_r _) (by first | omega | exact xb_r _) (fun b21 => ?_) (fun b21 => ?_)
      · try simp only [xb_0, xb_1, ne_eq, Decidable.not_not, Bool.not_eq_false, Bool.not_eq_true, decide_eq_true_eq, decide_eq_false_iff_not] at b21
        refine xe_s (f := (29, _, xi 0 :: _, _)) xt_g88 rfl rfl rfl rfl rfl ?_
        refine xe_iret xt_g88 rfl rfl (xi_bool (by first | omega | exact xb_or _)).1 ?_
        try dsimp only
        rw [decide_eq_false (by omega)]
        exact ⟨rfl, rfl⟩
      · try simp only [xb_0, xb_1, ne_eq, Decidable.not_not, Bool.not_eq_false, Bool.not_eq_true, decide_eq_true_eq, decide_eq_false_iff_not] at b21
        refine xe_s (f := (25, _, xi 1 :: _, _)) xt_g88 rfl rfl rfl rfl rfl ?_
        refine xe_s (f := (29, _, _, _)) xt_g88 rfl rfl rfl rfl rfl ?_
        refine xe_iret xt_g88 rfl rfl (xi_bool (by first | omega | exact xb_or _)).1 ?_
        try dsimp only
        rw [decide_eq_true (by omega)]
        exact ⟨rfl, rfl⟩
  · try simp only [xb_0, xb_1, ne_eq, Decidable.not_not, Bool.not_eq_false, Bool.not_eq_true, decide_eq_true_eq, decide_eq_false_iff_not] at b3
    refine xe_s (f := (7, _, _, _)) xt_g88 rfl rfl rfl rfl rfl ?_
    refine xe_bipush xt_g88 rfl (q := 9) rfl (by decide) (by decide) ?_
    refine xe_ic_le xt_g88 rfl (t := 24) rfl (q := 12) rfl (by first | omega | exact xb_r _) (by first | omega | exact xb_r _) (fun b9 => ?_) (fun b9 => ?_)
    · try simp only [xb_0, xb_1, ne_eq, Decidable.not_not, Bool.not_eq_false, Bool.not_eq_true, decide_eq_true_eq, decide_eq_false_iff_not] at b9
      refine xe_s (f := (25, _, xi 1 :: _, _)) xt_g88 rfl rfl rfl rfl rfl ?_
      refine xe_s (f := (29, _, _, _)) xt_g88 rfl rfl rfl rfl rfl ?_
      refine xe_iret xt_g88 rfl rfl (xi_bool (by first | omega | exact xb_or _)).1 ?_
      try dsimp only
      rw [decide_eq_true (by omega)]
      exact ⟨rfl, rfl⟩
    · try simp only [xb_0, xb_1, ne_eq, Decidable.not_not, Bool.not_eq_false, Bool.not_eq_true, decide_eq_true_eq, decide_eq_false_iff_not] at b9
      refine xe_s (f := (13, _, _, _)) xt_g88 rfl rfl rfl rfl rfl ?_
      refine xe_bipush xt_g88 rfl (q := 15) rfl (by decide) (by decide) ?_
      refine xe_ic_lt xt_g88 rfl (t := 28) rfl (q := 18) rfl (by first | omega | exact xb_r _) (by first | omega | exact xb_r _) (fun b15 => ?_) (fun b15 => ?_)
      · try simp only [xb_0, xb_1, ne_eq, Decidable.not_not, Bool.not_eq_false, Bool.not_eq_true, decide_eq_true_eq, decide_eq_false_iff_not] at b15
        refine xe_s (f := (29, _, xi 0 :: _, _)) xt_g88 rfl rfl rfl rfl rfl ?_
        refine xe_iret xt_g88 rfl rfl (xi_bool (by first | omega | exact xb_or _)).1 ?_
        try dsimp only
        rw [decide_eq_false (by omega)]
        exact ⟨rfl, rfl⟩
      · try simp only [xb_0, xb_1, ne_eq, Decidable.not_not, Bool.not_eq_false, Bool.not_eq_true, decide_eq_true_eq, decide_eq_false_iff_not] at b15
        refine xe_s (f := (19, _, _, _)) xt_g88 rfl rfl rfl rfl rfl ?_
        refine xe_bipush xt_g88 rfl (q := 21) rfl (by decide) (by decide) ?_
        refine xe_ic_gt xt_g88 rfl (t := 28) rfl (q := 24) rfl (by first | omega | exact xb_r _) (by first | omega | exact xb_r _) (fun b21 => ?_) (fun b21 => ?_)
        · try simp only [xb_0, xb_1, ne_eq, Decidable.not_not, Bool.not_eq_false, Bool.not_eq_true, decide_eq_true_eq, decide_eq_false_iff_not] at b21
          refine xe_s (f := (29, _, xi 0 :: _, _)) xt_g88 rfl rfl rfl rfl rfl ?_
          refine xe_iret xt_g88 rfl rfl (xi_bool (by first | omega | exact xb_or _)).1 ?_
          try dsimp only
          rw [decide_eq_false (by omega)]
          exact ⟨rfl, rfl⟩
        · try simp only [xb_0, xb_1, ne_eq, Decidable.not_not, Bool.not_eq_false, Bool.not_eq_true, decide_eq_true_eq, decide_eq_false_iff_not] at b21
          refine xe_s (f := (25, _, xi 1 :: _, _)) xt_g88 rfl rfl rfl rfl rfl ?_
          refine xe_s (f := (29, _, _, _)) xt_g88 rfl rfl rfl rfl rfl ?_
          refine xe_iret xt_g88 rfl rfl (xi_bool (by first | omega | exact xb_or _)).1 ?_
          try dsimp only
          rw [decide_eq_true (by omega)]
          exact ⟨rfl, rfl⟩
theorem s89 {c : Int} (hc : 0 ≤ c ∧ c < 128) : xR fm 89 h n [xi c] (some (xi (xb (xd_dig c)))) := by
  unfold xd_dig
  unfold xR
  refine xe_s (f := (1, _, _, _)) xt_g89 rfl rfl rfl rfl rfl ?_
  refine xe_bipush xt_g89 rfl (q := 3) rfl (by decide) (by decide) ?_
  refine xe_ic_lt xt_g89 rfl (t := 16) rfl (q := 6) rfl (by first | omega | exact xb_r _) (by first | omega | exact xb_r _) (fun b3 => ?_) (fun b3 => ?_)
  · try simp only [xb_0, xb_1, ne_eq, Decidable.not_not, Bool.not_eq_false, Bool.not_eq_true, decide_eq_true_eq, decide_eq_false_iff_not] at b3
    refine xe_s (f := (17, _, xi 0 :: _, _)) xt_g89 rfl rfl rfl rfl rfl ?_
    refine xe_iret xt_g89 rfl rfl (xi_bool (by first | omega | exact xb_or _)).1 ?_
    try dsimp only
    rw [decide_eq_false (by omega)]
    exact ⟨rfl, rfl⟩
  · try simp only [xb_0, xb_1, ne_eq, Decidable.not_not, Bool.not_eq_false, Bool.not_eq_true, decide_eq_true_eq, decide_eq_false_iff_not] at b3
    refine xe_s (f := (7, _, _, _)) xt_g89 rfl rfl rfl rfl rfl ?_
    refine xe_bipush xt_g89 rfl (q := 9) rfl (by decide) (by decide) ?_
    refine xe_ic_gt xt_g89 rfl (t := 16) rfl (q := 12) rfl (by first | omega | exact xb_r _) (by first | omega | exact xb_r _) (fun b9 => ?_) (fun b9 => ?_)
    · try simp only [xb_0, xb_1, ne_eq, Decidable.not_not, Bool.not_eq_false, Bool.not_eq_true, decide_eq_true_eq, decide_eq_false_iff_not] at b9
      refine xe_s (f := (17, _, xi 0 :: _, _)) xt_g89 rfl rfl rfl rfl rfl ?_
      refine xe_iret xt_g89 rfl rfl (xi_bool (by first | omega | exact xb_or _)).1 ?_
      try dsimp only
      rw [decide_eq_false (by omega)]
      exact ⟨rfl, rfl⟩
    · try simp only [xb_0, xb_1, ne_eq, Decidable.not_not, Bool.not_eq_false, Bool.not_eq_true, decide_eq_true_eq, decide_eq_false_iff_not] at b9
      refine xe_s (f := (13, _, xi 1 :: _, _)) xt_g89 rfl rfl rfl rfl rfl ?_
      refine xe_s (f := (17, _, _, _)) xt_g89 rfl rfl rfl rfl rfl ?_
      refine xe_iret xt_g89 rfl rfl (xi_bool (by first | omega | exact xb_or _)).1 ?_
      try dsimp only
      rw [decide_eq_true (by omega)]
      exact ⟨rfl, rfl⟩
theorem xd_pln_e {c : Int} : xd_pln c = (ltr c || xd_dig c) := rfl
theorem s112 {c : Int} (hc : 0 ≤ c ∧ c < 128) : xR fm 112 h n [xi c] (some (xi (xb (xd_pth c)))) := by
  unfold xd_pth
  rw [xd_pln_e]
  unfold xR
  refine xe_s (f := (1, _, _, _)) xt_g112 rfl rfl rfl rfl rfl ?_
  refine xe_cR xt_g112 rfl rfl rfl (q := 4) rfl (kc_S xk_2_154 (Nat.le_of_ble_eq_true rfl)) xt_g88 (by decide) ⟨Nat.le_of_ble_eq_true rfl, Nat.le_of_ble_eq_true rfl, Nat.le_of_ble_eq_true rfl⟩ (s88 hc) ?_
  refine xe_if_ne xt_g112 rfl (t := 44) rfl (q := 7) rfl (by first | omega | exact xb_r _) (fun b4 => ?_) (fun b4 => ?_)
  · try simp only [xb_0, xb_1, ne_eq, Decidable.not_not, Bool.not_eq_false, Bool.not_eq_true, decide_eq_true_eq, decide_eq_false_iff_not] at b4
    refine xe_s (f := (45, _, xi 1 :: _, _)) xt_g112 rfl rfl rfl rfl rfl ?_
    refine xe_s (f := (49, _, _, _)) xt_g112 rfl rfl rfl rfl rfl ?_
    refine xe_iret xt_g112 rfl rfl (xi_bool (by first | omega | exact xb_or _)).1 ?_
    try dsimp only
    rw [b4]
    exact ⟨rfl, rfl⟩
  · try simp only [xb_0, xb_1, ne_eq, Decidable.not_not, Bool.not_eq_false, Bool.not_eq_true, decide_eq_true_eq, decide_eq_false_iff_not] at b4
    refine xe_s (f := (8, _, _, _)) xt_g112 rfl rfl rfl rfl rfl ?_
    refine xe_cR xt_g112 rfl rfl rfl (q := 11) rfl (kc_S xk_2_128 (Nat.le_of_ble_eq_true rfl)) xt_g89 (by decide) ⟨Nat.le_of_ble_eq_true rfl, Nat.le_of_ble_eq_true rfl, Nat.le_of_ble_eq_true rfl⟩ (s89 hc) ?_
    refine xe_if_ne xt_g112 rfl (t := 44) rfl (q := 14) rfl (by first | omega | exact xb_r _) (fun b11 => ?_) (fun b11 => ?_)
    · try simp only [xb_0, xb_1, ne_eq, Decidable.not_not, Bool.not_eq_false, Bool.not_eq_true, decide_eq_true_eq, decide_eq_false_iff_not] at b11
      refine xe_s (f := (45, _, xi 1 :: _, _)) xt_g112 rfl rfl rfl rfl rfl ?_
      refine xe_s (f := (49, _, _, _)) xt_g112 rfl rfl rfl rfl rfl ?_
      refine xe_iret xt_g112 rfl rfl (xi_bool (by first | omega | exact xb_or _)).1 ?_
      try dsimp only
      rw [b11]
      simp [xb]
    · try simp only [xb_0, xb_1, ne_eq, Decidable.not_not, Bool.not_eq_false, Bool.not_eq_true, decide_eq_true_eq, decide_eq_false_iff_not] at b11
      refine xe_s (f := (15, _, _, _)) xt_g112 rfl rfl rfl rfl rfl ?_
      refine xe_bipush xt_g112 rfl (q := 17) rfl (by decide) (by decide) ?_
      refine xe_ic_eq xt_g112 rfl (t := 44) rfl (q := 20) rfl (by first | omega | exact xb_r _) (by first | omega | exact xb_r _) (fun b17 => ?_) (fun b17 => ?_)
      · try simp only [xb_0, xb_1, ne_eq, Decidable.not_not, Bool.not_eq_false, Bool.not_eq_true, decide_eq_true_eq, decide_eq_false_iff_not] at b17
        refine xe_s (f := (45, _, xi 1 :: _, _)) xt_g112 rfl rfl rfl rfl rfl ?_
        refine xe_s (f := (49, _, _, _)) xt_g112 rfl rfl rfl rfl rfl ?_
        refine xe_iret xt_g112 rfl rfl (xi_bool (by first | omega | exact xb_or _)).1 ?_
        try dsimp only
        rw [decide_eq_true (by omega)]
        simp [xb]
      · try simp only [xb_0, xb_1, ne_eq, Decidable.not_not, Bool.not_eq_false, Bool.not_eq_true, decide_eq_true_eq, decide_eq_false_iff_not] at b17
        refine xe_s (f := (21, _, _, _)) xt_g112 rfl rfl rfl rfl rfl ?_
        refine xe_bipush xt_g112 rfl (q := 23) rfl (by decide) (by decide) ?_
        refine xe_ic_eq xt_g112 rfl (t := 44) rfl (q := 26) rfl (by first | omega | exact xb_r _) (by first | omega | exact xb_r _) (fun b23 => ?_) (fun b23 => ?_)
        · try simp only [xb_0, xb_1, ne_eq, Decidable.not_not, Bool.not_eq_false, Bool.not_eq_true, decide_eq_true_eq, decide_eq_false_iff_not] at b23
          refine xe_s (f := (45, _, xi 1 :: _, _)) xt_g112 rfl rfl rfl rfl rfl ?_
          refine xe_s (f := (49, _, _, _)) xt_g112 rfl rfl rfl rfl rfl ?_
          refine xe_iret xt_g112 rfl rfl (xi_bool (by first | omega | exact xb_or _)).1 ?_
          try dsimp only
          rw [decide_eq_true (by omega)]
          simp [xb]
        · try simp only [xb_0, xb_1, ne_eq, Decidable.not_not, Bool.not_eq_false, Bool.not_eq_true, decide_eq_true_eq, decide_eq_false_iff_not] at b23
          refine xe_s (f := (27, _, _, _)) xt_g112 rfl rfl rfl rfl rfl ?_
          refine xe_bipush xt_g112 rfl (q := 29) rfl (by decide) (by decide) ?_
          refine xe_ic_eq xt_g112 rfl (t := 44) rfl (q := 32) rfl (by first | omega | exact xb_r _) (by first | omega | exact xb_r _) (fun b29 => ?_) (fun b29 => ?_)
          · try simp only [xb_0, xb_1, ne_eq, Decidable.not_not, Bool.not_eq_false, Bool.not_eq_true, decide_eq_true_eq, decide_eq_false_iff_not] at b29
            refine xe_s (f := (45, _, xi 1 :: _, _)) xt_g112 rfl rfl rfl rfl rfl ?_
            refine xe_s (f := (49, _, _, _)) xt_g112 rfl rfl rfl rfl rfl ?_
            refine xe_iret xt_g112 rfl rfl (xi_bool (by first | omega | exact xb_or _)).1 ?_
            try dsimp only
            rw [decide_eq_true (by omega)]
            simp [xb]
          · try simp only [xb_0, xb_1, ne_eq, Decidable.not_not, Bool.not_eq_false, Bool.not_eq_true, decide_eq_true_eq, decide_eq_false_iff_not] at b29
            refine xe_s (f := (33, _, _, _)) xt_g112 rfl rfl rfl rfl rfl ?_
            refine xe_bipush xt_g112 rfl (q := 35) rfl (by decide) (by decide) ?_
            refine xe_ic_eq xt_g112 rfl (t := 44) rfl (q := 38) rfl (by first | omega | exact xb_r _) (by first | omega | exact xb_r _) (fun b35 => ?_) (fun b35 => ?_)
            · try simp only [xb_0, xb_1, ne_eq, Decidable.not_not, Bool.not_eq_false, Bool.not_eq_true, decide_eq_true_eq, decide_eq_false_iff_not] at b35
              refine xe_s (f := (45, _, xi 1 :: _, _)) xt_g112 rfl rfl rfl rfl rfl ?_
              refine xe_s (f := (49, _, _, _)) xt_g112 rfl rfl rfl rfl rfl ?_
              refine xe_iret xt_g112 rfl rfl (xi_bool (by first | omega | exact xb_or _)).1 ?_
              try dsimp only
              rw [decide_eq_true (by omega)]
              simp [xb]
            · try simp only [xb_0, xb_1, ne_eq, Decidable.not_not, Bool.not_eq_false, Bool.not_eq_true, decide_eq_true_eq, decide_eq_false_iff_not] at b35
              refine xe_s (f := (39, _, _, _)) xt_g112 rfl rfl rfl rfl rfl ?_
              refine xe_bipush xt_g112 rfl (q := 41) rfl (by decide) (by decide) ?_
              refine xe_ic_ne xt_g112 rfl (t := 48) rfl (q := 44) rfl (by first | omega | exact xb_r _) (by first | omega | exact xb_r _) (fun b41 => ?_) (fun b41 => ?_)
              · try simp only [xb_0, xb_1, ne_eq, Decidable.not_not, Bool.not_eq_false, Bool.not_eq_true, decide_eq_true_eq, decide_eq_false_iff_not] at b41
                refine xe_s (f := (49, _, xi 0 :: _, _)) xt_g112 rfl rfl rfl rfl rfl ?_
                refine xe_iret xt_g112 rfl rfl (xi_bool (by first | omega | exact xb_or _)).1 ?_
                try dsimp only
                rw [b4, b11, decide_eq_false (by omega)]
                exact ⟨rfl, rfl⟩
              · try simp only [xb_0, xb_1, ne_eq, Decidable.not_not, Bool.not_eq_false, Bool.not_eq_true, decide_eq_true_eq, decide_eq_false_iff_not] at b41
                refine xe_s (f := (45, _, xi 1 :: _, _)) xt_g112 rfl rfl rfl rfl rfl ?_
                refine xe_s (f := (49, _, _, _)) xt_g112 rfl rfl rfl rfl rfl ?_
                refine xe_iret xt_g112 rfl rfl (xi_bool (by first | omega | exact xb_or _)).1 ?_
                try dsimp only
                rw [decide_eq_true (by omega)]
                simp [xb]
theorem s115 {c : Int} (hc : 0 ≤ c ∧ c < 128) : xR fm 115 h n [xi c] (some (xi (xb (xd_qry c)))) := by
  unfold xd_qry
  unfold xR
  refine xe_s (f := (1, _, _, _)) xt_g115 rfl rfl rfl rfl rfl ?_
  refine xe_cR xt_g115 rfl rfl rfl (q := 4) rfl (kc_S xk_2_133 (Nat.le_of_ble_eq_true rfl)) xt_g112 (by decide) ⟨Nat.le_of_ble_eq_true rfl, Nat.le_of_ble_eq_true rfl, Nat.le_of_ble_eq_true rfl⟩ (s112 hc) ?_
  refine xe_if_ne xt_g115 rfl (t := 19) rfl (q := 7) rfl (by first | omega | exact xb_r _) (fun b4 => ?_) (fun b4 => ?_)
  · try simp only [xb_0, xb_1, ne_eq, Decidable.not_not, Bool.not_eq_false, Bool.not_eq_true, decide_eq_true_eq, decide_eq_false_iff_not] at b4
    refine xe_s (f := (20, _, xi 1 :: _, _)) xt_g115 rfl rfl rfl rfl rfl ?_
    refine xe_s (f := (24, _, _, _)) xt_g115 rfl rfl rfl rfl rfl ?_
    refine xe_iret xt_g115 rfl rfl (xi_bool (by first | omega | exact xb_or _)).1 ?_
    try dsimp only
    rw [b4]
    exact ⟨rfl, rfl⟩
  · try simp only [xb_0, xb_1, ne_eq, Decidable.not_not, Bool.not_eq_false, Bool.not_eq_true, decide_eq_true_eq, decide_eq_false_iff_not] at b4
    refine xe_s (f := (8, _, _, _)) xt_g115 rfl rfl rfl rfl rfl ?_
    refine xe_bipush xt_g115 rfl (q := 10) rfl (by decide) (by decide) ?_
    refine xe_ic_eq xt_g115 rfl (t := 19) rfl (q := 13) rfl (by first | omega | exact xb_r _) (by first | omega | exact xb_r _) (fun b10 => ?_) (fun b10 => ?_)
    · try simp only [xb_0, xb_1, ne_eq, Decidable.not_not, Bool.not_eq_false, Bool.not_eq_true, decide_eq_true_eq, decide_eq_false_iff_not] at b10
      refine xe_s (f := (20, _, xi 1 :: _, _)) xt_g115 rfl rfl rfl rfl rfl ?_
      refine xe_s (f := (24, _, _, _)) xt_g115 rfl rfl rfl rfl rfl ?_
      refine xe_iret xt_g115 rfl rfl (xi_bool (by first | omega | exact xb_or _)).1 ?_
      try dsimp only
      rw [decide_eq_true (by omega)]
      simp [xb]
    · try simp only [xb_0, xb_1, ne_eq, Decidable.not_not, Bool.not_eq_false, Bool.not_eq_true, decide_eq_true_eq, decide_eq_false_iff_not] at b10
      refine xe_s (f := (14, _, _, _)) xt_g115 rfl rfl rfl rfl rfl ?_
      refine xe_bipush xt_g115 rfl (q := 16) rfl (by decide) (by decide) ?_
      refine xe_ic_ne xt_g115 rfl (t := 23) rfl (q := 19) rfl (by first | omega | exact xb_r _) (by first | omega | exact xb_r _) (fun b16 => ?_) (fun b16 => ?_)
      · try simp only [xb_0, xb_1, ne_eq, Decidable.not_not, Bool.not_eq_false, Bool.not_eq_true, decide_eq_true_eq, decide_eq_false_iff_not] at b16
        refine xe_s (f := (24, _, xi 0 :: _, _)) xt_g115 rfl rfl rfl rfl rfl ?_
        refine xe_iret xt_g115 rfl rfl (xi_bool (by first | omega | exact xb_or _)).1 ?_
        try dsimp only
        rw [b4, decide_eq_false (by omega)]
        exact ⟨rfl, rfl⟩
      · try simp only [xb_0, xb_1, ne_eq, Decidable.not_not, Bool.not_eq_false, Bool.not_eq_true, decide_eq_true_eq, decide_eq_false_iff_not] at b16
        refine xe_s (f := (20, _, xi 1 :: _, _)) xt_g115 rfl rfl rfl rfl rfl ?_
        refine xe_s (f := (24, _, _, _)) xt_g115 rfl rfl rfl rfl rfl ?_
        refine xe_iret xt_g115 rfl rfl (xi_bool (by first | omega | exact xb_or _)).1 ?_
        try dsimp only
        rw [decide_eq_true (by omega)]
        simp [xb]
theorem s158 {k : Int} (hfm : fm = .null ∨ ∃ j, fm = .ref j) (H : sS F h n r l) (hk : xr k) : xR fm 158 h n [.ref r, xi k] (some (xi (if 0 ≤ k ∧ k < l.length then l.getD k.toNat 0 else -1))) := by
  have G := H
  obtain ⟨b, x, y, h1, h2, h3, h4, h5, h6, h7, h8⟩ := H
  unfold xR
  refine xe_s (f := (1, _, _, _)) xt_g158 rfl rfl rfl rfl rfl ?_
  refine xe_if_lt xt_g158 rfl (t := 12) rfl (q := 4) rfl (by first | omega | exact xb_r _) (fun b1 => ?_) (fun b1 => ?_)
  · try simp only [xb_0, xb_1, ne_eq, Decidable.not_not, Bool.not_eq_false, Bool.not_eq_true, decide_eq_true_eq, decide_eq_false_iff_not] at b1
    refine xe_s (f := (13, _, xi (-1) :: _, _)) xt_g158 rfl rfl rfl rfl rfl ?_
    refine xe_s (f := (21, _, _, _)) xt_g158 rfl rfl rfl rfl rfl ?_
    refine xe_iret xt_g158 rfl rfl xi_int.1 ?_
    try dsimp only
    rw [if_neg (by omega)]
    exact ⟨rfl, rfl⟩
  · try simp only [xb_0, xb_1, ne_eq, Decidable.not_not, Bool.not_eq_false, Bool.not_eq_true, decide_eq_true_eq, decide_eq_false_iff_not] at b1
    refine xe_s (f := (5, _, _, _)) xt_g158 rfl rfl rfl rfl rfl ?_
    refine xe_s (f := (6, _, _, _)) xt_g158 rfl rfl rfl rfl rfl ?_
    refine xe_cR xt_g158 rfl rfl rfl (q := 9) rfl (kc_V xk_0_105 rfl (h1) (by omega) rfl rfl) xt_g31 (by decide) ⟨Nat.le_of_ble_eq_true rfl, Nat.le_of_ble_eq_true rfl, Nat.le_of_ble_eq_true rfl⟩ (s31 G) ?_
    refine xe_ic_lt xt_g158 rfl (t := 16) rfl (q := 12) rfl (by first | omega | exact xb_r _) (by first | omega | exact xb_r _) (fun b9 => ?_) (fun b9 => ?_)
    · try simp only [xb_0, xb_1, ne_eq, Decidable.not_not, Bool.not_eq_false, Bool.not_eq_true, decide_eq_true_eq, decide_eq_false_iff_not] at b9
      refine xe_s (f := (17, _, _, _)) xt_g158 rfl rfl rfl rfl rfl ?_
      refine xe_s (f := (18, _, _, _)) xt_g158 rfl rfl rfl rfl rfl ?_
      refine xe_cR xt_g158 rfl rfl rfl (q := 21) rfl (kc_V xk_0_349 rfl (h1) (by omega) rfl rfl) xt_g85 (by decide) ⟨Nat.le_of_ble_eq_true rfl, Nat.le_of_ble_eq_true rfl, Nat.le_of_ble_eq_true rfl⟩ (s85 hfm G (by omega) (by omega)) ?_
      refine xe_iret xt_g158 rfl rfl xi_int.1 ?_
      try dsimp only
      rw [if_pos (by omega)]
      exact ⟨rfl, rfl⟩
    · try simp only [xb_0, xb_1, ne_eq, Decidable.not_not, Bool.not_eq_false, Bool.not_eq_true, decide_eq_true_eq, decide_eq_false_iff_not] at b9
      refine xe_s (f := (13, _, xi (-1) :: _, _)) xt_g158 rfl rfl rfl rfl rfl ?_
      refine xe_s (f := (21, _, _, _)) xt_g158 rfl rfl rfl rfl rfl ?_
      refine xe_iret xt_g158 rfl rfl xi_int.1 ?_
      try dsimp only
      rw [if_neg (by omega)]
      exact ⟨rfl, rfl⟩
/-- find -/
theorem s192_loop {c to : Int} (hfm : fm = .null ∨ ∃ j, fm = .ref j) (H : sS F h n r l) (hc : 0 ≤ c ∧ c < 128) (ht : to ≤ l.length) : ∀ (k : Nat) (i : Int), (to - i).toNat = k → 0 ≤ i → i ≤ to →
    xe fm 192 (3, [(4, xi i), (0, .ref r), (1, xi c), (3, xi to)], [], (h, n, 0, 0)) (fun r M => r = .inl (some (xi (pa_fd (lt l) c k i))) ∧ M = (h, n, 0, 0)) := by
  have G := H
  obtain ⟨b, x, y, h1, h2, h3, h4, h5, h6, h7, h8⟩ := H
  intro k
  induction k with
  | zero =>
    intro i hk h0 hi
    refine xe_s (f := (5, _, _, _)) xt_g192 rfl rfl rfl rfl rfl ?_
    refine xe_s (f := (6, _, _, _)) xt_g192 rfl rfl rfl rfl rfl ?_
    refine xe_ic_ge xt_g192 rfl (t := 28) rfl (q := 9) rfl (by first | omega | exact xb_r _) (by first | omega | exact xb_r _) (fun b6 => ?_) (fun b6 => ?_)
    · try simp only [xb_0, xb_1, ne_eq, Decidable.not_not, Bool.not_eq_false, Bool.not_eq_true, decide_eq_true_eq, decide_eq_false_iff_not] at b6
      refine xe_s (f := (29, _, _, _)) xt_g192 rfl rfl rfl rfl rfl ?_
      refine xe_iret xt_g192 rfl rfl xi_int.1 ?_
      try dsimp only
      rw [show pa_fd (lt l) c 0 i = i from rfl, show i = to by omega]
      exact ⟨rfl, rfl⟩
    · exact absurd b6 (by omega)
  | succ k ih =>
    intro i hk h0 hi
    have a1 := lt_r h7 i
    have e : pa_fd (lt l) c (k + 1) i = if lt l i = c then i else pa_fd (lt l) c k (i + 1) := rfl
    rw [e]
    refine xe_s (f := (5, _, _, _)) xt_g192 rfl rfl rfl rfl rfl ?_
    refine xe_s (f := (6, _, _, _)) xt_g192 rfl rfl rfl rfl rfl ?_
    refine xe_ic_ge xt_g192 rfl (t := 28) rfl (q := 9) rfl (by first | omega | exact xb_r _) (by first | omega | exact xb_r _) (fun b6 => ?_) (fun b6 => ?_)
    · exact absurd b6 (by omega)
    · try simp only [xb_0, xb_1, ne_eq, Decidable.not_not, Bool.not_eq_false, Bool.not_eq_true, decide_eq_true_eq, decide_eq_false_iff_not] at b6
      refine xe_s (f := (10, _, _, _)) xt_g192 rfl rfl rfl rfl rfl ?_
      refine xe_s (f := (12, _, _, _)) xt_g192 rfl rfl rfl rfl rfl ?_
      refine xe_cR xt_g192 rfl rfl rfl (q := 15) rfl (kc_V xk_0_349 rfl (h1) (by omega) rfl rfl) xt_g85 (by decide) ⟨Nat.le_of_ble_eq_true rfl, Nat.le_of_ble_eq_true rfl, Nat.le_of_ble_eq_true rfl⟩ (s85t hfm G (by omega) (by omega)) ?_
      refine xe_s (f := (16, _, _, _)) xt_g192 rfl rfl rfl rfl rfl ?_
      refine xe_ic_ne xt_g192 rfl (t := 22) rfl (q := 19) rfl (by first | omega | exact xb_r _) (by first | omega | exact xb_r _) (fun b16 => ?_) (fun b16 => ?_)
      · try simp only [xb_0, xb_1, ne_eq, Decidable.not_not, Bool.not_eq_false, Bool.not_eq_true, decide_eq_true_eq, decide_eq_false_iff_not] at b16
        refine xe_iinc xt_g192 rfl (q := 25) rfl rfl (by decide) (L1 := [(4, _), (0, _), (1, _), (3, _)]) rfl ?_
        refine xe_s (f := (3, _, _, _)) xt_g192 rfl rfl rfl rfl rfl ?_
        rw [if_neg b16]
        exact ih (i + 1) (by omega) (by omega) (by omega)
      · try simp only [xb_0, xb_1, ne_eq, Decidable.not_not, Bool.not_eq_false, Bool.not_eq_true, decide_eq_true_eq, decide_eq_false_iff_not] at b16
        refine xe_s (f := (21, _, _, _)) xt_g192 rfl rfl rfl rfl rfl ?_
        refine xe_iret xt_g192 rfl rfl xi_int.1 ?_
        try dsimp only
        rw [if_pos b16]
        exact ⟨rfl, rfl⟩
theorem s192 {c i to : Int} (hfm : fm = .null ∨ ∃ j, fm = .ref j) (H : sS F h n r l) (hc : 0 ≤ c ∧ c < 128) (ht : to ≤ l.length) (h0 : 0 ≤ i) (hi : i ≤ to) : xR fm 192 h n [.ref r, xi c, xi i, xi to] (some (xi (pa_fd (lt l) c (to - i).toNat i))) := by
  unfold xR
  refine xe_s (f := (1, _, _, _)) xt_g192 rfl rfl rfl rfl rfl ?_
  refine xe_s (f := (3, [(4, _), (0, _), (1, _), (2, _), (3, _)], _, _)) xt_g192 rfl rfl rfl rfl rfl ?_
  exact xe_loc (by intro q hq; simp only [List.mem_cons, List.not_mem_nil, or_false] at hq; rcases hq with rfl | rfl | rfl | rfl <;> rfl) ((s192_loop hfm H hc ht _ i rfl h0 hi))
/-- behindLast -/
theorem s118_loop {c : Int} (hfm : fm = .null ∨ ∃ j, fm = .ref j) (H : sS F h n r l) (hc : 0 ≤ c ∧ c < 128) : ∀ (k : Nat), k ≤ l.length →
    xe fm 118 (2, [(3, xi k), (0, .ref r), (1, xi c)], [], (h, n, 0, 0)) (fun r M => r = .inl (some (xi (pa_bl l c k))) ∧ M = (h, n, 0, 0)) := by
  have G := H
  obtain ⟨b, x, y, h1, h2, h3, h4, h5, h6, h7, h8⟩ := H
  intro k
  induction k with
  | zero =>
    intro hk
    refine xe_s (f := (3, _, _, _)) xt_g118 rfl rfl rfl rfl rfl ?_
    refine xe_if_le xt_g118 rfl (t := 25) rfl (q := 6) rfl (by first | omega | exact xb_r _) (fun b3 => ?_) (fun b3 => ?_)
    · try simp only [xb_0, xb_1, ne_eq, Decidable.not_not, Bool.not_eq_false, Bool.not_eq_true, decide_eq_true_eq, decide_eq_false_iff_not] at b3
      refine xe_s (f := (26, _, xi 0 :: _, _)) xt_g118 rfl rfl rfl rfl rfl ?_
      refine xe_iret xt_g118 rfl rfl xi_int.1 ?_
      exact ⟨rfl, rfl⟩
    · exact absurd b3 (by omega)
  | succ k ih =>
    intro hk
    have a1 := h7 (((k + 1 : Nat) : Int) - 1).toNat
    have e : pa_bl l c (k + 1) = if l.getD k 0 = c then k + 1 else pa_bl l c k := rfl
    have e2 : (((k + 1 : Nat) : Int) - 1).toNat = k := by omega
    rw [e]
    refine xe_s (f := (3, _, _, _)) xt_g118 rfl rfl rfl rfl rfl ?_
    refine xe_if_le xt_g118 rfl (t := 25) rfl (q := 6) rfl (by first | omega | exact xb_r _) (fun b3 => ?_) (fun b3 => ?_)
    · exact absurd b3 (by omega)
    · try simp only [xb_0, xb_1, ne_eq, Decidable.not_not, Bool.not_eq_false, Bool.not_eq_true, decide_eq_true_eq, decide_eq_false_iff_not] at b3
      refine xe_s (f := (7, _, _, _)) xt_g118 rfl rfl rfl rfl rfl ?_
      refine xe_s (f := (8, _, _, _)) xt_g118 rfl rfl rfl rfl rfl ?_
      refine xe_s (f := (9, _, xi 1 :: _, _)) xt_g118 rfl rfl rfl rfl rfl ?_
      refine xe_isub xt_g118 rfl (q := 10) rfl ?_
      refine xe_cR xt_g118 rfl rfl rfl (q := 13) rfl (kc_V xk_0_349 rfl (h1) (by omega) rfl rfl) xt_g85 (by decide) ⟨Nat.le_of_ble_eq_true rfl, Nat.le_of_ble_eq_true rfl, Nat.le_of_ble_eq_true rfl⟩ (s85 hfm G (by omega) (by omega)) ?_
      refine xe_s (f := (14, _, _, _)) xt_g118 rfl rfl rfl rfl rfl ?_
      refine xe_ic_ne xt_g118 rfl (t := 19) rfl (q := 17) rfl (by first | omega | exact xb_r _) (by first | omega | exact xb_r _) (fun b14 => ?_) (fun b14 => ?_)
      · try simp only [xb_0, xb_1, ne_eq, Decidable.not_not, Bool.not_eq_false, Bool.not_eq_true, decide_eq_true_eq, decide_eq_false_iff_not] at b14
        rw [e2] at b14
        refine xe_iinc xt_g118 rfl (q := 22) rfl rfl (by decide) (L1 := [(3, _), (0, _), (1, _)]) rfl ?_
        refine xe_s (f := (2, _, _, _)) xt_g118 rfl rfl rfl rfl rfl ?_
        rw [if_neg b14]
        have g := ih (by omega)
        rw [show ((k : Nat) : Int) = ((k + 1 : Nat) : Int) + -1 by omega] at g
        exact g
      · try simp only [xb_0, xb_1, ne_eq, Decidable.not_not, Bool.not_eq_false, Bool.not_eq_true, decide_eq_true_eq, decide_eq_false_iff_not] at b14
        rw [e2] at b14
        refine xe_s (f := (18, _, _, _)) xt_g118 rfl rfl rfl rfl rfl ?_
        refine xe_iret xt_g118 rfl rfl xi_int.1 ?_
        try dsimp only
        rw [if_pos b14]
        exact ⟨rfl, rfl⟩
theorem s118 {c e : Int} (hfm : fm = .null ∨ ∃ j, fm = .ref j) (H : sS F h n r l) (hc : 0 ≤ c ∧ c < 128) (h0 : 0 ≤ e) (he : e ≤ l.length) : xR fm 118 h n [.ref r, xi c, xi e] (some (xi (pa_bl l c e.toNat))) := by
  have g := s118_loop hfm H hc e.toNat (by omega)
  rw [Int.toNat_of_nonneg h0] at g
  unfold xR
  refine xe_s (f := (1, _, _, _)) xt_g118 rfl rfl rfl rfl rfl ?_
  refine xe_s (f := (2, [(3, _), (0, _), (1, _), (2, _)], _, _)) xt_g118 rfl rfl rfl rfl rfl ?_
  exact xe_loc (by intro q hq; simp only [List.mem_cons, List.not_mem_nil, or_false] at hq; rcases hq with rfl | rfl | rfl <;> rfl) (g)
end XTR
