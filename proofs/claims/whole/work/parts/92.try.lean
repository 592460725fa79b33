/-! small methods of the reference -/
theorem xv_isDigit (fm : Value) (c : Int) (hc : xr c) (M : xm_M) : xe fm 252 (0, [(0, xi c)], [], M) (fun r m => r = .inl (some (xi (if 48 ≤ c ∧ c ≤ 57 then 1 else 0))) ∧ m = M) := by
  refine xe_s (f := (1, _, _, _)) xt_g252 rfl rfl rfl rfl rfl ?_
  refine xe_bipush xt_g252 rfl (q := 3) rfl (by decide) (by decide) ?_
  refine xe_ic_lt xt_g252 rfl (t := 16) rfl (q := 6) rfl hc ⟨by decide, by decide⟩ (fun h => ?_) (fun h => ?_)
  · refine xe_s (f := (17, _, _, _)) xt_g252 rfl rfl rfl rfl rfl ?_
    refine xe_ret xt_g252 rfl rfl ⟨?_, rfl⟩
    rw [if_neg (by omega)]
  · refine xe_s (f := (7, _, _, _)) xt_g252 rfl rfl rfl rfl rfl ?_
    refine xe_bipush xt_g252 rfl (q := 9) rfl (by decide) (by decide) ?_
    refine xe_ic_gt xt_g252 rfl (t := 16) rfl (q := 12) rfl hc ⟨by decide, by decide⟩ (fun h => ?_) (fun h => ?_)
    · refine xe_s (f := (17, _, _, _)) xt_g252 rfl rfl rfl rfl rfl ?_
      refine xe_ret xt_g252 rfl rfl ⟨?_, rfl⟩
      rw [if_neg (by omega)]
    · refine xe_s (f := (13, _, _, _)) xt_g252 rfl rfl rfl rfl rfl ?_
      refine xe_s (f := (17, _, _, _)) xt_g252 rfl rfl rfl rfl rfl ?_
      refine xe_ret xt_g252 rfl rfl ⟨?_, rfl⟩
      rw [if_pos (by omega)]
