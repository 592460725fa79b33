/-! the owed statement -/
theorem i_vc : Claimed_1_1 ∧ Claimed_1_2 := xs_all xs_pure_ok
