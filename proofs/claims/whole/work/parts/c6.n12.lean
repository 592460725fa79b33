/-! the law's loop, case by case -/
section XC6
variable {fm : Value} {L k n c us : Nat} {xs : Nat → Int32} {H : xm_H} {Q : xe_Q} {i : Int}
set_option maxRecDepth 100000 in
theorem l393 {ok : Bool} {z : Int} {f : Nat → Int64} (A : ok = true → f 0 = (Int32.ofInt z).toInt64) (O : H 107 = .inl (4, 1, .inr (.inl f))) (N : 108 ≤ n) (K : xe fm 348 (1297, [(4, xi i), (3, .ref 107), (2, .ref 64), (1, .ref 44), (0, .ref 0)], [], (H, n, c, us)) Q) : xe fm 348 (393, [(6, xi z), (5, xi (xb (!ok))), (4, xi i), (3, .ref 107), (2, .ref 64), (1, .ref 44), (0, .ref 0)], [], (H, n, c, us)) Q := by
  cases ok with
  | false =>
    refine xe_s (f := (395, _, _, _)) xt_g348 rfl rfl rfl rfl rfl ?_
    refine xe_s (f := (410, _, _, _)) xt_g348 rfl rfl rfl rfl rfl ?_
    refine xe_s (f := (1297, _, _, _)) xt_g348 rfl rfl rfl rfl rfl ?_
    exact xe_loc (by intro q hq; simp only [List.mem_cons, List.not_mem_nil, or_false] at hq; rcases hq with rfl | rfl | rfl | rfl | rfl <;> rfl) (K)
  | true =>
    refine xe_s (f := (395, _, _, _)) xt_g348 rfl rfl rfl rfl rfl ?_
    refine xe_s (f := (398, _, _, _)) xt_g348 rfl rfl rfl rfl rfl ?_
    refine xe_s (f := (399, _, _, _)) xt_g348 rfl rfl rfl rfl rfl ?_
    refine xe_s (f := (400, _, xi 0 :: _, _)) xt_g348 rfl rfl rfl rfl rfl ?_
    refine xe_lal xt_g348 rfl (q := 401) rfl O (by omega) ?_
    rw [A rfl]
    refine xe_s (f := (403, _, _, _)) xt_g348 rfl rfl rfl rfl rfl ?_
    refine xe_s (f := (404, _, _, _)) xt_g348 rfl rfl rfl rfl rfl ?_
    refine xe_lcs xt_g348 rfl (q := 405) rfl ?_
    refine xe_s (f := (410, _, _, _)) xt_g348 rfl rfl rfl rfl rfl ?_
    refine xe_s (f := (1297, _, _, _)) xt_g348 rfl rfl rfl rfl rfl ?_
    exact xe_loc (by intro q hq; simp only [List.mem_cons, List.not_mem_nil, or_false] at hq; rcases hq with rfl | rfl | rfl | rfl | rfl <;> rfl) (K)
set_option maxRecDepth 100000 in
theorem l461 {ok : Bool} {z : Int} {f : Nat → Int64} (A : ok = true → f 0 = (Int32.ofInt z).toInt64) (O : H 107 = .inl (4, 1, .inr (.inl f))) (N : 108 ≤ n) (K : xe fm 348 (1297, [(4, xi i), (3, .ref 107), (2, .ref 64), (1, .ref 44), (0, .ref 0)], [], (H, n, c, us)) Q) : xe fm 348 (461, [(6, xi z), (5, xi (xb (!ok))), (4, xi i), (3, .ref 107), (2, .ref 64), (1, .ref 44), (0, .ref 0)], [], (H, n, c, us)) Q := by
  cases ok with
  | false =>
    refine xe_s (f := (463, _, _, _)) xt_g348 rfl rfl rfl rfl rfl ?_
    refine xe_s (f := (478, _, _, _)) xt_g348 rfl rfl rfl rfl rfl ?_
    refine xe_s (f := (1297, _, _, _)) xt_g348 rfl rfl rfl rfl rfl ?_
    exact xe_loc (by intro q hq; simp only [List.mem_cons, List.not_mem_nil, or_false] at hq; rcases hq with rfl | rfl | rfl | rfl | rfl <;> rfl) (K)
  | true =>
    refine xe_s (f := (463, _, _, _)) xt_g348 rfl rfl rfl rfl rfl ?_
    refine xe_s (f := (466, _, _, _)) xt_g348 rfl rfl rfl rfl rfl ?_
    refine xe_s (f := (467, _, _, _)) xt_g348 rfl rfl rfl rfl rfl ?_
    refine xe_s (f := (468, _, xi 0 :: _, _)) xt_g348 rfl rfl rfl rfl rfl ?_
    refine xe_lal xt_g348 rfl (q := 469) rfl O (by omega) ?_
    rw [A rfl]
    refine xe_s (f := (471, _, _, _)) xt_g348 rfl rfl rfl rfl rfl ?_
    refine xe_s (f := (472, _, _, _)) xt_g348 rfl rfl rfl rfl rfl ?_
    refine xe_lcs xt_g348 rfl (q := 473) rfl ?_
    refine xe_s (f := (478, _, _, _)) xt_g348 rfl rfl rfl rfl rfl ?_
    refine xe_s (f := (1297, _, _, _)) xt_g348 rfl rfl rfl rfl rfl ?_
    exact xe_loc (by intro q hq; simp only [List.mem_cons, List.not_mem_nil, or_false] at hq; rcases hq with rfl | rfl | rfl | rfl | rfl <;> rfl) (K)
set_option maxRecDepth 100000 in
theorem l557 {ok : Bool} {z : Int} {f : Nat → Int64} (A : ok = true → f 0 = (Int32.ofInt z).toInt64) (O : H 107 = .inl (4, 1, .inr (.inl f))) (N : 108 ≤ n) (K : xe fm 348 (1297, [(4, xi i), (3, .ref 107), (2, .ref 64), (1, .ref 44), (0, .ref 0)], [], (H, n, c, us)) Q) : xe fm 348 (557, [(6, xi z), (5, xi (xb (!ok))), (4, xi i), (3, .ref 107), (2, .ref 64), (1, .ref 44), (0, .ref 0)], [], (H, n, c, us)) Q := by
  cases ok with
  | false =>
    refine xe_s (f := (559, _, _, _)) xt_g348 rfl rfl rfl rfl rfl ?_
    refine xe_s (f := (574, _, _, _)) xt_g348 rfl rfl rfl rfl rfl ?_
    refine xe_s (f := (1297, _, _, _)) xt_g348 rfl rfl rfl rfl rfl ?_
    exact xe_loc (by intro q hq; simp only [List.mem_cons, List.not_mem_nil, or_false] at hq; rcases hq with rfl | rfl | rfl | rfl | rfl <;> rfl) (K)
  | true =>
    refine xe_s (f := (559, _, _, _)) xt_g348 rfl rfl rfl rfl rfl ?_
    refine xe_s (f := (562, _, _, _)) xt_g348 rfl rfl rfl rfl rfl ?_
    refine xe_s (f := (563, _, _, _)) xt_g348 rfl rfl rfl rfl rfl ?_
    refine xe_s (f := (564, _, xi 0 :: _, _)) xt_g348 rfl rfl rfl rfl rfl ?_
    refine xe_lal xt_g348 rfl (q := 565) rfl O (by omega) ?_
    rw [A rfl]
    refine xe_s (f := (567, _, _, _)) xt_g348 rfl rfl rfl rfl rfl ?_
    refine xe_s (f := (568, _, _, _)) xt_g348 rfl rfl rfl rfl rfl ?_
    refine xe_lcs xt_g348 rfl (q := 569) rfl ?_
    refine xe_s (f := (574, _, _, _)) xt_g348 rfl rfl rfl rfl rfl ?_
    refine xe_s (f := (1297, _, _, _)) xt_g348 rfl rfl rfl rfl rfl ?_
    exact xe_loc (by intro q hq; simp only [List.mem_cons, List.not_mem_nil, or_false] at hq; rcases hq with rfl | rfl | rfl | rfl | rfl <;> rfl) (K)
set_option maxRecDepth 100000 in
theorem l812 {ok : Bool} {z : Int} {f : Nat → Int64} (A : ok = true → f 0 = (Int32.ofInt z).toInt64) (O : H 107 = .inl (4, 1, .inr (.inl f))) (N : 108 ≤ n) (K : xe fm 348 (1297, [(4, xi i), (3, .ref 107), (2, .ref 64), (1, .ref 44), (0, .ref 0)], [], (H, n, c, us)) Q) : xe fm 348 (812, [(6, xi z), (5, xi (xb (!ok))), (4, xi i), (3, .ref 107), (2, .ref 64), (1, .ref 44), (0, .ref 0)], [], (H, n, c, us)) Q := by
  cases ok with
  | false =>
    refine xe_s (f := (814, _, _, _)) xt_g348 rfl rfl rfl rfl rfl ?_
    refine xe_s (f := (829, _, _, _)) xt_g348 rfl rfl rfl rfl rfl ?_
    refine xe_s (f := (1297, _, _, _)) xt_g348 rfl rfl rfl rfl rfl ?_
    exact xe_loc (by intro q hq; simp only [List.mem_cons, List.not_mem_nil, or_false] at hq; rcases hq with rfl | rfl | rfl | rfl | rfl <;> rfl) (K)
  | true =>
    refine xe_s (f := (814, _, _, _)) xt_g348 rfl rfl rfl rfl rfl ?_
    refine xe_s (f := (817, _, _, _)) xt_g348 rfl rfl rfl rfl rfl ?_
    refine xe_s (f := (818, _, _, _)) xt_g348 rfl rfl rfl rfl rfl ?_
    refine xe_s (f := (819, _, xi 0 :: _, _)) xt_g348 rfl rfl rfl rfl rfl ?_
    refine xe_lal xt_g348 rfl (q := 820) rfl O (by omega) ?_
    rw [A rfl]
    refine xe_s (f := (822, _, _, _)) xt_g348 rfl rfl rfl rfl rfl ?_
    refine xe_s (f := (823, _, _, _)) xt_g348 rfl rfl rfl rfl rfl ?_
    refine xe_lcs xt_g348 rfl (q := 824) rfl ?_
    refine xe_s (f := (829, _, _, _)) xt_g348 rfl rfl rfl rfl rfl ?_
    refine xe_s (f := (1297, _, _, _)) xt_g348 rfl rfl rfl rfl rfl ?_
    exact xe_loc (by intro q hq; simp only [List.mem_cons, List.not_mem_nil, or_false] at hq; rcases hq with rfl | rfl | rfl | rfl | rfl <;> rfl) (K)
set_option maxRecDepth 100000 in
theorem l1030 {ok : Bool} {z : Int} {f : Nat → Int64} (A : ok = true → f 0 = (Int32.ofInt z).toInt64) (O : H 107 = .inl (4, 1, .inr (.inl f))) (N : 108 ≤ n) (K : xe fm 348 (1297, [(4, xi i), (3, .ref 107), (2, .ref 64), (1, .ref 44), (0, .ref 0)], [], (H, n, c, us)) Q) : xe fm 348 (1030, [(6, xi z), (5, xi (xb (!ok))), (4, xi i), (3, .ref 107), (2, .ref 64), (1, .ref 44), (0, .ref 0)], [], (H, n, c, us)) Q := by
  cases ok with
  | false =>
    refine xe_s (f := (1032, _, _, _)) xt_g348 rfl rfl rfl rfl rfl ?_
    refine xe_s (f := (1047, _, _, _)) xt_g348 rfl rfl rfl rfl rfl ?_
    refine xe_s (f := (1297, _, _, _)) xt_g348 rfl rfl rfl rfl rfl ?_
    exact xe_loc (by intro q hq; simp only [List.mem_cons, List.not_mem_nil, or_false] at hq; rcases hq with rfl | rfl | rfl | rfl | rfl <;> rfl) (K)
  | true =>
    refine xe_s (f := (1032, _, _, _)) xt_g348 rfl rfl rfl rfl rfl ?_
    refine xe_s (f := (1035, _, _, _)) xt_g348 rfl rfl rfl rfl rfl ?_
    refine xe_s (f := (1036, _, _, _)) xt_g348 rfl rfl rfl rfl rfl ?_
    refine xe_s (f := (1037, _, xi 0 :: _, _)) xt_g348 rfl rfl rfl rfl rfl ?_
    refine xe_lal xt_g348 rfl (q := 1038) rfl O (by omega) ?_
    rw [A rfl]
    refine xe_s (f := (1040, _, _, _)) xt_g348 rfl rfl rfl rfl rfl ?_
    refine xe_s (f := (1041, _, _, _)) xt_g348 rfl rfl rfl rfl rfl ?_
    refine xe_lcs xt_g348 rfl (q := 1042) rfl ?_
    refine xe_s (f := (1047, _, _, _)) xt_g348 rfl rfl rfl rfl rfl ?_
    refine xe_s (f := (1297, _, _, _)) xt_g348 rfl rfl rfl rfl rfl ?_
    exact xe_loc (by intro q hq; simp only [List.mem_cons, List.not_mem_nil, or_false] at hq; rcases hq with rfl | rfl | rfl | rfl | rfl <;> rfl) (K)
set_option maxRecDepth 100000 in
theorem l749 {ok : Bool} {z : Int} {f : Nat → Int64} (A : ok = true → f 0 = lo z) (O : H 107 = .inl (4, 1, .inr (.inl f))) (N : 108 ≤ n) (K : xe fm 348 (1297, [(4, xi i), (3, .ref 107), (2, .ref 64), (1, .ref 44), (0, .ref 0)], [], (H, n, c, us)) Q) : xe fm 348 (749, [(6, xi z), (5, xi (xb (!ok))), (4, xi i), (3, .ref 107), (2, .ref 64), (1, .ref 44), (0, .ref 0)], [], (H, n, c, us)) Q := by
  cases ok with
  | false =>
    refine xe_s (f := (751, _, _, _)) xt_g348 rfl rfl rfl rfl rfl ?_
    refine xe_s (f := (773, _, _, _)) xt_g348 rfl rfl rfl rfl rfl ?_
    refine xe_s (f := (1297, _, _, _)) xt_g348 rfl rfl rfl rfl rfl ?_
    exact xe_loc (by intro q hq; simp only [List.mem_cons, List.not_mem_nil, or_false] at hq; rcases hq with rfl | rfl | rfl | rfl | rfl <;> rfl) (K)
  | true =>
    refine xe_s (f := (751, _, _, _)) xt_g348 rfl rfl rfl rfl rfl ?_
    refine xe_s (f := (754, _, _, _)) xt_g348 rfl rfl rfl rfl rfl ?_
    refine xe_s (f := (755, _, _, _)) xt_g348 rfl rfl rfl rfl rfl ?_
    refine xe_s (f := (756, _, xi 0 :: _, _)) xt_g348 rfl rfl rfl rfl rfl ?_
    refine xe_lal xt_g348 rfl (q := 757) rfl O (by omega) ?_
    rw [A rfl]
    refine xe_s (f := (759, _, _, _)) xt_g348 rfl rfl rfl rfl rfl ?_
    refine xe_ifz xt_g348 rfl (t := 766) rfl (q := 762) rfl (fun g => ?_) (fun g => ?_)
    · rw [show lo z = Int64.ofInt 0 from if_pos g]
      refine xe_s (f := (767, _, xl 0 :: _, _)) xt_g348 rfl rfl rfl rfl rfl ?_
      refine xe_lcs xt_g348 rfl (q := 768) rfl ?_
      refine xe_s (f := (773, _, _, _)) xt_g348 rfl rfl rfl rfl rfl ?_
      refine xe_s (f := (1297, _, _, _)) xt_g348 rfl rfl rfl rfl rfl ?_
      exact xe_loc (by intro q hq; simp only [List.mem_cons, List.not_mem_nil, or_false] at hq; rcases hq with rfl | rfl | rfl | rfl | rfl <;> rfl) (K)
    · rw [show lo z = Int64.ofInt 1 from if_neg g]
      refine xe_s (f := (763, _, xl 1 :: _, _)) xt_g348 rfl rfl rfl rfl rfl ?_
      refine xe_s (f := (767, _, _, _)) xt_g348 rfl rfl rfl rfl rfl ?_
      refine xe_lcs xt_g348 rfl (q := 768) rfl ?_
      refine xe_s (f := (773, _, _, _)) xt_g348 rfl rfl rfl rfl rfl ?_
      refine xe_s (f := (1297, _, _, _)) xt_g348 rfl rfl rfl rfl rfl ?_
      exact xe_loc (by intro q hq; simp only [List.mem_cons, List.not_mem_nil, or_false] at hq; rcases hq with rfl | rfl | rfl | rfl | rfl <;> rfl) (K)
set_option maxRecDepth 100000 in
theorem l868 {ok : Bool} {z : Int} {f : Nat → Int64} (A : ok = true → f 0 = lo z) (O : H 107 = .inl (4, 1, .inr (.inl f))) (N : 108 ≤ n) (K : xe fm 348 (1297, [(4, xi i), (3, .ref 107), (2, .ref 64), (1, .ref 44), (0, .ref 0)], [], (H, n, c, us)) Q) : xe fm 348 (868, [(6, xi z), (5, xi (xb (!ok))), (4, xi i), (3, .ref 107), (2, .ref 64), (1, .ref 44), (0, .ref 0)], [], (H, n, c, us)) Q := by
  cases ok with
  | false =>
    refine xe_s (f := (870, _, _, _)) xt_g348 rfl rfl rfl rfl rfl ?_
    refine xe_s (f := (892, _, _, _)) xt_g348 rfl rfl rfl rfl rfl ?_
    refine xe_s (f := (1297, _, _, _)) xt_g348 rfl rfl rfl rfl rfl ?_
    exact xe_loc (by intro q hq; simp only [List.mem_cons, List.not_mem_nil, or_false] at hq; rcases hq with rfl | rfl | rfl | rfl | rfl <;> rfl) (K)
  | true =>
    refine xe_s (f := (870, _, _, _)) xt_g348 rfl rfl rfl rfl rfl ?_
    refine xe_s (f := (873, _, _, _)) xt_g348 rfl rfl rfl rfl rfl ?_
    refine xe_s (f := (874, _, _, _)) xt_g348 rfl rfl rfl rfl rfl ?_
    refine xe_s (f := (875, _, xi 0 :: _, _)) xt_g348 rfl rfl rfl rfl rfl ?_
    refine xe_lal xt_g348 rfl (q := 876) rfl O (by omega) ?_
    rw [A rfl]
    refine xe_s (f := (878, _, _, _)) xt_g348 rfl rfl rfl rfl rfl ?_
    refine xe_ifz xt_g348 rfl (t := 885) rfl (q := 881) rfl (fun g => ?_) (fun g => ?_)
    · rw [show lo z = Int64.ofInt 0 from if_pos g]
      refine xe_s (f := (886, _, xl 0 :: _, _)) xt_g348 rfl rfl rfl rfl rfl ?_
      refine xe_lcs xt_g348 rfl (q := 887) rfl ?_
      refine xe_s (f := (892, _, _, _)) xt_g348 rfl rfl rfl rfl rfl ?_
      refine xe_s (f := (1297, _, _, _)) xt_g348 rfl rfl rfl rfl rfl ?_
      exact xe_loc (by intro q hq; simp only [List.mem_cons, List.not_mem_nil, or_false] at hq; rcases hq with rfl | rfl | rfl | rfl | rfl <;> rfl) (K)
    · rw [show lo z = Int64.ofInt 1 from if_neg g]
      refine xe_s (f := (882, _, xl 1 :: _, _)) xt_g348 rfl rfl rfl rfl rfl ?_
      refine xe_s (f := (886, _, _, _)) xt_g348 rfl rfl rfl rfl rfl ?_
      refine xe_lcs xt_g348 rfl (q := 887) rfl ?_
      refine xe_s (f := (892, _, _, _)) xt_g348 rfl rfl rfl rfl rfl ?_
      refine xe_s (f := (1297, _, _, _)) xt_g348 rfl rfl rfl rfl rfl ?_
      exact xe_loc (by intro q hq; simp only [List.mem_cons, List.not_mem_nil, or_false] at hq; rcases hq with rfl | rfl | rfl | rfl | rfl <;> rfl) (K)
set_option maxRecDepth 100000 in
theorem l955 {ok : Bool} {z : Int} {f : Nat → Int64} (A : ok = true → f 0 = lo z) (O : H 107 = .inl (4, 1, .inr (.inl f))) (N : 108 ≤ n) (K : xe fm 348 (1297, [(4, xi i), (3, .ref 107), (2, .ref 64), (1, .ref 44), (0, .ref 0)], [], (H, n, c, us)) Q) : xe fm 348 (955, [(6, xi z), (5, xi (xb (!ok))), (4, xi i), (3, .ref 107), (2, .ref 64), (1, .ref 44), (0, .ref 0)], [], (H, n, c, us)) Q := by
  cases ok with
  | false =>
    refine xe_s (f := (957, _, _, _)) xt_g348 rfl rfl rfl rfl rfl ?_
    refine xe_s (f := (979, _, _, _)) xt_g348 rfl rfl rfl rfl rfl ?_
    refine xe_s (f := (1297, _, _, _)) xt_g348 rfl rfl rfl rfl rfl ?_
    exact xe_loc (by intro q hq; simp only [List.mem_cons, List.not_mem_nil, or_false] at hq; rcases hq with rfl | rfl | rfl | rfl | rfl <;> rfl) (K)
  | true =>
    refine xe_s (f := (957, _, _, _)) xt_g348 rfl rfl rfl rfl rfl ?_
    refine xe_s (f := (960, _, _, _)) xt_g348 rfl rfl rfl rfl rfl ?_
    refine xe_s (f := (961, _, _, _)) xt_g348 rfl rfl rfl rfl rfl ?_
    refine xe_s (f := (962, _, xi 0 :: _, _)) xt_g348 rfl rfl rfl rfl rfl ?_
    refine xe_lal xt_g348 rfl (q := 963) rfl O (by omega) ?_
    rw [A rfl]
    refine xe_s (f := (965, _, _, _)) xt_g348 rfl rfl rfl rfl rfl ?_
    refine xe_ifz xt_g348 rfl (t := 972) rfl (q := 968) rfl (fun g => ?_) (fun g => ?_)
    · rw [show lo z = Int64.ofInt 0 from if_pos g]
      refine xe_s (f := (973, _, xl 0 :: _, _)) xt_g348 rfl rfl rfl rfl rfl ?_
      refine xe_lcs xt_g348 rfl (q := 974) rfl ?_
      refine xe_s (f := (979, _, _, _)) xt_g348 rfl rfl rfl rfl rfl ?_
      refine xe_s (f := (1297, _, _, _)) xt_g348 rfl rfl rfl rfl rfl ?_
      exact xe_loc (by intro q hq; simp only [List.mem_cons, List.not_mem_nil, or_false] at hq; rcases hq with rfl | rfl | rfl | rfl | rfl <;> rfl) (K)
    · rw [show lo z = Int64.ofInt 1 from if_neg g]
      refine xe_s (f := (969, _, xl 1 :: _, _)) xt_g348 rfl rfl rfl rfl rfl ?_
      refine xe_s (f := (973, _, _, _)) xt_g348 rfl rfl rfl rfl rfl ?_
      refine xe_lcs xt_g348 rfl (q := 974) rfl ?_
      refine xe_s (f := (979, _, _, _)) xt_g348 rfl rfl rfl rfl rfl ?_
      refine xe_s (f := (1297, _, _, _)) xt_g348 rfl rfl rfl rfl rfl ?_
      exact xe_loc (by intro q hq; simp only [List.mem_cons, List.not_mem_nil, or_false] at hq; rcases hq with rfl | rfl | rfl | rfl | rfl <;> rfl) (K)
set_option maxRecDepth 100000 in
theorem l1110 {ok : Bool} {z : Int} {f : Nat → Int64} (A : ok = true → f 0 = lo z) (O : H 107 = .inl (4, 1, .inr (.inl f))) (N : 108 ≤ n) (K : xe fm 348 (1297, [(4, xi i), (3, .ref 107), (2, .ref 64), (1, .ref 44), (0, .ref 0)], [], (H, n, c, us)) Q) : xe fm 348 (1110, [(6, xi z), (5, xi (xb (!ok))), (4, xi i), (3, .ref 107), (2, .ref 64), (1, .ref 44), (0, .ref 0)], [], (H, n, c, us)) Q := by
  cases ok with
  | false =>
    refine xe_s (f := (1112, _, _, _)) xt_g348 rfl rfl rfl rfl rfl ?_
    refine xe_s (f := (1134, _, _, _)) xt_g348 rfl rfl rfl rfl rfl ?_
    refine xe_s (f := (1297, _, _, _)) xt_g348 rfl rfl rfl rfl rfl ?_
    exact xe_loc (by intro q hq; simp only [List.mem_cons, List.not_mem_nil, or_false] at hq; rcases hq with rfl | rfl | rfl | rfl | rfl <;> rfl) (K)
  | true =>
    refine xe_s (f := (1112, _, _, _)) xt_g348 rfl rfl rfl rfl rfl ?_
    refine xe_s (f := (1115, _, _, _)) xt_g348 rfl rfl rfl rfl rfl ?_
    refine xe_s (f := (1116, _, _, _)) xt_g348 rfl rfl rfl rfl rfl ?_
    refine xe_s (f := (1117, _, xi 0 :: _, _)) xt_g348 rfl rfl rfl rfl rfl ?_
    refine xe_lal xt_g348 rfl (q := 1118) rfl O (by omega) ?_
    rw [A rfl]
    refine xe_s (f := (1120, _, _, _)) xt_g348 rfl rfl rfl rfl rfl ?_
    refine xe_ifz xt_g348 rfl (t := 1127) rfl (q := 1123) rfl (fun g => ?_) (fun g => ?_)
    · rw [show lo z = Int64.ofInt 0 from if_pos g]
      refine xe_s (f := (1128, _, xl 0 :: _, _)) xt_g348 rfl rfl rfl rfl rfl ?_
      refine xe_lcs xt_g348 rfl (q := 1129) rfl ?_
      refine xe_s (f := (1134, _, _, _)) xt_g348 rfl rfl rfl rfl rfl ?_
      refine xe_s (f := (1297, _, _, _)) xt_g348 rfl rfl rfl rfl rfl ?_
      exact xe_loc (by intro q hq; simp only [List.mem_cons, List.not_mem_nil, or_false] at hq; rcases hq with rfl | rfl | rfl | rfl | rfl <;> rfl) (K)
    · rw [show lo z = Int64.ofInt 1 from if_neg g]
      refine xe_s (f := (1124, _, xl 1 :: _, _)) xt_g348 rfl rfl rfl rfl rfl ?_
      refine xe_s (f := (1128, _, _, _)) xt_g348 rfl rfl rfl rfl rfl ?_
      refine xe_lcs xt_g348 rfl (q := 1129) rfl ?_
      refine xe_s (f := (1134, _, _, _)) xt_g348 rfl rfl rfl rfl rfl ?_
      refine xe_s (f := (1297, _, _, _)) xt_g348 rfl rfl rfl rfl rfl ?_
      exact xe_loc (by intro q hq; simp only [List.mem_cons, List.not_mem_nil, or_false] at hq; rcases hq with rfl | rfl | rfl | rfl | rfl <;> rfl) (K)
set_option maxRecDepth 100000 in
theorem l_type (hfm : fm = .null ∨ ∃ j, fm = .ref j) (hL : L ≤ 2049) (i1 : 1 ≤ i) (i2 : i + 4 ≤ L) (J : jJ L xs k H n us) (K : ∀ (H' : xm_H) (n' c' us' : Nat), jJ L xs (k + 1) H' n' us' → xe fm 348 (1297, [(4, xi i), (3, .ref 107), (2, .ref 64), (1, .ref 44), (0, .ref 0)], [], (H', n', c', us')) Q) : xe fm 348 (164, [(4, xi i), (3, .ref 107), (2, .ref 64), (1, .ref 44), (0, .ref 0)], [], (H, n, c, us)) Q := by
  obtain ⟨kc, u, dp, j0, ⟨f, O⟩, ⟨w, s, p, ar, v, h, t, eH, S⟩, ⟨sr, arr, eM, R⟩, I, b1, b2⟩ := J
  subst eH
  have G := mG_rf R
  have W0 := S.1.1.1
  refine xe_s (f := (165, _, _, _)) xt_g348 rfl rfl rfl rfl rfl ?_
  refine xe_s (f := (166, _, _, _)) xt_g348 rfl rfl rfl rfl rfl ?_
  refine xe_s (f := (168, _, _, _)) xt_g348 rfl rfl rfl rfl rfl ?_
  refine xe_s (f := (169, _, xi 1 :: _, _)) xt_g348 rfl rfl rfl rfl rfl ?_
  refine xe_iadd xt_g348 rfl (q := 170) rfl ?_
  refine xe_al (ok := xm_isN) (ty := .int) xt_g348 rfl (q := 171) rfl (fun _ _ => ⟨rfl, rfl, rfl, rfl⟩) (j0) rfl rfl (by omega) (by omega) (by omega) (by omega) ((Int32.ofInt_toInt _).symm) ?_
  refine xe_s (f := (172, _, _, _)) xt_g348 rfl rfl rfl rfl rfl ?_
  refine xe_bipush xt_g348 rfl (q := 174) rfl (by decide) (by decide) ?_
  refine xe_s (f := (175, _, _, _)) xt_g348 rfl rfl rfl rfl rfl ?_
  refine xe_s (f := (176, _, _, _)) xt_g348 rfl rfl rfl rfl rfl ?_
  refine xe_s (f := (178, _, _, _)) xt_g348 rfl rfl rfl rfl rfl ?_
  refine xe_s (f := (179, _, xi 2 :: _, _)) xt_g348 rfl rfl rfl rfl rfl ?_
  refine xe_iadd xt_g348 rfl (q := 180) rfl ?_
  refine xe_al (ok := xm_isN) (ty := .int) xt_g348 rfl (q := 181) rfl (fun _ _ => ⟨rfl, rfl, rfl, rfl⟩) (j0) rfl rfl (by omega) (by omega) (by omega) (by omega) ((Int32.ofInt_toInt _).symm) ?_
  refine xe_s (f := (182, _, _, _)) xt_g348 rfl rfl rfl rfl rfl ?_
  refine xe_s (f := (185, _, _, _)) xt_g348 rfl rfl rfl rfl rfl ?_
  refine xe_s (f := (186, _, _, _)) xt_g348 rfl rfl rfl rfl rfl ?_
  refine xe_s (f := (187, _, _, _)) xt_g348 rfl rfl rfl rfl rfl ?_
  refine xe_cI xt_g348 rfl rfl rfl (q := 190) rfl (kc_V xk_12_73 rfl (ko_44) (by omega) rfl rfl) xt_g11 (by decide) ⟨Nat.le_of_ble_eq_true rfl, Nat.le_of_ble_eq_true rfl, Nat.le_of_ble_eq_true rfl⟩ (c11 S G) (fun z1 h1 n1 c1 u1 hp => ?_)
  obtain ⟨e1, hp⟩ := hp
  subst e1
  obtain ⟨D1, O1⟩ := jD_cR W0 O hp (by decide) (by decide)
  have eM1 := jM_d eM (by obtain ⟨_, _, _, _, _, _, q⟩ := D1; exact q)
  have X := jX_d j0 b1 b2 ⟨D1, O1⟩
  have N1 := jX_n X
  have hmn : xo_in 64 n1 := ⟨by omega, by omega⟩
  have x0 : xo 64 sr arr h1 0 = .inl (0, L, .inl xs) := (xo_ou (by omega)).trans (by obtain ⟨_, q, _⟩ := X; exact q)
  refine xe_hp eM1 ?_
  refine xe_s (f := (191, _, _, _)) xt_g348 rfl rfl rfl rfl rfl ?_
  refine xe_s (f := (192, _, _, _)) xt_g348 rfl rfl rfl rfl rfl ?_
  refine xe_s (f := (194, _, _, _)) xt_g348 rfl rfl rfl rfl rfl ?_
  refine xe_s (f := (195, _, xi 1 :: _, _)) xt_g348 rfl rfl rfl rfl rfl ?_
  refine xe_iadd xt_g348 rfl (q := 196) rfl ?_
  refine xe_al (ok := xm_isN) (ty := .int) xt_g348 rfl (q := 197) rfl (fun _ _ => ⟨rfl, rfl, rfl, rfl⟩) (x0) rfl rfl (by omega) (by omega) (by omega) (by omega) ((Int32.ofInt_toInt _).symm) ?_
  refine xe_s (f := (198, _, _, _)) xt_g348 rfl rfl rfl rfl rfl ?_
  refine xe_bipush xt_g348 rfl (q := 200) rfl (by decide) (by decide) ?_
  refine xe_s (f := (201, _, _, _)) xt_g348 rfl rfl rfl rfl rfl ?_
  refine xe_s (f := (202, _, _, _)) xt_g348 rfl rfl rfl rfl rfl ?_
  refine xe_s (f := (204, _, _, _)) xt_g348 rfl rfl rfl rfl rfl ?_
  refine xe_s (f := (205, _, xi 2 :: _, _)) xt_g348 rfl rfl rfl rfl rfl ?_
  refine xe_iadd xt_g348 rfl (q := 206) rfl ?_
  refine xe_al (ok := xm_isN) (ty := .int) xt_g348 rfl (q := 207) rfl (fun _ _ => ⟨rfl, rfl, rfl, rfl⟩) (x0) rfl rfl (by omega) (by omega) (by omega) (by omega) ((Int32.ofInt_toInt _).symm) ?_
  refine xe_s (f := (208, _, _, _)) xt_g348 rfl rfl rfl rfl rfl ?_
  refine xe_s (f := (211, _, _, _)) xt_g348 rfl rfl rfl rfl rfl ?_
  refine xe_s (f := (212, _, _, _)) xt_g348 rfl rfl rfl rfl rfl ?_
  refine xe_s (f := (213, _, _, _)) xt_g348 rfl rfl rfl rfl rfl ?_
  refine xe_chI xt_g348 rfl (q := 216) rfl xk_12_77 rfl (by omega) xt_g245 (by decide) ⟨Nat.le_of_ble_eq_true rfl, Nat.le_of_ble_eq_true rfl, Nat.le_of_ble_eq_true rfl⟩ (xV_type fm hmn R) (fun z2 s2 a2 hq => ?_)
  obtain ⟨e2, q2, R2⟩ := hq
  subst e2
  exact xe_same xt_g348 rfl (t := 1297) rfl (K _ _ _ _ (jX_J X R2 (mI_type I)))
set_option maxRecDepth 100000 in
theorem l_suffix (hfm : fm = .null ∨ ∃ j, fm = .ref j) (hL : L ≤ 2049) (i1 : 1 ≤ i) (i2 : i + 4 ≤ L) (J : jJ L xs k H n us) (K : ∀ (H' : xm_H) (n' c' us' : Nat), jJ L xs (k + 1) H' n' us' → xe fm 348 (1297, [(4, xi i), (3, .ref 107), (2, .ref 64), (1, .ref 44), (0, .ref 0)], [], (H', n', c', us')) Q) : xe fm 348 (221, [(4, xi i), (3, .ref 107), (2, .ref 64), (1, .ref 44), (0, .ref 0)], [], (H, n, c, us)) Q := by
  obtain ⟨kc, u, dp, j0, ⟨f, O⟩, ⟨w, s, p, ar, v, h, t, eH, S⟩, ⟨sr, arr, eM, R⟩, I, b1, b2⟩ := J
  subst eH
  have G := mG_rf R
  have W0 := S.1.1.1
  refine xe_s (f := (222, _, _, _)) xt_g348 rfl rfl rfl rfl rfl ?_
  refine xe_cI xt_g348 rfl rfl rfl (q := 225) rfl (kc_V xk_12_78 rfl (ko_44) (by omega) rfl rfl) xt_g70 (by decide) ⟨Nat.le_of_ble_eq_true rfl, Nat.le_of_ble_eq_true rfl, Nat.le_of_ble_eq_true rfl⟩ (c70 hfm S G) (fun z1 h1 n1 c1 u1 hp => ?_)
  obtain ⟨e1, hp⟩ := hp
  subst e1
  obtain ⟨D1, O1⟩ := jD_cR W0 O hp (by decide) (by decide)
  have eM1 := jM_d eM (by obtain ⟨_, _, _, _, _, _, q⟩ := D1; exact q)
  have X := jX_d j0 b1 b2 ⟨D1, O1⟩
  have N1 := jX_n X
  have hmn : xo_in 64 n1 := ⟨by omega, by omega⟩
  have x0 : xo 64 sr arr h1 0 = .inl (0, L, .inl xs) := (xo_ou (by omega)).trans (by obtain ⟨_, q, _⟩ := X; exact q)
  refine xe_hp eM1 ?_
  refine xe_s (f := (226, _, _, _)) xt_g348 rfl rfl rfl rfl rfl ?_
  refine xe_chI xt_g348 rfl (q := 229) rfl xk_12_82 rfl (by omega) xt_g246 (by decide) ⟨Nat.le_of_ble_eq_true rfl, Nat.le_of_ble_eq_true rfl, Nat.le_of_ble_eq_true rfl⟩ (xV_sfx fm hmn R) (fun z2 s2 a2 hq => ?_)
  obtain ⟨e2, q2, R2⟩ := hq
  subst e2
  exact xe_same xt_g348 rfl (t := 1297) rfl (K _ _ _ _ (jX_J X R2 (mI_suffix I)))
set_option maxRecDepth 100000 in
theorem l_pass (hfm : fm = .null ∨ ∃ j, fm = .ref j) (hL : L ≤ 2049) (i1 : 1 ≤ i) (i2 : i + 4 ≤ L) (J : jJ L xs k H n us) (K : ∀ (H' : xm_H) (n' c' us' : Nat), jJ L xs (k + 1) H' n' us' → xe fm 348 (1297, [(4, xi i), (3, .ref 107), (2, .ref 64), (1, .ref 44), (0, .ref 0)], [], (H', n', c', us')) Q) : xe fm 348 (234, [(4, xi i), (3, .ref 107), (2, .ref 64), (1, .ref 44), (0, .ref 0)], [], (H, n, c, us)) Q := by
  obtain ⟨kc, u, dp, j0, ⟨f, O⟩, ⟨w, s, p, ar, v, h, t, eH, S⟩, ⟨sr, arr, eM, R⟩, I, b1, b2⟩ := J
  subst eH
  have G := mG_rf R
  have W0 := S.1.1.1
  refine xe_s (f := (235, _, _, _)) xt_g348 rfl rfl rfl rfl rfl ?_
  refine xe_s (f := (236, _, _, _)) xt_g348 rfl rfl rfl rfl rfl ?_
  refine xe_s (f := (238, _, _, _)) xt_g348 rfl rfl rfl rfl rfl ?_
  refine xe_s (f := (239, _, xi 1 :: _, _)) xt_g348 rfl rfl rfl rfl rfl ?_
  refine xe_iadd xt_g348 rfl (q := 240) rfl ?_
  refine xe_al (ok := xm_isN) (ty := .int) xt_g348 rfl (q := 241) rfl (fun _ _ => ⟨rfl, rfl, rfl, rfl⟩) (j0) rfl rfl (by omega) (by omega) (by omega) (by omega) ((Int32.ofInt_toInt _).symm) ?_
  refine xe_cI xt_g348 rfl rfl rfl (q := 244) rfl (kc_V xk_12_83 rfl (ko_44) (by omega) rfl rfl) xt_g96 (by decide) ⟨Nat.le_of_ble_eq_true rfl, Nat.le_of_ble_eq_true rfl, Nat.le_of_ble_eq_true rfl⟩ (c96 S G (xj_r _)) (fun z1 h1 n1 c1 u1 hp => ?_)
  obtain ⟨e1, hp⟩ := hp
  subst e1
  obtain ⟨D1, O1⟩ := jD_cR W0 O hp (by decide) (by decide)
  have eM1 := jM_d eM (by obtain ⟨_, _, _, _, _, _, q⟩ := D1; exact q)
  have X := jX_d j0 b1 b2 ⟨D1, O1⟩
  have N1 := jX_n X
  have hmn : xo_in 64 n1 := ⟨by omega, by omega⟩
  have x0 : xo 64 sr arr h1 0 = .inl (0, L, .inl xs) := (xo_ou (by omega)).trans (by obtain ⟨_, q, _⟩ := X; exact q)
  refine xe_hp eM1 ?_
  refine xe_s (f := (245, _, _, _)) xt_g348 rfl rfl rfl rfl rfl ?_
  refine xe_s (f := (246, _, _, _)) xt_g348 rfl rfl rfl rfl rfl ?_
  refine xe_s (f := (248, _, _, _)) xt_g348 rfl rfl rfl rfl rfl ?_
  refine xe_s (f := (249, _, xi 1 :: _, _)) xt_g348 rfl rfl rfl rfl rfl ?_
  refine xe_iadd xt_g348 rfl (q := 250) rfl ?_
  refine xe_al (ok := xm_isN) (ty := .int) xt_g348 rfl (q := 251) rfl (fun _ _ => ⟨rfl, rfl, rfl, rfl⟩) (x0) rfl rfl (by omega) (by omega) (by omega) (by omega) ((Int32.ofInt_toInt _).symm) ?_
  refine xe_chI xt_g348 rfl (q := 254) rfl xk_12_86 rfl (by omega) xt_g255 (by decide) ⟨Nat.le_of_ble_eq_true rfl, Nat.le_of_ble_eq_true rfl, Nat.le_of_ble_eq_true rfl⟩ (xV_pass fm hmn R (xj_r _)) (fun z2 s2 a2 hq => ?_)
  obtain ⟨e2, q2, R2⟩ := hq
  subst e2
  exact xe_same xt_g348 rfl (t := 1297) rfl (K _ _ _ _ (jX_J X R2 (mI_pass I)))
set_option maxRecDepth 100000 in
theorem l_open (hfm : fm = .null ∨ ∃ j, fm = .ref j) (hL : L ≤ 2049) (i1 : 1 ≤ i) (i2 : i + 4 ≤ L) (J : jJ L xs k H n us) (K : ∀ (H' : xm_H) (n' c' us' : Nat), jJ L xs (k + 1) H' n' us' → xe fm 348 (1297, [(4, xi i), (3, .ref 107), (2, .ref 64), (1, .ref 44), (0, .ref 0)], [], (H', n', c', us')) Q) : xe fm 348 (259, [(4, xi i), (3, .ref 107), (2, .ref 64), (1, .ref 44), (0, .ref 0)], [], (H, n, c, us)) Q := by
  obtain ⟨kc, u, dp, j0, ⟨f, O⟩, ⟨w, s, p, ar, v, h, t, eH, S⟩, ⟨sr, arr, eM, R⟩, I, b1, b2⟩ := J
  subst eH
  have G := mG_rf R
  have W0 := S.1.1.1
  refine xe_s (f := (260, _, _, _)) xt_g348 rfl rfl rfl rfl rfl ?_
  refine xe_cI xt_g348 rfl rfl rfl (q := 263) rfl (kc_V xk_12_87 rfl (ko_44) (by omega) rfl rfl) xt_g99 (by decide) ⟨Nat.le_of_ble_eq_true rfl, Nat.le_of_ble_eq_true rfl, Nat.le_of_ble_eq_true rfl⟩ (c99 hfm S I G) (fun z1 h1 n1 c1 u1 hp => ?_)
  obtain ⟨e1, hp⟩ := hp
  subst e1
  obtain ⟨D1, O1⟩ := jD_cR W0 O hp (by decide) (by decide)
  have eM1 := jM_d eM (by obtain ⟨_, _, _, _, _, _, q⟩ := D1; exact q)
  have X := jX_d j0 b1 b2 ⟨D1, O1⟩
  have N1 := jX_n X
  have hmn : xo_in 64 n1 := ⟨by omega, by omega⟩
  have x0 : xo 64 sr arr h1 0 = .inl (0, L, .inl xs) := (xo_ou (by omega)).trans (by obtain ⟨_, q, _⟩ := X; exact q)
  refine xe_hp eM1 ?_
  refine xe_s (f := (264, _, _, _)) xt_g348 rfl rfl rfl rfl rfl ?_
  refine xe_chI xt_g348 rfl (q := 267) rfl xk_12_90 rfl (by omega) xt_g256 (by decide) ⟨Nat.le_of_ble_eq_true rfl, Nat.le_of_ble_eq_true rfl, Nat.le_of_ble_eq_true rfl⟩ (xV_open fm hmn R) (fun z2 s2 a2 hq => ?_)
  obtain ⟨e2, q2, R2⟩ := hq
  subst e2
  exact xe_same xt_g348 rfl (t := 1297) rfl (K _ _ _ _ (jX_J X R2 (mI_mopen I)))
set_option maxRecDepth 100000 in
theorem l_close (hfm : fm = .null ∨ ∃ j, fm = .ref j) (hL : L ≤ 2049) (i1 : 1 ≤ i) (i2 : i + 4 ≤ L) (J : jJ L xs k H n us) (K : ∀ (H' : xm_H) (n' c' us' : Nat), jJ L xs (k + 1) H' n' us' → xe fm 348 (1297, [(4, xi i), (3, .ref 107), (2, .ref 64), (1, .ref 44), (0, .ref 0)], [], (H', n', c', us')) Q) : xe fm 348 (272, [(4, xi i), (3, .ref 107), (2, .ref 64), (1, .ref 44), (0, .ref 0)], [], (H, n, c, us)) Q := by
  obtain ⟨kc, u, dp, j0, ⟨f, O⟩, ⟨w, s, p, ar, v, h, t, eH, S⟩, ⟨sr, arr, eM, R⟩, I, b1, b2⟩ := J
  subst eH
  have G := mG_rf R
  have W0 := S.1.1.1
  refine xe_s (f := (273, _, _, _)) xt_g348 rfl rfl rfl rfl rfl ?_
  refine xe_s (f := (274, _, _, _)) xt_g348 rfl rfl rfl rfl rfl ?_
  refine xe_s (f := (276, _, _, _)) xt_g348 rfl rfl rfl rfl rfl ?_
  refine xe_s (f := (277, _, xi 1 :: _, _)) xt_g348 rfl rfl rfl rfl rfl ?_
  refine xe_iadd xt_g348 rfl (q := 278) rfl ?_
  refine xe_al (ok := xm_isN) (ty := .int) xt_g348 rfl (q := 279) rfl (fun _ _ => ⟨rfl, rfl, rfl, rfl⟩) (j0) rfl rfl (by omega) (by omega) (by omega) (by omega) ((Int32.ofInt_toInt _).symm) ?_
  refine xe_cI xt_g348 rfl rfl rfl (q := 282) rfl (kc_S xk_12_91 (Nat.le_of_ble_eq_true rfl)) xt_g162 (by decide) ⟨Nat.le_of_ble_eq_true rfl, Nat.le_of_ble_eq_true rfl, Nat.le_of_ble_eq_true rfl⟩ (j162 hfm S I G O (xj_r _)) (fun z1 h1 n1 c1 u1 hp => ?_)
  obtain ⟨e1, f1, dp1, ⟨D1, O1⟩, I1⟩ := hp
  subst e1
  have eM1 := jM_d eM (by obtain ⟨_, _, _, _, _, _, q⟩ := D1; exact q)
  have X := jX_d j0 b1 b2 ⟨D1, O1⟩
  have N1 := jX_n X
  have hmn : xo_in 64 n1 := ⟨by omega, by omega⟩
  have x0 : xo 64 sr arr h1 0 = .inl (0, L, .inl xs) := (xo_ou (by omega)).trans (by obtain ⟨_, q, _⟩ := X; exact q)
  refine xe_hp eM1 ?_
  refine xe_s (f := (284, [(5, _), (4, _), (3, _), (2, _), (1, _), (0, _)], _, _)) xt_g348 rfl rfl rfl rfl rfl ?_
  refine xe_s (f := (285, _, _, _)) xt_g348 rfl rfl rfl rfl rfl ?_
  refine xe_s (f := (286, _, _, _)) xt_g348 rfl rfl rfl rfl rfl ?_
  refine xe_s (f := (288, _, _, _)) xt_g348 rfl rfl rfl rfl rfl ?_
  refine xe_s (f := (289, _, xi 1 :: _, _)) xt_g348 rfl rfl rfl rfl rfl ?_
  refine xe_iadd xt_g348 rfl (q := 290) rfl ?_
  refine xe_al (ok := xm_isN) (ty := .int) xt_g348 rfl (q := 291) rfl (fun _ _ => ⟨rfl, rfl, rfl, rfl⟩) (x0) rfl rfl (by omega) (by omega) (by omega) (by omega) ((Int32.ofInt_toInt _).symm) ?_
  refine xe_chV xt_g348 rfl (q := 294) rfl xk_12_94 rfl (by omega) xt_g290 (by decide) ⟨Nat.le_of_ble_eq_true rfl, Nat.le_of_ble_eq_true rfl, Nat.le_of_ble_eq_true rfl⟩ (xU_close fm hmn R (xj_r _) (fun e => (ht_tp I e).1)) (fun s2 a2 hq => ?_)
  obtain ⟨q2, R2⟩ := hq
  refine xe_s (f := (295, _, _, _)) xt_g348 rfl rfl rfl rfl rfl ?_
  refine xe_cvI xt_g348 rfl (q := 298) rfl xk_12_95 rfl (by omega) xt_g244 (by decide) ⟨Nat.le_of_ble_eq_true rfl, Nat.le_of_ble_eq_true rfl, Nat.le_of_ble_eq_true rfl⟩ (xv_thrown fm hmn) ?_
  rw [q2]
  refine xe_s (f := (300, _, _, _)) xt_g348 rfl rfl rfl rfl rfl ?_
  refine xe_same xt_g348 rfl (t := 305) rfl ?_
  refine xe_s (f := (1297, _, _, _)) xt_g348 rfl rfl rfl rfl rfl ?_
  exact xe_loc (by intro q hq; simp only [List.mem_cons, List.not_mem_nil, or_false] at hq; rcases hq with rfl | rfl | rfl | rfl | rfl <;> rfl) (K _ _ _ _ (jX_J X R2 I1))
set_option maxRecDepth 100000 in
theorem l_focus (hfm : fm = .null ∨ ∃ j, fm = .ref j) (hL : L ≤ 2049) (i1 : 1 ≤ i) (i2 : i + 4 ≤ L) (J : jJ L xs k H n us) (K : ∀ (H' : xm_H) (n' c' us' : Nat), jJ L xs (k + 1) H' n' us' → xe fm 348 (1297, [(4, xi i), (3, .ref 107), (2, .ref 64), (1, .ref 44), (0, .ref 0)], [], (H', n', c', us')) Q) : xe fm 348 (308, [(4, xi i), (3, .ref 107), (2, .ref 64), (1, .ref 44), (0, .ref 0)], [], (H, n, c, us)) Q := by
  obtain ⟨kc, u, dp, j0, ⟨f, O⟩, ⟨w, s, p, ar, v, h, t, eH, S⟩, ⟨sr, arr, eM, R⟩, I, b1, b2⟩ := J
  subst eH
  have G := mG_rf R
  have W0 := S.1.1.1
  refine xe_s (f := (309, _, _, _)) xt_g348 rfl rfl rfl rfl rfl ?_
  refine xe_s (f := (310, _, _, _)) xt_g348 rfl rfl rfl rfl rfl ?_
  refine xe_s (f := (312, _, _, _)) xt_g348 rfl rfl rfl rfl rfl ?_
  refine xe_s (f := (313, _, xi 1 :: _, _)) xt_g348 rfl rfl rfl rfl rfl ?_
  refine xe_iadd xt_g348 rfl (q := 314) rfl ?_
  refine xe_al (ok := xm_isN) (ty := .int) xt_g348 rfl (q := 315) rfl (fun _ _ => ⟨rfl, rfl, rfl, rfl⟩) (j0) rfl rfl (by omega) (by omega) (by omega) (by omega) ((Int32.ofInt_toInt _).symm) ?_
  refine xe_cI xt_g348 rfl rfl rfl (q := 318) rfl (kc_S xk_12_98 (Nat.le_of_ble_eq_true rfl)) xt_g169 (by decide) ⟨Nat.le_of_ble_eq_true rfl, Nat.le_of_ble_eq_true rfl, Nat.le_of_ble_eq_true rfl⟩ (j169 hfm S I G O (xj_r _)) (fun z1 h1 n1 c1 u1 hp => ?_)
  obtain ⟨e1, f1, dp1, ⟨D1, O1⟩, I1⟩ := hp
  subst e1
  have eM1 := jM_d eM (by obtain ⟨_, _, _, _, _, _, q⟩ := D1; exact q)
  have X := jX_d j0 b1 b2 ⟨D1, O1⟩
  have N1 := jX_n X
  have hmn : xo_in 64 n1 := ⟨by omega, by omega⟩
  have x0 : xo 64 sr arr h1 0 = .inl (0, L, .inl xs) := (xo_ou (by omega)).trans (by obtain ⟨_, q, _⟩ := X; exact q)
  refine xe_hp eM1 ?_
  refine xe_s (f := (320, [(5, _), (4, _), (3, _), (2, _), (1, _), (0, _)], _, _)) xt_g348 rfl rfl rfl rfl rfl ?_
  refine xe_s (f := (321, _, _, _)) xt_g348 rfl rfl rfl rfl rfl ?_
  refine xe_s (f := (322, _, _, _)) xt_g348 rfl rfl rfl rfl rfl ?_
  refine xe_s (f := (324, _, _, _)) xt_g348 rfl rfl rfl rfl rfl ?_
  refine xe_s (f := (325, _, xi 1 :: _, _)) xt_g348 rfl rfl rfl rfl rfl ?_
  refine xe_iadd xt_g348 rfl (q := 326) rfl ?_
  refine xe_al (ok := xm_isN) (ty := .int) xt_g348 rfl (q := 327) rfl (fun _ _ => ⟨rfl, rfl, rfl, rfl⟩) (x0) rfl rfl (by omega) (by omega) (by omega) (by omega) ((Int32.ofInt_toInt _).symm) ?_
  refine xe_chV xt_g348 rfl (q := 330) rfl xk_12_100 rfl (by omega) xt_g295 (by decide) ⟨Nat.le_of_ble_eq_true rfl, Nat.le_of_ble_eq_true rfl, Nat.le_of_ble_eq_true rfl⟩ (xU_focus fm hmn R (xj_r _)) (fun s2 a2 hq => ?_)
  obtain ⟨q2, R2⟩ := hq
  refine xe_s (f := (331, _, _, _)) xt_g348 rfl rfl rfl rfl rfl ?_
  refine xe_cvI xt_g348 rfl (q := 334) rfl xk_12_95 rfl (by omega) xt_g244 (by decide) ⟨Nat.le_of_ble_eq_true rfl, Nat.le_of_ble_eq_true rfl, Nat.le_of_ble_eq_true rfl⟩ (xv_thrown fm hmn) ?_
  rw [q2]
  refine xe_s (f := (336, _, _, _)) xt_g348 rfl rfl rfl rfl rfl ?_
  refine xe_same xt_g348 rfl (t := 341) rfl ?_
  refine xe_s (f := (1297, _, _, _)) xt_g348 rfl rfl rfl rfl rfl ?_
  exact xe_loc (by intro q hq; simp only [List.mem_cons, List.not_mem_nil, or_false] at hq; rcases hq with rfl | rfl | rfl | rfl | rfl <;> rfl) (K _ _ _ _ (jX_J X R2 I1))
set_option maxRecDepth 100000 in
theorem l_enter (hfm : fm = .null ∨ ∃ j, fm = .ref j) (hL : L ≤ 2049) (i1 : 1 ≤ i) (i2 : i + 4 ≤ L) (J : jJ L xs k H n us) (K : ∀ (H' : xm_H) (n' c' us' : Nat), jJ L xs (k + 1) H' n' us' → xe fm 348 (1297, [(4, xi i), (3, .ref 107), (2, .ref 64), (1, .ref 44), (0, .ref 0)], [], (H', n', c', us')) Q) : xe fm 348 (344, [(4, xi i), (3, .ref 107), (2, .ref 64), (1, .ref 44), (0, .ref 0)], [], (H, n, c, us)) Q := by
  obtain ⟨kc, u, dp, j0, ⟨f, O⟩, ⟨w, s, p, ar, v, h, t, eH, S⟩, ⟨sr, arr, eM, R⟩, I, b1, b2⟩ := J
  subst eH
  have G := mG_rf R
  have W0 := S.1.1.1
  refine xe_s (f := (345, _, _, _)) xt_g348 rfl rfl rfl rfl rfl ?_
  refine xe_cI xt_g348 rfl rfl rfl (q := 348) rfl (kc_V xk_12_101 rfl (ko_44) (by omega) rfl rfl) xt_g145 (by decide) ⟨Nat.le_of_ble_eq_true rfl, Nat.le_of_ble_eq_true rfl, Nat.le_of_ble_eq_true rfl⟩ (c145 hfm S I G) (fun z1 h1 n1 c1 u1 hp => ?_)
  obtain ⟨e1, hp⟩ := hp
  subst e1
  obtain ⟨D1, O1⟩ := jD_cR W0 O hp (by decide) (by decide)
  have eM1 := jM_d eM (by obtain ⟨_, _, _, _, _, _, q⟩ := D1; exact q)
  have X := jX_d j0 b1 b2 ⟨D1, O1⟩
  have N1 := jX_n X
  have hmn : xo_in 64 n1 := ⟨by omega, by omega⟩
  have x0 : xo 64 sr arr h1 0 = .inl (0, L, .inl xs) := (xo_ou (by omega)).trans (by obtain ⟨_, q, _⟩ := X; exact q)
  refine xe_hp eM1 ?_
  refine xe_s (f := (349, _, _, _)) xt_g348 rfl rfl rfl rfl rfl ?_
  refine xe_chI xt_g348 rfl (q := 352) rfl xk_12_104 rfl (by omega) xt_g296 (by decide) ⟨Nat.le_of_ble_eq_true rfl, Nat.le_of_ble_eq_true rfl, Nat.le_of_ble_eq_true rfl⟩ (xV_enter fm hmn R (fo_tp I)) (fun z2 s2 a2 hq => ?_)
  obtain ⟨e2, q2, R2⟩ := hq
  subst e2
  exact xe_same xt_g348 rfl (t := 1297) rfl (K _ _ _ _ (jX_J X R2 (mI_enter I)))
set_option maxRecDepth 100000 in
theorem l_child (hfm : fm = .null ∨ ∃ j, fm = .ref j) (hL : L ≤ 2049) (i1 : 1 ≤ i) (i2 : i + 4 ≤ L) (J : jJ L xs k H n us) (K : ∀ (H' : xm_H) (n' c' us' : Nat), jJ L xs (k + 1) H' n' us' → xe fm 348 (1297, [(4, xi i), (3, .ref 107), (2, .ref 64), (1, .ref 44), (0, .ref 0)], [], (H', n', c', us')) Q) : xe fm 348 (357, [(4, xi i), (3, .ref 107), (2, .ref 64), (1, .ref 44), (0, .ref 0)], [], (H, n, c, us)) Q := by
  obtain ⟨kc, u, dp, j0, ⟨f, O⟩, ⟨w, s, p, ar, v, h, t, eH, S⟩, ⟨sr, arr, eM, R⟩, I, b1, b2⟩ := J
  subst eH
  have G := mG_rf R
  have W0 := S.1.1.1
  refine xe_s (f := (358, _, _, _)) xt_g348 rfl rfl rfl rfl rfl ?_
  refine xe_s (f := (359, _, _, _)) xt_g348 rfl rfl rfl rfl rfl ?_
  refine xe_s (f := (361, _, _, _)) xt_g348 rfl rfl rfl rfl rfl ?_
  refine xe_s (f := (362, _, xi 1 :: _, _)) xt_g348 rfl rfl rfl rfl rfl ?_
  refine xe_iadd xt_g348 rfl (q := 363) rfl ?_
  refine xe_al (ok := xm_isN) (ty := .int) xt_g348 rfl (q := 364) rfl (fun _ _ => ⟨rfl, rfl, rfl, rfl⟩) (j0) rfl rfl (by omega) (by omega) (by omega) (by omega) ((Int32.ofInt_toInt _).symm) ?_
  refine xe_s (f := (365, _, _, _)) xt_g348 rfl rfl rfl rfl rfl ?_
  refine xe_cI xt_g348 rfl rfl rfl (q := 368) rfl (kc_S xk_12_105 (Nat.le_of_ble_eq_true rfl)) xt_g171 (by decide) ⟨Nat.le_of_ble_eq_true rfl, Nat.le_of_ble_eq_true rfl, Nat.le_of_ble_eq_true rfl⟩ (j171 hfm S I G O (xj_r _)) (fun z1 h1 n1 c1 u1 hp => ?_)
  obtain ⟨e1, f1, dp1, ⟨D1, O1⟩, I1, A1⟩ := hp
  subst e1
  have eM1 := jM_d eM (by obtain ⟨_, _, _, _, _, _, q⟩ := D1; exact q)
  have X := jX_d j0 b1 b2 ⟨D1, O1⟩
  have N1 := jX_n X
  have hmn : xo_in 64 n1 := ⟨by omega, by omega⟩
  have x0 : xo 64 sr arr h1 0 = .inl (0, L, .inl xs) := (xo_ou (by omega)).trans (by obtain ⟨_, q, _⟩ := X; exact q)
  refine xe_hp eM1 ?_
  refine xe_s (f := (370, [(5, _), (4, _), (3, _), (2, _), (1, _), (0, _)], _, _)) xt_g348 rfl rfl rfl rfl rfl ?_
  refine xe_s (f := (371, _, _, _)) xt_g348 rfl rfl rfl rfl rfl ?_
  refine xe_s (f := (372, _, _, _)) xt_g348 rfl rfl rfl rfl rfl ?_
  refine xe_s (f := (374, _, _, _)) xt_g348 rfl rfl rfl rfl rfl ?_
  refine xe_s (f := (375, _, xi 1 :: _, _)) xt_g348 rfl rfl rfl rfl rfl ?_
  refine xe_iadd xt_g348 rfl (q := 376) rfl ?_
  refine xe_al (ok := xm_isN) (ty := .int) xt_g348 rfl (q := 377) rfl (fun _ _ => ⟨rfl, rfl, rfl, rfl⟩) (x0) rfl rfl (by omega) (by omega) (by omega) (by omega) ((Int32.ofInt_toInt _).symm) ?_
  refine xe_chI xt_g348 rfl (q := 380) rfl xk_12_108 rfl (by omega) xt_g297 (by decide) ⟨Nat.le_of_ble_eq_true rfl, Nat.le_of_ble_eq_true rfl, Nat.le_of_ble_eq_true rfl⟩ (xV_child fm hmn R I.1 (xj_r _)) (fun z2 s2 a2 hq => ?_)
  obtain ⟨e2, q2, R2⟩ := hq
  subst e2
  refine xe_s (f := (382, [(6, _), (5, _), (4, _), (3, _), (2, _), (1, _), (0, _)], _, _)) xt_g348 rfl rfl rfl rfl rfl ?_
  refine xe_s (f := (383, _, _, _)) xt_g348 rfl rfl rfl rfl rfl ?_
  refine xe_cvI xt_g348 rfl (q := 386) rfl xk_12_95 rfl (by omega) xt_g244 (by decide) ⟨Nat.le_of_ble_eq_true rfl, Nat.le_of_ble_eq_true rfl, Nat.le_of_ble_eq_true rfl⟩ (xv_thrown fm hmn) ?_
  rw [q2]
  refine xe_s (f := (388, _, _, _)) xt_g348 rfl rfl rfl rfl rfl ?_
  exact xe_same xt_g348 rfl (t := 393) rfl (l393 A1 ((xo_ou (by omega)).trans O1) N1 (K _ _ _ _ (jX_J X R2 I1)))
set_option maxRecDepth 100000 in
theorem l_navigate (hfm : fm = .null ∨ ∃ j, fm = .ref j) (hL : L ≤ 2049) (i1 : 1 ≤ i) (i2 : i + 4 ≤ L) (J : jJ L xs k H n us) (K : ∀ (H' : xm_H) (n' c' us' : Nat), jJ L xs (k + 1) H' n' us' → xe fm 348 (1297, [(4, xi i), (3, .ref 107), (2, .ref 64), (1, .ref 44), (0, .ref 0)], [], (H', n', c', us')) Q) : xe fm 348 (413, [(4, xi i), (3, .ref 107), (2, .ref 64), (1, .ref 44), (0, .ref 0)], [], (H, n, c, us)) Q := by
  obtain ⟨kc, u, dp, j0, ⟨f, O⟩, ⟨w, s, p, ar, v, h, t, eH, S⟩, ⟨sr, arr, eM, R⟩, I, b1, b2⟩ := J
  subst eH
  have G := mG_rf R
  have W0 := S.1.1.1
  refine xe_s (f := (414, _, _, _)) xt_g348 rfl rfl rfl rfl rfl ?_
  refine xe_s (f := (415, _, _, _)) xt_g348 rfl rfl rfl rfl rfl ?_
  refine xe_s (f := (417, _, _, _)) xt_g348 rfl rfl rfl rfl rfl ?_
  refine xe_s (f := (418, _, xi 1 :: _, _)) xt_g348 rfl rfl rfl rfl rfl ?_
  refine xe_iadd xt_g348 rfl (q := 419) rfl ?_
  refine xe_al (ok := xm_isN) (ty := .int) xt_g348 rfl (q := 420) rfl (fun _ _ => ⟨rfl, rfl, rfl, rfl⟩) (j0) rfl rfl (by omega) (by omega) (by omega) (by omega) ((Int32.ofInt_toInt _).symm) ?_
  refine xe_s (f := (421, _, _, _)) xt_g348 rfl rfl rfl rfl rfl ?_
  refine xe_s (f := (423, _, _, _)) xt_g348 rfl rfl rfl rfl rfl ?_
  refine xe_s (f := (424, _, xi 2 :: _, _)) xt_g348 rfl rfl rfl rfl rfl ?_
  refine xe_iadd xt_g348 rfl (q := 425) rfl ?_
  refine xe_al (ok := xm_isN) (ty := .int) xt_g348 rfl (q := 426) rfl (fun _ _ => ⟨rfl, rfl, rfl, rfl⟩) (j0) rfl rfl (by omega) (by omega) (by omega) (by omega) ((Int32.ofInt_toInt _).symm) ?_
  refine xe_s (f := (427, _, _, _)) xt_g348 rfl rfl rfl rfl rfl ?_
  refine xe_cI xt_g348 rfl rfl rfl (q := 430) rfl (kc_S xk_12_109 (Nat.le_of_ble_eq_true rfl)) xt_g175 (by decide) ⟨Nat.le_of_ble_eq_true rfl, Nat.le_of_ble_eq_true rfl, Nat.le_of_ble_eq_true rfl⟩ (j175 hfm S I G O (xj_r _) (xj_r _)) (fun z1 h1 n1 c1 u1 hp => ?_)
  obtain ⟨e1, f1, dp1, ⟨D1, O1⟩, I1, A1⟩ := hp
  subst e1
  have eM1 := jM_d eM (by obtain ⟨_, _, _, _, _, _, q⟩ := D1; exact q)
  have X := jX_d j0 b1 b2 ⟨D1, O1⟩
  have N1 := jX_n X
  have hmn : xo_in 64 n1 := ⟨by omega, by omega⟩
  have x0 : xo 64 sr arr h1 0 = .inl (0, L, .inl xs) := (xo_ou (by omega)).trans (by obtain ⟨_, q, _⟩ := X; exact q)
  refine xe_hp eM1 ?_
  refine xe_s (f := (432, [(5, _), (4, _), (3, _), (2, _), (1, _), (0, _)], _, _)) xt_g348 rfl rfl rfl rfl rfl ?_
  refine xe_s (f := (433, _, _, _)) xt_g348 rfl rfl rfl rfl rfl ?_
  refine xe_s (f := (434, _, _, _)) xt_g348 rfl rfl rfl rfl rfl ?_
  refine xe_s (f := (436, _, _, _)) xt_g348 rfl rfl rfl rfl rfl ?_
  refine xe_s (f := (437, _, xi 1 :: _, _)) xt_g348 rfl rfl rfl rfl rfl ?_
  refine xe_iadd xt_g348 rfl (q := 438) rfl ?_
  refine xe_al (ok := xm_isN) (ty := .int) xt_g348 rfl (q := 439) rfl (fun _ _ => ⟨rfl, rfl, rfl, rfl⟩) (x0) rfl rfl (by omega) (by omega) (by omega) (by omega) ((Int32.ofInt_toInt _).symm) ?_
  refine xe_s (f := (440, _, _, _)) xt_g348 rfl rfl rfl rfl rfl ?_
  refine xe_s (f := (442, _, _, _)) xt_g348 rfl rfl rfl rfl rfl ?_
  refine xe_s (f := (443, _, xi 2 :: _, _)) xt_g348 rfl rfl rfl rfl rfl ?_
  refine xe_iadd xt_g348 rfl (q := 444) rfl ?_
  refine xe_al (ok := xm_isN) (ty := .int) xt_g348 rfl (q := 445) rfl (fun _ _ => ⟨rfl, rfl, rfl, rfl⟩) (x0) rfl rfl (by omega) (by omega) (by omega) (by omega) ((Int32.ofInt_toInt _).symm) ?_
  refine xe_chI xt_g348 rfl (q := 448) rfl xk_12_112 rfl (by omega) xt_g301 (by decide) ⟨Nat.le_of_ble_eq_true rfl, Nat.le_of_ble_eq_true rfl, Nat.le_of_ble_eq_true rfl⟩ (xV_navigate fm hmn R I.1 (xj_r _) (xj_r _)) (fun z2 s2 a2 hq => ?_)
  obtain ⟨e2, q2, R2⟩ := hq
  subst e2
  refine xe_s (f := (450, [(6, _), (5, _), (4, _), (3, _), (2, _), (1, _), (0, _)], _, _)) xt_g348 rfl rfl rfl rfl rfl ?_
  refine xe_s (f := (451, _, _, _)) xt_g348 rfl rfl rfl rfl rfl ?_
  refine xe_cvI xt_g348 rfl (q := 454) rfl xk_12_95 rfl (by omega) xt_g244 (by decide) ⟨Nat.le_of_ble_eq_true rfl, Nat.le_of_ble_eq_true rfl, Nat.le_of_ble_eq_true rfl⟩ (xv_thrown fm hmn) ?_
  rw [q2]
  refine xe_s (f := (456, _, _, _)) xt_g348 rfl rfl rfl rfl rfl ?_
  exact xe_same xt_g348 rfl (t := 461) rfl (l461 A1 ((xo_ou (by omega)).trans O1) N1 (K _ _ _ _ (jX_J X R2 I1)))
set_option maxRecDepth 100000 in
theorem l_fetch (hfm : fm = .null ∨ ∃ j, fm = .ref j) (hL : L ≤ 2049) (i1 : 1 ≤ i) (i2 : i + 4 ≤ L) (J : jJ L xs k H n us) (K : ∀ (H' : xm_H) (n' c' us' : Nat), jJ L xs (k + 1) H' n' us' → xe fm 348 (1297, [(4, xi i), (3, .ref 107), (2, .ref 64), (1, .ref 44), (0, .ref 0)], [], (H', n', c', us')) Q) : xe fm 348 (481, [(4, xi i), (3, .ref 107), (2, .ref 64), (1, .ref 44), (0, .ref 0)], [], (H, n, c, us)) Q := by
  obtain ⟨kc, u, dp, j0, ⟨f, O⟩, ⟨w, s, p, ar, v, h, t, eH, S⟩, ⟨sr, arr, eM, R⟩, I, b1, b2⟩ := J
  subst eH
  have G := mG_rf R
  have W0 := S.1.1.1
  by_cases g : (xs (i + 3).toNat).toInt = 0
  · refine xe_s (f := (482, _, _, _)) xt_g348 rfl rfl rfl rfl rfl ?_
    refine xe_s (f := (483, _, _, _)) xt_g348 rfl rfl rfl rfl rfl ?_
    refine xe_s (f := (485, _, _, _)) xt_g348 rfl rfl rfl rfl rfl ?_
    refine xe_s (f := (486, _, xi 1 :: _, _)) xt_g348 rfl rfl rfl rfl rfl ?_
    refine xe_iadd xt_g348 rfl (q := 487) rfl ?_
    refine xe_al (ok := xm_isN) (ty := .int) xt_g348 rfl (q := 488) rfl (fun _ _ => ⟨rfl, rfl, rfl, rfl⟩) (j0) rfl rfl (by omega) (by omega) (by omega) (by omega) ((Int32.ofInt_toInt _).symm) ?_
    refine xe_s (f := (489, _, _, _)) xt_g348 rfl rfl rfl rfl rfl ?_
    refine xe_s (f := (491, _, _, _)) xt_g348 rfl rfl rfl rfl rfl ?_
    refine xe_s (f := (492, _, xi 2 :: _, _)) xt_g348 rfl rfl rfl rfl rfl ?_
    refine xe_iadd xt_g348 rfl (q := 493) rfl ?_
    refine xe_al (ok := xm_isN) (ty := .int) xt_g348 rfl (q := 494) rfl (fun _ _ => ⟨rfl, rfl, rfl, rfl⟩) (j0) rfl rfl (by omega) (by omega) (by omega) (by omega) ((Int32.ofInt_toInt _).symm) ?_
    refine xe_s (f := (495, _, _, _)) xt_g348 rfl rfl rfl rfl rfl ?_
    refine xe_s (f := (497, _, _, _)) xt_g348 rfl rfl rfl rfl rfl ?_
    refine xe_s (f := (498, _, xi 3 :: _, _)) xt_g348 rfl rfl rfl rfl rfl ?_
    refine xe_iadd xt_g348 rfl (q := 499) rfl ?_
    refine xe_al (ok := xm_isN) (ty := .int) xt_g348 rfl (q := 500) rfl (fun _ _ => ⟨rfl, rfl, rfl, rfl⟩) (j0) rfl rfl (by omega) (by omega) (by omega) (by omega) ((Int32.ofInt_toInt _).symm) ?_
    refine xe_if_eq xt_g348 rfl (t := 507) rfl (q := 503) rfl (xj_r _) (fun _ => ?_) (fun g' => absurd g g')
    refine xe_s (f := (508, _, xi 0 :: _, _)) xt_g348 rfl rfl rfl rfl rfl ?_
    refine xe_s (f := (509, _, _, _)) xt_g348 rfl rfl rfl rfl rfl ?_
    refine xe_cI xt_g348 rfl rfl rfl (q := 512) rfl (kc_S xk_12_113 (Nat.le_of_ble_eq_true rfl)) xt_g179 (by decide) ⟨Nat.le_of_ble_eq_true rfl, Nat.le_of_ble_eq_true rfl, Nat.le_of_ble_eq_true rfl⟩ (j179 (wi := false) hfm S I G O (xj_r _) (xj_r _)) (fun z1 h1 n1 c1 u1 hp => ?_)
    obtain ⟨e1, f1, dp1, ⟨D1, O1⟩, I1, A1⟩ := hp
    subst e1
    have eM1 := jM_d eM (by obtain ⟨_, _, _, _, _, _, q⟩ := D1; exact q)
    have X := jX_d j0 b1 b2 ⟨D1, O1⟩
    have N1 := jX_n X
    have hmn : xo_in 64 n1 := ⟨by omega, by omega⟩
    have x0 : xo 64 sr arr h1 0 = .inl (0, L, .inl xs) := (xo_ou (by omega)).trans (by obtain ⟨_, q, _⟩ := X; exact q)
    refine xe_hp eM1 ?_
    refine xe_s (f := (514, [(5, _), (4, _), (3, _), (2, _), (1, _), (0, _)], _, _)) xt_g348 rfl rfl rfl rfl rfl ?_
    refine xe_s (f := (515, _, _, _)) xt_g348 rfl rfl rfl rfl rfl ?_
    refine xe_s (f := (516, _, _, _)) xt_g348 rfl rfl rfl rfl rfl ?_
    refine xe_s (f := (518, _, _, _)) xt_g348 rfl rfl rfl rfl rfl ?_
    refine xe_s (f := (519, _, xi 1 :: _, _)) xt_g348 rfl rfl rfl rfl rfl ?_
    refine xe_iadd xt_g348 rfl (q := 520) rfl ?_
    refine xe_al (ok := xm_isN) (ty := .int) xt_g348 rfl (q := 521) rfl (fun _ _ => ⟨rfl, rfl, rfl, rfl⟩) (x0) rfl rfl (by omega) (by omega) (by omega) (by omega) ((Int32.ofInt_toInt _).symm) ?_
    refine xe_s (f := (522, _, _, _)) xt_g348 rfl rfl rfl rfl rfl ?_
    refine xe_s (f := (524, _, _, _)) xt_g348 rfl rfl rfl rfl rfl ?_
    refine xe_s (f := (525, _, xi 2 :: _, _)) xt_g348 rfl rfl rfl rfl rfl ?_
    refine xe_iadd xt_g348 rfl (q := 526) rfl ?_
    refine xe_al (ok := xm_isN) (ty := .int) xt_g348 rfl (q := 527) rfl (fun _ _ => ⟨rfl, rfl, rfl, rfl⟩) (x0) rfl rfl (by omega) (by omega) (by omega) (by omega) ((Int32.ofInt_toInt _).symm) ?_
    refine xe_s (f := (528, _, _, _)) xt_g348 rfl rfl rfl rfl rfl ?_
    refine xe_s (f := (530, _, _, _)) xt_g348 rfl rfl rfl rfl rfl ?_
    refine xe_s (f := (531, _, xi 3 :: _, _)) xt_g348 rfl rfl rfl rfl rfl ?_
    refine xe_iadd xt_g348 rfl (q := 532) rfl ?_
    refine xe_al (ok := xm_isN) (ty := .int) xt_g348 rfl (q := 533) rfl (fun _ _ => ⟨rfl, rfl, rfl, rfl⟩) (x0) rfl rfl (by omega) (by omega) (by omega) (by omega) ((Int32.ofInt_toInt _).symm) ?_
    refine xe_if_eq xt_g348 rfl (t := 540) rfl (q := 536) rfl (xj_r _) (fun _ => ?_) (fun g' => absurd g g')
    refine xe_s (f := (541, _, xi 0 :: _, _)) xt_g348 rfl rfl rfl rfl rfl ?_
    refine xe_chI xt_g348 rfl (q := 544) rfl xk_12_116 rfl (by omega) xt_g304 (by decide) ⟨Nat.le_of_ble_eq_true rfl, Nat.le_of_ble_eq_true rfl, Nat.le_of_ble_eq_true rfl⟩ (xV_fetch fm (wi := false) hmn R (xj_r _) (xj_r _)) (fun z2 s2 a2 hq => ?_)
    obtain ⟨e2, q2, R2⟩ := hq
    subst e2
    refine xe_s (f := (546, [(6, _), (5, _), (4, _), (3, _), (2, _), (1, _), (0, _)], _, _)) xt_g348 rfl rfl rfl rfl rfl ?_
    refine xe_s (f := (547, _, _, _)) xt_g348 rfl rfl rfl rfl rfl ?_
    refine xe_cvI xt_g348 rfl (q := 550) rfl xk_12_95 rfl (by omega) xt_g244 (by decide) ⟨Nat.le_of_ble_eq_true rfl, Nat.le_of_ble_eq_true rfl, Nat.le_of_ble_eq_true rfl⟩ (xv_thrown fm hmn) ?_
    rw [q2]
    refine xe_s (f := (552, _, _, _)) xt_g348 rfl rfl rfl rfl rfl ?_
    exact xe_same xt_g348 rfl (t := 557) rfl (l557 A1 ((xo_ou (by omega)).trans O1) N1 (K _ _ _ _ (jX_J X R2 I1)))
  · refine xe_s (f := (482, _, _, _)) xt_g348 rfl rfl rfl rfl rfl ?_
    refine xe_s (f := (483, _, _, _)) xt_g348 rfl rfl rfl rfl rfl ?_
    refine xe_s (f := (485, _, _, _)) xt_g348 rfl rfl rfl rfl rfl ?_
    refine xe_s (f := (486, _, xi 1 :: _, _)) xt_g348 rfl rfl rfl rfl rfl ?_
    refine xe_iadd xt_g348 rfl (q := 487) rfl ?_
    refine xe_al (ok := xm_isN) (ty := .int) xt_g348 rfl (q := 488) rfl (fun _ _ => ⟨rfl, rfl, rfl, rfl⟩) (j0) rfl rfl (by omega) (by omega) (by omega) (by omega) ((Int32.ofInt_toInt _).symm) ?_
    refine xe_s (f := (489, _, _, _)) xt_g348 rfl rfl rfl rfl rfl ?_
    refine xe_s (f := (491, _, _, _)) xt_g348 rfl rfl rfl rfl rfl ?_
    refine xe_s (f := (492, _, xi 2 :: _, _)) xt_g348 rfl rfl rfl rfl rfl ?_
    refine xe_iadd xt_g348 rfl (q := 493) rfl ?_
    refine xe_al (ok := xm_isN) (ty := .int) xt_g348 rfl (q := 494) rfl (fun _ _ => ⟨rfl, rfl, rfl, rfl⟩) (j0) rfl rfl (by omega) (by omega) (by omega) (by omega) ((Int32.ofInt_toInt _).symm) ?_
    refine xe_s (f := (495, _, _, _)) xt_g348 rfl rfl rfl rfl rfl ?_
    refine xe_s (f := (497, _, _, _)) xt_g348 rfl rfl rfl rfl rfl ?_
    refine xe_s (f := (498, _, xi 3 :: _, _)) xt_g348 rfl rfl rfl rfl rfl ?_
    refine xe_iadd xt_g348 rfl (q := 499) rfl ?_
    refine xe_al (ok := xm_isN) (ty := .int) xt_g348 rfl (q := 500) rfl (fun _ _ => ⟨rfl, rfl, rfl, rfl⟩) (j0) rfl rfl (by omega) (by omega) (by omega) (by omega) ((Int32.ofInt_toInt _).symm) ?_
    refine xe_if_eq xt_g348 rfl (t := 507) rfl (q := 503) rfl (xj_r _) (fun g' => absurd g' g) (fun _ => ?_)
    refine xe_s (f := (504, _, xi 1 :: _, _)) xt_g348 rfl rfl rfl rfl rfl ?_
    refine xe_s (f := (508, _, _, _)) xt_g348 rfl rfl rfl rfl rfl ?_
    refine xe_s (f := (509, _, _, _)) xt_g348 rfl rfl rfl rfl rfl ?_
    refine xe_cI xt_g348 rfl rfl rfl (q := 512) rfl (kc_S xk_12_113 (Nat.le_of_ble_eq_true rfl)) xt_g179 (by decide) ⟨Nat.le_of_ble_eq_true rfl, Nat.le_of_ble_eq_true rfl, Nat.le_of_ble_eq_true rfl⟩ (j179 (wi := true) hfm S I G O (xj_r _) (xj_r _)) (fun z1 h1 n1 c1 u1 hp => ?_)
    obtain ⟨e1, f1, dp1, ⟨D1, O1⟩, I1, A1⟩ := hp
    subst e1
    have eM1 := jM_d eM (by obtain ⟨_, _, _, _, _, _, q⟩ := D1; exact q)
    have X := jX_d j0 b1 b2 ⟨D1, O1⟩
    have N1 := jX_n X
    have hmn : xo_in 64 n1 := ⟨by omega, by omega⟩
    have x0 : xo 64 sr arr h1 0 = .inl (0, L, .inl xs) := (xo_ou (by omega)).trans (by obtain ⟨_, q, _⟩ := X; exact q)
    refine xe_hp eM1 ?_
    refine xe_s (f := (514, [(5, _), (4, _), (3, _), (2, _), (1, _), (0, _)], _, _)) xt_g348 rfl rfl rfl rfl rfl ?_
    refine xe_s (f := (515, _, _, _)) xt_g348 rfl rfl rfl rfl rfl ?_
    refine xe_s (f := (516, _, _, _)) xt_g348 rfl rfl rfl rfl rfl ?_
    refine xe_s (f := (518, _, _, _)) xt_g348 rfl rfl rfl rfl rfl ?_
    refine xe_s (f := (519, _, xi 1 :: _, _)) xt_g348 rfl rfl rfl rfl rfl ?_
    refine xe_iadd xt_g348 rfl (q := 520) rfl ?_
    refine xe_al (ok := xm_isN) (ty := .int) xt_g348 rfl (q := 521) rfl (fun _ _ => ⟨rfl, rfl, rfl, rfl⟩) (x0) rfl rfl (by omega) (by omega) (by omega) (by omega) ((Int32.ofInt_toInt _).symm) ?_
    refine xe_s (f := (522, _, _, _)) xt_g348 rfl rfl rfl rfl rfl ?_
    refine xe_s (f := (524, _, _, _)) xt_g348 rfl rfl rfl rfl rfl ?_
    refine xe_s (f := (525, _, xi 2 :: _, _)) xt_g348 rfl rfl rfl rfl rfl ?_
    refine xe_iadd xt_g348 rfl (q := 526) rfl ?_
    refine xe_al (ok := xm_isN) (ty := .int) xt_g348 rfl (q := 527) rfl (fun _ _ => ⟨rfl, rfl, rfl, rfl⟩) (x0) rfl rfl (by omega) (by omega) (by omega) (by omega) ((Int32.ofInt_toInt _).symm) ?_
    refine xe_s (f := (528, _, _, _)) xt_g348 rfl rfl rfl rfl rfl ?_
    refine xe_s (f := (530, _, _, _)) xt_g348 rfl rfl rfl rfl rfl ?_
    refine xe_s (f := (531, _, xi 3 :: _, _)) xt_g348 rfl rfl rfl rfl rfl ?_
    refine xe_iadd xt_g348 rfl (q := 532) rfl ?_
    refine xe_al (ok := xm_isN) (ty := .int) xt_g348 rfl (q := 533) rfl (fun _ _ => ⟨rfl, rfl, rfl, rfl⟩) (x0) rfl rfl (by omega) (by omega) (by omega) (by omega) ((Int32.ofInt_toInt _).symm) ?_
    refine xe_if_eq xt_g348 rfl (t := 540) rfl (q := 536) rfl (xj_r _) (fun g' => absurd g' g) (fun _ => ?_)
    refine xe_s (f := (537, _, xi 1 :: _, _)) xt_g348 rfl rfl rfl rfl rfl ?_
    refine xe_s (f := (541, _, _, _)) xt_g348 rfl rfl rfl rfl rfl ?_
    refine xe_chI xt_g348 rfl (q := 544) rfl xk_12_116 rfl (by omega) xt_g304 (by decide) ⟨Nat.le_of_ble_eq_true rfl, Nat.le_of_ble_eq_true rfl, Nat.le_of_ble_eq_true rfl⟩ (xV_fetch fm (wi := true) hmn R (xj_r _) (xj_r _)) (fun z2 s2 a2 hq => ?_)
    obtain ⟨e2, q2, R2⟩ := hq
    subst e2
    refine xe_s (f := (546, [(6, _), (5, _), (4, _), (3, _), (2, _), (1, _), (0, _)], _, _)) xt_g348 rfl rfl rfl rfl rfl ?_
    refine xe_s (f := (547, _, _, _)) xt_g348 rfl rfl rfl rfl rfl ?_
    refine xe_cvI xt_g348 rfl (q := 550) rfl xk_12_95 rfl (by omega) xt_g244 (by decide) ⟨Nat.le_of_ble_eq_true rfl, Nat.le_of_ble_eq_true rfl, Nat.le_of_ble_eq_true rfl⟩ (xv_thrown fm hmn) ?_
    rw [q2]
    refine xe_s (f := (552, _, _, _)) xt_g348 rfl rfl rfl rfl rfl ?_
    exact xe_same xt_g348 rfl (t := 557) rfl (l557 A1 ((xo_ou (by omega)).trans O1) N1 (K _ _ _ _ (jX_J X R2 I1)))
set_option maxRecDepth 100000 in
theorem l_answer (hfm : fm = .null ∨ ∃ j, fm = .ref j) (hL : L ≤ 2049) (i1 : 1 ≤ i) (i2 : i + 4 ≤ L) (J : jJ L xs k H n us) (K : ∀ (H' : xm_H) (n' c' us' : Nat), jJ L xs (k + 1) H' n' us' → xe fm 348 (1297, [(4, xi i), (3, .ref 107), (2, .ref 64), (1, .ref 44), (0, .ref 0)], [], (H', n', c', us')) Q) : xe fm 348 (577, [(4, xi i), (3, .ref 107), (2, .ref 64), (1, .ref 44), (0, .ref 0)], [], (H, n, c, us)) Q := by
  obtain ⟨kc, u, dp, j0, ⟨f, O⟩, ⟨w, s, p, ar, v, h, t, eH, S⟩, ⟨sr, arr, eM, R⟩, I, b1, b2⟩ := J
  subst eH
  have G := mG_rf R
  have W0 := S.1.1.1
  refine xe_s (f := (578, _, _, _)) xt_g348 rfl rfl rfl rfl rfl ?_
  refine xe_s (f := (579, _, _, _)) xt_g348 rfl rfl rfl rfl rfl ?_
  refine xe_s (f := (581, _, _, _)) xt_g348 rfl rfl rfl rfl rfl ?_
  refine xe_s (f := (582, _, xi 1 :: _, _)) xt_g348 rfl rfl rfl rfl rfl ?_
  refine xe_iadd xt_g348 rfl (q := 583) rfl ?_
  refine xe_al (ok := xm_isN) (ty := .int) xt_g348 rfl (q := 584) rfl (fun _ _ => ⟨rfl, rfl, rfl, rfl⟩) (j0) rfl rfl (by omega) (by omega) (by omega) (by omega) ((Int32.ofInt_toInt _).symm) ?_
  refine xe_cI xt_g348 rfl rfl rfl (q := 587) rfl (kc_S xk_12_117 (Nat.le_of_ble_eq_true rfl)) xt_g181 (by decide) ⟨Nat.le_of_ble_eq_true rfl, Nat.le_of_ble_eq_true rfl, Nat.le_of_ble_eq_true rfl⟩ (j181 hfm S I G O (xj_r _)) (fun z1 h1 n1 c1 u1 hp => ?_)
  obtain ⟨e1, f1, dp1, ⟨D1, O1⟩, I1⟩ := hp
  subst e1
  have eM1 := jM_d eM (by obtain ⟨_, _, _, _, _, _, q⟩ := D1; exact q)
  have X := jX_d j0 b1 b2 ⟨D1, O1⟩
  have N1 := jX_n X
  have hmn : xo_in 64 n1 := ⟨by omega, by omega⟩
  have x0 : xo 64 sr arr h1 0 = .inl (0, L, .inl xs) := (xo_ou (by omega)).trans (by obtain ⟨_, q, _⟩ := X; exact q)
  refine xe_hp eM1 ?_
  refine xe_s (f := (589, [(5, _), (4, _), (3, _), (2, _), (1, _), (0, _)], _, _)) xt_g348 rfl rfl rfl rfl rfl ?_
  refine xe_s (f := (590, _, _, _)) xt_g348 rfl rfl rfl rfl rfl ?_
  refine xe_s (f := (591, _, _, _)) xt_g348 rfl rfl rfl rfl rfl ?_
  refine xe_s (f := (593, _, _, _)) xt_g348 rfl rfl rfl rfl rfl ?_
  refine xe_s (f := (594, _, xi 1 :: _, _)) xt_g348 rfl rfl rfl rfl rfl ?_
  refine xe_iadd xt_g348 rfl (q := 595) rfl ?_
  refine xe_al (ok := xm_isN) (ty := .int) xt_g348 rfl (q := 596) rfl (fun _ _ => ⟨rfl, rfl, rfl, rfl⟩) (x0) rfl rfl (by omega) (by omega) (by omega) (by omega) ((Int32.ofInt_toInt _).symm) ?_
  refine xe_chV xt_g348 rfl (q := 599) rfl xk_12_119 rfl (by omega) xt_g305 (by decide) ⟨Nat.le_of_ble_eq_true rfl, Nat.le_of_ble_eq_true rfl, Nat.le_of_ble_eq_true rfl⟩ (xU_answer fm hmn R I.1 (rq_fr I) (xj_r _)) (fun s2 a2 hq => ?_)
  obtain ⟨q2, R2⟩ := hq
  refine xe_s (f := (600, _, _, _)) xt_g348 rfl rfl rfl rfl rfl ?_
  refine xe_cvI xt_g348 rfl (q := 603) rfl xk_12_95 rfl (by omega) xt_g244 (by decide) ⟨Nat.le_of_ble_eq_true rfl, Nat.le_of_ble_eq_true rfl, Nat.le_of_ble_eq_true rfl⟩ (xv_thrown fm hmn) ?_
  rw [q2]
  refine xe_s (f := (605, _, _, _)) xt_g348 rfl rfl rfl rfl rfl ?_
  refine xe_same xt_g348 rfl (t := 610) rfl ?_
  refine xe_s (f := (1297, _, _, _)) xt_g348 rfl rfl rfl rfl rfl ?_
  exact xe_loc (by intro q hq; simp only [List.mem_cons, List.not_mem_nil, or_false] at hq; rcases hq with rfl | rfl | rfl | rfl | rfl <;> rfl) (K _ _ _ _ (jX_J X R2 I1))
set_option maxRecDepth 100000 in
theorem l_set (hfm : fm = .null ∨ ∃ j, fm = .ref j) (hL : L ≤ 2049) (i1 : 1 ≤ i) (i2 : i + 4 ≤ L) (J : jJ L xs k H n us) (K : ∀ (H' : xm_H) (n' c' us' : Nat), jJ L xs (k + 1) H' n' us' → xe fm 348 (1297, [(4, xi i), (3, .ref 107), (2, .ref 64), (1, .ref 44), (0, .ref 0)], [], (H', n', c', us')) Q) : xe fm 348 (613, [(4, xi i), (3, .ref 107), (2, .ref 64), (1, .ref 44), (0, .ref 0)], [], (H, n, c, us)) Q := by
  obtain ⟨kc, u, dp, j0, ⟨f, O⟩, ⟨w, s, p, ar, v, h, t, eH, S⟩, ⟨sr, arr, eM, R⟩, I, b1, b2⟩ := J
  subst eH
  have G := mG_rf R
  have W0 := S.1.1.1
  refine xe_s (f := (614, _, _, _)) xt_g348 rfl rfl rfl rfl rfl ?_
  refine xe_s (f := (615, _, _, _)) xt_g348 rfl rfl rfl rfl rfl ?_
  refine xe_s (f := (617, _, _, _)) xt_g348 rfl rfl rfl rfl rfl ?_
  refine xe_s (f := (618, _, xi 1 :: _, _)) xt_g348 rfl rfl rfl rfl rfl ?_
  refine xe_iadd xt_g348 rfl (q := 619) rfl ?_
  refine xe_al (ok := xm_isN) (ty := .int) xt_g348 rfl (q := 620) rfl (fun _ _ => ⟨rfl, rfl, rfl, rfl⟩) (j0) rfl rfl (by omega) (by omega) (by omega) (by omega) ((Int32.ofInt_toInt _).symm) ?_
  refine xe_cI xt_g348 rfl rfl rfl (q := 623) rfl (kc_S xk_12_120 (Nat.le_of_ble_eq_true rfl)) xt_g186 (by decide) ⟨Nat.le_of_ble_eq_true rfl, Nat.le_of_ble_eq_true rfl, Nat.le_of_ble_eq_true rfl⟩ (j186 hfm S I G O (xj_r _)) (fun z1 h1 n1 c1 u1 hp => ?_)
  obtain ⟨e1, f1, dp1, ⟨D1, O1⟩, I1⟩ := hp
  subst e1
  have eM1 := jM_d eM (by obtain ⟨_, _, _, _, _, _, q⟩ := D1; exact q)
  have X := jX_d j0 b1 b2 ⟨D1, O1⟩
  have N1 := jX_n X
  have hmn : xo_in 64 n1 := ⟨by omega, by omega⟩
  have x0 : xo 64 sr arr h1 0 = .inl (0, L, .inl xs) := (xo_ou (by omega)).trans (by obtain ⟨_, q, _⟩ := X; exact q)
  refine xe_hp eM1 ?_
  refine xe_s (f := (625, [(5, _), (4, _), (3, _), (2, _), (1, _), (0, _)], _, _)) xt_g348 rfl rfl rfl rfl rfl ?_
  refine xe_s (f := (626, _, _, _)) xt_g348 rfl rfl rfl rfl rfl ?_
  refine xe_s (f := (627, _, _, _)) xt_g348 rfl rfl rfl rfl rfl ?_
  refine xe_s (f := (629, _, _, _)) xt_g348 rfl rfl rfl rfl rfl ?_
  refine xe_s (f := (630, _, xi 1 :: _, _)) xt_g348 rfl rfl rfl rfl rfl ?_
  refine xe_iadd xt_g348 rfl (q := 631) rfl ?_
  refine xe_al (ok := xm_isN) (ty := .int) xt_g348 rfl (q := 632) rfl (fun _ _ => ⟨rfl, rfl, rfl, rfl⟩) (x0) rfl rfl (by omega) (by omega) (by omega) (by omega) ((Int32.ofInt_toInt _).symm) ?_
  refine xe_chV xt_g348 rfl (q := 635) rfl xk_12_122 rfl (by omega) xt_g309 (by decide) ⟨Nat.le_of_ble_eq_true rfl, Nat.le_of_ble_eq_true rfl, Nat.le_of_ble_eq_true rfl⟩ (xU_set fm hmn R (xj_r _)) (fun s2 a2 hq => ?_)
  obtain ⟨q2, R2⟩ := hq
  refine xe_s (f := (636, _, _, _)) xt_g348 rfl rfl rfl rfl rfl ?_
  refine xe_cvI xt_g348 rfl (q := 639) rfl xk_12_95 rfl (by omega) xt_g244 (by decide) ⟨Nat.le_of_ble_eq_true rfl, Nat.le_of_ble_eq_true rfl, Nat.le_of_ble_eq_true rfl⟩ (xv_thrown fm hmn) ?_
  rw [q2]
  refine xe_s (f := (641, _, _, _)) xt_g348 rfl rfl rfl rfl rfl ?_
  refine xe_same xt_g348 rfl (t := 646) rfl ?_
  refine xe_s (f := (1297, _, _, _)) xt_g348 rfl rfl rfl rfl rfl ?_
  exact xe_loc (by intro q hq; simp only [List.mem_cons, List.not_mem_nil, or_false] at hq; rcases hq with rfl | rfl | rfl | rfl | rfl <;> rfl) (K _ _ _ _ (jX_J X R2 I1))
set_option maxRecDepth 100000 in
theorem l_leave (hfm : fm = .null ∨ ∃ j, fm = .ref j) (hL : L ≤ 2049) (i1 : 1 ≤ i) (i2 : i + 4 ≤ L) (J : jJ L xs k H n us) (K : ∀ (H' : xm_H) (n' c' us' : Nat), jJ L xs (k + 1) H' n' us' → xe fm 348 (1297, [(4, xi i), (3, .ref 107), (2, .ref 64), (1, .ref 44), (0, .ref 0)], [], (H', n', c', us')) Q) : xe fm 348 (649, [(4, xi i), (3, .ref 107), (2, .ref 64), (1, .ref 44), (0, .ref 0)], [], (H, n, c, us)) Q := by
  obtain ⟨kc, u, dp, j0, ⟨f, O⟩, ⟨w, s, p, ar, v, h, t, eH, S⟩, ⟨sr, arr, eM, R⟩, I, b1, b2⟩ := J
  subst eH
  have G := mG_rf R
  have W0 := S.1.1.1
  by_cases g : (xs (i + 2).toNat).toInt = 0
  · refine xe_s (f := (650, _, _, _)) xt_g348 rfl rfl rfl rfl rfl ?_
    refine xe_s (f := (651, _, _, _)) xt_g348 rfl rfl rfl rfl rfl ?_
    refine xe_s (f := (653, _, _, _)) xt_g348 rfl rfl rfl rfl rfl ?_
    refine xe_s (f := (654, _, xi 1 :: _, _)) xt_g348 rfl rfl rfl rfl rfl ?_
    refine xe_iadd xt_g348 rfl (q := 655) rfl ?_
    refine xe_al (ok := xm_isN) (ty := .int) xt_g348 rfl (q := 656) rfl (fun _ _ => ⟨rfl, rfl, rfl, rfl⟩) (j0) rfl rfl (by omega) (by omega) (by omega) (by omega) ((Int32.ofInt_toInt _).symm) ?_
    refine xe_s (f := (657, _, _, _)) xt_g348 rfl rfl rfl rfl rfl ?_
    refine xe_s (f := (659, _, _, _)) xt_g348 rfl rfl rfl rfl rfl ?_
    refine xe_s (f := (660, _, xi 2 :: _, _)) xt_g348 rfl rfl rfl rfl rfl ?_
    refine xe_iadd xt_g348 rfl (q := 661) rfl ?_
    refine xe_al (ok := xm_isN) (ty := .int) xt_g348 rfl (q := 662) rfl (fun _ _ => ⟨rfl, rfl, rfl, rfl⟩) (j0) rfl rfl (by omega) (by omega) (by omega) (by omega) ((Int32.ofInt_toInt _).symm) ?_
    refine xe_if_eq xt_g348 rfl (t := 669) rfl (q := 665) rfl (xj_r _) (fun _ => ?_) (fun g' => absurd g g')
    refine xe_s (f := (670, _, xi 0 :: _, _)) xt_g348 rfl rfl rfl rfl rfl ?_
    refine xe_cI xt_g348 rfl rfl rfl (q := 673) rfl (kc_S xk_12_123 (Nat.le_of_ble_eq_true rfl)) xt_g221 (by decide) ⟨Nat.le_of_ble_eq_true rfl, Nat.le_of_ble_eq_true rfl, Nat.le_of_ble_eq_true rfl⟩ (j221 (wi := false) hfm S I G O (xj_r _)) (fun z1 h1 n1 c1 u1 hp => ?_)
    obtain ⟨e1, f1, dp1, ⟨D1, O1⟩, I1⟩ := hp
    subst e1
    have eM1 := jM_d eM (by obtain ⟨_, _, _, _, _, _, q⟩ := D1; exact q)
    have X := jX_d j0 b1 b2 ⟨D1, O1⟩
    have N1 := jX_n X
    have hmn : xo_in 64 n1 := ⟨by omega, by omega⟩
    have x0 : xo 64 sr arr h1 0 = .inl (0, L, .inl xs) := (xo_ou (by omega)).trans (by obtain ⟨_, q, _⟩ := X; exact q)
    refine xe_hp eM1 ?_
    refine xe_s (f := (675, [(5, _), (4, _), (3, _), (2, _), (1, _), (0, _)], _, _)) xt_g348 rfl rfl rfl rfl rfl ?_
    refine xe_s (f := (676, _, _, _)) xt_g348 rfl rfl rfl rfl rfl ?_
    refine xe_s (f := (677, _, _, _)) xt_g348 rfl rfl rfl rfl rfl ?_
    refine xe_s (f := (679, _, _, _)) xt_g348 rfl rfl rfl rfl rfl ?_
    refine xe_s (f := (680, _, xi 1 :: _, _)) xt_g348 rfl rfl rfl rfl rfl ?_
    refine xe_iadd xt_g348 rfl (q := 681) rfl ?_
    refine xe_al (ok := xm_isN) (ty := .int) xt_g348 rfl (q := 682) rfl (fun _ _ => ⟨rfl, rfl, rfl, rfl⟩) (x0) rfl rfl (by omega) (by omega) (by omega) (by omega) ((Int32.ofInt_toInt _).symm) ?_
    refine xe_s (f := (683, _, _, _)) xt_g348 rfl rfl rfl rfl rfl ?_
    refine xe_s (f := (685, _, _, _)) xt_g348 rfl rfl rfl rfl rfl ?_
    refine xe_s (f := (686, _, xi 2 :: _, _)) xt_g348 rfl rfl rfl rfl rfl ?_
    refine xe_iadd xt_g348 rfl (q := 687) rfl ?_
    refine xe_al (ok := xm_isN) (ty := .int) xt_g348 rfl (q := 688) rfl (fun _ _ => ⟨rfl, rfl, rfl, rfl⟩) (x0) rfl rfl (by omega) (by omega) (by omega) (by omega) ((Int32.ofInt_toInt _).symm) ?_
    refine xe_if_eq xt_g348 rfl (t := 695) rfl (q := 691) rfl (xj_r _) (fun _ => ?_) (fun g' => absurd g g')
    refine xe_s (f := (696, _, xi 0 :: _, _)) xt_g348 rfl rfl rfl rfl rfl ?_
    refine xe_chV xt_g348 rfl (q := 699) rfl xk_12_126 rfl (by omega) xt_g330 (by decide) ⟨Nat.le_of_ble_eq_true rfl, Nat.le_of_ble_eq_true rfl, Nat.le_of_ble_eq_true rfl⟩ (xU_leave fm (wi := false) hmn R (xj_r _)) (fun s2 a2 hq => ?_)
    obtain ⟨q2, R2⟩ := hq
    refine xe_s (f := (700, _, _, _)) xt_g348 rfl rfl rfl rfl rfl ?_
    refine xe_cvI xt_g348 rfl (q := 703) rfl xk_12_95 rfl (by omega) xt_g244 (by decide) ⟨Nat.le_of_ble_eq_true rfl, Nat.le_of_ble_eq_true rfl, Nat.le_of_ble_eq_true rfl⟩ (xv_thrown fm hmn) ?_
    rw [q2]
    refine xe_s (f := (705, _, _, _)) xt_g348 rfl rfl rfl rfl rfl ?_
    refine xe_same xt_g348 rfl (t := 710) rfl ?_
    refine xe_s (f := (1297, _, _, _)) xt_g348 rfl rfl rfl rfl rfl ?_
    exact xe_loc (by intro q hq; simp only [List.mem_cons, List.not_mem_nil, or_false] at hq; rcases hq with rfl | rfl | rfl | rfl | rfl <;> rfl) (K _ _ _ _ (jX_J X R2 I1))
  · refine xe_s (f := (650, _, _, _)) xt_g348 rfl rfl rfl rfl rfl ?_
    refine xe_s (f := (651, _, _, _)) xt_g348 rfl rfl rfl rfl rfl ?_
    refine xe_s (f := (653, _, _, _)) xt_g348 rfl rfl rfl rfl rfl ?_
    refine xe_s (f := (654, _, xi 1 :: _, _)) xt_g348 rfl rfl rfl rfl rfl ?_
    refine xe_iadd xt_g348 rfl (q := 655) rfl ?_
    refine xe_al (ok := xm_isN) (ty := .int) xt_g348 rfl (q := 656) rfl (fun _ _ => ⟨rfl, rfl, rfl, rfl⟩) (j0) rfl rfl (by omega) (by omega) (by omega) (by omega) ((Int32.ofInt_toInt _).symm) ?_
    refine xe_s (f := (657, _, _, _)) xt_g348 rfl rfl rfl rfl rfl ?_
    refine xe_s (f := (659, _, _, _)) xt_g348 rfl rfl rfl rfl rfl ?_
    refine xe_s (f := (660, _, xi 2 :: _, _)) xt_g348 rfl rfl rfl rfl rfl ?_
    refine xe_iadd xt_g348 rfl (q := 661) rfl ?_
    refine xe_al (ok := xm_isN) (ty := .int) xt_g348 rfl (q := 662) rfl (fun _ _ => ⟨rfl, rfl, rfl, rfl⟩) (j0) rfl rfl (by omega) (by omega) (by omega) (by omega) ((Int32.ofInt_toInt _).symm) ?_
    refine xe_if_eq xt_g348 rfl (t := 669) rfl (q := 665) rfl (xj_r _) (fun g' => absurd g' g) (fun _ => ?_)
    refine xe_s (f := (666, _, xi 1 :: _, _)) xt_g348 rfl rfl rfl rfl rfl ?_
    refine xe_s (f := (670, _, _, _)) xt_g348 rfl rfl rfl rfl rfl ?_
    refine xe_cI xt_g348 rfl rfl rfl (q := 673) rfl (kc_S xk_12_123 (Nat.le_of_ble_eq_true rfl)) xt_g221 (by decide) ⟨Nat.le_of_ble_eq_true rfl, Nat.le_of_ble_eq_true rfl, Nat.le_of_ble_eq_true rfl⟩ (j221 (wi := true) hfm S I G O (xj_r _)) (fun z1 h1 n1 c1 u1 hp => ?_)
    obtain ⟨e1, f1, dp1, ⟨D1, O1⟩, I1⟩ := hp
    subst e1
    have eM1 := jM_d eM (by obtain ⟨_, _, _, _, _, _, q⟩ := D1; exact q)
    have X := jX_d j0 b1 b2 ⟨D1, O1⟩
    have N1 := jX_n X
    have hmn : xo_in 64 n1 := ⟨by omega, by omega⟩
    have x0 : xo 64 sr arr h1 0 = .inl (0, L, .inl xs) := (xo_ou (by omega)).trans (by obtain ⟨_, q, _⟩ := X; exact q)
    refine xe_hp eM1 ?_
    refine xe_s (f := (675, [(5, _), (4, _), (3, _), (2, _), (1, _), (0, _)], _, _)) xt_g348 rfl rfl rfl rfl rfl ?_
    refine xe_s (f := (676, _, _, _)) xt_g348 rfl rfl rfl rfl rfl ?_
    refine xe_s (f := (677, _, _, _)) xt_g348 rfl rfl rfl rfl rfl ?_
    refine xe_s (f := (679, _, _, _)) xt_g348 rfl rfl rfl rfl rfl ?_
    refine xe_s (f := (680, _, xi 1 :: _, _)) xt_g348 rfl rfl rfl rfl rfl ?_
    refine xe_iadd xt_g348 rfl (q := 681) rfl ?_
    refine xe_al (ok := xm_isN) (ty := .int) xt_g348 rfl (q := 682) rfl (fun _ _ => ⟨rfl, rfl, rfl, rfl⟩) (x0) rfl rfl (by omega) (by omega) (by omega) (by omega) ((Int32.ofInt_toInt _).symm) ?_
    refine xe_s (f := (683, _, _, _)) xt_g348 rfl rfl rfl rfl rfl ?_
    refine xe_s (f := (685, _, _, _)) xt_g348 rfl rfl rfl rfl rfl ?_
    refine xe_s (f := (686, _, xi 2 :: _, _)) xt_g348 rfl rfl rfl rfl rfl ?_
    refine xe_iadd xt_g348 rfl (q := 687) rfl ?_
    refine xe_al (ok := xm_isN) (ty := .int) xt_g348 rfl (q := 688) rfl (fun _ _ => ⟨rfl, rfl, rfl, rfl⟩) (x0) rfl rfl (by omega) (by omega) (by omega) (by omega) ((Int32.ofInt_toInt _).symm) ?_
    refine xe_if_eq xt_g348 rfl (t := 695) rfl (q := 691) rfl (xj_r _) (fun g' => absurd g' g) (fun _ => ?_)
    refine xe_s (f := (692, _, xi 1 :: _, _)) xt_g348 rfl rfl rfl rfl rfl ?_
    refine xe_s (f := (696, _, _, _)) xt_g348 rfl rfl rfl rfl rfl ?_
    refine xe_chV xt_g348 rfl (q := 699) rfl xk_12_126 rfl (by omega) xt_g330 (by decide) ⟨Nat.le_of_ble_eq_true rfl, Nat.le_of_ble_eq_true rfl, Nat.le_of_ble_eq_true rfl⟩ (xU_leave fm (wi := true) hmn R (xj_r _)) (fun s2 a2 hq => ?_)
    obtain ⟨q2, R2⟩ := hq
    refine xe_s (f := (700, _, _, _)) xt_g348 rfl rfl rfl rfl rfl ?_
    refine xe_cvI xt_g348 rfl (q := 703) rfl xk_12_95 rfl (by omega) xt_g244 (by decide) ⟨Nat.le_of_ble_eq_true rfl, Nat.le_of_ble_eq_true rfl, Nat.le_of_ble_eq_true rfl⟩ (xv_thrown fm hmn) ?_
    rw [q2]
    refine xe_s (f := (705, _, _, _)) xt_g348 rfl rfl rfl rfl rfl ?_
    refine xe_same xt_g348 rfl (t := 710) rfl ?_
    refine xe_s (f := (1297, _, _, _)) xt_g348 rfl rfl rfl rfl rfl ?_
    exact xe_loc (by intro q hq; simp only [List.mem_cons, List.not_mem_nil, or_false] at hq; rcases hq with rfl | rfl | rfl | rfl | rfl <;> rfl) (K _ _ _ _ (jX_J X R2 I1))
set_option maxRecDepth 100000 in
theorem l_lead (hfm : fm = .null ∨ ∃ j, fm = .ref j) (hL : L ≤ 2049) (i1 : 1 ≤ i) (i2 : i + 4 ≤ L) (J : jJ L xs k H n us) (K : ∀ (H' : xm_H) (n' c' us' : Nat), jJ L xs (k + 1) H' n' us' → xe fm 348 (1297, [(4, xi i), (3, .ref 107), (2, .ref 64), (1, .ref 44), (0, .ref 0)], [], (H', n', c', us')) Q) : xe fm 348 (713, [(4, xi i), (3, .ref 107), (2, .ref 64), (1, .ref 44), (0, .ref 0)], [], (H, n, c, us)) Q := by
  obtain ⟨kc, u, dp, j0, ⟨f, O⟩, ⟨w, s, p, ar, v, h, t, eH, S⟩, ⟨sr, arr, eM, R⟩, I, b1, b2⟩ := J
  subst eH
  have G := mG_rf R
  have W0 := S.1.1.1
  refine xe_s (f := (714, _, _, _)) xt_g348 rfl rfl rfl rfl rfl ?_
  refine xe_s (f := (715, _, _, _)) xt_g348 rfl rfl rfl rfl rfl ?_
  refine xe_s (f := (717, _, _, _)) xt_g348 rfl rfl rfl rfl rfl ?_
  refine xe_s (f := (718, _, xi 1 :: _, _)) xt_g348 rfl rfl rfl rfl rfl ?_
  refine xe_iadd xt_g348 rfl (q := 719) rfl ?_
  refine xe_al (ok := xm_isN) (ty := .int) xt_g348 rfl (q := 720) rfl (fun _ _ => ⟨rfl, rfl, rfl, rfl⟩) (j0) rfl rfl (by omega) (by omega) (by omega) (by omega) ((Int32.ofInt_toInt _).symm) ?_
  refine xe_s (f := (721, _, _, _)) xt_g348 rfl rfl rfl rfl rfl ?_
  refine xe_cI xt_g348 rfl rfl rfl (q := 724) rfl (kc_S xk_12_127 (Nat.le_of_ble_eq_true rfl)) xt_g224 (by decide) ⟨Nat.le_of_ble_eq_true rfl, Nat.le_of_ble_eq_true rfl, Nat.le_of_ble_eq_true rfl⟩ (j224 hfm S I G O (xj_r _)) (fun z1 h1 n1 c1 u1 hp => ?_)
  obtain ⟨e1, f1, dp1, ⟨D1, O1⟩, I1, A1⟩ := hp
  subst e1
  have eM1 := jM_d eM (by obtain ⟨_, _, _, _, _, _, q⟩ := D1; exact q)
  have X := jX_d j0 b1 b2 ⟨D1, O1⟩
  have N1 := jX_n X
  have hmn : xo_in 64 n1 := ⟨by omega, by omega⟩
  have x0 : xo 64 sr arr h1 0 = .inl (0, L, .inl xs) := (xo_ou (by omega)).trans (by obtain ⟨_, q, _⟩ := X; exact q)
  refine xe_hp eM1 ?_
  refine xe_s (f := (726, [(5, _), (4, _), (3, _), (2, _), (1, _), (0, _)], _, _)) xt_g348 rfl rfl rfl rfl rfl ?_
  refine xe_s (f := (727, _, _, _)) xt_g348 rfl rfl rfl rfl rfl ?_
  refine xe_s (f := (728, _, _, _)) xt_g348 rfl rfl rfl rfl rfl ?_
  refine xe_s (f := (730, _, _, _)) xt_g348 rfl rfl rfl rfl rfl ?_
  refine xe_s (f := (731, _, xi 1 :: _, _)) xt_g348 rfl rfl rfl rfl rfl ?_
  refine xe_iadd xt_g348 rfl (q := 732) rfl ?_
  refine xe_al (ok := xm_isN) (ty := .int) xt_g348 rfl (q := 733) rfl (fun _ _ => ⟨rfl, rfl, rfl, rfl⟩) (x0) rfl rfl (by omega) (by omega) (by omega) (by omega) ((Int32.ofInt_toInt _).symm) ?_
  refine xe_chI xt_g348 rfl (q := 736) rfl xk_12_129 rfl (by omega) xt_g331 (by decide) ⟨Nat.le_of_ble_eq_true rfl, Nat.le_of_ble_eq_true rfl, Nat.le_of_ble_eq_true rfl⟩ (xV_lead fm hmn R (xj_r _)) (fun z2 s2 a2 hq => ?_)
  obtain ⟨e2, q2, R2⟩ := hq
  subst e2
  refine xe_s (f := (738, [(6, _), (5, _), (4, _), (3, _), (2, _), (1, _), (0, _)], _, _)) xt_g348 rfl rfl rfl rfl rfl ?_
  refine xe_s (f := (739, _, _, _)) xt_g348 rfl rfl rfl rfl rfl ?_
  refine xe_cvI xt_g348 rfl (q := 742) rfl xk_12_95 rfl (by omega) xt_g244 (by decide) ⟨Nat.le_of_ble_eq_true rfl, Nat.le_of_ble_eq_true rfl, Nat.le_of_ble_eq_true rfl⟩ (xv_thrown fm hmn) ?_
  rw [q2]
  refine xe_s (f := (744, _, _, _)) xt_g348 rfl rfl rfl rfl rfl ?_
  exact xe_same xt_g348 rfl (t := 749) rfl (l749 A1 ((xo_ou (by omega)).trans O1) N1 (K _ _ _ _ (jX_J X R2 I1)))
set_option maxRecDepth 100000 in
theorem l_cookies (hfm : fm = .null ∨ ∃ j, fm = .ref j) (hL : L ≤ 2049) (i1 : 1 ≤ i) (i2 : i + 4 ≤ L) (J : jJ L xs k H n us) (K : ∀ (H' : xm_H) (n' c' us' : Nat), jJ L xs (k + 1) H' n' us' → xe fm 348 (1297, [(4, xi i), (3, .ref 107), (2, .ref 64), (1, .ref 44), (0, .ref 0)], [], (H', n', c', us')) Q) : xe fm 348 (776, [(4, xi i), (3, .ref 107), (2, .ref 64), (1, .ref 44), (0, .ref 0)], [], (H, n, c, us)) Q := by
  obtain ⟨kc, u, dp, j0, ⟨f, O⟩, ⟨w, s, p, ar, v, h, t, eH, S⟩, ⟨sr, arr, eM, R⟩, I, b1, b2⟩ := J
  subst eH
  have G := mG_rf R
  have W0 := S.1.1.1
  refine xe_s (f := (777, _, _, _)) xt_g348 rfl rfl rfl rfl rfl ?_
  refine xe_s (f := (778, _, _, _)) xt_g348 rfl rfl rfl rfl rfl ?_
  refine xe_s (f := (780, _, _, _)) xt_g348 rfl rfl rfl rfl rfl ?_
  refine xe_s (f := (781, _, xi 1 :: _, _)) xt_g348 rfl rfl rfl rfl rfl ?_
  refine xe_iadd xt_g348 rfl (q := 782) rfl ?_
  refine xe_al (ok := xm_isN) (ty := .int) xt_g348 rfl (q := 783) rfl (fun _ _ => ⟨rfl, rfl, rfl, rfl⟩) (j0) rfl rfl (by omega) (by omega) (by omega) (by omega) ((Int32.ofInt_toInt _).symm) ?_
  refine xe_s (f := (784, _, _, _)) xt_g348 rfl rfl rfl rfl rfl ?_
  refine xe_cI xt_g348 rfl rfl rfl (q := 787) rfl (kc_S xk_12_130 (Nat.le_of_ble_eq_true rfl)) xt_g228 (by decide) ⟨Nat.le_of_ble_eq_true rfl, Nat.le_of_ble_eq_true rfl, Nat.le_of_ble_eq_true rfl⟩ (j228 hfm S I G O (xj_r _)) (fun z1 h1 n1 c1 u1 hp => ?_)
  obtain ⟨e1, f1, dp1, ⟨D1, O1⟩, I1, A1⟩ := hp
  subst e1
  have eM1 := jM_d eM (by obtain ⟨_, _, _, _, _, _, q⟩ := D1; exact q)
  have X := jX_d j0 b1 b2 ⟨D1, O1⟩
  have N1 := jX_n X
  have hmn : xo_in 64 n1 := ⟨by omega, by omega⟩
  have x0 : xo 64 sr arr h1 0 = .inl (0, L, .inl xs) := (xo_ou (by omega)).trans (by obtain ⟨_, q, _⟩ := X; exact q)
  refine xe_hp eM1 ?_
  refine xe_s (f := (789, [(5, _), (4, _), (3, _), (2, _), (1, _), (0, _)], _, _)) xt_g348 rfl rfl rfl rfl rfl ?_
  refine xe_s (f := (790, _, _, _)) xt_g348 rfl rfl rfl rfl rfl ?_
  refine xe_s (f := (791, _, _, _)) xt_g348 rfl rfl rfl rfl rfl ?_
  refine xe_s (f := (793, _, _, _)) xt_g348 rfl rfl rfl rfl rfl ?_
  refine xe_s (f := (794, _, xi 1 :: _, _)) xt_g348 rfl rfl rfl rfl rfl ?_
  refine xe_iadd xt_g348 rfl (q := 795) rfl ?_
  refine xe_al (ok := xm_isN) (ty := .int) xt_g348 rfl (q := 796) rfl (fun _ _ => ⟨rfl, rfl, rfl, rfl⟩) (x0) rfl rfl (by omega) (by omega) (by omega) (by omega) ((Int32.ofInt_toInt _).symm) ?_
  refine xe_chI xt_g348 rfl (q := 799) rfl xk_12_132 rfl (by omega) xt_g332 (by decide) ⟨Nat.le_of_ble_eq_true rfl, Nat.le_of_ble_eq_true rfl, Nat.le_of_ble_eq_true rfl⟩ (xV_cookies fm hmn R (xj_r _)) (fun z2 s2 a2 hq => ?_)
  obtain ⟨e2, q2, R2⟩ := hq
  subst e2
  refine xe_s (f := (801, [(6, _), (5, _), (4, _), (3, _), (2, _), (1, _), (0, _)], _, _)) xt_g348 rfl rfl rfl rfl rfl ?_
  refine xe_s (f := (802, _, _, _)) xt_g348 rfl rfl rfl rfl rfl ?_
  refine xe_cvI xt_g348 rfl (q := 805) rfl xk_12_95 rfl (by omega) xt_g244 (by decide) ⟨Nat.le_of_ble_eq_true rfl, Nat.le_of_ble_eq_true rfl, Nat.le_of_ble_eq_true rfl⟩ (xv_thrown fm hmn) ?_
  rw [q2]
  refine xe_s (f := (807, _, _, _)) xt_g348 rfl rfl rfl rfl rfl ?_
  exact xe_same xt_g348 rfl (t := 812) rfl (l812 A1 ((xo_ou (by omega)).trans O1) N1 (K _ _ _ _ (jX_J X R2 I1)))
set_option maxRecDepth 100000 in
theorem l_cookie (hfm : fm = .null ∨ ∃ j, fm = .ref j) (hL : L ≤ 2049) (i1 : 1 ≤ i) (i2 : i + 4 ≤ L) (J : jJ L xs k H n us) (K : ∀ (H' : xm_H) (n' c' us' : Nat), jJ L xs (k + 1) H' n' us' → xe fm 348 (1297, [(4, xi i), (3, .ref 107), (2, .ref 64), (1, .ref 44), (0, .ref 0)], [], (H', n', c', us')) Q) : xe fm 348 (832, [(4, xi i), (3, .ref 107), (2, .ref 64), (1, .ref 44), (0, .ref 0)], [], (H, n, c, us)) Q := by
  obtain ⟨kc, u, dp, j0, ⟨f, O⟩, ⟨w, s, p, ar, v, h, t, eH, S⟩, ⟨sr, arr, eM, R⟩, I, b1, b2⟩ := J
  subst eH
  have G := mG_rf R
  have W0 := S.1.1.1
  refine xe_s (f := (833, _, _, _)) xt_g348 rfl rfl rfl rfl rfl ?_
  refine xe_s (f := (834, _, _, _)) xt_g348 rfl rfl rfl rfl rfl ?_
  refine xe_s (f := (836, _, _, _)) xt_g348 rfl rfl rfl rfl rfl ?_
  refine xe_s (f := (837, _, xi 1 :: _, _)) xt_g348 rfl rfl rfl rfl rfl ?_
  refine xe_iadd xt_g348 rfl (q := 838) rfl ?_
  refine xe_al (ok := xm_isN) (ty := .int) xt_g348 rfl (q := 839) rfl (fun _ _ => ⟨rfl, rfl, rfl, rfl⟩) (j0) rfl rfl (by omega) (by omega) (by omega) (by omega) ((Int32.ofInt_toInt _).symm) ?_
  refine xe_s (f := (840, _, _, _)) xt_g348 rfl rfl rfl rfl rfl ?_
  refine xe_cI xt_g348 rfl rfl rfl (q := 843) rfl (kc_S xk_12_133 (Nat.le_of_ble_eq_true rfl)) xt_g230 (by decide) ⟨Nat.le_of_ble_eq_true rfl, Nat.le_of_ble_eq_true rfl, Nat.le_of_ble_eq_true rfl⟩ (j230 hfm S I G O (xj_r _)) (fun z1 h1 n1 c1 u1 hp => ?_)
  obtain ⟨e1, f1, dp1, ⟨D1, O1⟩, I1, A1⟩ := hp
  subst e1
  have eM1 := jM_d eM (by obtain ⟨_, _, _, _, _, _, q⟩ := D1; exact q)
  have X := jX_d j0 b1 b2 ⟨D1, O1⟩
  have N1 := jX_n X
  have hmn : xo_in 64 n1 := ⟨by omega, by omega⟩
  have x0 : xo 64 sr arr h1 0 = .inl (0, L, .inl xs) := (xo_ou (by omega)).trans (by obtain ⟨_, q, _⟩ := X; exact q)
  refine xe_hp eM1 ?_
  refine xe_s (f := (845, [(5, _), (4, _), (3, _), (2, _), (1, _), (0, _)], _, _)) xt_g348 rfl rfl rfl rfl rfl ?_
  refine xe_s (f := (846, _, _, _)) xt_g348 rfl rfl rfl rfl rfl ?_
  refine xe_s (f := (847, _, _, _)) xt_g348 rfl rfl rfl rfl rfl ?_
  refine xe_s (f := (849, _, _, _)) xt_g348 rfl rfl rfl rfl rfl ?_
  refine xe_s (f := (850, _, xi 1 :: _, _)) xt_g348 rfl rfl rfl rfl rfl ?_
  refine xe_iadd xt_g348 rfl (q := 851) rfl ?_
  refine xe_al (ok := xm_isN) (ty := .int) xt_g348 rfl (q := 852) rfl (fun _ _ => ⟨rfl, rfl, rfl, rfl⟩) (x0) rfl rfl (by omega) (by omega) (by omega) (by omega) ((Int32.ofInt_toInt _).symm) ?_
  refine xe_chI xt_g348 rfl (q := 855) rfl xk_12_135 rfl (by omega) xt_g334 (by decide) ⟨Nat.le_of_ble_eq_true rfl, Nat.le_of_ble_eq_true rfl, Nat.le_of_ble_eq_true rfl⟩ (xV_cookie fm hmn R (xj_r _)) (fun z2 s2 a2 hq => ?_)
  obtain ⟨e2, q2, R2⟩ := hq
  subst e2
  refine xe_s (f := (857, [(6, _), (5, _), (4, _), (3, _), (2, _), (1, _), (0, _)], _, _)) xt_g348 rfl rfl rfl rfl rfl ?_
  refine xe_s (f := (858, _, _, _)) xt_g348 rfl rfl rfl rfl rfl ?_
  refine xe_cvI xt_g348 rfl (q := 861) rfl xk_12_95 rfl (by omega) xt_g244 (by decide) ⟨Nat.le_of_ble_eq_true rfl, Nat.le_of_ble_eq_true rfl, Nat.le_of_ble_eq_true rfl⟩ (xv_thrown fm hmn) ?_
  rw [q2]
  refine xe_s (f := (863, _, _, _)) xt_g348 rfl rfl rfl rfl rfl ?_
  exact xe_same xt_g348 rfl (t := 868) rfl (l868 A1 ((xo_ou (by omega)).trans O1) N1 (K _ _ _ _ (jX_J X R2 I1)))
set_option maxRecDepth 100000 in
theorem l_store (hfm : fm = .null ∨ ∃ j, fm = .ref j) (hL : L ≤ 2049) (i1 : 1 ≤ i) (i2 : i + 4 ≤ L) (J : jJ L xs k H n us) (K : ∀ (H' : xm_H) (n' c' us' : Nat), jJ L xs (k + 1) H' n' us' → xe fm 348 (1297, [(4, xi i), (3, .ref 107), (2, .ref 64), (1, .ref 44), (0, .ref 0)], [], (H', n', c', us')) Q) : xe fm 348 (895, [(4, xi i), (3, .ref 107), (2, .ref 64), (1, .ref 44), (0, .ref 0)], [], (H, n, c, us)) Q := by
  obtain ⟨kc, u, dp, j0, ⟨f, O⟩, ⟨w, s, p, ar, v, h, t, eH, S⟩, ⟨sr, arr, eM, R⟩, I, b1, b2⟩ := J
  subst eH
  have G := mG_rf R
  have W0 := S.1.1.1
  refine xe_s (f := (896, _, _, _)) xt_g348 rfl rfl rfl rfl rfl ?_
  refine xe_s (f := (897, _, _, _)) xt_g348 rfl rfl rfl rfl rfl ?_
  refine xe_s (f := (899, _, _, _)) xt_g348 rfl rfl rfl rfl rfl ?_
  refine xe_s (f := (900, _, xi 1 :: _, _)) xt_g348 rfl rfl rfl rfl rfl ?_
  refine xe_iadd xt_g348 rfl (q := 901) rfl ?_
  refine xe_al (ok := xm_isN) (ty := .int) xt_g348 rfl (q := 902) rfl (fun _ _ => ⟨rfl, rfl, rfl, rfl⟩) (j0) rfl rfl (by omega) (by omega) (by omega) (by omega) ((Int32.ofInt_toInt _).symm) ?_
  refine xe_s (f := (903, _, _, _)) xt_g348 rfl rfl rfl rfl rfl ?_
  refine xe_s (f := (905, _, _, _)) xt_g348 rfl rfl rfl rfl rfl ?_
  refine xe_s (f := (906, _, xi 2 :: _, _)) xt_g348 rfl rfl rfl rfl rfl ?_
  refine xe_iadd xt_g348 rfl (q := 907) rfl ?_
  refine xe_al (ok := xm_isN) (ty := .int) xt_g348 rfl (q := 908) rfl (fun _ _ => ⟨rfl, rfl, rfl, rfl⟩) (j0) rfl rfl (by omega) (by omega) (by omega) (by omega) ((Int32.ofInt_toInt _).symm) ?_
  refine xe_s (f := (909, _, _, _)) xt_g348 rfl rfl rfl rfl rfl ?_
  refine xe_s (f := (911, _, _, _)) xt_g348 rfl rfl rfl rfl rfl ?_
  refine xe_s (f := (912, _, xi 3 :: _, _)) xt_g348 rfl rfl rfl rfl rfl ?_
  refine xe_iadd xt_g348 rfl (q := 913) rfl ?_
  refine xe_al (ok := xm_isN) (ty := .int) xt_g348 rfl (q := 914) rfl (fun _ _ => ⟨rfl, rfl, rfl, rfl⟩) (j0) rfl rfl (by omega) (by omega) (by omega) (by omega) ((Int32.ofInt_toInt _).symm) ?_
  refine xe_s (f := (915, _, _, _)) xt_g348 rfl rfl rfl rfl rfl ?_
  refine xe_cI xt_g348 rfl rfl rfl (q := 918) rfl (kc_S xk_12_136 (Nat.le_of_ble_eq_true rfl)) xt_g232 (by decide) ⟨Nat.le_of_ble_eq_true rfl, Nat.le_of_ble_eq_true rfl, Nat.le_of_ble_eq_true rfl⟩ (j232 hfm S I G O (xj_r _) (xj_r _) (xj_r _)) (fun z1 h1 n1 c1 u1 hp => ?_)
  obtain ⟨e1, f1, dp1, ⟨D1, O1⟩, I1, A1⟩ := hp
  subst e1
  have eM1 := jM_d eM (by obtain ⟨_, _, _, _, _, _, q⟩ := D1; exact q)
  have X := jX_d j0 b1 b2 ⟨D1, O1⟩
  have N1 := jX_n X
  have hmn : xo_in 64 n1 := ⟨by omega, by omega⟩
  have x0 : xo 64 sr arr h1 0 = .inl (0, L, .inl xs) := (xo_ou (by omega)).trans (by obtain ⟨_, q, _⟩ := X; exact q)
  refine xe_hp eM1 ?_
  refine xe_s (f := (920, [(5, _), (4, _), (3, _), (2, _), (1, _), (0, _)], _, _)) xt_g348 rfl rfl rfl rfl rfl ?_
  refine xe_s (f := (921, _, _, _)) xt_g348 rfl rfl rfl rfl rfl ?_
  refine xe_s (f := (922, _, _, _)) xt_g348 rfl rfl rfl rfl rfl ?_
  refine xe_s (f := (924, _, _, _)) xt_g348 rfl rfl rfl rfl rfl ?_
  refine xe_s (f := (925, _, xi 1 :: _, _)) xt_g348 rfl rfl rfl rfl rfl ?_
  refine xe_iadd xt_g348 rfl (q := 926) rfl ?_
  refine xe_al (ok := xm_isN) (ty := .int) xt_g348 rfl (q := 927) rfl (fun _ _ => ⟨rfl, rfl, rfl, rfl⟩) (x0) rfl rfl (by omega) (by omega) (by omega) (by omega) ((Int32.ofInt_toInt _).symm) ?_
  refine xe_s (f := (928, _, _, _)) xt_g348 rfl rfl rfl rfl rfl ?_
  refine xe_s (f := (930, _, _, _)) xt_g348 rfl rfl rfl rfl rfl ?_
  refine xe_s (f := (931, _, xi 2 :: _, _)) xt_g348 rfl rfl rfl rfl rfl ?_
  refine xe_iadd xt_g348 rfl (q := 932) rfl ?_
  refine xe_al (ok := xm_isN) (ty := .int) xt_g348 rfl (q := 933) rfl (fun _ _ => ⟨rfl, rfl, rfl, rfl⟩) (x0) rfl rfl (by omega) (by omega) (by omega) (by omega) ((Int32.ofInt_toInt _).symm) ?_
  refine xe_s (f := (934, _, _, _)) xt_g348 rfl rfl rfl rfl rfl ?_
  refine xe_s (f := (936, _, _, _)) xt_g348 rfl rfl rfl rfl rfl ?_
  refine xe_s (f := (937, _, xi 3 :: _, _)) xt_g348 rfl rfl rfl rfl rfl ?_
  refine xe_iadd xt_g348 rfl (q := 938) rfl ?_
  refine xe_al (ok := xm_isN) (ty := .int) xt_g348 rfl (q := 939) rfl (fun _ _ => ⟨rfl, rfl, rfl, rfl⟩) (x0) rfl rfl (by omega) (by omega) (by omega) (by omega) ((Int32.ofInt_toInt _).symm) ?_
  refine xe_chI xt_g348 rfl (q := 942) rfl xk_12_139 rfl (by omega) xt_g335 (by decide) ⟨Nat.le_of_ble_eq_true rfl, Nat.le_of_ble_eq_true rfl, Nat.le_of_ble_eq_true rfl⟩ (xV_store fm hmn R (xj_r _) (xj_r _) (xj_r _)) (fun z2 s2 a2 hq => ?_)
  obtain ⟨e2, q2, R2⟩ := hq
  subst e2
  refine xe_s (f := (944, [(6, _), (5, _), (4, _), (3, _), (2, _), (1, _), (0, _)], _, _)) xt_g348 rfl rfl rfl rfl rfl ?_
  refine xe_s (f := (945, _, _, _)) xt_g348 rfl rfl rfl rfl rfl ?_
  refine xe_cvI xt_g348 rfl (q := 948) rfl xk_12_95 rfl (by omega) xt_g244 (by decide) ⟨Nat.le_of_ble_eq_true rfl, Nat.le_of_ble_eq_true rfl, Nat.le_of_ble_eq_true rfl⟩ (xv_thrown fm hmn) ?_
  rw [q2]
  refine xe_s (f := (950, _, _, _)) xt_g348 rfl rfl rfl rfl rfl ?_
  exact xe_same xt_g348 rfl (t := 955) rfl (l955 A1 ((xo_ou (by omega)).trans O1) N1 (K _ _ _ _ (jX_J X R2 I1)))
set_option maxRecDepth 100000 in
theorem l_stored (hfm : fm = .null ∨ ∃ j, fm = .ref j) (hL : L ≤ 2049) (i1 : 1 ≤ i) (i2 : i + 4 ≤ L) (J : jJ L xs k H n us) (K : ∀ (H' : xm_H) (n' c' us' : Nat), jJ L xs (k + 1) H' n' us' → xe fm 348 (1297, [(4, xi i), (3, .ref 107), (2, .ref 64), (1, .ref 44), (0, .ref 0)], [], (H', n', c', us')) Q) : xe fm 348 (982, [(4, xi i), (3, .ref 107), (2, .ref 64), (1, .ref 44), (0, .ref 0)], [], (H, n, c, us)) Q := by
  obtain ⟨kc, u, dp, j0, ⟨f, O⟩, ⟨w, s, p, ar, v, h, t, eH, S⟩, ⟨sr, arr, eM, R⟩, I, b1, b2⟩ := J
  subst eH
  have G := mG_rf R
  have W0 := S.1.1.1
  refine xe_s (f := (983, _, _, _)) xt_g348 rfl rfl rfl rfl rfl ?_
  refine xe_s (f := (984, _, _, _)) xt_g348 rfl rfl rfl rfl rfl ?_
  refine xe_s (f := (986, _, _, _)) xt_g348 rfl rfl rfl rfl rfl ?_
  refine xe_s (f := (987, _, xi 1 :: _, _)) xt_g348 rfl rfl rfl rfl rfl ?_
  refine xe_iadd xt_g348 rfl (q := 988) rfl ?_
  refine xe_al (ok := xm_isN) (ty := .int) xt_g348 rfl (q := 989) rfl (fun _ _ => ⟨rfl, rfl, rfl, rfl⟩) (j0) rfl rfl (by omega) (by omega) (by omega) (by omega) ((Int32.ofInt_toInt _).symm) ?_
  refine xe_s (f := (990, _, _, _)) xt_g348 rfl rfl rfl rfl rfl ?_
  refine xe_s (f := (992, _, _, _)) xt_g348 rfl rfl rfl rfl rfl ?_
  refine xe_s (f := (993, _, xi 2 :: _, _)) xt_g348 rfl rfl rfl rfl rfl ?_
  refine xe_iadd xt_g348 rfl (q := 994) rfl ?_
  refine xe_al (ok := xm_isN) (ty := .int) xt_g348 rfl (q := 995) rfl (fun _ _ => ⟨rfl, rfl, rfl, rfl⟩) (j0) rfl rfl (by omega) (by omega) (by omega) (by omega) ((Int32.ofInt_toInt _).symm) ?_
  refine xe_s (f := (996, _, _, _)) xt_g348 rfl rfl rfl rfl rfl ?_
  refine xe_cI xt_g348 rfl rfl rfl (q := 999) rfl (kc_S xk_12_140 (Nat.le_of_ble_eq_true rfl)) xt_g237 (by decide) ⟨Nat.le_of_ble_eq_true rfl, Nat.le_of_ble_eq_true rfl, Nat.le_of_ble_eq_true rfl⟩ (j237 hfm S I G O (xj_r _) (xj_r _)) (fun z1 h1 n1 c1 u1 hp => ?_)
  obtain ⟨e1, f1, dp1, ⟨D1, O1⟩, I1, A1⟩ := hp
  subst e1
  have eM1 := jM_d eM (by obtain ⟨_, _, _, _, _, _, q⟩ := D1; exact q)
  have X := jX_d j0 b1 b2 ⟨D1, O1⟩
  have N1 := jX_n X
  have hmn : xo_in 64 n1 := ⟨by omega, by omega⟩
  have x0 : xo 64 sr arr h1 0 = .inl (0, L, .inl xs) := (xo_ou (by omega)).trans (by obtain ⟨_, q, _⟩ := X; exact q)
  refine xe_hp eM1 ?_
  refine xe_s (f := (1001, [(5, _), (4, _), (3, _), (2, _), (1, _), (0, _)], _, _)) xt_g348 rfl rfl rfl rfl rfl ?_
  refine xe_s (f := (1002, _, _, _)) xt_g348 rfl rfl rfl rfl rfl ?_
  refine xe_s (f := (1003, _, _, _)) xt_g348 rfl rfl rfl rfl rfl ?_
  refine xe_s (f := (1005, _, _, _)) xt_g348 rfl rfl rfl rfl rfl ?_
  refine xe_s (f := (1006, _, xi 1 :: _, _)) xt_g348 rfl rfl rfl rfl rfl ?_
  refine xe_iadd xt_g348 rfl (q := 1007) rfl ?_
  refine xe_al (ok := xm_isN) (ty := .int) xt_g348 rfl (q := 1008) rfl (fun _ _ => ⟨rfl, rfl, rfl, rfl⟩) (x0) rfl rfl (by omega) (by omega) (by omega) (by omega) ((Int32.ofInt_toInt _).symm) ?_
  refine xe_s (f := (1009, _, _, _)) xt_g348 rfl rfl rfl rfl rfl ?_
  refine xe_s (f := (1011, _, _, _)) xt_g348 rfl rfl rfl rfl rfl ?_
  refine xe_s (f := (1012, _, xi 2 :: _, _)) xt_g348 rfl rfl rfl rfl rfl ?_
  refine xe_iadd xt_g348 rfl (q := 1013) rfl ?_
  refine xe_al (ok := xm_isN) (ty := .int) xt_g348 rfl (q := 1014) rfl (fun _ _ => ⟨rfl, rfl, rfl, rfl⟩) (x0) rfl rfl (by omega) (by omega) (by omega) (by omega) ((Int32.ofInt_toInt _).symm) ?_
  refine xe_chI xt_g348 rfl (q := 1017) rfl xk_12_142 rfl (by omega) xt_g337 (by decide) ⟨Nat.le_of_ble_eq_true rfl, Nat.le_of_ble_eq_true rfl, Nat.le_of_ble_eq_true rfl⟩ (xV_stored fm hmn R (xj_r _) (xj_r _)) (fun z2 s2 a2 hq => ?_)
  obtain ⟨e2, q2, R2⟩ := hq
  subst e2
  refine xe_s (f := (1019, [(6, _), (5, _), (4, _), (3, _), (2, _), (1, _), (0, _)], _, _)) xt_g348 rfl rfl rfl rfl rfl ?_
  refine xe_s (f := (1020, _, _, _)) xt_g348 rfl rfl rfl rfl rfl ?_
  refine xe_cvI xt_g348 rfl (q := 1023) rfl xk_12_95 rfl (by omega) xt_g244 (by decide) ⟨Nat.le_of_ble_eq_true rfl, Nat.le_of_ble_eq_true rfl, Nat.le_of_ble_eq_true rfl⟩ (xv_thrown fm hmn) ?_
  rw [q2]
  refine xe_s (f := (1025, _, _, _)) xt_g348 rfl rfl rfl rfl rfl ?_
  exact xe_same xt_g348 rfl (t := 1030) rfl (l1030 A1 ((xo_ou (by omega)).trans O1) N1 (K _ _ _ _ (jX_J X R2 I1)))
set_option maxRecDepth 100000 in
theorem l_post (hfm : fm = .null ∨ ∃ j, fm = .ref j) (hL : L ≤ 2049) (i1 : 1 ≤ i) (i2 : i + 4 ≤ L) (J : jJ L xs k H n us) (K : ∀ (H' : xm_H) (n' c' us' : Nat), jJ L xs (k + 1) H' n' us' → xe fm 348 (1297, [(4, xi i), (3, .ref 107), (2, .ref 64), (1, .ref 44), (0, .ref 0)], [], (H', n', c', us')) Q) : xe fm 348 (1050, [(4, xi i), (3, .ref 107), (2, .ref 64), (1, .ref 44), (0, .ref 0)], [], (H, n, c, us)) Q := by
  obtain ⟨kc, u, dp, j0, ⟨f, O⟩, ⟨w, s, p, ar, v, h, t, eH, S⟩, ⟨sr, arr, eM, R⟩, I, b1, b2⟩ := J
  subst eH
  have G := mG_rf R
  have W0 := S.1.1.1
  refine xe_s (f := (1051, _, _, _)) xt_g348 rfl rfl rfl rfl rfl ?_
  refine xe_s (f := (1052, _, _, _)) xt_g348 rfl rfl rfl rfl rfl ?_
  refine xe_s (f := (1054, _, _, _)) xt_g348 rfl rfl rfl rfl rfl ?_
  refine xe_s (f := (1055, _, xi 1 :: _, _)) xt_g348 rfl rfl rfl rfl rfl ?_
  refine xe_iadd xt_g348 rfl (q := 1056) rfl ?_
  refine xe_al (ok := xm_isN) (ty := .int) xt_g348 rfl (q := 1057) rfl (fun _ _ => ⟨rfl, rfl, rfl, rfl⟩) (j0) rfl rfl (by omega) (by omega) (by omega) (by omega) ((Int32.ofInt_toInt _).symm) ?_
  refine xe_s (f := (1058, _, _, _)) xt_g348 rfl rfl rfl rfl rfl ?_
  refine xe_s (f := (1060, _, _, _)) xt_g348 rfl rfl rfl rfl rfl ?_
  refine xe_s (f := (1061, _, xi 2 :: _, _)) xt_g348 rfl rfl rfl rfl rfl ?_
  refine xe_iadd xt_g348 rfl (q := 1062) rfl ?_
  refine xe_al (ok := xm_isN) (ty := .int) xt_g348 rfl (q := 1063) rfl (fun _ _ => ⟨rfl, rfl, rfl, rfl⟩) (j0) rfl rfl (by omega) (by omega) (by omega) (by omega) ((Int32.ofInt_toInt _).symm) ?_
  refine xe_s (f := (1064, _, _, _)) xt_g348 rfl rfl rfl rfl rfl ?_
  refine xe_s (f := (1066, _, _, _)) xt_g348 rfl rfl rfl rfl rfl ?_
  refine xe_s (f := (1067, _, xi 3 :: _, _)) xt_g348 rfl rfl rfl rfl rfl ?_
  refine xe_iadd xt_g348 rfl (q := 1068) rfl ?_
  refine xe_al (ok := xm_isN) (ty := .int) xt_g348 rfl (q := 1069) rfl (fun _ _ => ⟨rfl, rfl, rfl, rfl⟩) (j0) rfl rfl (by omega) (by omega) (by omega) (by omega) ((Int32.ofInt_toInt _).symm) ?_
  refine xe_s (f := (1070, _, _, _)) xt_g348 rfl rfl rfl rfl rfl ?_
  refine xe_cI xt_g348 rfl rfl rfl (q := 1073) rfl (kc_S xk_12_143 (Nat.le_of_ble_eq_true rfl)) xt_g240 (by decide) ⟨Nat.le_of_ble_eq_true rfl, Nat.le_of_ble_eq_true rfl, Nat.le_of_ble_eq_true rfl⟩ (j240 hfm S I G O (xj_r _) (xj_r _) (xj_r _)) (fun z1 h1 n1 c1 u1 hp => ?_)
  obtain ⟨e1, f1, dp1, ⟨D1, O1⟩, I1, A1⟩ := hp
  subst e1
  have eM1 := jM_d eM (by obtain ⟨_, _, _, _, _, _, q⟩ := D1; exact q)
  have X := jX_d j0 b1 b2 ⟨D1, O1⟩
  have N1 := jX_n X
  have hmn : xo_in 64 n1 := ⟨by omega, by omega⟩
  have x0 : xo 64 sr arr h1 0 = .inl (0, L, .inl xs) := (xo_ou (by omega)).trans (by obtain ⟨_, q, _⟩ := X; exact q)
  refine xe_hp eM1 ?_
  refine xe_s (f := (1075, [(5, _), (4, _), (3, _), (2, _), (1, _), (0, _)], _, _)) xt_g348 rfl rfl rfl rfl rfl ?_
  refine xe_s (f := (1076, _, _, _)) xt_g348 rfl rfl rfl rfl rfl ?_
  refine xe_s (f := (1077, _, _, _)) xt_g348 rfl rfl rfl rfl rfl ?_
  refine xe_s (f := (1079, _, _, _)) xt_g348 rfl rfl rfl rfl rfl ?_
  refine xe_s (f := (1080, _, xi 1 :: _, _)) xt_g348 rfl rfl rfl rfl rfl ?_
  refine xe_iadd xt_g348 rfl (q := 1081) rfl ?_
  refine xe_al (ok := xm_isN) (ty := .int) xt_g348 rfl (q := 1082) rfl (fun _ _ => ⟨rfl, rfl, rfl, rfl⟩) (x0) rfl rfl (by omega) (by omega) (by omega) (by omega) ((Int32.ofInt_toInt _).symm) ?_
  refine xe_s (f := (1083, _, _, _)) xt_g348 rfl rfl rfl rfl rfl ?_
  refine xe_s (f := (1085, _, _, _)) xt_g348 rfl rfl rfl rfl rfl ?_
  refine xe_s (f := (1086, _, xi 2 :: _, _)) xt_g348 rfl rfl rfl rfl rfl ?_
  refine xe_iadd xt_g348 rfl (q := 1087) rfl ?_
  refine xe_al (ok := xm_isN) (ty := .int) xt_g348 rfl (q := 1088) rfl (fun _ _ => ⟨rfl, rfl, rfl, rfl⟩) (x0) rfl rfl (by omega) (by omega) (by omega) (by omega) ((Int32.ofInt_toInt _).symm) ?_
  refine xe_s (f := (1089, _, _, _)) xt_g348 rfl rfl rfl rfl rfl ?_
  refine xe_s (f := (1091, _, _, _)) xt_g348 rfl rfl rfl rfl rfl ?_
  refine xe_s (f := (1092, _, xi 3 :: _, _)) xt_g348 rfl rfl rfl rfl rfl ?_
  refine xe_iadd xt_g348 rfl (q := 1093) rfl ?_
  refine xe_al (ok := xm_isN) (ty := .int) xt_g348 rfl (q := 1094) rfl (fun _ _ => ⟨rfl, rfl, rfl, rfl⟩) (x0) rfl rfl (by omega) (by omega) (by omega) (by omega) ((Int32.ofInt_toInt _).symm) ?_
  refine xe_chI xt_g348 rfl (q := 1097) rfl xk_12_145 rfl (by omega) xt_g338 (by decide) ⟨Nat.le_of_ble_eq_true rfl, Nat.le_of_ble_eq_true rfl, Nat.le_of_ble_eq_true rfl⟩ (xV_post fm hmn R (xj_r _) (xj_r _) (xj_r _)) (fun z2 s2 a2 hq => ?_)
  obtain ⟨e2, q2, R2⟩ := hq
  subst e2
  refine xe_s (f := (1099, [(6, _), (5, _), (4, _), (3, _), (2, _), (1, _), (0, _)], _, _)) xt_g348 rfl rfl rfl rfl rfl ?_
  refine xe_s (f := (1100, _, _, _)) xt_g348 rfl rfl rfl rfl rfl ?_
  refine xe_cvI xt_g348 rfl (q := 1103) rfl xk_12_95 rfl (by omega) xt_g244 (by decide) ⟨Nat.le_of_ble_eq_true rfl, Nat.le_of_ble_eq_true rfl, Nat.le_of_ble_eq_true rfl⟩ (xv_thrown fm hmn) ?_
  rw [q2]
  refine xe_s (f := (1105, _, _, _)) xt_g348 rfl rfl rfl rfl rfl ?_
  exact xe_same xt_g348 rfl (t := 1110) rfl (l1110 A1 ((xo_ou (by omega)).trans O1) N1 (K _ _ _ _ (jX_J X R2 I1)))
set_option maxRecDepth 100000 in
theorem l_bar (hfm : fm = .null ∨ ∃ j, fm = .ref j) (hL : L ≤ 2049) (i1 : 1 ≤ i) (i2 : i + 4 ≤ L) (J : jJ L xs k H n us) (K : ∀ (H' : xm_H) (n' c' us' : Nat), jJ L xs (k + 1) H' n' us' → xe fm 348 (1297, [(4, xi i), (3, .ref 107), (2, .ref 64), (1, .ref 44), (0, .ref 0)], [], (H', n', c', us')) Q) : xe fm 348 (1137, [(4, xi i), (3, .ref 107), (2, .ref 64), (1, .ref 44), (0, .ref 0)], [], (H, n, c, us)) Q := by
  obtain ⟨kc, u, dp, j0, ⟨f, O⟩, ⟨w, s, p, ar, v, h, t, eH, S⟩, ⟨sr, arr, eM, R⟩, I, b1, b2⟩ := J
  subst eH
  have G := mG_rf R
  have W0 := S.1.1.1
  refine xe_s (f := (1138, _, _, _)) xt_g348 rfl rfl rfl rfl rfl ?_
  refine xe_cI xt_g348 rfl rfl rfl (q := 1141) rfl (kc_V xk_12_146 rfl (ko_44) (by omega) rfl rfl) xt_g147 (by decide) ⟨Nat.le_of_ble_eq_true rfl, Nat.le_of_ble_eq_true rfl, Nat.le_of_ble_eq_true rfl⟩ (c147 S I G) (fun z1 h1 n1 c1 u1 hp => ?_)
  obtain ⟨e1, hp⟩ := hp
  subst e1
  obtain ⟨D1, O1⟩ := jD_cR W0 O hp (by decide) (by decide)
  have eM1 := jM_d eM (by obtain ⟨_, _, _, _, _, _, q⟩ := D1; exact q)
  have X := jX_d j0 b1 b2 ⟨D1, O1⟩
  have N1 := jX_n X
  have hmn : xo_in 64 n1 := ⟨by omega, by omega⟩
  have x0 : xo 64 sr arr h1 0 = .inl (0, L, .inl xs) := (xo_ou (by omega)).trans (by obtain ⟨_, q, _⟩ := X; exact q)
  refine xe_hp eM1 ?_
  refine xe_s (f := (1142, _, _, _)) xt_g348 rfl rfl rfl rfl rfl ?_
  refine xe_chI xt_g348 rfl (q := 1145) rfl xk_12_149 rfl (by omega) xt_g340 (by decide) ⟨Nat.le_of_ble_eq_true rfl, Nat.le_of_ble_eq_true rfl, Nat.le_of_ble_eq_true rfl⟩ (xV_bar fm hmn R) (fun z2 s2 a2 hq => ?_)
  obtain ⟨e2, q2, R2⟩ := hq
  subst e2
  exact xe_same xt_g348 rfl (t := 1297) rfl (K _ _ _ _ (jX_J X R2 (mI_bar I)))
set_option maxRecDepth 100000 in
theorem l_about (hfm : fm = .null ∨ ∃ j, fm = .ref j) (hL : L ≤ 2049) (i1 : 1 ≤ i) (i2 : i + 4 ≤ L) (J : jJ L xs k H n us) (K : ∀ (H' : xm_H) (n' c' us' : Nat), jJ L xs (k + 1) H' n' us' → xe fm 348 (1297, [(4, xi i), (3, .ref 107), (2, .ref 64), (1, .ref 44), (0, .ref 0)], [], (H', n', c', us')) Q) : xe fm 348 (1150, [(4, xi i), (3, .ref 107), (2, .ref 64), (1, .ref 44), (0, .ref 0)], [], (H, n, c, us)) Q := by
  obtain ⟨kc, u, dp, j0, ⟨f, O⟩, ⟨w, s, p, ar, v, h, t, eH, S⟩, ⟨sr, arr, eM, R⟩, I, b1, b2⟩ := J
  subst eH
  have G := mG_rf R
  have W0 := S.1.1.1
  refine xe_s (f := (1151, _, _, _)) xt_g348 rfl rfl rfl rfl rfl ?_
  refine xe_s (f := (1152, _, _, _)) xt_g348 rfl rfl rfl rfl rfl ?_
  refine xe_s (f := (1154, _, _, _)) xt_g348 rfl rfl rfl rfl rfl ?_
  refine xe_s (f := (1155, _, xi 1 :: _, _)) xt_g348 rfl rfl rfl rfl rfl ?_
  refine xe_iadd xt_g348 rfl (q := 1156) rfl ?_
  refine xe_al (ok := xm_isN) (ty := .int) xt_g348 rfl (q := 1157) rfl (fun _ _ => ⟨rfl, rfl, rfl, rfl⟩) (j0) rfl rfl (by omega) (by omega) (by omega) (by omega) ((Int32.ofInt_toInt _).symm) ?_
  refine xe_s (f := (1158, _, _, _)) xt_g348 rfl rfl rfl rfl rfl ?_
  refine xe_s (f := (1160, _, _, _)) xt_g348 rfl rfl rfl rfl rfl ?_
  refine xe_s (f := (1161, _, xi 2 :: _, _)) xt_g348 rfl rfl rfl rfl rfl ?_
  refine xe_iadd xt_g348 rfl (q := 1162) rfl ?_
  refine xe_al (ok := xm_isN) (ty := .int) xt_g348 rfl (q := 1163) rfl (fun _ _ => ⟨rfl, rfl, rfl, rfl⟩) (j0) rfl rfl (by omega) (by omega) (by omega) (by omega) ((Int32.ofInt_toInt _).symm) ?_
  refine xe_cR xt_g348 rfl rfl rfl (q := 1166) rfl (kc_V xk_12_150 rfl (ko_44) (by omega) rfl rfl) xt_g149 (by decide) ⟨Nat.le_of_ble_eq_true rfl, Nat.le_of_ble_eq_true rfl, Nat.le_of_ble_eq_true rfl⟩ (c149 S I G (xj_r _) (xj_r _)) ?_
  have X : jX L xs k (ko w s p ar v h) n us u dp f := jX_d j0 b1 b2 ⟨jD_0 S, O⟩
  have eM1 := eM
  have N1 := jX_n X
  have hmn : xo_in 64 n := ⟨by omega, by omega⟩
  have x0 : xo 64 sr arr (ko w s p ar v h) 0 = .inl (0, L, .inl xs) := (xo_ou (by omega)).trans (by obtain ⟨_, q, _⟩ := X; exact q)
  refine xe_hp eM1 ?_
  refine xe_s (f := (1167, _, _, _)) xt_g348 rfl rfl rfl rfl rfl ?_
  refine xe_s (f := (1168, _, _, _)) xt_g348 rfl rfl rfl rfl rfl ?_
  refine xe_s (f := (1170, _, _, _)) xt_g348 rfl rfl rfl rfl rfl ?_
  refine xe_s (f := (1171, _, xi 1 :: _, _)) xt_g348 rfl rfl rfl rfl rfl ?_
  refine xe_iadd xt_g348 rfl (q := 1172) rfl ?_
  refine xe_al (ok := xm_isN) (ty := .int) xt_g348 rfl (q := 1173) rfl (fun _ _ => ⟨rfl, rfl, rfl, rfl⟩) (x0) rfl rfl (by omega) (by omega) (by omega) (by omega) ((Int32.ofInt_toInt _).symm) ?_
  refine xe_s (f := (1174, _, _, _)) xt_g348 rfl rfl rfl rfl rfl ?_
  refine xe_s (f := (1176, _, _, _)) xt_g348 rfl rfl rfl rfl rfl ?_
  refine xe_s (f := (1177, _, xi 2 :: _, _)) xt_g348 rfl rfl rfl rfl rfl ?_
  refine xe_iadd xt_g348 rfl (q := 1178) rfl ?_
  refine xe_al (ok := xm_isN) (ty := .int) xt_g348 rfl (q := 1179) rfl (fun _ _ => ⟨rfl, rfl, rfl, rfl⟩) (x0) rfl rfl (by omega) (by omega) (by omega) (by omega) ((Int32.ofInt_toInt _).symm) ?_
  refine xe_chI xt_g348 rfl (q := 1182) rfl xk_12_153 rfl (by omega) xt_g341 (by decide) ⟨Nat.le_of_ble_eq_true rfl, Nat.le_of_ble_eq_true rfl, Nat.le_of_ble_eq_true rfl⟩ (xV_about fm hmn R (xj_r _) (xj_r _)) (fun z2 s2 a2 hq => ?_)
  obtain ⟨e2, q2, R2⟩ := hq
  subst e2
  exact xe_same xt_g348 rfl (t := 1297) rfl (K _ _ _ _ (jX_J X R2 (I)))
set_option maxRecDepth 100000 in
theorem l_message (hfm : fm = .null ∨ ∃ j, fm = .ref j) (hL : L ≤ 2049) (i1 : 1 ≤ i) (i2 : i + 4 ≤ L) (J : jJ L xs k H n us) (K : ∀ (H' : xm_H) (n' c' us' : Nat), jJ L xs (k + 1) H' n' us' → xe fm 348 (1297, [(4, xi i), (3, .ref 107), (2, .ref 64), (1, .ref 44), (0, .ref 0)], [], (H', n', c', us')) Q) : xe fm 348 (1187, [(4, xi i), (3, .ref 107), (2, .ref 64), (1, .ref 44), (0, .ref 0)], [], (H, n, c, us)) Q := by
  obtain ⟨kc, u, dp, j0, ⟨f, O⟩, ⟨w, s, p, ar, v, h, t, eH, S⟩, ⟨sr, arr, eM, R⟩, I, b1, b2⟩ := J
  subst eH
  have G := mG_rf R
  have W0 := S.1.1.1
  refine xe_s (f := (1188, _, _, _)) xt_g348 rfl rfl rfl rfl rfl ?_
  refine xe_s (f := (1189, _, _, _)) xt_g348 rfl rfl rfl rfl rfl ?_
  refine xe_s (f := (1191, _, _, _)) xt_g348 rfl rfl rfl rfl rfl ?_
  refine xe_s (f := (1192, _, xi 1 :: _, _)) xt_g348 rfl rfl rfl rfl rfl ?_
  refine xe_iadd xt_g348 rfl (q := 1193) rfl ?_
  refine xe_al (ok := xm_isN) (ty := .int) xt_g348 rfl (q := 1194) rfl (fun _ _ => ⟨rfl, rfl, rfl, rfl⟩) (j0) rfl rfl (by omega) (by omega) (by omega) (by omega) ((Int32.ofInt_toInt _).symm) ?_
  refine xe_s (f := (1195, _, _, _)) xt_g348 rfl rfl rfl rfl rfl ?_
  refine xe_s (f := (1197, _, _, _)) xt_g348 rfl rfl rfl rfl rfl ?_
  refine xe_s (f := (1198, _, xi 2 :: _, _)) xt_g348 rfl rfl rfl rfl rfl ?_
  refine xe_iadd xt_g348 rfl (q := 1199) rfl ?_
  refine xe_al (ok := xm_isN) (ty := .int) xt_g348 rfl (q := 1200) rfl (fun _ _ => ⟨rfl, rfl, rfl, rfl⟩) (j0) rfl rfl (by omega) (by omega) (by omega) (by omega) ((Int32.ofInt_toInt _).symm) ?_
  refine xe_cR xt_g348 rfl rfl rfl (q := 1203) rfl (kc_V xk_12_154 rfl (ko_44) (by omega) rfl rfl) xt_g155 (by decide) ⟨Nat.le_of_ble_eq_true rfl, Nat.le_of_ble_eq_true rfl, Nat.le_of_ble_eq_true rfl⟩ (c155 S (xj_r _) (xj_r _)) ?_
  have X : jX L xs k (ko w s p ar v h) n us u dp f := jX_d j0 b1 b2 ⟨jD_0 S, O⟩
  have eM1 := eM
  have N1 := jX_n X
  have hmn : xo_in 64 n := ⟨by omega, by omega⟩
  have x0 : xo 64 sr arr (ko w s p ar v h) 0 = .inl (0, L, .inl xs) := (xo_ou (by omega)).trans (by obtain ⟨_, q, _⟩ := X; exact q)
  refine xe_hp eM1 ?_
  refine xe_s (f := (1204, _, _, _)) xt_g348 rfl rfl rfl rfl rfl ?_
  refine xe_s (f := (1205, _, _, _)) xt_g348 rfl rfl rfl rfl rfl ?_
  refine xe_s (f := (1207, _, _, _)) xt_g348 rfl rfl rfl rfl rfl ?_
  refine xe_s (f := (1208, _, xi 1 :: _, _)) xt_g348 rfl rfl rfl rfl rfl ?_
  refine xe_iadd xt_g348 rfl (q := 1209) rfl ?_
  refine xe_al (ok := xm_isN) (ty := .int) xt_g348 rfl (q := 1210) rfl (fun _ _ => ⟨rfl, rfl, rfl, rfl⟩) (x0) rfl rfl (by omega) (by omega) (by omega) (by omega) ((Int32.ofInt_toInt _).symm) ?_
  refine xe_s (f := (1211, _, _, _)) xt_g348 rfl rfl rfl rfl rfl ?_
  refine xe_s (f := (1213, _, _, _)) xt_g348 rfl rfl rfl rfl rfl ?_
  refine xe_s (f := (1214, _, xi 2 :: _, _)) xt_g348 rfl rfl rfl rfl rfl ?_
  refine xe_iadd xt_g348 rfl (q := 1215) rfl ?_
  refine xe_al (ok := xm_isN) (ty := .int) xt_g348 rfl (q := 1216) rfl (fun _ _ => ⟨rfl, rfl, rfl, rfl⟩) (x0) rfl rfl (by omega) (by omega) (by omega) (by omega) ((Int32.ofInt_toInt _).symm) ?_
  refine xe_chI xt_g348 rfl (q := 1219) rfl xk_12_157 rfl (by omega) xt_g344 (by decide) ⟨Nat.le_of_ble_eq_true rfl, Nat.le_of_ble_eq_true rfl, Nat.le_of_ble_eq_true rfl⟩ (xV_message fm hmn R (xj_r _) (xj_r _)) (fun z2 s2 a2 hq => ?_)
  obtain ⟨e2, q2, R2⟩ := hq
  subst e2
  exact xe_same xt_g348 rfl (t := 1297) rfl (K _ _ _ _ (jX_J X R2 (I)))
set_option maxRecDepth 100000 in
theorem l_letter (hfm : fm = .null ∨ ∃ j, fm = .ref j) (hL : L ≤ 2049) (i1 : 1 ≤ i) (i2 : i + 4 ≤ L) (J : jJ L xs k H n us) (K : ∀ (H' : xm_H) (n' c' us' : Nat), jJ L xs (k + 1) H' n' us' → xe fm 348 (1297, [(4, xi i), (3, .ref 107), (2, .ref 64), (1, .ref 44), (0, .ref 0)], [], (H', n', c', us')) Q) : xe fm 348 (1224, [(4, xi i), (3, .ref 107), (2, .ref 64), (1, .ref 44), (0, .ref 0)], [], (H, n, c, us)) Q := by
  obtain ⟨kc, u, dp, j0, ⟨f, O⟩, ⟨w, s, p, ar, v, h, t, eH, S⟩, ⟨sr, arr, eM, R⟩, I, b1, b2⟩ := J
  subst eH
  have G := mG_rf R
  have W0 := S.1.1.1
  refine xe_s (f := (1225, _, _, _)) xt_g348 rfl rfl rfl rfl rfl ?_
  refine xe_s (f := (1226, _, _, _)) xt_g348 rfl rfl rfl rfl rfl ?_
  refine xe_s (f := (1228, _, _, _)) xt_g348 rfl rfl rfl rfl rfl ?_
  refine xe_s (f := (1229, _, xi 1 :: _, _)) xt_g348 rfl rfl rfl rfl rfl ?_
  refine xe_iadd xt_g348 rfl (q := 1230) rfl ?_
  refine xe_al (ok := xm_isN) (ty := .int) xt_g348 rfl (q := 1231) rfl (fun _ _ => ⟨rfl, rfl, rfl, rfl⟩) (j0) rfl rfl (by omega) (by omega) (by omega) (by omega) ((Int32.ofInt_toInt _).symm) ?_
  refine xe_s (f := (1232, _, _, _)) xt_g348 rfl rfl rfl rfl rfl ?_
  refine xe_s (f := (1234, _, _, _)) xt_g348 rfl rfl rfl rfl rfl ?_
  refine xe_s (f := (1235, _, xi 2 :: _, _)) xt_g348 rfl rfl rfl rfl rfl ?_
  refine xe_iadd xt_g348 rfl (q := 1236) rfl ?_
  refine xe_al (ok := xm_isN) (ty := .int) xt_g348 rfl (q := 1237) rfl (fun _ _ => ⟨rfl, rfl, rfl, rfl⟩) (j0) rfl rfl (by omega) (by omega) (by omega) (by omega) ((Int32.ofInt_toInt _).symm) ?_
  refine xe_cR xt_g348 rfl rfl rfl (q := 1240) rfl (kc_V xk_12_158 rfl (ko_44) (by omega) rfl rfl) xt_g157 (by decide) ⟨Nat.le_of_ble_eq_true rfl, Nat.le_of_ble_eq_true rfl, Nat.le_of_ble_eq_true rfl⟩ (c157 hfm S (xj_r _) (xj_r _)) ?_
  have X : jX L xs k (ko w s p ar v h) n us u dp f := jX_d j0 b1 b2 ⟨jD_0 S, O⟩
  have eM1 := eM
  have N1 := jX_n X
  have hmn : xo_in 64 n := ⟨by omega, by omega⟩
  have x0 : xo 64 sr arr (ko w s p ar v h) 0 = .inl (0, L, .inl xs) := (xo_ou (by omega)).trans (by obtain ⟨_, q, _⟩ := X; exact q)
  refine xe_hp eM1 ?_
  refine xe_s (f := (1241, _, _, _)) xt_g348 rfl rfl rfl rfl rfl ?_
  refine xe_s (f := (1242, _, _, _)) xt_g348 rfl rfl rfl rfl rfl ?_
  refine xe_s (f := (1244, _, _, _)) xt_g348 rfl rfl rfl rfl rfl ?_
  refine xe_s (f := (1245, _, xi 1 :: _, _)) xt_g348 rfl rfl rfl rfl rfl ?_
  refine xe_iadd xt_g348 rfl (q := 1246) rfl ?_
  refine xe_al (ok := xm_isN) (ty := .int) xt_g348 rfl (q := 1247) rfl (fun _ _ => ⟨rfl, rfl, rfl, rfl⟩) (x0) rfl rfl (by omega) (by omega) (by omega) (by omega) ((Int32.ofInt_toInt _).symm) ?_
  refine xe_s (f := (1248, _, _, _)) xt_g348 rfl rfl rfl rfl rfl ?_
  refine xe_s (f := (1250, _, _, _)) xt_g348 rfl rfl rfl rfl rfl ?_
  refine xe_s (f := (1251, _, xi 2 :: _, _)) xt_g348 rfl rfl rfl rfl rfl ?_
  refine xe_iadd xt_g348 rfl (q := 1252) rfl ?_
  refine xe_al (ok := xm_isN) (ty := .int) xt_g348 rfl (q := 1253) rfl (fun _ _ => ⟨rfl, rfl, rfl, rfl⟩) (x0) rfl rfl (by omega) (by omega) (by omega) (by omega) ((Int32.ofInt_toInt _).symm) ?_
  refine xe_chI xt_g348 rfl (q := 1256) rfl xk_12_161 rfl (by omega) xt_g345 (by decide) ⟨Nat.le_of_ble_eq_true rfl, Nat.le_of_ble_eq_true rfl, Nat.le_of_ble_eq_true rfl⟩ (xV_letter fm hmn R (xj_r _) (xj_r _)) (fun z2 s2 a2 hq => ?_)
  obtain ⟨e2, q2, R2⟩ := hq
  subst e2
  exact xe_same xt_g348 rfl (t := 1297) rfl (K _ _ _ _ (jX_J X R2 (I)))
set_option maxRecDepth 100000 in
theorem l_clear (hfm : fm = .null ∨ ∃ j, fm = .ref j) (hL : L ≤ 2049) (i1 : 1 ≤ i) (i2 : i + 4 ≤ L) (J : jJ L xs k H n us) (K : ∀ (H' : xm_H) (n' c' us' : Nat), jJ L xs (k + 1) H' n' us' → xe fm 348 (1297, [(4, xi i), (3, .ref 107), (2, .ref 64), (1, .ref 44), (0, .ref 0)], [], (H', n', c', us')) Q) : xe fm 348 (1261, [(4, xi i), (3, .ref 107), (2, .ref 64), (1, .ref 44), (0, .ref 0)], [], (H, n, c, us)) Q := by
  obtain ⟨kc, u, dp, j0, ⟨f, O⟩, ⟨w, s, p, ar, v, h, t, eH, S⟩, ⟨sr, arr, eM, R⟩, I, b1, b2⟩ := J
  subst eH
  have G := mG_rf R
  have W0 := S.1.1.1
  refine xe_s (f := (1262, _, _, _)) xt_g348 rfl rfl rfl rfl rfl ?_
  refine xe_cN xt_g348 rfl rfl rfl (q := 1265) rfl (kc_V xk_12_162 rfl (ko_44) (by omega) rfl rfl) xt_g159 (by decide) ⟨Nat.le_of_ble_eq_true rfl, Nat.le_of_ble_eq_true rfl, Nat.le_of_ble_eq_true rfl⟩ (c159 S) (fun h1 n1 c1 u1 hp => ?_)
  obtain ⟨D1, O1⟩ := jD_cR W0 O hp (by decide) (by decide)
  have eM1 := jM_d eM (by obtain ⟨_, _, _, _, _, _, q⟩ := D1; exact q)
  have X := jX_d j0 b1 b2 ⟨D1, O1⟩
  have N1 := jX_n X
  have hmn : xo_in 64 n1 := ⟨by omega, by omega⟩
  have x0 : xo 64 sr arr h1 0 = .inl (0, L, .inl xs) := (xo_ou (by omega)).trans (by obtain ⟨_, q, _⟩ := X; exact q)
  refine xe_hp eM1 ?_
  refine xe_s (f := (1266, _, _, _)) xt_g348 rfl rfl rfl rfl rfl ?_
  refine xe_chV xt_g348 rfl (q := 1269) rfl xk_12_165 rfl (by omega) xt_g346 (by decide) ⟨Nat.le_of_ble_eq_true rfl, Nat.le_of_ble_eq_true rfl, Nat.le_of_ble_eq_true rfl⟩ (xU_clear fm hmn R) (fun s2 a2 hq => ?_)
  refine xe_s (f := (1297, _, _, _)) xt_g348 rfl rfl rfl rfl rfl ?_
  exact K _ _ _ _ (jX_J X hq.2 (mI_clear I))
set_option maxRecDepth 100000 in
theorem l_shown (hfm : fm = .null ∨ ∃ j, fm = .ref j) (hL : L ≤ 2049) (i1 : 1 ≤ i) (i2 : i + 4 ≤ L) (J : jJ L xs k H n us) (K : ∀ (H' : xm_H) (n' c' us' : Nat), jJ L xs (k + 1) H' n' us' → xe fm 348 (1297, [(4, xi i), (3, .ref 107), (2, .ref 64), (1, .ref 44), (0, .ref 0)], [], (H', n', c', us')) Q) : xe fm 348 (1272, [(4, xi i), (3, .ref 107), (2, .ref 64), (1, .ref 44), (0, .ref 0)], [], (H, n, c, us)) Q := by
  obtain ⟨kc, u, dp, j0, ⟨f, O⟩, ⟨w, s, p, ar, v, h, t, eH, S⟩, ⟨sr, arr, eM, R⟩, I, b1, b2⟩ := J
  subst eH
  have G := mG_rf R
  have W0 := S.1.1.1
  refine xe_s (f := (1273, _, _, _)) xt_g348 rfl rfl rfl rfl rfl ?_
  refine xe_s (f := (1274, _, _, _)) xt_g348 rfl rfl rfl rfl rfl ?_
  refine xe_s (f := (1276, _, _, _)) xt_g348 rfl rfl rfl rfl rfl ?_
  refine xe_s (f := (1277, _, xi 1 :: _, _)) xt_g348 rfl rfl rfl rfl rfl ?_
  refine xe_iadd xt_g348 rfl (q := 1278) rfl ?_
  refine xe_al (ok := xm_isN) (ty := .int) xt_g348 rfl (q := 1279) rfl (fun _ _ => ⟨rfl, rfl, rfl, rfl⟩) (j0) rfl rfl (by omega) (by omega) (by omega) (by omega) ((Int32.ofInt_toInt _).symm) ?_
  refine xe_cR xt_g348 rfl rfl rfl (q := 1282) rfl (kc_V xk_12_166 rfl (ko_44) (by omega) rfl rfl) xt_g160 (by decide) ⟨Nat.le_of_ble_eq_true rfl, Nat.le_of_ble_eq_true rfl, Nat.le_of_ble_eq_true rfl⟩ (c160 hfm S (xj_r _)) ?_
  have X : jX L xs k (ko w s p ar v h) n us u dp f := jX_d j0 b1 b2 ⟨jD_0 S, O⟩
  have eM1 := eM
  have N1 := jX_n X
  have hmn : xo_in 64 n := ⟨by omega, by omega⟩
  have x0 : xo 64 sr arr (ko w s p ar v h) 0 = .inl (0, L, .inl xs) := (xo_ou (by omega)).trans (by obtain ⟨_, q, _⟩ := X; exact q)
  refine xe_hp eM1 ?_
  refine xe_s (f := (1283, _, _, _)) xt_g348 rfl rfl rfl rfl rfl ?_
  refine xe_s (f := (1284, _, _, _)) xt_g348 rfl rfl rfl rfl rfl ?_
  refine xe_s (f := (1286, _, _, _)) xt_g348 rfl rfl rfl rfl rfl ?_
  refine xe_s (f := (1287, _, xi 1 :: _, _)) xt_g348 rfl rfl rfl rfl rfl ?_
  refine xe_iadd xt_g348 rfl (q := 1288) rfl ?_
  refine xe_al (ok := xm_isN) (ty := .int) xt_g348 rfl (q := 1289) rfl (fun _ _ => ⟨rfl, rfl, rfl, rfl⟩) (x0) rfl rfl (by omega) (by omega) (by omega) (by omega) ((Int32.ofInt_toInt _).symm) ?_
  refine xe_chI xt_g348 rfl (q := 1292) rfl xk_12_169 rfl (by omega) xt_g347 (by decide) ⟨Nat.le_of_ble_eq_true rfl, Nat.le_of_ble_eq_true rfl, Nat.le_of_ble_eq_true rfl⟩ (xV_shown fm hmn R (xj_r _)) (fun z2 s2 a2 hq => ?_)
  obtain ⟨e2, q2, R2⟩ := hq
  subst e2
  exact xe_same xt_g348 rfl (t := 1297) rfl (K _ _ _ _ (jX_J X R2 (I)))
end XC6
