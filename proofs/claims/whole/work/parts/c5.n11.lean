/-! the law's wrappers: a call of the class, what it answers or that it throws -/
/-- of a call that answers nothing -/
def jV (H : xm_H) (n : Nat) (kc : Nat → Nat) (ok : Bool) (u2 : mu_T) (q : Int) (h' : xm_H) (n' u' : Nat) : Prop := q = xb (!ok) ∧ ∃ f' dp2, (jD 5190 869 H n kc h' n' u' u2 dp2 ∧ jO h' f') ∧ mI u2 dp2
/-- of one that answers x -/
def jW (H : xm_H) (n : Nat) (kc : Nat → Nat) (ok : Bool) (u2 : mu_T) (x : Int64) (q : Int) (h' : xm_H) (n' u' : Nat) : Prop := q = xb (!ok) ∧ ∃ f' dp2, (jD 5190 869 H n kc h' n' u' u2 dp2 ∧ jO h' f') ∧ mI u2 dp2 ∧ (ok = true → f' 0 = x)
def lo (z : Int) : Int64 := if Int32.ofInt z = 0 then Int64.ofInt 0 else Int64.ofInt 1
section XC5
variable {fm : Value} {w : kW} {s : Nat → Int} {p : Nat → Nat} {ar : Nat → Nat → Option Nat} {v : Nat → Int} {h h' : xm_H} {n n' u' B C : Nat} {t : Nat → List Int} {kc : Nat → Nat} {u u2 : mu_T} {dp dp2 : Nat → Nat} {f : Nat → Int64}
theorem jV_t (W0 : 108 ≤ n) (O : jO (ko w s p ar v h) f) (R : cR B C h n kc h' n' u' u2 dp2) (I : mI u2 dp2) (h1 : B ≤ 5190) (h2 : C ≤ 869) : jV (ko w s p ar v h) n kc true u2 0 h' n' (0 + u') := ⟨rfl, f, dp2, by rw [Nat.zero_add]; exact jD_cR W0 O R h1 h2, I⟩
theorem jV_f (W0 : 108 ≤ n) (O : jO (ko w s p ar v h) f) (R : cR B C h n kc h' n' u' u2 dp2) (I : mI u2 dp2) (h1 : B ≤ 5190) (h2 : C ≤ 869) : jV (ko w s p ar v h) n kc false u2 1 h' n' (0 + u') := ⟨rfl, f, dp2, by rw [Nat.zero_add]; exact jD_cR W0 O R h1 h2, I⟩
theorem jW_f {x : Int64} (W0 : 108 ≤ n) (O : jO (ko w s p ar v h) f) (R : cR B C h n kc h' n' u' u2 dp2) (I : mI u2 dp2) (h1 : B ≤ 5190) (h2 : C ≤ 869) : jW (ko w s p ar v h) n kc false u2 x 1 h' n' (0 + u') := ⟨rfl, f, dp2, by rw [Nat.zero_add]; exact jD_cR W0 O R h1 h2, I, fun e => by cases e⟩
theorem jW_t {x y : Int64} (D : jD 5190 869 (ko w s p ar v h) n kc h' n' u' u2 dp2) (I : mI u2 dp2) (e : x = y) : jW (ko w s p ar v h) n kc true u2 y 0 (va_up h' 107 (.inl (4, 1, .inr (.inl (vp_updL f 0 x))))) n' u' := ⟨rfl, vp_updL f 0 x, dp2, jD_out D, I, fun _ => e⟩
theorem j162 (hfm : fm = .null ∨ ∃ j, fm = .ref j) (S : cS w s p ar v h n t kc u dp) (I : mI u dp) (G : mG u) (O : jO (ko w s p ar v h) f) {a : Int} (ha : xr a) : xI fm 162 (ko w s p ar v h) n [.ref 44, xi a] (jV (ko w s p ar v h) n kc (mu_ht u a) (mu_close u a)) := by
  have W0 := S.1.1.1
  unfold xI
  cases e : mu_ht u a with
  | true =>
    refine xe_s (f := (1, _, _, _)) xt_g162 rfl rfl rfl rfl rfl ?_
    refine xe_s (f := (2, _, _, _)) xt_g162 rfl rfl rfl rfl rfl ?_
    refine xe_cN xt_g162 rfl rfl rfl (q := 5) rfl (kc_V xk_12_7 rfl (ko_44) (by omega) rfl rfl) xt_g163 (by decide) ⟨Nat.le_of_ble_eq_true rfl, Nat.le_of_ble_eq_true rfl, Nat.le_of_ble_eq_true rfl⟩ (c163 S I G e) (fun h1 n1 c1 u1 hp => ?_)
    refine xe_s (f := (11, _, _, _)) xt_g162 rfl rfl rfl rfl rfl ?_
    refine xe_s (f := (12, _, xi 0 :: _, _)) xt_g162 rfl rfl rfl rfl rfl ?_
    refine xe_iret xt_g162 rfl rfl xi_int.1 ?_
    try dsimp only
    exact ⟨0, rfl, jV_t W0 O hp (mI_close I e) (by decide) (by decide)⟩
  | false =>
    refine xe_s (f := (1, _, _, _)) xt_g162 rfl rfl rfl rfl rfl ?_
    refine xe_s (f := (2, _, _, _)) xt_g162 rfl rfl rfl rfl rfl ?_
    refine xe_cY xt_g162 rfl rfl rfl (q := 5) rfl (kc_V xk_12_7 rfl (ko_44) (by omega) rfl rfl) xt_g163 (by decide) ⟨Nat.le_of_ble_eq_true rfl, Nat.le_of_ble_eq_true rfl, Nat.le_of_ble_eq_true rfl⟩ (xY_X S (c163x S ha e)) rfl (by omega) rfl (by decide) (fun x1 h1 n1 c1 u1 hp => ?_)
    refine xe_s (f := (9, [(2, _), (0, _), (1, _)], _, _)) xt_g162 rfl rfl rfl rfl rfl ?_
    refine xe_s (f := (10, _, xi 1 :: _, _)) xt_g162 rfl rfl rfl rfl rfl ?_
    refine xe_iret xt_g162 rfl rfl xi_int.1 ?_
    try dsimp only
    rw [x_close e]
    exact ⟨1, rfl, jV_f W0 O hp (I) (by decide) (by decide)⟩
theorem j169 (hfm : fm = .null ∨ ∃ j, fm = .ref j) (S : cS w s p ar v h n t kc u dp) (I : mI u dp) (G : mG u) (O : jO (ko w s p ar v h) f) {a : Int} (ha : xr a) : xI fm 169 (ko w s p ar v h) n [.ref 44, xi a] (jV (ko w s p ar v h) n kc (mu_ht u a) (if mu_ht u a = true then mu_sfo u a else u)) := by
  have W0 := S.1.1.1
  unfold xI
  cases e : mu_ht u a with
  | true =>
    rw [if_pos rfl]
    refine xe_s (f := (1, _, _, _)) xt_g169 rfl rfl rfl rfl rfl ?_
    refine xe_s (f := (2, _, _, _)) xt_g169 rfl rfl rfl rfl rfl ?_
    refine xe_cN xt_g169 rfl rfl rfl (q := 5) rfl (kc_V xk_12_15 rfl (ko_44) (by omega) rfl rfl) xt_g170 (by decide) ⟨Nat.le_of_ble_eq_true rfl, Nat.le_of_ble_eq_true rfl, Nat.le_of_ble_eq_true rfl⟩ (c170 S I e) (fun h1 n1 c1 u1 hp => ?_)
    refine xe_s (f := (11, _, _, _)) xt_g169 rfl rfl rfl rfl rfl ?_
    refine xe_s (f := (12, _, xi 0 :: _, _)) xt_g169 rfl rfl rfl rfl rfl ?_
    refine xe_iret xt_g169 rfl rfl xi_int.1 ?_
    try dsimp only
    exact ⟨0, rfl, jV_t W0 O hp (mI_focus I e) (by decide) (by decide)⟩
  | false =>
    rw [if_neg (by decide)]
    refine xe_s (f := (1, _, _, _)) xt_g169 rfl rfl rfl rfl rfl ?_
    refine xe_s (f := (2, _, _, _)) xt_g169 rfl rfl rfl rfl rfl ?_
    refine xe_cY xt_g169 rfl rfl rfl (q := 5) rfl (kc_V xk_12_15 rfl (ko_44) (by omega) rfl rfl) xt_g170 (by decide) ⟨Nat.le_of_ble_eq_true rfl, Nat.le_of_ble_eq_true rfl, Nat.le_of_ble_eq_true rfl⟩ (xY_X S (c170x S ha e)) rfl (by omega) rfl (by decide) (fun x1 h1 n1 c1 u1 hp => ?_)
    refine xe_s (f := (9, [(2, _), (0, _), (1, _)], _, _)) xt_g169 rfl rfl rfl rfl rfl ?_
    refine xe_s (f := (10, _, xi 1 :: _, _)) xt_g169 rfl rfl rfl rfl rfl ?_
    refine xe_iret xt_g169 rfl rfl xi_int.1 ?_
    try dsimp only
    exact ⟨1, rfl, jV_f W0 O hp (I) (by decide) (by decide)⟩
theorem j181 (hfm : fm = .null ∨ ∃ j, fm = .ref j) (S : cS w s p ar v h n t kc u dp) (I : mI u dp) (G : mG u) (O : jO (ko w s p ar v h) f) {a : Int} (ha : xr a) : xI fm 181 (ko w s p ar v h) n [.ref 44, xi a] (jV (ko w s p ar v h) n kc (mu_ir u a) (mu_answer u a)) := by
  have W0 := S.1.1.1
  unfold xI
  cases e : mu_ir u a with
  | true =>
    refine xe_s (f := (1, _, _, _)) xt_g181 rfl rfl rfl rfl rfl ?_
    refine xe_s (f := (2, _, _, _)) xt_g181 rfl rfl rfl rfl rfl ?_
    refine xe_cN xt_g181 rfl rfl rfl (q := 5) rfl (kc_V xk_12_30 rfl (ko_44) (by omega) rfl rfl) xt_g182 (by decide) ⟨Nat.le_of_ble_eq_true rfl, Nat.le_of_ble_eq_true rfl, Nat.le_of_ble_eq_true rfl⟩ (c182 hfm S I G e) (fun h1 n1 c1 u1 hp => ?_)
    refine xe_s (f := (11, _, _, _)) xt_g181 rfl rfl rfl rfl rfl ?_
    refine xe_s (f := (12, _, xi 0 :: _, _)) xt_g181 rfl rfl rfl rfl rfl ?_
    refine xe_iret xt_g181 rfl rfl xi_int.1 ?_
    try dsimp only
    exact ⟨0, rfl, jV_t W0 O hp (mI_answer I) (by decide) (by decide)⟩
  | false =>
    refine xe_s (f := (1, _, _, _)) xt_g181 rfl rfl rfl rfl rfl ?_
    refine xe_s (f := (2, _, _, _)) xt_g181 rfl rfl rfl rfl rfl ?_
    refine xe_cY xt_g181 rfl rfl rfl (q := 5) rfl (kc_V xk_12_30 rfl (ko_44) (by omega) rfl rfl) xt_g182 (by decide) ⟨Nat.le_of_ble_eq_true rfl, Nat.le_of_ble_eq_true rfl, Nat.le_of_ble_eq_true rfl⟩ (c182x S G ha e) rfl (by omega) rfl (by decide) (fun x1 h1 n1 c1 u1 hp => ?_)
    refine xe_s (f := (9, [(2, _), (0, _), (1, _)], _, _)) xt_g181 rfl rfl rfl rfl rfl ?_
    refine xe_s (f := (10, _, xi 1 :: _, _)) xt_g181 rfl rfl rfl rfl rfl ?_
    refine xe_iret xt_g181 rfl rfl xi_int.1 ?_
    try dsimp only
    rw [x_answer e]
    exact ⟨1, rfl, jV_f W0 O hp (mI_sln I) (by decide) (by decide)⟩
theorem j186 (hfm : fm = .null ∨ ∃ j, fm = .ref j) (S : cS w s p ar v h n t kc u dp) (I : mI u dp) (G : mG u) (O : jO (ko w s p ar v h) f) {a : Int} (ha : xr a) : xI fm 186 (ko w s p ar v h) n [.ref 44, xi a] (jV (ko w s p ar v h) n kc (mu_ir u a) (mu_set u a)) := by
  have W0 := S.1.1.1
  unfold xI
  cases e : mu_ir u a with
  | true =>
    refine xe_s (f := (1, _, _, _)) xt_g186 rfl rfl rfl rfl rfl ?_
    refine xe_s (f := (2, _, _, _)) xt_g186 rfl rfl rfl rfl rfl ?_
    refine xe_cN xt_g186 rfl rfl rfl (q := 5) rfl (kc_V xk_12_33 rfl (ko_44) (by omega) rfl rfl) xt_g187 (by decide) ⟨Nat.le_of_ble_eq_true rfl, Nat.le_of_ble_eq_true rfl, Nat.le_of_ble_eq_true rfl⟩ (c187 hfm S G e) (fun h1 n1 c1 u1 hp => ?_)
    refine xe_s (f := (11, _, _, _)) xt_g186 rfl rfl rfl rfl rfl ?_
    refine xe_s (f := (12, _, xi 0 :: _, _)) xt_g186 rfl rfl rfl rfl rfl ?_
    refine xe_iret xt_g186 rfl rfl xi_int.1 ?_
    try dsimp only
    exact ⟨0, rfl, jV_t W0 O hp (mI_set I) (by decide) (by decide)⟩
  | false =>
    refine xe_s (f := (1, _, _, _)) xt_g186 rfl rfl rfl rfl rfl ?_
    refine xe_s (f := (2, _, _, _)) xt_g186 rfl rfl rfl rfl rfl ?_
    refine xe_cY xt_g186 rfl rfl rfl (q := 5) rfl (kc_V xk_12_33 rfl (ko_44) (by omega) rfl rfl) xt_g187 (by decide) ⟨Nat.le_of_ble_eq_true rfl, Nat.le_of_ble_eq_true rfl, Nat.le_of_ble_eq_true rfl⟩ (c187x S G ha e) rfl (by omega) rfl (by decide) (fun x1 h1 n1 c1 u1 hp => ?_)
    refine xe_s (f := (9, [(2, _), (0, _), (1, _)], _, _)) xt_g186 rfl rfl rfl rfl rfl ?_
    refine xe_s (f := (10, _, xi 1 :: _, _)) xt_g186 rfl rfl rfl rfl rfl ?_
    refine xe_iret xt_g186 rfl rfl xi_int.1 ?_
    try dsimp only
    rw [x_set e]
    exact ⟨1, rfl, jV_f W0 O hp (mI_sln I) (by decide) (by decide)⟩
theorem j221 (hfm : fm = .null ∨ ∃ j, fm = .ref j) (S : cS w s p ar v h n t kc u dp) (I : mI u dp) (G : mG u) (O : jO (ko w s p ar v h) f) {a : Int} {wi : Bool} (ha : xr a) : xI fm 221 (ko w s p ar v h) n [.ref 44, xi a, xi (xb wi)] (jV (ko w s p ar v h) n kc (mu_ir u a) (mu_leave u a wi)) := by
  have W0 := S.1.1.1
  unfold xI
  cases e : mu_ir u a with
  | true =>
    refine xe_s (f := (1, _, _, _)) xt_g221 rfl rfl rfl rfl rfl ?_
    refine xe_s (f := (2, _, _, _)) xt_g221 rfl rfl rfl rfl rfl ?_
    refine xe_s (f := (3, _, _, _)) xt_g221 rfl rfl rfl rfl rfl ?_
    refine xe_cN xt_g221 rfl rfl rfl (q := 6) rfl (kc_V xk_12_36 rfl (ko_44) (by omega) rfl rfl) xt_g222 (by decide) ⟨Nat.le_of_ble_eq_true rfl, Nat.le_of_ble_eq_true rfl, Nat.le_of_ble_eq_true rfl⟩ (c222 hfm S G e) (fun h1 n1 c1 u1 hp => ?_)
    refine xe_s (f := (12, _, _, _)) xt_g221 rfl rfl rfl rfl rfl ?_
    refine xe_s (f := (13, _, xi 0 :: _, _)) xt_g221 rfl rfl rfl rfl rfl ?_
    refine xe_iret xt_g221 rfl rfl xi_int.1 ?_
    try dsimp only
    exact ⟨0, rfl, jV_t W0 O hp (mI_leave I) (by decide) (by decide)⟩
  | false =>
    refine xe_s (f := (1, _, _, _)) xt_g221 rfl rfl rfl rfl rfl ?_
    refine xe_s (f := (2, _, _, _)) xt_g221 rfl rfl rfl rfl rfl ?_
    refine xe_s (f := (3, _, _, _)) xt_g221 rfl rfl rfl rfl rfl ?_
    refine xe_cY xt_g221 rfl rfl rfl (q := 6) rfl (kc_V xk_12_36 rfl (ko_44) (by omega) rfl rfl) xt_g222 (by decide) ⟨Nat.le_of_ble_eq_true rfl, Nat.le_of_ble_eq_true rfl, Nat.le_of_ble_eq_true rfl⟩ (c222x S G ha e) rfl (by omega) rfl (by decide) (fun x1 h1 n1 c1 u1 hp => ?_)
    refine xe_s (f := (10, [(3, _), (0, _), (1, _), (2, _)], _, _)) xt_g221 rfl rfl rfl rfl rfl ?_
    refine xe_s (f := (11, _, xi 1 :: _, _)) xt_g221 rfl rfl rfl rfl rfl ?_
    refine xe_iret xt_g221 rfl rfl xi_int.1 ?_
    try dsimp only
    rw [x_leave e]
    exact ⟨1, rfl, jV_f W0 O hp (mI_sln I) (by decide) (by decide)⟩
theorem j171 (hfm : fm = .null ∨ ∃ j, fm = .ref j) (S : cS w s p ar v h n t kc u dp) (I : mI u dp) (G : mG u) (O : jO (ko w s p ar v h) f) {a : Int} (ha : xr a) : xI fm 171 (ko w s p ar v h) n [.ref 44, xi a, .ref 107] (jW (ko w s p ar v h) n kc (mu_if u a) ((mu_child u a).2) ((Int32.ofInt (mu_child u a).1).toInt64)) := by
  have W0 := S.1.1.1
  unfold xI
  cases e : mu_if u a with
  | true =>
    refine xe_s (f := (1, _, _, _)) xt_g171 rfl rfl rfl rfl rfl ?_
    refine xe_s (f := (2, _, xi 0 :: _, _)) xt_g171 rfl rfl rfl rfl rfl ?_
    refine xe_s (f := (3, _, _, _)) xt_g171 rfl rfl rfl rfl rfl ?_
    refine xe_s (f := (4, _, _, _)) xt_g171 rfl rfl rfl rfl rfl ?_
    refine xe_cI xt_g171 rfl rfl rfl (q := 7) rfl (kc_V xk_12_18 rfl (ko_44) (by omega) rfl rfl) xt_g172 (by decide) ⟨Nat.le_of_ble_eq_true rfl, Nat.le_of_ble_eq_true rfl, Nat.le_of_ble_eq_true rfl⟩ (c172 hfm S I G e) (fun z1 h1 n1 c1 u1 hp => ?_)
    obtain ⟨e1, hp⟩ := hp
    subst e1
    obtain ⟨D1, O1⟩ := jD_cR W0 O hp (by decide) (by decide)
    have N1 : 108 ≤ n1 := Nat.le_trans W0 (by obtain ⟨_, _, q, _⟩ := D1; exact q)
    rw [Nat.zero_add u1]
    refine xe_s (f := (8, _, _, _)) xt_g171 rfl rfl rfl rfl rfl ?_
    refine xe_las xt_g171 rfl (q := 9) rfl O1 (by omega) (by omega) ?_
    refine xe_s (f := (15, _, _, _)) xt_g171 rfl rfl rfl rfl rfl ?_
    refine xe_s (f := (16, _, xi 0 :: _, _)) xt_g171 rfl rfl rfl rfl rfl ?_
    refine xe_iret xt_g171 rfl rfl xi_int.1 ?_
    try dsimp only
    exact ⟨0, rfl, jW_t D1 (mI_mchild I e) rfl⟩
  | false =>
    refine xe_s (f := (1, _, _, _)) xt_g171 rfl rfl rfl rfl rfl ?_
    refine xe_s (f := (2, _, xi 0 :: _, _)) xt_g171 rfl rfl rfl rfl rfl ?_
    refine xe_s (f := (3, _, _, _)) xt_g171 rfl rfl rfl rfl rfl ?_
    refine xe_s (f := (4, _, _, _)) xt_g171 rfl rfl rfl rfl rfl ?_
    refine xe_cY xt_g171 rfl rfl rfl (q := 7) rfl (kc_V xk_12_18 rfl (ko_44) (by omega) rfl rfl) xt_g172 (by decide) ⟨Nat.le_of_ble_eq_true rfl, Nat.le_of_ble_eq_true rfl, Nat.le_of_ble_eq_true rfl⟩ (c172x S G ha e) rfl (by omega) rfl (by decide) (fun x1 h1 n1 c1 u1 hp => ?_)
    refine xe_s (f := (13, [(3, _), (0, _), (1, _), (2, _)], _, _)) xt_g171 rfl rfl rfl rfl rfl ?_
    refine xe_s (f := (14, _, xi 1 :: _, _)) xt_g171 rfl rfl rfl rfl rfl ?_
    refine xe_iret xt_g171 rfl rfl xi_int.1 ?_
    try dsimp only
    rw [x_child e]
    exact ⟨1, rfl, jW_f W0 O hp (mI_sln I) (by decide) (by decide)⟩
theorem j175 (hfm : fm = .null ∨ ∃ j, fm = .ref j) (S : cS w s p ar v h n t kc u dp) (I : mI u dp) (G : mG u) (O : jO (ko w s p ar v h) f) {a b : Int} (ha : xr a) (hb : xr b) : xI fm 175 (ko w s p ar v h) n [.ref 44, xi a, xi b, .ref 107] (jW (ko w s p ar v h) n kc (mu_if u a && mu_if u b) ((mu_nav u a b).2) ((Int32.ofInt (mu_nav u a b).1).toInt64)) := by
  have W0 := S.1.1.1
  unfold xI
  cases e : mu_if u a with
  | true =>
    cases e' : mu_if u b with
    | true =>
      rw [Bool.true_and]
      refine xe_s (f := (1, _, _, _)) xt_g175 rfl rfl rfl rfl rfl ?_
      refine xe_s (f := (2, _, xi 0 :: _, _)) xt_g175 rfl rfl rfl rfl rfl ?_
      refine xe_s (f := (3, _, _, _)) xt_g175 rfl rfl rfl rfl rfl ?_
      refine xe_s (f := (4, _, _, _)) xt_g175 rfl rfl rfl rfl rfl ?_
      refine xe_s (f := (5, _, _, _)) xt_g175 rfl rfl rfl rfl rfl ?_
      refine xe_cI xt_g175 rfl rfl rfl (q := 8) rfl (kc_V xk_12_22 rfl (ko_44) (by omega) rfl rfl) xt_g176 (by decide) ⟨Nat.le_of_ble_eq_true rfl, Nat.le_of_ble_eq_true rfl, Nat.le_of_ble_eq_true rfl⟩ (c176 hfm S I G e e') (fun z1 h1 n1 c1 u1 hp => ?_)
      obtain ⟨e1, hp⟩ := hp
      subst e1
      obtain ⟨D1, O1⟩ := jD_cR W0 O hp (by decide) (by decide)
      have N1 : 108 ≤ n1 := Nat.le_trans W0 (by obtain ⟨_, _, q, _⟩ := D1; exact q)
      rw [Nat.zero_add u1]
      refine xe_s (f := (9, _, _, _)) xt_g175 rfl rfl rfl rfl rfl ?_
      refine xe_las xt_g175 rfl (q := 10) rfl O1 (by omega) (by omega) ?_
      refine xe_s (f := (17, _, _, _)) xt_g175 rfl rfl rfl rfl rfl ?_
      refine xe_s (f := (18, _, xi 0 :: _, _)) xt_g175 rfl rfl rfl rfl rfl ?_
      refine xe_iret xt_g175 rfl rfl xi_int.1 ?_
      try dsimp only
      exact ⟨0, rfl, jW_t D1 (mI_nav I) rfl⟩
    | false =>
      rw [Bool.true_and]
      refine xe_s (f := (1, _, _, _)) xt_g175 rfl rfl rfl rfl rfl ?_
      refine xe_s (f := (2, _, xi 0 :: _, _)) xt_g175 rfl rfl rfl rfl rfl ?_
      refine xe_s (f := (3, _, _, _)) xt_g175 rfl rfl rfl rfl rfl ?_
      refine xe_s (f := (4, _, _, _)) xt_g175 rfl rfl rfl rfl rfl ?_
      refine xe_s (f := (5, _, _, _)) xt_g175 rfl rfl rfl rfl rfl ?_
      refine xe_cY xt_g175 rfl rfl rfl (q := 8) rfl (kc_V xk_12_22 rfl (ko_44) (by omega) rfl rfl) xt_g176 (by decide) ⟨Nat.le_of_ble_eq_true rfl, Nat.le_of_ble_eq_true rfl, Nat.le_of_ble_eq_true rfl⟩ (c176y S G hb e e') rfl (by omega) rfl (by decide) (fun x1 h1 n1 c1 u1 hp => ?_)
      refine xe_s (f := (15, [(4, _), (0, _), (1, _), (2, _), (3, _)], _, _)) xt_g175 rfl rfl rfl rfl rfl ?_
      refine xe_s (f := (16, _, xi 1 :: _, _)) xt_g175 rfl rfl rfl rfl rfl ?_
      refine xe_iret xt_g175 rfl rfl xi_int.1 ?_
      try dsimp only
      rw [x_nav (by simp [e, e'])]
      exact ⟨1, rfl, jW_f W0 O hp (mI_sln I) (by decide) (by decide)⟩
  | false =>
    rw [Bool.false_and]
    refine xe_s (f := (1, _, _, _)) xt_g175 rfl rfl rfl rfl rfl ?_
    refine xe_s (f := (2, _, xi 0 :: _, _)) xt_g175 rfl rfl rfl rfl rfl ?_
    refine xe_s (f := (3, _, _, _)) xt_g175 rfl rfl rfl rfl rfl ?_
    refine xe_s (f := (4, _, _, _)) xt_g175 rfl rfl rfl rfl rfl ?_
    refine xe_s (f := (5, _, _, _)) xt_g175 rfl rfl rfl rfl rfl ?_
    refine xe_cY xt_g175 rfl rfl rfl (q := 8) rfl (kc_V xk_12_22 rfl (ko_44) (by omega) rfl rfl) xt_g176 (by decide) ⟨Nat.le_of_ble_eq_true rfl, Nat.le_of_ble_eq_true rfl, Nat.le_of_ble_eq_true rfl⟩ (c176x S G ha e) rfl (by omega) rfl (by decide) (fun x1 h1 n1 c1 u1 hp => ?_)
    refine xe_s (f := (15, [(4, _), (0, _), (1, _), (2, _), (3, _)], _, _)) xt_g175 rfl rfl rfl rfl rfl ?_
    refine xe_s (f := (16, _, xi 1 :: _, _)) xt_g175 rfl rfl rfl rfl rfl ?_
    refine xe_iret xt_g175 rfl rfl xi_int.1 ?_
    try dsimp only
    rw [x_nav (by simp [e])]
    exact ⟨1, rfl, jW_f W0 O hp (mI_sln I) (by decide) (by decide)⟩
theorem j179 (hfm : fm = .null ∨ ∃ j, fm = .ref j) (S : cS w s p ar v h n t kc u dp) (I : mI u dp) (G : mG u) (O : jO (ko w s p ar v h) f) {a b : Int} {wi : Bool} (ha : xr a) (hb : xr b) : xI fm 179 (ko w s p ar v h) n [.ref 44, xi a, xi b, xi (xb wi), .ref 107] (jW (ko w s p ar v h) n kc (mu_if u a) ((mu_fetch u a b wi).2) ((Int32.ofInt (mu_fetch u a b wi).1).toInt64)) := by
  have W0 := S.1.1.1
  unfold xI
  cases e : mu_if u a with
  | true =>
    refine xe_s (f := (2, _, _, _)) xt_g179 rfl rfl rfl rfl rfl ?_
    refine xe_s (f := (3, _, xi 0 :: _, _)) xt_g179 rfl rfl rfl rfl rfl ?_
    refine xe_s (f := (4, _, _, _)) xt_g179 rfl rfl rfl rfl rfl ?_
    refine xe_s (f := (5, _, _, _)) xt_g179 rfl rfl rfl rfl rfl ?_
    refine xe_s (f := (6, _, _, _)) xt_g179 rfl rfl rfl rfl rfl ?_
    refine xe_s (f := (7, _, _, _)) xt_g179 rfl rfl rfl rfl rfl ?_
    refine xe_cI xt_g179 rfl rfl rfl (q := 10) rfl (kc_V xk_12_26 rfl (ko_44) (by omega) rfl rfl) xt_g180 (by decide) ⟨Nat.le_of_ble_eq_true rfl, Nat.le_of_ble_eq_true rfl, Nat.le_of_ble_eq_true rfl⟩ (c180 hfm S G e hb) (fun z1 h1 n1 c1 u1 hp => ?_)
    obtain ⟨e1, hp⟩ := hp
    subst e1
    obtain ⟨D1, O1⟩ := jD_cR W0 O hp (by decide) (by decide)
    have N1 : 108 ≤ n1 := Nat.le_trans W0 (by obtain ⟨_, _, q, _⟩ := D1; exact q)
    rw [Nat.zero_add u1]
    refine xe_s (f := (11, _, _, _)) xt_g179 rfl rfl rfl rfl rfl ?_
    refine xe_las xt_g179 rfl (q := 12) rfl O1 (by omega) (by omega) ?_
    refine xe_s (f := (19, _, _, _)) xt_g179 rfl rfl rfl rfl rfl ?_
    refine xe_s (f := (20, _, xi 0 :: _, _)) xt_g179 rfl rfl rfl rfl rfl ?_
    refine xe_iret xt_g179 rfl rfl xi_int.1 ?_
    try dsimp only
    exact ⟨0, rfl, jW_t D1 (mI_fetch I) rfl⟩
  | false =>
    refine xe_s (f := (2, _, _, _)) xt_g179 rfl rfl rfl rfl rfl ?_
    refine xe_s (f := (3, _, xi 0 :: _, _)) xt_g179 rfl rfl rfl rfl rfl ?_
    refine xe_s (f := (4, _, _, _)) xt_g179 rfl rfl rfl rfl rfl ?_
    refine xe_s (f := (5, _, _, _)) xt_g179 rfl rfl rfl rfl rfl ?_
    refine xe_s (f := (6, _, _, _)) xt_g179 rfl rfl rfl rfl rfl ?_
    refine xe_s (f := (7, _, _, _)) xt_g179 rfl rfl rfl rfl rfl ?_
    refine xe_cY xt_g179 rfl rfl rfl (q := 10) rfl (kc_V xk_12_26 rfl (ko_44) (by omega) rfl rfl) xt_g180 (by decide) ⟨Nat.le_of_ble_eq_true rfl, Nat.le_of_ble_eq_true rfl, Nat.le_of_ble_eq_true rfl⟩ (c180x S G ha e) rfl (by omega) rfl (by decide) (fun x1 h1 n1 c1 u1 hp => ?_)
    refine xe_s (f := (17, [(5, _), (0, _), (1, _), (2, _), (3, _), (4, _)], _, _)) xt_g179 rfl rfl rfl rfl rfl ?_
    refine xe_s (f := (18, _, xi 1 :: _, _)) xt_g179 rfl rfl rfl rfl rfl ?_
    refine xe_iret xt_g179 rfl rfl xi_int.1 ?_
    try dsimp only
    rw [x_fetch e]
    exact ⟨1, rfl, jW_f W0 O hp (mI_sln I) (by decide) (by decide)⟩
theorem j228 (hfm : fm = .null ∨ ∃ j, fm = .ref j) (S : cS w s p ar v h n t kc u dp) (I : mI u dp) (G : mG u) (O : jO (ko w s p ar v h) f) {a : Int} (ha : xr a) : xI fm 228 (ko w s p ar v h) n [.ref 44, xi a, .ref 107] (jW (ko w s p ar v h) n kc (mu_if u a) ((mu_cookies u a).2) ((Int32.ofInt (mu_cookies u a).1).toInt64)) := by
  have W0 := S.1.1.1
  unfold xI
  cases e : mu_if u a with
  | true =>
    refine xe_s (f := (1, _, _, _)) xt_g228 rfl rfl rfl rfl rfl ?_
    refine xe_s (f := (2, _, xi 0 :: _, _)) xt_g228 rfl rfl rfl rfl rfl ?_
    refine xe_s (f := (3, _, _, _)) xt_g228 rfl rfl rfl rfl rfl ?_
    refine xe_s (f := (4, _, _, _)) xt_g228 rfl rfl rfl rfl rfl ?_
    refine xe_cI xt_g228 rfl rfl rfl (q := 7) rfl (kc_V xk_12_44 rfl (ko_44) (by omega) rfl rfl) xt_g229 (by decide) ⟨Nat.le_of_ble_eq_true rfl, Nat.le_of_ble_eq_true rfl, Nat.le_of_ble_eq_true rfl⟩ (c229 hfm S G e) (fun z1 h1 n1 c1 u1 hp => ?_)
    obtain ⟨e1, hp⟩ := hp
    subst e1
    obtain ⟨D1, O1⟩ := jD_cR W0 O hp (by decide) (by decide)
    have N1 : 108 ≤ n1 := Nat.le_trans W0 (by obtain ⟨_, _, q, _⟩ := D1; exact q)
    rw [Nat.zero_add u1]
    refine xe_s (f := (8, _, _, _)) xt_g228 rfl rfl rfl rfl rfl ?_
    refine xe_las xt_g228 rfl (q := 9) rfl O1 (by omega) (by omega) ?_
    refine xe_s (f := (15, _, _, _)) xt_g228 rfl rfl rfl rfl rfl ?_
    refine xe_s (f := (16, _, xi 0 :: _, _)) xt_g228 rfl rfl rfl rfl rfl ?_
    refine xe_iret xt_g228 rfl rfl xi_int.1 ?_
    try dsimp only
    exact ⟨0, rfl, jW_t D1 (mI_cookies I) rfl⟩
  | false =>
    refine xe_s (f := (1, _, _, _)) xt_g228 rfl rfl rfl rfl rfl ?_
    refine xe_s (f := (2, _, xi 0 :: _, _)) xt_g228 rfl rfl rfl rfl rfl ?_
    refine xe_s (f := (3, _, _, _)) xt_g228 rfl rfl rfl rfl rfl ?_
    refine xe_s (f := (4, _, _, _)) xt_g228 rfl rfl rfl rfl rfl ?_
    refine xe_cY xt_g228 rfl rfl rfl (q := 7) rfl (kc_V xk_12_44 rfl (ko_44) (by omega) rfl rfl) xt_g229 (by decide) ⟨Nat.le_of_ble_eq_true rfl, Nat.le_of_ble_eq_true rfl, Nat.le_of_ble_eq_true rfl⟩ (xY_X S (c229x S ha e)) rfl (by omega) rfl (by decide) (fun x1 h1 n1 c1 u1 hp => ?_)
    refine xe_s (f := (13, [(3, _), (0, _), (1, _), (2, _)], _, _)) xt_g228 rfl rfl rfl rfl rfl ?_
    refine xe_s (f := (14, _, xi 1 :: _, _)) xt_g228 rfl rfl rfl rfl rfl ?_
    refine xe_iret xt_g228 rfl rfl xi_int.1 ?_
    try dsimp only
    rw [x_cookies e]
    exact ⟨1, rfl, jW_f W0 O hp (I) (by decide) (by decide)⟩
theorem j237 (hfm : fm = .null ∨ ∃ j, fm = .ref j) (S : cS w s p ar v h n t kc u dp) (I : mI u dp) (G : mG u) (O : jO (ko w s p ar v h) f) {a b : Int} (ha : xr a) (hb : xr b) : xI fm 237 (ko w s p ar v h) n [.ref 44, xi a, xi b, .ref 107] (jW (ko w s p ar v h) n kc (mu_if u a) (u) ((Int32.ofInt (mu_stored u a b)).toInt64)) := by
  have W0 := S.1.1.1
  unfold xI
  cases e : mu_if u a with
  | true =>
    refine xe_s (f := (1, _, _, _)) xt_g237 rfl rfl rfl rfl rfl ?_
    refine xe_s (f := (2, _, xi 0 :: _, _)) xt_g237 rfl rfl rfl rfl rfl ?_
    refine xe_s (f := (3, _, _, _)) xt_g237 rfl rfl rfl rfl rfl ?_
    refine xe_s (f := (4, _, _, _)) xt_g237 rfl rfl rfl rfl rfl ?_
    refine xe_s (f := (5, _, _, _)) xt_g237 rfl rfl rfl rfl rfl ?_
    refine xe_cR xt_g237 rfl rfl rfl (q := 8) rfl (kc_V xk_12_54 rfl (ko_44) (by omega) rfl rfl) xt_g238 (by decide) ⟨Nat.le_of_ble_eq_true rfl, Nat.le_of_ble_eq_true rfl, Nat.le_of_ble_eq_true rfl⟩ (c238 S I e hb) ?_
    have N1 : 108 ≤ n := W0
    have D1 := jD_0 S
    have O1 := O
    refine xe_s (f := (9, _, _, _)) xt_g237 rfl rfl rfl rfl rfl ?_
    refine xe_las xt_g237 rfl (q := 10) rfl O1 (by omega) (by omega) ?_
    refine xe_s (f := (17, _, _, _)) xt_g237 rfl rfl rfl rfl rfl ?_
    refine xe_s (f := (18, _, xi 0 :: _, _)) xt_g237 rfl rfl rfl rfl rfl ?_
    refine xe_iret xt_g237 rfl rfl xi_int.1 ?_
    try dsimp only
    exact ⟨0, rfl, jW_t D1 (I) rfl⟩
  | false =>
    refine xe_s (f := (1, _, _, _)) xt_g237 rfl rfl rfl rfl rfl ?_
    refine xe_s (f := (2, _, xi 0 :: _, _)) xt_g237 rfl rfl rfl rfl rfl ?_
    refine xe_s (f := (3, _, _, _)) xt_g237 rfl rfl rfl rfl rfl ?_
    refine xe_s (f := (4, _, _, _)) xt_g237 rfl rfl rfl rfl rfl ?_
    refine xe_s (f := (5, _, _, _)) xt_g237 rfl rfl rfl rfl rfl ?_
    refine xe_cY xt_g237 rfl rfl rfl (q := 8) rfl (kc_V xk_12_54 rfl (ko_44) (by omega) rfl rfl) xt_g238 (by decide) ⟨Nat.le_of_ble_eq_true rfl, Nat.le_of_ble_eq_true rfl, Nat.le_of_ble_eq_true rfl⟩ (xY_X S (c238x S ha e)) rfl (by omega) rfl (by decide) (fun x1 h1 n1 c1 u1 hp => ?_)
    refine xe_s (f := (15, [(4, _), (0, _), (1, _), (2, _), (3, _)], _, _)) xt_g237 rfl rfl rfl rfl rfl ?_
    refine xe_s (f := (16, _, xi 1 :: _, _)) xt_g237 rfl rfl rfl rfl rfl ?_
    refine xe_iret xt_g237 rfl rfl xi_int.1 ?_
    try dsimp only
    exact ⟨1, rfl, jW_f W0 O hp (I) (by decide) (by decide)⟩
theorem j224 (hfm : fm = .null ∨ ∃ j, fm = .ref j) (S : cS w s p ar v h n t kc u dp) (I : mI u dp) (G : mG u) (O : jO (ko w s p ar v h) f) {a : Int} (ha : xr a) : xI fm 224 (ko w s p ar v h) n [.ref 44, xi a, .ref 107] (jW (ko w s p ar v h) n kc (mu_ir u a) ((mu_lead u a).2) (lo (mu_lead u a).1)) := by
  have W0 := S.1.1.1
  unfold xI
  cases e : mu_ir u a with
  | true =>
    refine xe_s (f := (1, _, _, _)) xt_g224 rfl rfl rfl rfl rfl ?_
    refine xe_s (f := (2, _, xi 0 :: _, _)) xt_g224 rfl rfl rfl rfl rfl ?_
    refine xe_s (f := (3, _, _, _)) xt_g224 rfl rfl rfl rfl rfl ?_
    refine xe_s (f := (4, _, _, _)) xt_g224 rfl rfl rfl rfl rfl ?_
    refine xe_cI xt_g224 rfl rfl rfl (q := 7) rfl (kc_V xk_12_40 rfl (ko_44) (by omega) rfl rfl) xt_g225 (by decide) ⟨Nat.le_of_ble_eq_true rfl, Nat.le_of_ble_eq_true rfl, Nat.le_of_ble_eq_true rfl⟩ (c225 hfm S I G e) (fun z1 h1 n1 c1 u1 hp => ?_)
    obtain ⟨e1, hp⟩ := hp
    subst e1
    obtain ⟨D1, O1⟩ := jD_cR W0 O hp (by decide) (by decide)
    have N1 : 108 ≤ n1 := Nat.le_trans W0 (by obtain ⟨_, _, q, _⟩ := D1; exact q)
    rw [Nat.zero_add u1]
    refine xe_ifz xt_g224 rfl (t := 14) rfl (q := 10) rfl (fun g => ?_) (fun g => ?_)
    · refine xe_s (f := (15, _, xl 0 :: _, _)) xt_g224 rfl rfl rfl rfl rfl ?_
      refine xe_las xt_g224 rfl (q := 16) rfl O1 (by omega) (by omega) ?_
      refine xe_s (f := (22, _, _, _)) xt_g224 rfl rfl rfl rfl rfl ?_
      refine xe_s (f := (23, _, xi 0 :: _, _)) xt_g224 rfl rfl rfl rfl rfl ?_
      refine xe_iret xt_g224 rfl rfl xi_int.1 ?_
      try dsimp only
      exact ⟨0, rfl, jW_t D1 (mI_lead I) (Eq.symm (if_pos g))⟩
    · refine xe_s (f := (11, _, xl 1 :: _, _)) xt_g224 rfl rfl rfl rfl rfl ?_
      refine xe_s (f := (15, _, _, _)) xt_g224 rfl rfl rfl rfl rfl ?_
      refine xe_las xt_g224 rfl (q := 16) rfl O1 (by omega) (by omega) ?_
      refine xe_s (f := (22, _, _, _)) xt_g224 rfl rfl rfl rfl rfl ?_
      refine xe_s (f := (23, _, xi 0 :: _, _)) xt_g224 rfl rfl rfl rfl rfl ?_
      refine xe_iret xt_g224 rfl rfl xi_int.1 ?_
      try dsimp only
      exact ⟨0, rfl, jW_t D1 (mI_lead I) (Eq.symm (if_neg g))⟩
  | false =>
    refine xe_s (f := (1, _, _, _)) xt_g224 rfl rfl rfl rfl rfl ?_
    refine xe_s (f := (2, _, xi 0 :: _, _)) xt_g224 rfl rfl rfl rfl rfl ?_
    refine xe_s (f := (3, _, _, _)) xt_g224 rfl rfl rfl rfl rfl ?_
    refine xe_s (f := (4, _, _, _)) xt_g224 rfl rfl rfl rfl rfl ?_
    refine xe_cY xt_g224 rfl rfl rfl (q := 7) rfl (kc_V xk_12_40 rfl (ko_44) (by omega) rfl rfl) xt_g225 (by decide) ⟨Nat.le_of_ble_eq_true rfl, Nat.le_of_ble_eq_true rfl, Nat.le_of_ble_eq_true rfl⟩ (c225x S G ha e) rfl (by omega) rfl (by decide) (fun x1 h1 n1 c1 u1 hp => ?_)
    refine xe_s (f := (20, [(3, _), (0, _), (1, _), (2, _)], _, _)) xt_g224 rfl rfl rfl rfl rfl ?_
    refine xe_s (f := (21, _, xi 1 :: _, _)) xt_g224 rfl rfl rfl rfl rfl ?_
    refine xe_iret xt_g224 rfl rfl xi_int.1 ?_
    try dsimp only
    rw [x_lead e]
    exact ⟨1, rfl, jW_f W0 O hp (mI_sln I) (by decide) (by decide)⟩
theorem j230 (hfm : fm = .null ∨ ∃ j, fm = .ref j) (S : cS w s p ar v h n t kc u dp) (I : mI u dp) (G : mG u) (O : jO (ko w s p ar v h) f) {a : Int} (ha : xr a) : xI fm 230 (ko w s p ar v h) n [.ref 44, xi a, .ref 107] (jW (ko w s p ar v h) n kc (mu_if u a) ((mu_cookie u a).2) (lo (mu_cookie u a).1)) := by
  have W0 := S.1.1.1
  unfold xI
  cases e : mu_if u a with
  | true =>
    refine xe_s (f := (1, _, _, _)) xt_g230 rfl rfl rfl rfl rfl ?_
    refine xe_s (f := (2, _, xi 0 :: _, _)) xt_g230 rfl rfl rfl rfl rfl ?_
    refine xe_s (f := (3, _, _, _)) xt_g230 rfl rfl rfl rfl rfl ?_
    refine xe_s (f := (4, _, _, _)) xt_g230 rfl rfl rfl rfl rfl ?_
    refine xe_cI xt_g230 rfl rfl rfl (q := 7) rfl (kc_V xk_12_47 rfl (ko_44) (by omega) rfl rfl) xt_g231 (by decide) ⟨Nat.le_of_ble_eq_true rfl, Nat.le_of_ble_eq_true rfl, Nat.le_of_ble_eq_true rfl⟩ (c231 hfm S G e) (fun z1 h1 n1 c1 u1 hp => ?_)
    obtain ⟨e1, hp⟩ := hp
    subst e1
    obtain ⟨D1, O1⟩ := jD_cR W0 O hp (by decide) (by decide)
    have N1 : 108 ≤ n1 := Nat.le_trans W0 (by obtain ⟨_, _, q, _⟩ := D1; exact q)
    rw [Nat.zero_add u1]
    refine xe_ifz xt_g230 rfl (t := 14) rfl (q := 10) rfl (fun g => ?_) (fun g => ?_)
    · refine xe_s (f := (15, _, xl 0 :: _, _)) xt_g230 rfl rfl rfl rfl rfl ?_
      refine xe_las xt_g230 rfl (q := 16) rfl O1 (by omega) (by omega) ?_
      refine xe_s (f := (22, _, _, _)) xt_g230 rfl rfl rfl rfl rfl ?_
      refine xe_s (f := (23, _, xi 0 :: _, _)) xt_g230 rfl rfl rfl rfl rfl ?_
      refine xe_iret xt_g230 rfl rfl xi_int.1 ?_
      try dsimp only
      exact ⟨0, rfl, jW_t D1 (mI_cookie I) (Eq.symm (if_pos g))⟩
    · refine xe_s (f := (11, _, xl 1 :: _, _)) xt_g230 rfl rfl rfl rfl rfl ?_
      refine xe_s (f := (15, _, _, _)) xt_g230 rfl rfl rfl rfl rfl ?_
      refine xe_las xt_g230 rfl (q := 16) rfl O1 (by omega) (by omega) ?_
      refine xe_s (f := (22, _, _, _)) xt_g230 rfl rfl rfl rfl rfl ?_
      refine xe_s (f := (23, _, xi 0 :: _, _)) xt_g230 rfl rfl rfl rfl rfl ?_
      refine xe_iret xt_g230 rfl rfl xi_int.1 ?_
      try dsimp only
      exact ⟨0, rfl, jW_t D1 (mI_cookie I) (Eq.symm (if_neg g))⟩
  | false =>
    refine xe_s (f := (1, _, _, _)) xt_g230 rfl rfl rfl rfl rfl ?_
    refine xe_s (f := (2, _, xi 0 :: _, _)) xt_g230 rfl rfl rfl rfl rfl ?_
    refine xe_s (f := (3, _, _, _)) xt_g230 rfl rfl rfl rfl rfl ?_
    refine xe_s (f := (4, _, _, _)) xt_g230 rfl rfl rfl rfl rfl ?_
    refine xe_cY xt_g230 rfl rfl rfl (q := 7) rfl (kc_V xk_12_47 rfl (ko_44) (by omega) rfl rfl) xt_g231 (by decide) ⟨Nat.le_of_ble_eq_true rfl, Nat.le_of_ble_eq_true rfl, Nat.le_of_ble_eq_true rfl⟩ (c231x S G ha e) rfl (by omega) rfl (by decide) (fun x1 h1 n1 c1 u1 hp => ?_)
    refine xe_s (f := (20, [(3, _), (0, _), (1, _), (2, _)], _, _)) xt_g230 rfl rfl rfl rfl rfl ?_
    refine xe_s (f := (21, _, xi 1 :: _, _)) xt_g230 rfl rfl rfl rfl rfl ?_
    refine xe_iret xt_g230 rfl rfl xi_int.1 ?_
    try dsimp only
    rw [x_cookie e]
    exact ⟨1, rfl, jW_f W0 O hp (mI_sln I) (by decide) (by decide)⟩
theorem j232 (hfm : fm = .null ∨ ∃ j, fm = .ref j) (S : cS w s p ar v h n t kc u dp) (I : mI u dp) (G : mG u) (O : jO (ko w s p ar v h) f) {a b d : Int} (ha : xr a) (hb : xr b) (hd : xr d) : xI fm 232 (ko w s p ar v h) n [.ref 44, xi a, xi b, xi d, .ref 107] (jW (ko w s p ar v h) n kc (mu_if u a) ((mu_store u a b d).2) (lo (mu_store u a b d).1)) := by
  have W0 := S.1.1.1
  unfold xI
  cases e : mu_if u a with
  | true =>
    refine xe_s (f := (2, _, _, _)) xt_g232 rfl rfl rfl rfl rfl ?_
    refine xe_s (f := (3, _, xi 0 :: _, _)) xt_g232 rfl rfl rfl rfl rfl ?_
    refine xe_s (f := (4, _, _, _)) xt_g232 rfl rfl rfl rfl rfl ?_
    refine xe_s (f := (5, _, _, _)) xt_g232 rfl rfl rfl rfl rfl ?_
    refine xe_s (f := (6, _, _, _)) xt_g232 rfl rfl rfl rfl rfl ?_
    refine xe_s (f := (7, _, _, _)) xt_g232 rfl rfl rfl rfl rfl ?_
    refine xe_cI xt_g232 rfl rfl rfl (q := 10) rfl (kc_V xk_12_50 rfl (ko_44) (by omega) rfl rfl) xt_g233 (by decide) ⟨Nat.le_of_ble_eq_true rfl, Nat.le_of_ble_eq_true rfl, Nat.le_of_ble_eq_true rfl⟩ (c233 S I e hb hd) (fun z1 h1 n1 c1 u1 hp => ?_)
    obtain ⟨e1, hp⟩ := hp
    subst e1
    obtain ⟨D1, O1⟩ := jD_cR W0 O hp (by decide) (by decide)
    have N1 : 108 ≤ n1 := Nat.le_trans W0 (by obtain ⟨_, _, q, _⟩ := D1; exact q)
    rw [Nat.zero_add u1]
    refine xe_ifz xt_g232 rfl (t := 17) rfl (q := 13) rfl (fun g => ?_) (fun g => ?_)
    · refine xe_s (f := (18, _, xl 0 :: _, _)) xt_g232 rfl rfl rfl rfl rfl ?_
      refine xe_las xt_g232 rfl (q := 19) rfl O1 (by omega) (by omega) ?_
      refine xe_s (f := (26, _, _, _)) xt_g232 rfl rfl rfl rfl rfl ?_
      refine xe_s (f := (27, _, xi 0 :: _, _)) xt_g232 rfl rfl rfl rfl rfl ?_
      refine xe_iret xt_g232 rfl rfl xi_int.1 ?_
      try dsimp only
      exact ⟨0, rfl, jW_t D1 (mI_store I) (Eq.symm (if_pos g))⟩
    · refine xe_s (f := (14, _, xl 1 :: _, _)) xt_g232 rfl rfl rfl rfl rfl ?_
      refine xe_s (f := (18, _, _, _)) xt_g232 rfl rfl rfl rfl rfl ?_
      refine xe_las xt_g232 rfl (q := 19) rfl O1 (by omega) (by omega) ?_
      refine xe_s (f := (26, _, _, _)) xt_g232 rfl rfl rfl rfl rfl ?_
      refine xe_s (f := (27, _, xi 0 :: _, _)) xt_g232 rfl rfl rfl rfl rfl ?_
      refine xe_iret xt_g232 rfl rfl xi_int.1 ?_
      try dsimp only
      exact ⟨0, rfl, jW_t D1 (mI_store I) (Eq.symm (if_neg g))⟩
  | false =>
    refine xe_s (f := (2, _, _, _)) xt_g232 rfl rfl rfl rfl rfl ?_
    refine xe_s (f := (3, _, xi 0 :: _, _)) xt_g232 rfl rfl rfl rfl rfl ?_
    refine xe_s (f := (4, _, _, _)) xt_g232 rfl rfl rfl rfl rfl ?_
    refine xe_s (f := (5, _, _, _)) xt_g232 rfl rfl rfl rfl rfl ?_
    refine xe_s (f := (6, _, _, _)) xt_g232 rfl rfl rfl rfl rfl ?_
    refine xe_s (f := (7, _, _, _)) xt_g232 rfl rfl rfl rfl rfl ?_
    refine xe_cY xt_g232 rfl rfl rfl (q := 10) rfl (kc_V xk_12_50 rfl (ko_44) (by omega) rfl rfl) xt_g233 (by decide) ⟨Nat.le_of_ble_eq_true rfl, Nat.le_of_ble_eq_true rfl, Nat.le_of_ble_eq_true rfl⟩ (xY_X S (c233x S ha e)) rfl (by omega) rfl (by decide) (fun x1 h1 n1 c1 u1 hp => ?_)
    refine xe_s (f := (24, [(5, _), (0, _), (1, _), (2, _), (3, _), (4, _)], _, _)) xt_g232 rfl rfl rfl rfl rfl ?_
    refine xe_s (f := (25, _, xi 1 :: _, _)) xt_g232 rfl rfl rfl rfl rfl ?_
    refine xe_iret xt_g232 rfl rfl xi_int.1 ?_
    try dsimp only
    rw [x_store e]
    exact ⟨1, rfl, jW_f W0 O hp (I) (by decide) (by decide)⟩
theorem j240 (hfm : fm = .null ∨ ∃ j, fm = .ref j) (S : cS w s p ar v h n t kc u dp) (I : mI u dp) (G : mG u) (O : jO (ko w s p ar v h) f) {a b d : Int} (ha : xr a) (hb : xr b) (hd : xr d) : xI fm 240 (ko w s p ar v h) n [.ref 44, xi a, xi b, xi d, .ref 107] (jW (ko w s p ar v h) n kc (mu_if u a && mu_if u b) ((mu_post u a b d).2) (lo (mu_post u a b d).1)) := by
  have W0 := S.1.1.1
  unfold xI
  cases e : mu_if u a with
  | true =>
    cases e' : mu_if u b with
    | true =>
      rw [Bool.true_and]
      refine xe_s (f := (2, _, _, _)) xt_g240 rfl rfl rfl rfl rfl ?_
      refine xe_s (f := (3, _, xi 0 :: _, _)) xt_g240 rfl rfl rfl rfl rfl ?_
      refine xe_s (f := (4, _, _, _)) xt_g240 rfl rfl rfl rfl rfl ?_
      refine xe_s (f := (5, _, _, _)) xt_g240 rfl rfl rfl rfl rfl ?_
      refine xe_s (f := (6, _, _, _)) xt_g240 rfl rfl rfl rfl rfl ?_
      refine xe_s (f := (7, _, _, _)) xt_g240 rfl rfl rfl rfl rfl ?_
      refine xe_cI xt_g240 rfl rfl rfl (q := 10) rfl (kc_V xk_12_57 rfl (ko_44) (by omega) rfl rfl) xt_g241 (by decide) ⟨Nat.le_of_ble_eq_true rfl, Nat.le_of_ble_eq_true rfl, Nat.le_of_ble_eq_true rfl⟩ (c241 hfm S G e e' hd) (fun z1 h1 n1 c1 u1 hp => ?_)
      obtain ⟨e1, hp⟩ := hp
      subst e1
      obtain ⟨D1, O1⟩ := jD_cR W0 O hp (by decide) (by decide)
      have N1 : 108 ≤ n1 := Nat.le_trans W0 (by obtain ⟨_, _, q, _⟩ := D1; exact q)
      rw [Nat.zero_add u1]
      refine xe_ifz xt_g240 rfl (t := 17) rfl (q := 13) rfl (fun g => ?_) (fun g => ?_)
      · refine xe_s (f := (18, _, xl 0 :: _, _)) xt_g240 rfl rfl rfl rfl rfl ?_
        refine xe_las xt_g240 rfl (q := 19) rfl O1 (by omega) (by omega) ?_
        refine xe_s (f := (26, _, _, _)) xt_g240 rfl rfl rfl rfl rfl ?_
        refine xe_s (f := (27, _, xi 0 :: _, _)) xt_g240 rfl rfl rfl rfl rfl ?_
        refine xe_iret xt_g240 rfl rfl xi_int.1 ?_
        try dsimp only
        exact ⟨0, rfl, jW_t D1 (mI_post I) (Eq.symm (if_pos g))⟩
      · refine xe_s (f := (14, _, xl 1 :: _, _)) xt_g240 rfl rfl rfl rfl rfl ?_
        refine xe_s (f := (18, _, _, _)) xt_g240 rfl rfl rfl rfl rfl ?_
        refine xe_las xt_g240 rfl (q := 19) rfl O1 (by omega) (by omega) ?_
        refine xe_s (f := (26, _, _, _)) xt_g240 rfl rfl rfl rfl rfl ?_
        refine xe_s (f := (27, _, xi 0 :: _, _)) xt_g240 rfl rfl rfl rfl rfl ?_
        refine xe_iret xt_g240 rfl rfl xi_int.1 ?_
        try dsimp only
        exact ⟨0, rfl, jW_t D1 (mI_post I) (Eq.symm (if_neg g))⟩
    | false =>
      rw [Bool.true_and]
      refine xe_s (f := (2, _, _, _)) xt_g240 rfl rfl rfl rfl rfl ?_
      refine xe_s (f := (3, _, xi 0 :: _, _)) xt_g240 rfl rfl rfl rfl rfl ?_
      refine xe_s (f := (4, _, _, _)) xt_g240 rfl rfl rfl rfl rfl ?_
      refine xe_s (f := (5, _, _, _)) xt_g240 rfl rfl rfl rfl rfl ?_
      refine xe_s (f := (6, _, _, _)) xt_g240 rfl rfl rfl rfl rfl ?_
      refine xe_s (f := (7, _, _, _)) xt_g240 rfl rfl rfl rfl rfl ?_
      refine xe_cY xt_g240 rfl rfl rfl (q := 10) rfl (kc_V xk_12_57 rfl (ko_44) (by omega) rfl rfl) xt_g241 (by decide) ⟨Nat.le_of_ble_eq_true rfl, Nat.le_of_ble_eq_true rfl, Nat.le_of_ble_eq_true rfl⟩ (c241y S G hb e e') rfl (by omega) rfl (by decide) (fun x1 h1 n1 c1 u1 hp => ?_)
      refine xe_s (f := (24, [(5, _), (0, _), (1, _), (2, _), (3, _), (4, _)], _, _)) xt_g240 rfl rfl rfl rfl rfl ?_
      refine xe_s (f := (25, _, xi 1 :: _, _)) xt_g240 rfl rfl rfl rfl rfl ?_
      refine xe_iret xt_g240 rfl rfl xi_int.1 ?_
      try dsimp only
      rw [x_post (by simp [e, e'])]
      exact ⟨1, rfl, jW_f W0 O hp (mI_sln I) (by decide) (by decide)⟩
  | false =>
    rw [Bool.false_and]
    refine xe_s (f := (2, _, _, _)) xt_g240 rfl rfl rfl rfl rfl ?_
    refine xe_s (f := (3, _, xi 0 :: _, _)) xt_g240 rfl rfl rfl rfl rfl ?_
    refine xe_s (f := (4, _, _, _)) xt_g240 rfl rfl rfl rfl rfl ?_
    refine xe_s (f := (5, _, _, _)) xt_g240 rfl rfl rfl rfl rfl ?_
    refine xe_s (f := (6, _, _, _)) xt_g240 rfl rfl rfl rfl rfl ?_
    refine xe_s (f := (7, _, _, _)) xt_g240 rfl rfl rfl rfl rfl ?_
    refine xe_cY xt_g240 rfl rfl rfl (q := 10) rfl (kc_V xk_12_57 rfl (ko_44) (by omega) rfl rfl) xt_g241 (by decide) ⟨Nat.le_of_ble_eq_true rfl, Nat.le_of_ble_eq_true rfl, Nat.le_of_ble_eq_true rfl⟩ (c241x S G ha e) rfl (by omega) rfl (by decide) (fun x1 h1 n1 c1 u1 hp => ?_)
    refine xe_s (f := (24, [(5, _), (0, _), (1, _), (2, _), (3, _), (4, _)], _, _)) xt_g240 rfl rfl rfl rfl rfl ?_
    refine xe_s (f := (25, _, xi 1 :: _, _)) xt_g240 rfl rfl rfl rfl rfl ?_
    refine xe_iret xt_g240 rfl rfl xi_int.1 ?_
    try dsimp only
    rw [x_post (by simp [e])]
    exact ⟨1, rfl, jW_f W0 O hp (mI_sln I) (by decide) (by decide)⟩
end XC5
