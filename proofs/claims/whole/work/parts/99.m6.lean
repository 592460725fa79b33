/-! the reference: messages -/
theorem xi_ny {z : Int} (h : -128 ≤ z ∧ z < 128) : vp_nar .byte (Int32.ofInt z) = Int32.ofInt z := by
  show (Int32.ofInt z).toInt8.toInt32 = _
  rw [Int32.toInt8_ofInt, xi_b h.1 h.2]
section XM6
variable (fm : Value) {m n : Nat} {h0 : xm_H} {s : Nat → Int} {ar : Nat → Nat → Int}
theorem xe_i2b {y pc q : Nat} {L : xm_L} {M : xm_M} {Q : xe_Q} {D : xt_D} {r : List Value} {a : Int} {fm : Value} (hy : xt_md[y]? = some D) (hi : xt_lk D.2.2.2.2.2 pc = some (.i2b, 1)) (hq : pc + 1 = q) (h : -128 ≤ a ∧ a < 128) (kk : xe fm y (q, L, xi a :: r, M) Q) : xe fm y (pc, L, xi a :: r, M) Q := by
  subst hq
  refine xe_s hy hi rfl rfl rfl (f := (pc + 1, L, xi a :: r, M)) ?_ kk
  show some (pc + 1, L, Value.int (Int32.ofInt a).toInt8.toInt32 :: r, M) = _
  rw [Int32.toInt8_ofInt, xi_b h.1 h.2]
theorem xv_lacks (hmn : xo_in m n) {b t : Bool} : xv fm 292 m n h0 s ar [.ref m, xi (xb b), xi (xb t)] (some (xi (xb (!b)))) (if b = true then xo_u s 0 0 else if t = true then xo_u (xo_u s 0 1) 2 0 else xo_u s 0 1) ar := by
  show xe fm 292 (0, [(0, .ref m), (1, xi (xb b)), (2, xi (xb t))], [], (xo m s ar h0, n, 0, 0)) _
  have hx := xb_or b
  have hy := xb_or t
  cases b with
  | true =>
    have h1 : xb true = 1 := rfl
    refine xe_s (f := (1, _, _, _)) xt_g292 rfl rfl rfl rfl rfl ?_
    refine xe_s (f := (2, _, _, _)) xt_g292 rfl rfl rfl rfl rfl ?_
    refine xe_if_eq xt_g292 rfl (t := 9) rfl (q := 5) rfl (by first | omega | exact hw.1 _ | exact hw.2 _ _) (fun hb => ?_) (fun hb => ?_)
    · exact absurd hb (by omega)
    · refine xe_s (f := (6, _, xi 0 :: _, _)) xt_g292 rfl rfl rfl rfl rfl ?_
      refine xe_s (f := (10, _, _, _)) xt_g292 rfl rfl rfl rfl rfl ?_
      refine xe_mps xt_g292 rfl (q := 13) rfl (xf_13_146 fm) (by decide) rfl (by omega) (by omega) xi_int (Or.inl rfl) ?_
      refine xe_s (f := (14, _, _, _)) xt_g292 rfl rfl rfl rfl rfl ?_
      refine xe_if_ne xt_g292 rfl (t := 26) rfl (q := 17) rfl (by first | omega | exact hw.1 _ | exact hw.2 _ _) (fun hb2 => ?_) (fun hb2 => ?_)
      · refine xe_s (f := (27, _, _, _)) xt_g292 rfl rfl rfl rfl rfl ?_
        refine xe_if_ne xt_g292 rfl (t := 34) rfl (q := 30) rfl (by first | omega | exact hw.1 _ | exact hw.2 _ _) (fun hb3 => ?_) (fun hb3 => ?_)
        · refine xe_s (f := (35, _, xi 0 :: _, _)) xt_g292 rfl rfl rfl rfl rfl ?_
          refine xe_iret xt_g292 rfl rfl (xi_bool (by first | omega | exact xb_or _)).1 ?_
          exact ⟨rfl, rfl⟩
        · exact absurd hb3 (by omega)
      · exact absurd hb2 (by omega)
  | false =>
    have h1 : xb false = 0 := rfl
    refine xe_s (f := (1, _, _, _)) xt_g292 rfl rfl rfl rfl rfl ?_
    refine xe_s (f := (2, _, _, _)) xt_g292 rfl rfl rfl rfl rfl ?_
    refine xe_if_eq xt_g292 rfl (t := 9) rfl (q := 5) rfl (by first | omega | exact hw.1 _ | exact hw.2 _ _) (fun hb => ?_) (fun hb => ?_)
    · refine xe_s (f := (10, _, xi 1 :: _, _)) xt_g292 rfl rfl rfl rfl rfl ?_
      refine xe_mps xt_g292 rfl (q := 13) rfl (xf_13_146 fm) (by decide) rfl (by omega) (by omega) xi_int (Or.inl rfl) ?_
      refine xe_s (f := (14, _, _, _)) xt_g292 rfl rfl rfl rfl rfl ?_
      refine xe_if_ne xt_g292 rfl (t := 26) rfl (q := 17) rfl (by first | omega | exact hw.1 _ | exact hw.2 _ _) (fun hb2 => ?_) (fun hb2 => ?_)
      · exact absurd hb2 (by omega)
      · refine xe_s (f := (18, _, _, _)) xt_g292 rfl rfl rfl rfl rfl ?_
        cases t with
        | true =>
          have h2 : xb true = 1 := rfl
          refine xe_if_eq xt_g292 rfl (t := 26) rfl (q := 21) rfl (by first | omega | exact hw.1 _ | exact hw.2 _ _) (fun hb3 => ?_) (fun hb3 => ?_)
          · exact absurd hb3 (by omega)
          · refine xe_s (f := (22, _, _, _)) xt_g292 rfl rfl rfl rfl rfl ?_
            refine xe_s (f := (23, _, xi 0 :: _, _)) xt_g292 rfl rfl rfl rfl rfl ?_
            refine xe_mps xt_g292 rfl (q := 26) rfl (xf_13_149 fm) (by decide) rfl (by omega) (by omega) xi_int (Or.inl rfl) ?_
            refine xe_s (f := (27, _, _, _)) xt_g292 rfl rfl rfl rfl rfl ?_
            refine xe_if_ne xt_g292 rfl (t := 34) rfl (q := 30) rfl (by first | omega | exact hw.1 _ | exact hw.2 _ _) (fun hb4 => ?_) (fun hb4 => ?_)
            · exact absurd hb4 (by omega)
            · refine xe_s (f := (31, _, xi 1 :: _, _)) xt_g292 rfl rfl rfl rfl rfl ?_
              refine xe_s (f := (35, _, _, _)) xt_g292 rfl rfl rfl rfl rfl ?_
              refine xe_iret xt_g292 rfl rfl (xi_bool (by first | omega | exact xb_or _)).1 ?_
              exact ⟨rfl, rfl⟩
        | false =>
          refine xe_if_eq xt_g292 rfl (t := 26) rfl (q := 21) rfl (by first | omega | exact hw.1 _ | exact hw.2 _ _) (fun hb3 => ?_) (fun hb3 => ?_)
          · refine xe_s (f := (27, _, _, _)) xt_g292 rfl rfl rfl rfl rfl ?_
            refine xe_if_ne xt_g292 rfl (t := 34) rfl (q := 30) rfl (by first | omega | exact hw.1 _ | exact hw.2 _ _) (fun hb4 => ?_) (fun hb4 => ?_)
            · exact absurd hb4 (by omega)
            · refine xe_s (f := (31, _, xi 1 :: _, _)) xt_g292 rfl rfl rfl rfl rfl ?_
              refine xe_s (f := (35, _, _, _)) xt_g292 rfl rfl rfl rfl rfl ?_
              refine xe_iret xt_g292 rfl rfl (xi_bool (by first | omega | exact xb_or _)).1 ?_
              exact ⟨rfl, rfl⟩
          · exact absurd hb3 (by omega)
    · exact absurd hb (by omega)
/-- the place behind the last dot ahead of e, or b -/
def xd_lab (f : Nat → Int) : Nat → Int → Int
  | 0, k => k
  | n + 1, k => if f (k - 1).toNat = 46 then k else xd_lab f n (k - 1)
theorem xv_labelFrom (hmn : xo_in m n) (hw : xo_wf s ar) {b e : Int} (hb0 : 0 ≤ b) (hbr : xr b) (he : e ≤ 1680) (hr : xr e) : xv fm 329 m n h0 s ar [.ref m, xi b, xi e] (some (xi (xd_lab (ar 22) (e - b).toNat e))) s ar := by
  show xe fm 329 (0, [(0, .ref m), (1, xi b), (2, xi e)], [], (xo m s ar h0, n, 0, 0)) _
  refine xe_s (f := (1, _, _, _)) xt_g329 rfl rfl rfl rfl rfl ?_
  refine xe_s (f := (2, [(3, _), (0, _), (1, _), (2, _)], _, _)) xt_g329 rfl rfl rfl rfl rfl ?_
  have loop : ∀ (N : Nat) (k : Int), k ≤ e → -2147483648 ≤ k → (k - b).toNat = N → xe fm 329 (2, [(3, xi k), (0, .ref m), (1, xi b), (2, xi e)], [], (xo m s ar h0, n, 0, 0)) (fun r M => r = .inl (some (xi (xd_lab (ar 22) N k))) ∧ M = (xo m s ar h0, n, 0, 0)) := by
    intro N
    induction N with
    | zero =>
      intro k k1 k0 k2
      refine xe_s (f := (3, _, _, _)) xt_g329 rfl rfl rfl rfl rfl ?_
      refine xe_s (f := (4, _, _, _)) xt_g329 rfl rfl rfl rfl rfl ?_
      refine xe_ic_le xt_g329 rfl (t := 26) rfl (q := 7) rfl (by first | omega | exact hw.1 _ | exact hw.2 _ _) (by first | omega | exact hw.1 _ | exact hw.2 _ _) (fun hb => ?_) (fun hb => ?_)
      · refine xe_s (f := (27, _, _, _)) xt_g329 rfl rfl rfl rfl rfl ?_
        refine xe_iret xt_g329 rfl rfl xi_int.1 ?_
        exact ⟨rfl, rfl⟩
      · exact absurd hb (by omega)
    | succ N ih =>
      intro k k1 k0 k2
      refine xe_s (f := (3, _, _, _)) xt_g329 rfl rfl rfl rfl rfl ?_
      refine xe_s (f := (4, _, _, _)) xt_g329 rfl rfl rfl rfl rfl ?_
      refine xe_ic_le xt_g329 rfl (t := 26) rfl (q := 7) rfl (by first | omega | exact hw.1 _ | exact hw.2 _ _) (by first | omega | exact hw.1 _ | exact hw.2 _ _) (fun hb => ?_) (fun hb => ?_)
      · exact absurd hb (by omega)
      · refine xe_s (f := (8, _, _, _)) xt_g329 rfl rfl rfl rfl rfl ?_
        refine xe_mga xt_g329 rfl (q := 11) rfl (xf_13_43 fm) (by decide) rfl (by omega) ?_
        refine xe_s (f := (12, _, _, _)) xt_g329 rfl rfl rfl rfl rfl ?_
        refine xe_s (f := (13, _, xi 1 :: _, _)) xt_g329 rfl rfl rfl rfl rfl ?_
        refine xe_isub xt_g329 rfl (q := 14) rfl ?_
        refine xe_mal (ok := xm_isN) (ty := .int) xt_g329 rfl (q := 15) rfl (fun _ _ => ⟨rfl, rfl, rfl, rfl⟩) rfl rfl rfl (by omega) (by omega) (by omega) (by omega) ?_
        refine xe_bipush xt_g329 rfl (q := 17) rfl (by decide) (by decide) ?_
        refine xe_ic_eq xt_g329 rfl (t := 26) rfl (q := 20) rfl (by first | omega | exact hw.1 _ | exact hw.2 _ _) (by first | omega | exact hw.1 _ | exact hw.2 _ _) (fun hb2 => ?_) (fun hb2 => ?_)
        · refine xe_s (f := (27, _, _, _)) xt_g329 rfl rfl rfl rfl rfl ?_
          refine xe_iret xt_g329 rfl rfl xi_int.1 ?_
          exact ⟨by rw [xd_lab, if_pos hb2], rfl⟩
        · refine xe_iinc xt_g329 rfl (q := 23) rfl rfl (by decide) (L1 := [(3, _), (0, _), (1, _), (2, _)]) rfl ?_
          refine xe_s (f := (2, _, _, _)) xt_g329 rfl rfl rfl rfl rfl ?_
          rw [xd_lab, if_neg hb2]
          exact ih (k - 1) (by omega) (by omega) (by omega)
  exact loop _ e (by omega) hr.1 rfl
end XM6
