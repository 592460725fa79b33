/-! steps that read and write the heap -/
theorem xz_inj {n0 lo : Nat} {ao : Nat → Nat} (h1 : ∀ i, i < n0 → ao i < lo) (h2 : ∀ i j, i < n0 → j < n0 → ao i = ao j → i = j) {i j : Nat} (h : xz_ad n0 lo ao i = xz_ad n0 lo ao j) : i = j := by
  unfold xz_ad at h
  split at h
  · split at h
    · exact h2 i j (by assumption) (by assumption) h
    · have := h1 i (by assumption)
      omega
  · split at h
    · have := h1 j (by assumption)
      omega
    · omega
theorem xz_rf {ad : Nat → Nat} {v : Value} {a : Option Nat} (h : xm_rf v = some a) : xz_v ad v = va_rf (a.map ad) := by
  cases v <;> simp [xm_rf] at h <;> subst h <;> rfl
theorem xz_v_rf {ad : Nat → Nat} (a : Option Nat) : xz_v ad (va_rf a) = va_rf (a.map ad) := by cases a <;> rfl
theorem xz_out {i : Int32} {k : Nat} (h : xm_out i k = false) : vp_in i k := by
  unfold xm_out at h
  unfold vp_in
  simpa using h
theorem xz_nar_fits {ty : FieldType} (h : ty = .int ∨ ty = .byte ∨ ty = .boolean ∨ ty = .char) (x : Int32) : fits ty (.int (vp_nar ty x)) = true := by
  rcases h with rfl | rfl | rfl | rfl
  · rfl
  · rw [vp_nar_byte]; exact pk_fb x
  · show fits .boolean (.int (x &&& 1)) = true
    rw [pk_and x 1 (by decide)]
    have h : x.toBitVec.toNat % 2 ^ 1 = 0 ∨ x.toBitVec.toNat % 2 ^ 1 = 1 := by omega
    rcases h with h | h <;> rw [h] <;> decide
  · show fits .char (.int (x.toUInt32.toUInt16.toUInt32.toInt32)) = true
    have e : x.toUInt32.toUInt16.toUInt32.toInt32 = (x.toUInt32 % 65536).toInt32 := by
      apply Int32.toBitVec_inj.mp
      apply BitVec.eq_of_toNat_eq
      show x.toUInt32.toUInt16.toUInt32.toNat = (x.toUInt32 % 65536).toNat
      rw [UInt32.toNat_mod]
      simp
    rw [e]
    exact pk_fc x
section XH
variable {p : Program} {l : Launch} {e : Env} {R : Room} {s : State} {m : MethodId} {args : Array Value} {below : List Frame} {meth : Method} {c : Code} {X : xm_T} {tb : List Cond} {own : String} {cc : ByteArray} {nL : Nat} {ini : Bool} {D : va_G} {dA : Nat → ClassId} {lo n0 : Nat} {ao : Nat → Nat} {ho : Nat → va_E} {Q : State → Prop}
theorem xz_acmp_eq {off : Int} (C : xz_C X tb own cc nL ini p s m args meth c D dA lo n0 ao ho) : xz_S p l e R s m args below meth c X own cc nL ini D dA lo n0 ao ho Q (.if_acmp .eq off) 3 := by
  intro pc L S M f hd hs _ _ _ _ k H locs ls hW hS hl
  obtain ⟨⟨hx, hb, hml, hown, hts, hin⟩, -, ⟨-, -, kO, -, -, kI, -⟩⟩ := C
  have inj := @xz_inj n0 lo ao (fun i hi => (kO i hi).1) kI
  simp only [xm_st, xm_ba] at hs
  split at hs
  · rename_i y x r
    split at hs
    · rename_i a b ha hb'
      simp only [xm_br] at hs
      split at hs
      · rename_i t ht
        cases hs
        have k := k H locs ls hW hS hl
        show W p l e R s m args below meth c H locs _ _ Q (F0 m pc ls (xz_v (xz_ad n0 lo ao) y :: xz_v (xz_ad n0 lo ao) x :: r.map (xz_v (xz_ad n0 lo ao))))
        rw [xz_rf ha, xz_rf hb']
        refine lv_acmp_eq hx hb hd (xz_j ht) (fun hc => ?_) (fun hc => ?_)
        · have hab : a = b := by
            cases a <;> cases b <;> simp at hc ⊢
            exact inj hc
          simp only [hab, decide_true, if_true] at k
          exact k
        · have hab : ¬ a = b := fun q => hc (by rw [q])
          simp only [hab, decide_false, Bool.false_eq_true, if_false] at k
          exact k
      · cases hs
    · cases hs
  · cases hs
theorem xz_acmp_ne {off : Int} (C : xz_C X tb own cc nL ini p s m args meth c D dA lo n0 ao ho) : xz_S p l e R s m args below meth c X own cc nL ini D dA lo n0 ao ho Q (.if_acmp .ne off) 3 := by
  intro pc L S M f hd hs _ _ _ _ k H locs ls hW hS hl
  obtain ⟨⟨hx, hb, hml, hown, hts, hin⟩, -, ⟨-, -, kO, -, -, kI, -⟩⟩ := C
  have inj := @xz_inj n0 lo ao (fun i hi => (kO i hi).1) kI
  simp only [xm_st, xm_ba] at hs
  split at hs
  · rename_i y x r
    split at hs
    · rename_i a b ha hb'
      simp only [xm_br] at hs
      split at hs
      · rename_i t ht
        cases hs
        have k := k H locs ls hW hS hl
        show W p l e R s m args below meth c H locs _ _ Q (F0 m pc ls (xz_v (xz_ad n0 lo ao) y :: xz_v (xz_ad n0 lo ao) x :: r.map (xz_v (xz_ad n0 lo ao))))
        rw [xz_rf ha, xz_rf hb']
        refine lv_acmp_ne hx hb hd (xz_j ht) (fun hc => ?_) (fun hc => ?_)
        · have hab : ¬ a = b := fun q => hc (by rw [q])
          simp only [hab, decide_false, Bool.not_false, if_true] at k
          exact k
        · have hab : a = b := by
            cases a <;> cases b <;> simp at hc ⊢
            exact inj hc
          simp only [hab, decide_true, Bool.not_true, Bool.false_eq_true, if_false] at k
          exact k
      · cases hs
    · cases hs
  · cases hs
theorem xz_same {ref o n d : String} (hts : ∀ w ∈ tb, w.before args s = true) (h : ref = o ∨ Cond.sameField ref o n d ∈ tb) : ∀ x, s.fieldFound? o n d = some x → s.fieldFound? ref n d = some x := by
  rcases h with h | h
  · subst h; exact fun _ q => q
  · exact fun x q => u_same (hts _ h) x q
theorem xz_getfield {idx : Nat} (C : xz_C X tb own cc nL ini p s m args meth c D dA lo n0 ao ho) : xz_S p l e R s m args below meth c X own cc nL ini D dA lo n0 ao ho Q (.getfield idx) 3 := by
  intro pc L S M f hd hs _ _ _ _ k H locs ls hW hS hl
  obtain ⟨⟨hx, hb, hml, hown, hts, hin⟩, ⟨tf, tc, tn, ta, tq⟩, ⟨kK, kA, kO, -, -, kI, -⟩⟩ := C
  simp only [xm_st, xm_gf] at hs
  split at hs
  · rename_i a r
    split at hs
    · rename_i ci k0 cj fs hf he
      split at hs
      · rename_i hc
        obtain ⟨rfl, han⟩ := hc
        split at hs
        · rename_i v hv
          split at hs
          · rename_i hkn
            cases hs
            have k := k H locs ls hW hS hl
            obtain ⟨Cn, T, N, ref, hcl, hkN, hlk, hsm⟩ := tf own idx ci k0 hf
            have hsame := xz_same (args := args) (s := s) hts hsm
            show W p l e R s m args below meth c H locs _ _ Q (F0 m pc ls (.ref (xz_ad n0 lo ao a) :: r.map (xz_v (xz_ad n0 lo ao))))
            have hvm : (fs.map (xz_v (xz_ad n0 lo ao)))[k0]? = some (xz_v (xz_ad n0 lo ao) v) := by rw [List.getElem?_map, hv]; rfl
            by_cases ho' : a < n0
            · rw [xz_old ho']
              obtain ⟨-, hO⟩ := kO a ho'
              rw [← hW.2.2.1 a ho', he] at hO
              obtain ⟨C2, T2, N2, hcl2, -, hOF⟩ := hO
              cases hcl.symm.trans hcl2
              obtain ⟨cf, kf, fi, fd, cell, h1, h2, h3, h4, h5, h6⟩ := (hOF k0 v hv hkn).kept hS.2.1
              rcases hlk with hlk | ⟨-, host, hlk⟩
              · exact W.getf hx hb hown (hts _ hlk) (hsame _ h1) h2 h3 h4 (v := xz_v (xz_ad n0 lo ao) v) h5 rfl rfl hd k
              · exact va_Wgetf hx hb hown (hts _ hlk) (hsame _ h1) h2 h3 h4 (v := xz_v (xz_ad n0 lo ao) v) h5 rfl rfl hd k
            · have h0 : n0 ≤ a := Nat.not_lt.mp ho'
              rw [xz_own h0]
              have hat := xz_W_at hW h0 han
              rw [he] at hat
              have hP : va_P D (xm_cl X) [(lo + (a - n0), .inr (ci, fs.map (xz_v (xz_ad n0 lo ao))))] H := by
                intro j q hq
                have hz : j < 1 := (List.getElem?_eq_some_iff.mp hq).1
                rw [show j = 0 by omega] at hq
                cases hq
                exact hat
              rcases hlk with hlk | ⟨-, host, hlk⟩
              · exact va_get (D := D) (ci := ci) (v := xz_v (xz_ad n0 lo ao) v) (C := Cn) (T := T) (N := N) hx hb hts (tc ci Cn T N hcl).1 hown kK hP 0 rfl hcl k0 hkN (hts _ hlk) hsame hvm hd k
              · exact va_getN (D := D) (ci := ci) (v := xz_v (xz_ad n0 lo ao) v) (C := Cn) (T := T) (N := N) hx hb hts (tc ci Cn T N hcl).1 hown kK hP 0 rfl hcl k0 hkN (hts _ hlk) hsame hvm hd k
          · cases hs
        · cases hs
      · cases hs
    · cases hs
  · cases hs
theorem xz_nar {ad : Nat → Nat} {ty : FieldType} {v : Value} (h1 : narrow ty v = v) (h2 : fits ty v = true) : narrow ty (xz_v ad v) = xz_v ad v ∧ fits ty (xz_v ad v) = true := by
  cases v with
  | ref a => refine ⟨?_, ?_⟩ <;> cases ty <;> simp_all [xz_v, narrow, fits]
  | _ => exact ⟨h1, h2⟩
theorem xz_putfield {idx : Nat} (C : xz_C X tb own cc nL ini p s m args meth c D dA lo n0 ao ho) : xz_S p l e R s m args below meth c X own cc nL ini D dA lo n0 ao ho Q (.putfield idx) 3 := by
  intro pc L S M f hd hs _ _ _ _ k H locs ls hW hS hl
  obtain ⟨⟨hx, hb, hml, hown, hts, hin⟩, ⟨tf, tc, tn, ta, tq⟩, ⟨kK, kA, kO, -, -, kI, -⟩⟩ := C
  simp only [xm_st, xm_pf] at hs
  split at hs
  · rename_i v a r
    split at hs
    · rename_i ci k0 cj fs hf he
      split at hs
      · rename_i q hq
        split at hs
        · rename_i hc
          obtain ⟨rfl, h0, han, hkl, hkq, hn, hfi, hfin⟩ := hc
          cases hs
          obtain ⟨Cn, T, N, ref, hcl, hkN, hlk, hsm⟩ := tf own idx ci k0 hf
          have hqe : q = (Cn, T, N) := Option.some.inj (hq.symm.trans hcl)
          subst hqe
          have hsame := xz_same (args := args) (s := s) hts hsm
          obtain ⟨tcw, tct, tcn⟩ := tc ci Cn T N hcl
          obtain ⟨hn', hfi'⟩ := xz_nar (ad := xz_ad n0 lo ao) hn hfi
          show W p l e R s m args below meth c H locs _ _ Q (F0 m pc ls (xz_v (xz_ad n0 lo ao) v :: .ref (xz_ad n0 lo ao a) :: r.map (xz_v (xz_ad n0 lo ao))))
          rw [xz_own h0]
          have hat := xz_W_at hW h0 han
          rw [he] at hat
          have hat : va_at D (xm_cl X) (lo + (a - n0), .inr (ci, fs.map (xz_v (xz_ad n0 lo ao)))) H := hat
          have hap := va_apart (own := own) hts tcw (xm_ty X ci) tct tcn kK hcl
          obtain ⟨r', h1, cell, q1, q2, q3, q4⟩ := hat
          have hr : r' = (Cn, T, N) := Option.some.inj (h1.symm.trans hcl)
          subst hr
          obtain ⟨hSl, hfc, kC, hkC, hkind⟩ := kK.1 ci _ hcl
          obtain ⟨cf, kf, fi, fd, hi, hsl⟩ := hSl k0 hkN
          have hst := (u_facts hfc hkC (u_lays hts tcw hkN) hi).1
          have fin : ∀ H' : Heap, H'[lo + (a - n0)]? = some (cell.setSlot (D.2 ci k0) (xz_v (xz_ad n0 lo ao) v)) → H'.size = H.size → (∀ q, q ≠ lo + (a - n0) → H'[q]? = H[q]?) →
              W p l e R s m args below meth c H' (locs ++ [⟨lo + (a - n0), D.2 ci k0⟩]) M.2.2.1 M.2.2.2 Q (F0 m (pc + 3) ls (r.map (xz_v (xz_ad n0 lo ao)))) := by
            intro H' e1 e2 e3
            refine k H' _ ls (xz_W_set (e := .inr (ci, fs.set k0 v)) hW h0 han (fun _ _ _ _ h => by cases h) e2 e3 ?_ _ _) (hS.put e2 e3 (Nat.le_add_right _ _)) hl
            show ∃ r : vw_C, _
            refine ⟨_, hcl, t_OB.to (V := updV (vp_V (fs.map (xz_v (xz_ad n0 lo ao)))) k0 (xz_v (xz_ad n0 lo ao) v)) ⟨_, e1, q2, q3, t_set q4 hap hkN _⟩ (fun j _ => ?_)⟩
            rw [List.map_set]
            exact vp_updV_set (by rw [List.length_map]; exact hkl) _ j
          have hlay := hts _ (tcw _ (u_in_lay hkN))
          unfold u_lay at hlay
          by_cases hfn : (T k0).2.2.2 = true
          · rw [if_pos hfn] at hlay
            rcases hfin with hfin | ⟨hini, hdecl⟩
            · rw [show (T k0).2.2.2 = false from hfin] at hfn
              cases hfn
            · rcases hlk with hlk | ⟨hnf, -⟩
              · have hdecl : (T k0).1 = own := hdecl
                have hcf : m.cls = cf := by
                  obtain ⟨_, _, c', _, _, _, -, -, hf', -, -, -, hown2, -⟩ := Cond.laysFinal_spec hlay
                  have e1 : c' = cf := by have := hi.symm.trans hf'; simp at this; exact this.1.symm
                  rw [hdecl] at hown2
                  rw [← e1]; exact Option.some.inj (hown.symm.trans hown2)
                have h6 := u_fits hfc hkC hkind (Or.inr hlay) hi (tct k0 hkN) hn' hfi'
                refine W.putFinK hx hb hown (hts _ hlk) (hsame _ hi) hst hcf (hin hini) (by rw [q2]; exact h6) q1 q3 (by rw [hsl]; exact k2_hasslot (q4 k0 hkN)) rfl rfl hd fun H' e1 e2 e3 => ?_
                rw [hsl] at e1 ⊢
                exact fin H' e1 e2 e3
              · rw [hnf] at hfn
                cases hfn
          · rw [if_neg hfn] at hlay
            have h6 := u_store hfc hkC hkind hlay hi (tct k0 hkN) hn' hfi'
            rcases hlk with hlk | ⟨-, host, hlk⟩
            · refine W.putK hx hb (f := fd) ⟨hown, hts _ hlk, ⟨_, _, _, hsame _ hi⟩, hst⟩ (by rw [q2]; exact h6) q1 q3 (by rw [hsl]; exact k2_hasslot (q4 k0 hkN)) rfl rfl hd fun H' e1 e2 e3 => ?_
              rw [hsl] at e1 ⊢
              exact fin H' e1 e2 e3
            · refine va_WputK hx hb (f := fd) hown (hts _ hlk) (hsame _ hi) hst (by rw [q2]; exact h6) q1 q3 (by rw [hsl]; exact k2_hasslot (q4 k0 hkN)) rfl rfl hd fun H' e1 e2 e3 => ?_
              rw [hsl] at e1 ⊢
              exact fin H' e1 e2 e3
        · cases hs
      · cases hs
    · cases hs
  · cases hs
/-- an array of ints of any kind, read -/
theorem xz_ard (C : xz_C X tb own cc nL ini p s m args meth c D dA lo n0 ao ho) {M : xm_M} {H : Heap} {locs : List Loc} (hW : xz_W X D dA lo n0 ao ho M H) (hS : va_S (fun q => lo ≤ q) s.heap H locs) {a t k : Nat} {f : Nat → Int32} {ty : FieldType} (han : a < M.2.1) (he : M.1 a = .inl (t, k, .inl f)) (ht : (xm_at X)[t]? = some ty) :
    ∃ cell : Cell, H[xz_ad n0 lo ao a]? = some cell ∧ s.isArrayOf cell ty ∧ cell.vm ≠ .unknown ∧ k ≤ cell.slots.size ∧ cell.slots.size.toInt32 = Int32.ofNat k ∧ ∀ j : Nat, j < k → cell.slots[j]? = some (.int (f j)) := by
  obtain ⟨-, -, ⟨kK, kA, kO, -, -, kI, -⟩⟩ := C
  by_cases ho' : a < n0
  · rw [xz_old ho']
    obtain ⟨-, hO⟩ := kO a ho'
    rw [← hW.2.2.1 a ho', he] at hO
    obtain ⟨ty', ht', hT⟩ := hO
    cases ht.symm.trans ht'
    obtain ⟨cell, h1, h2, h3, h4, h5, h6, h7⟩ := hT.kept hS.2.1
    exact ⟨cell, h1, h2, h3, h4, h5, h6⟩
  · have h0 : n0 ≤ a := Nat.not_lt.mp ho'
    rw [xz_own h0]
    have hat := xz_W_at hW h0 han
    rw [he] at hat
    have hat : H[lo + (a - n0)]? = some (arrV (dA t) k (fun j => .int (f j))) := hat
    refine ⟨_, hat, (kA t ty ht).1 k _, (fun q => by cases q), Nat.le_of_eq (arrV_size _ _ _).symm, congrArg Nat.toInt32 (arrV_size _ _ _), fun j hj => arrV_read _ _ hj⟩
theorem xz_ain {i : Int32} {k sz : Nat} (h : xm_out i k = false) (hk : k ≤ sz) : ¬ (i < 0 ∨ sz ≤ i.toNatClampNeg) ∧ i.toNatClampNeg < k := by
  have h := xz_out h
  unfold vp_in at h
  refine ⟨fun q => h ?_, Nat.not_le.mp fun q => h (Or.inr q)⟩
  rcases q with q | q
  · exact Or.inl q
  · exact Or.inr (Nat.le_trans hk q)
theorem xz_iaload (C : xz_C X tb own cc nL ini p s m args meth c D dA lo n0 ao ho) : xz_S p l e R s m args below meth c X own cc nL ini D dA lo n0 ao ho Q .iaload 1 := by
  intro pc L S M f hd hs _ _ _ _ k H locs ls hW hS hl
  simp only [xm_st, xm_al] at hs
  split at hs
  · rename_i i a r
    split at hs
    · rename_i t k0 g he
      split at hs
      · rename_i ty ht
        split at hs
        · rename_i hc
          obtain ⟨hok, han, hout⟩ := hc
          cases hs
          obtain ⟨cell, h1, h2, h3, h4, h5, h6⟩ := xz_ard C hW hS han he ht
          obtain ⟨hi1, hi2⟩ := xz_ain hout h4
          obtain ⟨⟨hx, hb, -⟩, -, -⟩ := C
          have k := k H locs ls hW hS hl
          cases ty with
          | int => exact W.iald hx hb h1 h2 h3 hi1 (h6 _ hi2) rfl rfl hd k
          | _ => exact absurd hok (by simp [xm_isN])
        · cases hs
      · cases hs
    · cases hs
  · cases hs
theorem xz_baload (C : xz_C X tb own cc nL ini p s m args meth c D dA lo n0 ao ho) : xz_S p l e R s m args below meth c X own cc nL ini D dA lo n0 ao ho Q .baload 1 := by
  intro pc L S M f hd hs _ _ _ _ k H locs ls hW hS hl
  simp only [xm_st, xm_al] at hs
  split at hs
  · rename_i i a r
    split at hs
    · rename_i t k0 g he
      split at hs
      · rename_i ty ht
        split at hs
        · rename_i hc
          obtain ⟨hok, han, hout⟩ := hc
          cases hs
          obtain ⟨cell, h1, h2, h3, h4, h5, h6⟩ := xz_ard C hW hS han he ht
          obtain ⟨hi1, hi2⟩ := xz_ain hout h4
          obtain ⟨⟨hx, hb, -⟩, -, -⟩ := C
          have k := k H locs ls hW hS hl
          cases ty with
          | byte => exact W.bald hx hb h1 h2 h3 hi1 (h6 _ hi2) rfl rfl hd k
          | boolean => exact W.zald hx hb h1 h2 h3 hi1 (h6 _ hi2) rfl rfl hd k
          | _ => exact absurd hok (by simp [xm_isB])
        · cases hs
      · cases hs
    · cases hs
  · cases hs
theorem xz_caload (C : xz_C X tb own cc nL ini p s m args meth c D dA lo n0 ao ho) : xz_S p l e R s m args below meth c X own cc nL ini D dA lo n0 ao ho Q .caload 1 := by
  intro pc L S M f hd hs _ _ _ _ k H locs ls hW hS hl
  simp only [xm_st, xm_al] at hs
  split at hs
  · rename_i i a r
    split at hs
    · rename_i t k0 g he
      split at hs
      · rename_i ty ht
        split at hs
        · rename_i hc
          obtain ⟨hok, han, hout⟩ := hc
          cases hs
          obtain ⟨cell, h1, h2, h3, h4, h5, h6⟩ := xz_ard C hW hS han he ht
          obtain ⟨hi1, hi2⟩ := xz_ain hout h4
          obtain ⟨⟨hx, hb, -⟩, -, -⟩ := C
          have k := k H locs ls hW hS hl
          cases ty with
          | char => exact W.cald hx hb h1 h2 h3 hi1 (h6 _ hi2) rfl rfl hd k
          | _ => exact absurd hok (by simp [xm_isC])
        · cases hs
      · cases hs
    · cases hs
  · cases hs
theorem xz_aaload (C : xz_C X tb own cc nL ini p s m args meth c D dA lo n0 ao ho) : xz_S p l e R s m args below meth c X own cc nL ini D dA lo n0 ao ho Q .aaload 1 := by
  intro pc L S M f hd hs _ _ _ _ k H locs ls hW hS hl
  obtain ⟨⟨hx, hb, -⟩, -, ⟨kK, kA, kO, -, -, kI, -⟩⟩ := C
  simp only [xm_st, xm_aq] at hs
  split at hs
  · rename_i i a r
    split at hs
    · rename_i t k0 g he
      split at hs
      · rename_i Cn ht
        split at hs
        · rename_i hc
          obtain ⟨han, hout⟩ := hc
          cases hs
          have k := k H locs ls hW hS hl
          show W p l e R s m args below meth c H locs _ _ Q (F0 m pc ls (.int i :: .ref (xz_ad n0 lo ao a) :: r.map (xz_v (xz_ad n0 lo ao))))
          by_cases ho' : a < n0
          · obtain ⟨-, hO⟩ := kO a ho'
            rw [← hW.2.2.1 a ho', he] at hO
            have hO : (xm_at X).length ≤ t := hO
            exact absurd (List.getElem?_eq_some_iff.mp ht).1 (Nat.not_lt.mpr hO)
          · have h0 : n0 ≤ a := Nat.not_lt.mp ho'
            rw [xz_own h0]
            have hat := xz_W_at hW h0 han
            rw [he] at hat
            have hat : H[lo + (a - n0)]? = some (arrV (dA t) k0 (fun j => va_rf ((g j).map (xz_ad n0 lo ao)))) := hat
            obtain ⟨hi1, hi2⟩ := xz_ain (sz := k0) hout (Nat.le_refl _)
            have k : W p l e R s m args below meth c H locs _ _ Q (F0 m (pc + 1) ls (xz_v (xz_ad n0 lo ao) (va_rf (g i.toNatClampNeg)) :: r.map (xz_v (xz_ad n0 lo ao)))) := k
            rw [xz_v_rf] at k
            exact W.aald (v := va_rf ((g i.toNatClampNeg).map (xz_ad n0 lo ao))) (ty := .object Cn) hx hb hat ((kA t _ ht).1 k0 _) rfl (fun q => by cases q) (by rw [arrV_size]; exact hi1) (arrV_read _ _ hi2) rfl rfl hd k
        · cases hs
      · cases hs
    · cases hs
  · cases hs
theorem xz_arraylength (C : xz_C X tb own cc nL ini p s m args meth c D dA lo n0 ao ho) : xz_S p l e R s m args below meth c X own cc nL ini D dA lo n0 ao ho Q .arraylength 1 := by
  intro pc L S M f hd hs _ _ _ _ k H locs ls hW hS hl
  have C0 := C
  obtain ⟨⟨hx, hb, -⟩, -, ⟨kK, kA, kO, -, -, kI, -⟩⟩ := C
  simp only [xm_st, xm_alen] at hs
  split at hs
  · rename_i a r
    split at hs
    · rename_i t k0 g he
      split at hs
      · rename_i hc
        obtain ⟨han, htl⟩ := hc
        cases hs
        have k := k H locs ls hW hS hl
        have ht : (xm_at X)[t]? = some (xm_at X)[t] := List.getElem?_eq_getElem htl
        show W p l e R s m args below meth c H locs _ _ Q (F0 m pc ls (.ref (xz_ad n0 lo ao a) :: r.map (xz_v (xz_ad n0 lo ao))))
        by_cases ho' : a < n0
        · obtain ⟨-, hO⟩ := kO a ho'
          rw [← hW.2.2.1 a ho', he] at hO
          rcases g with g | g
          · obtain ⟨cell, h1, h2, h3, h4, h5, h6⟩ := xz_ard C0 hW hS han he ht
            exact W.alen hx hb h1 h2 h5 rfl rfl hd k
          · have hO : (xm_at X).length ≤ t := hO
            exact absurd htl (Nat.not_lt.mpr hO)
        · have h0 : n0 ≤ a := Nat.not_lt.mp ho'
          rw [xz_own h0]
          have hat := xz_W_at hW h0 han
          rw [he] at hat
          have hat : H[lo + (a - n0)]? = some (vp_cell (dA t) (k0, xz_a (xz_ad n0 lo ao) g)) := hat
          have h2 := (kA t _ ht).1
          rcases g with g | g | g | g | g
          · exact W.alen hx hb hat (h2 k0 (fun j => .int (g j))) (congrArg Nat.toInt32 (arrV_size _ _ _)) rfl rfl hd k
          · exact W.alen hx hb hat (h2 k0 (fun j => .long (g j))) (congrArg Nat.toInt32 (arrV_size _ _ _)) rfl rfl hd k
          · exact W.alen hx hb hat (h2 k0 (fun j => .float (g j))) (congrArg Nat.toInt32 (arrV_size _ _ _)) rfl rfl hd k
          · exact W.alen hx hb hat (h2 k0 (fun j => .double (g j))) (congrArg Nat.toInt32 (arrV_size _ _ _)) rfl rfl hd k
          · exact W.alen hx hb hat (h2 k0 (fun j => va_rf ((g j).map (xz_ad n0 lo ao)))) (congrArg Nat.toInt32 (arrV_size _ _ _)) rfl rfl hd k
      · cases hs
    · cases hs
  · cases hs
theorem xz_upd {f : Nat → Int32} {k : Nat} {x : Int32} {cI : ClassId} {N : Nat} : (arrV cI N (fun j => .int (f j))).setSlot k (.int x) = arrV cI N (fun j => .int (upd f k x j)) := by
  rw [arrV_store]
  congr 1
  funext q
  simp only [updV, upd]
  split <;> rfl
theorem xz_ast (C : xz_C X tb own cc nL ini p s m args meth c D dA lo n0 ao ho) {ins : Instr} (ok : FieldType → Bool) (hst : ∀ (pc : Nat) (L : xm_L) (S : List Value) (M : xm_M), xm_st X own ini nL n0 ins pc L S M = xm_as X ok n0 pc L S M)
    (hok : ∀ ty, ok ty = true → ty = .int ∨ ty = .byte ∨ ty = .boolean ∨ ty = .char)
    (row : ∀ (ty : FieldType), ok ty = true → ∀ {H : Heap} {locs : List Loc} {cells slots : Nat} {a : Addr} {cell : Cell} {j x : Int32} {pc : Nat} {ls : Array Slot} {rest : List Value}, H[a]? = some cell → s.isArrayOf cell ty → cell.vm ≠ .unknown → ¬ (j < 0 ∨ cell.slots.size ≤ j.toNatClampNeg) → decode cc pc = .ok (ins, 1) →
      (∀ H' : Heap, H'[a]? = some (cell.setSlot j.toNatClampNeg (.int (vp_nar ty x))) → H'.size = H.size → (∀ q, q ≠ a → H'[q]? = H[q]?) → W p l e R s m args below meth c H' (locs ++ [⟨a, j.toNatClampNeg⟩]) cells slots Q (F0 m (pc + 1) ls rest)) → W p l e R s m args below meth c H locs cells slots Q (F0 m pc ls (.int x :: .int j :: .ref a :: rest))) :
    xz_S p l e R s m args below meth c X own cc nL ini D dA lo n0 ao ho Q ins 1 := by
  intro pc L S M f hd hs _ _ _ _ k H locs ls hW hS hl
  obtain ⟨⟨hx, hb, -⟩, -, ⟨kK, kA, kO, -, -, kI, -⟩⟩ := C
  rw [hst] at hs
  simp only [xm_as] at hs
  split at hs
  · rename_i x i a r
    split at hs
    · rename_i t k0 g he
      split at hs
      · rename_i ty ht
        split at hs
        · rename_i hc
          obtain ⟨ho1, h0, han, hout⟩ := hc
          cases hs
          show W p l e R s m args below meth c H locs _ _ Q (F0 m pc ls (.int x :: .int i :: .ref (xz_ad n0 lo ao a) :: r.map (xz_v (xz_ad n0 lo ao))))
          rw [xz_own h0]
          have hat := xz_W_at hW h0 han
          rw [he] at hat
          have hat : H[lo + (a - n0)]? = some (arrV (dA t) k0 (fun j => .int (g j))) := hat
          obtain ⟨hi1, hi2⟩ := xz_ain (sz := k0) hout (Nat.le_refl _)
          refine row ty ho1 hat ((kA t ty ht).1 k0 _) (fun q => by cases q) (by rw [arrV_size]; exact hi1) hd fun H' e1 e2 e3 => ?_
          rw [xz_upd] at e1
          refine k H' _ ls (xz_W_set (e := .inl (t, k0, .inl (upd g i.toNatClampNeg (vp_nar ty x)))) hW h0 han (fun t' k' f' ty' he' ht' j => ?_) e2 e3 e1 _ _) (hS.put e2 e3 (Nat.le_add_right _ _)) hl
          cases he'
          cases ht.symm.trans ht'
          simp only [upd]
          split
          · exact xz_nar_fits (hok ty ho1) x
          · exact hW.2.2.2.1 a t k0 g ty han he ht j
        · cases hs
      · cases hs
    · cases hs
  · cases hs
theorem xz_iastore (C : xz_C X tb own cc nL ini p s m args meth c D dA lo n0 ao ho) : xz_S p l e R s m args below meth c X own cc nL ini D dA lo n0 ao ho Q .iastore 1 := by
  refine xz_ast C xm_isN (fun _ _ _ _ => rfl) (fun ty h => by cases ty <;> simp_all [xm_isN]) (fun ty h => ?_)
  intro H locs cells slots a cell j x pc ls rest h1 h2 h3 h4 hd kk
  cases ty with
  | int => exact W.iast C.1.1 C.1.2.1 h1 h2 h3 h4 rfl rfl hd kk
  | _ => exact absurd h (by simp [xm_isN])
theorem xz_bastore (C : xz_C X tb own cc nL ini p s m args meth c D dA lo n0 ao ho) : xz_S p l e R s m args below meth c X own cc nL ini D dA lo n0 ao ho Q .bastore 1 := by
  refine xz_ast C xm_isB (fun _ _ _ _ => rfl) (fun ty h => by cases ty <;> simp_all [xm_isB]) (fun ty h => ?_)
  intro H locs cells slots a cell j x pc ls rest h1 h2 h3 h4 hd kk
  cases ty with
  | byte => exact W.bast C.1.1 C.1.2.1 h1 h2 h3 h4 rfl rfl hd kk
  | boolean => exact W.zast C.1.1 C.1.2.1 h1 h2 h3 h4 rfl rfl hd kk
  | _ => exact absurd h (by simp [xm_isB])
theorem xz_castore (C : xz_C X tb own cc nL ini p s m args meth c D dA lo n0 ao ho) : xz_S p l e R s m args below meth c X own cc nL ini D dA lo n0 ao ho Q .castore 1 := by
  refine xz_ast C xm_isC (fun _ _ _ _ => rfl) (fun ty h => by cases ty <;> simp_all [xm_isC]) (fun ty h => ?_)
  intro H locs cells slots a cell j x pc ls rest h1 h2 h3 h4 hd kk
  cases ty with
  | char => exact W.cast C.1.1 C.1.2.1 h1 h2 h3 h4 rfl rfl hd kk
  | _ => exact absurd h (by simp [xm_isC])
theorem xz_updq {f : Nat → Option Nat} {k : Nat} {x : Option Nat} {ad : Nat → Nat} {cI : ClassId} {N : Nat} : (arrV cI N (fun j => va_rf ((f j).map ad))).setSlot k (va_rf (x.map ad)) = arrV cI N (fun j => va_rf ((va_up f k x j).map ad)) := by
  rw [arrV_store]
  congr 1
  funext q
  simp only [updV, va_up]
  split <;> rfl
theorem xz_aastore (C : xz_C X tb own cc nL ini p s m args meth c D dA lo n0 ao ho) : xz_S p l e R s m args below meth c X own cc nL ini D dA lo n0 ao ho Q .aastore 1 := by
  intro pc L S M f hd hs _ _ _ _ k H locs ls hW hS hl
  obtain ⟨⟨hx, hb, -⟩, -, ⟨kK, kA, kO, -, -, kI, -⟩⟩ := C
  simp only [xm_st, xm_asq] at hs
  split at hs
  · rename_i v i a r
    split at hs
    · rename_i t k0 g he
      split at hs
      · rename_i Cn ht
        split at hs
        · rename_i hc
          obtain ⟨h0, han, hout⟩ := hc
          have hat := xz_W_at hW h0 han
          rw [he] at hat
          have hat : H[lo + (a - n0)]? = some (arrV (dA t) k0 (fun j => va_rf ((g j).map (xz_ad n0 lo ao)))) := hat
          obtain ⟨hi1, hi2⟩ := xz_ain (sz := k0) hout (Nat.le_refl _)
          split at hs
          · cases hs
            show W p l e R s m args below meth c H locs _ _ Q (F0 m pc ls (.null :: .int i :: .ref (xz_ad n0 lo ao a) :: r.map (xz_v (xz_ad n0 lo ao))))
            rw [xz_own h0]
            refine va_WaastN (C := Cn) hx hb hat ((kA t _ ht).1 k0 _) (fun q => by cases q) (by rw [arrV_size]; exact hi1) rfl rfl hd fun H' e1 e2 e3 => ?_
            have e1 : H'[lo + (a - n0)]? = some (arrV (dA t) k0 (fun j => va_rf ((va_up g i.toNatClampNeg none j).map (xz_ad n0 lo ao)))) := by rw [e1, ← xz_updq]; rfl
            exact k H' _ ls (xz_W_set (e := .inl (t, k0, .inr (.inr (.inr (.inr (va_up g i.toNatClampNeg none)))))) hW h0 han (fun _ _ _ _ h => by cases h) e2 e3 e1 _ _) (hS.put e2 e3 (Nat.le_add_right _ _)) hl
          · rename_i b
            split at hs
            · rename_i ci vs hv
              split at hs
              · rename_i q hq
                split at hs
                · rename_i hc
                  obtain ⟨hb0, hbn, hqC⟩ := hc
                  cases hs
                  show W p l e R s m args below meth c H locs _ _ Q (F0 m pc ls (.ref (xz_ad n0 lo ao b) :: .int i :: .ref (xz_ad n0 lo ao a) :: r.map (xz_v (xz_ad n0 lo ao))))
                  have hv2 := xz_W_at hW hb0 hbn
                  rw [hv] at hv2
                  obtain ⟨r', hr', cellV, g1, g2, g3, -⟩ := hv2
                  have hcls := (kK.1 ci q hq).2
                  obtain ⟨kAr, comp, k1, k2, k3, -⟩ := (kA t _ ht).2
                  rw [← hqC] at k3
                  have hcomp : comp = D.1 ci := Option.some.inj (k3.symm.trans hcls.1)
                  subst hcomp
                  obtain ⟨kC, hkC, -⟩ := hcls.2
                  rw [xz_own h0]
                  have g1 : H[xz_ad n0 lo ao b]? = some cellV := by rw [xz_own hb0]; exact g1
                  refine W.aast hx hb hat (fun q h => by cases h) (fun h => by cases h) k1 k2 rfl hkC ⟨fun q => hi1 (Or.inl q), by rw [arrV_size]; exact hi2⟩ g1 (fun q h => by rw [g3] at h; cases h) (by rw [g2]; exact hkC) (by rw [g2]; exact va_assign hcls) rfl rfl hd fun H' e1 e2 e3 => ?_
                  have e1 : H'[lo + (a - n0)]? = some (arrV (dA t) k0 (fun j => va_rf ((va_up g i.toNatClampNeg (some b) j).map (xz_ad n0 lo ao)))) := by rw [e1, ← xz_updq]; rfl
                  exact k H' _ ls (xz_W_set (e := .inl (t, k0, .inr (.inr (.inr (.inr (va_up g i.toNatClampNeg (some b))))))) hW h0 han (fun _ _ _ _ h => by cases h) e2 e3 e1 _ _) (hS.put e2 e3 (Nat.le_add_right _ _)) hl
                · cases hs
              · cases hs
            · cases hs
          · cases hs
        · cases hs
      · cases hs
    · cases hs
  · cases hs
theorem xz_dv (ad : Nat → Nat) (ty : FieldType) : xz_v ad (defaultValue ty) = defaultValue ty := by cases ty <;> rfl
theorem xz_new {idx : Nat} (C : xz_C X tb own cc nL ini p s m args meth c D dA lo n0 ao ho) : xz_S p l e R s m args below meth c X own cc nL ini D dA lo n0 ao ho Q (.new idx) 3 := by
  intro pc L S M f hd hs hR1 hR2 _ _ k H locs ls hW hS hl
  obtain ⟨⟨hx, hb, hml, hown, hts, hin⟩, ⟨tf, tc, tn, ta, tq⟩, ⟨kK, kA, kO, -, -, kI, klo⟩⟩ := C
  simp only [xm_st, xm_new] at hs
  split at hs
  · rename_i ci hci
    split at hs
    · rename_i q hq
      cases hs
      obtain ⟨Cn, T, N, hcl, w1, w2, w3⟩ := tn own idx ci hci
      have hqe : q = (Cn, T, N) := Option.some.inj (hq.symm.trans hcl)
      subst hqe
      obtain ⟨tcw, tct, tcn⟩ := tc ci Cn T N hcl
      have hKn := kK.1 ci _ hcl
      refine W.newcK (n := N) hx hb hown (hts _ w1) (hts _ w2) (hts _ w3) rfl hd hR1 hR2 hKn.2.1 rfl fun H1 kC hkC e1 z1 o1 => ?_
      have hS1 : va_S (fun q => lo ≤ q) s.heap H1 locs := ⟨Nat.le_trans hS.1 (by omega), fun x g1 g2 => (o1 x (Nat.lt_of_lt_of_le g1 hS.1)).trans (hS.2.1 x g1 g2), hS.2.2⟩
      have hnew : va_at D (xm_cl X) (H.size, xz_e dA (xz_ad n0 lo ao) (.inr (ci, (List.range N).map (fun k => defaultValue (xm_ty X ci k))))) H1 := by
        refine ⟨_, hcl, (u_born (xm_ty X ci) hts tcw hKn hkC e1 tct).to (fun j hj => ?_)⟩
        show defaultValue (xm_ty X ci j) = (((List.range N).map (fun k => defaultValue (xm_ty X ci k))).map (xz_v (xz_ad n0 lo ao))).getD j .null
        have hj : j < N := hj
        simp [List.getD, hj, xz_dv]
      have k := k H1 locs ls (xz_W_push (e := .inr (ci, (List.range N).map (fun k => defaultValue (xm_ty X ci k)))) hW (fun _ _ _ _ h => by cases h) z1 o1 hnew _ _) hS1 hl
      have k : W p l e R s m args below meth c H1 locs _ _ Q (F0 m (pc + 3) ls (.ref (xz_ad n0 lo ao M.2.1) :: S.map (xz_v (xz_ad n0 lo ao)))) := k
      rw [xz_own hW.1, ← hW.2.1] at k
      exact k
    · cases hs
  · cases hs
theorem xz_newarray {at_ : ArrayType} (C : xz_C X tb own cc nL ini p s m args meth c D dA lo n0 ao ho) : xz_S p l e R s m args below meth c X own cc nL ini D dA lo n0 ao ho Q (.newarray at_) 2 := by
  intro pc L S M f hd hs hR1 hR2 _ _ k H locs ls hW hS hl
  obtain ⟨⟨hx, hb, hml, hown, hts, hin⟩, ⟨tf, tc, tn, ta, tq⟩, ⟨kK, kA, kO, -, -, kI, klo⟩⟩ := C
  simp only [xm_st, xm_nwa] at hs
  split at hs
  · rename_i z r
    split at hs
    · rename_i t htag
      split at hs
      · rename_i hc
        obtain ⟨ht, hz, hby⟩ := hc
        cases hs
        refine va_newaK (N := z.toNatClampNeg) hx hb (hts _ (ta.2 t _ htag ht)) rfl hd rfl hz rfl hby hR1 hR2 rfl fun H1 cA e1 z1 o1 hAr hNm => ?_
        have hS1 : va_S (fun q => lo ≤ q) s.heap H1 locs := ⟨Nat.le_trans hS.1 (by omega), fun x g1 g2 => (o1 x (Nat.lt_of_lt_of_le g1 hS.1)).trans (hS.2.1 x g1 g2), hS.2.2⟩
        have hRA := (kA t _ ht).2
        have key : cA = dA t ∧ arrV cA z.toNatClampNeg (fun _ => defaultValue (newarray.typeOf at_)) = vp_cell cA (z.toNatClampNeg, xz_a (xz_ad n0 lo ao) (xm_zero (newarray.typeOf at_))) ∧ (∀ f : Nat → Int32, xm_zero (newarray.typeOf at_) = .inl f → ∀ j, fits (newarray.typeOf at_) (.int (f j)) = true) := by
          cases at_ <;> first
            | (simp [newarray.typeOf, xm_tag] at htag; done)
            | exact ⟨Option.some.inj (hNm.symm.trans hRA), rfl, fun f hf j => by cases hf; rfl⟩
            | exact ⟨Option.some.inj (hNm.symm.trans hRA), rfl, fun f hf j => by cases hf⟩
        obtain ⟨rfl, hcell, hfit⟩ := key
        rw [hcell] at e1
        have k := k H1 locs ls (xz_W_push (e := .inl (t, z.toNatClampNeg, xm_zero (newarray.typeOf at_))) hW (fun t' k' f' ty' he' ht' j => ?_) z1 o1 e1 _ _) hS1 hl
        · have k : W p l e R s m args below meth c H1 locs _ _ Q (F0 m (pc + 2) ls (.ref (xz_ad n0 lo ao M.2.1) :: r.map (xz_v (xz_ad n0 lo ao)))) := k
          rw [xz_own hW.1, ← hW.2.1] at k
          exact k
        · simp only [Sum.inl.injEq, Prod.mk.injEq] at he'
          obtain ⟨h1, h2, h3⟩ := he'
          subst h1
          cases ht.symm.trans ht'
          exact hfit f' h3 j
      · cases hs
    · cases hs
  · cases hs
theorem xz_anewarray {idx : Nat} (C : xz_C X tb own cc nL ini p s m args meth c D dA lo n0 ao ho) : xz_S p l e R s m args below meth c X own cc nL ini D dA lo n0 ao ho Q (.anewarray idx) 3 := by
  intro pc L S M f hd hs hR1 hR2 _ _ k H locs ls hW hS hl
  obtain ⟨⟨hx, hb, hml, hown, hts, hin⟩, ⟨tf, tc, tn, ta, tq⟩, ⟨kK, kA, kO, -, -, kI, klo⟩⟩ := C
  simp only [xm_st, xm_nwq] at hs
  split at hs
  · rename_i z r
    split at hs
    · rename_i t ht0
      split at hs
      · rename_i hc
        obtain ⟨hz, hby⟩ := hc
        cases hs
        obtain ⟨Cn, ht, w1, w2⟩ := ta.1 own idx t ht0
        refine W.anew hx hb hown (hts _ w1) (hts _ w2) rfl hd rfl hz hby hR1 hR2 fun cA kAr comp f1 f2 f3 f4 => ?_
        generalize hH1 : H.push ({ cls := cA, slots := Array.replicate z.toNatClampNeg .null, vm := .none } : Cell) = H1
        have z1 : H1.size = H.size + 1 := by rw [← hH1, Array.size_push]
        have e1 : H1[H.size]? = some (arrV cA z.toNatClampNeg (fun _ => .null)) := by rw [← hH1, Array.getElem?_push_size, ← arrV_new]
        have o1 : ∀ q : Nat, q < H.size → H1[q]? = H[q]? := fun q hq => by rw [← hH1, Array.getElem?_push, if_neg (Nat.ne_of_lt hq)]
        have hS1 : va_S (fun q => lo ≤ q) s.heap H1 locs := ⟨Nat.le_trans hS.1 (by omega), fun x g1 g2 => (o1 x (Nat.lt_of_lt_of_le g1 hS.1)).trans (hS.2.1 x g1 g2), hS.2.2⟩
        obtain ⟨kA2, comp2, g1, g2, g3, g4⟩ := (kA t _ ht).2
        have hcA : cA = dA t := Option.some.inj (f1.symm.trans g4)
        subst hcA
        have k := k H1 locs ls (xz_W_push (e := .inl (t, z.toNatClampNeg, .inr (.inr (.inr (.inr (fun _ => none)))))) hW (fun _ _ _ _ h => by cases h) z1 o1 e1 _ _) hS1 hl
        have k : W p l e R s m args below meth c H1 locs _ _ Q (F0 m (pc + 3) ls (.ref (xz_ad n0 lo ao M.2.1) :: r.map (xz_v (xz_ad n0 lo ao)))) := k
        rw [xz_own hW.1, ← hW.2.1] at k
        exact k
      · cases hs
    · cases hs
  · cases hs
theorem xz_getstatic {idx : Nat} (C : xz_C X tb own cc nL ini p s m args meth c D dA lo n0 ao ho) : xz_S p l e R s m args below meth c X own cc nL ini D dA lo n0 ao ho Q (.getstatic idx) 3 := by
  intro pc L S M f hd hs _ _ _ _ k H locs ls hW hS hl
  obtain ⟨⟨hx, hb, hml, hown, hts, hin⟩, -, ⟨kK, kA, kO, kS, kG, kI, klo⟩⟩ := C
  simp only [xm_st, xm_pus] at hs
  split at hs
  · rename_i v hv
    split at hs
    · cases hs
      obtain ⟨Cn, n, d, ref, hZ, hlk, hsm⟩ := kS own idx v hv
      exact va_gets hx hb hZ hS hown (hts _ hlk) (xz_same hts hsm) hd (k H locs ls hW hS hl)
    · cases hs
  · cases hs
theorem xz_ldc {idx : Nat} (C : xz_C X tb own cc nL ini p s m args meth c D dA lo n0 ao ho) : xz_S p l e R s m args below meth c X own cc nL ini D dA lo n0 ao ho Q (.ldc idx) 2 := by
  intro pc L S M f hd hs _ _ _ _ k H locs ls hW hS hl
  obtain ⟨⟨hx, hb, hml, hown, hts, hin⟩, -, ⟨kK, kA, kO, kS, kG, kI, klo⟩⟩ := C
  simp only [xm_st, xm_pus] at hs
  split at hs
  · rename_i v hv
    split at hs
    · rename_i hok
      cases hs
      have k := k H locs ls hW hS hl
      rcases kG own idx v hv with ⟨x, rfl, h⟩ | ⟨x, rfl, h⟩ | ⟨i, tx, rfl, hi, h⟩
      · exact lv_ldc hx hb hown (hts _ h) hd k
      · exact absurd hok (by simp [xm_isR])
      · have k : W p l e R s m args below meth c H locs _ _ Q (F0 m (pc + 2) ls (.ref (xz_ad n0 lo ao i) :: S.map (xz_v (xz_ad n0 lo ao)))) := k
        rw [xz_old hi] at k
        exact va_ldcS hx hb hown h hd k
    · cases hs
  · cases hs
theorem xz_ldc_w {idx : Nat} (C : xz_C X tb own cc nL ini p s m args meth c D dA lo n0 ao ho) : xz_S p l e R s m args below meth c X own cc nL ini D dA lo n0 ao ho Q (.ldc_w idx) 3 := by
  intro pc L S M f hd hs _ _ _ _ k H locs ls hW hS hl
  obtain ⟨⟨hx, hb, hml, hown, hts, hin⟩, -, ⟨kK, kA, kO, kS, kG, kI, klo⟩⟩ := C
  simp only [xm_st, xm_pus] at hs
  split at hs
  · rename_i v hv
    split at hs
    · rename_i hok
      cases hs
      have k := k H locs ls hW hS hl
      rcases kG own idx v hv with ⟨x, rfl, h⟩ | ⟨x, rfl, h⟩ | ⟨i, tx, rfl, hi, h⟩
      · exact lv_ldcw hx hb hown (hts _ h) hd k
      · exact absurd hok (by simp [xm_isR])
      · have k : W p l e R s m args below meth c H locs _ _ Q (F0 m (pc + 3) ls (.ref (xz_ad n0 lo ao i) :: S.map (xz_v (xz_ad n0 lo ao)))) := k
        rw [xz_old hi] at k
        intro T hT XX
        obtain ⟨t, a1, b1⟩ := k T hT XX
        exact ⟨t, XX.ldcStringW hx hown (text := tx) (a := ao i) h.1 h.2 (g := F0 m pc ls (S.map (xz_v (xz_ad n0 lo ao)))) rfl (by rw [hb]; exact hd) t a1, b1⟩
    · cases hs
  · cases hs
theorem xz_ldc2_w {idx : Nat} (C : xz_C X tb own cc nL ini p s m args meth c D dA lo n0 ao ho) : xz_S p l e R s m args below meth c X own cc nL ini D dA lo n0 ao ho Q (.ldc2_w idx) 3 := by
  intro pc L S M f hd hs _ _ _ _ k H locs ls hW hS hl
  obtain ⟨⟨hx, hb, hml, hown, hts, hin⟩, -, ⟨kK, kA, kO, kS, kG, kI, klo⟩⟩ := C
  simp only [xm_st, xm_pus] at hs
  split at hs
  · rename_i v hv
    split at hs
    · rename_i hok
      cases hs
      have k := k H locs ls hW hS hl
      rcases kG own idx v hv with ⟨x, rfl, h⟩ | ⟨x, rfl, h⟩ | ⟨i, tx, rfl, hi, h⟩
      · exact absurd hok (by simp [xm_isL])
      · exact lv_ldc2 hx hb hown (hts _ h) hd k
      · exact absurd hok (by simp [xm_isL])
    · cases hs
  · cases hs
theorem xz_cats {ad : Nat → Nat} (r : List Value) : ((r.map (xz_v ad)).map fun v => v.category).sum = (r.map fun v => v.category).sum := by
  rw [List.map_map]
  congr 2
  funext v
  exact xz_cat ad v
theorem xz_objinit {idx : Nat} (C : xz_C X tb own cc nL ini p s m args meth c D dA lo n0 ao ho) : xz_S p l e R s m args below meth c X own cc nL ini D dA lo n0 ao ho Q (.invokespecial idx) 3 := by
  intro pc L S M f hd hs _ _ hf1 hf2 k H locs ls hW hS hl
  obtain ⟨⟨hx, hb, hml, hown, hts, hin⟩, ⟨tf, tc, tn, ta, tq⟩, -⟩ := C
  simp only [xm_st] at hs
  split at hs
  · rename_i a r
    split at hs
    · rename_i hc
      cases hs
      obtain ⟨w1, w2, w3⟩ := (tq own idx).1 hc.1
      exact W.objInit hx hb hown (hts _ w1) (hts _ w2) (hts _ w3) rfl (by rw [hml]; exact hl.1) rfl hd hf1 (by have h8 := hc.2; rw [xz_cats]; show 2 * 0 + _ + 12 ≤ _; omega) (k H locs ls hW hS hl)
    · cases hs
  · cases hs
theorem xz_arraycopy {idx : Nat} (C : xz_C X tb own cc nL ini p s m args meth c D dA lo n0 ao ho) : xz_S p l e R s m args below meth c X own cc nL ini D dA lo n0 ao ho Q (.invokestatic idx) 3 := by
  intro pc L S M f hd hs _ _ hf1 hf2 k H locs ls hW hS hl
  have C0 := C
  obtain ⟨⟨hx, hb, hml, hown, hts, hin⟩, ⟨tf, tc, tn, ta, tq⟩, ⟨kK, kA, kO, kS, kG, kI, klo⟩⟩ := C
  simp only [xm_st] at hs
  split at hs
  · rename_i hsp
    obtain ⟨w1, w2, w3, w4⟩ := (tq own idx).2.1 hsp
    simp only [xm_acp] at hs
    split at hs
    · rename_i n dp b sp a r
      split at hs
      · rename_i t k0 f0 t' k1 g0 he he2
        split at hs
        · rename_i ty ht
          split at hs
          · rename_i hc
            obtain ⟨hpr, rfl, han, hb0, hbn, h1, h2, h3, h4, h5, h8⟩ := hc
            cases hs
            obtain ⟨scr, hs1, hs2, hs3, hs4, -, hs5⟩ := xz_ard C0 hW hS han he ht
            have hat := xz_W_at hW hb0 hbn
            rw [he2] at hat
            have hc1 : H[lo + (b - n0)]? = some (vp_cell (dA t) (k1, .inl g0)) := hat
            obtain ⟨hs6, kk0, hk0, cm0, hkk0⟩ := hs2
            obtain ⟨-, kk1, hk1, cm1, hkk1⟩ := (kA t _ ht).1 k1 (fun j => .int (g0 j))
            have nn : ∀ z : Int32, ¬ z < 0 → z.toInt = (z.toNatClampNeg : Int) := by
              intro z hz
              have hz0 : (0 : Int) ≤ z.toInt := by
                have := Int32.not_lt.mp hz
                simpa using Int32.le_iff_toInt_le.mp this
              show z.toInt = ((z.toInt.toNat : Nat) : Int)
              omega
            show W p l e R s m args below meth c H locs _ _ Q (F0 m pc ls (.int n :: .int dp :: .ref (xz_ad n0 lo ao b) :: .int sp :: .ref (xz_ad n0 lo ao a) :: r.map (xz_v (xz_ad n0 lo ao))))
            rw [xz_own hb0]
            have hroom : 2 * 0 + (r.map fun v => v.category).sum + (nativeFrameWords "java/lang/System" "arraycopy" 5 + 11) ≤ R.locals := by
              have e9 : nativeFrameWords "java/lang/System" "arraycopy" 5 + 11 ≤ 52 := by decide
              omega
            intro T hT XX
            obtain ⟨vm', X', step⟩ := XX.arraycopy hx hown (hts _ w1) (hts _ w2) (hts _ w3) (hts _ w4) (src := xz_ad n0 lo ao a) (dst := lo + (b - n0)) (cs := scr) (cd := vp_cell (dA t) (k1, .inl g0)) (srcPos := sp) (destPos := dp) (n := n) (by rw [hT]; exact hs1) (by rw [hT]; exact hc1)
              hs6 (fun _ h => by cases h) hs3 (fun h => by cases h) hk0 hk1 hkk0 hkk1 (by simp) h1 h2 h3
              (by rw [nn sp h1, nn n h3]; omega)
              (by rw [nn dp h2, nn n h3]; show ¬ _ > ((arrV (dA t) k1 (fun j => .int (g0 j))).slots.size : Int); rw [arrV_size]; omega)
              (fun vm₁ _ i hi => by
                have e : scr.slots.getD (sp.toNatClampNeg + i) .null = .int (f0 (sp.toNatClampNeg + i)) := by
                  rw [Array.getD_eq_getD_getElem?, hs5 _ (by omega)]
                  rfl
                refine ⟨?_, ?_⟩
                · rw [e]
                  exact hW.2.2.2.1 a t k0 f0 ty han he ht _
                · rw [e]
                  exact trivial)
              (g := F0 m pc ls (.int n :: .int dp :: .ref (lo + (b - n0)) :: .int sp :: .ref (xz_ad n0 lo ao a) :: r.map (xz_v (xz_ad n0 lo ao)))) rfl (by rw [hml]; exact hl.1) (rest := r.map (xz_v (xz_ad n0 lo ao))) rfl (by rw [hb]; exact hd) hf1 (by rw [xz_cats]; exact hroom)
            have e1 : copied scr (vp_cell (dA t) (k1, .inl g0)) sp dp n = vp_cell (dA t) (k1, .inl (va_cpy f0 g0 sp.toNatClampNeg dp.toNatClampNeg n.toNatClampNeg)) := va_copiedX (fun z => .int z) scr (dA t) f0 g0 hs5 h4
            rw [e1] at X' step
            have hl2 : lo + (b - n0) < H.size := (Array.getElem?_eq_some_iff.mp hc1).1
            generalize hH1 : H.setIfInBounds (lo + (b - n0)) (vp_cell (dA t) (k1, .inl (va_cpy f0 g0 sp.toNatClampNeg dp.toNatClampNeg n.toNatClampNeg))) = H1
            have hheap : ((T.setVm vm').setCell (lo + (b - n0)) (vp_cell (dA t) (k1, .inl (va_cpy f0 g0 sp.toNatClampNeg dp.toNatClampNeg n.toNatClampNeg)))).heap = H1 := by rw [← hH1, ← hT]; rfl
            have oq : ∀ q : Nat, q ≠ lo + (b - n0) → H1[q]? = H[q]? := fun q hq => by rw [← hH1]; simp [Array.getElem?_setIfInBounds, Ne.symm hq]
            have z1 : H1.size = H.size := by rw [← hH1]; simp
            have c1 : H1[lo + (b - n0)]? = some (vp_cell (dA t) (k1, .inl (va_cpy f0 g0 sp.toNatClampNeg dp.toNatClampNeg n.toNatClampNeg))) := by rw [← hH1]; simp [Array.getElem?_setIfInBounds, hl2]
            obtain ⟨tt, a1, b1⟩ := k H1 _ ls (xz_W_set (e := .inl (t, k1, .inl (va_cpy f0 g0 sp.toNatClampNeg dp.toNatClampNeg n.toNatClampNeg))) hW hb0 hbn (fun t' k' f' ty' he' ht' j => by
                cases he'
                cases ht.symm.trans ht'
                simp only [va_cpy]
                split
                · exact hW.2.2.2.1 a t k0 f0 ty han he ht _
                · exact hW.2.2.2.1 b t k1 g0 ty hbn he2 ht _) z1 oq c1 _ _) ⟨by rw [z1]; exact hS.1, fun q g1 g2 => by
                rw [oq q (fun e => g2 (by rw [e]; exact Nat.le_add_right _ _))]
                exact hS.2.1 q g1 g2, fun q hq => by
                rcases List.mem_append.mp hq with h | h
                · exact hS.2.2 q h
                · obtain ⟨z, -, hz⟩ := List.mem_map.mp h
                  rw [← hz]
                  exact Nat.le_add_right _ _⟩ hl _ hheap X'
            exact ⟨tt, step tt a1, b1⟩
          · cases hs
        · cases hs
      · cases hs
    · cases hs
  · cases hs
theorem xz_laload (C : xz_C X tb own cc nL ini p s m args meth c D dA lo n0 ao ho) : xz_S p l e R s m args below meth c X own cc nL ini D dA lo n0 ao ho Q .laload 1 := by
  intro pc L S M f hd hs _ _ _ _ k H locs ls hW hS hl
  obtain ⟨⟨hx, hb, -⟩, -, ⟨kK, kA, kO, -, -, kI, -⟩⟩ := C
  simp only [xm_st, xm_lal] at hs
  split at hs
  · rename_i i a r
    split at hs
    · rename_i t k0 g he
      split at hs
      · rename_i hc
        obtain ⟨ht, han, hout⟩ := hc
        cases hs
        have k := k H locs ls hW hS hl
        show W p l e R s m args below meth c H locs _ _ Q (F0 m pc ls (.int i :: .ref (xz_ad n0 lo ao a) :: r.map (xz_v (xz_ad n0 lo ao))))
        by_cases ho' : a < n0
        · obtain ⟨-, hO⟩ := kO a ho'
          rw [← hW.2.2.1 a ho', he] at hO
          have hO : (xm_at X).length ≤ t := hO
          exact absurd (List.getElem?_eq_some_iff.mp ht).1 (Nat.not_lt.mpr hO)
        · have h0 : n0 ≤ a := Nat.not_lt.mp ho'
          rw [xz_own h0]
          have hat := xz_W_at hW h0 han
          rw [he] at hat
          have hat : H[lo + (a - n0)]? = some (arrV (dA t) k0 (fun j => .long (g j))) := hat
          obtain ⟨hi1, hi2⟩ := xz_ain (sz := k0) hout (Nat.le_refl _)
          exact W.lald hx hb hat ((kA t _ ht).1 k0 _) (fun q => by cases q) (by rw [arrV_size]; exact hi1) (arrV_read _ _ hi2) rfl rfl hd k
      · cases hs
    · cases hs
  · cases hs
theorem xz_lastore (C : xz_C X tb own cc nL ini p s m args meth c D dA lo n0 ao ho) : xz_S p l e R s m args below meth c X own cc nL ini D dA lo n0 ao ho Q .lastore 1 := by
  intro pc L S M f hd hs _ _ _ _ k H locs ls hW hS hl
  obtain ⟨⟨hx, hb, -⟩, -, ⟨kK, kA, kO, -, -, kI, -⟩⟩ := C
  simp only [xm_st, xm_las] at hs
  split at hs
  · rename_i x i a r
    split at hs
    · rename_i t k0 g he
      split at hs
      · rename_i hc
        obtain ⟨ht, h0, han, hout⟩ := hc
        cases hs
        show W p l e R s m args below meth c H locs _ _ Q (F0 m pc ls (.long x :: .int i :: .ref (xz_ad n0 lo ao a) :: r.map (xz_v (xz_ad n0 lo ao))))
        rw [xz_own h0]
        have hat := xz_W_at hW h0 han
        rw [he] at hat
        have hat : H[lo + (a - n0)]? = some (arrV (dA t) k0 (fun j => .long (g j))) := hat
        obtain ⟨hi1, hi2⟩ := xz_ain (sz := k0) hout (Nat.le_refl _)
        refine W.last hx hb hat ((kA t _ ht).1 k0 _) (fun q => by cases q) (by rw [arrV_size]; exact hi1) rfl rfl hd fun H' e1 e2 e3 => ?_
        have e1 : H'[lo + (a - n0)]? = some (arrV (dA t) k0 (fun j => .long (vp_updL g i.toNatClampNeg x j))) := by
          rw [e1, arrV_store]
          congr 2
          funext q
          simp only [updV, vp_updL]
          split <;> rfl
        exact k H' _ ls (xz_W_set (e := .inl (t, k0, .inr (.inl (vp_updL g i.toNatClampNeg x)))) hW h0 han (fun _ _ _ _ h => by cases h) e2 e3 e1 _ _) (hS.put e2 e3 (Nat.le_add_right _ _)) hl
      · cases hs
    · cases hs
  · cases hs
/-- an object, as a receiver -/
theorem xz_recv (C : xz_C X tb own cc nL ini p s m args meth c D dA lo n0 ao ho) {M : xm_M} {H : Heap} {locs : List Loc} (hW : xz_W X D dA lo n0 ao ho M H) (hS : va_S (fun q => lo ≤ q) s.heap H locs) {a ci : Nat} {fs : List Value} {Cn : String} {T : u_T} {N : Nat} (han : a < M.2.1) (he : M.1 a = .inr (ci, fs)) (hcl : (xm_cl X)[ci]? = some (Cn, T, N)) :
    ∃ cell : Cell, H[xz_ad n0 lo ao a]? = some cell ∧ cell.vm.isStatics = false ∧ s.vm.findClass Cn = some cell.cls := by
  obtain ⟨-, -, ⟨kK, kA, kO, -, -, kI, -⟩⟩ := C
  by_cases ho' : a < n0
  · rw [xz_old ho']
    obtain ⟨-, hO⟩ := kO a ho'
    rw [← hW.2.2.1 a ho', he] at hO
    obtain ⟨C2, T2, N2, hcl2, hO2, -⟩ := hO
    cases hcl.symm.trans hcl2
    obtain ⟨cell, h1, h2, h3, -⟩ := hO2.kept hS.2.1
    exact ⟨cell, h1, h2, h3⟩
  · have h0 : n0 ≤ a := Nat.not_lt.mp ho'
    rw [xz_own h0]
    have hat := xz_W_at hW h0 han
    rw [he] at hat
    obtain ⟨r', h1, cell, q1, q2, q3, q4⟩ := hat
    exact ⟨cell, q1, by rw [q3]; rfl, by rw [q2]; exact (kK.1 ci _ hcl).2.1⟩
theorem xz_instanceof {idx : Nat} (C : xz_C X tb own cc nL ini p s m args meth c D dA lo n0 ao ho) : xz_S p l e R s m args below meth c X own cc nL ini D dA lo n0 ao ho Q (.instanceof idx) 3 := by
  intro pc L S M f hd hs _ _ _ _ k H locs ls hW hS hl
  have C0 := C
  obtain ⟨⟨hx, hb, hml, hown, hts, hin⟩, ⟨tf, tc, tn, ta, tq⟩, -⟩ := C
  simp only [xm_st, xm_ins] at hs
  split at hs
  · cases hs
    exact lv_instN hx hb hd (k H locs ls hW hS hl)
  · rename_i a r
    split at hs
    · rename_i ci cj fs hci he
      split at hs
      · rename_i hc
        obtain ⟨rfl, han⟩ := hc
        cases hs
        obtain ⟨Cn, T, N, hcl, w1, w2, w3⟩ := tn own idx ci hci
        exact va_instE hx hb hown (hts _ w1) (xz_recv C0 hW hS han he hcl) hd (k H locs ls hW hS hl)
      · cases hs
    · cases hs
  · cases hs
theorem xz_checkcast {idx : Nat} (C : xz_C X tb own cc nL ini p s m args meth c D dA lo n0 ao ho) : xz_S p l e R s m args below meth c X own cc nL ini D dA lo n0 ao ho Q (.checkcast idx) 3 := by
  intro pc L S M f hd hs _ _ _ _ k H locs ls hW hS hl
  have C0 := C
  obtain ⟨⟨hx, hb, hml, hown, hts, hin⟩, ⟨tf, tc, tn, ta, tq⟩, -⟩ := C
  simp only [xm_st] at hs
  split at hs
  · rename_i hsp
    simp only [xm_csa] at hs
    split at hs
    · rename_i a r
      split at hs
      · rename_i t k0 g he
        split at hs
        · rename_i hc
          obtain ⟨ht, h0, han⟩ := hc
          cases hs
          have w1 := (tq own idx).2.2.2 hsp
          have hat := xz_W_at hW h0 han
          rw [he] at hat
          have hP : va_P D (xm_cl X) [(lo + (a - n0), .inl (dA t, k0, .inl g))] H := by
            intro j q hq
            have hz : j < 1 := (List.getElem?_eq_some_iff.mp hq).1
            rw [show j = 0 by omega] at hq
            cases hq
            exact hat
          have k := k H locs ls hW hS hl
          have k : W p l e R s m args below meth c H locs _ _ Q (F0 m (pc + 3) ls (.ref (xz_ad n0 lo ao a) :: r.map (xz_v (xz_ad n0 lo ao)))) := k
          show W p l e R s m args below meth c H locs _ _ Q (F0 m pc ls (.ref (xz_ad n0 lo ao a) :: r.map (xz_v (xz_ad n0 lo ao))))
          rw [xz_own h0] at k ⊢
          exact va_castA hx hb hown (hts _ w1) hP 0 rfl (va_nm_byte (C0.2.2.2.1 t _ ht).2) hd k
        · cases hs
      · cases hs
    · cases hs
  simp only [xm_cas] at hs
  split at hs
  · cases hs
    exact lv_castN hx hb hd (k H locs ls hW hS hl)
  · rename_i a r
    split at hs
    · rename_i ci cj fs hci he
      split at hs
      · rename_i hc
        obtain ⟨rfl, han⟩ := hc
        cases hs
        obtain ⟨Cn, T, N, hcl, w1, w2, w3⟩ := tn own idx ci hci
        exact va_castE hx hb hown (hts _ w1) (xz_recv C0 hW hS han he hcl) hd (k H locs ls hW hS hl)
      · cases hs
    · cases hs
  · cases hs
theorem xz_clone {idx : Nat} (C : xz_C X tb own cc nL ini p s m args meth c D dA lo n0 ao ho) : xz_S p l e R s m args below meth c X own cc nL ini D dA lo n0 ao ho Q (.invokevirtual idx) 3 := by
  intro pc L S M f hd hs hR1 hR2 hf1 hf2 k H locs ls hW hS hl
  obtain ⟨⟨hx, hb, hml, hown, hts, hin⟩, ⟨tf, tc, tn, ta, tq⟩, ⟨kK, kA, kO, kS, kG, kI, klo⟩⟩ := C
  simp only [xm_st] at hs
  split at hs
  · rename_i hsp
    obtain ⟨w1, w2, w3, w4, w5, w6⟩ := (tq own idx).2.2.1 hsp
    simp only [xm_cln] at hs
    split at hs
    · rename_i a r
      split at hs
      · rename_i t k0 g he
        split at hs
        · rename_i hc
          obtain ⟨ht, h0, han, h8⟩ := hc
          cases hs
          have hat := xz_W_at hW h0 han
          rw [he] at hat
          have hat : H[lo + (a - n0)]? = some (arrV (dA t) k0 (fun j => .int (g j))) := hat
          have hnm := va_nm_byte (kA t _ ht).2
          obtain ⟨c0, t0', f1, f2, f3⟩ := Cond.castable_spec (hts _ w6)
          cases hnm.symm.trans f1
          show W p l e R s m args below meth c H locs _ _ Q (F0 m pc ls (.ref (xz_ad n0 lo ao a) :: r.map (xz_v (xz_ad n0 lo ao))))
          rw [xz_own h0]
          have hroom : 2 * 0 + (r.map fun v => v.category).sum + 14 ≤ R.locals := by omega
          intro T hT XX
          obtain ⟨-, kA1, hkA1, comp1, hkind1⟩ := State.isArrayOf_alike XX.warmed.alike ((kA t _ ht).1 0 (fun _ => .null))
          obtain ⟨-, kS1, hkS1, compS1, hkindS1⟩ := (kA t _ ht).1 0 (fun _ => .null)
          have hfitc : ∀ (i : Nat) (v : Value), (arrV (dA t) k0 (fun j => .int (g j))).slots[i]? = some v → fits .byte v = true := va_fit (fun i _ => hW.2.2.2.1 a t k0 g .byte han he ht i)
          obtain ⟨vm', X', st⟩ := XX.cloneArray hx hown (hts _ w1) (hts _ w2) (hts _ w3) (hts _ w4) (hts _ w5) (a := lo + (a - n0)) (cell := arrV (dA t) k0 (fun j => .int (g j))) (by rw [hT]; exact hat) (fun _ h => by cases h) (fun h => by cases h) hnm f2 f3
            (fun i v hv => by
              have hk' : T.vm.classes[dA t]? = some kA1 := hkA1
              have hh := hfitc i v hv
              have hcls : (arrV (dA t) k0 (fun j => .int (g j))).cls = dA t := rfl
              rw [hcls]
              simpa [State.fitsSlot, State.slotType?, hk', hkind1] using hh)
            (g := F0 m pc ls (.ref (lo + (a - n0)) :: r.map (xz_v (xz_ad n0 lo ao)))) rfl (by rw [hml]; exact hl.1) rfl (by rw [hb]; exact hd) hf1 (by rw [xz_cats]; exact hroom) hR1 (by rw [arrV_size]; exact hR2) (hloader := Vm.clonesLoader_of_array hkS1 hkindS1)
          rw [arrV_size] at X'
          have hcellE : ({ cls := (arrV (dA t) k0 (fun j => .int (g j))).cls, slots := (arrV (dA t) k0 (fun j => .int (g j))).slots } : Cell) = arrV (dA t) k0 (fun j => .int (g j)) := rfl
          rw [hcellE] at X' st
          generalize hH1 : H.push (arrV (dA t) k0 (fun j => .int (g j))) = H1
          have z1 : H1.size = H.size + 1 := by rw [← hH1, Array.size_push]
          have e1 : H1[H.size]? = some (arrV (dA t) k0 (fun j => .int (g j))) := by rw [← hH1, Array.getElem?_push_size]
          have o1 : ∀ q : Nat, q < H.size → H1[q]? = H[q]? := fun q hq => by rw [← hH1, Array.getElem?_push, if_neg (Nat.ne_of_lt hq)]
          have hS1 : va_S (fun q => lo ≤ q) s.heap H1 locs := ⟨Nat.le_trans hS.1 (by omega), fun x g1 g2 => (o1 x (Nat.lt_of_lt_of_le g1 hS.1)).trans (hS.2.1 x g1 g2), hS.2.2⟩
          have k := k H1 locs ls (xz_W_push (e := .inl (t, k0, .inl g)) hW (fun t' k' f' ty' he' ht' j => by
            cases he'
            exact hW.2.2.2.1 a t k0 g ty' han he ht' j) z1 o1 e1 _ _) hS1 hl
          have k : W p l e R s m args below meth c H1 locs _ _ Q (F0 m (pc + 3) ls (.ref (xz_ad n0 lo ao M.2.1) :: r.map (xz_v (xz_ad n0 lo ao)))) := k
          rw [xz_own hW.1, ← hW.2.1] at k
          obtain ⟨tt, b1, b2⟩ := k ((T.setVm vm').pushCell (arrV (dA t) k0 (fun j => .int (g j)))) (by rw [← hH1, ← hT]; rfl) X'
          refine ⟨tt, st tt ?_, b2⟩
          rw [hT]
          exact b1
        · cases hs
      · cases hs
    · cases hs
  · cases hs
end XH
