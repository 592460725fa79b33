/-! the words hold on as the tables warm -/
theorem xz_port_good {v : Cond} (h : goodWord v = true) : xz_port v := fun s U a a' hW hb => word_at hW (good_of_word h) hb
def xt_pk (v : Cond) : Bool := goodWord v || (match v with
  | .methodLinkNest .. => true
  | .castable .. => true
  | .declares .. => true
  | .stringRef .. => true
  | .privateMethod .. => true
  | .arrayOver .. => true
  | _ => false)
theorem xt_pk_ok {v : Cond} (h : xt_pk v = true) : xz_port v := by
  unfold xt_pk at h
  rw [Bool.or_eq_true] at h
  rcases h with h | h
  · exact xz_port_good h
  · split at h
    · exact fun s U a a' hW hb => va_Nw.use rfl (va_Nw.warmM hW (va_Nw.of rfl hb))
    · exact fun s U a a' hW hb => va_Nw.use rfl (va_Nw.warmC hW (va_Nw.of rfl hb))
    · exact fun s U a a' hW hb => va_Nw.use rfl (va_Nw.warmD hW (va_Nw.of rfl hb))
    · intro s U a a' hW hb
      have h1 := Cond.stringRef_warmed hW hb
      first
        | exact va_tabs rfl rfl h1
        | (simp only [Cond.before, Cond.holds, Cond.value, State.names, State.poolOf?, State.resolvedAt?] at h1 ⊢; exact h1)
    · intro s U a a' hW hb
      have h1 := hb
      rw [← Cond.privateMethod_setVm hW.alike] at h1
      exact va_tabs (A := a) (u := s.setVm U.vm) rfl rfl h1
    · intro s U a a' hW hb
      have h1 := hb
      rw [← Cond.arrayOver_setVmC hW.alike] at h1
      exact h1
    · cases h
theorem xt_p1 : tables_1_1.all (fun v => !xt_nl v || xt_pk v) = true := by decide +kernel
theorem xt_p2 : tables_1_2.all (fun v => !xt_nl v || xt_pk v) = true := by decide +kernel
theorem xt_p3 : tables_1_3.all (fun v => !xt_nl v || xt_pk v) = true := by decide +kernel
theorem xt_p4 : tables_1_4.all (fun v => !xt_nl v || xt_pk v) = true := by decide +kernel
theorem xt_p5 : tables_1_5.all (fun v => !xt_nl v || xt_pk v) = true := by decide +kernel
theorem xt_p6 : tables_1_6.all (fun v => !xt_nl v || xt_pk v) = true := by decide +kernel
theorem xt_p7 : tables_1_7.all (fun v => !xt_nl v || xt_pk v) = true := by decide +kernel
theorem xt_p8 : tables_1_8.all (fun v => !xt_nl v || xt_pk v) = true := by decide +kernel
theorem xt_p9 : tables_1_9.all (fun v => !xt_nl v || xt_pk v) = true := by decide +kernel
theorem xt_port : ∀ v ∈ xt_tb, xz_port v := by
  intro v hv
  obtain ⟨hv, hn⟩ := List.mem_filter.mp hv
  rcases List.mem_cons.mp hv with rfl | hv
  · exact xz_port_good rfl
  · rcases List.mem_append.mp hv with hv | hv
    · obtain ⟨q, -, rfl⟩ := List.mem_map.mp hv
      exact xz_port_good rfl
    · have hall : tables_1.all (fun v => !xt_nl v || xt_pk v) = true := xt_all_app xt_p1 (xt_all_app xt_p2 (xt_all_app xt_p3 (xt_all_app xt_p4 (xt_all_app xt_p5 (xt_all_app xt_p6 (xt_all_app xt_p7 (xt_all_app xt_p8 (xt_p9))))))))
      have h1 := List.all_eq_true.mp hall v hv
      rw [hn] at h1
      exact xt_pk_ok h1
