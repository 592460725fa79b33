/-! the tables are as the soundness wants them -/
theorem xt_own : (Bundle.ownAtoms "TabKernel" 319 "java/lang/IndexOutOfBoundsException" ["java/lang/RuntimeException", "java/lang/Exception"]).all (fun v => decide (v ∈ xt_tb) || (decide (v = Cond.isRef (.static "java/lang/Throwable" "UNASSIGNED_STACK" "[Ljava/lang/StackTraceElement;")) || (decide (v = Cond.isRef (.static "java/lang/Throwable" "SUPPRESSED_SENTINEL" "Ljava/util/List;")) || (decide (v = Cond.laysStatic "java/lang/Throwable" "UNASSIGNED_STACK" "[Ljava/lang/StackTraceElement;") || decide (v = Cond.laysStatic "java/lang/Throwable" "SUPPRESSED_SENTINEL" "Ljava/util/List;"))))) = true := by decide +kernel
theorem xt_okX (fm : Value) : xz_okX (xt_P fm) xt_tb := by
  intro own idx cx ic ns h
  have h : xt_ex own idx = some (cx, ic, ns) := h
  unfold xt_ex at h
  split at h
  · rename_i hc
    cases h
    obtain ⟨rfl, rfl⟩ := hc
    refine ⟨"java/lang/IndexOutOfBoundsException", xt_TX, ["java/lang/RuntimeException", "java/lang/Exception"], rfl, xt_in_mem (i := 1061) (by decide +kernel), xt_in_mem (i := 1062) (by decide +kernel), xt_in_mem (i := 15) (by decide +kernel), by decide +kernel, ?_, by decide, ?_⟩
    · intro n hn
      simp only [List.mem_cons, List.not_mem_nil, or_false] at hn
      rcases hn with rfl | rfl <;> decide +kernel
    · intro v hv
      have h1 := List.all_eq_true.mp xt_own v hv
      simp only [Bool.or_eq_true, decide_eq_true_eq] at h1
      exact h1
  · cases h
theorem xt_ok (fm : Value) : xz_ok (xt_P fm) xt_tb := ⟨xt_TB fm, xt_port, xt_okM fm, xt_okK fm, xt_okC fm, xz_okT_of (xt_okM fm) (xt_okX fm)⟩
