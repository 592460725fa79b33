/-! every instruction of the pure machine -/
def xm_lk (ins : Instr) (ln : Nat) : Bool := match ins with
  | .iconst _ => ln == 1
  | .bipush _ => ln == 2
  | .sipush _ => ln == 3
  | .lconst _ => ln == 1
  | .aconst_null => ln == 1
  | .iload _ => ln == 2
  | .iload_n _ => ln == 1
  | .lload _ => ln == 2
  | .lload_n _ => ln == 1
  | .aload _ => ln == 2
  | .aload_n _ => ln == 1
  | .istore _ => ln == 2
  | .istore_n _ => ln == 1
  | .astore _ => ln == 2
  | .astore_n _ => ln == 1
  | .lstore _ => ln == 2
  | .lstore_n _ => ln == 1
  | .iinc _ _ => ln == 3
  | .iadd => ln == 1
  | .isub => ln == 1
  | .imul => ln == 1
  | .iand => ln == 1
  | .ior => ln == 1
  | .ixor => ln == 1
  | .idiv => ln == 1
  | .irem => ln == 1
  | .ishl => ln == 1
  | .ishr => ln == 1
  | .iushr => ln == 1
  | .ineg => ln == 1
  | .i2b => ln == 1
  | .i2s => ln == 1
  | .i2c => ln == 1
  | .i2l => ln == 1
  | .l2i => ln == 1
  | .ladd => ln == 1
  | .lsub => ln == 1
  | .lmul => ln == 1
  | .land => ln == 1
  | .lor => ln == 1
  | .ldiv => ln == 1
  | .lrem => ln == 1
  | .lneg => ln == 1
  | .lshl => ln == 1
  | .lushr => ln == 1
  | .lcmp => ln == 1
  | .dup => ln == 1
  | .pop => ln == 1
  | .dup_x1 => ln == 1
  | .dup_x2 => ln == 1
  | .dup2 => ln == 1
  | .pop2 => ln == 1
  | .goto _ => ln == 3
  | .ifnull _ => ln == 3
  | .ifnonnull _ => ln == 3
  | .getfield _ => ln == 3
  | .putfield _ => ln == 3
  | .getstatic _ => ln == 3
  | .ldc _ => ln == 2
  | .ldc_w _ => ln == 3
  | .ldc2_w _ => ln == 3
  | .iaload => ln == 1
  | .baload => ln == 1
  | .caload => ln == 1
  | .aaload => ln == 1
  | .iastore => ln == 1
  | .bastore => ln == 1
  | .castore => ln == 1
  | .aastore => ln == 1
  | .arraylength => ln == 1
  | .laload => ln == 1
  | .lastore => ln == 1
  | .instanceof _ => ln == 3
  | .checkcast _ => ln == 3
  | .new _ => ln == 3
  | .newarray _ => ln == 2
  | .anewarray _ => ln == 3
  | .ifCond _ _ => ln == 3
  | .if_icmp _ _ => ln == 3
  | .if_acmp _ _ => ln == 3
  | .invokespecial _ => ln == 3
  | .invokestatic _ => ln == 3
  | .invokevirtual _ => ln == 3
  | .ireturn => ln == 1
  | .lreturn => ln == 1
  | .areturn => ln == 1
  | .return_ => ln == 1
  | .athrow => ln == 1
  | .lookupswitch _ _ => true
  | .tableswitch _ _ _ _ => true
  | _ => false
set_option maxHeartbeats 4000000 in
theorem xz_all {p : Program} {l : Launch} {e : Env} {R : Room} {s : State} {m : MethodId} {args : Array Value} {below : List Frame} {meth : Method} {c : Code} {X : xm_T} {tb : List Cond} {own : String} {cc : ByteArray} {nL : Nat} {ini : Bool} {D : va_G} {dA : Nat → ClassId} {lo n0 : Nat} {ao : Nat → Nat} {ho : Nat → va_E} {Q : State → Prop} (C : xz_C X tb own cc nL ini p s m args meth c D dA lo n0 ao ho) {ins : Instr} {ln : Nat} (hk : xm_lk ins ln = true) : xz_S p l e R s m args below meth c X own cc nL ini D dA lo n0 ao ho Q ins ln := by
  cases ins with
  | iconst z =>
    obtain rfl : ln = 1 := by simpa [xm_lk] using hk
    exact xz_iconst C
  | bipush z =>
    obtain rfl : ln = 2 := by simpa [xm_lk] using hk
    exact xz_bipush C
  | sipush z =>
    obtain rfl : ln = 3 := by simpa [xm_lk] using hk
    exact xz_sipush C
  | lconst z =>
    obtain rfl : ln = 1 := by simpa [xm_lk] using hk
    exact xz_lconst C
  | aconst_null =>
    obtain rfl : ln = 1 := by simpa [xm_lk] using hk
    exact xz_aconst_null C
  | iload i =>
    obtain rfl : ln = 2 := by simpa [xm_lk] using hk
    exact xz_iload C
  | iload_n i =>
    obtain rfl : ln = 1 := by simpa [xm_lk] using hk
    exact xz_iload_n C
  | lload i =>
    obtain rfl : ln = 2 := by simpa [xm_lk] using hk
    exact xz_lload C
  | lload_n i =>
    obtain rfl : ln = 1 := by simpa [xm_lk] using hk
    exact xz_lload_n C
  | aload i =>
    obtain rfl : ln = 2 := by simpa [xm_lk] using hk
    exact xz_aload C
  | aload_n i =>
    obtain rfl : ln = 1 := by simpa [xm_lk] using hk
    exact xz_aload_n C
  | istore i =>
    obtain rfl : ln = 2 := by simpa [xm_lk] using hk
    exact xz_istore C
  | istore_n i =>
    obtain rfl : ln = 1 := by simpa [xm_lk] using hk
    exact xz_istore_n C
  | astore i =>
    obtain rfl : ln = 2 := by simpa [xm_lk] using hk
    exact xz_astore C
  | astore_n i =>
    obtain rfl : ln = 1 := by simpa [xm_lk] using hk
    exact xz_astore_n C
  | lstore i =>
    obtain rfl : ln = 2 := by simpa [xm_lk] using hk
    exact xz_lstore C
  | lstore_n i =>
    obtain rfl : ln = 1 := by simpa [xm_lk] using hk
    exact xz_lstore_n C
  | iinc i k =>
    obtain rfl : ln = 3 := by simpa [xm_lk] using hk
    exact xz_iinc C
  | iadd =>
    obtain rfl : ln = 1 := by simpa [xm_lk] using hk
    exact xz_iadd C
  | isub =>
    obtain rfl : ln = 1 := by simpa [xm_lk] using hk
    exact xz_isub C
  | imul =>
    obtain rfl : ln = 1 := by simpa [xm_lk] using hk
    exact xz_imul C
  | iand =>
    obtain rfl : ln = 1 := by simpa [xm_lk] using hk
    exact xz_iand C
  | ior =>
    obtain rfl : ln = 1 := by simpa [xm_lk] using hk
    exact xz_ior C
  | ixor =>
    obtain rfl : ln = 1 := by simpa [xm_lk] using hk
    exact xz_ixor C
  | idiv =>
    obtain rfl : ln = 1 := by simpa [xm_lk] using hk
    exact xz_idiv C
  | irem =>
    obtain rfl : ln = 1 := by simpa [xm_lk] using hk
    exact xz_irem C
  | ishl =>
    obtain rfl : ln = 1 := by simpa [xm_lk] using hk
    exact xz_ishl C
  | ishr =>
    obtain rfl : ln = 1 := by simpa [xm_lk] using hk
    exact xz_ishr C
  | iushr =>
    obtain rfl : ln = 1 := by simpa [xm_lk] using hk
    exact xz_iushr C
  | ineg =>
    obtain rfl : ln = 1 := by simpa [xm_lk] using hk
    exact xz_ineg C
  | i2b =>
    obtain rfl : ln = 1 := by simpa [xm_lk] using hk
    exact xz_i2b C
  | i2s =>
    obtain rfl : ln = 1 := by simpa [xm_lk] using hk
    exact xz_i2s C
  | i2c =>
    obtain rfl : ln = 1 := by simpa [xm_lk] using hk
    exact xz_i2c C
  | i2l =>
    obtain rfl : ln = 1 := by simpa [xm_lk] using hk
    exact xz_i2l C
  | l2i =>
    obtain rfl : ln = 1 := by simpa [xm_lk] using hk
    exact xz_l2i C
  | ladd =>
    obtain rfl : ln = 1 := by simpa [xm_lk] using hk
    exact xz_ladd C
  | lsub =>
    obtain rfl : ln = 1 := by simpa [xm_lk] using hk
    exact xz_lsub C
  | lmul =>
    obtain rfl : ln = 1 := by simpa [xm_lk] using hk
    exact xz_lmul C
  | land =>
    obtain rfl : ln = 1 := by simpa [xm_lk] using hk
    exact xz_land C
  | lor =>
    obtain rfl : ln = 1 := by simpa [xm_lk] using hk
    exact xz_lor C
  | ldiv =>
    obtain rfl : ln = 1 := by simpa [xm_lk] using hk
    exact xz_ldiv C
  | lrem =>
    obtain rfl : ln = 1 := by simpa [xm_lk] using hk
    exact xz_lrem C
  | lneg =>
    obtain rfl : ln = 1 := by simpa [xm_lk] using hk
    exact xz_lneg C
  | lshl =>
    obtain rfl : ln = 1 := by simpa [xm_lk] using hk
    exact xz_lshl C
  | lushr =>
    obtain rfl : ln = 1 := by simpa [xm_lk] using hk
    exact xz_lushr C
  | lcmp =>
    obtain rfl : ln = 1 := by simpa [xm_lk] using hk
    exact xz_lcmp C
  | dup =>
    obtain rfl : ln = 1 := by simpa [xm_lk] using hk
    exact xz_dup C
  | pop =>
    obtain rfl : ln = 1 := by simpa [xm_lk] using hk
    exact xz_pop C
  | dup_x1 =>
    obtain rfl : ln = 1 := by simpa [xm_lk] using hk
    exact xz_dup_x1 C
  | dup_x2 =>
    obtain rfl : ln = 1 := by simpa [xm_lk] using hk
    exact xz_dup_x2 C
  | dup2 =>
    obtain rfl : ln = 1 := by simpa [xm_lk] using hk
    exact xz_dup2 C
  | pop2 =>
    obtain rfl : ln = 1 := by simpa [xm_lk] using hk
    exact xz_pop2 C
  | goto o =>
    obtain rfl : ln = 3 := by simpa [xm_lk] using hk
    exact xz_goto C
  | ifnull o =>
    obtain rfl : ln = 3 := by simpa [xm_lk] using hk
    exact xz_ifnull C
  | ifnonnull o =>
    obtain rfl : ln = 3 := by simpa [xm_lk] using hk
    exact xz_ifnonnull C
  | getfield i =>
    obtain rfl : ln = 3 := by simpa [xm_lk] using hk
    exact xz_getfield C
  | putfield i =>
    obtain rfl : ln = 3 := by simpa [xm_lk] using hk
    exact xz_putfield C
  | getstatic i =>
    obtain rfl : ln = 3 := by simpa [xm_lk] using hk
    exact xz_getstatic C
  | ldc i =>
    obtain rfl : ln = 2 := by simpa [xm_lk] using hk
    exact xz_ldc C
  | ldc_w i =>
    obtain rfl : ln = 3 := by simpa [xm_lk] using hk
    exact xz_ldc_w C
  | ldc2_w i =>
    obtain rfl : ln = 3 := by simpa [xm_lk] using hk
    exact xz_ldc2_w C
  | iaload =>
    obtain rfl : ln = 1 := by simpa [xm_lk] using hk
    exact xz_iaload C
  | baload =>
    obtain rfl : ln = 1 := by simpa [xm_lk] using hk
    exact xz_baload C
  | caload =>
    obtain rfl : ln = 1 := by simpa [xm_lk] using hk
    exact xz_caload C
  | aaload =>
    obtain rfl : ln = 1 := by simpa [xm_lk] using hk
    exact xz_aaload C
  | iastore =>
    obtain rfl : ln = 1 := by simpa [xm_lk] using hk
    exact xz_iastore C
  | bastore =>
    obtain rfl : ln = 1 := by simpa [xm_lk] using hk
    exact xz_bastore C
  | castore =>
    obtain rfl : ln = 1 := by simpa [xm_lk] using hk
    exact xz_castore C
  | aastore =>
    obtain rfl : ln = 1 := by simpa [xm_lk] using hk
    exact xz_aastore C
  | arraylength =>
    obtain rfl : ln = 1 := by simpa [xm_lk] using hk
    exact xz_arraylength C
  | laload =>
    obtain rfl : ln = 1 := by simpa [xm_lk] using hk
    exact xz_laload C
  | lastore =>
    obtain rfl : ln = 1 := by simpa [xm_lk] using hk
    exact xz_lastore C
  | instanceof i =>
    obtain rfl : ln = 3 := by simpa [xm_lk] using hk
    exact xz_instanceof C
  | checkcast i =>
    obtain rfl : ln = 3 := by simpa [xm_lk] using hk
    exact xz_checkcast C
  | new i =>
    obtain rfl : ln = 3 := by simpa [xm_lk] using hk
    exact xz_new C
  | newarray a =>
    obtain rfl : ln = 2 := by simpa [xm_lk] using hk
    exact xz_newarray C
  | anewarray i =>
    obtain rfl : ln = 3 := by simpa [xm_lk] using hk
    exact xz_anewarray C
  | ifCond cd o =>
    obtain rfl : ln = 3 := by simpa [xm_lk] using hk
    cases cd with
    | eq => exact xz_if_eq C
    | ne => exact xz_if_ne C
    | lt => exact xz_if_lt C
    | ge => exact xz_if_ge C
    | gt => exact xz_if_gt C
    | le => exact xz_if_le C
  | if_icmp cd o =>
    obtain rfl : ln = 3 := by simpa [xm_lk] using hk
    cases cd with
    | eq => exact xz_icmp_eq C
    | ne => exact xz_icmp_ne C
    | lt => exact xz_icmp_lt C
    | ge => exact xz_icmp_ge C
    | gt => exact xz_icmp_gt C
    | le => exact xz_icmp_le C
  | if_acmp cd o =>
    obtain rfl : ln = 3 := by simpa [xm_lk] using hk
    cases cd with
    | eq => exact xz_acmp_eq C
    | ne => exact xz_acmp_ne C
  | invokespecial i =>
    obtain rfl : ln = 3 := by simpa [xm_lk] using hk
    exact xz_objinit C
  | invokestatic i =>
    obtain rfl : ln = 3 := by simpa [xm_lk] using hk
    exact xz_arraycopy C
  | invokevirtual i =>
    obtain rfl : ln = 3 := by simpa [xm_lk] using hk
    exact xz_clone C
  | lookupswitch d ps => exact xz_lookupswitch C
  | tableswitch d lo hi os => exact xz_tableswitch C
  | _ => exact fun pc L S M f _ hs => absurd hs (by simp [xm_st])
