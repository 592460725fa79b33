/-! the class's links -/
theorem xn_12_8 (fm : Value) : xm_cls (xt_X fm) "TabKernelLaw" 8 = some 0 := by
  show (xt_look xt_ntab "TabKernelLaw" 8).map (fun e => e.1) = _
  rfl
theorem xn_0_7 (fm : Value) : xm_cls (xt_X fm) "TabKernel" 7 = some 1 := by
  show (xt_look xt_ntab "TabKernel" 7).map (fun e => e.1) = _
  rfl
theorem xn_0_19 (fm : Value) : xm_cls (xt_X fm) "TabKernel" 19 = some 2 := by
  show (xt_look xt_ntab "TabKernel" 19).map (fun e => e.1) = _
  rfl
theorem xn_2_9 (fm : Value) : xm_cls (xt_X fm) "TabKernel$AddressReader" 9 = some 1 := by
  show (xt_look xt_ntab "TabKernel$AddressReader" 9).map (fun e => e.1) = _
  rfl
theorem xn_0_26 (fm : Value) : xm_cls (xt_X fm) "TabKernel" 26 = some 3 := by
  show (xt_look xt_ntab "TabKernel" 26).map (fun e => e.1) = _
  rfl
theorem xn_0_33 (fm : Value) : xm_cls (xt_X fm) "TabKernel" 33 = some 12 := by
  show (xt_look xt_ntab "TabKernel" 33).map (fun e => e.1) = _
  rfl
theorem xn_0_39 (fm : Value) : xm_cls (xt_X fm) "TabKernel" 39 = some 9 := by
  show (xt_look xt_ntab "TabKernel" 39).map (fun e => e.1) = _
  rfl
theorem xn_0_48 (fm : Value) : xm_cls (xt_X fm) "TabKernel" 48 = some 10 := by
  show (xt_look xt_ntab "TabKernel" 48).map (fun e => e.1) = _
  rfl
theorem xn_0_64 (fm : Value) : xm_cls (xt_X fm) "TabKernel" 64 = some 4 := by
  show (xt_look xt_ntab "TabKernel" 64).map (fun e => e.1) = _
  rfl
theorem xn_6_9 (fm : Value) : xm_cls (xt_X fm) "TabKernel$Jar" 9 = some 5 := by
  show (xt_look xt_ntab "TabKernel$Jar" 9).map (fun e => e.1) = _
  rfl
theorem xn_11_9 (fm : Value) : xm_cls (xt_X fm) "TabKernel$Suffixes" 9 = some 7 := by
  show (xt_look xt_ntab "TabKernel$Suffixes" 9).map (fun e => e.1) = _
  rfl
theorem xn_6_18 (fm : Value) : xm_cls (xt_X fm) "TabKernel$Jar" 18 = some 11 := by
  show (xt_look xt_ntab "TabKernel$Jar" 18).map (fun e => e.1) = _
  rfl
theorem xn_16_18 (fm : Value) : xm_cls (xt_X fm) "java/lang/StringBuilder" 18 = some 6 := by
  show (xt_look xt_ntab "java/lang/StringBuilder" 18).map (fun e => e.1) = _
  rfl
theorem xn_0_106 (fm : Value) : xm_cls (xt_X fm) "TabKernel" 106 = some 6 := by
  show (xt_look xt_ntab "TabKernel" 106).map (fun e => e.1) = _
  rfl
theorem xn_15_10 (fm : Value) : xm_cls (xt_X fm) "java/lang/String" 10 = some 6 := by
  show (xt_look xt_ntab "java/lang/String" 10).map (fun e => e.1) = _
  rfl
theorem xn_17_1 (fm : Value) : xm_cls (xt_X fm) "java/lang/StringLatin1" 1 = some 6 := by
  show (xt_look xt_ntab "java/lang/StringLatin1" 1).map (fun e => e.1) = _
  rfl
theorem xn_18_3 (fm : Value) : xm_cls (xt_X fm) "java/lang/StringUTF16" 3 = some 6 := by
  show (xt_look xt_ntab "java/lang/StringUTF16" 3).map (fun e => e.1) = _
  rfl
theorem xn_2_107 (fm : Value) : xm_cls (xt_X fm) "TabKernel$AddressReader" 107 = some 8 := by
  show (xt_look xt_ntab "TabKernel$AddressReader" 107).map (fun e => e.1) = _
  rfl
theorem xn_4_12 (fm : Value) : xm_cls (xt_X fm) "TabKernel$CookieText" 12 = some 13 := by
  show (xt_look xt_ntab "TabKernel$CookieText" 12).map (fun e => e.1) = _
  rfl
theorem xn_12_68 (fm : Value) : xm_cls (xt_X fm) "TabKernelLaw" 68 = some 14 := by
  show (xt_look xt_ntab "TabKernelLaw" 68).map (fun e => e.1) = _
  rfl
theorem xa_9_9 (fm : Value) : xm_arr (xt_X fm) "TabKernel$Storage" 9 = some 5 := by
  show (xt_look xt_atab "TabKernel$Storage" 9).map (fun e => e.1) = _
  rfl
theorem xa_0_33 (fm : Value) : xm_arr (xt_X fm) "TabKernel" 33 = some 6 := by
  show (xt_look xt_atab "TabKernel" 33).map (fun e => e.1) = _
  rfl
theorem xa_0_39 (fm : Value) : xm_arr (xt_X fm) "TabKernel" 39 = some 7 := by
  show (xt_look xt_atab "TabKernel" 39).map (fun e => e.1) = _
  rfl
theorem xa_0_48 (fm : Value) : xm_arr (xt_X fm) "TabKernel" 48 = some 8 := by
  show (xt_look xt_atab "TabKernel" 48).map (fun e => e.1) = _
  rfl
theorem xa_11_9 (fm : Value) : xm_arr (xt_X fm) "TabKernel$Suffixes" 9 = some 9 := by
  show (xt_look xt_atab "TabKernel$Suffixes" 9).map (fun e => e.1) = _
  rfl
theorem xa_6_18 (fm : Value) : xm_arr (xt_X fm) "TabKernel$Jar" 18 = some 10 := by
  show (xt_look xt_atab "TabKernel$Jar" 18).map (fun e => e.1) = _
  rfl
theorem xp_19_311 (fm : Value) : xm_spc (xt_X fm) "java/util/Arrays" 311 = 4 := by
  show ((xt_look xt_stab "java/util/Arrays" 311).map (fun e => e.1)).getD 0 = _
  rfl
theorem xp_0_1 (fm : Value) : xm_spc (xt_X fm) "TabKernel" 1 = 1 := by
  show ((xt_look xt_stab "TabKernel" 1).map (fun e => e.1)).getD 0 = _
  rfl
theorem xz0_0_1 : xt_ci "TabKernel" 1 = none := by decide +kernel
theorem xp_14_3 (fm : Value) : xm_spc (xt_X fm) "java/lang/AbstractStringBuilder" 3 = 1 := by
  show ((xt_look xt_stab "java/lang/AbstractStringBuilder" 3).map (fun e => e.1)).getD 0 = _
  rfl
theorem xz0_14_3 : xt_ci "java/lang/AbstractStringBuilder" 3 = none := by decide +kernel
theorem xp_2_3 (fm : Value) : xm_spc (xt_X fm) "TabKernel$AddressReader" 3 = 1 := by
  show ((xt_look xt_stab "TabKernel$AddressReader" 3).map (fun e => e.1)).getD 0 = _
  rfl
theorem xz0_2_3 : xt_ci "TabKernel$AddressReader" 3 = none := by decide +kernel
theorem xp_9_3 (fm : Value) : xm_spc (xt_X fm) "TabKernel$Storage" 3 = 1 := by
  show ((xt_look xt_stab "TabKernel$Storage" 3).map (fun e => e.1)).getD 0 = _
  rfl
theorem xz0_9_3 : xt_ci "TabKernel$Storage" 3 = none := by decide +kernel
theorem xp_6_3 (fm : Value) : xm_spc (xt_X fm) "TabKernel$Jar" 3 = 1 := by
  show ((xt_look xt_stab "TabKernel$Jar" 3).map (fun e => e.1)).getD 0 = _
  rfl
theorem xz0_6_3 : xt_ci "TabKernel$Jar" 3 = none := by decide +kernel
theorem xp_11_3 (fm : Value) : xm_spc (xt_X fm) "TabKernel$Suffixes" 3 = 1 := by
  show ((xt_look xt_stab "TabKernel$Suffixes" 3).map (fun e => e.1)).getD 0 = _
  rfl
theorem xz0_11_3 : xt_ci "TabKernel$Suffixes" 3 = none := by decide +kernel
theorem xp_19_310 (fm : Value) : xm_spc (xt_X fm) "java/util/Arrays" 310 = 3 := by
  show ((xt_look xt_stab "java/util/Arrays" 310).map (fun e => e.1)).getD 0 = _
  rfl
theorem xz0_19_310 : xt_ci "java/util/Arrays" 310 = none := by decide +kernel
theorem xp_19_150 (fm : Value) : xm_spc (xt_X fm) "java/util/Arrays" 150 = 2 := by
  show ((xt_look xt_stab "java/util/Arrays" 150).map (fun e => e.1)).getD 0 = _
  rfl
theorem xz0_19_150 : xt_ci "java/util/Arrays" 150 = none := by decide +kernel
theorem xp_15_212 (fm : Value) : xm_spc (xt_X fm) "java/lang/String" 212 = 2 := by
  show ((xt_look xt_stab "java/lang/String" 212).map (fun e => e.1)).getD 0 = _
  rfl
theorem xz0_15_212 : xt_ci "java/lang/String" 212 = none := by decide +kernel
theorem xp_15_1 (fm : Value) : xm_spc (xt_X fm) "java/lang/String" 1 = 1 := by
  show ((xt_look xt_stab "java/lang/String" 1).map (fun e => e.1)).getD 0 = _
  rfl
theorem xz0_15_1 : xt_ci "java/lang/String" 1 = none := by decide +kernel
theorem xp_10_1 (fm : Value) : xm_spc (xt_X fm) "TabKernel$Suffix" 1 = 1 := by
  show ((xt_look xt_stab "TabKernel$Suffix" 1).map (fun e => e.1)).getD 0 = _
  rfl
theorem xz0_10_1 : xt_ci "TabKernel$Suffix" 1 = none := by decide +kernel
theorem xp_1_1 (fm : Value) : xm_spc (xt_X fm) "TabKernel$Address" 1 = 1 := by
  show ((xt_look xt_stab "TabKernel$Address" 1).map (fun e => e.1)).getD 0 = _
  rfl
theorem xz0_1_1 : xt_ci "TabKernel$Address" 1 = none := by decide +kernel
theorem xp_5_1 (fm : Value) : xm_spc (xt_X fm) "TabKernel$Frame" 1 = 1 := by
  show ((xt_look xt_stab "TabKernel$Frame" 1).map (fun e => e.1)).getD 0 = _
  rfl
theorem xz0_5_1 : xt_ci "TabKernel$Frame" 1 = none := by decide +kernel
theorem xp_8_3 (fm : Value) : xm_spc (xt_X fm) "TabKernel$Request" 3 = 1 := by
  show ((xt_look xt_stab "TabKernel$Request" 3).map (fun e => e.1)).getD 0 = _
  rfl
theorem xz0_8_3 : xt_ci "TabKernel$Request" 3 = none := by decide +kernel
theorem xp_7_1 (fm : Value) : xm_spc (xt_X fm) "TabKernel$Message" 1 = 1 := by
  show ((xt_look xt_stab "TabKernel$Message" 1).map (fun e => e.1)).getD 0 = _
  rfl
theorem xz0_7_1 : xt_ci "TabKernel$Message" 1 = none := by decide +kernel
theorem xp_4_3 (fm : Value) : xm_spc (xt_X fm) "TabKernel$CookieText" 3 = 1 := by
  show ((xt_look xt_stab "TabKernel$CookieText" 3).map (fun e => e.1)).getD 0 = _
  rfl
theorem xz0_4_3 : xt_ci "TabKernel$CookieText" 3 = none := by decide +kernel
theorem xp_3_3 (fm : Value) : xm_spc (xt_X fm) "TabKernel$Cookie" 3 = 1 := by
  show ((xt_look xt_stab "TabKernel$Cookie" 3).map (fun e => e.1)).getD 0 = _
  rfl
theorem xz0_3_3 : xt_ci "TabKernel$Cookie" 3 = none := by decide +kernel
theorem xp_13_1 (fm : Value) : xm_spc (xt_X fm) "TabKernelModel" 1 = 1 := by
  show ((xt_look xt_stab "TabKernelModel" 1).map (fun e => e.1)).getD 0 = _
  rfl
theorem xz0_13_1 : xt_ci "TabKernelModel" 1 = none := by decide +kernel
theorem xp_15_10 (fm : Value) : xm_spc (xt_X fm) "java/lang/String" 10 ≠ 4 := by
  show ((xt_look xt_stab "java/lang/String" 10).map (fun e => e.1)).getD 0 ≠ _
  decide +kernel
