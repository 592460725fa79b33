/-! the methods' codes are the Statement's, instruction by instruction -/
theorem xt_cut {α : Type} {l : List α} {f : α → Bool} (n : Nat) (h1 : (l.take n).all f = true) (h2 : (l.drop n).all f = true) : l.all f = true := by
  rw [← List.take_append_drop n l, List.all_append, h1, h2]
  rfl
def xt_ckI (b : ByteArray) (e : Nat × Instr × Nat) : Bool := decide (decode b e.1 = .ok e.2) && xm_lk e.2.1 e.2.2
theorem xt_q0 : xt_i0.all (xt_ckI prog_1_method_1_code) = true := by decide +kernel
theorem xt_q1 : xt_i1.all (xt_ckI prog_25_method_1_code) = true := by decide +kernel
theorem xt_q2 : xt_i2.all (xt_ckI prog_15_method_2_code) = true := by decide +kernel
theorem xt_q3 : xt_i3.all (xt_ckI prog_28_method_2_code) = true := by decide +kernel
theorem xt_q4 : xt_i4.all (xt_ckI prog_28_method_3_code) = true := by decide +kernel
theorem xt_q5 : xt_i5.all (xt_ckI prog_3_method_1_code) = true := by decide +kernel
theorem xt_q6 : xt_i6.all (xt_ckI prog_10_method_1_code) = true := by decide +kernel
theorem xt_q7 : xt_i7.all (xt_ckI prog_22_method_69_code) = true := by decide +kernel
theorem xt_q8 : xt_i8.all (xt_ckI prog_22_method_65_code) = true := by decide +kernel
theorem xt_q9 : xt_i9.all (xt_ckI prog_7_method_1_code) = true := by decide +kernel
theorem xt_q10 : xt_i10.all (xt_ckI prog_12_method_1_code) = true := by decide +kernel
theorem xt_q11 : xt_i11.all (xt_ckI prog_1_method_2_code) = true := by decide +kernel
theorem xt_q12 : xt_i12.all (xt_ckI prog_25_method_93_code) = true := by decide +kernel
theorem xt_q13 : xt_i13.all (xt_ckI prog_15_method_6_code) = true := by decide +kernel
theorem xt_q14 : xt_i14.all (xt_ckI prog_25_method_89_code) = true := by decide +kernel
theorem xt_q15 : xt_i15.all (xt_ckI prog_15_method_13_code) = true := by decide +kernel
theorem xt_q16 : xt_i16.all (xt_ckI prog_25_method_7_code) = true := by decide +kernel
theorem xt_q17 : xt_i17.all (xt_ckI prog_15_method_22_code) = true := by decide +kernel
theorem xt_q18 : xt_i18.all (xt_ckI prog_15_method_26_code) = true := by decide +kernel
theorem xt_q19 : xt_i19.all (xt_ckI prog_15_method_9_code) = true := by decide +kernel
theorem xt_q20 : xt_i20.all (xt_ckI prog_15_method_10_code) = true := by decide +kernel
theorem xt_q21 : xt_i21.all (xt_ckI prog_32_method_27_code) = true := by decide +kernel
theorem xt_q22 : xt_i22.all (xt_ckI prog_32_method_28_code) = true := by decide +kernel
theorem xt_q23 : xt_i23.all (xt_ckI prog_31_method_121_code) = true := by decide +kernel
theorem xt_q24 : xt_i24.all (xt_ckI prog_15_method_68_code) = true := by decide +kernel
theorem xt_q25 : xt_i25.all (xt_ckI prog_28_method_81_code) = true := by decide +kernel
theorem xt_q26 : xt_i26.all (xt_ckI prog_28_method_93_code) = true := by decide +kernel
theorem xt_q27 : xt_i27.all (xt_ckI prog_28_method_6_code) = true := by decide +kernel
theorem xt_q28 : xt_i28.all (xt_ckI prog_24_method_158_code) = true := by decide +kernel
theorem xt_q29 : xt_i29.all (xt_ckI prog_33_method_12_code) = true := by decide +kernel
theorem xt_q30 : xt_i30.all (xt_ckI prog_28_method_4_code) = true := by decide +kernel
theorem xt_q31 : xt_i31.all (xt_ckI prog_24_method_54_code) = true := by decide +kernel
theorem xt_q32 : xt_i32.all (xt_ckI prog_24_method_152_code) = true := by decide +kernel
theorem xt_q33 : xt_i33.all (xt_ckI prog_15_method_73_code) = true := by decide +kernel
theorem xt_q34 : xt_i34.all (xt_ckI prog_15_method_71_code) = true := by decide +kernel
theorem xt_q35 : xt_i35.all (xt_ckI prog_15_method_11_code) = true := by decide +kernel
theorem xt_q36 : xt_i36.all (xt_ckI prog_27_method_50_code) = true := by decide +kernel
theorem xt_q37 : xt_i37.all (xt_ckI prog_28_method_86_code) = true := by decide +kernel
theorem xt_q38 : xt_i38.all (xt_ckI prog_28_method_94_code) = true := by decide +kernel
theorem xt_q39 : xt_i39.all (xt_ckI prog_24_method_157_code) = true := by decide +kernel
theorem xt_q40 : xt_i40.all (xt_ckI prog_33_method_13_code) = true := by decide +kernel
theorem xt_q41 : xt_i41.all (xt_ckI prog_24_method_147_code) = true := by decide +kernel
theorem xt_q42 : xt_i42.all (xt_ckI prog_25_method_15_code) = true := by decide +kernel
theorem xt_q43 : xt_i43.all (xt_ckI prog_15_method_32_code) = true := by decide +kernel
theorem xt_q44 : xt_i44.all (xt_ckI prog_21_method_13_code) = true := by decide +kernel
theorem xt_q45 : xt_i45.all (xt_ckI prog_21_method_12_code) = true := by decide +kernel
theorem xt_q46 : xt_i46.all (xt_ckI prog_28_method_77_code) = true := by decide +kernel
theorem xt_q47 : xt_i47.all (xt_ckI prog_28_method_89_code) = true := by decide +kernel
theorem xt_q48 : xt_i48.all (xt_ckI prog_25_method_42_code) = true := by decide +kernel
theorem xt_q49 : xt_i49.all (xt_ckI prog_24_method_53_code) = true := by decide +kernel
theorem xt_q50 : xt_i50.all (xt_ckI prog_24_method_150_code) = true := by decide +kernel
theorem xt_q51 : xt_i51.all (xt_ckI prog_15_method_64_code) = true := by decide +kernel
theorem xt_q52 : xt_i52.all (xt_ckI prog_31_method_132_code) = true := by decide +kernel
theorem xt_q53 : xt_i53.all (xt_ckI prog_31_method_133_code) = true := by decide +kernel
theorem xt_q54 : xt_i54.all (xt_ckI prog_31_method_131_code) = true := by decide +kernel
theorem xt_q55 : xt_i55.all (xt_ckI prog_28_method_17_code) = true := by decide +kernel
theorem xt_q56 : xt_i56.all (xt_ckI prog_28_method_22_code) = true := by decide +kernel
theorem xt_q57 : xt_i57.all (xt_ckI prog_28_method_5_code) = true := by decide +kernel
theorem xt_q58 : xt_i58.all (xt_ckI prog_28_method_15_code) = true := by decide +kernel
theorem xt_q59 : xt_i59.all (xt_ckI prog_27_method_48_code) = true := by decide +kernel
theorem xt_q60 : xt_i60.all (xt_ckI prog_31_method_110_code) = true := by decide +kernel
theorem xt_q61 : xt_i61.all (xt_ckI prog_31_method_30_code) = true := by decide +kernel
theorem xt_q62 : xt_i62.all (xt_ckI prog_28_method_70_code) = true := by decide +kernel
theorem xt_q63 : xt_i63.all (xt_ckI prog_25_method_14_code) = true := by decide +kernel
theorem xt_q64 : xt_i64.all (xt_ckI prog_15_method_31_code) = true := by decide +kernel
theorem xt_q65 : xt_i65.all (xt_ckI prog_27_method_3_code) = true := by decide +kernel
theorem xt_q66 : xt_i66.all (xt_ckI prog_28_method_71_code) = true := by decide +kernel
theorem xt_q67 : xt_i67.all (xt_ckI prog_28_method_91_code) = true := by decide +kernel
theorem xt_q68 : xt_i68.all (xt_ckI prog_24_method_155_code) = true := by decide +kernel
theorem xt_q69 : xt_i69.all (xt_ckI prog_33_method_11_code) = true := by decide +kernel
theorem xt_q70 : xt_i70.all (xt_ckI prog_1_method_3_code) = true := by decide +kernel
theorem xt_q71 : xt_i71.all (xt_ckI prog_1_method_27_code) = true := by decide +kernel
theorem xt_q72 : xt_i72.all (xt_ckI prog_1_method_56_code) = true := by decide +kernel
theorem xt_q73 : xt_i73.all (xt_ckI prog_24_method_129_code) = true := by decide +kernel
theorem xt_q74 : xt_i74.all (xt_ckI prog_24_method_154_code) = true := by decide +kernel
theorem xt_q75 : xt_i75.all (xt_ckI prog_27_method_9_code) = true := by decide +kernel
theorem xt_q76 : xt_i76.all (xt_ckI prog_27_method_49_code) = true := by decide +kernel
theorem xt_q77 : xt_i77.all (xt_ckI prog_28_method_13_code) = true := by decide +kernel
theorem xt_q78 : xt_i78.all (xt_ckI prog_28_method_26_code) = true := by decide +kernel
theorem xt_q79 : xt_i79.all (xt_ckI prog_24_method_3_code) = true := by decide +kernel
theorem xt_q80 : xt_i80.all (xt_ckI prog_24_method_149_code) = true := by decide +kernel
theorem xt_q81 : xt_i81.all (xt_ckI prog_28_method_16_code) = true := by decide +kernel
theorem xt_q82 : xt_i82.all (xt_ckI prog_28_method_21_code) = true := by decide +kernel
theorem xt_q83 : xt_i83.all (xt_ckI prog_28_method_14_code) = true := by decide +kernel
theorem xt_q84 : xt_i84.all (xt_ckI prog_1_method_61_code) = true := by decide +kernel
theorem xt_q85 : xt_i85.all (xt_ckI prog_24_method_56_code) = true := by decide +kernel
theorem xt_q86 : xt_i86.all (xt_ckI prog_27_method_2_code) = true := by decide +kernel
theorem xt_q87 : xt_i87.all (xt_ckI prog_28_method_83_code) = true := by decide +kernel
theorem xt_q88 : xt_i88.all (xt_ckI prog_1_method_55_code) = true := by decide +kernel
theorem xt_q89 : xt_i89.all (xt_ckI prog_1_method_54_code) = true := by decide +kernel
theorem xt_q90 : xt_i90.all (xt_ckI prog_12_method_3_code) = true := by decide +kernel
theorem xt_q91 : xt_i91.all (xt_ckI prog_12_method_4_code) = true := by decide +kernel
theorem xt_q92 : xt_i92.all (xt_ckI prog_24_method_66_code) = true := by decide +kernel
theorem xt_q93 : xt_i93.all (xt_ckI prog_27_method_13_code) = true := by decide +kernel
theorem xt_q94 : xt_i94.all (xt_ckI prog_11_method_1_code) = true := by decide +kernel
theorem xt_q95 : xt_i95.all (xt_ckI prog_12_method_2_code) = true := by decide +kernel
theorem xt_q96 : xt_i96.all (xt_ckI prog_1_method_4_code) = true := by decide +kernel
theorem xt_q97 : xt_i97.all (xt_ckI prog_7_method_3_code) = true := by decide +kernel
theorem xt_q98 : xt_i98.all (xt_ckI prog_7_method_2_code) = true := by decide +kernel
theorem xt_q99 : xt_i99.all (xt_ckI prog_1_method_5_code) = true := by decide +kernel
theorem xt_q100 : xt_i100.all (xt_ckI prog_3_method_2_code) = true := by decide +kernel
theorem xt_q101 : xt_i101.all (xt_ckI prog_3_method_3_code) = true := by decide +kernel
theorem xt_q102 : xt_i102.all (xt_ckI prog_3_method_4_code) = true := by decide +kernel
theorem xt_q103 : xt_i103.all (xt_ckI prog_24_method_92_code) = true := by decide +kernel
theorem xt_q104 : xt_i104.all (xt_ckI prog_27_method_47_code) = true := by decide +kernel
theorem xt_q105 : xt_i105.all (xt_ckI prog_24_method_151_code) = true := by decide +kernel
theorem xt_q106 : xt_i106.all (xt_ckI prog_28_method_69_code) = true := by decide +kernel
theorem xt_q107 : xt_i107.all (xt_ckI prog_3_method_6_code) = true := by decide +kernel
theorem xt_q108 : xt_i108.all (xt_ckI prog_3_method_10_code) = true := by decide +kernel
theorem xt_q109 : xt_i109.all (xt_ckI prog_3_method_9_code) = true := by decide +kernel
theorem xt_q110 : xt_i110.all (xt_ckI prog_3_method_5_code) = true := by decide +kernel
theorem xt_q111 : xt_i111.all (xt_ckI prog_3_method_11_code) = true := by decide +kernel
theorem xt_q112 : xt_i112.all (xt_ckI prog_3_method_14_code) = true := by decide +kernel
theorem xt_q113 : xt_i113.all (xt_ckI prog_3_method_12_code) = true := by decide +kernel
theorem xt_q114 : xt_i114.all (xt_ckI prog_3_method_13_code) = true := by decide +kernel
theorem xt_q115 : xt_i115.all (xt_ckI prog_3_method_15_code) = true := by decide +kernel
theorem xt_q116 : xt_i116.all (xt_ckI prog_3_method_7_code) = true := by decide +kernel
theorem xt_q117 : xt_i117.all (xt_ckI prog_3_method_8_code) = true := by decide +kernel
theorem xt_q118 : xt_i118.all (xt_ckI prog_1_method_58_code) = true := by decide +kernel
theorem xt_q119 : xt_i119.all (xt_ckI prog_3_method_19_code) = true := by decide +kernel
theorem xt_q120 : xt_i120.all (xt_ckI prog_3_method_16_code) = true := by decide +kernel
theorem xt_q121 : xt_i121.all (xt_ckI prog_3_method_17_code) = true := by decide +kernel
theorem xt_q122 : xt_i122.all (xt_ckI prog_3_method_18_code) = true := by decide +kernel
theorem xt_q123 : xt_i123.all (xt_ckI prog_25_method_88_code) = true := by decide +kernel
theorem xt_q124 : xt_i124.all (xt_ckI prog_15_method_14_code) = true := by decide +kernel
theorem xt_q125 : xt_i125.all (xt_ckI prog_2_method_1_code) = true := by decide +kernel
theorem xt_q126 : xt_i126.all (xt_ckI prog_1_method_38_code) = true := by decide +kernel
theorem xt_q127 : xt_i127.all (xt_ckI prog_1_method_39_code) = true := by decide +kernel
theorem xt_q128 : xt_i128.all (xt_ckI prog_1_method_40_code) = true := by decide +kernel
theorem xt_q129 : xt_i129.all (xt_ckI prog_1_method_41_code) = true := by decide +kernel
theorem xt_q130 : xt_i130.all (xt_ckI prog_6_method_1_code) = true := by decide +kernel
theorem xt_q131 : xt_i131.all (xt_ckI prog_1_method_46_code) = true := by decide +kernel
theorem xt_q132 : xt_i132.all (xt_ckI prog_1_method_45_code) = true := by decide +kernel
theorem xt_q133 : xt_i133.all (xt_ckI prog_9_method_2_code) = true := by decide +kernel
theorem xt_q134 : xt_i134.all (xt_ckI prog_9_method_1_code) = true := by decide +kernel
theorem xt_q135 : xt_i135.all (xt_ckI prog_1_method_47_code) = true := by decide +kernel
theorem xt_q136 : xt_i136.all (xt_ckI prog_7_method_13_code) = true := by decide +kernel
theorem xt_q137 : xt_i137.all (xt_ckI prog_4_method_2_code) = true := by decide +kernel
theorem xt_q138 : xt_i138.all (xt_ckI prog_4_method_4_code) = true := by decide +kernel
theorem xt_q139 : xt_i139.all (xt_ckI prog_1_method_60_code) = true := by decide +kernel
theorem xt_q140 : xt_i140.all (xt_ckI prog_1_method_59_code) = true := by decide +kernel
theorem xt_q141 : xt_i141.all (xt_ckI prog_4_method_5_code) = true := by decide +kernel
theorem xt_q142 : xt_i142.all (xt_ckI prog_7_method_14_code) = true := by decide +kernel
theorem xt_q143 : xt_i143.all (xt_ckI prog_1_method_29_code) = true := by decide +kernel
theorem xt_q144 : xt_i144.all (xt_ckI prog_8_method_1_code) = true := by decide +kernel
theorem xt_q145 : xt_i145.all (xt_ckI prog_1_method_8_code) = true := by decide +kernel
theorem xt_q146 : xt_i146.all (xt_ckI prog_1_method_32_code) = true := by decide +kernel
theorem xt_q147 : xt_i147.all (xt_ckI prog_1_method_21_code) = true := by decide +kernel
theorem xt_q148 : xt_i148.all (xt_ckI prog_1_method_28_code) = true := by decide +kernel
theorem xt_q149 : xt_i149.all (xt_ckI prog_1_method_22_code) = true := by decide +kernel
theorem xt_q150 : xt_i150.all (xt_ckI prog_1_method_33_code) = true := by decide +kernel
theorem xt_q151 : xt_i151.all (xt_ckI prog_1_method_51_code) = true := by decide +kernel
theorem xt_q152 : xt_i152.all (xt_ckI prog_1_method_34_code) = true := by decide +kernel
theorem xt_q153 : xt_i153.all (xt_ckI prog_1_method_52_code) = true := by decide +kernel
theorem xt_q154 : xt_i154.all (xt_ckI prog_7_method_4_code) = true := by decide +kernel
theorem xt_q155 : xt_i155.all (xt_ckI prog_1_method_23_code) = true := by decide +kernel
theorem xt_q156 : xt_i156.all (xt_ckI prog_1_method_30_code) = true := by decide +kernel
theorem xt_q157 : xt_i157.all (xt_ckI prog_1_method_24_code) = true := by decide +kernel
theorem xt_q158 : xt_i158.all (xt_ckI prog_1_method_53_code) = true := by decide +kernel
theorem xt_q159 : xt_i159.all (xt_ckI prog_1_method_25_code) = true := by decide +kernel
theorem xt_q160 : xt_i160.all (xt_ckI prog_1_method_26_code) = true := by decide +kernel
theorem xt_q161 : xt_i161.all (xt_ckI method_2_code) = true := by decide +kernel
theorem xt_q162 : xt_i162.all (xt_ckI method_3_code) = true := by decide +kernel
theorem xt_q163 : xt_i163.all (xt_ckI prog_1_method_6_code) = true := by decide +kernel
theorem xt_q164 : xt_i164.all (xt_ckI prog_1_method_35_code) = true := by decide +kernel
theorem xt_q165 : xt_i165.all (xt_ckI prog_1_method_43_code) = true := by decide +kernel
theorem xt_q166 : xt_i166.all (xt_ckI prog_6_method_2_code) = true := by decide +kernel
theorem xt_q167 : xt_i167.all (xt_ckI prog_1_method_42_code) = true := by decide +kernel
theorem xt_q168 : xt_i168.all (xt_ckI prog_1_method_44_code) = true := by decide +kernel
theorem xt_q169 : xt_i169.all (xt_ckI method_4_code) = true := by decide +kernel
theorem xt_q170 : xt_i170.all (xt_ckI prog_1_method_7_code) = true := by decide +kernel
theorem xt_q171 : xt_i171.all (xt_ckI method_5_code) = true := by decide +kernel
theorem xt_q172 : xt_i172.all (xt_ckI prog_1_method_9_code) = true := by decide +kernel
theorem xt_q173 : xt_i173.all (xt_ckI prog_1_method_36_code) = true := by decide +kernel
theorem xt_q174 : xt_i174.all (xt_ckI prog_1_method_31_code) = true := by decide +kernel
theorem xt_q175 : xt_i175.all (xt_ckI method_6_code) = true := by decide +kernel
theorem xt_q176 : xt_i176.all (xt_ckI prog_1_method_10_code) = true := by decide +kernel
theorem xt_q177 : xt_i177.all (xt_ckI prog_1_method_49_code) = true := by decide +kernel
theorem xt_q178 : xt_i178.all (xt_ckI prog_2_method_2_code) = true := by decide +kernel
theorem xt_q179 : xt_i179.all (xt_ckI method_7_code) = true := by decide +kernel
theorem xt_q180 : xt_i180.all (xt_ckI prog_1_method_11_code) = true := by decide +kernel
theorem xt_q181 : xt_i181.all (xt_ckI method_8_code) = true := by decide +kernel
theorem xt_q182 : xt_i182.all (xt_ckI prog_1_method_12_code) = true := by decide +kernel
theorem xt_q183 : xt_i183.all (xt_ckI prog_1_method_37_code) = true := by decide +kernel
theorem xt_q184 : xt_i184.all (xt_ckI prog_1_method_48_code) = true := by decide +kernel
theorem xt_q185 : xt_i185.all (xt_ckI prog_9_method_4_code) = true := by decide +kernel
theorem xt_q186 : xt_i186.all (xt_ckI method_9_code) = true := by decide +kernel
theorem xt_q187 : xt_i187.all (xt_ckI prog_1_method_13_code) = true := by decide +kernel
theorem xt_q188_0 : (xt_i188.take 80).all (xt_ckI prog_7_method_5_code) = true := by decide +kernel
theorem xt_q188_1 : (xt_i188.drop 80).all (xt_ckI prog_7_method_5_code) = true := by decide +kernel
theorem xt_q188 : xt_i188.all (xt_ckI prog_7_method_5_code) = true := xt_cut 80 xt_q188_0 (xt_q188_1)
theorem xt_q189 : xt_i189.all (xt_ckI prog_7_method_9_code) = true := by decide +kernel
theorem xt_q190 : xt_i190.all (xt_ckI prog_7_method_12_code) = true := by decide +kernel
theorem xt_q191_0 : (xt_i191.take 80).all (xt_ckI prog_5_method_2_code) = true := by decide +kernel
theorem xt_q191_1 : (xt_i191.drop 80).all (xt_ckI prog_5_method_2_code) = true := by decide +kernel
theorem xt_q191 : xt_i191.all (xt_ckI prog_5_method_2_code) = true := xt_cut 80 xt_q191_0 (xt_q191_1)
theorem xt_q192 : xt_i192.all (xt_ckI prog_1_method_57_code) = true := by decide +kernel
theorem xt_q193 : xt_i193.all (xt_ckI prog_5_method_6_code) = true := by decide +kernel
theorem xt_q194 : xt_i194.all (xt_ckI prog_24_method_55_code) = true := by decide +kernel
theorem xt_q195 : xt_i195.all (xt_ckI prog_5_method_1_code) = true := by decide +kernel
theorem xt_q196 : xt_i196.all (xt_ckI prog_5_method_3_code) = true := by decide +kernel
theorem xt_q197 : xt_i197.all (xt_ckI prog_5_method_4_code) = true := by decide +kernel
theorem xt_q198 : xt_i198.all (xt_ckI prog_24_method_91_code) = true := by decide +kernel
theorem xt_q199 : xt_i199.all (xt_ckI prog_5_method_5_code) = true := by decide +kernel
theorem xt_q200_0 : (xt_i200.take 80).all (xt_ckI prog_7_method_6_code) = true := by decide +kernel
theorem xt_q200_1 : (xt_i200.drop 80).all (xt_ckI prog_7_method_6_code) = true := by decide +kernel
theorem xt_q200 : xt_i200.all (xt_ckI prog_7_method_6_code) = true := xt_cut 80 xt_q200_0 (xt_q200_1)
theorem xt_q201 : xt_i201.all (xt_ckI prog_12_method_5_code) = true := by decide +kernel
theorem xt_q202 : xt_i202.all (xt_ckI prog_24_method_79_code) = true := by decide +kernel
theorem xt_q203 : xt_i203.all (xt_ckI prog_24_method_80_code) = true := by decide +kernel
theorem xt_q204 : xt_i204.all (xt_ckI prog_27_method_22_code) = true := by decide +kernel
theorem xt_q205 : xt_i205.all (xt_ckI prog_27_method_4_code) = true := by decide +kernel
theorem xt_q206 : xt_i206.all (xt_ckI prog_27_method_23_code) = true := by decide +kernel
theorem xt_q207 : xt_i207.all (xt_ckI prog_28_method_40_code) = true := by decide +kernel
theorem xt_q208 : xt_i208.all (xt_ckI prog_28_method_47_code) = true := by decide +kernel
theorem xt_q209 : xt_i209.all (xt_ckI prog_28_method_48_code) = true := by decide +kernel
theorem xt_q210 : xt_i210.all (xt_ckI prog_28_method_49_code) = true := by decide +kernel
theorem xt_q211 : xt_i211.all (xt_ckI prog_17_method_11_code) = true := by decide +kernel
theorem xt_q212 : xt_i212.all (xt_ckI prog_17_method_28_code) = true := by decide +kernel
theorem xt_q213 : xt_i213.all (xt_ckI prog_17_method_29_code) = true := by decide +kernel
theorem xt_q214 : xt_i214.all (xt_ckI prog_7_method_7_code) = true := by decide +kernel
theorem xt_q215 : xt_i215.all (xt_ckI prog_4_method_1_code) = true := by decide +kernel
theorem xt_q216 : xt_i216.all (xt_ckI prog_7_method_8_code) = true := by decide +kernel
theorem xt_q217 : xt_i217.all (xt_ckI prog_4_method_3_code) = true := by decide +kernel
theorem xt_q218 : xt_i218.all (xt_ckI prog_7_method_10_code) = true := by decide +kernel
theorem xt_q219 : xt_i219.all (xt_ckI prog_12_method_6_code) = true := by decide +kernel
theorem xt_q220 : xt_i220.all (xt_ckI prog_7_method_11_code) = true := by decide +kernel
theorem xt_q221 : xt_i221.all (xt_ckI method_10_code) = true := by decide +kernel
theorem xt_q222 : xt_i222.all (xt_ckI prog_1_method_14_code) = true := by decide +kernel
theorem xt_q223 : xt_i223.all (xt_ckI prog_9_method_3_code) = true := by decide +kernel
theorem xt_q224 : xt_i224.all (xt_ckI method_11_code) = true := by decide +kernel
theorem xt_q225 : xt_i225.all (xt_ckI prog_1_method_15_code) = true := by decide +kernel
theorem xt_q226 : xt_i226.all (xt_ckI prog_9_method_5_code) = true := by decide +kernel
theorem xt_q227 : xt_i227.all (xt_ckI prog_9_method_6_code) = true := by decide +kernel
theorem xt_q228 : xt_i228.all (xt_ckI method_12_code) = true := by decide +kernel
theorem xt_q229 : xt_i229.all (xt_ckI prog_1_method_16_code) = true := by decide +kernel
theorem xt_q230 : xt_i230.all (xt_ckI method_13_code) = true := by decide +kernel
theorem xt_q231 : xt_i231.all (xt_ckI prog_1_method_17_code) = true := by decide +kernel
theorem xt_q232 : xt_i232.all (xt_ckI method_14_code) = true := by decide +kernel
theorem xt_q233 : xt_i233.all (xt_ckI prog_1_method_18_code) = true := by decide +kernel
theorem xt_q234 : xt_i234.all (xt_ckI prog_10_method_2_code) = true := by decide +kernel
theorem xt_q235 : xt_i235.all (xt_ckI prog_10_method_5_code) = true := by decide +kernel
theorem xt_q236 : xt_i236.all (xt_ckI prog_10_method_4_code) = true := by decide +kernel
theorem xt_q237 : xt_i237.all (xt_ckI method_15_code) = true := by decide +kernel
theorem xt_q238 : xt_i238.all (xt_ckI prog_1_method_19_code) = true := by decide +kernel
theorem xt_q239 : xt_i239.all (xt_ckI prog_10_method_3_code) = true := by decide +kernel
theorem xt_q240 : xt_i240.all (xt_ckI method_16_code) = true := by decide +kernel
theorem xt_q241 : xt_i241.all (xt_ckI prog_1_method_20_code) = true := by decide +kernel
theorem xt_q242 : xt_i242.all (xt_ckI prog_1_method_50_code) = true := by decide +kernel
theorem xt_q243_0 : (xt_i243.take 80).all (xt_ckI prog_14_method_1_code) = true := by decide +kernel
theorem xt_q243_1 : ((xt_i243.drop 80).take 80).all (xt_ckI prog_14_method_1_code) = true := by decide +kernel
theorem xt_q243_2 : (((xt_i243.drop 80).drop 80).take 80).all (xt_ckI prog_14_method_1_code) = true := by decide +kernel
theorem xt_q243_3 : ((((xt_i243.drop 80).drop 80).drop 80).take 80).all (xt_ckI prog_14_method_1_code) = true := by decide +kernel
theorem xt_q243_4 : ((((xt_i243.drop 80).drop 80).drop 80).drop 80).all (xt_ckI prog_14_method_1_code) = true := by decide +kernel
theorem xt_q243 : xt_i243.all (xt_ckI prog_14_method_1_code) = true := xt_cut 80 xt_q243_0 (xt_cut 80 xt_q243_1 (xt_cut 80 xt_q243_2 (xt_cut 80 xt_q243_3 (xt_q243_4))))
theorem xt_q244 : xt_i244.all (xt_ckI prog_14_method_2_code) = true := by decide +kernel
theorem xt_q245 : xt_i245.all (xt_ckI prog_14_method_4_code) = true := by decide +kernel
theorem xt_q246_0 : (xt_i246.take 80).all (xt_ckI prog_14_method_33_code) = true := by decide +kernel
theorem xt_q246_1 : (xt_i246.drop 80).all (xt_ckI prog_14_method_33_code) = true := by decide +kernel
theorem xt_q246 : xt_i246.all (xt_ckI prog_14_method_33_code) = true := xt_cut 80 xt_q246_0 (xt_q246_1)
theorem xt_q247 : xt_i247.all (xt_ckI prog_14_method_22_code) = true := by decide +kernel
theorem xt_q248 : xt_i248.all (xt_ckI prog_14_method_6_code) = true := by decide +kernel
theorem xt_q249 : xt_i249.all (xt_ckI prog_14_method_5_code) = true := by decide +kernel
theorem xt_q250 : xt_i250.all (xt_ckI prog_14_method_9_code) = true := by decide +kernel
theorem xt_q251 : xt_i251.all (xt_ckI prog_14_method_7_code) = true := by decide +kernel
theorem xt_q252 : xt_i252.all (xt_ckI prog_14_method_8_code) = true := by decide +kernel
theorem xt_q253 : xt_i253.all (xt_ckI prog_14_method_20_code) = true := by decide +kernel
theorem xt_q254 : xt_i254.all (xt_ckI prog_14_method_34_code) = true := by decide +kernel
theorem xt_q255 : xt_i255.all (xt_ckI prog_14_method_38_code) = true := by decide +kernel
theorem xt_q256 : xt_i256.all (xt_ckI prog_14_method_74_code) = true := by decide +kernel
theorem xt_q257 : xt_i257.all (xt_ckI prog_14_method_28_code) = true := by decide +kernel
theorem xt_q258 : xt_i258.all (xt_ckI prog_14_method_27_code) = true := by decide +kernel
theorem xt_q259 : xt_i259.all (xt_ckI prog_14_method_26_code) = true := by decide +kernel
theorem xt_q260 : xt_i260.all (xt_ckI prog_14_method_21_code) = true := by decide +kernel
theorem xt_q261_0 : (xt_i261.take 80).all (xt_ckI prog_14_method_23_code) = true := by decide +kernel
theorem xt_q261_1 : (xt_i261.drop 80).all (xt_ckI prog_14_method_23_code) = true := by decide +kernel
theorem xt_q261 : xt_i261.all (xt_ckI prog_14_method_23_code) = true := xt_cut 80 xt_q261_0 (xt_q261_1)
theorem xt_q262 : xt_i262.all (xt_ckI prog_14_method_24_code) = true := by decide +kernel
theorem xt_q263 : xt_i263.all (xt_ckI prog_14_method_10_code) = true := by decide +kernel
theorem xt_q264 : xt_i264.all (xt_ckI prog_14_method_25_code) = true := by decide +kernel
theorem xt_q265 : xt_i265.all (xt_ckI prog_14_method_11_code) = true := by decide +kernel
theorem xt_q266_0 : (xt_i266.take 80).all (xt_ckI prog_14_method_32_code) = true := by decide +kernel
theorem xt_q266_1 : (xt_i266.drop 80).all (xt_ckI prog_14_method_32_code) = true := by decide +kernel
theorem xt_q266 : xt_i266.all (xt_ckI prog_14_method_32_code) = true := xt_cut 80 xt_q266_0 (xt_q266_1)
theorem xt_q267_0 : (xt_i267.take 80).all (xt_ckI prog_14_method_31_code) = true := by decide +kernel
theorem xt_q267_1 : (xt_i267.drop 80).all (xt_ckI prog_14_method_31_code) = true := by decide +kernel
theorem xt_q267 : xt_i267.all (xt_ckI prog_14_method_31_code) = true := xt_cut 80 xt_q267_0 (xt_q267_1)
theorem xt_q268_0 : (xt_i268.take 80).all (xt_ckI prog_14_method_29_code) = true := by decide +kernel
theorem xt_q268_1 : (xt_i268.drop 80).all (xt_ckI prog_14_method_29_code) = true := by decide +kernel
theorem xt_q268 : xt_i268.all (xt_ckI prog_14_method_29_code) = true := xt_cut 80 xt_q268_0 (xt_q268_1)
theorem xt_q269 : xt_i269.all (xt_ckI prog_14_method_13_code) = true := by decide +kernel
theorem xt_q270 : xt_i270.all (xt_ckI prog_14_method_12_code) = true := by decide +kernel
theorem xt_q271 : xt_i271.all (xt_ckI prog_14_method_15_code) = true := by decide +kernel
theorem xt_q272 : xt_i272.all (xt_ckI prog_14_method_14_code) = true := by decide +kernel
theorem xt_q273 : xt_i273.all (xt_ckI prog_14_method_17_code) = true := by decide +kernel
theorem xt_q274 : xt_i274.all (xt_ckI prog_14_method_30_code) = true := by decide +kernel
theorem xt_q275 : xt_i275.all (xt_ckI prog_14_method_67_code) = true := by decide +kernel
theorem xt_q276 : xt_i276.all (xt_ckI prog_14_method_68_code) = true := by decide +kernel
theorem xt_q277 : xt_i277.all (xt_ckI prog_14_method_70_code) = true := by decide +kernel
theorem xt_q278 : xt_i278.all (xt_ckI prog_14_method_73_code) = true := by decide +kernel
theorem xt_q279 : xt_i279.all (xt_ckI prog_14_method_69_code) = true := by decide +kernel
theorem xt_q280 : xt_i280.all (xt_ckI prog_14_method_71_code) = true := by decide +kernel
theorem xt_q281 : xt_i281.all (xt_ckI prog_14_method_72_code) = true := by decide +kernel
theorem xt_q282 : xt_i282.all (xt_ckI prog_14_method_19_code) = true := by decide +kernel
theorem xt_q283 : xt_i283.all (xt_ckI prog_14_method_60_code) = true := by decide +kernel
theorem xt_q284 : xt_i284.all (xt_ckI prog_14_method_58_code) = true := by decide +kernel
theorem xt_q285_0 : (xt_i285.take 80).all (xt_ckI prog_14_method_59_code) = true := by decide +kernel
theorem xt_q285_1 : (xt_i285.drop 80).all (xt_ckI prog_14_method_59_code) = true := by decide +kernel
theorem xt_q285 : xt_i285.all (xt_ckI prog_14_method_59_code) = true := xt_cut 80 xt_q285_0 (xt_q285_1)
theorem xt_q286_0 : (xt_i286.take 80).all (xt_ckI prog_14_method_57_code) = true := by decide +kernel
theorem xt_q286_1 : ((xt_i286.drop 80).take 80).all (xt_ckI prog_14_method_57_code) = true := by decide +kernel
theorem xt_q286_2 : ((xt_i286.drop 80).drop 80).all (xt_ckI prog_14_method_57_code) = true := by decide +kernel
theorem xt_q286 : xt_i286.all (xt_ckI prog_14_method_57_code) = true := xt_cut 80 xt_q286_0 (xt_cut 80 xt_q286_1 (xt_q286_2))
theorem xt_q287 : xt_i287.all (xt_ckI prog_14_method_39_code) = true := by decide +kernel
theorem xt_q288 : xt_i288.all (xt_ckI prog_14_method_16_code) = true := by decide +kernel
theorem xt_q289 : xt_i289.all (xt_ckI prog_14_method_61_code) = true := by decide +kernel
theorem xt_q290 : xt_i290.all (xt_ckI prog_14_method_76_code) = true := by decide +kernel
theorem xt_q291 : xt_i291.all (xt_ckI prog_14_method_65_code) = true := by decide +kernel
theorem xt_q292 : xt_i292.all (xt_ckI prog_14_method_3_code) = true := by decide +kernel
theorem xt_q293 : xt_i293.all (xt_ckI prog_14_method_66_code) = true := by decide +kernel
theorem xt_q294_0 : (xt_i294.take 80).all (xt_ckI prog_14_method_75_code) = true := by decide +kernel
theorem xt_q294_1 : (xt_i294.drop 80).all (xt_ckI prog_14_method_75_code) = true := by decide +kernel
theorem xt_q294 : xt_i294.all (xt_ckI prog_14_method_75_code) = true := xt_cut 80 xt_q294_0 (xt_q294_1)
theorem xt_q295 : xt_i295.all (xt_ckI prog_14_method_77_code) = true := by decide +kernel
theorem xt_q296 : xt_i296.all (xt_ckI prog_14_method_78_code) = true := by decide +kernel
theorem xt_q297 : xt_i297.all (xt_ckI prog_14_method_80_code) = true := by decide +kernel
theorem xt_q298 : xt_i298.all (xt_ckI prog_14_method_63_code) = true := by decide +kernel
theorem xt_q299 : xt_i299.all (xt_ckI prog_14_method_79_code) = true := by decide +kernel
theorem xt_q300 : xt_i300.all (xt_ckI prog_14_method_62_code) = true := by decide +kernel
theorem xt_q301 : xt_i301.all (xt_ckI prog_14_method_82_code) = true := by decide +kernel
theorem xt_q302 : xt_i302.all (xt_ckI prog_14_method_81_code) = true := by decide +kernel
theorem xt_q303 : xt_i303.all (xt_ckI prog_14_method_18_code) = true := by decide +kernel
theorem xt_q304 : xt_i304.all (xt_ckI prog_14_method_83_code) = true := by decide +kernel
theorem xt_q305 : xt_i305.all (xt_ckI prog_14_method_86_code) = true := by decide +kernel
theorem xt_q306 : xt_i306.all (xt_ckI prog_14_method_64_code) = true := by decide +kernel
theorem xt_q307_0 : (xt_i307.take 80).all (xt_ckI prog_14_method_85_code) = true := by decide +kernel
theorem xt_q307_1 : (xt_i307.drop 80).all (xt_ckI prog_14_method_85_code) = true := by decide +kernel
theorem xt_q307 : xt_i307.all (xt_ckI prog_14_method_85_code) = true := xt_cut 80 xt_q307_0 (xt_q307_1)
theorem xt_q308 : xt_i308.all (xt_ckI prog_14_method_84_code) = true := by decide +kernel
theorem xt_q309 : xt_i309.all (xt_ckI prog_14_method_87_code) = true := by decide +kernel
theorem xt_q310 : xt_i310.all (xt_ckI prog_14_method_44_code) = true := by decide +kernel
theorem xt_q311 : xt_i311.all (xt_ckI prog_14_method_41_code) = true := by decide +kernel
theorem xt_q312_0 : (xt_i312.take 80).all (xt_ckI prog_14_method_40_code) = true := by decide +kernel
theorem xt_q312_1 : (xt_i312.drop 80).all (xt_ckI prog_14_method_40_code) = true := by decide +kernel
theorem xt_q312 : xt_i312.all (xt_ckI prog_14_method_40_code) = true := xt_cut 80 xt_q312_0 (xt_q312_1)
theorem xt_q313 : xt_i313.all (xt_ckI prog_14_method_42_code) = true := by decide +kernel
theorem xt_q314_0 : (xt_i314.take 80).all (xt_ckI prog_14_method_45_code) = true := by decide +kernel
theorem xt_q314_1 : (xt_i314.drop 80).all (xt_ckI prog_14_method_45_code) = true := by decide +kernel
theorem xt_q314 : xt_i314.all (xt_ckI prog_14_method_45_code) = true := xt_cut 80 xt_q314_0 (xt_q314_1)
theorem xt_q315 : xt_i315.all (xt_ckI prog_14_method_43_code) = true := by decide +kernel
theorem xt_q316 : xt_i316.all (xt_ckI prog_14_method_46_code) = true := by decide +kernel
theorem xt_q317 : xt_i317.all (xt_ckI prog_14_method_47_code) = true := by decide +kernel
theorem xt_q318_0 : (xt_i318.take 80).all (xt_ckI prog_14_method_48_code) = true := by decide +kernel
theorem xt_q318_1 : (xt_i318.drop 80).all (xt_ckI prog_14_method_48_code) = true := by decide +kernel
theorem xt_q318 : xt_i318.all (xt_ckI prog_14_method_48_code) = true := xt_cut 80 xt_q318_0 (xt_q318_1)
theorem xt_q319 : xt_i319.all (xt_ckI prog_14_method_49_code) = true := by decide +kernel
theorem xt_q320_0 : (xt_i320.take 80).all (xt_ckI prog_14_method_52_code) = true := by decide +kernel
theorem xt_q320_1 : (xt_i320.drop 80).all (xt_ckI prog_14_method_52_code) = true := by decide +kernel
theorem xt_q320 : xt_i320.all (xt_ckI prog_14_method_52_code) = true := xt_cut 80 xt_q320_0 (xt_q320_1)
theorem xt_q321 : xt_i321.all (xt_ckI prog_14_method_51_code) = true := by decide +kernel
theorem xt_q322 : xt_i322.all (xt_ckI prog_14_method_50_code) = true := by decide +kernel
theorem xt_q323_0 : (xt_i323.take 80).all (xt_ckI prog_14_method_53_code) = true := by decide +kernel
theorem xt_q323_1 : (xt_i323.drop 80).all (xt_ckI prog_14_method_53_code) = true := by decide +kernel
theorem xt_q323 : xt_i323.all (xt_ckI prog_14_method_53_code) = true := xt_cut 80 xt_q323_0 (xt_q323_1)
theorem xt_q324_0 : (xt_i324.take 80).all (xt_ckI prog_14_method_55_code) = true := by decide +kernel
theorem xt_q324_1 : (xt_i324.drop 80).all (xt_ckI prog_14_method_55_code) = true := by decide +kernel
theorem xt_q324 : xt_i324.all (xt_ckI prog_14_method_55_code) = true := xt_cut 80 xt_q324_0 (xt_q324_1)
theorem xt_q325_0 : (xt_i325.take 80).all (xt_ckI prog_14_method_54_code) = true := by decide +kernel
theorem xt_q325_1 : (xt_i325.drop 80).all (xt_ckI prog_14_method_54_code) = true := by decide +kernel
theorem xt_q325 : xt_i325.all (xt_ckI prog_14_method_54_code) = true := xt_cut 80 xt_q325_0 (xt_q325_1)
theorem xt_q326 : xt_i326.all (xt_ckI prog_14_method_56_code) = true := by decide +kernel
theorem xt_q327 : xt_i327.all (xt_ckI prog_14_method_37_code) = true := by decide +kernel
theorem xt_q328_0 : (xt_i328.take 80).all (xt_ckI prog_14_method_35_code) = true := by decide +kernel
theorem xt_q328_1 : (xt_i328.drop 80).all (xt_ckI prog_14_method_35_code) = true := by decide +kernel
theorem xt_q328 : xt_i328.all (xt_ckI prog_14_method_35_code) = true := xt_cut 80 xt_q328_0 (xt_q328_1)
theorem xt_q329 : xt_i329.all (xt_ckI prog_14_method_36_code) = true := by decide +kernel
theorem xt_q330 : xt_i330.all (xt_ckI prog_14_method_88_code) = true := by decide +kernel
theorem xt_q331_0 : (xt_i331.take 80).all (xt_ckI prog_14_method_89_code) = true := by decide +kernel
theorem xt_q331_1 : (xt_i331.drop 80).all (xt_ckI prog_14_method_89_code) = true := by decide +kernel
theorem xt_q331 : xt_i331.all (xt_ckI prog_14_method_89_code) = true := xt_cut 80 xt_q331_0 (xt_q331_1)
theorem xt_q332 : xt_i332.all (xt_ckI prog_14_method_91_code) = true := by decide +kernel
theorem xt_q333 : xt_i333.all (xt_ckI prog_14_method_90_code) = true := by decide +kernel
theorem xt_q334 : xt_i334.all (xt_ckI prog_14_method_92_code) = true := by decide +kernel
theorem xt_q335 : xt_i335.all (xt_ckI prog_14_method_94_code) = true := by decide +kernel
theorem xt_q336 : xt_i336.all (xt_ckI prog_14_method_93_code) = true := by decide +kernel
theorem xt_q337 : xt_i337.all (xt_ckI prog_14_method_95_code) = true := by decide +kernel
theorem xt_q338_0 : (xt_i338.take 80).all (xt_ckI prog_14_method_97_code) = true := by decide +kernel
theorem xt_q338_1 : (xt_i338.drop 80).all (xt_ckI prog_14_method_97_code) = true := by decide +kernel
theorem xt_q338 : xt_i338.all (xt_ckI prog_14_method_97_code) = true := xt_cut 80 xt_q338_0 (xt_q338_1)
theorem xt_q339 : xt_i339.all (xt_ckI prog_14_method_96_code) = true := by decide +kernel
theorem xt_q340 : xt_i340.all (xt_ckI prog_14_method_98_code) = true := by decide +kernel
theorem xt_q341 : xt_i341.all (xt_ckI prog_14_method_101_code) = true := by decide +kernel
theorem xt_q342 : xt_i342.all (xt_ckI prog_14_method_99_code) = true := by decide +kernel
theorem xt_q343 : xt_i343.all (xt_ckI prog_14_method_100_code) = true := by decide +kernel
theorem xt_q344 : xt_i344.all (xt_ckI prog_14_method_102_code) = true := by decide +kernel
theorem xt_q345 : xt_i345.all (xt_ckI prog_14_method_103_code) = true := by decide +kernel
theorem xt_q346 : xt_i346.all (xt_ckI prog_14_method_104_code) = true := by decide +kernel
theorem xt_q347 : xt_i347.all (xt_ckI prog_14_method_105_code) = true := by decide +kernel
theorem xt_q348_0 : (xt_i348.take 80).all (xt_ckI code) = true := by decide +kernel
theorem xt_q348_1 : ((xt_i348.drop 80).take 80).all (xt_ckI code) = true := by decide +kernel
theorem xt_q348_2 : (((xt_i348.drop 80).drop 80).take 80).all (xt_ckI code) = true := by decide +kernel
theorem xt_q348_3 : ((((xt_i348.drop 80).drop 80).drop 80).take 80).all (xt_ckI code) = true := by decide +kernel
theorem xt_q348_4 : (((((xt_i348.drop 80).drop 80).drop 80).drop 80).take 80).all (xt_ckI code) = true := by decide +kernel
theorem xt_q348_5 : ((((((xt_i348.drop 80).drop 80).drop 80).drop 80).drop 80).take 80).all (xt_ckI code) = true := by decide +kernel
theorem xt_q348_6 : (((((((xt_i348.drop 80).drop 80).drop 80).drop 80).drop 80).drop 80).take 80).all (xt_ckI code) = true := by decide +kernel
theorem xt_q348_7 : ((((((((xt_i348.drop 80).drop 80).drop 80).drop 80).drop 80).drop 80).drop 80).take 80).all (xt_ckI code) = true := by decide +kernel
theorem xt_q348_8 : (((((((((xt_i348.drop 80).drop 80).drop 80).drop 80).drop 80).drop 80).drop 80).drop 80).take 80).all (xt_ckI code) = true := by decide +kernel
theorem xt_q348_9 : (((((((((xt_i348.drop 80).drop 80).drop 80).drop 80).drop 80).drop 80).drop 80).drop 80).drop 80).all (xt_ckI code) = true := by decide +kernel
theorem xt_q348 : xt_i348.all (xt_ckI code) = true := xt_cut 80 xt_q348_0 (xt_cut 80 xt_q348_1 (xt_cut 80 xt_q348_2 (xt_cut 80 xt_q348_3 (xt_cut 80 xt_q348_4 (xt_cut 80 xt_q348_5 (xt_cut 80 xt_q348_6 (xt_cut 80 xt_q348_7 (xt_cut 80 xt_q348_8 (xt_q348_9)))))))))
