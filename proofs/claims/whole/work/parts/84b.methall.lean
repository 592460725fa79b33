theorem xt_o122 : xt_okD xt_m122 := ⟨plainFor_of_name (by decide +kernel), Or.inl ⟨rfl, xt_in_mem (i := 771) (by decide +kernel)⟩, xt_in_mem (i := 6) (by decide +kernel), xt_q122⟩
theorem xt_o123 : xt_okD xt_m123 := ⟨plainFor_of_name (by decide +kernel), Or.inl ⟨rfl, xt_in_mem (i := 776) (by decide +kernel)⟩, xt_in_mem (i := 3) (by decide +kernel), xt_q123⟩
theorem xt_o124 : xt_okD xt_m124 := ⟨plainFor_of_name (by decide +kernel), Or.inl ⟨rfl, xt_in_mem (i := 779) (by decide +kernel)⟩, xt_in_mem (i := 2) (by decide +kernel), xt_q124⟩
theorem xt_o125 : xt_okD xt_m125 := ⟨plainFor_of_name (by decide +kernel), Or.inl ⟨rfl, xt_in_mem (i := 790) (by decide +kernel)⟩, xt_in_mem (i := 25) (by decide +kernel), xt_q125⟩
theorem xt_o126 : xt_okD xt_m126 := ⟨plainFor_of_name (by decide +kernel), Or.inl ⟨rfl, xt_in_mem (i := 826) (by decide +kernel)⟩, xt_in_mem (i := 1) (by decide +kernel), xt_q126⟩
theorem xt_o127 : xt_okD xt_m127 := ⟨plainFor_of_name (by decide +kernel), Or.inl ⟨rfl, xt_in_mem (i := 830) (by decide +kernel)⟩, xt_in_mem (i := 1) (by decide +kernel), xt_q127⟩
theorem xt_o128 : xt_okD xt_m128 := ⟨plainFor_of_name (by decide +kernel), Or.inl ⟨rfl, xt_in_mem (i := 834) (by decide +kernel)⟩, xt_in_mem (i := 1) (by decide +kernel), xt_q128⟩
theorem xt_o129 : xt_okD xt_m129 := ⟨plainFor_of_name (by decide +kernel), Or.inl ⟨rfl, xt_in_mem (i := 838) (by decide +kernel)⟩, xt_in_mem (i := 1) (by decide +kernel), xt_q129⟩
theorem xt_o130 : xt_okD xt_m130 := ⟨plainFor_of_name (by decide +kernel), Or.inl ⟨rfl, xt_in_mem (i := 842) (by decide +kernel)⟩, xt_in_mem (i := 26) (by decide +kernel), xt_q130⟩
theorem xt_o131 : xt_okD xt_m131 := ⟨plainFor_of_name (by decide +kernel), Or.inl ⟨rfl, xt_in_mem (i := 868) (by decide +kernel)⟩, xt_in_mem (i := 1) (by decide +kernel), xt_q131⟩
theorem xt_o132 : xt_okD xt_m132 := ⟨plainFor_of_name (by decide +kernel), Or.inl ⟨rfl, xt_in_mem (i := 872) (by decide +kernel)⟩, xt_in_mem (i := 1) (by decide +kernel), xt_q132⟩
theorem xt_o133 : xt_okD xt_m133 := ⟨plainFor_of_name (by decide +kernel), Or.inl ⟨rfl, xt_in_mem (i := 876) (by decide +kernel)⟩, xt_in_mem (i := 27) (by decide +kernel), xt_q133⟩
theorem xt_o134 : xt_okD xt_m134 := ⟨plainFor_of_name (by decide +kernel), Or.inl ⟨rfl, xt_in_mem (i := 880) (by decide +kernel)⟩, xt_in_mem (i := 27) (by decide +kernel), xt_q134⟩
theorem xt_o135 : xt_okD xt_m135 := ⟨plainFor_of_name (by decide +kernel), Or.inl ⟨rfl, xt_in_mem (i := 920) (by decide +kernel)⟩, xt_in_mem (i := 1) (by decide +kernel), xt_q135⟩
theorem xt_o136 : xt_okD xt_m136 := ⟨plainFor_of_name (by decide +kernel), Or.inl ⟨rfl, xt_in_mem (i := 925) (by decide +kernel)⟩, xt_in_mem (i := 8) (by decide +kernel), xt_q136⟩
theorem xt_o137 : xt_okD xt_m137 := ⟨plainFor_of_name (by decide +kernel), Or.inl ⟨rfl, xt_in_mem (i := 929) (by decide +kernel)⟩, xt_in_mem (i := 31) (by decide +kernel), xt_q137⟩
theorem xt_o138 : xt_okD xt_m138 := ⟨plainFor_of_name (by decide +kernel), Or.inl ⟨rfl, xt_in_mem (i := 933) (by decide +kernel)⟩, xt_in_mem (i := 31) (by decide +kernel), xt_q138⟩
theorem xt_o139 : xt_okD xt_m139 := ⟨plainFor_of_name (by decide +kernel), Or.inl ⟨rfl, xt_in_mem (i := 937) (by decide +kernel)⟩, xt_in_mem (i := 1) (by decide +kernel), xt_q139⟩
theorem xt_o140 : xt_okD xt_m140 := ⟨plainFor_of_name (by decide +kernel), Or.inl ⟨rfl, xt_in_mem (i := 940) (by decide +kernel)⟩, xt_in_mem (i := 1) (by decide +kernel), xt_q140⟩
theorem xt_o141 : xt_okD xt_m141 := ⟨plainFor_of_name (by decide +kernel), Or.inl ⟨rfl, xt_in_mem (i := 945) (by decide +kernel)⟩, xt_in_mem (i := 31) (by decide +kernel), xt_q141⟩
theorem xt_o142 : xt_okD xt_m142 := ⟨plainFor_of_name (by decide +kernel), Or.inl ⟨rfl, xt_in_mem (i := 953) (by decide +kernel)⟩, xt_in_mem (i := 8) (by decide +kernel), xt_q142⟩
theorem xt_o143 : xt_okD xt_m143 := ⟨plainFor_of_name (by decide +kernel), Or.inl ⟨rfl, xt_in_mem (i := 961) (by decide +kernel)⟩, xt_in_mem (i := 1) (by decide +kernel), xt_q143⟩
theorem xt_o144 : xt_okD xt_m144 := ⟨plainFor_of_name (by decide +kernel), Or.inl ⟨rfl, xt_in_mem (i := 965) (by decide +kernel)⟩, xt_in_mem (i := 28) (by decide +kernel), xt_q144⟩
theorem xt_o145 : xt_okD xt_m145 := ⟨plainFor_of_name (by decide +kernel), Or.inl ⟨rfl, xt_in_mem (i := 987) (by decide +kernel)⟩, xt_in_mem (i := 1) (by decide +kernel), xt_q145⟩
theorem xt_o146 : xt_okD xt_m146 := ⟨plainFor_of_name (by decide +kernel), Or.inl ⟨rfl, xt_in_mem (i := 991) (by decide +kernel)⟩, xt_in_mem (i := 1) (by decide +kernel), xt_q146⟩
theorem xt_o147 : xt_okD xt_m147 := ⟨plainFor_of_name (by decide +kernel), Or.inl ⟨rfl, xt_in_mem (i := 995) (by decide +kernel)⟩, xt_in_mem (i := 1) (by decide +kernel), xt_q147⟩
theorem xt_o148 : xt_okD xt_m148 := ⟨plainFor_of_name (by decide +kernel), Or.inl ⟨rfl, xt_in_mem (i := 999) (by decide +kernel)⟩, xt_in_mem (i := 1) (by decide +kernel), xt_q148⟩
theorem xt_o149 : xt_okD xt_m149 := ⟨plainFor_of_name (by decide +kernel), Or.inl ⟨rfl, xt_in_mem (i := 1003) (by decide +kernel)⟩, xt_in_mem (i := 1) (by decide +kernel), xt_q149⟩
theorem xt_o150 : xt_okD xt_m150 := ⟨plainFor_of_name (by decide +kernel), Or.inl ⟨rfl, xt_in_mem (i := 1007) (by decide +kernel)⟩, xt_in_mem (i := 1) (by decide +kernel), xt_q150⟩
theorem xt_o151 : xt_okD xt_m151 := ⟨plainFor_of_name (by decide +kernel), Or.inl ⟨rfl, xt_in_mem (i := 1011) (by decide +kernel)⟩, xt_in_mem (i := 1) (by decide +kernel), xt_q151⟩
theorem xt_o152 : xt_okD xt_m152 := ⟨plainFor_of_name (by decide +kernel), Or.inl ⟨rfl, xt_in_mem (i := 1015) (by decide +kernel)⟩, xt_in_mem (i := 1) (by decide +kernel), xt_q152⟩
theorem xt_o153 : xt_okD xt_m153 := ⟨plainFor_of_name (by decide +kernel), Or.inl ⟨rfl, xt_in_mem (i := 1018) (by decide +kernel)⟩, xt_in_mem (i := 1) (by decide +kernel), xt_q153⟩
theorem xt_o154 : xt_okD xt_m154 := ⟨plainFor_of_name (by decide +kernel), Or.inl ⟨rfl, xt_in_mem (i := 1022) (by decide +kernel)⟩, xt_in_mem (i := 8) (by decide +kernel), xt_q154⟩
theorem xt_o155 : xt_okD xt_m155 := ⟨plainFor_of_name (by decide +kernel), Or.inl ⟨rfl, xt_in_mem (i := 1026) (by decide +kernel)⟩, xt_in_mem (i := 1) (by decide +kernel), xt_q155⟩
theorem xt_o156 : xt_okD xt_m156 := ⟨plainFor_of_name (by decide +kernel), Or.inl ⟨rfl, xt_in_mem (i := 1030) (by decide +kernel)⟩, xt_in_mem (i := 1) (by decide +kernel), xt_q156⟩
theorem xt_o157 : xt_okD xt_m157 := ⟨plainFor_of_name (by decide +kernel), Or.inl ⟨rfl, xt_in_mem (i := 1034) (by decide +kernel)⟩, xt_in_mem (i := 1) (by decide +kernel), xt_q157⟩
theorem xt_o158 : xt_okD xt_m158 := ⟨plainFor_of_name (by decide +kernel), Or.inl ⟨rfl, xt_in_mem (i := 1037) (by decide +kernel)⟩, xt_in_mem (i := 1) (by decide +kernel), xt_q158⟩
theorem xt_o159 : xt_okD xt_m159 := ⟨plainFor_of_name (by decide +kernel), Or.inl ⟨rfl, xt_in_mem (i := 1041) (by decide +kernel)⟩, xt_in_mem (i := 1) (by decide +kernel), xt_q159⟩
theorem xt_o160 : xt_okD xt_m160 := ⟨plainFor_of_name (by decide +kernel), Or.inl ⟨rfl, xt_in_mem (i := 1045) (by decide +kernel)⟩, xt_in_mem (i := 1) (by decide +kernel), xt_q160⟩
theorem xt_o161 : xt_okD xt_m161 := ⟨plainFor_of_name (by decide +kernel), Or.inl ⟨rfl, xt_in_mem (i := 1048) (by decide +kernel)⟩, xt_in_mem (i := 0) (by decide +kernel), xt_q161⟩
theorem xt_o162 : xt_okD xt_m162 := ⟨plainFor_of_name (by decide +kernel), Or.inr (xt_in_mem (i := 1051) (by decide +kernel)), xt_in_mem (i := 0) (by decide +kernel), xt_q162⟩
theorem xt_o163 : xt_okD xt_m163 := ⟨plainFor_of_name (by decide +kernel), Or.inl ⟨rfl, xt_in_mem (i := 1056) (by decide +kernel)⟩, xt_in_mem (i := 1) (by decide +kernel), xt_q163⟩
theorem xt_o164 : xt_okD xt_m164 := ⟨plainFor_of_name (by decide +kernel), Or.inl ⟨rfl, xt_in_mem (i := 1060) (by decide +kernel)⟩, xt_in_mem (i := 1) (by decide +kernel), xt_q164⟩
theorem xt_o165 : xt_okD xt_m165 := ⟨plainFor_of_name (by decide +kernel), Or.inl ⟨rfl, xt_in_mem (i := 1092) (by decide +kernel)⟩, xt_in_mem (i := 1) (by decide +kernel), xt_q165⟩
theorem xt_o166 : xt_okD xt_m166 := ⟨plainFor_of_name (by decide +kernel), Or.inl ⟨rfl, xt_in_mem (i := 1096) (by decide +kernel)⟩, xt_in_mem (i := 26) (by decide +kernel), xt_q166⟩
theorem xt_o167 : xt_okD xt_m167 := ⟨plainFor_of_name (by decide +kernel), Or.inl ⟨rfl, xt_in_mem (i := 1100) (by decide +kernel)⟩, xt_in_mem (i := 1) (by decide +kernel), xt_q167⟩
theorem xt_o168 : xt_okD xt_m168 := ⟨plainFor_of_name (by decide +kernel), Or.inl ⟨rfl, xt_in_mem (i := 1104) (by decide +kernel)⟩, xt_in_mem (i := 1) (by decide +kernel), xt_q168⟩
theorem xt_o169 : xt_okD xt_m169 := ⟨plainFor_of_name (by decide +kernel), Or.inr (xt_in_mem (i := 1107) (by decide +kernel)), xt_in_mem (i := 0) (by decide +kernel), xt_q169⟩
theorem xt_o170 : xt_okD xt_m170 := ⟨plainFor_of_name (by decide +kernel), Or.inl ⟨rfl, xt_in_mem (i := 1111) (by decide +kernel)⟩, xt_in_mem (i := 1) (by decide +kernel), xt_q170⟩
theorem xt_o171 : xt_okD xt_m171 := ⟨plainFor_of_name (by decide +kernel), Or.inr (xt_in_mem (i := 1114) (by decide +kernel)), xt_in_mem (i := 0) (by decide +kernel), xt_q171⟩
theorem xt_o172 : xt_okD xt_m172 := ⟨plainFor_of_name (by decide +kernel), Or.inl ⟨rfl, xt_in_mem (i := 1118) (by decide +kernel)⟩, xt_in_mem (i := 1) (by decide +kernel), xt_q172⟩
theorem xt_o173 : xt_okD xt_m173 := ⟨plainFor_of_name (by decide +kernel), Or.inl ⟨rfl, xt_in_mem (i := 1122) (by decide +kernel)⟩, xt_in_mem (i := 1) (by decide +kernel), xt_q173⟩
theorem xt_o174 : xt_okD xt_m174 := ⟨plainFor_of_name (by decide +kernel), Or.inl ⟨rfl, xt_in_mem (i := 1127) (by decide +kernel)⟩, xt_in_mem (i := 1) (by decide +kernel), xt_q174⟩
theorem xt_o175 : xt_okD xt_m175 := ⟨plainFor_of_name (by decide +kernel), Or.inr (xt_in_mem (i := 1130) (by decide +kernel)), xt_in_mem (i := 0) (by decide +kernel), xt_q175⟩
theorem xt_o176 : xt_okD xt_m176 := ⟨plainFor_of_name (by decide +kernel), Or.inl ⟨rfl, xt_in_mem (i := 1134) (by decide +kernel)⟩, xt_in_mem (i := 1) (by decide +kernel), xt_q176⟩
theorem xt_o177 : xt_okD xt_m177 := ⟨plainFor_of_name (by decide +kernel), Or.inl ⟨rfl, xt_in_mem (i := 1138) (by decide +kernel)⟩, xt_in_mem (i := 1) (by decide +kernel), xt_q177⟩
theorem xt_o178 : xt_okD xt_m178 := ⟨plainFor_of_name (by decide +kernel), Or.inl ⟨rfl, xt_in_mem (i := 1142) (by decide +kernel)⟩, xt_in_mem (i := 25) (by decide +kernel), xt_q178⟩
theorem xt_o179 : xt_okD xt_m179 := ⟨plainFor_of_name (by decide +kernel), Or.inr (xt_in_mem (i := 1146) (by decide +kernel)), xt_in_mem (i := 0) (by decide +kernel), xt_q179⟩
theorem xt_o180 : xt_okD xt_m180 := ⟨plainFor_of_name (by decide +kernel), Or.inl ⟨rfl, xt_in_mem (i := 1150) (by decide +kernel)⟩, xt_in_mem (i := 1) (by decide +kernel), xt_q180⟩
theorem xt_o181 : xt_okD xt_m181 := ⟨plainFor_of_name (by decide +kernel), Or.inr (xt_in_mem (i := 1153) (by decide +kernel)), xt_in_mem (i := 0) (by decide +kernel), xt_q181⟩
theorem xt_o182 : xt_okD xt_m182 := ⟨plainFor_of_name (by decide +kernel), Or.inl ⟨rfl, xt_in_mem (i := 1157) (by decide +kernel)⟩, xt_in_mem (i := 1) (by decide +kernel), xt_q182⟩
theorem xt_o183 : xt_okD xt_m183 := ⟨plainFor_of_name (by decide +kernel), Or.inl ⟨rfl, xt_in_mem (i := 1161) (by decide +kernel)⟩, xt_in_mem (i := 1) (by decide +kernel), xt_q183⟩
theorem xt_o184 : xt_okD xt_m184 := ⟨plainFor_of_name (by decide +kernel), Or.inl ⟨rfl, xt_in_mem (i := 1166) (by decide +kernel)⟩, xt_in_mem (i := 1) (by decide +kernel), xt_q184⟩
theorem xt_o185 : xt_okD xt_m185 := ⟨plainFor_of_name (by decide +kernel), Or.inl ⟨rfl, xt_in_mem (i := 1170) (by decide +kernel)⟩, xt_in_mem (i := 27) (by decide +kernel), xt_q185⟩
theorem xt_o186 : xt_okD xt_m186 := ⟨plainFor_of_name (by decide +kernel), Or.inr (xt_in_mem (i := 1174) (by decide +kernel)), xt_in_mem (i := 0) (by decide +kernel), xt_q186⟩
theorem xt_o187 : xt_okD xt_m187 := ⟨plainFor_of_name (by decide +kernel), Or.inl ⟨rfl, xt_in_mem (i := 1178) (by decide +kernel)⟩, xt_in_mem (i := 1) (by decide +kernel), xt_q187⟩
theorem xt_o188 : xt_okD xt_m188 := ⟨plainFor_of_name (by decide +kernel), Or.inl ⟨rfl, xt_in_mem (i := 1182) (by decide +kernel)⟩, xt_in_mem (i := 8) (by decide +kernel), xt_q188⟩
theorem xt_o189 : xt_okD xt_m189 := ⟨plainFor_of_name (by decide +kernel), Or.inl ⟨rfl, xt_in_mem (i := 1186) (by decide +kernel)⟩, xt_in_mem (i := 8) (by decide +kernel), xt_q189⟩
theorem xt_o190 : xt_okD xt_m190 := ⟨plainFor_of_name (by decide +kernel), Or.inl ⟨rfl, xt_in_mem (i := 1190) (by decide +kernel)⟩, xt_in_mem (i := 8) (by decide +kernel), xt_q190⟩
theorem xt_o191 : xt_okD xt_m191 := ⟨plainFor_of_name (by decide +kernel), Or.inl ⟨rfl, xt_in_mem (i := 1193) (by decide +kernel)⟩, xt_in_mem (i := 29) (by decide +kernel), xt_q191⟩
theorem xt_o192 : xt_okD xt_m192 := ⟨plainFor_of_name (by decide +kernel), Or.inl ⟨rfl, xt_in_mem (i := 1197) (by decide +kernel)⟩, xt_in_mem (i := 1) (by decide +kernel), xt_q192⟩
theorem xt_o193 : xt_okD xt_m193 := ⟨plainFor_of_name (by decide +kernel), Or.inl ⟨rfl, xt_in_mem (i := 1200) (by decide +kernel)⟩, xt_in_mem (i := 29) (by decide +kernel), xt_q193⟩
theorem xt_o194 : xt_okD xt_m194 := ⟨plainFor_of_name (by decide +kernel), Or.inl ⟨rfl, xt_in_mem (i := 1206) (by decide +kernel)⟩, xt_in_mem (i := 4) (by decide +kernel), xt_q194⟩
theorem xt_o195 : xt_okD xt_m195 := ⟨plainFor_of_name (by decide +kernel), Or.inl ⟨rfl, xt_in_mem (i := 1211) (by decide +kernel)⟩, xt_in_mem (i := 29) (by decide +kernel), xt_q195⟩
theorem xt_o196 : xt_okD xt_m196 := ⟨plainFor_of_name (by decide +kernel), Or.inl ⟨rfl, xt_in_mem (i := 1247) (by decide +kernel)⟩, xt_in_mem (i := 29) (by decide +kernel), xt_q196⟩
theorem xt_o197 : xt_okD xt_m197 := ⟨plainFor_of_name (by decide +kernel), Or.inl ⟨rfl, xt_in_mem (i := 1254) (by decide +kernel)⟩, xt_in_mem (i := 29) (by decide +kernel), xt_q197⟩
theorem xt_o198 : xt_okD xt_m198 := ⟨plainFor_of_name (by decide +kernel), Or.inl ⟨rfl, xt_in_mem (i := 1260) (by decide +kernel)⟩, xt_in_mem (i := 4) (by decide +kernel), xt_q198⟩
theorem xt_o199 : xt_okD xt_m199 := ⟨plainFor_of_name (by decide +kernel), Or.inl ⟨rfl, xt_in_mem (i := 1268) (by decide +kernel)⟩, xt_in_mem (i := 29) (by decide +kernel), xt_q199⟩
theorem xt_o200 : xt_okD xt_m200 := ⟨plainFor_of_name (by decide +kernel), Or.inl ⟨rfl, xt_in_mem (i := 1276) (by decide +kernel)⟩, xt_in_mem (i := 8) (by decide +kernel), xt_q200⟩
theorem xt_o201 : xt_okD xt_m201 := ⟨plainFor_of_name (by decide +kernel), Or.inl ⟨rfl, xt_in_mem (i := 1282) (by decide +kernel)⟩, xt_in_mem (i := 10) (by decide +kernel), xt_q201⟩
theorem xt_o202 : xt_okD xt_m202 := ⟨plainFor_of_name (by decide +kernel), Or.inl ⟨rfl, xt_in_mem (i := 1286) (by decide +kernel)⟩, xt_in_mem (i := 4) (by decide +kernel), xt_q202⟩
theorem xt_o203 : xt_okD xt_m203 := ⟨plainFor_of_name (by decide +kernel), Or.inl ⟨rfl, xt_in_mem (i := 1290) (by decide +kernel)⟩, xt_in_mem (i := 4) (by decide +kernel), xt_q203⟩
theorem xt_o204 : xt_okD xt_m204 := ⟨plainFor_of_name (by decide +kernel), Or.inl ⟨rfl, xt_in_mem (i := 1293) (by decide +kernel)⟩, xt_in_mem (i := 21) (by decide +kernel), xt_q204⟩
theorem xt_o205 : xt_okD xt_m205 := ⟨plainFor_of_name (by decide +kernel), Or.inl ⟨rfl, xt_in_mem (i := 1296) (by decide +kernel)⟩, xt_in_mem (i := 21) (by decide +kernel), xt_q205⟩
theorem xt_o206 : xt_okD xt_m206 := ⟨plainFor_of_name (by decide +kernel), Or.inl ⟨rfl, xt_in_mem (i := 1301) (by decide +kernel)⟩, xt_in_mem (i := 21) (by decide +kernel), xt_q206⟩
theorem xt_o207 : xt_okD xt_m207 := ⟨plainFor_of_name (by decide +kernel), Or.inl ⟨rfl, xt_in_mem (i := 1304) (by decide +kernel)⟩, xt_in_mem (i := 5) (by decide +kernel), xt_q207⟩
theorem xt_o208 : xt_okD xt_m208 := ⟨plainFor_of_name (by decide +kernel), Or.inl ⟨rfl, xt_in_mem (i := 1310) (by decide +kernel)⟩, xt_in_mem (i := 5) (by decide +kernel), xt_q208⟩
theorem xt_o209 : xt_okD xt_m209 := ⟨plainFor_of_name (by decide +kernel), Or.inl ⟨rfl, xt_in_mem (i := 1313) (by decide +kernel)⟩, xt_in_mem (i := 5) (by decide +kernel), xt_q209⟩
theorem xt_o210 : xt_okD xt_m210 := ⟨plainFor_of_name (by decide +kernel), Or.inl ⟨rfl, xt_in_mem (i := 1316) (by decide +kernel)⟩, xt_in_mem (i := 5) (by decide +kernel), xt_q210⟩
theorem xt_o211 : xt_okD xt_m211 := ⟨plainFor_of_name (by decide +kernel), Or.inl ⟨rfl, xt_in_mem (i := 1319) (by decide +kernel)⟩, xt_in_mem (i := 30) (by decide +kernel), xt_q211⟩
theorem xt_o212 : xt_okD xt_m212 := ⟨plainFor_of_name (by decide +kernel), Or.inl ⟨rfl, xt_in_mem (i := 1322) (by decide +kernel)⟩, xt_in_mem (i := 30) (by decide +kernel), xt_q212⟩
theorem xt_o213 : xt_okD xt_m213 := ⟨plainFor_of_name (by decide +kernel), Or.inl ⟨rfl, xt_in_mem (i := 1326) (by decide +kernel)⟩, xt_in_mem (i := 30) (by decide +kernel), xt_q213⟩
theorem xt_o214 : xt_okD xt_m214 := ⟨plainFor_of_name (by decide +kernel), Or.inl ⟨rfl, xt_in_mem (i := 1331) (by decide +kernel)⟩, xt_in_mem (i := 8) (by decide +kernel), xt_q214⟩
theorem xt_o215 : xt_okD xt_m215 := ⟨plainFor_of_name (by decide +kernel), Or.inl ⟨rfl, xt_in_mem (i := 1337) (by decide +kernel)⟩, xt_in_mem (i := 31) (by decide +kernel), xt_q215⟩
theorem xt_o216 : xt_okD xt_m216 := ⟨plainFor_of_name (by decide +kernel), Or.inl ⟨rfl, xt_in_mem (i := 1372) (by decide +kernel)⟩, xt_in_mem (i := 8) (by decide +kernel), xt_q216⟩
theorem xt_o217 : xt_okD xt_m217 := ⟨plainFor_of_name (by decide +kernel), Or.inl ⟨rfl, xt_in_mem (i := 1376) (by decide +kernel)⟩, xt_in_mem (i := 31) (by decide +kernel), xt_q217⟩
theorem xt_o218 : xt_okD xt_m218 := ⟨plainFor_of_name (by decide +kernel), Or.inl ⟨rfl, xt_in_mem (i := 1381) (by decide +kernel)⟩, xt_in_mem (i := 8) (by decide +kernel), xt_q218⟩
theorem xt_o219 : xt_okD xt_m219 := ⟨plainFor_of_name (by decide +kernel), Or.inl ⟨rfl, xt_in_mem (i := 1385) (by decide +kernel)⟩, xt_in_mem (i := 10) (by decide +kernel), xt_q219⟩
theorem xt_o220 : xt_okD xt_m220 := ⟨plainFor_of_name (by decide +kernel), Or.inl ⟨rfl, xt_in_mem (i := 1394) (by decide +kernel)⟩, xt_in_mem (i := 8) (by decide +kernel), xt_q220⟩
theorem xt_o221 : xt_okD xt_m221 := ⟨plainFor_of_name (by decide +kernel), Or.inr (xt_in_mem (i := 1398) (by decide +kernel)), xt_in_mem (i := 0) (by decide +kernel), xt_q221⟩
theorem xt_o222 : xt_okD xt_m222 := ⟨plainFor_of_name (by decide +kernel), Or.inl ⟨rfl, xt_in_mem (i := 1402) (by decide +kernel)⟩, xt_in_mem (i := 1) (by decide +kernel), xt_q222⟩
theorem xt_o223 : xt_okD xt_m223 := ⟨plainFor_of_name (by decide +kernel), Or.inl ⟨rfl, xt_in_mem (i := 1408) (by decide +kernel)⟩, xt_in_mem (i := 27) (by decide +kernel), xt_q223⟩
theorem xt_o224 : xt_okD xt_m224 := ⟨plainFor_of_name (by decide +kernel), Or.inr (xt_in_mem (i := 1411) (by decide +kernel)), xt_in_mem (i := 0) (by decide +kernel), xt_q224⟩
theorem xt_o225 : xt_okD xt_m225 := ⟨plainFor_of_name (by decide +kernel), Or.inl ⟨rfl, xt_in_mem (i := 1415) (by decide +kernel)⟩, xt_in_mem (i := 1) (by decide +kernel), xt_q225⟩
theorem xt_o226 : xt_okD xt_m226 := ⟨plainFor_of_name (by decide +kernel), Or.inl ⟨rfl, xt_in_mem (i := 1419) (by decide +kernel)⟩, xt_in_mem (i := 27) (by decide +kernel), xt_q226⟩
theorem xt_o227 : xt_okD xt_m227 := ⟨plainFor_of_name (by decide +kernel), Or.inl ⟨rfl, xt_in_mem (i := 1423) (by decide +kernel)⟩, xt_in_mem (i := 27) (by decide +kernel), xt_q227⟩
theorem xt_o228 : xt_okD xt_m228 := ⟨plainFor_of_name (by decide +kernel), Or.inr (xt_in_mem (i := 1427) (by decide +kernel)), xt_in_mem (i := 0) (by decide +kernel), xt_q228⟩
theorem xt_o229 : xt_okD xt_m229 := ⟨plainFor_of_name (by decide +kernel), Or.inl ⟨rfl, xt_in_mem (i := 1431) (by decide +kernel)⟩, xt_in_mem (i := 1) (by decide +kernel), xt_q229⟩
theorem xt_o230 : xt_okD xt_m230 := ⟨plainFor_of_name (by decide +kernel), Or.inr (xt_in_mem (i := 1434) (by decide +kernel)), xt_in_mem (i := 0) (by decide +kernel), xt_q230⟩
theorem xt_o231 : xt_okD xt_m231 := ⟨plainFor_of_name (by decide +kernel), Or.inl ⟨rfl, xt_in_mem (i := 1438) (by decide +kernel)⟩, xt_in_mem (i := 1) (by decide +kernel), xt_q231⟩
theorem xt_o232 : xt_okD xt_m232 := ⟨plainFor_of_name (by decide +kernel), Or.inr (xt_in_mem (i := 1441) (by decide +kernel)), xt_in_mem (i := 0) (by decide +kernel), xt_q232⟩
theorem xt_o233 : xt_okD xt_m233 := ⟨plainFor_of_name (by decide +kernel), Or.inl ⟨rfl, xt_in_mem (i := 1445) (by decide +kernel)⟩, xt_in_mem (i := 1) (by decide +kernel), xt_q233⟩
theorem xt_o234 : xt_okD xt_m234 := ⟨plainFor_of_name (by decide +kernel), Or.inl ⟨rfl, xt_in_mem (i := 1449) (by decide +kernel)⟩, xt_in_mem (i := 7) (by decide +kernel), xt_q234⟩
theorem xt_o235 : xt_okD xt_m235 := ⟨plainFor_of_name (by decide +kernel), Or.inl ⟨rfl, xt_in_mem (i := 1453) (by decide +kernel)⟩, xt_in_mem (i := 7) (by decide +kernel), xt_q235⟩
theorem xt_o236 : xt_okD xt_m236 := ⟨plainFor_of_name (by decide +kernel), Or.inl ⟨rfl, xt_in_mem (i := 1457) (by decide +kernel)⟩, xt_in_mem (i := 7) (by decide +kernel), xt_q236⟩
theorem xt_o237 : xt_okD xt_m237 := ⟨plainFor_of_name (by decide +kernel), Or.inr (xt_in_mem (i := 1460) (by decide +kernel)), xt_in_mem (i := 0) (by decide +kernel), xt_q237⟩
theorem xt_o238 : xt_okD xt_m238 := ⟨plainFor_of_name (by decide +kernel), Or.inl ⟨rfl, xt_in_mem (i := 1464) (by decide +kernel)⟩, xt_in_mem (i := 1) (by decide +kernel), xt_q238⟩
theorem xt_o239 : xt_okD xt_m239 := ⟨plainFor_of_name (by decide +kernel), Or.inl ⟨rfl, xt_in_mem (i := 1468) (by decide +kernel)⟩, xt_in_mem (i := 7) (by decide +kernel), xt_q239⟩
theorem xt_o240 : xt_okD xt_m240 := ⟨plainFor_of_name (by decide +kernel), Or.inr (xt_in_mem (i := 1471) (by decide +kernel)), xt_in_mem (i := 0) (by decide +kernel), xt_q240⟩
theorem xt_o241 : xt_okD xt_m241 := ⟨plainFor_of_name (by decide +kernel), Or.inl ⟨rfl, xt_in_mem (i := 1475) (by decide +kernel)⟩, xt_in_mem (i := 1) (by decide +kernel), xt_q241⟩
theorem xt_o242 : xt_okD xt_m242 := ⟨plainFor_of_name (by decide +kernel), Or.inl ⟨rfl, xt_in_mem (i := 1479) (by decide +kernel)⟩, xt_in_mem (i := 1) (by decide +kernel), xt_q242⟩
