-- by program (wip/gen/mk12.py): the tables of methods hold
-- SpoutNews.quarrel
theorem jk_140 : sx_chk 140 0 91 = true := by decide +kernel
theorem jo_140 : sx_ok 140 := sx_ok_of 140 (fun pc hp => by
    show jt_140 pc = none
    unfold jt_140
    rw [Nat.ble_eq_true_of_le (show 91 ≤ pc from hp)]
    rfl) (fun pc hp => ⟨0, 91, Nat.zero_le _, hp, jk_140⟩)
set_option maxRecDepth 100000 in
theorem jf_140 : sx_mf 140 := sx_mfA (c := 11) (p := 1209) rfl rfl sx_cls11 rfl (by decide +kernel) (Nat.le_of_ble_eq_true rfl) (Or.inr (Or.inl ⟨rfl, sx_tb_in 1207 (by decide +kernel) rfl, sx_tb_in 1208 (by decide +kernel) rfl⟩)) jo_140
-- SpoutNews.parts
theorem jk_141 : sx_chk 141 0 47 = true := by decide +kernel
theorem jo_141 : sx_ok 141 := sx_ok_of 141 (fun pc hp => by
    show jt_141 pc = none
    unfold jt_141
    rw [Nat.ble_eq_true_of_le (show 47 ≤ pc from hp)]
    rfl) (fun pc hp => ⟨0, 47, Nat.zero_le _, hp, jk_141⟩)
set_option maxRecDepth 100000 in
theorem jf_141 : sx_mf 141 := sx_mfA (c := 11) (p := 1213) rfl rfl sx_cls11 rfl (by decide +kernel) (Nat.le_of_ble_eq_true rfl) (Or.inr (Or.inl ⟨rfl, sx_tb_in 1211 (by decide +kernel) rfl, sx_tb_in 1212 (by decide +kernel) rfl⟩)) jo_141
-- SpoutNews$Thought.partGroups
theorem jk_142 : sx_chk 142 0 159 = true := by decide +kernel
theorem jo_142 : sx_ok 142 := sx_ok_of 142 (fun pc hp => by
    show jt_142 pc = none
    unfold jt_142
    rw [Nat.ble_eq_true_of_le (show 159 ≤ pc from hp)]
    rfl) (fun pc hp => ⟨0, 159, Nat.zero_le _, hp, jk_142⟩)
set_option maxRecDepth 100000 in
theorem jf_142 : sx_mf 142 := sx_mfA (c := 7) (p := 1217) rfl rfl sx_cls7 rfl (by decide +kernel) (Nat.le_of_ble_eq_true rfl) (Or.inr (Or.inl ⟨rfl, sx_tb_in 1215 (by decide +kernel) rfl, sx_tb_in 1216 (by decide +kernel) rfl⟩)) jo_142
-- SpoutNews$Thought.spread
theorem jk_143 : sx_chk 143 0 126 = true := by decide +kernel
theorem jo_143 : sx_ok 143 := sx_ok_of 143 (fun pc hp => by
    show jt_143 pc = none
    unfold jt_143
    rw [Nat.ble_eq_true_of_le (show 126 ≤ pc from hp)]
    rfl) (fun pc hp => ⟨0, 126, Nat.zero_le _, hp, jk_143⟩)
set_option maxRecDepth 100000 in
theorem jf_143 : sx_mf 143 := sx_mfA (c := 7) (p := 1221) rfl rfl sx_cls7 rfl (by decide +kernel) (Nat.le_of_ble_eq_true rfl) (Or.inr (Or.inl ⟨rfl, sx_tb_in 1220 (by decide +kernel) rfl, sx_tb_in 29 (by decide +kernel) rfl⟩)) jo_143
-- SpoutNews$Thought.countColour
theorem jk_144 : sx_chk 144 0 31 = true := by decide +kernel
theorem jo_144 : sx_ok 144 := sx_ok_of 144 (fun pc hp => by
    show jt_144 pc = none
    unfold jt_144
    rw [Nat.ble_eq_true_of_le (show 31 ≤ pc from hp)]
    rfl) (fun pc hp => ⟨0, 31, Nat.zero_le _, hp, jk_144⟩)
set_option maxRecDepth 100000 in
theorem jf_144 : sx_mf 144 := sx_mfA (c := 7) (p := 1225) rfl rfl sx_cls7 rfl (by decide +kernel) (Nat.le_of_ble_eq_true rfl) (Or.inr (Or.inl ⟨rfl, sx_tb_in 1224 (by decide +kernel) rfl, sx_tb_in 30 (by decide +kernel) rfl⟩)) jo_144
-- SpoutNews.known
theorem jk_145 : sx_chk 145 0 52 = true := by decide +kernel
theorem jo_145 : sx_ok 145 := sx_ok_of 145 (fun pc hp => by
    show jt_145 pc = none
    unfold jt_145
    rw [Nat.ble_eq_true_of_le (show 52 ≤ pc from hp)]
    rfl) (fun pc hp => ⟨0, 52, Nat.zero_le _, hp, jk_145⟩)
set_option maxRecDepth 100000 in
theorem jf_145 : sx_mf 145 := sx_mfA (c := 11) (p := 1229) rfl rfl sx_cls11 rfl (by decide +kernel) (Nat.le_of_ble_eq_true rfl) (Or.inr (Or.inl ⟨rfl, sx_tb_in 1227 (by decide +kernel) rfl, sx_tb_in 1228 (by decide +kernel) rfl⟩)) jo_145
-- SpoutNews$Thought.fewestThatKnow
theorem jk_146 : sx_chk 146 0 93 = true := by decide +kernel
theorem jo_146 : sx_ok 146 := sx_ok_of 146 (fun pc hp => by
    show jt_146 pc = none
    unfold jt_146
    rw [Nat.ble_eq_true_of_le (show 93 ≤ pc from hp)]
    rfl) (fun pc hp => ⟨0, 93, Nat.zero_le _, hp, jk_146⟩)
set_option maxRecDepth 100000 in
theorem jf_146 : sx_mf 146 := sx_mfA (c := 7) (p := 1233) rfl rfl sx_cls7 rfl (by decide +kernel) (Nat.le_of_ble_eq_true rfl) (Or.inr (Or.inl ⟨rfl, sx_tb_in 1231 (by decide +kernel) rfl, sx_tb_in 1232 (by decide +kernel) rfl⟩)) jo_146
-- SpoutNews$Thought.wordsOf
theorem jk_147 : sx_chk 147 0 39 = true := by decide +kernel
theorem jo_147 : sx_ok 147 := sx_ok_of 147 (fun pc hp => by
    show jt_147 pc = none
    unfold jt_147
    rw [Nat.ble_eq_true_of_le (show 39 ≤ pc from hp)]
    rfl) (fun pc hp => ⟨0, 39, Nat.zero_le _, hp, jk_147⟩)
set_option maxRecDepth 100000 in
theorem jf_147 : sx_mf 147 := sx_mfA (c := 7) (p := 1239) rfl rfl sx_cls7 rfl (by decide +kernel) (Nat.le_of_ble_eq_true rfl) (Or.inr (Or.inl ⟨rfl, sx_tb_in 1238 (by decide +kernel) rfl, sx_tb_in 31 (by decide +kernel) rfl⟩)) jo_147
-- SpoutNews.latin
theorem jk_148 : sx_chk 148 0 31 = true := by decide +kernel
theorem jo_148 : sx_ok 148 := sx_ok_of 148 (fun pc hp => by
    show jt_148 pc = none
    unfold jt_148
    rw [Nat.ble_eq_true_of_le (show 31 ≤ pc from hp)]
    rfl) (fun pc hp => ⟨0, 31, Nat.zero_le _, hp, jk_148⟩)
set_option maxRecDepth 100000 in
theorem jf_148 : sx_mf 148 := sx_mfA (c := 11) (p := 1243) rfl rfl sx_cls11 rfl (by decide +kernel) (Nat.le_of_ble_eq_true rfl) (Or.inr (Or.inl ⟨rfl, sx_tb_in 1241 (by decide +kernel) rfl, sx_tb_in 1242 (by decide +kernel) rfl⟩)) jo_148
-- SpoutNews.again
theorem jk_149 : sx_chk 149 0 47 = true := by decide +kernel
theorem jo_149 : sx_ok 149 := sx_ok_of 149 (fun pc hp => by
    show jt_149 pc = none
    unfold jt_149
    rw [Nat.ble_eq_true_of_le (show 47 ≤ pc from hp)]
    rfl) (fun pc hp => ⟨0, 47, Nat.zero_le _, hp, jk_149⟩)
set_option maxRecDepth 100000 in
theorem jf_149 : sx_mf 149 := sx_mfA (c := 11) (p := 1247) rfl rfl sx_cls11 rfl (by decide +kernel) (Nat.le_of_ble_eq_true rfl) (Or.inr (Or.inl ⟨rfl, sx_tb_in 1245 (by decide +kernel) rfl, sx_tb_in 1246 (by decide +kernel) rfl⟩)) jo_149
-- SpoutNews$Thought.allAgain
theorem jk_150 : sx_chk 150 0 70 = true := by decide +kernel
theorem jo_150 : sx_ok 150 := sx_ok_of 150 (fun pc hp => by
    show jt_150 pc = none
    unfold jt_150
    rw [Nat.ble_eq_true_of_le (show 70 ≤ pc from hp)]
    rfl) (fun pc hp => ⟨0, 70, Nat.zero_le _, hp, jk_150⟩)
set_option maxRecDepth 100000 in
theorem jf_150 : sx_mf 150 := sx_mfA (c := 7) (p := 1251) rfl rfl sx_cls7 rfl (by decide +kernel) (Nat.le_of_ble_eq_true rfl) (Or.inr (Or.inl ⟨rfl, sx_tb_in 1249 (by decide +kernel) rfl, sx_tb_in 1250 (by decide +kernel) rfl⟩)) jo_150
-- SpoutNews$Thought.stepsAgain
theorem jk_151 : sx_chk 151 0 54 = true := by decide +kernel
theorem jo_151 : sx_ok 151 := sx_ok_of 151 (fun pc hp => by
    show jt_151 pc = none
    unfold jt_151
    rw [Nat.ble_eq_true_of_le (show 54 ≤ pc from hp)]
    rfl) (fun pc hp => ⟨0, 54, Nat.zero_le _, hp, jk_151⟩)
set_option maxRecDepth 100000 in
theorem jf_151 : sx_mf 151 := sx_mfA (c := 7) (p := 1255) rfl rfl sx_cls7 rfl (by decide +kernel) (Nat.le_of_ble_eq_true rfl) (Or.inr (Or.inl ⟨rfl, sx_tb_in 1253 (by decide +kernel) rfl, sx_tb_in 1254 (by decide +kernel) rfl⟩)) jo_151
-- SpoutNews$Thought.commonMultiple
theorem jk_152 : sx_chk 152 0 27 = true := by decide +kernel
theorem jo_152 : sx_ok 152 := sx_ok_of 152 (fun pc hp => by
    show jt_152 pc = none
    unfold jt_152
    rw [Nat.ble_eq_true_of_le (show 27 ≤ pc from hp)]
    rfl) (fun pc hp => ⟨0, 27, Nat.zero_le _, hp, jk_152⟩)
set_option maxRecDepth 100000 in
theorem jf_152 : sx_mf 152 := sx_mfA (c := 7) (p := 1258) rfl rfl sx_cls7 rfl (by decide +kernel) (Nat.le_of_ble_eq_true rfl) (Or.inl ⟨rfl, sx_tb_in 1257 (by decide +kernel) rfl⟩) jo_152
-- SpoutNews.mason
theorem jk_153 : sx_chk 153 0 102 = true := by decide +kernel
theorem jo_153 : sx_ok 153 := sx_ok_of 153 (fun pc hp => by
    show jt_153 pc = none
    unfold jt_153
    rw [Nat.ble_eq_true_of_le (show 102 ≤ pc from hp)]
    rfl) (fun pc hp => ⟨0, 102, Nat.zero_le _, hp, jk_153⟩)
set_option maxRecDepth 100000 in
theorem jf_153 : sx_mf 153 := sx_mfA (c := 11) (p := 1263) rfl rfl sx_cls11 rfl (by decide +kernel) (Nat.le_of_ble_eq_true rfl) (Or.inr (Or.inl ⟨rfl, sx_tb_in 1261 (by decide +kernel) rfl, sx_tb_in 1262 (by decide +kernel) rfl⟩)) jo_153
-- SpoutNews.isRow
theorem jk_154 : sx_chk 154 0 64 = true := by decide +kernel
theorem jo_154 : sx_ok 154 := sx_ok_of 154 (fun pc hp => by
    show jt_154 pc = none
    unfold jt_154
    rw [Nat.ble_eq_true_of_le (show 64 ≤ pc from hp)]
    rfl) (fun pc hp => ⟨0, 64, Nat.zero_le _, hp, jk_154⟩)
set_option maxRecDepth 100000 in
theorem jf_154 : sx_mf 154 := sx_mfA (c := 11) (p := 1266) rfl rfl sx_cls11 rfl (by decide +kernel) (Nat.le_of_ble_eq_true rfl) (Or.inl ⟨rfl, sx_tb_in 1265 (by decide +kernel) rfl⟩) jo_154
-- SpoutNews.keeps
theorem jk_155 : sx_chk 155 0 51 = true := by decide +kernel
theorem jo_155 : sx_ok 155 := sx_ok_of 155 (fun pc hp => by
    show jt_155 pc = none
    unfold jt_155
    rw [Nat.ble_eq_true_of_le (show 51 ≤ pc from hp)]
    rfl) (fun pc hp => ⟨0, 51, Nat.zero_le _, hp, jk_155⟩)
set_option maxRecDepth 100000 in
theorem jf_155 : sx_mf 155 := sx_mfA (c := 11) (p := 1270) rfl rfl sx_cls11 rfl (by decide +kernel) (Nat.le_of_ble_eq_true rfl) (Or.inr (Or.inl ⟨rfl, sx_tb_in 1268 (by decide +kernel) rfl, sx_tb_in 1269 (by decide +kernel) rfl⟩)) jo_155
-- SpoutNews$Thought.makeOffers
theorem jk_156 : sx_chk 156 0 98 = true := by decide +kernel
theorem jo_156 : sx_ok 156 := sx_ok_of 156 (fun pc hp => by
    show jt_156 pc = none
    unfold jt_156
    rw [Nat.ble_eq_true_of_le (show 98 ≤ pc from hp)]
    rfl) (fun pc hp => ⟨0, 98, Nat.zero_le _, hp, jk_156⟩)
set_option maxRecDepth 100000 in
theorem jf_156 : sx_mf 156 := sx_mfA (c := 7) (p := 1274) rfl rfl sx_cls7 rfl (by decide +kernel) (Nat.le_of_ble_eq_true rfl) (Or.inr (Or.inl ⟨rfl, sx_tb_in 1272 (by decide +kernel) rfl, sx_tb_in 1273 (by decide +kernel) rfl⟩)) jo_156
-- SpoutNews$Thought.firstWithout
theorem jk_157 : sx_chk 157 0 27 = true := by decide +kernel
theorem jo_157 : sx_ok 157 := sx_ok_of 157 (fun pc hp => by
    show jt_157 pc = none
    unfold jt_157
    rw [Nat.ble_eq_true_of_le (show 27 ≤ pc from hp)]
    rfl) (fun pc hp => ⟨0, 27, Nat.zero_le _, hp, jk_157⟩)
set_option maxRecDepth 100000 in
theorem jf_157 : sx_mf 157 := sx_mfA (c := 7) (p := 1278) rfl rfl sx_cls7 rfl (by decide +kernel) (Nat.le_of_ble_eq_true rfl) (Or.inr (Or.inl ⟨rfl, sx_tb_in 1277 (by decide +kernel) rfl, sx_tb_in 32 (by decide +kernel) rfl⟩)) jo_157
-- SpoutNews$Thought.offer
theorem jk_158 : sx_chk 158 0 81 = true := by decide +kernel
theorem jo_158 : sx_ok 158 := sx_ok_of 158 (fun pc hp => by
    show jt_158 pc = none
    unfold jt_158
    rw [Nat.ble_eq_true_of_le (show 81 ≤ pc from hp)]
    rfl) (fun pc hp => ⟨0, 81, Nat.zero_le _, hp, jk_158⟩)
set_option maxRecDepth 100000 in
theorem jf_158 : sx_mf 158 := sx_mfA (c := 7) (p := 1282) rfl rfl sx_cls7 rfl (by decide +kernel) (Nat.le_of_ble_eq_true rfl) (Or.inr (Or.inl ⟨rfl, sx_tb_in 1281 (by decide +kernel) rfl, sx_tb_in 33 (by decide +kernel) rfl⟩)) jo_158
-- SpoutNews$Thought.dearness
theorem jk_159 : sx_chk 159 0 31 = true := by decide +kernel
theorem jo_159 : sx_ok 159 := sx_ok_of 159 (fun pc hp => by
    show jt_159 pc = none
    unfold jt_159
    rw [Nat.ble_eq_true_of_le (show 31 ≤ pc from hp)]
    rfl) (fun pc hp => ⟨0, 31, Nat.zero_le _, hp, jk_159⟩)
set_option maxRecDepth 100000 in
theorem jf_159 : sx_mf 159 := sx_mfA (c := 7) (p := 1285) rfl rfl sx_cls7 rfl (by decide +kernel) (Nat.le_of_ble_eq_true rfl) (Or.inl ⟨rfl, sx_tb_in 1284 (by decide +kernel) rfl⟩) jo_159
-- SpoutNews.surmise
theorem jk_160 : sx_chk 160 0 40 = true := by decide +kernel
theorem jo_160 : sx_ok 160 := sx_ok_of 160 (fun pc hp => by
    show jt_160 pc = none
    unfold jt_160
    rw [Nat.ble_eq_true_of_le (show 40 ≤ pc from hp)]
    rfl) (fun pc hp => ⟨0, 40, Nat.zero_le _, hp, jk_160⟩)
set_option maxRecDepth 100000 in
theorem jf_160 : sx_mf 160 := sx_mfA (c := 11) (p := 1289) rfl rfl sx_cls11 rfl (by decide +kernel) (Nat.le_of_ble_eq_true rfl) (Or.inr (Or.inl ⟨rfl, sx_tb_in 1287 (by decide +kernel) rfl, sx_tb_in 1288 (by decide +kernel) rfl⟩)) jo_160
-- SpoutNews$Thought.likely
theorem jk_161 : sx_chk 161 0 62 = true := by decide +kernel
theorem jo_161 : sx_ok 161 := sx_ok_of 161 (fun pc hp => by
    show jt_161 pc = none
    unfold jt_161
    rw [Nat.ble_eq_true_of_le (show 62 ≤ pc from hp)]
    rfl) (fun pc hp => ⟨0, 62, Nat.zero_le _, hp, jk_161⟩)
set_option maxRecDepth 100000 in
theorem jf_161 : sx_mf 161 := sx_mfA (c := 7) (p := 1292) rfl rfl sx_cls7 rfl (by decide +kernel) (Nat.le_of_ble_eq_true rfl) (Or.inl ⟨rfl, sx_tb_in 1291 (by decide +kernel) rfl⟩) jo_161
-- SpoutNews$Thought.weighed
theorem jk_162 : sx_chk 162 0 36 = true := by decide +kernel
theorem jo_162 : sx_ok 162 := sx_ok_of 162 (fun pc hp => by
    show jt_162 pc = none
    unfold jt_162
    rw [Nat.ble_eq_true_of_le (show 36 ≤ pc from hp)]
    rfl) (fun pc hp => ⟨0, 36, Nat.zero_le _, hp, jk_162⟩)
set_option maxRecDepth 100000 in
theorem jf_162 : sx_mf 162 := sx_mfA (c := 7) (p := 1298) rfl rfl sx_cls7 rfl (by decide +kernel) (Nat.le_of_ble_eq_true rfl) (Or.inl ⟨rfl, sx_tb_in 1297 (by decide +kernel) rfl⟩) jo_162
-- SpoutNews.drought
theorem jk_163 : sx_chk 163 0 66 = true := by decide +kernel
theorem jo_163 : sx_ok 163 := sx_ok_of 163 (fun pc hp => by
    show jt_163 pc = none
    unfold jt_163
    rw [Nat.ble_eq_true_of_le (show 66 ≤ pc from hp)]
    rfl) (fun pc hp => ⟨0, 66, Nat.zero_le _, hp, jk_163⟩)
set_option maxRecDepth 100000 in
theorem jf_163 : sx_mf 163 := sx_mfA (c := 11) (p := 1303) rfl rfl sx_cls11 rfl (by decide +kernel) (Nat.le_of_ble_eq_true rfl) (Or.inr (Or.inl ⟨rfl, sx_tb_in 1301 (by decide +kernel) rfl, sx_tb_in 1302 (by decide +kernel) rfl⟩)) jo_163
-- SpoutNews.longest
theorem jk_164 : sx_chk 164 0 52 = true := by decide +kernel
theorem jo_164 : sx_ok 164 := sx_ok_of 164 (fun pc hp => by
    show jt_164 pc = none
    unfold jt_164
    rw [Nat.ble_eq_true_of_le (show 52 ≤ pc from hp)]
    rfl) (fun pc hp => ⟨0, 52, Nat.zero_le _, hp, jk_164⟩)
set_option maxRecDepth 100000 in
theorem jf_164 : sx_mf 164 := sx_mfA (c := 11) (p := 1307) rfl rfl sx_cls11 rfl (by decide +kernel) (Nat.le_of_ble_eq_true rfl) (Or.inr (Or.inl ⟨rfl, sx_tb_in 1305 (by decide +kernel) rfl, sx_tb_in 1306 (by decide +kernel) rfl⟩)) jo_164
-- SpoutNews$Told.longestRun
theorem jk_165 : sx_chk 165 0 41 = true := by decide +kernel
theorem jo_165 : sx_ok 165 := sx_ok_of 165 (fun pc hp => by
    show jt_165 pc = none
    unfold jt_165
    rw [Nat.ble_eq_true_of_le (show 41 ≤ pc from hp)]
    rfl) (fun pc hp => ⟨0, 41, Nat.zero_le _, hp, jk_165⟩)
set_option maxRecDepth 100000 in
theorem jf_165 : sx_mf 165 := sx_mfA (c := 9) (p := 1311) rfl rfl sx_cls9 rfl (by decide +kernel) (Nat.le_of_ble_eq_true rfl) (Or.inr (Or.inl ⟨rfl, sx_tb_in 1309 (by decide +kernel) rfl, sx_tb_in 1310 (by decide +kernel) rfl⟩)) jo_165
-- SpoutNews$Told.longestRunBegins
theorem jk_166 : sx_chk 166 0 58 = true := by decide +kernel
theorem jo_166 : sx_ok 166 := sx_ok_of 166 (fun pc hp => by
    show jt_166 pc = none
    unfold jt_166
    rw [Nat.ble_eq_true_of_le (show 58 ≤ pc from hp)]
    rfl) (fun pc hp => ⟨0, 58, Nat.zero_le _, hp, jk_166⟩)
set_option maxRecDepth 100000 in
theorem jf_166 : sx_mf 166 := sx_mfA (c := 9) (p := 1315) rfl rfl sx_cls9 rfl (by decide +kernel) (Nat.le_of_ble_eq_true rfl) (Or.inr (Or.inl ⟨rfl, sx_tb_in 1313 (by decide +kernel) rfl, sx_tb_in 1314 (by decide +kernel) rfl⟩)) jo_166
-- SpoutNews.leans
theorem jk_167 : sx_chk 167 0 25 = true := by decide +kernel
theorem jo_167 : sx_ok 167 := sx_ok_of 167 (fun pc hp => by
    show jt_167 pc = none
    unfold jt_167
    rw [Nat.ble_eq_true_of_le (show 25 ≤ pc from hp)]
    rfl) (fun pc hp => ⟨0, 25, Nat.zero_le _, hp, jk_167⟩)
set_option maxRecDepth 100000 in
theorem jf_167 : sx_mf 167 := sx_mfA (c := 11) (p := 1320) rfl rfl sx_cls11 rfl (by decide +kernel) (Nat.le_of_ble_eq_true rfl) (Or.inr (Or.inl ⟨rfl, sx_tb_in 1318 (by decide +kernel) rfl, sx_tb_in 1319 (by decide +kernel) rfl⟩)) jo_167
-- SpoutNews$Thought.centuries
theorem jk_168 : sx_chk 168 0 75 = true := by decide +kernel
theorem jo_168 : sx_ok 168 := sx_ok_of 168 (fun pc hp => by
    show jt_168 pc = none
    unfold jt_168
    rw [Nat.ble_eq_true_of_le (show 75 ≤ pc from hp)]
    rfl) (fun pc hp => ⟨0, 75, Nat.zero_le _, hp, jk_168⟩)
set_option maxRecDepth 100000 in
theorem jf_168 : sx_mf 168 := sx_mfA (c := 7) (p := 1323) rfl rfl sx_cls7 rfl (by decide +kernel) (Nat.le_of_ble_eq_true rfl) (Or.inl ⟨rfl, sx_tb_in 1322 (by decide +kernel) rfl⟩) jo_168
-- SpoutNews.chapter
theorem jk_169 : sx_chk 169 0 67 = true := by decide +kernel
theorem jo_169 : sx_ok 169 := sx_ok_of 169 (fun pc hp => by
    show jt_169 pc = none
    unfold jt_169
    rw [Nat.ble_eq_true_of_le (show 67 ≤ pc from hp)]
    rfl) (fun pc hp => ⟨0, 67, Nat.zero_le _, hp, jk_169⟩)
set_option maxRecDepth 100000 in
theorem jf_169 : sx_mf 169 := sx_mfA (c := 11) (p := 1327) rfl rfl sx_cls11 rfl (by decide +kernel) (Nat.le_of_ble_eq_true rfl) (Or.inr (Or.inl ⟨rfl, sx_tb_in 1325 (by decide +kernel) rfl, sx_tb_in 1326 (by decide +kernel) rfl⟩)) jo_169
-- SpoutNews.read
theorem jk_170 : sx_chk 170 0 82 = true := by decide +kernel
theorem jo_170 : sx_ok 170 := sx_ok_of 170 (fun pc hp => by
    show jt_170 pc = none
    unfold jt_170
    rw [Nat.ble_eq_true_of_le (show 82 ≤ pc from hp)]
    rfl) (fun pc hp => ⟨0, 82, Nat.zero_le _, hp, jk_170⟩)
set_option maxRecDepth 100000 in
theorem jf_170 : sx_mf 170 := sx_mfA (c := 11) (p := 1331) rfl rfl sx_cls11 rfl (by decide +kernel) (Nat.le_of_ble_eq_true rfl) (Or.inr (Or.inl ⟨rfl, sx_tb_in 1329 (by decide +kernel) rfl, sx_tb_in 1330 (by decide +kernel) rfl⟩)) jo_170
-- SpoutNews$Thought.readInStorms
theorem jk_171 : sx_chk 171 0 135 = true := by decide +kernel
theorem jo_171 : sx_ok 171 := sx_ok_of 171 (fun pc hp => by
    show jt_171 pc = none
    unfold jt_171
    rw [Nat.ble_eq_true_of_le (show 135 ≤ pc from hp)]
    rfl) (fun pc hp => ⟨0, 135, Nat.zero_le _, hp, jk_171⟩)
set_option maxRecDepth 100000 in
theorem jf_171 : sx_mf 171 := sx_mfA (c := 7) (p := 1335) rfl rfl sx_cls7 rfl (by decide +kernel) (Nat.le_of_ble_eq_true rfl) (Or.inr (Or.inl ⟨rfl, sx_tb_in 1333 (by decide +kernel) rfl, sx_tb_in 1334 (by decide +kernel) rfl⟩)) jo_171
-- SpoutNews$Thought.storm
theorem jk_172 : sx_chk 172 0 7 = true := by decide +kernel
theorem jo_172 : sx_ok 172 := sx_ok_of 172 (fun pc hp => by
    show jt_172 pc = none
    unfold jt_172
    rw [Nat.ble_eq_true_of_le (show 7 ≤ pc from hp)]
    rfl) (fun pc hp => ⟨0, 7, Nat.zero_le _, hp, jk_172⟩)
set_option maxRecDepth 100000 in
theorem jf_172 : sx_mf 172 := sx_mfA (c := 7) (p := 1338) rfl rfl sx_cls7 rfl (by decide +kernel) (Nat.le_of_ble_eq_true rfl) (Or.inl ⟨rfl, sx_tb_in 1337 (by decide +kernel) rfl⟩) jo_172
-- SpoutNews$Told.minutes
theorem jk_173 : sx_chk 173 0 38 = true := by decide +kernel
theorem jo_173 : sx_ok 173 := sx_ok_of 173 (fun pc hp => by
    show jt_173 pc = none
    unfold jt_173
    rw [Nat.ble_eq_true_of_le (show 38 ≤ pc from hp)]
    rfl) (fun pc hp => ⟨0, 38, Nat.zero_le _, hp, jk_173⟩)
set_option maxRecDepth 100000 in
theorem jf_173 : sx_mf 173 := sx_mfA (c := 9) (p := 1342) rfl rfl sx_cls9 rfl (by decide +kernel) (Nat.le_of_ble_eq_true rfl) (Or.inr (Or.inl ⟨rfl, sx_tb_in 1340 (by decide +kernel) rfl, sx_tb_in 1341 (by decide +kernel) rfl⟩)) jo_173
-- SpoutNews$Thought.greatestSum
theorem jk_174 : sx_chk 174 0 24 = true := by decide +kernel
theorem jo_174 : sx_ok 174 := sx_ok_of 174 (fun pc hp => by
    show jt_174 pc = none
    unfold jt_174
    rw [Nat.ble_eq_true_of_le (show 24 ≤ pc from hp)]
    rfl) (fun pc hp => ⟨0, 24, Nat.zero_le _, hp, jk_174⟩)
set_option maxRecDepth 100000 in
theorem jf_174 : sx_mf 174 := sx_mfA (c := 7) (p := 1346) rfl rfl sx_cls7 rfl (by decide +kernel) (Nat.le_of_ble_eq_true rfl) (Or.inr (Or.inl ⟨rfl, sx_tb_in 1345 (by decide +kernel) rfl, sx_tb_in 34 (by decide +kernel) rfl⟩)) jo_174
-- SpoutNews$Thought.leastSum
theorem jk_175 : sx_chk 175 0 11 = true := by decide +kernel
theorem jo_175 : sx_ok 175 := sx_ok_of 175 (fun pc hp => by
    show jt_175 pc = none
    unfold jt_175
    rw [Nat.ble_eq_true_of_le (show 11 ≤ pc from hp)]
    rfl) (fun pc hp => ⟨0, 11, Nat.zero_le _, hp, jk_175⟩)
set_option maxRecDepth 100000 in
theorem jf_175 : sx_mf 175 := sx_mfA (c := 7) (p := 1351) rfl rfl sx_cls7 rfl (by decide +kernel) (Nat.le_of_ble_eq_true rfl) (Or.inr (Or.inl ⟨rfl, sx_tb_in 1349 (by decide +kernel) rfl, sx_tb_in 1350 (by decide +kernel) rfl⟩)) jo_175
-- SpoutNews$Thought.secondStorm
theorem jk_176 : sx_chk 176 0 45 = true := by decide +kernel
theorem jo_176 : sx_ok 176 := sx_ok_of 176 (fun pc hp => by
    show jt_176 pc = none
    unfold jt_176
    rw [Nat.ble_eq_true_of_le (show 45 ≤ pc from hp)]
    rfl) (fun pc hp => ⟨0, 45, Nat.zero_le _, hp, jk_176⟩)
set_option maxRecDepth 100000 in
theorem jf_176 : sx_mf 176 := sx_mfA (c := 7) (p := 1355) rfl rfl sx_cls7 rfl (by decide +kernel) (Nat.le_of_ble_eq_true rfl) (Or.inr (Or.inl ⟨rfl, sx_tb_in 1353 (by decide +kernel) rfl, sx_tb_in 1354 (by decide +kernel) rfl⟩)) jo_176
-- SpoutNews.game
theorem jk_177 : sx_chk 177 0 62 = true := by decide +kernel
theorem jo_177 : sx_ok 177 := sx_ok_of 177 (fun pc hp => by
    show jt_177 pc = none
    unfold jt_177
    rw [Nat.ble_eq_true_of_le (show 62 ≤ pc from hp)]
    rfl) (fun pc hp => ⟨0, 62, Nat.zero_le _, hp, jk_177⟩)
set_option maxRecDepth 100000 in
theorem jf_177 : sx_mf 177 := sx_mfA (c := 11) (p := 1360) rfl rfl sx_cls11 rfl (by decide +kernel) (Nat.le_of_ble_eq_true rfl) (Or.inr (Or.inl ⟨rfl, sx_tb_in 1358 (by decide +kernel) rfl, sx_tb_in 1359 (by decide +kernel) rfl⟩)) jo_177
-- SpoutNews$Thought.goodSpout
theorem jk_178 : sx_chk 178 0 29 = true := by decide +kernel
theorem jo_178 : sx_ok 178 := sx_ok_of 178 (fun pc hp => by
    show jt_178 pc = none
    unfold jt_178
    rw [Nat.ble_eq_true_of_le (show 29 ≤ pc from hp)]
    rfl) (fun pc hp => ⟨0, 29, Nat.zero_le _, hp, jk_178⟩)
set_option maxRecDepth 100000 in
theorem jf_178 : sx_mf 178 := sx_mfA (c := 7) (p := 1363) rfl rfl sx_cls7 rfl (by decide +kernel) (Nat.le_of_ble_eq_true rfl) (Or.inl ⟨rfl, sx_tb_in 1362 (by decide +kernel) rfl⟩) jo_178
-- SpoutNews$Thought.goodTake
theorem jk_179 : sx_chk 179 0 90 = true := by decide +kernel
theorem jo_179 : sx_ok 179 := sx_ok_of 179 (fun pc hp => by
    show jt_179 pc = none
    unfold jt_179
    rw [Nat.ble_eq_true_of_le (show 90 ≤ pc from hp)]
    rfl) (fun pc hp => ⟨0, 90, Nat.zero_le _, hp, jk_179⟩)
set_option maxRecDepth 100000 in
theorem jf_179 : sx_mf 179 := sx_mfA (c := 7) (p := 1366) rfl rfl sx_cls7 rfl (by decide +kernel) (Nat.le_of_ble_eq_true rfl) (Or.inl ⟨rfl, sx_tb_in 1365 (by decide +kernel) rfl⟩) jo_179
-- SpoutNews.undo
theorem jk_180 : sx_chk 180 0 15 = true := by decide +kernel
theorem jo_180 : sx_ok 180 := sx_ok_of 180 (fun pc hp => by
    show jt_180 pc = none
    unfold jt_180
    rw [Nat.ble_eq_true_of_le (show 15 ≤ pc from hp)]
    rfl) (fun pc hp => ⟨0, 15, Nat.zero_le _, hp, jk_180⟩)
set_option maxRecDepth 100000 in
theorem jf_180 : sx_mf 180 := sx_mfA (c := 11) (p := 1372) rfl rfl sx_cls11 rfl (by decide +kernel) (Nat.le_of_ble_eq_true rfl) (Or.inr (Or.inl ⟨rfl, sx_tb_in 1370 (by decide +kernel) rfl, sx_tb_in 1371 (by decide +kernel) rfl⟩)) jo_180
-- SpoutNews$Past.goBack
theorem jk_181 : sx_chk 181 0 51 = true := by decide +kernel
theorem jo_181 : sx_ok 181 := sx_ok_of 181 (fun pc hp => by
    show jt_181 pc = none
    unfold jt_181
    rw [Nat.ble_eq_true_of_le (show 51 ≤ pc from hp)]
    rfl) (fun pc hp => ⟨0, 51, Nat.zero_le _, hp, jk_181⟩)
set_option maxRecDepth 100000 in
theorem jf_181 : sx_mf 181 := sx_mfA (c := 5) (p := 1376) rfl rfl sx_cls5 rfl (by decide +kernel) (Nat.le_of_ble_eq_true rfl) (Or.inr (Or.inl ⟨rfl, sx_tb_in 1374 (by decide +kernel) rfl, sx_tb_in 1375 (by decide +kernel) rfl⟩)) jo_181
-- SpoutNews.image
theorem jk_182 : sx_chk 182 0 51 = true := by decide +kernel
theorem jo_182 : sx_ok 182 := sx_ok_of 182 (fun pc hp => by
    show jt_182 pc = none
    unfold jt_182
    rw [Nat.ble_eq_true_of_le (show 51 ≤ pc from hp)]
    rfl) (fun pc hp => ⟨0, 51, Nat.zero_le _, hp, jk_182⟩)
set_option maxRecDepth 100000 in
theorem jf_182 : sx_mf 182 := sx_mfA (c := 11) (p := 1380) rfl rfl sx_cls11 rfl (by decide +kernel) (Nat.le_of_ble_eq_true rfl) (Or.inr (Or.inl ⟨rfl, sx_tb_in 1378 (by decide +kernel) rfl, sx_tb_in 1379 (by decide +kernel) rfl⟩)) jo_182
-- SpoutNews$Cathedral.copyFrom
theorem jk_183 : sx_chk 183 0 45 = true := by decide +kernel
theorem jo_183 : sx_ok 183 := sx_ok_of 183 (fun pc hp => by
    show jt_183 pc = none
    unfold jt_183
    rw [Nat.ble_eq_true_of_le (show 45 ≤ pc from hp)]
    rfl) (fun pc hp => ⟨0, 45, Nat.zero_le _, hp, jk_183⟩)
set_option maxRecDepth 100000 in
theorem jf_183 : sx_mf 183 := sx_mfA (c := 1) (p := 1384) rfl rfl sx_cls1 rfl (by decide +kernel) (Nat.le_of_ble_eq_true rfl) (Or.inr (Or.inl ⟨rfl, sx_tb_in 1382 (by decide +kernel) rfl, sx_tb_in 1383 (by decide +kernel) rfl⟩)) jo_183
-- SpoutNews$Book.copyFrom
theorem jk_184 : sx_chk 184 0 65 = true := by decide +kernel
theorem jo_184 : sx_ok 184 := sx_ok_of 184 (fun pc hp => by
    show jt_184 pc = none
    unfold jt_184
    rw [Nat.ble_eq_true_of_le (show 65 ≤ pc from hp)]
    rfl) (fun pc hp => ⟨0, 65, Nat.zero_le _, hp, jk_184⟩)
set_option maxRecDepth 100000 in
theorem jf_184 : sx_mf 184 := sx_mfA (c := 0) (p := 1389) rfl rfl sx_cls0 rfl (by decide +kernel) (Nat.le_of_ble_eq_true rfl) (Or.inr (Or.inl ⟨rfl, sx_tb_in 1387 (by decide +kernel) rfl, sx_tb_in 1388 (by decide +kernel) rfl⟩)) jo_184
-- SpoutNews$Texts.copyFrom
theorem jk_185 : sx_chk 185 0 27 = true := by decide +kernel
theorem jo_185 : sx_ok 185 := sx_ok_of 185 (fun pc hp => by
    show jt_185 pc = none
    unfold jt_185
    rw [Nat.ble_eq_true_of_le (show 27 ≤ pc from hp)]
    rfl) (fun pc hp => ⟨0, 27, Nat.zero_le _, hp, jk_185⟩)
set_option maxRecDepth 100000 in
theorem jf_185 : sx_mf 185 := sx_mfA (c := 6) (p := 1394) rfl rfl sx_cls6 rfl (by decide +kernel) (Nat.le_of_ble_eq_true rfl) (Or.inr (Or.inl ⟨rfl, sx_tb_in 1392 (by decide +kernel) rfl, sx_tb_in 1393 (by decide +kernel) rfl⟩)) jo_185
-- SpoutNews$Told.copyFrom
theorem jk_186 : sx_chk 186 0 168 = true := by decide +kernel
theorem jo_186 : sx_ok 186 := sx_ok_of 186 (fun pc hp => by
    show jt_186 pc = none
    unfold jt_186
    rw [Nat.ble_eq_true_of_le (show 168 ≤ pc from hp)]
    rfl) (fun pc hp => ⟨0, 168, Nat.zero_le _, hp, jk_186⟩)
set_option maxRecDepth 100000 in
theorem jf_186 : sx_mf 186 := sx_mfA (c := 9) (p := 1402) rfl rfl sx_cls9 rfl (by decide +kernel) (Nat.le_of_ble_eq_true rfl) (Or.inr (Or.inl ⟨rfl, sx_tb_in 1400 (by decide +kernel) rfl, sx_tb_in 1401 (by decide +kernel) rfl⟩)) jo_186
