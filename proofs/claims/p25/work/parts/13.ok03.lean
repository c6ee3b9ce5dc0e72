-- by program (wip/gen/mk12.py, mkfast.py): the tables of methods hold
-- SpoutNews.quarrel
theorem jk_140 : sq_w 140 (sx_b 140).data.toList 0 = true := by decide +kernel
theorem jo_140 : sx_ok 140 := sq_ok_of 140 (fun pc hp => by
    show jt_140 pc = none
    unfold jt_140
    rw [Nat.ble_eq_true_of_le (show 91 ≤ pc from hp)]
    rfl) (by decide +kernel) jk_140
set_option maxRecDepth 100000 in
theorem jf_140 : sx_mf 140 := sx_mfA (c := 11) rfl rfl sx_cls11 (lw_t1 (tq_5_7 _ (List.mem_of_getElem? (i := 3) rfl))) (by decide +kernel) (Nat.le_of_ble_eq_true rfl) (Or.inr (Or.inl ⟨rfl, sx_tb_mm (lw_t1 (tq_5_7 _ (List.mem_of_getElem? (i := 1) rfl))) rfl, sx_tb_mm (lw_t1 (tq_5_7 _ (List.mem_of_getElem? (i := 2) rfl))) rfl⟩)) jo_140
-- SpoutNews.parts
theorem jk_141 : sq_w 141 (sx_b 141).data.toList 0 = true := by decide +kernel
theorem jo_141 : sx_ok 141 := sq_ok_of 141 (fun pc hp => by
    show jt_141 pc = none
    unfold jt_141
    rw [Nat.ble_eq_true_of_le (show 47 ≤ pc from hp)]
    rfl) (by decide +kernel) jk_141
set_option maxRecDepth 100000 in
theorem jf_141 : sx_mf 141 := sx_mfA (c := 11) rfl rfl sx_cls11 (lw_t1 (tq_5_7 _ (List.mem_of_getElem? (i := 7) rfl))) (by decide +kernel) (Nat.le_of_ble_eq_true rfl) (Or.inr (Or.inl ⟨rfl, sx_tb_mm (lw_t1 (tq_5_7 _ (List.mem_of_getElem? (i := 5) rfl))) rfl, sx_tb_mm (lw_t1 (tq_5_7 _ (List.mem_of_getElem? (i := 6) rfl))) rfl⟩)) jo_141
-- SpoutNews$Thought.partGroups
theorem jk_142 : sq_w 142 (sx_b 142).data.toList 0 = true := by decide +kernel
theorem jo_142 : sx_ok 142 := sq_ok_of 142 (fun pc hp => by
    show jt_142 pc = none
    unfold jt_142
    rw [Nat.ble_eq_true_of_le (show 159 ≤ pc from hp)]
    rfl) (by decide +kernel) jk_142
set_option maxRecDepth 100000 in
theorem jf_142 : sx_mf 142 := sx_mfA (c := 7) rfl rfl sx_cls7 (lw_t1 (tq_5_7 _ (List.mem_of_getElem? (i := 11) rfl))) (by decide +kernel) (Nat.le_of_ble_eq_true rfl) (Or.inr (Or.inl ⟨rfl, sx_tb_mm (lw_t1 (tq_5_7 _ (List.mem_of_getElem? (i := 9) rfl))) rfl, sx_tb_mm (lw_t1 (tq_5_7 _ (List.mem_of_getElem? (i := 10) rfl))) rfl⟩)) jo_142
-- SpoutNews$Thought.spread
theorem jk_143 : sq_w 143 (sx_b 143).data.toList 0 = true := by decide +kernel
theorem jo_143 : sx_ok 143 := sq_ok_of 143 (fun pc hp => by
    show jt_143 pc = none
    unfold jt_143
    rw [Nat.ble_eq_true_of_le (show 126 ≤ pc from hp)]
    rfl) (by decide +kernel) jk_143
set_option maxRecDepth 100000 in
theorem jf_143 : sx_mf 143 := sx_mfA (c := 7) rfl rfl sx_cls7 (lw_t1 (tq_5_7 _ (List.mem_of_getElem? (i := 15) rfl))) (by decide +kernel) (Nat.le_of_ble_eq_true rfl) (Or.inr (Or.inl ⟨rfl, sx_tb_mm (lw_t1 (tq_5_7 _ (List.mem_of_getElem? (i := 14) rfl))) rfl, sx_tb_mm (lw_t0 (⟨"SpoutNews$Thought", "spread", "(LSpoutNews$Told;)V"⟩, 13) (lw_pk2 _ (List.mem_of_getElem? (i := 13) rfl))) rfl⟩)) jo_143
-- SpoutNews$Thought.countColour
theorem jk_144 : sq_w 144 (sx_b 144).data.toList 0 = true := by decide +kernel
theorem jo_144 : sx_ok 144 := sq_ok_of 144 (fun pc hp => by
    show jt_144 pc = none
    unfold jt_144
    rw [Nat.ble_eq_true_of_le (show 31 ≤ pc from hp)]
    rfl) (by decide +kernel) jk_144
set_option maxRecDepth 100000 in
theorem jf_144 : sx_mf 144 := sx_mfA (c := 7) rfl rfl sx_cls7 (lw_t1 (tq_5_8 _ (List.mem_of_getElem? (i := 3) rfl))) (by decide +kernel) (Nat.le_of_ble_eq_true rfl) (Or.inr (Or.inl ⟨rfl, sx_tb_mm (lw_t1 (tq_5_8 _ (List.mem_of_getElem? (i := 2) rfl))) rfl, sx_tb_mm (lw_t0 (⟨"SpoutNews$Thought", "countColour", "(I)I"⟩, 13) (lw_pk2 _ (List.mem_of_getElem? (i := 14) rfl))) rfl⟩)) jo_144
-- SpoutNews.known
theorem jk_145 : sq_w 145 (sx_b 145).data.toList 0 = true := by decide +kernel
theorem jo_145 : sx_ok 145 := sq_ok_of 145 (fun pc hp => by
    show jt_145 pc = none
    unfold jt_145
    rw [Nat.ble_eq_true_of_le (show 52 ≤ pc from hp)]
    rfl) (by decide +kernel) jk_145
set_option maxRecDepth 100000 in
theorem jf_145 : sx_mf 145 := sx_mfA (c := 11) rfl rfl sx_cls11 (lw_t1 (tq_5_8 _ (List.mem_of_getElem? (i := 7) rfl))) (by decide +kernel) (Nat.le_of_ble_eq_true rfl) (Or.inr (Or.inl ⟨rfl, sx_tb_mm (lw_t1 (tq_5_8 _ (List.mem_of_getElem? (i := 5) rfl))) rfl, sx_tb_mm (lw_t1 (tq_5_8 _ (List.mem_of_getElem? (i := 6) rfl))) rfl⟩)) jo_145
-- SpoutNews$Thought.fewestThatKnow
theorem jk_146 : sq_w 146 (sx_b 146).data.toList 0 = true := by decide +kernel
theorem jo_146 : sx_ok 146 := sq_ok_of 146 (fun pc hp => by
    show jt_146 pc = none
    unfold jt_146
    rw [Nat.ble_eq_true_of_le (show 93 ≤ pc from hp)]
    rfl) (by decide +kernel) jk_146
set_option maxRecDepth 100000 in
theorem jf_146 : sx_mf 146 := sx_mfA (c := 7) rfl rfl sx_cls7 (lw_t1 (tq_5_8 _ (List.mem_of_getElem? (i := 11) rfl))) (by decide +kernel) (Nat.le_of_ble_eq_true rfl) (Or.inr (Or.inl ⟨rfl, sx_tb_mm (lw_t1 (tq_5_8 _ (List.mem_of_getElem? (i := 9) rfl))) rfl, sx_tb_mm (lw_t1 (tq_5_8 _ (List.mem_of_getElem? (i := 10) rfl))) rfl⟩)) jo_146
-- SpoutNews$Thought.wordsOf
theorem jk_147 : sq_w 147 (sx_b 147).data.toList 0 = true := by decide +kernel
theorem jo_147 : sx_ok 147 := sq_ok_of 147 (fun pc hp => by
    show jt_147 pc = none
    unfold jt_147
    rw [Nat.ble_eq_true_of_le (show 39 ≤ pc from hp)]
    rfl) (by decide +kernel) jk_147
set_option maxRecDepth 100000 in
theorem jf_147 : sx_mf 147 := sx_mfA (c := 7) rfl rfl sx_cls7 (lw_t1 (tq_5_9 _ (List.mem_of_getElem? (i := 1) rfl))) (by decide +kernel) (Nat.le_of_ble_eq_true rfl) (Or.inr (Or.inl ⟨rfl, sx_tb_mm (lw_t1 (tq_5_9 _ (List.mem_of_getElem? (i := 0) rfl))) rfl, sx_tb_mm (lw_t0 (⟨"SpoutNews$Thought", "wordsOf", "(II)I"⟩, 13) (lw_pk2 _ (List.mem_of_getElem? (i := 15) rfl))) rfl⟩)) jo_147
-- SpoutNews.latin
theorem jk_148 : sq_w 148 (sx_b 148).data.toList 0 = true := by decide +kernel
theorem jo_148 : sx_ok 148 := sq_ok_of 148 (fun pc hp => by
    show jt_148 pc = none
    unfold jt_148
    rw [Nat.ble_eq_true_of_le (show 31 ≤ pc from hp)]
    rfl) (by decide +kernel) jk_148
set_option maxRecDepth 100000 in
theorem jf_148 : sx_mf 148 := sx_mfA (c := 11) rfl rfl sx_cls11 (lw_t1 (tq_5_9 _ (List.mem_of_getElem? (i := 5) rfl))) (by decide +kernel) (Nat.le_of_ble_eq_true rfl) (Or.inr (Or.inl ⟨rfl, sx_tb_mm (lw_t1 (tq_5_9 _ (List.mem_of_getElem? (i := 3) rfl))) rfl, sx_tb_mm (lw_t1 (tq_5_9 _ (List.mem_of_getElem? (i := 4) rfl))) rfl⟩)) jo_148
-- SpoutNews.again
theorem jk_149 : sq_w 149 (sx_b 149).data.toList 0 = true := by decide +kernel
theorem jo_149 : sx_ok 149 := sq_ok_of 149 (fun pc hp => by
    show jt_149 pc = none
    unfold jt_149
    rw [Nat.ble_eq_true_of_le (show 47 ≤ pc from hp)]
    rfl) (by decide +kernel) jk_149
set_option maxRecDepth 100000 in
theorem jf_149 : sx_mf 149 := sx_mfA (c := 11) rfl rfl sx_cls11 (lw_t1 (tq_5_9 _ (List.mem_of_getElem? (i := 9) rfl))) (by decide +kernel) (Nat.le_of_ble_eq_true rfl) (Or.inr (Or.inl ⟨rfl, sx_tb_mm (lw_t1 (tq_5_9 _ (List.mem_of_getElem? (i := 7) rfl))) rfl, sx_tb_mm (lw_t1 (tq_5_9 _ (List.mem_of_getElem? (i := 8) rfl))) rfl⟩)) jo_149
-- SpoutNews$Thought.allAgain
theorem jk_150 : sq_w 150 (sx_b 150).data.toList 0 = true := by decide +kernel
theorem jo_150 : sx_ok 150 := sq_ok_of 150 (fun pc hp => by
    show jt_150 pc = none
    unfold jt_150
    rw [Nat.ble_eq_true_of_le (show 70 ≤ pc from hp)]
    rfl) (by decide +kernel) jk_150
set_option maxRecDepth 100000 in
theorem jf_150 : sx_mf 150 := sx_mfA (c := 7) rfl rfl sx_cls7 (lw_t1 (tq_5_9 _ (List.mem_of_getElem? (i := 13) rfl))) (by decide +kernel) (Nat.le_of_ble_eq_true rfl) (Or.inr (Or.inl ⟨rfl, sx_tb_mm (lw_t1 (tq_5_9 _ (List.mem_of_getElem? (i := 11) rfl))) rfl, sx_tb_mm (lw_t1 (tq_5_9 _ (List.mem_of_getElem? (i := 12) rfl))) rfl⟩)) jo_150
-- SpoutNews$Thought.stepsAgain
theorem jk_151 : sq_w 151 (sx_b 151).data.toList 0 = true := by decide +kernel
theorem jo_151 : sx_ok 151 := sq_ok_of 151 (fun pc hp => by
    show jt_151 pc = none
    unfold jt_151
    rw [Nat.ble_eq_true_of_le (show 54 ≤ pc from hp)]
    rfl) (by decide +kernel) jk_151
set_option maxRecDepth 100000 in
theorem jf_151 : sx_mf 151 := sx_mfA (c := 7) rfl rfl sx_cls7 (lw_t1 (tq_5_10 _ (List.mem_of_getElem? (i := 1) rfl))) (by decide +kernel) (Nat.le_of_ble_eq_true rfl) (Or.inr (Or.inl ⟨rfl, sx_tb_mm (lw_t1 (tq_5_9 _ (List.mem_of_getElem? (i := 15) rfl))) rfl, sx_tb_mm (lw_t1 (tq_5_10 _ (List.mem_of_getElem? (i := 0) rfl))) rfl⟩)) jo_151
-- SpoutNews$Thought.commonMultiple
theorem jk_152 : sq_w 152 (sx_b 152).data.toList 0 = true := by decide +kernel
theorem jo_152 : sx_ok 152 := sq_ok_of 152 (fun pc hp => by
    show jt_152 pc = none
    unfold jt_152
    rw [Nat.ble_eq_true_of_le (show 27 ≤ pc from hp)]
    rfl) (by decide +kernel) jk_152
set_option maxRecDepth 100000 in
theorem jf_152 : sx_mf 152 := sx_mfA (c := 7) rfl rfl sx_cls7 (lw_t1 (tq_5_10 _ (List.mem_of_getElem? (i := 4) rfl))) (by decide +kernel) (Nat.le_of_ble_eq_true rfl) (Or.inl ⟨rfl, sx_tb_mm (lw_t1 (tq_5_10 _ (List.mem_of_getElem? (i := 3) rfl))) rfl⟩) jo_152
-- SpoutNews.mason
theorem jk_153 : sq_w 153 (sx_b 153).data.toList 0 = true := by decide +kernel
theorem jo_153 : sx_ok 153 := sq_ok_of 153 (fun pc hp => by
    show jt_153 pc = none
    unfold jt_153
    rw [Nat.ble_eq_true_of_le (show 102 ≤ pc from hp)]
    rfl) (by decide +kernel) jk_153
set_option maxRecDepth 100000 in
theorem jf_153 : sx_mf 153 := sx_mfA (c := 11) rfl rfl sx_cls11 (lw_t1 (tq_5_10 _ (List.mem_of_getElem? (i := 9) rfl))) (by decide +kernel) (Nat.le_of_ble_eq_true rfl) (Or.inr (Or.inl ⟨rfl, sx_tb_mm (lw_t1 (tq_5_10 _ (List.mem_of_getElem? (i := 7) rfl))) rfl, sx_tb_mm (lw_t1 (tq_5_10 _ (List.mem_of_getElem? (i := 8) rfl))) rfl⟩)) jo_153
-- SpoutNews.isRow
theorem jk_154 : sq_w 154 (sx_b 154).data.toList 0 = true := by decide +kernel
theorem jo_154 : sx_ok 154 := sq_ok_of 154 (fun pc hp => by
    show jt_154 pc = none
    unfold jt_154
    rw [Nat.ble_eq_true_of_le (show 64 ≤ pc from hp)]
    rfl) (by decide +kernel) jk_154
set_option maxRecDepth 100000 in
theorem jf_154 : sx_mf 154 := sx_mfA (c := 11) rfl rfl sx_cls11 (lw_t1 (tq_5_10 _ (List.mem_of_getElem? (i := 12) rfl))) (by decide +kernel) (Nat.le_of_ble_eq_true rfl) (Or.inl ⟨rfl, sx_tb_mm (lw_t1 (tq_5_10 _ (List.mem_of_getElem? (i := 11) rfl))) rfl⟩) jo_154
-- SpoutNews.keeps
theorem jk_155 : sq_w 155 (sx_b 155).data.toList 0 = true := by decide +kernel
theorem jo_155 : sx_ok 155 := sq_ok_of 155 (fun pc hp => by
    show jt_155 pc = none
    unfold jt_155
    rw [Nat.ble_eq_true_of_le (show 51 ≤ pc from hp)]
    rfl) (by decide +kernel) jk_155
set_option maxRecDepth 100000 in
theorem jf_155 : sx_mf 155 := sx_mfA (c := 11) rfl rfl sx_cls11 (lw_t1 (tq_5_11 _ (List.mem_of_getElem? (i := 0) rfl))) (by decide +kernel) (Nat.le_of_ble_eq_true rfl) (Or.inr (Or.inl ⟨rfl, sx_tb_mm (lw_t1 (tq_5_10 _ (List.mem_of_getElem? (i := 14) rfl))) rfl, sx_tb_mm (lw_t1 (tq_5_10 _ (List.mem_of_getElem? (i := 15) rfl))) rfl⟩)) jo_155
-- SpoutNews$Thought.makeOffers
theorem jk_156 : sq_w 156 (sx_b 156).data.toList 0 = true := by decide +kernel
theorem jo_156 : sx_ok 156 := sq_ok_of 156 (fun pc hp => by
    show jt_156 pc = none
    unfold jt_156
    rw [Nat.ble_eq_true_of_le (show 98 ≤ pc from hp)]
    rfl) (by decide +kernel) jk_156
set_option maxRecDepth 100000 in
theorem jf_156 : sx_mf 156 := sx_mfA (c := 7) rfl rfl sx_cls7 (lw_t1 (tq_5_11 _ (List.mem_of_getElem? (i := 4) rfl))) (by decide +kernel) (Nat.le_of_ble_eq_true rfl) (Or.inr (Or.inl ⟨rfl, sx_tb_mm (lw_t1 (tq_5_11 _ (List.mem_of_getElem? (i := 2) rfl))) rfl, sx_tb_mm (lw_t1 (tq_5_11 _ (List.mem_of_getElem? (i := 3) rfl))) rfl⟩)) jo_156
-- SpoutNews$Thought.firstWithout
theorem jk_157 : sq_w 157 (sx_b 157).data.toList 0 = true := by decide +kernel
theorem jo_157 : sx_ok 157 := sq_ok_of 157 (fun pc hp => by
    show jt_157 pc = none
    unfold jt_157
    rw [Nat.ble_eq_true_of_le (show 27 ≤ pc from hp)]
    rfl) (by decide +kernel) jk_157
set_option maxRecDepth 100000 in
theorem jf_157 : sx_mf 157 := sx_mfA (c := 7) rfl rfl sx_cls7 (lw_t1 (tq_5_11 _ (List.mem_of_getElem? (i := 8) rfl))) (by decide +kernel) (Nat.le_of_ble_eq_true rfl) (Or.inr (Or.inl ⟨rfl, sx_tb_mm (lw_t1 (tq_5_11 _ (List.mem_of_getElem? (i := 7) rfl))) rfl, sx_tb_mm (lw_t0 (⟨"SpoutNews$Thought", "firstWithout", "()I"⟩, 13) (lw_pk3 _ (List.mem_of_getElem? (i := 0) rfl))) rfl⟩)) jo_157
-- SpoutNews$Thought.offer
theorem jk_158 : sq_w 158 (sx_b 158).data.toList 0 = true := by decide +kernel
theorem jo_158 : sx_ok 158 := sq_ok_of 158 (fun pc hp => by
    show jt_158 pc = none
    unfold jt_158
    rw [Nat.ble_eq_true_of_le (show 81 ≤ pc from hp)]
    rfl) (by decide +kernel) jk_158
set_option maxRecDepth 100000 in
theorem jf_158 : sx_mf 158 := sx_mfA (c := 7) rfl rfl sx_cls7 (lw_t1 (tq_5_11 _ (List.mem_of_getElem? (i := 12) rfl))) (by decide +kernel) (Nat.le_of_ble_eq_true rfl) (Or.inr (Or.inl ⟨rfl, sx_tb_mm (lw_t1 (tq_5_11 _ (List.mem_of_getElem? (i := 11) rfl))) rfl, sx_tb_mm (lw_t0 (⟨"SpoutNews$Thought", "offer", "(LSpoutNews$Told;II)V"⟩, 13) (lw_pk3 _ (List.mem_of_getElem? (i := 1) rfl))) rfl⟩)) jo_158
-- SpoutNews$Thought.dearness
theorem jk_159 : sq_w 159 (sx_b 159).data.toList 0 = true := by decide +kernel
theorem jo_159 : sx_ok 159 := sq_ok_of 159 (fun pc hp => by
    show jt_159 pc = none
    unfold jt_159
    rw [Nat.ble_eq_true_of_le (show 31 ≤ pc from hp)]
    rfl) (by decide +kernel) jk_159
set_option maxRecDepth 100000 in
theorem jf_159 : sx_mf 159 := sx_mfA (c := 7) rfl rfl sx_cls7 (lw_t1 (tq_5_11 _ (List.mem_of_getElem? (i := 15) rfl))) (by decide +kernel) (Nat.le_of_ble_eq_true rfl) (Or.inl ⟨rfl, sx_tb_mm (lw_t1 (tq_5_11 _ (List.mem_of_getElem? (i := 14) rfl))) rfl⟩) jo_159
-- SpoutNews.surmise
theorem jk_160 : sq_w 160 (sx_b 160).data.toList 0 = true := by decide +kernel
theorem jo_160 : sx_ok 160 := sq_ok_of 160 (fun pc hp => by
    show jt_160 pc = none
    unfold jt_160
    rw [Nat.ble_eq_true_of_le (show 40 ≤ pc from hp)]
    rfl) (by decide +kernel) jk_160
set_option maxRecDepth 100000 in
theorem jf_160 : sx_mf 160 := sx_mfA (c := 11) rfl rfl sx_cls11 (lw_t1 (tq_5_12 _ (List.mem_of_getElem? (i := 3) rfl))) (by decide +kernel) (Nat.le_of_ble_eq_true rfl) (Or.inr (Or.inl ⟨rfl, sx_tb_mm (lw_t1 (tq_5_12 _ (List.mem_of_getElem? (i := 1) rfl))) rfl, sx_tb_mm (lw_t1 (tq_5_12 _ (List.mem_of_getElem? (i := 2) rfl))) rfl⟩)) jo_160
-- SpoutNews$Thought.likely
theorem jk_161 : sq_w 161 (sx_b 161).data.toList 0 = true := by decide +kernel
theorem jo_161 : sx_ok 161 := sq_ok_of 161 (fun pc hp => by
    show jt_161 pc = none
    unfold jt_161
    rw [Nat.ble_eq_true_of_le (show 62 ≤ pc from hp)]
    rfl) (by decide +kernel) jk_161
set_option maxRecDepth 100000 in
theorem jf_161 : sx_mf 161 := sx_mfA (c := 7) rfl rfl sx_cls7 (lw_t1 (tq_5_12 _ (List.mem_of_getElem? (i := 6) rfl))) (by decide +kernel) (Nat.le_of_ble_eq_true rfl) (Or.inl ⟨rfl, sx_tb_mm (lw_t1 (tq_5_12 _ (List.mem_of_getElem? (i := 5) rfl))) rfl⟩) jo_161
-- SpoutNews$Thought.weighed
theorem jk_162 : sq_w 162 (sx_b 162).data.toList 0 = true := by decide +kernel
theorem jo_162 : sx_ok 162 := sq_ok_of 162 (fun pc hp => by
    show jt_162 pc = none
    unfold jt_162
    rw [Nat.ble_eq_true_of_le (show 36 ≤ pc from hp)]
    rfl) (by decide +kernel) jk_162
set_option maxRecDepth 100000 in
theorem jf_162 : sx_mf 162 := sx_mfA (c := 7) rfl rfl sx_cls7 (lw_t1 (tq_5_12 _ (List.mem_of_getElem? (i := 12) rfl))) (by decide +kernel) (Nat.le_of_ble_eq_true rfl) (Or.inl ⟨rfl, sx_tb_mm (lw_t1 (tq_5_12 _ (List.mem_of_getElem? (i := 11) rfl))) rfl⟩) jo_162
-- SpoutNews.drought
theorem jk_163 : sq_w 163 (sx_b 163).data.toList 0 = true := by decide +kernel
theorem jo_163 : sx_ok 163 := sq_ok_of 163 (fun pc hp => by
    show jt_163 pc = none
    unfold jt_163
    rw [Nat.ble_eq_true_of_le (show 66 ≤ pc from hp)]
    rfl) (by decide +kernel) jk_163
set_option maxRecDepth 100000 in
theorem jf_163 : sx_mf 163 := sx_mfA (c := 11) rfl rfl sx_cls11 (lw_t1 (tq_5_13 _ (List.mem_of_getElem? (i := 1) rfl))) (by decide +kernel) (Nat.le_of_ble_eq_true rfl) (Or.inr (Or.inl ⟨rfl, sx_tb_mm (lw_t1 (tq_5_12 _ (List.mem_of_getElem? (i := 15) rfl))) rfl, sx_tb_mm (lw_t1 (tq_5_13 _ (List.mem_of_getElem? (i := 0) rfl))) rfl⟩)) jo_163
-- SpoutNews.longest
theorem jk_164 : sq_w 164 (sx_b 164).data.toList 0 = true := by decide +kernel
theorem jo_164 : sx_ok 164 := sq_ok_of 164 (fun pc hp => by
    show jt_164 pc = none
    unfold jt_164
    rw [Nat.ble_eq_true_of_le (show 52 ≤ pc from hp)]
    rfl) (by decide +kernel) jk_164
set_option maxRecDepth 100000 in
theorem jf_164 : sx_mf 164 := sx_mfA (c := 11) rfl rfl sx_cls11 (lw_t1 (tq_5_13 _ (List.mem_of_getElem? (i := 5) rfl))) (by decide +kernel) (Nat.le_of_ble_eq_true rfl) (Or.inr (Or.inl ⟨rfl, sx_tb_mm (lw_t1 (tq_5_13 _ (List.mem_of_getElem? (i := 3) rfl))) rfl, sx_tb_mm (lw_t1 (tq_5_13 _ (List.mem_of_getElem? (i := 4) rfl))) rfl⟩)) jo_164
-- SpoutNews$Told.longestRun
theorem jk_165 : sq_w 165 (sx_b 165).data.toList 0 = true := by decide +kernel
theorem jo_165 : sx_ok 165 := sq_ok_of 165 (fun pc hp => by
    show jt_165 pc = none
    unfold jt_165
    rw [Nat.ble_eq_true_of_le (show 41 ≤ pc from hp)]
    rfl) (by decide +kernel) jk_165
set_option maxRecDepth 100000 in
theorem jf_165 : sx_mf 165 := sx_mfA (c := 9) rfl rfl sx_cls9 (lw_t1 (tq_5_13 _ (List.mem_of_getElem? (i := 9) rfl))) (by decide +kernel) (Nat.le_of_ble_eq_true rfl) (Or.inr (Or.inl ⟨rfl, sx_tb_mm (lw_t1 (tq_5_13 _ (List.mem_of_getElem? (i := 7) rfl))) rfl, sx_tb_mm (lw_t1 (tq_5_13 _ (List.mem_of_getElem? (i := 8) rfl))) rfl⟩)) jo_165
-- SpoutNews$Told.longestRunBegins
theorem jk_166 : sq_w 166 (sx_b 166).data.toList 0 = true := by decide +kernel
theorem jo_166 : sx_ok 166 := sq_ok_of 166 (fun pc hp => by
    show jt_166 pc = none
    unfold jt_166
    rw [Nat.ble_eq_true_of_le (show 58 ≤ pc from hp)]
    rfl) (by decide +kernel) jk_166
set_option maxRecDepth 100000 in
theorem jf_166 : sx_mf 166 := sx_mfA (c := 9) rfl rfl sx_cls9 (lw_t1 (tq_5_13 _ (List.mem_of_getElem? (i := 13) rfl))) (by decide +kernel) (Nat.le_of_ble_eq_true rfl) (Or.inr (Or.inl ⟨rfl, sx_tb_mm (lw_t1 (tq_5_13 _ (List.mem_of_getElem? (i := 11) rfl))) rfl, sx_tb_mm (lw_t1 (tq_5_13 _ (List.mem_of_getElem? (i := 12) rfl))) rfl⟩)) jo_166
-- SpoutNews.leans
theorem jk_167 : sq_w 167 (sx_b 167).data.toList 0 = true := by decide +kernel
theorem jo_167 : sx_ok 167 := sq_ok_of 167 (fun pc hp => by
    show jt_167 pc = none
    unfold jt_167
    rw [Nat.ble_eq_true_of_le (show 25 ≤ pc from hp)]
    rfl) (by decide +kernel) jk_167
set_option maxRecDepth 100000 in
theorem jf_167 : sx_mf 167 := sx_mfA (c := 11) rfl rfl sx_cls11 (lw_t1 (tq_5_14 _ (List.mem_of_getElem? (i := 2) rfl))) (by decide +kernel) (Nat.le_of_ble_eq_true rfl) (Or.inr (Or.inl ⟨rfl, sx_tb_mm (lw_t1 (tq_5_14 _ (List.mem_of_getElem? (i := 0) rfl))) rfl, sx_tb_mm (lw_t1 (tq_5_14 _ (List.mem_of_getElem? (i := 1) rfl))) rfl⟩)) jo_167
-- SpoutNews$Thought.centuries
theorem jk_168 : sq_w 168 (sx_b 168).data.toList 0 = true := by decide +kernel
theorem jo_168 : sx_ok 168 := sq_ok_of 168 (fun pc hp => by
    show jt_168 pc = none
    unfold jt_168
    rw [Nat.ble_eq_true_of_le (show 75 ≤ pc from hp)]
    rfl) (by decide +kernel) jk_168
set_option maxRecDepth 100000 in
theorem jf_168 : sx_mf 168 := sx_mfA (c := 7) rfl rfl sx_cls7 (lw_t1 (tq_5_14 _ (List.mem_of_getElem? (i := 5) rfl))) (by decide +kernel) (Nat.le_of_ble_eq_true rfl) (Or.inl ⟨rfl, sx_tb_mm (lw_t1 (tq_5_14 _ (List.mem_of_getElem? (i := 4) rfl))) rfl⟩) jo_168
-- SpoutNews.chapter
theorem jk_169 : sq_w 169 (sx_b 169).data.toList 0 = true := by decide +kernel
theorem jo_169 : sx_ok 169 := sq_ok_of 169 (fun pc hp => by
    show jt_169 pc = none
    unfold jt_169
    rw [Nat.ble_eq_true_of_le (show 67 ≤ pc from hp)]
    rfl) (by decide +kernel) jk_169
set_option maxRecDepth 100000 in
theorem jf_169 : sx_mf 169 := sx_mfA (c := 11) rfl rfl sx_cls11 (lw_t1 (tq_5_14 _ (List.mem_of_getElem? (i := 9) rfl))) (by decide +kernel) (Nat.le_of_ble_eq_true rfl) (Or.inr (Or.inl ⟨rfl, sx_tb_mm (lw_t1 (tq_5_14 _ (List.mem_of_getElem? (i := 7) rfl))) rfl, sx_tb_mm (lw_t1 (tq_5_14 _ (List.mem_of_getElem? (i := 8) rfl))) rfl⟩)) jo_169
-- SpoutNews.read
theorem jk_170 : sq_w 170 (sx_b 170).data.toList 0 = true := by decide +kernel
theorem jo_170 : sx_ok 170 := sq_ok_of 170 (fun pc hp => by
    show jt_170 pc = none
    unfold jt_170
    rw [Nat.ble_eq_true_of_le (show 82 ≤ pc from hp)]
    rfl) (by decide +kernel) jk_170
set_option maxRecDepth 100000 in
theorem jf_170 : sx_mf 170 := sx_mfA (c := 11) rfl rfl sx_cls11 (lw_t1 (tq_5_14 _ (List.mem_of_getElem? (i := 13) rfl))) (by decide +kernel) (Nat.le_of_ble_eq_true rfl) (Or.inr (Or.inl ⟨rfl, sx_tb_mm (lw_t1 (tq_5_14 _ (List.mem_of_getElem? (i := 11) rfl))) rfl, sx_tb_mm (lw_t1 (tq_5_14 _ (List.mem_of_getElem? (i := 12) rfl))) rfl⟩)) jo_170
-- SpoutNews$Thought.readInStorms
theorem jk_171 : sq_w 171 (sx_b 171).data.toList 0 = true := by decide +kernel
theorem jo_171 : sx_ok 171 := sq_ok_of 171 (fun pc hp => by
    show jt_171 pc = none
    unfold jt_171
    rw [Nat.ble_eq_true_of_le (show 135 ≤ pc from hp)]
    rfl) (by decide +kernel) jk_171
set_option maxRecDepth 100000 in
theorem jf_171 : sx_mf 171 := sx_mfA (c := 7) rfl rfl sx_cls7 (lw_t1 (tq_6_0 _ (List.mem_of_getElem? (i := 1) rfl))) (by decide +kernel) (Nat.le_of_ble_eq_true rfl) (Or.inr (Or.inl ⟨rfl, sx_tb_mm (lw_t1 (tq_5_14 _ (List.mem_of_getElem? (i := 15) rfl))) rfl, sx_tb_mm (lw_t1 (tq_6_0 _ (List.mem_of_getElem? (i := 0) rfl))) rfl⟩)) jo_171
-- SpoutNews$Thought.storm
theorem jk_172 : sq_w 172 (sx_b 172).data.toList 0 = true := by decide +kernel
theorem jo_172 : sx_ok 172 := sq_ok_of 172 (fun pc hp => by
    show jt_172 pc = none
    unfold jt_172
    rw [Nat.ble_eq_true_of_le (show 7 ≤ pc from hp)]
    rfl) (by decide +kernel) jk_172
set_option maxRecDepth 100000 in
theorem jf_172 : sx_mf 172 := sx_mfA (c := 7) rfl rfl sx_cls7 (lw_t1 (tq_6_0 _ (List.mem_of_getElem? (i := 4) rfl))) (by decide +kernel) (Nat.le_of_ble_eq_true rfl) (Or.inl ⟨rfl, sx_tb_mm (lw_t1 (tq_6_0 _ (List.mem_of_getElem? (i := 3) rfl))) rfl⟩) jo_172
-- SpoutNews$Told.minutes
theorem jk_173 : sq_w 173 (sx_b 173).data.toList 0 = true := by decide +kernel
theorem jo_173 : sx_ok 173 := sq_ok_of 173 (fun pc hp => by
    show jt_173 pc = none
    unfold jt_173
    rw [Nat.ble_eq_true_of_le (show 38 ≤ pc from hp)]
    rfl) (by decide +kernel) jk_173
set_option maxRecDepth 100000 in
theorem jf_173 : sx_mf 173 := sx_mfA (c := 9) rfl rfl sx_cls9 (lw_t1 (tq_6_0 _ (List.mem_of_getElem? (i := 8) rfl))) (by decide +kernel) (Nat.le_of_ble_eq_true rfl) (Or.inr (Or.inl ⟨rfl, sx_tb_mm (lw_t1 (tq_6_0 _ (List.mem_of_getElem? (i := 6) rfl))) rfl, sx_tb_mm (lw_t1 (tq_6_0 _ (List.mem_of_getElem? (i := 7) rfl))) rfl⟩)) jo_173
-- SpoutNews$Thought.greatestSum
theorem jk_174 : sq_w 174 (sx_b 174).data.toList 0 = true := by decide +kernel
theorem jo_174 : sx_ok 174 := sq_ok_of 174 (fun pc hp => by
    show jt_174 pc = none
    unfold jt_174
    rw [Nat.ble_eq_true_of_le (show 24 ≤ pc from hp)]
    rfl) (by decide +kernel) jk_174
set_option maxRecDepth 100000 in
theorem jf_174 : sx_mf 174 := sx_mfA (c := 7) rfl rfl sx_cls7 (lw_t1 (tq_6_0 _ (List.mem_of_getElem? (i := 12) rfl))) (by decide +kernel) (Nat.le_of_ble_eq_true rfl) (Or.inr (Or.inl ⟨rfl, sx_tb_mm (lw_t1 (tq_6_0 _ (List.mem_of_getElem? (i := 11) rfl))) rfl, sx_tb_mm (lw_t0 (⟨"SpoutNews$Thought", "greatestSum", "(LSpoutNews$Told;III)I"⟩, 13) (lw_pk3 _ (List.mem_of_getElem? (i := 2) rfl))) rfl⟩)) jo_174
-- SpoutNews$Thought.leastSum
theorem jk_175 : sq_w 175 (sx_b 175).data.toList 0 = true := by decide +kernel
theorem jo_175 : sx_ok 175 := sq_ok_of 175 (fun pc hp => by
    show jt_175 pc = none
    unfold jt_175
    rw [Nat.ble_eq_true_of_le (show 11 ≤ pc from hp)]
    rfl) (by decide +kernel) jk_175
set_option maxRecDepth 100000 in
theorem jf_175 : sx_mf 175 := sx_mfA (c := 7) rfl rfl sx_cls7 (lw_t1 (tq_6_1 _ (List.mem_of_getElem? (i := 1) rfl))) (by decide +kernel) (Nat.le_of_ble_eq_true rfl) (Or.inr (Or.inl ⟨rfl, sx_tb_mm (lw_t1 (tq_6_0 _ (List.mem_of_getElem? (i := 15) rfl))) rfl, sx_tb_mm (lw_t1 (tq_6_1 _ (List.mem_of_getElem? (i := 0) rfl))) rfl⟩)) jo_175
-- SpoutNews$Thought.secondStorm
theorem jk_176 : sq_w 176 (sx_b 176).data.toList 0 = true := by decide +kernel
theorem jo_176 : sx_ok 176 := sq_ok_of 176 (fun pc hp => by
    show jt_176 pc = none
    unfold jt_176
    rw [Nat.ble_eq_true_of_le (show 45 ≤ pc from hp)]
    rfl) (by decide +kernel) jk_176
set_option maxRecDepth 100000 in
theorem jf_176 : sx_mf 176 := sx_mfA (c := 7) rfl rfl sx_cls7 (lw_t1 (tq_6_1 _ (List.mem_of_getElem? (i := 5) rfl))) (by decide +kernel) (Nat.le_of_ble_eq_true rfl) (Or.inr (Or.inl ⟨rfl, sx_tb_mm (lw_t1 (tq_6_1 _ (List.mem_of_getElem? (i := 3) rfl))) rfl, sx_tb_mm (lw_t1 (tq_6_1 _ (List.mem_of_getElem? (i := 4) rfl))) rfl⟩)) jo_176
-- SpoutNews.game
theorem jk_177 : sq_w 177 (sx_b 177).data.toList 0 = true := by decide +kernel
theorem jo_177 : sx_ok 177 := sq_ok_of 177 (fun pc hp => by
    show jt_177 pc = none
    unfold jt_177
    rw [Nat.ble_eq_true_of_le (show 62 ≤ pc from hp)]
    rfl) (by decide +kernel) jk_177
set_option maxRecDepth 100000 in
theorem jf_177 : sx_mf 177 := sx_mfA (c := 11) rfl rfl sx_cls11 (lw_t1 (tq_6_1 _ (List.mem_of_getElem? (i := 10) rfl))) (by decide +kernel) (Nat.le_of_ble_eq_true rfl) (Or.inr (Or.inl ⟨rfl, sx_tb_mm (lw_t1 (tq_6_1 _ (List.mem_of_getElem? (i := 8) rfl))) rfl, sx_tb_mm (lw_t1 (tq_6_1 _ (List.mem_of_getElem? (i := 9) rfl))) rfl⟩)) jo_177
-- SpoutNews$Thought.goodSpout
theorem jk_178 : sq_w 178 (sx_b 178).data.toList 0 = true := by decide +kernel
theorem jo_178 : sx_ok 178 := sq_ok_of 178 (fun pc hp => by
    show jt_178 pc = none
    unfold jt_178
    rw [Nat.ble_eq_true_of_le (show 29 ≤ pc from hp)]
    rfl) (by decide +kernel) jk_178
set_option maxRecDepth 100000 in
theorem jf_178 : sx_mf 178 := sx_mfA (c := 7) rfl rfl sx_cls7 (lw_t1 (tq_6_1 _ (List.mem_of_getElem? (i := 13) rfl))) (by decide +kernel) (Nat.le_of_ble_eq_true rfl) (Or.inl ⟨rfl, sx_tb_mm (lw_t1 (tq_6_1 _ (List.mem_of_getElem? (i := 12) rfl))) rfl⟩) jo_178
-- SpoutNews$Thought.goodTake
theorem jk_179 : sq_w 179 (sx_b 179).data.toList 0 = true := by decide +kernel
theorem jo_179 : sx_ok 179 := sq_ok_of 179 (fun pc hp => by
    show jt_179 pc = none
    unfold jt_179
    rw [Nat.ble_eq_true_of_le (show 90 ≤ pc from hp)]
    rfl) (by decide +kernel) jk_179
set_option maxRecDepth 100000 in
theorem jf_179 : sx_mf 179 := sx_mfA (c := 7) rfl rfl sx_cls7 (lw_t1 (tq_6_2 _ (List.mem_of_getElem? (i := 0) rfl))) (by decide +kernel) (Nat.le_of_ble_eq_true rfl) (Or.inl ⟨rfl, sx_tb_mm (lw_t1 (tq_6_1 _ (List.mem_of_getElem? (i := 15) rfl))) rfl⟩) jo_179
-- SpoutNews.undo
theorem jk_180 : sq_w 180 (sx_b 180).data.toList 0 = true := by decide +kernel
theorem jo_180 : sx_ok 180 := sq_ok_of 180 (fun pc hp => by
    show jt_180 pc = none
    unfold jt_180
    rw [Nat.ble_eq_true_of_le (show 15 ≤ pc from hp)]
    rfl) (by decide +kernel) jk_180
set_option maxRecDepth 100000 in
theorem jf_180 : sx_mf 180 := sx_mfA (c := 11) rfl rfl sx_cls11 (lw_t1 (tq_6_2 _ (List.mem_of_getElem? (i := 6) rfl))) (by decide +kernel) (Nat.le_of_ble_eq_true rfl) (Or.inr (Or.inl ⟨rfl, sx_tb_mm (lw_t1 (tq_6_2 _ (List.mem_of_getElem? (i := 4) rfl))) rfl, sx_tb_mm (lw_t1 (tq_6_2 _ (List.mem_of_getElem? (i := 5) rfl))) rfl⟩)) jo_180
-- SpoutNews$Past.goBack
theorem jk_181 : sq_w 181 (sx_b 181).data.toList 0 = true := by decide +kernel
theorem jo_181 : sx_ok 181 := sq_ok_of 181 (fun pc hp => by
    show jt_181 pc = none
    unfold jt_181
    rw [Nat.ble_eq_true_of_le (show 51 ≤ pc from hp)]
    rfl) (by decide +kernel) jk_181
set_option maxRecDepth 100000 in
theorem jf_181 : sx_mf 181 := sx_mfA (c := 5) rfl rfl sx_cls5 (lw_t1 (tq_6_2 _ (List.mem_of_getElem? (i := 10) rfl))) (by decide +kernel) (Nat.le_of_ble_eq_true rfl) (Or.inr (Or.inl ⟨rfl, sx_tb_mm (lw_t1 (tq_6_2 _ (List.mem_of_getElem? (i := 8) rfl))) rfl, sx_tb_mm (lw_t1 (tq_6_2 _ (List.mem_of_getElem? (i := 9) rfl))) rfl⟩)) jo_181
-- SpoutNews.image
theorem jk_182 : sq_w 182 (sx_b 182).data.toList 0 = true := by decide +kernel
theorem jo_182 : sx_ok 182 := sq_ok_of 182 (fun pc hp => by
    show jt_182 pc = none
    unfold jt_182
    rw [Nat.ble_eq_true_of_le (show 51 ≤ pc from hp)]
    rfl) (by decide +kernel) jk_182
set_option maxRecDepth 100000 in
theorem jf_182 : sx_mf 182 := sx_mfA (c := 11) rfl rfl sx_cls11 (lw_t1 (tq_6_2 _ (List.mem_of_getElem? (i := 14) rfl))) (by decide +kernel) (Nat.le_of_ble_eq_true rfl) (Or.inr (Or.inl ⟨rfl, sx_tb_mm (lw_t1 (tq_6_2 _ (List.mem_of_getElem? (i := 12) rfl))) rfl, sx_tb_mm (lw_t1 (tq_6_2 _ (List.mem_of_getElem? (i := 13) rfl))) rfl⟩)) jo_182
-- SpoutNews$Cathedral.copyFrom
theorem jk_183 : sq_w 183 (sx_b 183).data.toList 0 = true := by decide +kernel
theorem jo_183 : sx_ok 183 := sq_ok_of 183 (fun pc hp => by
    show jt_183 pc = none
    unfold jt_183
    rw [Nat.ble_eq_true_of_le (show 45 ≤ pc from hp)]
    rfl) (by decide +kernel) jk_183
set_option maxRecDepth 100000 in
theorem jf_183 : sx_mf 183 := sx_mfA (c := 1) rfl rfl sx_cls1 (lw_t1 (tq_6_3 _ (List.mem_of_getElem? (i := 2) rfl))) (by decide +kernel) (Nat.le_of_ble_eq_true rfl) (Or.inr (Or.inl ⟨rfl, sx_tb_mm (lw_t1 (tq_6_3 _ (List.mem_of_getElem? (i := 0) rfl))) rfl, sx_tb_mm (lw_t1 (tq_6_3 _ (List.mem_of_getElem? (i := 1) rfl))) rfl⟩)) jo_183
-- SpoutNews$Book.copyFrom
theorem jk_184 : sq_w 184 (sx_b 184).data.toList 0 = true := by decide +kernel
theorem jo_184 : sx_ok 184 := sq_ok_of 184 (fun pc hp => by
    show jt_184 pc = none
    unfold jt_184
    rw [Nat.ble_eq_true_of_le (show 65 ≤ pc from hp)]
    rfl) (by decide +kernel) jk_184
set_option maxRecDepth 100000 in
theorem jf_184 : sx_mf 184 := sx_mfA (c := 0) rfl rfl sx_cls0 (lw_t1 (tq_6_3 _ (List.mem_of_getElem? (i := 7) rfl))) (by decide +kernel) (Nat.le_of_ble_eq_true rfl) (Or.inr (Or.inl ⟨rfl, sx_tb_mm (lw_t1 (tq_6_3 _ (List.mem_of_getElem? (i := 5) rfl))) rfl, sx_tb_mm (lw_t1 (tq_6_3 _ (List.mem_of_getElem? (i := 6) rfl))) rfl⟩)) jo_184
-- SpoutNews$Texts.copyFrom
theorem jk_185 : sq_w 185 (sx_b 185).data.toList 0 = true := by decide +kernel
theorem jo_185 : sx_ok 185 := sq_ok_of 185 (fun pc hp => by
    show jt_185 pc = none
    unfold jt_185
    rw [Nat.ble_eq_true_of_le (show 27 ≤ pc from hp)]
    rfl) (by decide +kernel) jk_185
set_option maxRecDepth 100000 in
theorem jf_185 : sx_mf 185 := sx_mfA (c := 6) rfl rfl sx_cls6 (lw_t1 (tq_6_3 _ (List.mem_of_getElem? (i := 12) rfl))) (by decide +kernel) (Nat.le_of_ble_eq_true rfl) (Or.inr (Or.inl ⟨rfl, sx_tb_mm (lw_t1 (tq_6_3 _ (List.mem_of_getElem? (i := 10) rfl))) rfl, sx_tb_mm (lw_t1 (tq_6_3 _ (List.mem_of_getElem? (i := 11) rfl))) rfl⟩)) jo_185
-- SpoutNews$Told.copyFrom
theorem jk_186 : sq_w 186 (sx_b 186).data.toList 0 = true := by decide +kernel
theorem jo_186 : sx_ok 186 := sq_ok_of 186 (fun pc hp => by
    show jt_186 pc = none
    unfold jt_186
    rw [Nat.ble_eq_true_of_le (show 168 ≤ pc from hp)]
    rfl) (by decide +kernel) jk_186
set_option maxRecDepth 100000 in
theorem jf_186 : sx_mf 186 := sx_mfA (c := 9) rfl rfl sx_cls9 (lw_t1 (tq_6_4 _ (List.mem_of_getElem? (i := 4) rfl))) (by decide +kernel) (Nat.le_of_ble_eq_true rfl) (Or.inr (Or.inl ⟨rfl, sx_tb_mm (lw_t1 (tq_6_4 _ (List.mem_of_getElem? (i := 2) rfl))) rfl, sx_tb_mm (lw_t1 (tq_6_4 _ (List.mem_of_getElem? (i := 3) rfl))) rfl⟩)) jo_186
