-- by program (wip/gen/mk12.py, mkfast.py): the tables of methods hold
-- SpoutNews.look
theorem jk_187 : sq_w 187 (sx_b 187).data.toList 0 = true := by decide +kernel
theorem jo_187 : sx_ok 187 := sq_ok_of 187 (fun pc hp => by
    show jt_187 pc = none
    unfold jt_187
    rw [Nat.ble_eq_true_of_le (show 157 ≤ pc from hp)]
    rfl) (by decide +kernel) jk_187
set_option maxRecDepth 100000 in
theorem jf_187 : sx_mf 187 := sx_mfA (c := 11) rfl rfl sx_cls11 (lw_t1 (tq_6_4 _ (List.mem_of_getElem? (i := 9) rfl))) (by decide +kernel) (Nat.le_of_ble_eq_true rfl) (Or.inr (Or.inl ⟨rfl, sx_tb_mm (lw_t1 (tq_6_4 _ (List.mem_of_getElem? (i := 7) rfl))) rfl, sx_tb_mm (lw_t1 (tq_6_4 _ (List.mem_of_getElem? (i := 8) rfl))) rfl⟩)) jo_187
-- SpoutNewsModel.<init>
theorem jk_188 : sq_w 188 (sx_b 188).data.toList 0 = true := by decide +kernel
theorem jo_188 : sx_ok 188 := sq_ok_of 188 (fun pc hp => by
    show jt_188 pc = none
    unfold jt_188
    rw [Nat.ble_eq_true_of_le (show 1076 ≤ pc from hp)]
    rfl) (by decide +kernel) jk_188
set_option maxRecDepth 100000 in
theorem jf_188 : sx_mf 188 := sx_mfA (c := 12) rfl rfl sx_cls12 (lw_t1 (tq_6_4 _ (List.mem_of_getElem? (i := 14) rfl))) (by decide +kernel) (Nat.le_of_ble_eq_true rfl) (Or.inr (Or.inr ⟨rfl, sx_tb_mm (lw_t1 (tq_6_4 _ (List.mem_of_getElem? (i := 13) rfl))) rfl, rfl, rfl⟩)) jo_188
-- SpoutNewsModel.undo
theorem jk_189 : sq_w 189 (sx_b 189).data.toList 0 = true := by decide +kernel
theorem jo_189 : sx_ok 189 := sq_ok_of 189 (fun pc hp => by
    show jt_189 pc = none
    unfold jt_189
    rw [Nat.ble_eq_true_of_le (show 62 ≤ pc from hp)]
    rfl) (by decide +kernel) jk_189
set_option maxRecDepth 100000 in
theorem jf_189 : sx_mf 189 := sx_mfA (c := 12) rfl rfl sx_cls12 (lw_t1 (tq_7_2 _ (List.mem_of_getElem? (i := 7) rfl))) (by decide +kernel) (Nat.le_of_ble_eq_true rfl) (Or.inr (Or.inl ⟨rfl, sx_tb_mm (lw_t1 (tq_7_2 _ (List.mem_of_getElem? (i := 5) rfl))) rfl, sx_tb_mm (lw_t1 (tq_7_2 _ (List.mem_of_getElem? (i := 6) rfl))) rfl⟩)) jo_189
-- SpoutNewsModel.state
theorem jk_190 : sq_w 190 (sx_b 190).data.toList 0 = true := by decide +kernel
theorem jo_190 : sx_ok 190 := sq_ok_of 190 (fun pc hp => by
    show jt_190 pc = none
    unfold jt_190
    rw [Nat.ble_eq_true_of_le (show 26 ≤ pc from hp)]
    rfl) (by decide +kernel) jk_190
set_option maxRecDepth 100000 in
theorem jf_190 : sx_mf 190 := sx_mfA (c := 12) rfl rfl sx_cls12 (lw_t1 (tq_7_2 _ (List.mem_of_getElem? (i := 11) rfl))) (by decide +kernel) (Nat.le_of_ble_eq_true rfl) (Or.inr (Or.inl ⟨rfl, sx_tb_mm (lw_t1 (tq_7_2 _ (List.mem_of_getElem? (i := 9) rfl))) rfl, sx_tb_mm (lw_t1 (tq_7_2 _ (List.mem_of_getElem? (i := 10) rfl))) rfl⟩)) jo_190
-- SpoutNewsModel.spout
theorem jk_191 : sq_w 191 (sx_b 191).data.toList 0 = true := by decide +kernel
theorem jo_191 : sx_ok 191 := sq_ok_of 191 (fun pc hp => by
    show jt_191 pc = none
    unfold jt_191
    rw [Nat.ble_eq_true_of_le (show 138 ≤ pc from hp)]
    rfl) (by decide +kernel) jk_191
set_option maxRecDepth 100000 in
theorem jf_191 : sx_mf 191 := sx_mfA (c := 12) rfl rfl sx_cls12 (lw_t1 (tq_7_2 _ (List.mem_of_getElem? (i := 15) rfl))) (by decide +kernel) (Nat.le_of_ble_eq_true rfl) (Or.inr (Or.inl ⟨rfl, sx_tb_mm (lw_t1 (tq_7_2 _ (List.mem_of_getElem? (i := 13) rfl))) rfl, sx_tb_mm (lw_t1 (tq_7_2 _ (List.mem_of_getElem? (i := 14) rfl))) rfl⟩)) jo_191
-- SpoutNewsModel.isIn
theorem jk_192 : sq_w 192 (sx_b 192).data.toList 0 = true := by decide +kernel
theorem jo_192 : sx_ok 192 := sq_ok_of 192 (fun pc hp => by
    show jt_192 pc = none
    unfold jt_192
    rw [Nat.ble_eq_true_of_le (show 16 ≤ pc from hp)]
    rfl) (by decide +kernel) jk_192
set_option maxRecDepth 100000 in
theorem jf_192 : sx_mf 192 := sx_mfA (c := 12) rfl rfl sx_cls12 (lw_t1 (tq_7_3 _ (List.mem_of_getElem? (i := 3) rfl))) (by decide +kernel) (Nat.le_of_ble_eq_true rfl) (Or.inr (Or.inl ⟨rfl, sx_tb_mm (lw_t1 (tq_7_3 _ (List.mem_of_getElem? (i := 2) rfl))) rfl, sx_tb_mm (lw_t0 (⟨"SpoutNewsModel", "isIn", "(III)Z"⟩, 65) (lw_pk3 _ (List.mem_of_getElem? (i := 3) rfl))) rfl⟩)) jo_192
-- SpoutNewsModel.sitter
theorem jk_193 : sq_w 193 (sx_b 193).data.toList 0 = true := by decide +kernel
theorem jo_193 : sx_ok 193 := sq_ok_of 193 (fun pc hp => by
    show jt_193 pc = none
    unfold jt_193
    rw [Nat.ble_eq_true_of_le (show 77 ≤ pc from hp)]
    rfl) (by decide +kernel) jk_193
set_option maxRecDepth 100000 in
theorem jf_193 : sx_mf 193 := sx_mfA (c := 12) rfl rfl sx_cls12 (lw_t1 (tq_7_3 _ (List.mem_of_getElem? (i := 7) rfl))) (by decide +kernel) (Nat.le_of_ble_eq_true rfl) (Or.inr (Or.inl ⟨rfl, sx_tb_mm (lw_t1 (tq_7_3 _ (List.mem_of_getElem? (i := 5) rfl))) rfl, sx_tb_mm (lw_t1 (tq_7_3 _ (List.mem_of_getElem? (i := 6) rfl))) rfl⟩)) jo_193
-- SpoutNewsModel.set
theorem jk_194 : sq_w 194 (sx_b 194).data.toList 0 = true := by decide +kernel
theorem jo_194 : sx_ok 194 := sq_ok_of 194 (fun pc hp => by
    show jt_194 pc = none
    unfold jt_194
    rw [Nat.ble_eq_true_of_le (show 78 ≤ pc from hp)]
    rfl) (by decide +kernel) jk_194
set_option maxRecDepth 100000 in
theorem jf_194 : sx_mf 194 := sx_mfA (c := 12) rfl rfl sx_cls12 (lw_t1 (tq_7_3 _ (List.mem_of_getElem? (i := 12) rfl))) (by decide +kernel) (Nat.le_of_ble_eq_true rfl) (Or.inr (Or.inl ⟨rfl, sx_tb_mm (lw_t1 (tq_7_3 _ (List.mem_of_getElem? (i := 10) rfl))) rfl, sx_tb_mm (lw_t1 (tq_7_3 _ (List.mem_of_getElem? (i := 11) rfl))) rfl⟩)) jo_194
-- SpoutNewsModel.canSet
theorem jk_195 : sq_w 195 (sx_b 195).data.toList 0 = true := by decide +kernel
theorem jo_195 : sx_ok 195 := sq_ok_of 195 (fun pc hp => by
    show jt_195 pc = none
    unfold jt_195
    rw [Nat.ble_eq_true_of_le (show 89 ≤ pc from hp)]
    rfl) (by decide +kernel) jk_195
set_option maxRecDepth 100000 in
theorem jf_195 : sx_mf 195 := sx_mfA (c := 12) rfl rfl sx_cls12 (lw_t1 (tq_7_4 _ (List.mem_of_getElem? (i := 0) rfl))) (by decide +kernel) (Nat.le_of_ble_eq_true rfl) (Or.inr (Or.inl ⟨rfl, sx_tb_mm (lw_t1 (tq_7_3 _ (List.mem_of_getElem? (i := 15) rfl))) rfl, sx_tb_mm (lw_t0 (⟨"SpoutNewsModel", "canSet", "(III)Z"⟩, 65) (lw_pk3 _ (List.mem_of_getElem? (i := 4) rfl))) rfl⟩)) jo_195
-- SpoutNewsModel.isSitter
theorem jk_196 : sq_w 196 (sx_b 196).data.toList 0 = true := by decide +kernel
theorem jo_196 : sx_ok 196 := sq_ok_of 196 (fun pc hp => by
    show jt_196 pc = none
    unfold jt_196
    rw [Nat.ble_eq_true_of_le (show 18 ≤ pc from hp)]
    rfl) (by decide +kernel) jk_196
set_option maxRecDepth 100000 in
theorem jf_196 : sx_mf 196 := sx_mfA (c := 12) rfl rfl sx_cls12 (lw_t1 (tq_7_4 _ (List.mem_of_getElem? (i := 4) rfl))) (by decide +kernel) (Nat.le_of_ble_eq_true rfl) (Or.inr (Or.inl ⟨rfl, sx_tb_mm (lw_t1 (tq_7_4 _ (List.mem_of_getElem? (i := 3) rfl))) rfl, sx_tb_mm (lw_t0 (⟨"SpoutNewsModel", "isSitter", "(I)Z"⟩, 65) (lw_pk3 _ (List.mem_of_getElem? (i := 5) rfl))) rfl⟩)) jo_196
-- SpoutNewsModel.isSpout
theorem jk_197 : sq_w 197 (sx_b 197).data.toList 0 = true := by decide +kernel
theorem jo_197 : sx_ok 197 := sq_ok_of 197 (fun pc hp => by
    show jt_197 pc = none
    unfold jt_197
    rw [Nat.ble_eq_true_of_le (show 18 ≤ pc from hp)]
    rfl) (by decide +kernel) jk_197
set_option maxRecDepth 100000 in
theorem jf_197 : sx_mf 197 := sx_mfA (c := 12) rfl rfl sx_cls12 (lw_t1 (tq_7_4 _ (List.mem_of_getElem? (i := 8) rfl))) (by decide +kernel) (Nat.le_of_ble_eq_true rfl) (Or.inr (Or.inl ⟨rfl, sx_tb_mm (lw_t1 (tq_7_4 _ (List.mem_of_getElem? (i := 7) rfl))) rfl, sx_tb_mm (lw_t0 (⟨"SpoutNewsModel", "isSpout", "(I)Z"⟩, 65) (lw_pk3 _ (List.mem_of_getElem? (i := 6) rfl))) rfl⟩)) jo_197
-- SpoutNewsModel.feed
theorem jk_198 : sq_w 198 (sx_b 198).data.toList 0 = true := by decide +kernel
theorem jo_198 : sx_ok 198 := sq_ok_of 198 (fun pc hp => by
    show jt_198 pc = none
    unfold jt_198
    rw [Nat.ble_eq_true_of_le (show 49 ≤ pc from hp)]
    rfl) (by decide +kernel) jk_198
set_option maxRecDepth 100000 in
theorem jf_198 : sx_mf 198 := sx_mfA (c := 12) rfl rfl sx_cls12 (lw_t1 (tq_7_4 _ (List.mem_of_getElem? (i := 12) rfl))) (by decide +kernel) (Nat.le_of_ble_eq_true rfl) (Or.inr (Or.inl ⟨rfl, sx_tb_mm (lw_t1 (tq_7_4 _ (List.mem_of_getElem? (i := 10) rfl))) rfl, sx_tb_mm (lw_t1 (tq_7_4 _ (List.mem_of_getElem? (i := 11) rfl))) rfl⟩)) jo_198
-- SpoutNewsModel.types
theorem jk_199 : sq_w 199 (sx_b 199).data.toList 0 = true := by decide +kernel
theorem jo_199 : sx_ok 199 := sq_ok_of 199 (fun pc hp => by
    show jt_199 pc = none
    unfold jt_199
    rw [Nat.ble_eq_true_of_le (show 40 ≤ pc from hp)]
    rfl) (by decide +kernel) jk_199
set_option maxRecDepth 100000 in
theorem jf_199 : sx_mf 199 := sx_mfA (c := 12) rfl rfl sx_cls12 (lw_t1 (tq_7_5 _ (List.mem_of_getElem? (i := 0) rfl))) (by decide +kernel) (Nat.le_of_ble_eq_true rfl) (Or.inr (Or.inl ⟨rfl, sx_tb_mm (lw_t1 (tq_7_4 _ (List.mem_of_getElem? (i := 15) rfl))) rfl, sx_tb_mm (lw_t0 (⟨"SpoutNewsModel", "types", "(I)V"⟩, 65) (lw_pk3 _ (List.mem_of_getElem? (i := 7) rfl))) rfl⟩)) jo_199
-- SpoutNewsModel.end
theorem jk_200 : sq_w 200 (sx_b 200).data.toList 0 = true := by decide +kernel
theorem jo_200 : sx_ok 200 := sq_ok_of 200 (fun pc hp => by
    show jt_200 pc = none
    unfold jt_200
    rw [Nat.ble_eq_true_of_le (show 27 ≤ pc from hp)]
    rfl) (by decide +kernel) jk_200
set_option maxRecDepth 100000 in
theorem jf_200 : sx_mf 200 := sx_mfA (c := 12) rfl rfl sx_cls12 (lw_t1 (tq_7_5 _ (List.mem_of_getElem? (i := 4) rfl))) (by decide +kernel) (Nat.le_of_ble_eq_true rfl) (Or.inr (Or.inl ⟨rfl, sx_tb_mm (lw_t1 (tq_7_5 _ (List.mem_of_getElem? (i := 2) rfl))) rfl, sx_tb_mm (lw_t1 (tq_7_5 _ (List.mem_of_getElem? (i := 3) rfl))) rfl⟩)) jo_200
-- SpoutNewsModel.text
theorem jk_201 : sq_w 201 (sx_b 201).data.toList 0 = true := by decide +kernel
theorem jo_201 : sx_ok 201 := sq_ok_of 201 (fun pc hp => by
    show jt_201 pc = none
    unfold jt_201
    rw [Nat.ble_eq_true_of_le (show 101 ≤ pc from hp)]
    rfl) (by decide +kernel) jk_201
set_option maxRecDepth 100000 in
theorem jf_201 : sx_mf 201 := sx_mfA (c := 12) rfl rfl sx_cls12 (lw_t1 (tq_7_5 _ (List.mem_of_getElem? (i := 8) rfl))) (by decide +kernel) (Nat.le_of_ble_eq_true rfl) (Or.inr (Or.inl ⟨rfl, sx_tb_mm (lw_t1 (tq_7_5 _ (List.mem_of_getElem? (i := 6) rfl))) rfl, sx_tb_mm (lw_t1 (tq_7_5 _ (List.mem_of_getElem? (i := 7) rfl))) rfl⟩)) jo_201
-- SpoutNewsModel.readsText
theorem jk_202 : sq_w 202 (sx_b 202).data.toList 0 = true := by decide +kernel
theorem jo_202 : sx_ok 202 := sq_ok_of 202 (fun pc hp => by
    show jt_202 pc = none
    unfold jt_202
    rw [Nat.ble_eq_true_of_le (show 46 ≤ pc from hp)]
    rfl) (by decide +kernel) jk_202
set_option maxRecDepth 100000 in
theorem jf_202 : sx_mf 202 := sx_mfA (c := 12) rfl rfl sx_cls12 (lw_t1 (tq_7_5 _ (List.mem_of_getElem? (i := 12) rfl))) (by decide +kernel) (Nat.le_of_ble_eq_true rfl) (Or.inr (Or.inl ⟨rfl, sx_tb_mm (lw_t1 (tq_7_5 _ (List.mem_of_getElem? (i := 11) rfl))) rfl, sx_tb_mm (lw_t0 (⟨"SpoutNewsModel", "readsText", "(I)I"⟩, 65) (lw_pk3 _ (List.mem_of_getElem? (i := 8) rfl))) rfl⟩)) jo_202
-- SpoutNewsModel.reads
theorem jk_203 : sq_w 203 (sx_b 203).data.toList 0 = true := by decide +kernel
theorem jo_203 : sx_ok 203 := sq_ok_of 203 (fun pc hp => by
    show jt_203 pc = none
    unfold jt_203
    rw [Nat.ble_eq_true_of_le (show 274 ≤ pc from hp)]
    rfl) (by decide +kernel) jk_203
set_option maxRecDepth 100000 in
theorem jf_203 : sx_mf 203 := sx_mfA (c := 12) rfl rfl sx_cls12 (lw_t1 (tq_7_6 _ (List.mem_of_getElem? (i := 0) rfl))) (by decide +kernel) (Nat.le_of_ble_eq_true rfl) (Or.inr (Or.inl ⟨rfl, sx_tb_mm (lw_t1 (tq_7_5 _ (List.mem_of_getElem? (i := 15) rfl))) rfl, sx_tb_mm (lw_t0 (⟨"SpoutNewsModel", "reads", "()V"⟩, 65) (lw_pk3 _ (List.mem_of_getElem? (i := 9) rfl))) rfl⟩)) jo_203
-- SpoutNewsModel.raw
theorem jk_204 : sq_w 204 (sx_b 204).data.toList 0 = true := by decide +kernel
theorem jo_204 : sx_ok 204 := sq_ok_of 204 (fun pc hp => by
    show jt_204 pc = none
    unfold jt_204
    rw [Nat.ble_eq_true_of_le (show 19 ≤ pc from hp)]
    rfl) (by decide +kernel) jk_204
set_option maxRecDepth 100000 in
theorem jf_204 : sx_mf 204 := sx_mfA (c := 12) rfl rfl sx_cls12 (lw_t1 (tq_7_6 _ (List.mem_of_getElem? (i := 4) rfl))) (by decide +kernel) (Nat.le_of_ble_eq_true rfl) (Or.inr (Or.inl ⟨rfl, sx_tb_mm (lw_t1 (tq_7_6 _ (List.mem_of_getElem? (i := 3) rfl))) rfl, sx_tb_mm (lw_t0 (⟨"SpoutNewsModel", "raw", "(I)I"⟩, 65) (lw_pk3 _ (List.mem_of_getElem? (i := 10) rfl))) rfl⟩)) jo_204
-- SpoutNewsModel.isLetter
theorem jk_205 : sq_w 205 (sx_b 205).data.toList 0 = true := by decide +kernel
theorem jo_205 : sx_ok 205 := sq_ok_of 205 (fun pc hp => by
    show jt_205 pc = none
    unfold jt_205
    rw [Nat.ble_eq_true_of_le (show 30 ≤ pc from hp)]
    rfl) (by decide +kernel) jk_205
set_option maxRecDepth 100000 in
theorem jf_205 : sx_mf 205 := sx_mfA (c := 12) rfl rfl sx_cls12 (lw_t1 (tq_7_6 _ (List.mem_of_getElem? (i := 8) rfl))) (by decide +kernel) (Nat.le_of_ble_eq_true rfl) (Or.inr (Or.inl ⟨rfl, sx_tb_mm (lw_t1 (tq_7_6 _ (List.mem_of_getElem? (i := 7) rfl))) rfl, sx_tb_mm (lw_t0 (⟨"SpoutNewsModel", "isLetter", "(I)Z"⟩, 65) (lw_pk3 _ (List.mem_of_getElem? (i := 11) rfl))) rfl⟩)) jo_205
-- SpoutNewsModel.wordAt
theorem jk_206 : sq_w 206 (sx_b 206).data.toList 0 = true := by decide +kernel
theorem jo_206 : sx_ok 206 := sq_ok_of 206 (fun pc hp => by
    show jt_206 pc = none
    unfold jt_206
    rw [Nat.ble_eq_true_of_le (show 120 ≤ pc from hp)]
    rfl) (by decide +kernel) jk_206
set_option maxRecDepth 100000 in
theorem jf_206 : sx_mf 206 := sx_mfA (c := 12) rfl rfl sx_cls12 (lw_t1 (tq_7_6 _ (List.mem_of_getElem? (i := 12) rfl))) (by decide +kernel) (Nat.le_of_ble_eq_true rfl) (Or.inr (Or.inl ⟨rfl, sx_tb_mm (lw_t1 (tq_7_6 _ (List.mem_of_getElem? (i := 11) rfl))) rfl, sx_tb_mm (lw_t0 (⟨"SpoutNewsModel", "wordAt", "(II)I"⟩, 65) (lw_pk3 _ (List.mem_of_getElem? (i := 12) rfl))) rfl⟩)) jo_206
-- SpoutNewsModel.isDigit
theorem jk_207 : sq_w 207 (sx_b 207).data.toList 0 = true := by decide +kernel
theorem jo_207 : sx_ok 207 := sq_ok_of 207 (fun pc hp => by
    show jt_207 pc = none
    unfold jt_207
    rw [Nat.ble_eq_true_of_le (show 10 ≤ pc from hp)]
    rfl) (by decide +kernel) jk_207
set_option maxRecDepth 100000 in
theorem jf_207 : sx_mf 207 := sx_mfA (c := 12) rfl rfl sx_cls12 (lw_t1 (tq_7_7 _ (List.mem_of_getElem? (i := 0) rfl))) (by decide +kernel) (Nat.le_of_ble_eq_true rfl) (Or.inr (Or.inl ⟨rfl, sx_tb_mm (lw_t1 (tq_7_6 _ (List.mem_of_getElem? (i := 15) rfl))) rfl, sx_tb_mm (lw_t0 (⟨"SpoutNewsModel", "isDigit", "(I)Z"⟩, 65) (lw_pk3 _ (List.mem_of_getElem? (i := 13) rfl))) rfl⟩)) jo_207
-- SpoutNewsModel.isMarkSign
theorem jk_208 : sq_w 208 (sx_b 208).data.toList 0 = true := by decide +kernel
theorem jo_208 : sx_ok 208 := sq_ok_of 208 (fun pc hp => by
    show jt_208 pc = none
    unfold jt_208
    rw [Nat.ble_eq_true_of_le (show 66 ≤ pc from hp)]
    rfl) (by decide +kernel) jk_208
set_option maxRecDepth 100000 in
theorem jf_208 : sx_mf 208 := sx_mfA (c := 12) rfl rfl sx_cls12 (lw_t1 (tq_7_7 _ (List.mem_of_getElem? (i := 4) rfl))) (by decide +kernel) (Nat.le_of_ble_eq_true rfl) (Or.inr (Or.inl ⟨rfl, sx_tb_mm (lw_t1 (tq_7_7 _ (List.mem_of_getElem? (i := 3) rfl))) rfl, sx_tb_mm (lw_t0 (⟨"SpoutNewsModel", "isMarkSign", "(I)Z"⟩, 65) (lw_pk3 _ (List.mem_of_getElem? (i := 14) rfl))) rfl⟩)) jo_208
-- SpoutNewsModel.readGutters
theorem jk_209 : sq_w 209 (sx_b 209).data.toList 0 = true := by decide +kernel
theorem jo_209 : sx_ok 209 := sq_ok_of 209 (fun pc hp => by
    show jt_209 pc = none
    unfold jt_209
    rw [Nat.ble_eq_true_of_le (show 81 ≤ pc from hp)]
    rfl) (by decide +kernel) jk_209
set_option maxRecDepth 100000 in
theorem jf_209 : sx_mf 209 := sx_mfA (c := 12) rfl rfl sx_cls12 (lw_t1 (tq_7_7 _ (List.mem_of_getElem? (i := 8) rfl))) (by decide +kernel) (Nat.le_of_ble_eq_true rfl) (Or.inr (Or.inl ⟨rfl, sx_tb_mm (lw_t1 (tq_7_7 _ (List.mem_of_getElem? (i := 7) rfl))) rfl, sx_tb_mm (lw_t0 (⟨"SpoutNewsModel", "readGutters", "()I"⟩, 65) (lw_pk3 _ (List.mem_of_getElem? (i := 15) rfl))) rfl⟩)) jo_209
