-- by program (wip/gen/mk12.py, mkfast.py): the tables of methods hold
-- SpoutNewsModel.isWord
theorem jk_210 : sq_w 210 (sx_b 210).data.toList 0 = true := by decide +kernel
theorem jo_210 : sx_ok 210 := sq_ok_of 210 (fun pc hp => by
    show jt_210 pc = none
    unfold jt_210
    rw [Nat.ble_eq_true_of_le (show 22 ≤ pc from hp)]
    rfl) (by decide +kernel) jk_210
set_option maxRecDepth 100000 in
theorem jf_210 : sx_mf 210 := sx_mfA (c := 12) rfl rfl sx_cls12 (lw_t1 (tq_7_7 _ (List.mem_of_getElem? (i := 12) rfl))) (by decide +kernel) (Nat.le_of_ble_eq_true rfl) (Or.inr (Or.inl ⟨rfl, sx_tb_mm (lw_t1 (tq_7_7 _ (List.mem_of_getElem? (i := 11) rfl))) rfl, sx_tb_mm (lw_t0 (⟨"SpoutNewsModel", "isWord", "(I)Z"⟩, 65) (lw_pk4 _ (List.mem_of_getElem? (i := 0) rfl))) rfl⟩)) jo_210
-- SpoutNewsModel.errs
theorem jk_211 : sq_w 211 (sx_b 211).data.toList 0 = true := by decide +kernel
theorem jo_211 : sx_ok 211 := sq_ok_of 211 (fun pc hp => by
    show jt_211 pc = none
    unfold jt_211
    rw [Nat.ble_eq_true_of_le (show 15 ≤ pc from hp)]
    rfl) (by decide +kernel) jk_211
set_option maxRecDepth 100000 in
theorem jf_211 : sx_mf 211 := sx_mfA (c := 12) rfl rfl sx_cls12 (lw_t1 (tq_7_8 _ (List.mem_of_getElem? (i := 0) rfl))) (by decide +kernel) (Nat.le_of_ble_eq_true rfl) (Or.inr (Or.inl ⟨rfl, sx_tb_mm (lw_t1 (tq_7_7 _ (List.mem_of_getElem? (i := 15) rfl))) rfl, sx_tb_mm (lw_t0 (⟨"SpoutNewsModel", "errs", "(I)I"⟩, 65) (lw_pk4 _ (List.mem_of_getElem? (i := 1) rfl))) rfl⟩)) jo_211
-- SpoutNewsModel.readGutter
theorem jk_212 : sq_w 212 (sx_b 212).data.toList 0 = true := by decide +kernel
theorem jo_212 : sx_ok 212 := sq_ok_of 212 (fun pc hp => by
    show jt_212 pc = none
    unfold jt_212
    rw [Nat.ble_eq_true_of_le (show 100 ≤ pc from hp)]
    rfl) (by decide +kernel) jk_212
set_option maxRecDepth 100000 in
theorem jf_212 : sx_mf 212 := sx_mfA (c := 12) rfl rfl sx_cls12 (lw_t1 (tq_7_8 _ (List.mem_of_getElem? (i := 4) rfl))) (by decide +kernel) (Nat.le_of_ble_eq_true rfl) (Or.inr (Or.inl ⟨rfl, sx_tb_mm (lw_t1 (tq_7_8 _ (List.mem_of_getElem? (i := 3) rfl))) rfl, sx_tb_mm (lw_t0 (⟨"SpoutNewsModel", "readGutter", "()I"⟩, 65) (lw_pk4 _ (List.mem_of_getElem? (i := 2) rfl))) rfl⟩)) jo_212
-- SpoutNewsModel.readTold
theorem jk_213 : sq_w 213 (sx_b 213).data.toList 0 = true := by decide +kernel
theorem jo_213 : sx_ok 213 := sq_ok_of 213 (fun pc hp => by
    show jt_213 pc = none
    unfold jt_213
    rw [Nat.ble_eq_true_of_le (show 25 ≤ pc from hp)]
    rfl) (by decide +kernel) jk_213
set_option maxRecDepth 100000 in
theorem jf_213 : sx_mf 213 := sx_mfA (c := 12) rfl rfl sx_cls12 (lw_t1 (tq_7_8 _ (List.mem_of_getElem? (i := 8) rfl))) (by decide +kernel) (Nat.le_of_ble_eq_true rfl) (Or.inr (Or.inl ⟨rfl, sx_tb_mm (lw_t1 (tq_7_8 _ (List.mem_of_getElem? (i := 7) rfl))) rfl, sx_tb_mm (lw_t0 (⟨"SpoutNewsModel", "readTold", "(III)I"⟩, 65) (lw_pk4 _ (List.mem_of_getElem? (i := 3) rfl))) rfl⟩)) jo_213
-- SpoutNewsModel.readNumber
theorem jk_214 : sq_w 214 (sx_b 214).data.toList 0 = true := by decide +kernel
theorem jo_214 : sx_ok 214 := sq_ok_of 214 (fun pc hp => by
    show jt_214 pc = none
    unfold jt_214
    rw [Nat.ble_eq_true_of_le (show 44 ≤ pc from hp)]
    rfl) (by decide +kernel) jk_214
set_option maxRecDepth 100000 in
theorem jf_214 : sx_mf 214 := sx_mfA (c := 12) rfl rfl sx_cls12 (lw_t1 (tq_7_8 _ (List.mem_of_getElem? (i := 12) rfl))) (by decide +kernel) (Nat.le_of_ble_eq_true rfl) (Or.inr (Or.inl ⟨rfl, sx_tb_mm (lw_t1 (tq_7_8 _ (List.mem_of_getElem? (i := 11) rfl))) rfl, sx_tb_mm (lw_t0 (⟨"SpoutNewsModel", "readNumber", "(II)I"⟩, 65) (lw_pk4 _ (List.mem_of_getElem? (i := 4) rfl))) rfl⟩)) jo_214
-- SpoutNewsModel.readMark
theorem jk_215 : sq_w 215 (sx_b 215).data.toList 0 = true := by decide +kernel
theorem jo_215 : sx_ok 215 := sq_ok_of 215 (fun pc hp => by
    show jt_215 pc = none
    unfold jt_215
    rw [Nat.ble_eq_true_of_le (show 20 ≤ pc from hp)]
    rfl) (by decide +kernel) jk_215
set_option maxRecDepth 100000 in
theorem jf_215 : sx_mf 215 := sx_mfA (c := 12) rfl rfl sx_cls12 (lw_t1 (tq_7_9 _ (List.mem_of_getElem? (i := 0) rfl))) (by decide +kernel) (Nat.le_of_ble_eq_true rfl) (Or.inr (Or.inl ⟨rfl, sx_tb_mm (lw_t1 (tq_7_8 _ (List.mem_of_getElem? (i := 15) rfl))) rfl, sx_tb_mm (lw_t0 (⟨"SpoutNewsModel", "readMark", "(I)I"⟩, 65) (lw_pk4 _ (List.mem_of_getElem? (i := 5) rfl))) rfl⟩)) jo_215
-- SpoutNewsModel.isSign
theorem jk_216 : sq_w 216 (sx_b 216).data.toList 0 = true := by decide +kernel
theorem jo_216 : sx_ok 216 := sq_ok_of 216 (fun pc hp => by
    show jt_216 pc = none
    unfold jt_216
    rw [Nat.ble_eq_true_of_le (show 22 ≤ pc from hp)]
    rfl) (by decide +kernel) jk_216
set_option maxRecDepth 100000 in
theorem jf_216 : sx_mf 216 := sx_mfA (c := 12) rfl rfl sx_cls12 (lw_t1 (tq_7_9 _ (List.mem_of_getElem? (i := 4) rfl))) (by decide +kernel) (Nat.le_of_ble_eq_true rfl) (Or.inr (Or.inl ⟨rfl, sx_tb_mm (lw_t1 (tq_7_9 _ (List.mem_of_getElem? (i := 3) rfl))) rfl, sx_tb_mm (lw_t0 (⟨"SpoutNewsModel", "isSign", "(I)Z"⟩, 65) (lw_pk4 _ (List.mem_of_getElem? (i := 6) rfl))) rfl⟩)) jo_216
-- SpoutNewsModel.readWeather
theorem jk_217 : sq_w 217 (sx_b 217).data.toList 0 = true := by decide +kernel
theorem jo_217 : sx_ok 217 := sq_ok_of 217 (fun pc hp => by
    show jt_217 pc = none
    unfold jt_217
    rw [Nat.ble_eq_true_of_le (show 123 ≤ pc from hp)]
    rfl) (by decide +kernel) jk_217
set_option maxRecDepth 100000 in
theorem jf_217 : sx_mf 217 := sx_mfA (c := 12) rfl rfl sx_cls12 (lw_t1 (tq_7_9 _ (List.mem_of_getElem? (i := 8) rfl))) (by decide +kernel) (Nat.le_of_ble_eq_true rfl) (Or.inr (Or.inl ⟨rfl, sx_tb_mm (lw_t1 (tq_7_9 _ (List.mem_of_getElem? (i := 7) rfl))) rfl, sx_tb_mm (lw_t0 (⟨"SpoutNewsModel", "readWeather", "()I"⟩, 65) (lw_pk4 _ (List.mem_of_getElem? (i := 7) rfl))) rfl⟩)) jo_217
-- SpoutNewsModel.readPlan
theorem jk_218 : sq_w 218 (sx_b 218).data.toList 0 = true := by decide +kernel
theorem jo_218 : sx_ok 218 := sq_ok_of 218 (fun pc hp => by
    show jt_218 pc = none
    unfold jt_218
    rw [Nat.ble_eq_true_of_le (show 63 ≤ pc from hp)]
    rfl) (by decide +kernel) jk_218
set_option maxRecDepth 100000 in
theorem jf_218 : sx_mf 218 := sx_mfA (c := 12) rfl rfl sx_cls12 (lw_t1 (tq_7_9 _ (List.mem_of_getElem? (i := 12) rfl))) (by decide +kernel) (Nat.le_of_ble_eq_true rfl) (Or.inr (Or.inl ⟨rfl, sx_tb_mm (lw_t1 (tq_7_9 _ (List.mem_of_getElem? (i := 11) rfl))) rfl, sx_tb_mm (lw_t0 (⟨"SpoutNewsModel", "readPlan", "()I"⟩, 65) (lw_pk4 _ (List.mem_of_getElem? (i := 8) rfl))) rfl⟩)) jo_218
-- SpoutNewsModel.readDeed
theorem jk_219 : sq_w 219 (sx_b 219).data.toList 0 = true := by decide +kernel
theorem jo_219 : sx_ok 219 := sq_ok_of 219 (fun pc hp => by
    show jt_219 pc = none
    unfold jt_219
    rw [Nat.ble_eq_true_of_le (show 162 ≤ pc from hp)]
    rfl) (by decide +kernel) jk_219
set_option maxRecDepth 100000 in
theorem jf_219 : sx_mf 219 := sx_mfA (c := 12) rfl rfl sx_cls12 (lw_t1 (tq_7_10 _ (List.mem_of_getElem? (i := 0) rfl))) (by decide +kernel) (Nat.le_of_ble_eq_true rfl) (Or.inr (Or.inl ⟨rfl, sx_tb_mm (lw_t1 (tq_7_9 _ (List.mem_of_getElem? (i := 15) rfl))) rfl, sx_tb_mm (lw_t0 (⟨"SpoutNewsModel", "readDeed", "(I)I"⟩, 65) (lw_pk4 _ (List.mem_of_getElem? (i := 9) rfl))) rfl⟩)) jo_219
-- SpoutNewsModel.kindOfDeed
theorem jk_220 : sq_w 220 (sx_b 220).data.toList 0 = true := by decide +kernel
theorem jo_220 : sx_ok 220 := sq_ok_of 220 (fun pc hp => by
    show jt_220 pc = none
    unfold jt_220
    rw [Nat.ble_eq_true_of_le (show 48 ≤ pc from hp)]
    rfl) (by decide +kernel) jk_220
set_option maxRecDepth 100000 in
theorem jf_220 : sx_mf 220 := sx_mfA (c := 12) rfl rfl sx_cls12 (lw_t1 (tq_7_10 _ (List.mem_of_getElem? (i := 4) rfl))) (by decide +kernel) (Nat.le_of_ble_eq_true rfl) (Or.inr (Or.inl ⟨rfl, sx_tb_mm (lw_t1 (tq_7_10 _ (List.mem_of_getElem? (i := 3) rfl))) rfl, sx_tb_mm (lw_t0 (⟨"SpoutNewsModel", "kindOfDeed", "()I"⟩, 65) (lw_pk4 _ (List.mem_of_getElem? (i := 10) rfl))) rfl⟩)) jo_220
-- SpoutNewsModel.mostFor
theorem jk_221 : sq_w 221 (sx_b 221).data.toList 0 = true := by decide +kernel
theorem jo_221 : sx_ok 221 := sq_ok_of 221 (fun pc hp => by
    show jt_221 pc = none
    unfold jt_221
    rw [Nat.ble_eq_true_of_le (show 33 ≤ pc from hp)]
    rfl) (by decide +kernel) jk_221
set_option maxRecDepth 100000 in
theorem jf_221 : sx_mf 221 := sx_mfA (c := 12) rfl rfl sx_cls12 (lw_t1 (tq_7_10 _ (List.mem_of_getElem? (i := 8) rfl))) (by decide +kernel) (Nat.le_of_ble_eq_true rfl) (Or.inr (Or.inl ⟨rfl, sx_tb_mm (lw_t1 (tq_7_10 _ (List.mem_of_getElem? (i := 7) rfl))) rfl, sx_tb_mm (lw_t0 (⟨"SpoutNewsModel", "mostFor", "(I)I"⟩, 65) (lw_pk4 _ (List.mem_of_getElem? (i := 11) rfl))) rfl⟩)) jo_221
-- SpoutNewsModel.readLaw
theorem jk_222 : sq_w 222 (sx_b 222).data.toList 0 = true := by decide +kernel
theorem jo_222 : sx_ok 222 := sq_ok_of 222 (fun pc hp => by
    show jt_222 pc = none
    unfold jt_222
    rw [Nat.ble_eq_true_of_le (show 145 ≤ pc from hp)]
    rfl) (by decide +kernel) jk_222
set_option maxRecDepth 100000 in
theorem jf_222 : sx_mf 222 := sx_mfA (c := 12) rfl rfl sx_cls12 (lw_t1 (tq_7_10 _ (List.mem_of_getElem? (i := 12) rfl))) (by decide +kernel) (Nat.le_of_ble_eq_true rfl) (Or.inr (Or.inl ⟨rfl, sx_tb_mm (lw_t1 (tq_7_10 _ (List.mem_of_getElem? (i := 11) rfl))) rfl, sx_tb_mm (lw_t0 (⟨"SpoutNewsModel", "readLaw", "()I"⟩, 65) (lw_pk4 _ (List.mem_of_getElem? (i := 12) rfl))) rfl⟩)) jo_222
-- SpoutNewsModel.isLineWord
theorem jk_223 : sq_w 223 (sx_b 223).data.toList 0 = true := by decide +kernel
theorem jo_223 : sx_ok 223 := sq_ok_of 223 (fun pc hp => by
    show jt_223 pc = none
    unfold jt_223
    rw [Nat.ble_eq_true_of_le (show 27 ≤ pc from hp)]
    rfl) (by decide +kernel) jk_223
set_option maxRecDepth 100000 in
theorem jf_223 : sx_mf 223 := sx_mfA (c := 12) rfl rfl sx_cls12 (lw_t1 (tq_7_11 _ (List.mem_of_getElem? (i := 0) rfl))) (by decide +kernel) (Nat.le_of_ble_eq_true rfl) (Or.inr (Or.inl ⟨rfl, sx_tb_mm (lw_t1 (tq_7_10 _ (List.mem_of_getElem? (i := 15) rfl))) rfl, sx_tb_mm (lw_t0 (⟨"SpoutNewsModel", "isLineWord", "()Z"⟩, 65) (lw_pk4 _ (List.mem_of_getElem? (i := 13) rfl))) rfl⟩)) jo_223
-- SpoutNewsModel.readSum
theorem jk_224 : sq_w 224 (sx_b 224).data.toList 0 = true := by decide +kernel
theorem jo_224 : sx_ok 224 := sq_ok_of 224 (fun pc hp => by
    show jt_224 pc = none
    unfold jt_224
    rw [Nat.ble_eq_true_of_le (show 68 ≤ pc from hp)]
    rfl) (by decide +kernel) jk_224
set_option maxRecDepth 100000 in
theorem jf_224 : sx_mf 224 := sx_mfA (c := 12) rfl rfl sx_cls12 (lw_t1 (tq_7_11 _ (List.mem_of_getElem? (i := 4) rfl))) (by decide +kernel) (Nat.le_of_ble_eq_true rfl) (Or.inr (Or.inl ⟨rfl, sx_tb_mm (lw_t1 (tq_7_11 _ (List.mem_of_getElem? (i := 3) rfl))) rfl, sx_tb_mm (lw_t0 (⟨"SpoutNewsModel", "readSum", "()I"⟩, 65) (lw_pk4 _ (List.mem_of_getElem? (i := 14) rfl))) rfl⟩)) jo_224
-- SpoutNewsModel.readProduct
theorem jk_225 : sq_w 225 (sx_b 225).data.toList 0 = true := by decide +kernel
theorem jo_225 : sx_ok 225 := sq_ok_of 225 (fun pc hp => by
    show jt_225 pc = none
    unfold jt_225
    rw [Nat.ble_eq_true_of_le (show 103 ≤ pc from hp)]
    rfl) (by decide +kernel) jk_225
set_option maxRecDepth 100000 in
theorem jf_225 : sx_mf 225 := sx_mfA (c := 12) rfl rfl sx_cls12 (lw_t1 (tq_7_11 _ (List.mem_of_getElem? (i := 8) rfl))) (by decide +kernel) (Nat.le_of_ble_eq_true rfl) (Or.inr (Or.inl ⟨rfl, sx_tb_mm (lw_t1 (tq_7_11 _ (List.mem_of_getElem? (i := 7) rfl))) rfl, sx_tb_mm (lw_t0 (⟨"SpoutNewsModel", "readProduct", "()I"⟩, 65) (lw_pk4 _ (List.mem_of_getElem? (i := 15) rfl))) rfl⟩)) jo_225
-- SpoutNewsModel.readUnit
theorem jk_226 : sq_w 226 (sx_b 226).data.toList 0 = true := by decide +kernel
theorem jo_226 : sx_ok 226 := sq_ok_of 226 (fun pc hp => by
    show jt_226 pc = none
    unfold jt_226
    rw [Nat.ble_eq_true_of_le (show 80 ≤ pc from hp)]
    rfl) (by decide +kernel) jk_226
set_option maxRecDepth 100000 in
theorem jf_226 : sx_mf 226 := sx_mfA (c := 12) rfl rfl sx_cls12 (lw_t1 (tq_7_11 _ (List.mem_of_getElem? (i := 12) rfl))) (by decide +kernel) (Nat.le_of_ble_eq_true rfl) (Or.inr (Or.inl ⟨rfl, sx_tb_mm (lw_t1 (tq_7_11 _ (List.mem_of_getElem? (i := 11) rfl))) rfl, sx_tb_mm (lw_t0 (⟨"SpoutNewsModel", "readUnit", "()I"⟩, 65) (lw_pk5 _ (List.mem_of_getElem? (i := 0) rfl))) rfl⟩)) jo_226
-- SpoutNewsModel.canAsk
theorem jk_227 : sq_w 227 (sx_b 227).data.toList 0 = true := by decide +kernel
theorem jo_227 : sx_ok 227 := sq_ok_of 227 (fun pc hp => by
    show jt_227 pc = none
    unfold jt_227
    rw [Nat.ble_eq_true_of_le (show 10 ≤ pc from hp)]
    rfl) (by decide +kernel) jk_227
set_option maxRecDepth 100000 in
theorem jf_227 : sx_mf 227 := sx_mfA (c := 12) rfl rfl sx_cls12 (lw_t1 (tq_7_12 _ (List.mem_of_getElem? (i := 0) rfl))) (by decide +kernel) (Nat.le_of_ble_eq_true rfl) (Or.inr (Or.inl ⟨rfl, sx_tb_mm (lw_t1 (tq_7_11 _ (List.mem_of_getElem? (i := 15) rfl))) rfl, sx_tb_mm (lw_t0 (⟨"SpoutNewsModel", "canAsk", "(I)Z"⟩, 65) (lw_pk5 _ (List.mem_of_getElem? (i := 1) rfl))) rfl⟩)) jo_227
-- SpoutNewsModel.emits
theorem jk_228 : sq_w 228 (sx_b 228).data.toList 0 = true := by decide +kernel
theorem jo_228 : sx_ok 228 := sq_ok_of 228 (fun pc hp => by
    show jt_228 pc = none
    unfold jt_228
    rw [Nat.ble_eq_true_of_le (show 39 ≤ pc from hp)]
    rfl) (by decide +kernel) jk_228
set_option maxRecDepth 100000 in
theorem jf_228 : sx_mf 228 := sx_mfA (c := 12) rfl rfl sx_cls12 (lw_t1 (tq_7_12 _ (List.mem_of_getElem? (i := 4) rfl))) (by decide +kernel) (Nat.le_of_ble_eq_true rfl) (Or.inr (Or.inl ⟨rfl, sx_tb_mm (lw_t1 (tq_7_12 _ (List.mem_of_getElem? (i := 3) rfl))) rfl, sx_tb_mm (lw_t0 (⟨"SpoutNewsModel", "emits", "(II)V"⟩, 65) (lw_pk5 _ (List.mem_of_getElem? (i := 2) rfl))) rfl⟩)) jo_228
-- SpoutNewsModel.readAny
theorem jk_229 : sq_w 229 (sx_b 229).data.toList 0 = true := by decide +kernel
theorem jo_229 : sx_ok 229 := sq_ok_of 229 (fun pc hp => by
    show jt_229 pc = none
    unfold jt_229
    rw [Nat.ble_eq_true_of_le (show 243 ≤ pc from hp)]
    rfl) (by decide +kernel) jk_229
set_option maxRecDepth 100000 in
theorem jf_229 : sx_mf 229 := sx_mfA (c := 12) rfl rfl sx_cls12 (lw_t1 (tq_7_12 _ (List.mem_of_getElem? (i := 8) rfl))) (by decide +kernel) (Nat.le_of_ble_eq_true rfl) (Or.inr (Or.inl ⟨rfl, sx_tb_mm (lw_t1 (tq_7_12 _ (List.mem_of_getElem? (i := 7) rfl))) rfl, sx_tb_mm (lw_t0 (⟨"SpoutNewsModel", "readAny", "()I"⟩, 65) (lw_pk5 _ (List.mem_of_getElem? (i := 3) rfl))) rfl⟩)) jo_229
-- SpoutNewsModel.waits
theorem jk_230 : sq_w 230 (sx_b 230).data.toList 0 = true := by decide +kernel
theorem jo_230 : sx_ok 230 := sq_ok_of 230 (fun pc hp => by
    show jt_230 pc = none
    unfold jt_230
    rw [Nat.ble_eq_true_of_le (show 21 ≤ pc from hp)]
    rfl) (by decide +kernel) jk_230
set_option maxRecDepth 100000 in
theorem jf_230 : sx_mf 230 := sx_mfA (c := 12) rfl rfl sx_cls12 (lw_t1 (tq_7_12 _ (List.mem_of_getElem? (i := 12) rfl))) (by decide +kernel) (Nat.le_of_ble_eq_true rfl) (Or.inr (Or.inl ⟨rfl, sx_tb_mm (lw_t1 (tq_7_12 _ (List.mem_of_getElem? (i := 11) rfl))) rfl, sx_tb_mm (lw_t0 (⟨"SpoutNewsModel", "waits", "(I)V"⟩, 65) (lw_pk5 _ (List.mem_of_getElem? (i := 4) rfl))) rfl⟩)) jo_230
-- SpoutNewsModel.readCompared
theorem jk_231 : sq_w 231 (sx_b 231).data.toList 0 = true := by decide +kernel
theorem jo_231 : sx_ok 231 := sq_ok_of 231 (fun pc hp => by
    show jt_231 pc = none
    unfold jt_231
    rw [Nat.ble_eq_true_of_le (show 96 ≤ pc from hp)]
    rfl) (by decide +kernel) jk_231
set_option maxRecDepth 100000 in
theorem jf_231 : sx_mf 231 := sx_mfA (c := 12) rfl rfl sx_cls12 (lw_t1 (tq_7_13 _ (List.mem_of_getElem? (i := 0) rfl))) (by decide +kernel) (Nat.le_of_ble_eq_true rfl) (Or.inr (Or.inl ⟨rfl, sx_tb_mm (lw_t1 (tq_7_12 _ (List.mem_of_getElem? (i := 15) rfl))) rfl, sx_tb_mm (lw_t0 (⟨"SpoutNewsModel", "readCompared", "()I"⟩, 65) (lw_pk5 _ (List.mem_of_getElem? (i := 5) rfl))) rfl⟩)) jo_231
-- SpoutNewsModel.settles
theorem jk_232 : sq_w 232 (sx_b 232).data.toList 0 = true := by decide +kernel
theorem jo_232 : sx_ok 232 := sq_ok_of 232 (fun pc hp => by
    show jt_232 pc = none
    unfold jt_232
    rw [Nat.ble_eq_true_of_le (show 58 ≤ pc from hp)]
    rfl) (by decide +kernel) jk_232
set_option maxRecDepth 100000 in
theorem jf_232 : sx_mf 232 := sx_mfA (c := 12) rfl rfl sx_cls12 (lw_t1 (tq_7_13 _ (List.mem_of_getElem? (i := 4) rfl))) (by decide +kernel) (Nat.le_of_ble_eq_true rfl) (Or.inr (Or.inl ⟨rfl, sx_tb_mm (lw_t1 (tq_7_13 _ (List.mem_of_getElem? (i := 3) rfl))) rfl, sx_tb_mm (lw_t0 (⟨"SpoutNewsModel", "settles", "(I)V"⟩, 65) (lw_pk5 _ (List.mem_of_getElem? (i := 6) rfl))) rfl⟩)) jo_232
-- SpoutNewsModel.takesLaw
theorem jk_233 : sq_w 233 (sx_b 233).data.toList 0 = true := by decide +kernel
theorem jo_233 : sx_ok 233 := sq_ok_of 233 (fun pc hp => by
    show jt_233 pc = none
    unfold jt_233
    rw [Nat.ble_eq_true_of_le (show 182 ≤ pc from hp)]
    rfl) (by decide +kernel) jk_233
set_option maxRecDepth 100000 in
theorem jf_233 : sx_mf 233 := sx_mfA (c := 12) rfl rfl sx_cls12 (lw_t1 (tq_7_13 _ (List.mem_of_getElem? (i := 8) rfl))) (by decide +kernel) (Nat.le_of_ble_eq_true rfl) (Or.inr (Or.inl ⟨rfl, sx_tb_mm (lw_t1 (tq_7_13 _ (List.mem_of_getElem? (i := 7) rfl))) rfl, sx_tb_mm (lw_t0 (⟨"SpoutNewsModel", "takesLaw", "(I)V"⟩, 65) (lw_pk5 _ (List.mem_of_getElem? (i := 7) rfl))) rfl⟩)) jo_233
-- SpoutNewsModel.takesOther
theorem jk_234 : sq_w 234 (sx_b 234).data.toList 0 = true := by decide +kernel
theorem jo_234 : sx_ok 234 := sq_ok_of 234 (fun pc hp => by
    show jt_234 pc = none
    unfold jt_234
    rw [Nat.ble_eq_true_of_le (show 124 ≤ pc from hp)]
    rfl) (by decide +kernel) jk_234
set_option maxRecDepth 100000 in
theorem jf_234 : sx_mf 234 := sx_mfA (c := 12) rfl rfl sx_cls12 (lw_t1 (tq_7_13 _ (List.mem_of_getElem? (i := 12) rfl))) (by decide +kernel) (Nat.le_of_ble_eq_true rfl) (Or.inr (Or.inl ⟨rfl, sx_tb_mm (lw_t1 (tq_7_13 _ (List.mem_of_getElem? (i := 11) rfl))) rfl, sx_tb_mm (lw_t0 (⟨"SpoutNewsModel", "takesOther", "(II)V"⟩, 65) (lw_pk5 _ (List.mem_of_getElem? (i := 8) rfl))) rfl⟩)) jo_234
-- SpoutNewsModel.fault
theorem jk_235 : sq_w 235 (sx_b 235).data.toList 0 = true := by decide +kernel
theorem jo_235 : sx_ok 235 := sq_ok_of 235 (fun pc hp => by
    show jt_235 pc = none
    unfold jt_235
    rw [Nat.ble_eq_true_of_le (show 30 ≤ pc from hp)]
    rfl) (by decide +kernel) jk_235
set_option maxRecDepth 100000 in
theorem jf_235 : sx_mf 235 := sx_mfA (c := 12) rfl rfl sx_cls12 (lw_t1 (tq_7_14 _ (List.mem_of_getElem? (i := 0) rfl))) (by decide +kernel) (Nat.le_of_ble_eq_true rfl) (Or.inr (Or.inl ⟨rfl, sx_tb_mm (lw_t1 (tq_7_13 _ (List.mem_of_getElem? (i := 14) rfl))) rfl, sx_tb_mm (lw_t1 (tq_7_13 _ (List.mem_of_getElem? (i := 15) rfl))) rfl⟩)) jo_235
-- SpoutNewsModel.act
theorem jk_236 : sq_w 236 (sx_b 236).data.toList 0 = true := by decide +kernel
theorem jo_236 : sx_ok 236 := sq_ok_of 236 (fun pc hp => by
    show jt_236 pc = none
    unfold jt_236
    rw [Nat.ble_eq_true_of_le (show 30 ≤ pc from hp)]
    rfl) (by decide +kernel) jk_236
set_option maxRecDepth 100000 in
theorem jf_236 : sx_mf 236 := sx_mfA (c := 12) rfl rfl sx_cls12 (lw_t1 (tq_7_14 _ (List.mem_of_getElem? (i := 4) rfl))) (by decide +kernel) (Nat.le_of_ble_eq_true rfl) (Or.inr (Or.inl ⟨rfl, sx_tb_mm (lw_t1 (tq_7_14 _ (List.mem_of_getElem? (i := 2) rfl))) rfl, sx_tb_mm (lw_t1 (tq_7_14 _ (List.mem_of_getElem? (i := 3) rfl))) rfl⟩)) jo_236
-- SpoutNewsModel.canAct
theorem jk_237 : sq_w 237 (sx_b 237).data.toList 0 = true := by decide +kernel
theorem jo_237 : sx_ok 237 := sq_ok_of 237 (fun pc hp => by
    show jt_237 pc = none
    unfold jt_237
    rw [Nat.ble_eq_true_of_le (show 137 ≤ pc from hp)]
    rfl) (by decide +kernel) jk_237
set_option maxRecDepth 100000 in
theorem jf_237 : sx_mf 237 := sx_mfA (c := 12) rfl rfl sx_cls12 (lw_t1 (tq_7_14 _ (List.mem_of_getElem? (i := 8) rfl))) (by decide +kernel) (Nat.le_of_ble_eq_true rfl) (Or.inr (Or.inl ⟨rfl, sx_tb_mm (lw_t1 (tq_7_14 _ (List.mem_of_getElem? (i := 7) rfl))) rfl, sx_tb_mm (lw_t0 (⟨"SpoutNewsModel", "canAct", "(III)Z"⟩, 65) (lw_pk5 _ (List.mem_of_getElem? (i := 9) rfl))) rfl⟩)) jo_237
-- SpoutNewsModel.keepsAhead
theorem jk_238 : sq_w 238 (sx_b 238).data.toList 0 = true := by decide +kernel
theorem jo_238 : sx_ok 238 := sq_ok_of 238 (fun pc hp => by
    show jt_238 pc = none
    unfold jt_238
    rw [Nat.ble_eq_true_of_le (show 102 ≤ pc from hp)]
    rfl) (by decide +kernel) jk_238
set_option maxRecDepth 100000 in
theorem jf_238 : sx_mf 238 := sx_mfA (c := 12) rfl rfl sx_cls12 (lw_t1 (tq_7_14 _ (List.mem_of_getElem? (i := 12) rfl))) (by decide +kernel) (Nat.le_of_ble_eq_true rfl) (Or.inr (Or.inl ⟨rfl, sx_tb_mm (lw_t1 (tq_7_14 _ (List.mem_of_getElem? (i := 11) rfl))) rfl, sx_tb_mm (lw_t0 (⟨"SpoutNewsModel", "keepsAhead", "()V"⟩, 65) (lw_pk5 _ (List.mem_of_getElem? (i := 10) rfl))) rfl⟩)) jo_238
-- SpoutNewsModel.acts
theorem jk_239 : sq_w 239 (sx_b 239).data.toList 0 = true := by decide +kernel
theorem jo_239 : sx_ok 239 := sq_ok_of 239 (fun pc hp => by
    show jt_239 pc = none
    unfold jt_239
    rw [Nat.ble_eq_true_of_le (show 132 ≤ pc from hp)]
    rfl) (by decide +kernel) jk_239
set_option maxRecDepth 100000 in
theorem jf_239 : sx_mf 239 := sx_mfA (c := 12) rfl rfl sx_cls12 (lw_t1 (tq_8_0 _ (List.mem_of_getElem? (i := 0) rfl))) (by decide +kernel) (Nat.le_of_ble_eq_true rfl) (Or.inr (Or.inl ⟨rfl, sx_tb_mm (lw_t1 (tq_7_14 _ (List.mem_of_getElem? (i := 15) rfl))) rfl, sx_tb_mm (lw_t0 (⟨"SpoutNewsModel", "acts", "(III)V"⟩, 65) (lw_pk5 _ (List.mem_of_getElem? (i := 11) rfl))) rfl⟩)) jo_239
-- SpoutNewsModel.days
theorem jk_240 : sq_w 240 (sx_b 240).data.toList 0 = true := by decide +kernel
theorem jo_240 : sx_ok 240 := sq_ok_of 240 (fun pc hp => by
    show jt_240 pc = none
    unfold jt_240
    rw [Nat.ble_eq_true_of_le (show 60 ≤ pc from hp)]
    rfl) (by decide +kernel) jk_240
set_option maxRecDepth 100000 in
theorem jf_240 : sx_mf 240 := sx_mfA (c := 12) rfl rfl sx_cls12 (lw_t1 (tq_8_0 _ (List.mem_of_getElem? (i := 4) rfl))) (by decide +kernel) (Nat.le_of_ble_eq_true rfl) (Or.inr (Or.inl ⟨rfl, sx_tb_mm (lw_t1 (tq_8_0 _ (List.mem_of_getElem? (i := 2) rfl))) rfl, sx_tb_mm (lw_t1 (tq_8_0 _ (List.mem_of_getElem? (i := 3) rfl))) rfl⟩)) jo_240
-- SpoutNewsModel.goesBy
theorem jk_241 : sq_w 241 (sx_b 241).data.toList 0 = true := by decide +kernel
theorem jo_241 : sx_ok 241 := sq_ok_of 241 (fun pc hp => by
    show jt_241 pc = none
    unfold jt_241
    rw [Nat.ble_eq_true_of_le (show 153 ≤ pc from hp)]
    rfl) (by decide +kernel) jk_241
set_option maxRecDepth 100000 in
theorem jf_241 : sx_mf 241 := sx_mfA (c := 12) rfl rfl sx_cls12 (lw_t1 (tq_8_0 _ (List.mem_of_getElem? (i := 8) rfl))) (by decide +kernel) (Nat.le_of_ble_eq_true rfl) (Or.inr (Or.inl ⟨rfl, sx_tb_mm (lw_t1 (tq_8_0 _ (List.mem_of_getElem? (i := 7) rfl))) rfl, sx_tb_mm (lw_t0 (⟨"SpoutNewsModel", "goesBy", "()I"⟩, 65) (lw_pk5 _ (List.mem_of_getElem? (i := 12) rfl))) rfl⟩)) jo_241
-- SpoutNewsModel.weatherOf
theorem jk_242 : sq_w 242 (sx_b 242).data.toList 0 = true := by decide +kernel
theorem jo_242 : sx_ok 242 := sq_ok_of 242 (fun pc hp => by
    show jt_242 pc = none
    unfold jt_242
    rw [Nat.ble_eq_true_of_le (show 41 ≤ pc from hp)]
    rfl) (by decide +kernel) jk_242
set_option maxRecDepth 100000 in
theorem jf_242 : sx_mf 242 := sx_mfA (c := 12) rfl rfl sx_cls12 (lw_t1 (tq_8_0 _ (List.mem_of_getElem? (i := 12) rfl))) (by decide +kernel) (Nat.le_of_ble_eq_true rfl) (Or.inr (Or.inl ⟨rfl, sx_tb_mm (lw_t1 (tq_8_0 _ (List.mem_of_getElem? (i := 11) rfl))) rfl, sx_tb_mm (lw_t0 (⟨"SpoutNewsModel", "weatherOf", "(I)I"⟩, 65) (lw_pk5 _ (List.mem_of_getElem? (i := 13) rfl))) rfl⟩)) jo_242
