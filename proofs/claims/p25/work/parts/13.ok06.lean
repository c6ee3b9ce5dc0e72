-- by program (wip/gen/mk12.py, mkfast.py): the tables of methods hold
-- SpoutNewsModel.rains
theorem jk_243 : sq_w 243 (sx_b 243).data.toList 0 = true := by decide +kernel
theorem jo_243 : sx_ok 243 := sq_ok_of 243 (fun pc hp => by
    show jt_243 pc = none
    unfold jt_243
    rw [Nat.ble_eq_true_of_le (show 184 ≤ pc from hp)]
    rfl) (by decide +kernel) jk_243
set_option maxRecDepth 100000 in
theorem jf_243 : sx_mf 243 := sx_mfA (c := 12) rfl rfl sx_cls12 (lw_t1 (tq_8_1 _ (List.mem_of_getElem? (i := 0) rfl))) (by decide +kernel) (Nat.le_of_ble_eq_true rfl) (Or.inr (Or.inl ⟨rfl, sx_tb_mm (lw_t1 (tq_8_0 _ (List.mem_of_getElem? (i := 15) rfl))) rfl, sx_tb_mm (lw_t0 (⟨"SpoutNewsModel", "rains", "()I"⟩, 65) (lw_pk5 _ (List.mem_of_getElem? (i := 14) rfl))) rfl⟩)) jo_243
-- SpoutNewsModel.canSay
theorem jk_244 : sq_w 244 (sx_b 244).data.toList 0 = true := by decide +kernel
theorem jo_244 : sx_ok 244 := sq_ok_of 244 (fun pc hp => by
    show jt_244 pc = none
    unfold jt_244
    rw [Nat.ble_eq_true_of_le (show 41 ≤ pc from hp)]
    rfl) (by decide +kernel) jk_244
set_option maxRecDepth 100000 in
theorem jf_244 : sx_mf 244 := sx_mfA (c := 12) rfl rfl sx_cls12 (lw_t1 (tq_8_1 _ (List.mem_of_getElem? (i := 4) rfl))) (by decide +kernel) (Nat.le_of_ble_eq_true rfl) (Or.inr (Or.inl ⟨rfl, sx_tb_mm (lw_t1 (tq_8_1 _ (List.mem_of_getElem? (i := 3) rfl))) rfl, sx_tb_mm (lw_t0 (⟨"SpoutNewsModel", "canSay", "(I)Z"⟩, 65) (lw_pk5 _ (List.mem_of_getElem? (i := 15) rfl))) rfl⟩)) jo_244
-- SpoutNewsModel.jetOf
theorem jk_245 : sq_w 245 (sx_b 245).data.toList 0 = true := by decide +kernel
theorem jo_245 : sx_ok 245 := sq_ok_of 245 (fun pc hp => by
    show jt_245 pc = none
    unfold jt_245
    rw [Nat.ble_eq_true_of_le (show 20 ≤ pc from hp)]
    rfl) (by decide +kernel) jk_245
set_option maxRecDepth 100000 in
theorem jf_245 : sx_mf 245 := sx_mfA (c := 12) rfl rfl sx_cls12 (lw_t1 (tq_8_1 _ (List.mem_of_getElem? (i := 8) rfl))) (by decide +kernel) (Nat.le_of_ble_eq_true rfl) (Or.inr (Or.inl ⟨rfl, sx_tb_mm (lw_t1 (tq_8_1 _ (List.mem_of_getElem? (i := 7) rfl))) rfl, sx_tb_mm (lw_t0 (⟨"SpoutNewsModel", "jetOf", "(I)I"⟩, 65) (lw_pk6 _ (List.mem_of_getElem? (i := 0) rfl))) rfl⟩)) jo_245
-- SpoutNewsModel.asks
theorem jk_246 : sq_w 246 (sx_b 246).data.toList 0 = true := by decide +kernel
theorem jo_246 : sx_ok 246 := sq_ok_of 246 (fun pc hp => by
    show jt_246 pc = none
    unfold jt_246
    rw [Nat.ble_eq_true_of_le (show 116 ≤ pc from hp)]
    rfl) (by decide +kernel) jk_246
set_option maxRecDepth 100000 in
theorem jf_246 : sx_mf 246 := sx_mfA (c := 12) rfl rfl sx_cls12 (lw_t1 (tq_8_1 _ (List.mem_of_getElem? (i := 12) rfl))) (by decide +kernel) (Nat.le_of_ble_eq_true rfl) (Or.inr (Or.inl ⟨rfl, sx_tb_mm (lw_t1 (tq_8_1 _ (List.mem_of_getElem? (i := 11) rfl))) rfl, sx_tb_mm (lw_t0 (⟨"SpoutNewsModel", "asks", "(II)V"⟩, 65) (lw_pk6 _ (List.mem_of_getElem? (i := 1) rfl))) rfl⟩)) jo_246
-- SpoutNewsModel.lawTells
theorem jk_247 : sq_w 247 (sx_b 247).data.toList 0 = true := by decide +kernel
theorem jo_247 : sx_ok 247 := sq_ok_of 247 (fun pc hp => by
    show jt_247 pc = none
    unfold jt_247
    rw [Nat.ble_eq_true_of_le (show 43 ≤ pc from hp)]
    rfl) (by decide +kernel) jk_247
set_option maxRecDepth 100000 in
theorem jf_247 : sx_mf 247 := sx_mfA (c := 12) rfl rfl sx_cls12 (lw_t1 (tq_8_2 _ (List.mem_of_getElem? (i := 0) rfl))) (by decide +kernel) (Nat.le_of_ble_eq_true rfl) (Or.inr (Or.inl ⟨rfl, sx_tb_mm (lw_t1 (tq_8_1 _ (List.mem_of_getElem? (i := 15) rfl))) rfl, sx_tb_mm (lw_t0 (⟨"SpoutNewsModel", "lawTells", "(III)I"⟩, 65) (lw_pk6 _ (List.mem_of_getElem? (i := 2) rfl))) rfl⟩)) jo_247
-- SpoutNewsModel.lineOf
theorem jk_248 : sq_w 248 (sx_b 248).data.toList 0 = true := by decide +kernel
theorem jo_248 : sx_ok 248 := sq_ok_of 248 (fun pc hp => by
    show jt_248 pc = none
    unfold jt_248
    rw [Nat.ble_eq_true_of_le (show 67 ≤ pc from hp)]
    rfl) (by decide +kernel) jk_248
set_option maxRecDepth 100000 in
theorem jf_248 : sx_mf 248 := sx_mfA (c := 12) rfl rfl sx_cls12 (lw_t1 (tq_8_2 _ (List.mem_of_getElem? (i := 4) rfl))) (by decide +kernel) (Nat.le_of_ble_eq_true rfl) (Or.inr (Or.inl ⟨rfl, sx_tb_mm (lw_t1 (tq_8_2 _ (List.mem_of_getElem? (i := 3) rfl))) rfl, sx_tb_mm (lw_t0 (⟨"SpoutNewsModel", "lineOf", "(I)I"⟩, 65) (lw_pk6 _ (List.mem_of_getElem? (i := 3) rfl))) rfl⟩)) jo_248
-- SpoutNewsModel.runs
theorem jk_249 : sq_w 249 (sx_b 249).data.toList 0 = true := by decide +kernel
theorem jo_249 : sx_ok 249 := sq_ok_of 249 (fun pc hp => by
    show jt_249 pc = none
    unfold jt_249
    rw [Nat.ble_eq_true_of_le (show 183 ≤ pc from hp)]
    rfl) (by decide +kernel) jk_249
set_option maxRecDepth 100000 in
theorem jf_249 : sx_mf 249 := sx_mfA (c := 12) rfl rfl sx_cls12 (lw_t1 (tq_8_2 _ (List.mem_of_getElem? (i := 8) rfl))) (by decide +kernel) (Nat.le_of_ble_eq_true rfl) (Or.inr (Or.inl ⟨rfl, sx_tb_mm (lw_t1 (tq_8_2 _ (List.mem_of_getElem? (i := 7) rfl))) rfl, sx_tb_mm (lw_t0 (⟨"SpoutNewsModel", "runs", "(III)I"⟩, 65) (lw_pk6 _ (List.mem_of_getElem? (i := 4) rfl))) rfl⟩)) jo_249
-- SpoutNewsModel.twoOf
theorem jk_250 : sq_w 250 (sx_b 250).data.toList 0 = true := by decide +kernel
theorem jo_250 : sx_ok 250 := sq_ok_of 250 (fun pc hp => by
    show jt_250 pc = none
    unfold jt_250
    rw [Nat.ble_eq_true_of_le (show 111 ≤ pc from hp)]
    rfl) (by decide +kernel) jk_250
set_option maxRecDepth 100000 in
theorem jf_250 : sx_mf 250 := sx_mfA (c := 12) rfl rfl sx_cls12 (lw_t1 (tq_8_2 _ (List.mem_of_getElem? (i := 12) rfl))) (by decide +kernel) (Nat.le_of_ble_eq_true rfl) (Or.inr (Or.inl ⟨rfl, sx_tb_mm (lw_t1 (tq_8_2 _ (List.mem_of_getElem? (i := 11) rfl))) rfl, sx_tb_mm (lw_t0 (⟨"SpoutNewsModel", "twoOf", "(III)I"⟩, 65) (lw_pk6 _ (List.mem_of_getElem? (i := 5) rfl))) rfl⟩)) jo_250
-- SpoutNewsModel.held
theorem jk_251 : sq_w 251 (sx_b 251).data.toList 0 = true := by decide +kernel
theorem jo_251 : sx_ok 251 := sq_ok_of 251 (fun pc hp => by
    show jt_251 pc = none
    unfold jt_251
    rw [Nat.ble_eq_true_of_le (show 20 ≤ pc from hp)]
    rfl) (by decide +kernel) jk_251
set_option maxRecDepth 100000 in
theorem jf_251 : sx_mf 251 := sx_mfA (c := 12) rfl rfl sx_cls12 (lw_t1 (tq_8_3 _ (List.mem_of_getElem? (i := 0) rfl))) (by decide +kernel) (Nat.le_of_ble_eq_true rfl) (Or.inr (Or.inl ⟨rfl, sx_tb_mm (lw_t1 (tq_8_2 _ (List.mem_of_getElem? (i := 15) rfl))) rfl, sx_tb_mm (lw_t0 (⟨"SpoutNewsModel", "held", "(III)I"⟩, 65) (lw_pk6 _ (List.mem_of_getElem? (i := 6) rfl))) rfl⟩)) jo_251
-- SpoutNewsModel.lesser
theorem jk_252 : sq_w 252 (sx_b 252).data.toList 0 = true := by decide +kernel
theorem jo_252 : sx_ok 252 := sq_ok_of 252 (fun pc hp => by
    show jt_252 pc = none
    unfold jt_252
    rw [Nat.ble_eq_true_of_le (show 11 ≤ pc from hp)]
    rfl) (by decide +kernel) jk_252
set_option maxRecDepth 100000 in
theorem jf_252 : sx_mf 252 := sx_mfA (c := 12) rfl rfl sx_cls12 (lw_t1 (tq_8_3 _ (List.mem_of_getElem? (i := 4) rfl))) (by decide +kernel) (Nat.le_of_ble_eq_true rfl) (Or.inr (Or.inl ⟨rfl, sx_tb_mm (lw_t1 (tq_8_3 _ (List.mem_of_getElem? (i := 3) rfl))) rfl, sx_tb_mm (lw_t0 (⟨"SpoutNewsModel", "lesser", "(II)I"⟩, 65) (lw_pk6 _ (List.mem_of_getElem? (i := 7) rfl))) rfl⟩)) jo_252
-- SpoutNewsModel.saysFirst
theorem jk_253 : sq_w 253 (sx_b 253).data.toList 0 = true := by decide +kernel
theorem jo_253 : sx_ok 253 := sq_ok_of 253 (fun pc hp => by
    show jt_253 pc = none
    unfold jt_253
    rw [Nat.ble_eq_true_of_le (show 205 ≤ pc from hp)]
    rfl) (by decide +kernel) jk_253
set_option maxRecDepth 100000 in
theorem jf_253 : sx_mf 253 := sx_mfA (c := 12) rfl rfl sx_cls12 (lw_t1 (tq_8_3 _ (List.mem_of_getElem? (i := 8) rfl))) (by decide +kernel) (Nat.le_of_ble_eq_true rfl) (Or.inr (Or.inl ⟨rfl, sx_tb_mm (lw_t1 (tq_8_3 _ (List.mem_of_getElem? (i := 7) rfl))) rfl, sx_tb_mm (lw_t0 (⟨"SpoutNewsModel", "saysFirst", "(I)V"⟩, 65) (lw_pk6 _ (List.mem_of_getElem? (i := 8) rfl))) rfl⟩)) jo_253
-- SpoutNewsModel.heardAt
theorem jk_254 : sq_w 254 (sx_b 254).data.toList 0 = true := by decide +kernel
theorem jo_254 : sx_ok 254 := sq_ok_of 254 (fun pc hp => by
    show jt_254 pc = none
    unfold jt_254
    rw [Nat.ble_eq_true_of_le (show 15 ≤ pc from hp)]
    rfl) (by decide +kernel) jk_254
set_option maxRecDepth 100000 in
theorem jf_254 : sx_mf 254 := sx_mfA (c := 12) rfl rfl sx_cls12 (lw_t1 (tq_8_3 _ (List.mem_of_getElem? (i := 12) rfl))) (by decide +kernel) (Nat.le_of_ble_eq_true rfl) (Or.inr (Or.inl ⟨rfl, sx_tb_mm (lw_t1 (tq_8_3 _ (List.mem_of_getElem? (i := 11) rfl))) rfl, sx_tb_mm (lw_t0 (⟨"SpoutNewsModel", "heardAt", "(II)I"⟩, 65) (lw_pk6 _ (List.mem_of_getElem? (i := 9) rfl))) rfl⟩)) jo_254
-- SpoutNewsModel.saysAs
theorem jk_255 : sq_w 255 (sx_b 255).data.toList 0 = true := by decide +kernel
theorem jo_255 : sx_ok 255 := sq_ok_of 255 (fun pc hp => by
    show jt_255 pc = none
    unfold jt_255
    rw [Nat.ble_eq_true_of_le (show 77 ≤ pc from hp)]
    rfl) (by decide +kernel) jk_255
set_option maxRecDepth 100000 in
theorem jf_255 : sx_mf 255 := sx_mfA (c := 12) rfl rfl sx_cls12 (lw_t1 (tq_8_4 _ (List.mem_of_getElem? (i := 0) rfl))) (by decide +kernel) (Nat.le_of_ble_eq_true rfl) (Or.inr (Or.inl ⟨rfl, sx_tb_mm (lw_t1 (tq_8_3 _ (List.mem_of_getElem? (i := 15) rfl))) rfl, sx_tb_mm (lw_t0 (⟨"SpoutNewsModel", "saysAs", "(II)I"⟩, 65) (lw_pk6 _ (List.mem_of_getElem? (i := 10) rfl))) rfl⟩)) jo_255
-- SpoutNewsModel.slipOf
theorem jk_256 : sq_w 256 (sx_b 256).data.toList 0 = true := by decide +kernel
theorem jo_256 : sx_ok 256 := sq_ok_of 256 (fun pc hp => by
    show jt_256 pc = none
    unfold jt_256
    rw [Nat.ble_eq_true_of_le (show 24 ≤ pc from hp)]
    rfl) (by decide +kernel) jk_256
set_option maxRecDepth 100000 in
theorem jf_256 : sx_mf 256 := sx_mfA (c := 12) rfl rfl sx_cls12 (lw_t1 (tq_8_4 _ (List.mem_of_getElem? (i := 4) rfl))) (by decide +kernel) (Nat.le_of_ble_eq_true rfl) (Or.inr (Or.inl ⟨rfl, sx_tb_mm (lw_t1 (tq_8_4 _ (List.mem_of_getElem? (i := 3) rfl))) rfl, sx_tb_mm (lw_t0 (⟨"SpoutNewsModel", "slipOf", "(II)I"⟩, 65) (lw_pk6 _ (List.mem_of_getElem? (i := 11) rfl))) rfl⟩)) jo_256
-- SpoutNewsModel.draw
theorem jk_257 : sq_w 257 (sx_b 257).data.toList 0 = true := by decide +kernel
theorem jo_257 : sx_ok 257 := sq_ok_of 257 (fun pc hp => by
    show jt_257 pc = none
    unfold jt_257
    rw [Nat.ble_eq_true_of_le (show 30 ≤ pc from hp)]
    rfl) (by decide +kernel) jk_257
set_option maxRecDepth 100000 in
theorem jf_257 : sx_mf 257 := sx_mfA (c := 12) rfl rfl sx_cls12 (lw_t1 (tq_8_4 _ (List.mem_of_getElem? (i := 8) rfl))) (by decide +kernel) (Nat.le_of_ble_eq_true rfl) (Or.inr (Or.inl ⟨rfl, sx_tb_mm (lw_t1 (tq_8_4 _ (List.mem_of_getElem? (i := 7) rfl))) rfl, sx_tb_mm (lw_t0 (⟨"SpoutNewsModel", "draw", "(I)I"⟩, 65) (lw_pk6 _ (List.mem_of_getElem? (i := 12) rfl))) rfl⟩)) jo_257
-- SpoutNewsModel.notes
theorem jk_258 : sq_w 258 (sx_b 258).data.toList 0 = true := by decide +kernel
theorem jo_258 : sx_ok 258 := sq_ok_of 258 (fun pc hp => by
    show jt_258 pc = none
    unfold jt_258
    rw [Nat.ble_eq_true_of_le (show 88 ≤ pc from hp)]
    rfl) (by decide +kernel) jk_258
set_option maxRecDepth 100000 in
theorem jf_258 : sx_mf 258 := sx_mfA (c := 12) rfl rfl sx_cls12 (lw_t1 (tq_8_4 _ (List.mem_of_getElem? (i := 14) rfl))) (by decide +kernel) (Nat.le_of_ble_eq_true rfl) (Or.inr (Or.inl ⟨rfl, sx_tb_mm (lw_t1 (tq_8_4 _ (List.mem_of_getElem? (i := 13) rfl))) rfl, sx_tb_mm (lw_t0 (⟨"SpoutNewsModel", "notes", "(III)V"⟩, 65) (lw_pk6 _ (List.mem_of_getElem? (i := 13) rfl))) rfl⟩)) jo_258
-- SpoutNewsModel.into
theorem jk_259 : sq_w 259 (sx_b 259).data.toList 0 = true := by decide +kernel
theorem jo_259 : sx_ok 259 := sq_ok_of 259 (fun pc hp => by
    show jt_259 pc = none
    unfold jt_259
    rw [Nat.ble_eq_true_of_le (show 9 ≤ pc from hp)]
    rfl) (by decide +kernel) jk_259
set_option maxRecDepth 100000 in
theorem jf_259 : sx_mf 259 := sx_mfA (c := 12) rfl rfl sx_cls12 (lw_t1 (tq_8_5 _ (List.mem_of_getElem? (i := 2) rfl))) (by decide +kernel) (Nat.le_of_ble_eq_true rfl) (Or.inr (Or.inl ⟨rfl, sx_tb_mm (lw_t1 (tq_8_5 _ (List.mem_of_getElem? (i := 1) rfl))) rfl, sx_tb_mm (lw_t0 (⟨"SpoutNewsModel", "into", "(I)I"⟩, 65) (lw_pk6 _ (List.mem_of_getElem? (i := 14) rfl))) rfl⟩)) jo_259
-- SpoutNewsModel.comesTo
theorem jk_260 : sq_w 260 (sx_b 260).data.toList 0 = true := by decide +kernel
theorem jo_260 : sx_ok 260 := sq_ok_of 260 (fun pc hp => by
    show jt_260 pc = none
    unfold jt_260
    rw [Nat.ble_eq_true_of_le (show 74 ≤ pc from hp)]
    rfl) (by decide +kernel) jk_260
set_option maxRecDepth 100000 in
theorem jf_260 : sx_mf 260 := sx_mfA (c := 12) rfl rfl sx_cls12 (lw_t1 (tq_8_5 _ (List.mem_of_getElem? (i := 6) rfl))) (by decide +kernel) (Nat.le_of_ble_eq_true rfl) (Or.inr (Or.inl ⟨rfl, sx_tb_mm (lw_t1 (tq_8_5 _ (List.mem_of_getElem? (i := 5) rfl))) rfl, sx_tb_mm (lw_t0 (⟨"SpoutNewsModel", "comesTo", "(II)Z"⟩, 65) (lw_pk6 _ (List.mem_of_getElem? (i := 15) rfl))) rfl⟩)) jo_260
-- SpoutNewsModel.heardSet
theorem jk_261 : sq_w 261 (sx_b 261).data.toList 0 = true := by decide +kernel
theorem jo_261 : sx_ok 261 := sq_ok_of 261 (fun pc hp => by
    show jt_261 pc = none
    unfold jt_261
    rw [Nat.ble_eq_true_of_le (show 36 ≤ pc from hp)]
    rfl) (by decide +kernel) jk_261
set_option maxRecDepth 100000 in
theorem jf_261 : sx_mf 261 := sx_mfA (c := 12) rfl rfl sx_cls12 (lw_t1 (tq_8_5 _ (List.mem_of_getElem? (i := 10) rfl))) (by decide +kernel) (Nat.le_of_ble_eq_true rfl) (Or.inr (Or.inl ⟨rfl, sx_tb_mm (lw_t1 (tq_8_5 _ (List.mem_of_getElem? (i := 9) rfl))) rfl, sx_tb_mm (lw_t0 (⟨"SpoutNewsModel", "heardSet", "(I)I"⟩, 65) (lw_pk7 _ (List.mem_of_getElem? (i := 0) rfl))) rfl⟩)) jo_261
-- SpoutNewsModel.has
theorem jk_262 : sq_w 262 (sx_b 262).data.toList 0 = true := by decide +kernel
theorem jo_262 : sx_ok 262 := sq_ok_of 262 (fun pc hp => by
    show jt_262 pc = none
    unfold jt_262
    rw [Nat.ble_eq_true_of_le (show 15 ≤ pc from hp)]
    rfl) (by decide +kernel) jk_262
set_option maxRecDepth 100000 in
theorem jf_262 : sx_mf 262 := sx_mfA (c := 12) rfl rfl sx_cls12 (lw_t1 (tq_8_5 _ (List.mem_of_getElem? (i := 14) rfl))) (by decide +kernel) (Nat.le_of_ble_eq_true rfl) (Or.inr (Or.inl ⟨rfl, sx_tb_mm (lw_t1 (tq_8_5 _ (List.mem_of_getElem? (i := 13) rfl))) rfl, sx_tb_mm (lw_t0 (⟨"SpoutNewsModel", "has", "(II)Z"⟩, 65) (lw_pk7 _ (List.mem_of_getElem? (i := 1) rfl))) rfl⟩)) jo_262
-- SpoutNewsModel.isDry
theorem jk_263 : sq_w 263 (sx_b 263).data.toList 0 = true := by decide +kernel
theorem jo_263 : sx_ok 263 := sq_ok_of 263 (fun pc hp => by
    show jt_263 pc = none
    unfold jt_263
    rw [Nat.ble_eq_true_of_le (show 79 ≤ pc from hp)]
    rfl) (by decide +kernel) jk_263
set_option maxRecDepth 100000 in
theorem jf_263 : sx_mf 263 := sx_mfA (c := 12) rfl rfl sx_cls12 (lw_t1 (tq_8_6 _ (List.mem_of_getElem? (i := 2) rfl))) (by decide +kernel) (Nat.le_of_ble_eq_true rfl) (Or.inr (Or.inl ⟨rfl, sx_tb_mm (lw_t1 (tq_8_6 _ (List.mem_of_getElem? (i := 1) rfl))) rfl, sx_tb_mm (lw_t0 (⟨"SpoutNewsModel", "isDry", "(I)V"⟩, 65) (lw_pk7 _ (List.mem_of_getElem? (i := 2) rfl))) rfl⟩)) jo_263
-- SpoutNewsModel.hears
theorem jk_264 : sq_w 264 (sx_b 264).data.toList 0 = true := by decide +kernel
theorem jo_264 : sx_ok 264 := sq_ok_of 264 (fun pc hp => by
    show jt_264 pc = none
    unfold jt_264
    rw [Nat.ble_eq_true_of_le (show 78 ≤ pc from hp)]
    rfl) (by decide +kernel) jk_264
set_option maxRecDepth 100000 in
theorem jf_264 : sx_mf 264 := sx_mfA (c := 12) rfl rfl sx_cls12 (lw_t1 (tq_8_6 _ (List.mem_of_getElem? (i := 6) rfl))) (by decide +kernel) (Nat.le_of_ble_eq_true rfl) (Or.inr (Or.inl ⟨rfl, sx_tb_mm (lw_t1 (tq_8_6 _ (List.mem_of_getElem? (i := 5) rfl))) rfl, sx_tb_mm (lw_t0 (⟨"SpoutNewsModel", "hears", "(II)V"⟩, 65) (lw_pk7 _ (List.mem_of_getElem? (i := 3) rfl))) rfl⟩)) jo_264
-- SpoutNewsModel.hearsOf
theorem jk_265 : sq_w 265 (sx_b 265).data.toList 0 = true := by decide +kernel
theorem jo_265 : sx_ok 265 := sq_ok_of 265 (fun pc hp => by
    show jt_265 pc = none
    unfold jt_265
    rw [Nat.ble_eq_true_of_le (show 15 ≤ pc from hp)]
    rfl) (by decide +kernel) jk_265
set_option maxRecDepth 100000 in
theorem jf_265 : sx_mf 265 := sx_mfA (c := 12) rfl rfl sx_cls12 (lw_t1 (tq_8_6 _ (List.mem_of_getElem? (i := 10) rfl))) (by decide +kernel) (Nat.le_of_ble_eq_true rfl) (Or.inr (Or.inl ⟨rfl, sx_tb_mm (lw_t1 (tq_8_6 _ (List.mem_of_getElem? (i := 9) rfl))) rfl, sx_tb_mm (lw_t0 (⟨"SpoutNewsModel", "hearsOf", "(I)I"⟩, 65) (lw_pk7 _ (List.mem_of_getElem? (i := 4) rfl))) rfl⟩)) jo_265
-- SpoutNewsModel.of
theorem jk_266 : sq_w 266 (sx_b 266).data.toList 0 = true := by decide +kernel
theorem jo_266 : sx_ok 266 := sq_ok_of 266 (fun pc hp => by
    show jt_266 pc = none
    unfold jt_266
    rw [Nat.ble_eq_true_of_le (show 193 ≤ pc from hp)]
    rfl) (by decide +kernel) jk_266
set_option maxRecDepth 100000 in
theorem jf_266 : sx_mf 266 := sx_mfA (c := 12) rfl rfl sx_cls12 (lw_t1 (tq_8_6 _ (List.mem_of_getElem? (i := 14) rfl))) (by decide +kernel) (Nat.le_of_ble_eq_true rfl) (Or.inr (Or.inl ⟨rfl, sx_tb_mm (lw_t1 (tq_8_6 _ (List.mem_of_getElem? (i := 12) rfl))) rfl, sx_tb_mm (lw_t1 (tq_8_6 _ (List.mem_of_getElem? (i := 13) rfl))) rfl⟩)) jo_266
-- SpoutNewsModel.who
theorem jk_267 : sq_w 267 (sx_b 267).data.toList 0 = true := by decide +kernel
theorem jo_267 : sx_ok 267 := sq_ok_of 267 (fun pc hp => by
    show jt_267 pc = none
    unfold jt_267
    rw [Nat.ble_eq_true_of_le (show 56 ≤ pc from hp)]
    rfl) (by decide +kernel) jk_267
set_option maxRecDepth 100000 in
theorem jf_267 : sx_mf 267 := sx_mfA (c := 12) rfl rfl sx_cls12 (lw_t1 (tq_8_7 _ (List.mem_of_getElem? (i := 2) rfl))) (by decide +kernel) (Nat.le_of_ble_eq_true rfl) (Or.inr (Or.inl ⟨rfl, sx_tb_mm (lw_t1 (tq_8_7 _ (List.mem_of_getElem? (i := 0) rfl))) rfl, sx_tb_mm (lw_t1 (tq_8_7 _ (List.mem_of_getElem? (i := 1) rfl))) rfl⟩)) jo_267
-- SpoutNewsModel.jar
theorem jk_268 : sq_w 268 (sx_b 268).data.toList 0 = true := by decide +kernel
theorem jo_268 : sx_ok 268 := sq_ok_of 268 (fun pc hp => by
    show jt_268 pc = none
    unfold jt_268
    rw [Nat.ble_eq_true_of_le (show 58 ≤ pc from hp)]
    rfl) (by decide +kernel) jk_268
set_option maxRecDepth 100000 in
theorem jf_268 : sx_mf 268 := sx_mfA (c := 12) rfl rfl sx_cls12 (lw_t1 (tq_8_7 _ (List.mem_of_getElem? (i := 6) rfl))) (by decide +kernel) (Nat.le_of_ble_eq_true rfl) (Or.inr (Or.inl ⟨rfl, sx_tb_mm (lw_t1 (tq_8_7 _ (List.mem_of_getElem? (i := 4) rfl))) rfl, sx_tb_mm (lw_t1 (tq_8_7 _ (List.mem_of_getElem? (i := 5) rfl))) rfl⟩)) jo_268
-- SpoutNewsModel.weather
theorem jk_269 : sq_w 269 (sx_b 269).data.toList 0 = true := by decide +kernel
theorem jo_269 : sx_ok 269 := sq_ok_of 269 (fun pc hp => by
    show jt_269 pc = none
    unfold jt_269
    rw [Nat.ble_eq_true_of_le (show 11 ≤ pc from hp)]
    rfl) (by decide +kernel) jk_269
set_option maxRecDepth 100000 in
theorem jf_269 : sx_mf 269 := sx_mfA (c := 12) rfl rfl sx_cls12 (lw_t1 (tq_8_7 _ (List.mem_of_getElem? (i := 10) rfl))) (by decide +kernel) (Nat.le_of_ble_eq_true rfl) (Or.inr (Or.inl ⟨rfl, sx_tb_mm (lw_t1 (tq_8_7 _ (List.mem_of_getElem? (i := 8) rfl))) rfl, sx_tb_mm (lw_t1 (tq_8_7 _ (List.mem_of_getElem? (i := 9) rfl))) rfl⟩)) jo_269
-- SpoutNewsModel.book
theorem jk_270 : sq_w 270 (sx_b 270).data.toList 0 = true := by decide +kernel
theorem jo_270 : sx_ok 270 := sq_ok_of 270 (fun pc hp => by
    show jt_270 pc = none
    unfold jt_270
    rw [Nat.ble_eq_true_of_le (show 47 ≤ pc from hp)]
    rfl) (by decide +kernel) jk_270
set_option maxRecDepth 100000 in
theorem jf_270 : sx_mf 270 := sx_mfA (c := 12) rfl rfl sx_cls12 (lw_t1 (tq_8_7 _ (List.mem_of_getElem? (i := 14) rfl))) (by decide +kernel) (Nat.le_of_ble_eq_true rfl) (Or.inr (Or.inl ⟨rfl, sx_tb_mm (lw_t1 (tq_8_7 _ (List.mem_of_getElem? (i := 12) rfl))) rfl, sx_tb_mm (lw_t1 (tq_8_7 _ (List.mem_of_getElem? (i := 13) rfl))) rfl⟩)) jo_270
-- SpoutNewsModel.goes
theorem jk_271 : sq_w 271 (sx_b 271).data.toList 0 = true := by decide +kernel
theorem jo_271 : sx_ok 271 := sq_ok_of 271 (fun pc hp => by
    show jt_271 pc = none
    unfold jt_271
    rw [Nat.ble_eq_true_of_le (show 153 ≤ pc from hp)]
    rfl) (by decide +kernel) jk_271
set_option maxRecDepth 100000 in
theorem jf_271 : sx_mf 271 := sx_mfA (c := 12) rfl rfl sx_cls12 (lw_t1 (tq_8_8 _ (List.mem_of_getElem? (i := 2) rfl))) (by decide +kernel) (Nat.le_of_ble_eq_true rfl) (Or.inr (Or.inl ⟨rfl, sx_tb_mm (lw_t1 (tq_8_8 _ (List.mem_of_getElem? (i := 0) rfl))) rfl, sx_tb_mm (lw_t1 (tq_8_8 _ (List.mem_of_getElem? (i := 1) rfl))) rfl⟩)) jo_271
-- SpoutNewsModel.thinks
theorem jk_272 : sq_w 272 (sx_b 272).data.toList 0 = true := by decide +kernel
theorem jo_272 : sx_ok 272 := sq_ok_of 272 (fun pc hp => by
    show jt_272 pc = none
    unfold jt_272
    rw [Nat.ble_eq_true_of_le (show 33 ≤ pc from hp)]
    rfl) (by decide +kernel) jk_272
set_option maxRecDepth 100000 in
theorem jf_272 : sx_mf 272 := sx_mfA (c := 12) rfl rfl sx_cls12 (lw_t1 (tq_8_8 _ (List.mem_of_getElem? (i := 6) rfl))) (by decide +kernel) (Nat.le_of_ble_eq_true rfl) (Or.inr (Or.inl ⟨rfl, sx_tb_mm (lw_t1 (tq_8_8 _ (List.mem_of_getElem? (i := 5) rfl))) rfl, sx_tb_mm (lw_t0 (⟨"SpoutNewsModel", "thinks", "()V"⟩, 65) (lw_pk7 _ (List.mem_of_getElem? (i := 5) rfl))) rfl⟩)) jo_272
-- SpoutNewsModel.endsThought
theorem jk_273 : sq_w 273 (sx_b 273).data.toList 0 = true := by decide +kernel
theorem jo_273 : sx_ok 273 := sq_ok_of 273 (fun pc hp => by
    show jt_273 pc = none
    unfold jt_273
    rw [Nat.ble_eq_true_of_le (show 33 ≤ pc from hp)]
    rfl) (by decide +kernel) jk_273
set_option maxRecDepth 100000 in
theorem jf_273 : sx_mf 273 := sx_mfA (c := 12) rfl rfl sx_cls12 (lw_t1 (tq_8_8 _ (List.mem_of_getElem? (i := 10) rfl))) (by decide +kernel) (Nat.le_of_ble_eq_true rfl) (Or.inr (Or.inl ⟨rfl, sx_tb_mm (lw_t1 (tq_8_8 _ (List.mem_of_getElem? (i := 9) rfl))) rfl, sx_tb_mm (lw_t0 (⟨"SpoutNewsModel", "endsThought", "()V"⟩, 65) (lw_pk7 _ (List.mem_of_getElem? (i := 6) rfl))) rfl⟩)) jo_273
-- SpoutNewsModel.told
theorem jk_274 : sq_w 274 (sx_b 274).data.toList 0 = true := by decide +kernel
theorem jo_274 : sx_ok 274 := sq_ok_of 274 (fun pc hp => by
    show jt_274 pc = none
    unfold jt_274
    rw [Nat.ble_eq_true_of_le (show 113 ≤ pc from hp)]
    rfl) (by decide +kernel) jk_274
set_option maxRecDepth 100000 in
theorem jf_274 : sx_mf 274 := sx_mfA (c := 12) rfl rfl sx_cls12 (lw_t1 (tq_8_8 _ (List.mem_of_getElem? (i := 14) rfl))) (by decide +kernel) (Nat.le_of_ble_eq_true rfl) (Or.inr (Or.inl ⟨rfl, sx_tb_mm (lw_t1 (tq_8_8 _ (List.mem_of_getElem? (i := 12) rfl))) rfl, sx_tb_mm (lw_t1 (tq_8_8 _ (List.mem_of_getElem? (i := 13) rfl))) rfl⟩)) jo_274
-- SpoutNewsModel.passedFrom
theorem jk_275 : sq_w 275 (sx_b 275).data.toList 0 = true := by decide +kernel
theorem jo_275 : sx_ok 275 := sq_ok_of 275 (fun pc hp => by
    show jt_275 pc = none
    unfold jt_275
    rw [Nat.ble_eq_true_of_le (show 35 ≤ pc from hp)]
    rfl) (by decide +kernel) jk_275
set_option maxRecDepth 100000 in
theorem jf_275 : sx_mf 275 := sx_mfA (c := 12) rfl rfl sx_cls12 (lw_t1 (tq_8_9 _ (List.mem_of_getElem? (i := 2) rfl))) (by decide +kernel) (Nat.le_of_ble_eq_true rfl) (Or.inr (Or.inl ⟨rfl, sx_tb_mm (lw_t1 (tq_8_9 _ (List.mem_of_getElem? (i := 1) rfl))) rfl, sx_tb_mm (lw_t0 (⟨"SpoutNewsModel", "passedFrom", "(I)I"⟩, 65) (lw_pk7 _ (List.mem_of_getElem? (i := 7) rfl))) rfl⟩)) jo_275
-- SpoutNewsModel.ends
theorem jk_276 : sq_w 276 (sx_b 276).data.toList 0 = true := by decide +kernel
theorem jo_276 : sx_ok 276 := sq_ok_of 276 (fun pc hp => by
    show jt_276 pc = none
    unfold jt_276
    rw [Nat.ble_eq_true_of_le (show 91 ≤ pc from hp)]
    rfl) (by decide +kernel) jk_276
set_option maxRecDepth 100000 in
theorem jf_276 : sx_mf 276 := sx_mfA (c := 12) rfl rfl sx_cls12 (lw_t1 (tq_8_9 _ (List.mem_of_getElem? (i := 6) rfl))) (by decide +kernel) (Nat.le_of_ble_eq_true rfl) (Or.inr (Or.inl ⟨rfl, sx_tb_mm (lw_t1 (tq_8_9 _ (List.mem_of_getElem? (i := 4) rfl))) rfl, sx_tb_mm (lw_t1 (tq_8_9 _ (List.mem_of_getElem? (i := 5) rfl))) rfl⟩)) jo_276
-- SpoutNewsModel.isInRound
theorem jk_277 : sq_w 277 (sx_b 277).data.toList 0 = true := by decide +kernel
theorem jo_277 : sx_ok 277 := sq_ok_of 277 (fun pc hp => by
    show jt_277 pc = none
    unfold jt_277
    rw [Nat.ble_eq_true_of_le (show 40 ≤ pc from hp)]
    rfl) (by decide +kernel) jk_277
set_option maxRecDepth 100000 in
theorem jf_277 : sx_mf 277 := sx_mfA (c := 12) rfl rfl sx_cls12 (lw_t1 (tq_8_9 _ (List.mem_of_getElem? (i := 10) rfl))) (by decide +kernel) (Nat.le_of_ble_eq_true rfl) (Or.inr (Or.inl ⟨rfl, sx_tb_mm (lw_t1 (tq_8_9 _ (List.mem_of_getElem? (i := 9) rfl))) rfl, sx_tb_mm (lw_t0 (⟨"SpoutNewsModel", "isInRound", "(I)Z"⟩, 65) (lw_pk7 _ (List.mem_of_getElem? (i := 8) rfl))) rfl⟩)) jo_277
-- SpoutNewsModel.leastOfRound
theorem jk_278 : sq_w 278 (sx_b 278).data.toList 0 = true := by decide +kernel
theorem jo_278 : sx_ok 278 := sq_ok_of 278 (fun pc hp => by
    show jt_278 pc = none
    unfold jt_278
    rw [Nat.ble_eq_true_of_le (show 31 ≤ pc from hp)]
    rfl) (by decide +kernel) jk_278
set_option maxRecDepth 100000 in
theorem jf_278 : sx_mf 278 := sx_mfA (c := 12) rfl rfl sx_cls12 (lw_t1 (tq_8_9 _ (List.mem_of_getElem? (i := 14) rfl))) (by decide +kernel) (Nat.le_of_ble_eq_true rfl) (Or.inr (Or.inl ⟨rfl, sx_tb_mm (lw_t1 (tq_8_9 _ (List.mem_of_getElem? (i := 13) rfl))) rfl, sx_tb_mm (lw_t0 (⟨"SpoutNewsModel", "leastOfRound", "(I)I"⟩, 65) (lw_pk7 _ (List.mem_of_getElem? (i := 9) rfl))) rfl⟩)) jo_278
-- SpoutNewsModel.catches
theorem jk_279 : sq_w 279 (sx_b 279).data.toList 0 = true := by decide +kernel
theorem jo_279 : sx_ok 279 := sq_ok_of 279 (fun pc hp => by
    show jt_279 pc = none
    unfold jt_279
    rw [Nat.ble_eq_true_of_le (show 81 ≤ pc from hp)]
    rfl) (by decide +kernel) jk_279
set_option maxRecDepth 100000 in
theorem jf_279 : sx_mf 279 := sx_mfA (c := 12) rfl rfl sx_cls12 (lw_t1 (tq_8_10 _ (List.mem_of_getElem? (i := 2) rfl))) (by decide +kernel) (Nat.le_of_ble_eq_true rfl) (Or.inr (Or.inl ⟨rfl, sx_tb_mm (lw_t1 (tq_8_10 _ (List.mem_of_getElem? (i := 0) rfl))) rfl, sx_tb_mm (lw_t1 (tq_8_10 _ (List.mem_of_getElem? (i := 1) rfl))) rfl⟩)) jo_279
