-- by program (wip/gen/mk12.py, mkfast.py): the tables of methods hold
-- SpoutNewsModel.onesOf
theorem jk_280 : sq_w 280 (sx_b 280).data.toList 0 = true := by decide +kernel
theorem jo_280 : sx_ok 280 := sq_ok_of 280 (fun pc hp => by
    show jt_280 pc = none
    unfold jt_280
    rw [Nat.ble_eq_true_of_le (show 23 ≤ pc from hp)]
    rfl) (by decide +kernel) jk_280
set_option maxRecDepth 100000 in
theorem jf_280 : sx_mf 280 := sx_mfA (c := 12) rfl rfl sx_cls12 (lw_t1 (tq_8_10 _ (List.mem_of_getElem? (i := 6) rfl))) (by decide +kernel) (Nat.le_of_ble_eq_true rfl) (Or.inr (Or.inl ⟨rfl, sx_tb_mm (lw_t1 (tq_8_10 _ (List.mem_of_getElem? (i := 5) rfl))) rfl, sx_tb_mm (lw_t0 (⟨"SpoutNewsModel", "onesOf", "(I)I"⟩, 65) (lw_pk7 _ (List.mem_of_getElem? (i := 10) rfl))) rfl⟩)) jo_280
-- SpoutNewsModel.catchesAll
theorem jk_281 : sq_w 281 (sx_b 281).data.toList 0 = true := by decide +kernel
theorem jo_281 : sx_ok 281 := sq_ok_of 281 (fun pc hp => by
    show jt_281 pc = none
    unfold jt_281
    rw [Nat.ble_eq_true_of_le (show 30 ≤ pc from hp)]
    rfl) (by decide +kernel) jk_281
set_option maxRecDepth 100000 in
theorem jf_281 : sx_mf 281 := sx_mfA (c := 12) rfl rfl sx_cls12 (lw_t1 (tq_8_10 _ (List.mem_of_getElem? (i := 10) rfl))) (by decide +kernel) (Nat.le_of_ble_eq_true rfl) (Or.inr (Or.inl ⟨rfl, sx_tb_mm (lw_t1 (tq_8_10 _ (List.mem_of_getElem? (i := 9) rfl))) rfl, sx_tb_mm (lw_t0 (⟨"SpoutNewsModel", "catchesAll", "(I)Z"⟩, 65) (lw_pk7 _ (List.mem_of_getElem? (i := 11) rfl))) rfl⟩)) jo_281
-- SpoutNewsModel.seat
theorem jk_282 : sq_w 282 (sx_b 282).data.toList 0 = true := by decide +kernel
theorem jo_282 : sx_ok 282 := sq_ok_of 282 (fun pc hp => by
    show jt_282 pc = none
    unfold jt_282
    rw [Nat.ble_eq_true_of_le (show 111 ≤ pc from hp)]
    rfl) (by decide +kernel) jk_282
set_option maxRecDepth 100000 in
theorem jf_282 : sx_mf 282 := sx_mfA (c := 12) rfl rfl sx_cls12 (lw_t1 (tq_8_10 _ (List.mem_of_getElem? (i := 14) rfl))) (by decide +kernel) (Nat.le_of_ble_eq_true rfl) (Or.inr (Or.inl ⟨rfl, sx_tb_mm (lw_t1 (tq_8_10 _ (List.mem_of_getElem? (i := 12) rfl))) rfl, sx_tb_mm (lw_t1 (tq_8_10 _ (List.mem_of_getElem? (i := 13) rfl))) rfl⟩)) jo_282
-- SpoutNewsModel.ways
theorem jk_283 : sq_w 283 (sx_b 283).data.toList 0 = true := by decide +kernel
theorem jo_283 : sx_ok 283 := sq_ok_of 283 (fun pc hp => by
    show jt_283 pc = none
    unfold jt_283
    rw [Nat.ble_eq_true_of_le (show 93 ≤ pc from hp)]
    rfl) (by decide +kernel) jk_283
set_option maxRecDepth 100000 in
theorem jf_283 : sx_mf 283 := sx_mfA (c := 12) rfl rfl sx_cls12 (lw_t1 (tq_8_11 _ (List.mem_of_getElem? (i := 2) rfl))) (by decide +kernel) (Nat.le_of_ble_eq_true rfl) (Or.inr (Or.inl ⟨rfl, sx_tb_mm (lw_t1 (tq_8_11 _ (List.mem_of_getElem? (i := 0) rfl))) rfl, sx_tb_mm (lw_t1 (tq_8_11 _ (List.mem_of_getElem? (i := 1) rfl))) rfl⟩)) jo_283
-- SpoutNewsModel.askedBest
theorem jk_284 : sq_w 284 (sx_b 284).data.toList 0 = true := by decide +kernel
theorem jo_284 : sx_ok 284 := sq_ok_of 284 (fun pc hp => by
    show jt_284 pc = none
    unfold jt_284
    rw [Nat.ble_eq_true_of_le (show 107 ≤ pc from hp)]
    rfl) (by decide +kernel) jk_284
set_option maxRecDepth 100000 in
theorem jf_284 : sx_mf 284 := sx_mfA (c := 12) rfl rfl sx_cls12 (lw_t1 (tq_8_11 _ (List.mem_of_getElem? (i := 6) rfl))) (by decide +kernel) (Nat.le_of_ble_eq_true rfl) (Or.inr (Or.inl ⟨rfl, sx_tb_mm (lw_t1 (tq_8_11 _ (List.mem_of_getElem? (i := 5) rfl))) rfl, sx_tb_mm (lw_t0 (⟨"SpoutNewsModel", "askedBest", "()I"⟩, 65) (lw_pk7 _ (List.mem_of_getElem? (i := 12) rfl))) rfl⟩)) jo_284
-- SpoutNewsModel.waysWith
theorem jk_285 : sq_w 285 (sx_b 285).data.toList 0 = true := by decide +kernel
theorem jo_285 : sx_ok 285 := sq_ok_of 285 (fun pc hp => by
    show jt_285 pc = none
    unfold jt_285
    rw [Nat.ble_eq_true_of_le (show 167 ≤ pc from hp)]
    rfl) (by decide +kernel) jk_285
set_option maxRecDepth 100000 in
theorem jf_285 : sx_mf 285 := sx_mfA (c := 12) rfl rfl sx_cls12 (lw_t1 (tq_8_11 _ (List.mem_of_getElem? (i := 11) rfl))) (by decide +kernel) (Nat.le_of_ble_eq_true rfl) (Or.inr (Or.inl ⟨rfl, sx_tb_mm (lw_t1 (tq_8_11 _ (List.mem_of_getElem? (i := 10) rfl))) rfl, sx_tb_mm (lw_t0 (⟨"SpoutNewsModel", "waysWith", "(I)I"⟩, 65) (lw_pk7 _ (List.mem_of_getElem? (i := 13) rfl))) rfl⟩)) jo_285
-- SpoutNewsModel.seatsOf
theorem jk_286 : sq_w 286 (sx_b 286).data.toList 0 = true := by decide +kernel
theorem jo_286 : sx_ok 286 := sq_ok_of 286 (fun pc hp => by
    show jt_286 pc = none
    unfold jt_286
    rw [Nat.ble_eq_true_of_le (show 36 ≤ pc from hp)]
    rfl) (by decide +kernel) jk_286
set_option maxRecDepth 100000 in
theorem jf_286 : sx_mf 286 := sx_mfA (c := 12) rfl rfl sx_cls12 (lw_t1 (tq_8_11 _ (List.mem_of_getElem? (i := 15) rfl))) (by decide +kernel) (Nat.le_of_ble_eq_true rfl) (Or.inr (Or.inl ⟨rfl, sx_tb_mm (lw_t1 (tq_8_11 _ (List.mem_of_getElem? (i := 14) rfl))) rfl, sx_tb_mm (lw_t0 (⟨"SpoutNewsModel", "seatsOf", "(II)I"⟩, 65) (lw_pk7 _ (List.mem_of_getElem? (i := 14) rfl))) rfl⟩)) jo_286
-- SpoutNewsModel.greater
theorem jk_287 : sq_w 287 (sx_b 287).data.toList 0 = true := by decide +kernel
theorem jo_287 : sx_ok 287 := sq_ok_of 287 (fun pc hp => by
    show jt_287 pc = none
    unfold jt_287
    rw [Nat.ble_eq_true_of_le (show 11 ≤ pc from hp)]
    rfl) (by decide +kernel) jk_287
set_option maxRecDepth 100000 in
theorem jf_287 : sx_mf 287 := sx_mfA (c := 12) rfl rfl sx_cls12 (lw_t1 (tq_8_12 _ (List.mem_of_getElem? (i := 3) rfl))) (by decide +kernel) (Nat.le_of_ble_eq_true rfl) (Or.inr (Or.inl ⟨rfl, sx_tb_mm (lw_t1 (tq_8_12 _ (List.mem_of_getElem? (i := 2) rfl))) rfl, sx_tb_mm (lw_t0 (⟨"SpoutNewsModel", "greater", "(II)I"⟩, 65) (lw_pk7 _ (List.mem_of_getElem? (i := 15) rfl))) rfl⟩)) jo_287
-- SpoutNewsModel.isFirstTold
theorem jk_288 : sq_w 288 (sx_b 288).data.toList 0 = true := by decide +kernel
theorem jo_288 : sx_ok 288 := sq_ok_of 288 (fun pc hp => by
    show jt_288 pc = none
    unfold jt_288
    rw [Nat.ble_eq_true_of_le (show 32 ≤ pc from hp)]
    rfl) (by decide +kernel) jk_288
set_option maxRecDepth 100000 in
theorem jf_288 : sx_mf 288 := sx_mfA (c := 12) rfl rfl sx_cls12 (lw_t1 (tq_8_12 _ (List.mem_of_getElem? (i := 7) rfl))) (by decide +kernel) (Nat.le_of_ble_eq_true rfl) (Or.inr (Or.inl ⟨rfl, sx_tb_mm (lw_t1 (tq_8_12 _ (List.mem_of_getElem? (i := 6) rfl))) rfl, sx_tb_mm (lw_t0 (⟨"SpoutNewsModel", "isFirstTold", "(I)Z"⟩, 65) (lw_pk8 _ (List.mem_of_getElem? (i := 0) rfl))) rfl⟩)) jo_288
-- SpoutNewsModel.quarrel
theorem jk_289 : sq_w 289 (sx_b 289).data.toList 0 = true := by decide +kernel
theorem jo_289 : sx_ok 289 := sq_ok_of 289 (fun pc hp => by
    show jt_289 pc = none
    unfold jt_289
    rw [Nat.ble_eq_true_of_le (show 123 ≤ pc from hp)]
    rfl) (by decide +kernel) jk_289
set_option maxRecDepth 100000 in
theorem jf_289 : sx_mf 289 := sx_mfA (c := 12) rfl rfl sx_cls12 (lw_t1 (tq_8_12 _ (List.mem_of_getElem? (i := 11) rfl))) (by decide +kernel) (Nat.le_of_ble_eq_true rfl) (Or.inr (Or.inl ⟨rfl, sx_tb_mm (lw_t1 (tq_8_12 _ (List.mem_of_getElem? (i := 9) rfl))) rfl, sx_tb_mm (lw_t1 (tq_8_12 _ (List.mem_of_getElem? (i := 10) rfl))) rfl⟩)) jo_289
-- SpoutNewsModel.parts
theorem jk_290 : sq_w 290 (sx_b 290).data.toList 0 = true := by decide +kernel
theorem jo_290 : sx_ok 290 := sq_ok_of 290 (fun pc hp => by
    show jt_290 pc = none
    unfold jt_290
    rw [Nat.ble_eq_true_of_le (show 139 ≤ pc from hp)]
    rfl) (by decide +kernel) jk_290
set_option maxRecDepth 100000 in
theorem jf_290 : sx_mf 290 := sx_mfA (c := 12) rfl rfl sx_cls12 (lw_t1 (tq_8_12 _ (List.mem_of_getElem? (i := 15) rfl))) (by decide +kernel) (Nat.le_of_ble_eq_true rfl) (Or.inr (Or.inl ⟨rfl, sx_tb_mm (lw_t1 (tq_8_12 _ (List.mem_of_getElem? (i := 13) rfl))) rfl, sx_tb_mm (lw_t1 (tq_8_12 _ (List.mem_of_getElem? (i := 14) rfl))) rfl⟩)) jo_290
-- SpoutNewsModel.sideFrom
theorem jk_291 : sq_w 291 (sx_b 291).data.toList 0 = true := by decide +kernel
theorem jo_291 : sx_ok 291 := sq_ok_of 291 (fun pc hp => by
    show jt_291 pc = none
    unfold jt_291
    rw [Nat.ble_eq_true_of_le (show 53 ≤ pc from hp)]
    rfl) (by decide +kernel) jk_291
set_option maxRecDepth 100000 in
theorem jf_291 : sx_mf 291 := sx_mfA (c := 12) rfl rfl sx_cls12 (lw_t1 (tq_8_13 _ (List.mem_of_getElem? (i := 3) rfl))) (by decide +kernel) (Nat.le_of_ble_eq_true rfl) (Or.inr (Or.inl ⟨rfl, sx_tb_mm (lw_t1 (tq_8_13 _ (List.mem_of_getElem? (i := 2) rfl))) rfl, sx_tb_mm (lw_t0 (⟨"SpoutNewsModel", "sideFrom", "(IZ)I"⟩, 65) (lw_pk8 _ (List.mem_of_getElem? (i := 1) rfl))) rfl⟩)) jo_291
-- SpoutNewsModel.besideAll
theorem jk_292 : sq_w 292 (sx_b 292).data.toList 0 = true := by decide +kernel
theorem jo_292 : sx_ok 292 := sq_ok_of 292 (fun pc hp => by
    show jt_292 pc = none
    unfold jt_292
    rw [Nat.ble_eq_true_of_le (show 36 ≤ pc from hp)]
    rfl) (by decide +kernel) jk_292
set_option maxRecDepth 100000 in
theorem jf_292 : sx_mf 292 := sx_mfA (c := 12) rfl rfl sx_cls12 (lw_t1 (tq_8_13 _ (List.mem_of_getElem? (i := 7) rfl))) (by decide +kernel) (Nat.le_of_ble_eq_true rfl) (Or.inr (Or.inl ⟨rfl, sx_tb_mm (lw_t1 (tq_8_13 _ (List.mem_of_getElem? (i := 6) rfl))) rfl, sx_tb_mm (lw_t0 (⟨"SpoutNewsModel", "besideAll", "(I)I"⟩, 65) (lw_pk8 _ (List.mem_of_getElem? (i := 2) rfl))) rfl⟩)) jo_292
-- SpoutNewsModel.known
theorem jk_293 : sq_w 293 (sx_b 293).data.toList 0 = true := by decide +kernel
theorem jo_293 : sx_ok 293 := sq_ok_of 293 (fun pc hp => by
    show jt_293 pc = none
    unfold jt_293
    rw [Nat.ble_eq_true_of_le (show 144 ≤ pc from hp)]
    rfl) (by decide +kernel) jk_293
set_option maxRecDepth 100000 in
theorem jf_293 : sx_mf 293 := sx_mfA (c := 12) rfl rfl sx_cls12 (lw_t1 (tq_8_13 _ (List.mem_of_getElem? (i := 11) rfl))) (by decide +kernel) (Nat.le_of_ble_eq_true rfl) (Or.inr (Or.inl ⟨rfl, sx_tb_mm (lw_t1 (tq_8_13 _ (List.mem_of_getElem? (i := 9) rfl))) rfl, sx_tb_mm (lw_t1 (tq_8_13 _ (List.mem_of_getElem? (i := 10) rfl))) rfl⟩)) jo_293
-- SpoutNewsModel.latin
theorem jk_294 : sq_w 294 (sx_b 294).data.toList 0 = true := by decide +kernel
theorem jo_294 : sx_ok 294 := sq_ok_of 294 (fun pc hp => by
    show jt_294 pc = none
    unfold jt_294
    rw [Nat.ble_eq_true_of_le (show 40 ≤ pc from hp)]
    rfl) (by decide +kernel) jk_294
set_option maxRecDepth 100000 in
theorem jf_294 : sx_mf 294 := sx_mfA (c := 12) rfl rfl sx_cls12 (lw_t1 (tq_8_13 _ (List.mem_of_getElem? (i := 15) rfl))) (by decide +kernel) (Nat.le_of_ble_eq_true rfl) (Or.inr (Or.inl ⟨rfl, sx_tb_mm (lw_t1 (tq_8_13 _ (List.mem_of_getElem? (i := 13) rfl))) rfl, sx_tb_mm (lw_t1 (tq_8_13 _ (List.mem_of_getElem? (i := 14) rfl))) rfl⟩)) jo_294
-- SpoutNewsModel.again
theorem jk_295 : sq_w 295 (sx_b 295).data.toList 0 = true := by decide +kernel
theorem jo_295 : sx_ok 295 := sq_ok_of 295 (fun pc hp => by
    show jt_295 pc = none
    unfold jt_295
    rw [Nat.ble_eq_true_of_le (show 75 ≤ pc from hp)]
    rfl) (by decide +kernel) jk_295
set_option maxRecDepth 100000 in
theorem jf_295 : sx_mf 295 := sx_mfA (c := 12) rfl rfl sx_cls12 (lw_t1 (tq_8_14 _ (List.mem_of_getElem? (i := 3) rfl))) (by decide +kernel) (Nat.le_of_ble_eq_true rfl) (Or.inr (Or.inl ⟨rfl, sx_tb_mm (lw_t1 (tq_8_14 _ (List.mem_of_getElem? (i := 1) rfl))) rfl, sx_tb_mm (lw_t1 (tq_8_14 _ (List.mem_of_getElem? (i := 2) rfl))) rfl⟩)) jo_295
-- SpoutNewsModel.comingFrom
theorem jk_296 : sq_w 296 (sx_b 296).data.toList 0 = true := by decide +kernel
theorem jo_296 : sx_ok 296 := sq_ok_of 296 (fun pc hp => by
    show jt_296 pc = none
    unfold jt_296
    rw [Nat.ble_eq_true_of_le (show 43 ≤ pc from hp)]
    rfl) (by decide +kernel) jk_296
set_option maxRecDepth 100000 in
theorem jf_296 : sx_mf 296 := sx_mfA (c := 12) rfl rfl sx_cls12 (lw_t1 (tq_8_14 _ (List.mem_of_getElem? (i := 7) rfl))) (by decide +kernel) (Nat.le_of_ble_eq_true rfl) (Or.inr (Or.inl ⟨rfl, sx_tb_mm (lw_t1 (tq_8_14 _ (List.mem_of_getElem? (i := 6) rfl))) rfl, sx_tb_mm (lw_t0 (⟨"SpoutNewsModel", "comingFrom", "(I)I"⟩, 65) (lw_pk8 _ (List.mem_of_getElem? (i := 3) rfl))) rfl⟩)) jo_296
-- SpoutNewsModel.isOneToOne
theorem jk_297 : sq_w 297 (sx_b 297).data.toList 0 = true := by decide +kernel
theorem jo_297 : sx_ok 297 := sq_ok_of 297 (fun pc hp => by
    show jt_297 pc = none
    unfold jt_297
    rw [Nat.ble_eq_true_of_le (show 41 ≤ pc from hp)]
    rfl) (by decide +kernel) jk_297
set_option maxRecDepth 100000 in
theorem jf_297 : sx_mf 297 := sx_mfA (c := 12) rfl rfl sx_cls12 (lw_t1 (tq_8_14 _ (List.mem_of_getElem? (i := 11) rfl))) (by decide +kernel) (Nat.le_of_ble_eq_true rfl) (Or.inr (Or.inl ⟨rfl, sx_tb_mm (lw_t1 (tq_8_14 _ (List.mem_of_getElem? (i := 10) rfl))) rfl, sx_tb_mm (lw_t0 (⟨"SpoutNewsModel", "isOneToOne", "()Z"⟩, 65) (lw_pk8 _ (List.mem_of_getElem? (i := 4) rfl))) rfl⟩)) jo_297
-- SpoutNewsModel.common
theorem jk_298 : sq_w 298 (sx_b 298).data.toList 0 = true := by decide +kernel
theorem jo_298 : sx_ok 298 := sq_ok_of 298 (fun pc hp => by
    show jt_298 pc = none
    unfold jt_298
    rw [Nat.ble_eq_true_of_le (show 31 ≤ pc from hp)]
    rfl) (by decide +kernel) jk_298
set_option maxRecDepth 100000 in
theorem jf_298 : sx_mf 298 := sx_mfA (c := 12) rfl rfl sx_cls12 (lw_t1 (tq_8_14 _ (List.mem_of_getElem? (i := 15) rfl))) (by decide +kernel) (Nat.le_of_ble_eq_true rfl) (Or.inr (Or.inl ⟨rfl, sx_tb_mm (lw_t1 (tq_8_14 _ (List.mem_of_getElem? (i := 14) rfl))) rfl, sx_tb_mm (lw_t0 (⟨"SpoutNewsModel", "common", "(II)I"⟩, 65) (lw_pk8 _ (List.mem_of_getElem? (i := 5) rfl))) rfl⟩)) jo_298
-- SpoutNewsModel.rest
theorem jk_299 : sq_w 299 (sx_b 299).data.toList 0 = true := by decide +kernel
theorem jo_299 : sx_ok 299 := sq_ok_of 299 (fun pc hp => by
    show jt_299 pc = none
    unfold jt_299
    rw [Nat.ble_eq_true_of_le (show 12 ≤ pc from hp)]
    rfl) (by decide +kernel) jk_299
set_option maxRecDepth 100000 in
theorem jf_299 : sx_mf 299 := sx_mfA (c := 12) rfl rfl sx_cls12 (lw_t1 (tq_9_0 _ (List.mem_of_getElem? (i := 3) rfl))) (by decide +kernel) (Nat.le_of_ble_eq_true rfl) (Or.inr (Or.inl ⟨rfl, sx_tb_mm (lw_t1 (tq_9_0 _ (List.mem_of_getElem? (i := 2) rfl))) rfl, sx_tb_mm (lw_t0 (⟨"SpoutNewsModel", "rest", "(II)I"⟩, 65) (lw_pk8 _ (List.mem_of_getElem? (i := 6) rfl))) rfl⟩)) jo_299
-- SpoutNewsModel.mason
theorem jk_300 : sq_w 300 (sx_b 300).data.toList 0 = true := by decide +kernel
theorem jo_300 : sx_ok 300 := sq_ok_of 300 (fun pc hp => by
    show jt_300 pc = none
    unfold jt_300
    rw [Nat.ble_eq_true_of_le (show 85 ≤ pc from hp)]
    rfl) (by decide +kernel) jk_300
set_option maxRecDepth 100000 in
theorem jf_300 : sx_mf 300 := sx_mfA (c := 12) rfl rfl sx_cls12 (lw_t1 (tq_9_0 _ (List.mem_of_getElem? (i := 7) rfl))) (by decide +kernel) (Nat.le_of_ble_eq_true rfl) (Or.inr (Or.inl ⟨rfl, sx_tb_mm (lw_t1 (tq_9_0 _ (List.mem_of_getElem? (i := 5) rfl))) rfl, sx_tb_mm (lw_t1 (tq_9_0 _ (List.mem_of_getElem? (i := 6) rfl))) rfl⟩)) jo_300
-- SpoutNewsModel.isRow
theorem jk_301 : sq_w 301 (sx_b 301).data.toList 0 = true := by decide +kernel
theorem jo_301 : sx_ok 301 := sq_ok_of 301 (fun pc hp => by
    show jt_301 pc = none
    unfold jt_301
    rw [Nat.ble_eq_true_of_le (show 50 ≤ pc from hp)]
    rfl) (by decide +kernel) jk_301
set_option maxRecDepth 100000 in
theorem jf_301 : sx_mf 301 := sx_mfA (c := 12) rfl rfl sx_cls12 (lw_t1 (tq_9_0 _ (List.mem_of_getElem? (i := 11) rfl))) (by decide +kernel) (Nat.le_of_ble_eq_true rfl) (Or.inr (Or.inl ⟨rfl, sx_tb_mm (lw_t1 (tq_9_0 _ (List.mem_of_getElem? (i := 10) rfl))) rfl, sx_tb_mm (lw_t0 (⟨"SpoutNewsModel", "isRow", "(I)Z"⟩, 65) (lw_pk8 _ (List.mem_of_getElem? (i := 7) rfl))) rfl⟩)) jo_301
-- SpoutNewsModel.digitOf
theorem jk_302 : sq_w 302 (sx_b 302).data.toList 0 = true := by decide +kernel
theorem jo_302 : sx_ok 302 := sq_ok_of 302 (fun pc hp => by
    show jt_302 pc = none
    unfold jt_302
    rw [Nat.ble_eq_true_of_le (show 27 ≤ pc from hp)]
    rfl) (by decide +kernel) jk_302
set_option maxRecDepth 100000 in
theorem jf_302 : sx_mf 302 := sx_mfA (c := 12) rfl rfl sx_cls12 (lw_t1 (tq_9_0 _ (List.mem_of_getElem? (i := 15) rfl))) (by decide +kernel) (Nat.le_of_ble_eq_true rfl) (Or.inr (Or.inl ⟨rfl, sx_tb_mm (lw_t1 (tq_9_0 _ (List.mem_of_getElem? (i := 14) rfl))) rfl, sx_tb_mm (lw_t0 (⟨"SpoutNewsModel", "digitOf", "(II)I"⟩, 65) (lw_pk8 _ (List.mem_of_getElem? (i := 8) rfl))) rfl⟩)) jo_302
-- SpoutNewsModel.keeps
theorem jk_303 : sq_w 303 (sx_b 303).data.toList 0 = true := by decide +kernel
theorem jo_303 : sx_ok 303 := sq_ok_of 303 (fun pc hp => by
    show jt_303 pc = none
    unfold jt_303
    rw [Nat.ble_eq_true_of_le (show 52 ≤ pc from hp)]
    rfl) (by decide +kernel) jk_303
set_option maxRecDepth 100000 in
theorem jf_303 : sx_mf 303 := sx_mfA (c := 12) rfl rfl sx_cls12 (lw_t1 (tq_9_1 _ (List.mem_of_getElem? (i := 3) rfl))) (by decide +kernel) (Nat.le_of_ble_eq_true rfl) (Or.inr (Or.inl ⟨rfl, sx_tb_mm (lw_t1 (tq_9_1 _ (List.mem_of_getElem? (i := 1) rfl))) rfl, sx_tb_mm (lw_t1 (tq_9_1 _ (List.mem_of_getElem? (i := 2) rfl))) rfl⟩)) jo_303
-- SpoutNewsModel.offers
theorem jk_304 : sq_w 304 (sx_b 304).data.toList 0 = true := by decide +kernel
theorem jo_304 : sx_ok 304 := sq_ok_of 304 (fun pc hp => by
    show jt_304 pc = none
    unfold jt_304
    rw [Nat.ble_eq_true_of_le (show 121 ≤ pc from hp)]
    rfl) (by decide +kernel) jk_304
set_option maxRecDepth 100000 in
theorem jf_304 : sx_mf 304 := sx_mfA (c := 12) rfl rfl sx_cls12 (lw_t1 (tq_9_1 _ (List.mem_of_getElem? (i := 7) rfl))) (by decide +kernel) (Nat.le_of_ble_eq_true rfl) (Or.inr (Or.inl ⟨rfl, sx_tb_mm (lw_t1 (tq_9_1 _ (List.mem_of_getElem? (i := 6) rfl))) rfl, sx_tb_mm (lw_t0 (⟨"SpoutNewsModel", "offers", "()I"⟩, 65) (lw_pk8 _ (List.mem_of_getElem? (i := 9) rfl))) rfl⟩)) jo_304
-- SpoutNewsModel.freeMason
theorem jk_305 : sq_w 305 (sx_b 305).data.toList 0 = true := by decide +kernel
theorem jo_305 : sx_ok 305 := sq_ok_of 305 (fun pc hp => by
    show jt_305 pc = none
    unfold jt_305
    rw [Nat.ble_eq_true_of_le (show 50 ≤ pc from hp)]
    rfl) (by decide +kernel) jk_305
set_option maxRecDepth 100000 in
theorem jf_305 : sx_mf 305 := sx_mfA (c := 12) rfl rfl sx_cls12 (lw_t1 (tq_9_1 _ (List.mem_of_getElem? (i := 11) rfl))) (by decide +kernel) (Nat.le_of_ble_eq_true rfl) (Or.inr (Or.inl ⟨rfl, sx_tb_mm (lw_t1 (tq_9_1 _ (List.mem_of_getElem? (i := 10) rfl))) rfl, sx_tb_mm (lw_t0 (⟨"SpoutNewsModel", "freeMason", "()I"⟩, 65) (lw_pk8 _ (List.mem_of_getElem? (i := 10) rfl))) rfl⟩)) jo_305
-- SpoutNewsModel.dearOf
theorem jk_306 : sq_w 306 (sx_b 306).data.toList 0 = true := by decide +kernel
theorem jo_306 : sx_ok 306 := sq_ok_of 306 (fun pc hp => by
    show jt_306 pc = none
    unfold jt_306
    rw [Nat.ble_eq_true_of_le (show 13 ≤ pc from hp)]
    rfl) (by decide +kernel) jk_306
set_option maxRecDepth 100000 in
theorem jf_306 : sx_mf 306 := sx_mfA (c := 12) rfl rfl sx_cls12 (lw_t1 (tq_9_1 _ (List.mem_of_getElem? (i := 15) rfl))) (by decide +kernel) (Nat.le_of_ble_eq_true rfl) (Or.inr (Or.inl ⟨rfl, sx_tb_mm (lw_t1 (tq_9_1 _ (List.mem_of_getElem? (i := 14) rfl))) rfl, sx_tb_mm (lw_t0 (⟨"SpoutNewsModel", "dearOf", "(II)I"⟩, 65) (lw_pk8 _ (List.mem_of_getElem? (i := 11) rfl))) rfl⟩)) jo_306
-- SpoutNewsModel.placeIn
theorem jk_307 : sq_w 307 (sx_b 307).data.toList 0 = true := by decide +kernel
theorem jo_307 : sx_ok 307 := sq_ok_of 307 (fun pc hp => by
    show jt_307 pc = none
    unfold jt_307
    rw [Nat.ble_eq_true_of_le (show 21 ≤ pc from hp)]
    rfl) (by decide +kernel) jk_307
set_option maxRecDepth 100000 in
theorem jf_307 : sx_mf 307 := sx_mfA (c := 12) rfl rfl sx_cls12 (lw_t1 (tq_9_2 _ (List.mem_of_getElem? (i := 3) rfl))) (by decide +kernel) (Nat.le_of_ble_eq_true rfl) (Or.inr (Or.inl ⟨rfl, sx_tb_mm (lw_t1 (tq_9_2 _ (List.mem_of_getElem? (i := 2) rfl))) rfl, sx_tb_mm (lw_t0 (⟨"SpoutNewsModel", "placeIn", "(II)I"⟩, 65) (lw_pk8 _ (List.mem_of_getElem? (i := 12) rfl))) rfl⟩)) jo_307
-- SpoutNewsModel.surmise
theorem jk_308 : sq_w 308 (sx_b 308).data.toList 0 = true := by decide +kernel
theorem jo_308 : sx_ok 308 := sq_ok_of 308 (fun pc hp => by
    show jt_308 pc = none
    unfold jt_308
    rw [Nat.ble_eq_true_of_le (show 103 ≤ pc from hp)]
    rfl) (by decide +kernel) jk_308
set_option maxRecDepth 100000 in
theorem jf_308 : sx_mf 308 := sx_mfA (c := 12) rfl rfl sx_cls12 (lw_t1 (tq_9_2 _ (List.mem_of_getElem? (i := 7) rfl))) (by decide +kernel) (Nat.le_of_ble_eq_true rfl) (Or.inr (Or.inl ⟨rfl, sx_tb_mm (lw_t1 (tq_9_2 _ (List.mem_of_getElem? (i := 5) rfl))) rfl, sx_tb_mm (lw_t1 (tq_9_2 _ (List.mem_of_getElem? (i := 6) rfl))) rfl⟩)) jo_308
-- SpoutNewsModel.surmised
theorem jk_309 : sq_w 309 (sx_b 309).data.toList 0 = true := by decide +kernel
theorem jo_309 : sx_ok 309 := sq_ok_of 309 (fun pc hp => by
    show jt_309 pc = none
    unfold jt_309
    rw [Nat.ble_eq_true_of_le (show 19 ≤ pc from hp)]
    rfl) (by decide +kernel) jk_309
set_option maxRecDepth 100000 in
theorem jf_309 : sx_mf 309 := sx_mfA (c := 12) rfl rfl sx_cls12 (lw_t1 (tq_9_2 _ (List.mem_of_getElem? (i := 11) rfl))) (by decide +kernel) (Nat.le_of_ble_eq_true rfl) (Or.inr (Or.inl ⟨rfl, sx_tb_mm (lw_t1 (tq_9_2 _ (List.mem_of_getElem? (i := 10) rfl))) rfl, sx_tb_mm (lw_t0 (⟨"SpoutNewsModel", "surmised", "(III)I"⟩, 65) (lw_pk8 _ (List.mem_of_getElem? (i := 13) rfl))) rfl⟩)) jo_309
-- SpoutNewsModel.shareOf
theorem jk_310 : sq_w 310 (sx_b 310).data.toList 0 = true := by decide +kernel
theorem jo_310 : sx_ok 310 := sq_ok_of 310 (fun pc hp => by
    show jt_310 pc = none
    unfold jt_310
    rw [Nat.ble_eq_true_of_le (show 50 ≤ pc from hp)]
    rfl) (by decide +kernel) jk_310
set_option maxRecDepth 100000 in
theorem jf_310 : sx_mf 310 := sx_mfA (c := 12) rfl rfl sx_cls12 (lw_t1 (tq_9_3 _ (List.mem_of_getElem? (i := 0) rfl))) (by decide +kernel) (Nat.le_of_ble_eq_true rfl) (Or.inr (Or.inl ⟨rfl, sx_tb_mm (lw_t1 (tq_9_2 _ (List.mem_of_getElem? (i := 15) rfl))) rfl, sx_tb_mm (lw_t0 (⟨"SpoutNewsModel", "shareOf", "(II)I"⟩, 65) (lw_pk8 _ (List.mem_of_getElem? (i := 14) rfl))) rfl⟩)) jo_310
-- SpoutNewsModel.drought
theorem jk_311 : sq_w 311 (sx_b 311).data.toList 0 = true := by decide +kernel
theorem jo_311 : sx_ok 311 := sq_ok_of 311 (fun pc hp => by
    show jt_311 pc = none
    unfold jt_311
    rw [Nat.ble_eq_true_of_le (show 64 ≤ pc from hp)]
    rfl) (by decide +kernel) jk_311
set_option maxRecDepth 100000 in
theorem jf_311 : sx_mf 311 := sx_mfA (c := 12) rfl rfl sx_cls12 (lw_t1 (tq_9_3 _ (List.mem_of_getElem? (i := 4) rfl))) (by decide +kernel) (Nat.le_of_ble_eq_true rfl) (Or.inr (Or.inl ⟨rfl, sx_tb_mm (lw_t1 (tq_9_3 _ (List.mem_of_getElem? (i := 2) rfl))) rfl, sx_tb_mm (lw_t1 (tq_9_3 _ (List.mem_of_getElem? (i := 3) rfl))) rfl⟩)) jo_311
-- SpoutNewsModel.longest
theorem jk_312 : sq_w 312 (sx_b 312).data.toList 0 = true := by decide +kernel
theorem jo_312 : sx_ok 312 := sq_ok_of 312 (fun pc hp => by
    show jt_312 pc = none
    unfold jt_312
    rw [Nat.ble_eq_true_of_le (show 89 ≤ pc from hp)]
    rfl) (by decide +kernel) jk_312
set_option maxRecDepth 100000 in
theorem jf_312 : sx_mf 312 := sx_mfA (c := 12) rfl rfl sx_cls12 (lw_t1 (tq_9_3 _ (List.mem_of_getElem? (i := 8) rfl))) (by decide +kernel) (Nat.le_of_ble_eq_true rfl) (Or.inr (Or.inl ⟨rfl, sx_tb_mm (lw_t1 (tq_9_3 _ (List.mem_of_getElem? (i := 6) rfl))) rfl, sx_tb_mm (lw_t1 (tq_9_3 _ (List.mem_of_getElem? (i := 7) rfl))) rfl⟩)) jo_312
-- SpoutNewsModel.leans
theorem jk_313 : sq_w 313 (sx_b 313).data.toList 0 = true := by decide +kernel
theorem jo_313 : sx_ok 313 := sq_ok_of 313 (fun pc hp => by
    show jt_313 pc = none
    unfold jt_313
    rw [Nat.ble_eq_true_of_le (show 55 ≤ pc from hp)]
    rfl) (by decide +kernel) jk_313
set_option maxRecDepth 100000 in
theorem jf_313 : sx_mf 313 := sx_mfA (c := 12) rfl rfl sx_cls12 (lw_t1 (tq_9_3 _ (List.mem_of_getElem? (i := 12) rfl))) (by decide +kernel) (Nat.le_of_ble_eq_true rfl) (Or.inr (Or.inl ⟨rfl, sx_tb_mm (lw_t1 (tq_9_3 _ (List.mem_of_getElem? (i := 10) rfl))) rfl, sx_tb_mm (lw_t1 (tq_9_3 _ (List.mem_of_getElem? (i := 11) rfl))) rfl⟩)) jo_313
-- SpoutNewsModel.leansFrom
theorem jk_314 : sq_w 314 (sx_b 314).data.toList 0 = true := by decide +kernel
theorem jo_314 : sx_ok 314 := sq_ok_of 314 (fun pc hp => by
    show jt_314 pc = none
    unfold jt_314
    rw [Nat.ble_eq_true_of_le (show 32 ≤ pc from hp)]
    rfl) (by decide +kernel) jk_314
set_option maxRecDepth 100000 in
theorem jf_314 : sx_mf 314 := sx_mfA (c := 12) rfl rfl sx_cls12 (lw_t1 (tq_9_4 _ (List.mem_of_getElem? (i := 0) rfl))) (by decide +kernel) (Nat.le_of_ble_eq_true rfl) (Or.inr (Or.inl ⟨rfl, sx_tb_mm (lw_t1 (tq_9_3 _ (List.mem_of_getElem? (i := 15) rfl))) rfl, sx_tb_mm (lw_t0 (⟨"SpoutNewsModel", "leansFrom", "(II)I"⟩, 65) (lw_pk8 _ (List.mem_of_getElem? (i := 15) rfl))) rfl⟩)) jo_314
-- SpoutNewsModel.chapter
theorem jk_315 : sq_w 315 (sx_b 315).data.toList 0 = true := by decide +kernel
theorem jo_315 : sx_ok 315 := sq_ok_of 315 (fun pc hp => by
    show jt_315 pc = none
    unfold jt_315
    rw [Nat.ble_eq_true_of_le (show 64 ≤ pc from hp)]
    rfl) (by decide +kernel) jk_315
set_option maxRecDepth 100000 in
theorem jf_315 : sx_mf 315 := sx_mfA (c := 12) rfl rfl sx_cls12 (lw_t1 (tq_9_4 _ (List.mem_of_getElem? (i := 4) rfl))) (by decide +kernel) (Nat.le_of_ble_eq_true rfl) (Or.inr (Or.inl ⟨rfl, sx_tb_mm (lw_t1 (tq_9_4 _ (List.mem_of_getElem? (i := 2) rfl))) rfl, sx_tb_mm (lw_t1 (tq_9_4 _ (List.mem_of_getElem? (i := 3) rfl))) rfl⟩)) jo_315
-- SpoutNewsModel.read
theorem jk_316 : sq_w 316 (sx_b 316).data.toList 0 = true := by decide +kernel
theorem jo_316 : sx_ok 316 := sq_ok_of 316 (fun pc hp => by
    show jt_316 pc = none
    unfold jt_316
    rw [Nat.ble_eq_true_of_le (show 102 ≤ pc from hp)]
    rfl) (by decide +kernel) jk_316
set_option maxRecDepth 100000 in
theorem jf_316 : sx_mf 316 := sx_mfA (c := 12) rfl rfl sx_cls12 (lw_t1 (tq_9_4 _ (List.mem_of_getElem? (i := 8) rfl))) (by decide +kernel) (Nat.le_of_ble_eq_true rfl) (Or.inr (Or.inl ⟨rfl, sx_tb_mm (lw_t1 (tq_9_4 _ (List.mem_of_getElem? (i := 6) rfl))) rfl, sx_tb_mm (lw_t1 (tq_9_4 _ (List.mem_of_getElem? (i := 7) rfl))) rfl⟩)) jo_316
-- SpoutNewsModel.findsRead
theorem jk_317 : sq_w 317 (sx_b 317).data.toList 0 = true := by decide +kernel
theorem jo_317 : sx_ok 317 := sq_ok_of 317 (fun pc hp => by
    show jt_317 pc = none
    unfold jt_317
    rw [Nat.ble_eq_true_of_le (show 124 ≤ pc from hp)]
    rfl) (by decide +kernel) jk_317
set_option maxRecDepth 100000 in
theorem jf_317 : sx_mf 317 := sx_mfA (c := 12) rfl rfl sx_cls12 (lw_t1 (tq_9_4 _ (List.mem_of_getElem? (i := 12) rfl))) (by decide +kernel) (Nat.le_of_ble_eq_true rfl) (Or.inr (Or.inl ⟨rfl, sx_tb_mm (lw_t1 (tq_9_4 _ (List.mem_of_getElem? (i := 11) rfl))) rfl, sx_tb_mm (lw_t0 (⟨"SpoutNewsModel", "findsRead", "(I)V"⟩, 65) (lw_pk9 _ (List.mem_of_getElem? (i := 0) rfl))) rfl⟩)) jo_317
