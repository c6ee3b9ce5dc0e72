-- by program (wip/gen/mk12.py, mkfast.py): the tables of methods hold
-- SpoutNewsModel.minutesOf
theorem jk_318 : sq_w 318 (sx_b 318).data.toList 0 = true := by decide +kernel
theorem jo_318 : sx_ok 318 := sq_ok_of 318 (fun pc hp => by
    show jt_318 pc = none
    unfold jt_318
    rw [Nat.ble_eq_true_of_le (show 29 ≤ pc from hp)]
    rfl) (by decide +kernel) jk_318
set_option maxRecDepth 100000 in
theorem jf_318 : sx_mf 318 := sx_mfA (c := 12) rfl rfl sx_cls12 (lw_t1 (tq_9_5 _ (List.mem_of_getElem? (i := 0) rfl))) (by decide +kernel) (Nat.le_of_ble_eq_true rfl) (Or.inr (Or.inl ⟨rfl, sx_tb_mm (lw_t1 (tq_9_4 _ (List.mem_of_getElem? (i := 15) rfl))) rfl, sx_tb_mm (lw_t0 (⟨"SpoutNewsModel", "minutesOf", "(II)I"⟩, 65) (lw_pk9 _ (List.mem_of_getElem? (i := 1) rfl))) rfl⟩)) jo_318
-- SpoutNewsModel.game
theorem jk_319 : sq_w 319 (sx_b 319).data.toList 0 = true := by decide +kernel
theorem jo_319 : sx_ok 319 := sq_ok_of 319 (fun pc hp => by
    show jt_319 pc = none
    unfold jt_319
    rw [Nat.ble_eq_true_of_le (show 132 ≤ pc from hp)]
    rfl) (by decide +kernel) jk_319
set_option maxRecDepth 100000 in
theorem jf_319 : sx_mf 319 := sx_mfA (c := 12) rfl rfl sx_cls12 (lw_t1 (tq_9_5 _ (List.mem_of_getElem? (i := 4) rfl))) (by decide +kernel) (Nat.le_of_ble_eq_true rfl) (Or.inr (Or.inl ⟨rfl, sx_tb_mm (lw_t1 (tq_9_5 _ (List.mem_of_getElem? (i := 2) rfl))) rfl, sx_tb_mm (lw_t1 (tq_9_5 _ (List.mem_of_getElem? (i := 3) rfl))) rfl⟩)) jo_319
-- SpoutNewsModel.image
theorem jk_320 : sq_w 320 (sx_b 320).data.toList 0 = true := by decide +kernel
theorem jo_320 : sx_ok 320 := sq_ok_of 320 (fun pc hp => by
    show jt_320 pc = none
    unfold jt_320
    rw [Nat.ble_eq_true_of_le (show 118 ≤ pc from hp)]
    rfl) (by decide +kernel) jk_320
set_option maxRecDepth 100000 in
theorem jf_320 : sx_mf 320 := sx_mfA (c := 12) rfl rfl sx_cls12 (lw_t1 (tq_9_5 _ (List.mem_of_getElem? (i := 8) rfl))) (by decide +kernel) (Nat.le_of_ble_eq_true rfl) (Or.inr (Or.inl ⟨rfl, sx_tb_mm (lw_t1 (tq_9_5 _ (List.mem_of_getElem? (i := 6) rfl))) rfl, sx_tb_mm (lw_t1 (tq_9_5 _ (List.mem_of_getElem? (i := 7) rfl))) rfl⟩)) jo_320
-- SpoutNewsModel.keepsOne
theorem jk_321 : sq_w 321 (sx_b 321).data.toList 0 = true := by decide +kernel
theorem jo_321 : sx_ok 321 := sq_ok_of 321 (fun pc hp => by
    show jt_321 pc = none
    unfold jt_321
    rw [Nat.ble_eq_true_of_le (show 43 ≤ pc from hp)]
    rfl) (by decide +kernel) jk_321
set_option maxRecDepth 100000 in
theorem jf_321 : sx_mf 321 := sx_mfA (c := 12) rfl rfl sx_cls12 (lw_t1 (tq_9_5 _ (List.mem_of_getElem? (i := 12) rfl))) (by decide +kernel) (Nat.le_of_ble_eq_true rfl) (Or.inr (Or.inl ⟨rfl, sx_tb_mm (lw_t1 (tq_9_5 _ (List.mem_of_getElem? (i := 11) rfl))) rfl, sx_tb_mm (lw_t0 (⟨"SpoutNewsModel", "keepsOne", "(I)I"⟩, 65) (lw_pk9 _ (List.mem_of_getElem? (i := 2) rfl))) rfl⟩)) jo_321
-- SpoutNewsModel.keepsMany
theorem jk_322 : sq_w 322 (sx_b 322).data.toList 0 = true := by decide +kernel
theorem jo_322 : sx_ok 322 := sq_ok_of 322 (fun pc hp => by
    show jt_322 pc = none
    unfold jt_322
    rw [Nat.ble_eq_true_of_le (show 109 ≤ pc from hp)]
    rfl) (by decide +kernel) jk_322
set_option maxRecDepth 100000 in
theorem jf_322 : sx_mf 322 := sx_mfA (c := 12) rfl rfl sx_cls12 (lw_t1 (tq_9_6 _ (List.mem_of_getElem? (i := 0) rfl))) (by decide +kernel) (Nat.le_of_ble_eq_true rfl) (Or.inr (Or.inl ⟨rfl, sx_tb_mm (lw_t1 (tq_9_5 _ (List.mem_of_getElem? (i := 15) rfl))) rfl, sx_tb_mm (lw_t0 (⟨"SpoutNewsModel", "keepsMany", "()V"⟩, 65) (lw_pk9 _ (List.mem_of_getElem? (i := 3) rfl))) rfl⟩)) jo_322
-- SpoutNewsModel.keepsTold
theorem jk_323 : sq_w 323 (sx_b 323).data.toList 0 = true := by decide +kernel
theorem jo_323 : sx_ok 323 := sq_ok_of 323 (fun pc hp => by
    show jt_323 pc = none
    unfold jt_323
    rw [Nat.ble_eq_true_of_le (show 321 ≤ pc from hp)]
    rfl) (by decide +kernel) jk_323
set_option maxRecDepth 100000 in
theorem jf_323 : sx_mf 323 := sx_mfA (c := 12) rfl rfl sx_cls12 (lw_t1 (tq_9_6 _ (List.mem_of_getElem? (i := 4) rfl))) (by decide +kernel) (Nat.le_of_ble_eq_true rfl) (Or.inr (Or.inl ⟨rfl, sx_tb_mm (lw_t1 (tq_9_6 _ (List.mem_of_getElem? (i := 3) rfl))) rfl, sx_tb_mm (lw_t0 (⟨"SpoutNewsModel", "keepsTold", "()V"⟩, 65) (lw_pk9 _ (List.mem_of_getElem? (i := 4) rfl))) rfl⟩)) jo_323
-- SpoutNewsModel.keepsLaw
theorem jk_324 : sq_w 324 (sx_b 324).data.toList 0 = true := by decide +kernel
theorem jo_324 : sx_ok 324 := sq_ok_of 324 (fun pc hp => by
    show jt_324 pc = none
    unfold jt_324
    rw [Nat.ble_eq_true_of_le (show 142 ≤ pc from hp)]
    rfl) (by decide +kernel) jk_324
set_option maxRecDepth 100000 in
theorem jf_324 : sx_mf 324 := sx_mfA (c := 12) rfl rfl sx_cls12 (lw_t1 (tq_9_6 _ (List.mem_of_getElem? (i := 8) rfl))) (by decide +kernel) (Nat.le_of_ble_eq_true rfl) (Or.inr (Or.inl ⟨rfl, sx_tb_mm (lw_t1 (tq_9_6 _ (List.mem_of_getElem? (i := 7) rfl))) rfl, sx_tb_mm (lw_t0 (⟨"SpoutNewsModel", "keepsLaw", "()V"⟩, 65) (lw_pk9 _ (List.mem_of_getElem? (i := 5) rfl))) rfl⟩)) jo_324
-- SpoutNewsModel.look
theorem jk_325 : sq_w 325 (sx_b 325).data.toList 0 = true := by decide +kernel
theorem jo_325 : sx_ok 325 := sq_ok_of 325 (fun pc hp => by
    show jt_325 pc = none
    unfold jt_325
    rw [Nat.ble_eq_true_of_le (show 159 ≤ pc from hp)]
    rfl) (by decide +kernel) jk_325
set_option maxRecDepth 100000 in
theorem jf_325 : sx_mf 325 := sx_mfA (c := 12) rfl rfl sx_cls12 (lw_t1 (tq_9_6 _ (List.mem_of_getElem? (i := 12) rfl))) (by decide +kernel) (Nat.le_of_ble_eq_true rfl) (Or.inr (Or.inl ⟨rfl, sx_tb_mm (lw_t1 (tq_9_6 _ (List.mem_of_getElem? (i := 10) rfl))) rfl, sx_tb_mm (lw_t1 (tq_9_6 _ (List.mem_of_getElem? (i := 11) rfl))) rfl⟩)) jo_325
-- SpoutNewsLaw.law
theorem jk_326 : sq_w 326 (sx_b 326).data.toList 0 = true := by decide +kernel
theorem jo_326 : sx_ok 326 := sq_ok_of 326 (fun pc hp => by
    show jt_326 pc = none
    unfold jt_326
    rw [Nat.ble_eq_true_of_le (show 1364 ≤ pc from hp)]
    rfl) (by decide +kernel) jk_326
