-- by program (wip/gen/mk12.py, mkfast.py): the tables of methods hold
-- SpoutNews.<init>
theorem jk_0 : sq_w 0 (sx_b 0).data.toList 0 = true := by decide +kernel
theorem jo_0 : sx_ok 0 := sq_ok_of 0 (fun pc hp => by
    show jt_0 pc = none
    unfold jt_0
    rw [Nat.ble_eq_true_of_le (show 114 ≤ pc from hp)]
    rfl) (by decide +kernel) jk_0
set_option maxRecDepth 100000 in
theorem jf_0 : sx_mf 0 := sx_mfA (c := 11) rfl rfl sx_cls11 (lw_t1 (tq_1_1 _ (List.mem_of_getElem? (i := 10) rfl))) (by decide +kernel) (Nat.le_of_ble_eq_true rfl) (Or.inr (Or.inr ⟨rfl, sx_tb_mm (lw_t1 (tq_1_1 _ (List.mem_of_getElem? (i := 9) rfl))) rfl, rfl, rfl⟩)) jo_0
-- SpoutNews$Cathedral.<init>
theorem jk_2 : sq_w 2 (sx_b 2).data.toList 0 = true := by decide +kernel
theorem jo_2 : sx_ok 2 := sq_ok_of 2 (fun pc hp => by
    show jt_2 pc = none
    unfold jt_2
    rw [Nat.ble_eq_true_of_le (show 50 ≤ pc from hp)]
    rfl) (by decide +kernel) jk_2
set_option maxRecDepth 100000 in
theorem jf_2 : sx_mf 2 := sx_mfA (c := 1) rfl rfl sx_cls1 (lw_t1 (tq_1_2 _ (List.mem_of_getElem? (i := 2) rfl))) (by decide +kernel) (Nat.le_of_ble_eq_true rfl) (Or.inr (Or.inr ⟨rfl, sx_tb_mm (lw_t1 (tq_1_2 _ (List.mem_of_getElem? (i := 1) rfl))) rfl, rfl, rfl⟩)) jo_2
-- SpoutNews$World.<init>
theorem jk_3 : sq_w 3 (sx_b 3).data.toList 0 = true := by decide +kernel
theorem jo_3 : sx_ok 3 := sq_ok_of 3 (fun pc hp => by
    show jt_3 pc = none
    unfold jt_3
    rw [Nat.ble_eq_true_of_le (show 107 ≤ pc from hp)]
    rfl) (by decide +kernel) jk_3
set_option maxRecDepth 100000 in
theorem jf_3 : sx_mf 3 := sx_mfA (c := 10) rfl rfl sx_cls10 (lw_t1 (tq_1_2 _ (List.mem_of_getElem? (i := 8) rfl))) (by decide +kernel) (Nat.le_of_ble_eq_true rfl) (Or.inr (Or.inr ⟨rfl, sx_tb_mm (lw_t1 (tq_1_2 _ (List.mem_of_getElem? (i := 7) rfl))) rfl, rfl, rfl⟩)) jo_3
-- java/util/Arrays.fill
theorem jk_4 : sq_w 4 (sx_b 4).data.toList 0 = true := by decide +kernel
theorem jo_4 : sx_ok 4 := sq_ok_of 4 (fun pc hp => by
    show jt_4 pc = none
    unfold jt_4
    rw [Nat.ble_eq_true_of_le (show 21 ≤ pc from hp)]
    rfl) (by decide +kernel) jk_4
set_option maxRecDepth 100000 in
theorem jf_4 : sx_mf 4 := sx_mfA (c := 20) rfl rfl sx_cls20 (lw_t1 (tq_1_2 _ (List.mem_of_getElem? (i := 12) rfl))) (by decide +kernel) (Nat.le_of_ble_eq_true rfl) (Or.inl ⟨rfl, sx_tb_mm (lw_t1 (tq_1_2 _ (List.mem_of_getElem? (i := 11) rfl))) rfl⟩) jo_4
-- SpoutNews$Book.<init>
theorem jk_5 : sq_w 5 (sx_b 5).data.toList 0 = true := by decide +kernel
theorem jo_5 : sx_ok 5 := sq_ok_of 5 (fun pc hp => by
    show jt_5 pc = none
    unfold jt_5
    rw [Nat.ble_eq_true_of_le (show 41 ≤ pc from hp)]
    rfl) (by decide +kernel) jk_5
set_option maxRecDepth 100000 in
theorem jf_5 : sx_mf 5 := sx_mfA (c := 0) rfl rfl sx_cls0 (lw_t1 (tq_1_9 _ (List.mem_of_getElem? (i := 14) rfl))) (by decide +kernel) (Nat.le_of_ble_eq_true rfl) (Or.inr (Or.inr ⟨rfl, sx_tb_mm (lw_t1 (tq_1_9 _ (List.mem_of_getElem? (i := 13) rfl))) rfl, rfl, rfl⟩)) jo_5
-- SpoutNews$Texts.<init>
theorem jk_6 : sq_w 6 (sx_b 6).data.toList 0 = true := by decide +kernel
theorem jo_6 : sx_ok 6 := sq_ok_of 6 (fun pc hp => by
    show jt_6 pc = none
    unfold jt_6
    rw [Nat.ble_eq_true_of_le (show 80 ≤ pc from hp)]
    rfl) (by decide +kernel) jk_6
set_option maxRecDepth 100000 in
theorem jf_6 : sx_mf 6 := sx_mfA (c := 6) rfl rfl sx_cls6 (lw_t1 (tq_1_11 _ (List.mem_of_getElem? (i := 5) rfl))) (by decide +kernel) (Nat.le_of_ble_eq_true rfl) (Or.inr (Or.inr ⟨rfl, sx_tb_mm (lw_t1 (tq_1_11 _ (List.mem_of_getElem? (i := 4) rfl))) rfl, rfl, rfl⟩)) jo_6
-- SpoutNews$Law.<init>
theorem jk_7 : sq_w 7 (sx_b 7).data.toList 0 = true := by decide +kernel
theorem jo_7 : sx_ok 7 := sq_ok_of 7 (fun pc hp => by
    show jt_7 pc = none
    unfold jt_7
    rw [Nat.ble_eq_true_of_le (show 71 ≤ pc from hp)]
    rfl) (by decide +kernel) jk_7
set_option maxRecDepth 100000 in
theorem jf_7 : sx_mf 7 := sx_mfA (c := 3) rfl rfl sx_cls3 (lw_t1 (tq_1_11 _ (List.mem_of_getElem? (i := 11) rfl))) (by decide +kernel) (Nat.le_of_ble_eq_true rfl) (Or.inr (Or.inr ⟨rfl, sx_tb_mm (lw_t1 (tq_1_11 _ (List.mem_of_getElem? (i := 10) rfl))) rfl, rfl, rfl⟩)) jo_7
-- SpoutNews$Told.<init>
theorem jk_8 : sq_w 8 (sx_b 8).data.toList 0 = true := by decide +kernel
theorem jo_8 : sx_ok 8 := sq_ok_of 8 (fun pc hp => by
    show jt_8 pc = none
    unfold jt_8
    rw [Nat.ble_eq_true_of_le (show 130 ≤ pc from hp)]
    rfl) (by decide +kernel) jk_8
set_option maxRecDepth 100000 in
theorem jf_8 : sx_mf 8 := sx_mfA (c := 9) rfl rfl sx_cls9 (lw_t1 (tq_2_1 _ (List.mem_of_getElem? (i := 15) rfl))) (by decide +kernel) (Nat.le_of_ble_eq_true rfl) (Or.inr (Or.inr ⟨rfl, sx_tb_mm (lw_t1 (tq_2_1 _ (List.mem_of_getElem? (i := 14) rfl))) rfl, rfl, rfl⟩)) jo_8
-- SpoutNews$Past.<init>
theorem jk_9 : sq_w 9 (sx_b 9).data.toList 0 = true := by decide +kernel
theorem jo_9 : sx_ok 9 := sq_ok_of 9 (fun pc hp => by
    show jt_9 pc = none
    unfold jt_9
    rw [Nat.ble_eq_true_of_le (show 42 ≤ pc from hp)]
    rfl) (by decide +kernel) jk_9
set_option maxRecDepth 100000 in
theorem jf_9 : sx_mf 9 := sx_mfA (c := 5) rfl rfl sx_cls5 (lw_t1 (tq_2_7 _ (List.mem_of_getElem? (i := 5) rfl))) (by decide +kernel) (Nat.le_of_ble_eq_true rfl) (Or.inr (Or.inr ⟨rfl, sx_tb_mm (lw_t1 (tq_2_7 _ (List.mem_of_getElem? (i := 4) rfl))) rfl, rfl, rfl⟩)) jo_9
-- SpoutNews$DayRun.<init>
theorem jk_10 : sq_w 10 (sx_b 10).data.toList 0 = true := by decide +kernel
theorem jo_10 : sx_ok 10 := sq_ok_of 10 (fun pc hp => by
    show jt_10 pc = none
    unfold jt_10
    rw [Nat.ble_eq_true_of_le (show 21 ≤ pc from hp)]
    rfl) (by decide +kernel) jk_10
set_option maxRecDepth 100000 in
theorem jf_10 : sx_mf 10 := sx_mfA (c := 2) rfl rfl sx_cls2 (lw_t1 (tq_2_8 _ (List.mem_of_getElem? (i := 11) rfl))) (by decide +kernel) (Nat.le_of_ble_eq_true rfl) (Or.inr (Or.inr ⟨rfl, sx_tb_mm (lw_t1 (tq_2_8 _ (List.mem_of_getElem? (i := 10) rfl))) rfl, rfl, rfl⟩)) jo_10
-- SpoutNews$Thought.<init>
theorem jk_11 : sq_w 11 (sx_b 11).data.toList 0 = true := by decide +kernel
theorem jo_11 : sx_ok 11 := sq_ok_of 11 (fun pc hp => by
    show jt_11 pc = none
    unfold jt_11
    rw [Nat.ble_eq_true_of_le (show 74 ≤ pc from hp)]
    rfl) (by decide +kernel) jk_11
set_option maxRecDepth 100000 in
theorem jf_11 : sx_mf 11 := sx_mfA (c := 7) rfl rfl sx_cls7 (lw_t1 (tq_2_9 _ (List.mem_of_getElem? (i := 11) rfl))) (by decide +kernel) (Nat.le_of_ble_eq_true rfl) (Or.inr (Or.inr ⟨rfl, sx_tb_mm (lw_t1 (tq_2_9 _ (List.mem_of_getElem? (i := 10) rfl))) rfl, rfl, rfl⟩)) jo_11
-- SpoutNews$Tokens.<init>
theorem jk_12 : sq_w 12 (sx_b 12).data.toList 0 = true := by decide +kernel
theorem jo_12 : sx_ok 12 := sq_ok_of 12 (fun pc hp => by
    show jt_12 pc = none
    unfold jt_12
    rw [Nat.ble_eq_true_of_le (show 37 ≤ pc from hp)]
    rfl) (by decide +kernel) jk_12
set_option maxRecDepth 100000 in
theorem jf_12 : sx_mf 12 := sx_mfA (c := 8) rfl rfl sx_cls8 (lw_t1 (tq_2_12 _ (List.mem_of_getElem? (i := 14) rfl))) (by decide +kernel) (Nat.le_of_ble_eq_true rfl) (Or.inr (Or.inr ⟨rfl, sx_tb_mm (lw_t1 (tq_2_12 _ (List.mem_of_getElem? (i := 13) rfl))) rfl, rfl, rfl⟩)) jo_12
-- SpoutNews$LawReader.<init>
theorem jk_13 : sq_w 13 (sx_b 13).data.toList 0 = true := by decide +kernel
theorem jo_13 : sx_ok 13 := sq_ok_of 13 (fun pc hp => by
    show jt_13 pc = none
    unfold jt_13
    rw [Nat.ble_eq_true_of_le (show 13 ≤ pc from hp)]
    rfl) (by decide +kernel) jk_13
set_option maxRecDepth 100000 in
theorem jf_13 : sx_mf 13 := sx_mfA (c := 4) rfl rfl sx_cls4 (lw_t1 (tq_2_14 _ (List.mem_of_getElem? (i := 14) rfl))) (by decide +kernel) (Nat.le_of_ble_eq_true rfl) (Or.inr (Or.inr ⟨rfl, sx_tb_mm (lw_t1 (tq_2_14 _ (List.mem_of_getElem? (i := 13) rfl))) rfl, rfl, rfl⟩)) jo_13
-- SpoutNews.state
theorem jk_14 : sq_w 14 (sx_b 14).data.toList 0 = true := by decide +kernel
theorem jo_14 : sx_ok 14 := sq_ok_of 14 (fun pc hp => by
    show jt_14 pc = none
    unfold jt_14
    rw [Nat.ble_eq_true_of_le (show 31 ≤ pc from hp)]
    rfl) (by decide +kernel) jk_14
set_option maxRecDepth 100000 in
theorem jf_14 : sx_mf 14 := sx_mfA (c := 11) rfl rfl sx_cls11 (lw_t1 (tq_3_3 _ (List.mem_of_getElem? (i := 5) rfl))) (by decide +kernel) (Nat.le_of_ble_eq_true rfl) (Or.inr (Or.inl ⟨rfl, sx_tb_mm (lw_t1 (tq_3_3 _ (List.mem_of_getElem? (i := 3) rfl))) rfl, sx_tb_mm (lw_t1 (tq_3_3 _ (List.mem_of_getElem? (i := 4) rfl))) rfl⟩)) jo_14
-- SpoutNews$Past.forget
theorem jk_15 : sq_w 15 (sx_b 15).data.toList 0 = true := by decide +kernel
theorem jo_15 : sx_ok 15 := sq_ok_of 15 (fun pc hp => by
    show jt_15 pc = none
    unfold jt_15
    rw [Nat.ble_eq_true_of_le (show 6 ≤ pc from hp)]
    rfl) (by decide +kernel) jk_15
set_option maxRecDepth 100000 in
theorem jf_15 : sx_mf 15 := sx_mfA (c := 5) rfl rfl sx_cls5 (lw_t1 (tq_3_3 _ (List.mem_of_getElem? (i := 9) rfl))) (by decide +kernel) (Nat.le_of_ble_eq_true rfl) (Or.inr (Or.inl ⟨rfl, sx_tb_mm (lw_t1 (tq_3_3 _ (List.mem_of_getElem? (i := 7) rfl))) rfl, sx_tb_mm (lw_t1 (tq_3_3 _ (List.mem_of_getElem? (i := 8) rfl))) rfl⟩)) jo_15
-- SpoutNews.spout
theorem jk_16 : sq_w 16 (sx_b 16).data.toList 0 = true := by decide +kernel
theorem jo_16 : sx_ok 16 := sq_ok_of 16 (fun pc hp => by
    show jt_16 pc = none
    unfold jt_16
    rw [Nat.ble_eq_true_of_le (show 68 ≤ pc from hp)]
    rfl) (by decide +kernel) jk_16
set_option maxRecDepth 100000 in
theorem jf_16 : sx_mf 16 := sx_mfA (c := 11) rfl rfl sx_cls11 (lw_t1 (tq_3_3 _ (List.mem_of_getElem? (i := 13) rfl))) (by decide +kernel) (Nat.le_of_ble_eq_true rfl) (Or.inr (Or.inl ⟨rfl, sx_tb_mm (lw_t1 (tq_3_3 _ (List.mem_of_getElem? (i := 11) rfl))) rfl, sx_tb_mm (lw_t1 (tq_3_3 _ (List.mem_of_getElem? (i := 12) rfl))) rfl⟩)) jo_16
-- SpoutNews$World.addSpout
theorem jk_17 : sq_w 17 (sx_b 17).data.toList 0 = true := by decide +kernel
theorem jo_17 : sx_ok 17 := sq_ok_of 17 (fun pc hp => by
    show jt_17 pc = none
    unfold jt_17
    rw [Nat.ble_eq_true_of_le (show 74 ≤ pc from hp)]
    rfl) (by decide +kernel) jk_17
set_option maxRecDepth 100000 in
theorem jf_17 : sx_mf 17 := sx_mfA (c := 10) rfl rfl sx_cls10 (lw_t1 (tq_3_4 _ (List.mem_of_getElem? (i := 1) rfl))) (by decide +kernel) (Nat.le_of_ble_eq_true rfl) (Or.inr (Or.inl ⟨rfl, sx_tb_mm (lw_t1 (tq_3_3 _ (List.mem_of_getElem? (i := 15) rfl))) rfl, sx_tb_mm (lw_t1 (tq_3_4 _ (List.mem_of_getElem? (i := 0) rfl))) rfl⟩)) jo_17
-- SpoutNews.sitter
theorem jk_18 : sq_w 18 (sx_b 18).data.toList 0 = true := by decide +kernel
theorem jo_18 : sx_ok 18 := sq_ok_of 18 (fun pc hp => by
    show jt_18 pc = none
    unfold jt_18
    rw [Nat.ble_eq_true_of_le (show 43 ≤ pc from hp)]
    rfl) (by decide +kernel) jk_18
set_option maxRecDepth 100000 in
theorem jf_18 : sx_mf 18 := sx_mfA (c := 11) rfl rfl sx_cls11 (lw_t1 (tq_3_4 _ (List.mem_of_getElem? (i := 5) rfl))) (by decide +kernel) (Nat.le_of_ble_eq_true rfl) (Or.inr (Or.inl ⟨rfl, sx_tb_mm (lw_t1 (tq_3_4 _ (List.mem_of_getElem? (i := 3) rfl))) rfl, sx_tb_mm (lw_t1 (tq_3_4 _ (List.mem_of_getElem? (i := 4) rfl))) rfl⟩)) jo_18
-- SpoutNews.isWordSet
theorem jk_19 : sq_w 19 (sx_b 19).data.toList 0 = true := by decide +kernel
theorem jo_19 : sx_ok 19 := sq_ok_of 19 (fun pc hp => by
    show jt_19 pc = none
    unfold jt_19
    rw [Nat.ble_eq_true_of_le (show 17 ≤ pc from hp)]
    rfl) (by decide +kernel) jk_19
set_option maxRecDepth 100000 in
theorem jf_19 : sx_mf 19 := sx_mfA (c := 11) rfl rfl sx_cls11 (lw_t1 (tq_3_4 _ (List.mem_of_getElem? (i := 8) rfl))) (by decide +kernel) (Nat.le_of_ble_eq_true rfl) (Or.inl ⟨rfl, sx_tb_mm (lw_t1 (tq_3_4 _ (List.mem_of_getElem? (i := 7) rfl))) rfl⟩) jo_19
-- SpoutNews$World.addSitter
theorem jk_20 : sq_w 20 (sx_b 20).data.toList 0 = true := by decide +kernel
theorem jo_20 : sx_ok 20 := sq_ok_of 20 (fun pc hp => by
    show jt_20 pc = none
    unfold jt_20
    rw [Nat.ble_eq_true_of_le (show 36 ≤ pc from hp)]
    rfl) (by decide +kernel) jk_20
set_option maxRecDepth 100000 in
theorem jf_20 : sx_mf 20 := sx_mfA (c := 10) rfl rfl sx_cls10 (lw_t1 (tq_3_4 _ (List.mem_of_getElem? (i := 13) rfl))) (by decide +kernel) (Nat.le_of_ble_eq_true rfl) (Or.inr (Or.inl ⟨rfl, sx_tb_mm (lw_t1 (tq_3_4 _ (List.mem_of_getElem? (i := 11) rfl))) rfl, sx_tb_mm (lw_t1 (tq_3_4 _ (List.mem_of_getElem? (i := 12) rfl))) rfl⟩)) jo_20
-- SpoutNews.set
theorem jk_21 : sq_w 21 (sx_b 21).data.toList 0 = true := by decide +kernel
theorem jo_21 : sx_ok 21 := sq_ok_of 21 (fun pc hp => by
    show jt_21 pc = none
    unfold jt_21
    rw [Nat.ble_eq_true_of_le (show 245 ≤ pc from hp)]
    rfl) (by decide +kernel) jk_21
set_option maxRecDepth 100000 in
theorem jf_21 : sx_mf 21 := sx_mfA (c := 11) rfl rfl sx_cls11 (lw_t1 (tq_3_5 _ (List.mem_of_getElem? (i := 1) rfl))) (by decide +kernel) (Nat.le_of_ble_eq_true rfl) (Or.inr (Or.inl ⟨rfl, sx_tb_mm (lw_t1 (tq_3_4 _ (List.mem_of_getElem? (i := 15) rfl))) rfl, sx_tb_mm (lw_t1 (tq_3_5 _ (List.mem_of_getElem? (i := 0) rfl))) rfl⟩)) jo_21
-- SpoutNews$World.isSpout
theorem jk_22 : sq_w 22 (sx_b 22).data.toList 0 = true := by decide +kernel
theorem jo_22 : sx_ok 22 := sq_ok_of 22 (fun pc hp => by
    show jt_22 pc = none
    unfold jt_22
    rw [Nat.ble_eq_true_of_le (show 18 ≤ pc from hp)]
    rfl) (by decide +kernel) jk_22
set_option maxRecDepth 100000 in
theorem jf_22 : sx_mf 22 := sx_mfA (c := 10) rfl rfl sx_cls10 (lw_t1 (tq_3_5 _ (List.mem_of_getElem? (i := 5) rfl))) (by decide +kernel) (Nat.le_of_ble_eq_true rfl) (Or.inr (Or.inl ⟨rfl, sx_tb_mm (lw_t1 (tq_3_5 _ (List.mem_of_getElem? (i := 3) rfl))) rfl, sx_tb_mm (lw_t1 (tq_3_5 _ (List.mem_of_getElem? (i := 4) rfl))) rfl⟩)) jo_22
-- SpoutNews$World.isSitter
theorem jk_23 : sq_w 23 (sx_b 23).data.toList 0 = true := by decide +kernel
theorem jo_23 : sx_ok 23 := sq_ok_of 23 (fun pc hp => by
    show jt_23 pc = none
    unfold jt_23
    rw [Nat.ble_eq_true_of_le (show 18 ≤ pc from hp)]
    rfl) (by decide +kernel) jk_23
set_option maxRecDepth 100000 in
theorem jf_23 : sx_mf 23 := sx_mfA (c := 10) rfl rfl sx_cls10 (lw_t1 (tq_3_5 _ (List.mem_of_getElem? (i := 9) rfl))) (by decide +kernel) (Nat.le_of_ble_eq_true rfl) (Or.inr (Or.inl ⟨rfl, sx_tb_mm (lw_t1 (tq_3_5 _ (List.mem_of_getElem? (i := 7) rfl))) rfl, sx_tb_mm (lw_t1 (tq_3_5 _ (List.mem_of_getElem? (i := 8) rfl))) rfl⟩)) jo_23
-- SpoutNews.act
theorem jk_24 : sq_w 24 (sx_b 24).data.toList 0 = true := by decide +kernel
theorem jo_24 : sx_ok 24 := sq_ok_of 24 (fun pc hp => by
    show jt_24 pc = none
    unfold jt_24
    rw [Nat.ble_eq_true_of_le (show 47 ≤ pc from hp)]
    rfl) (by decide +kernel) jk_24
set_option maxRecDepth 100000 in
theorem jf_24 : sx_mf 24 := sx_mfA (c := 11) rfl rfl sx_cls11 (lw_t1 (tq_3_5 _ (List.mem_of_getElem? (i := 13) rfl))) (by decide +kernel) (Nat.le_of_ble_eq_true rfl) (Or.inr (Or.inl ⟨rfl, sx_tb_mm (lw_t1 (tq_3_5 _ (List.mem_of_getElem? (i := 11) rfl))) rfl, sx_tb_mm (lw_t1 (tq_3_5 _ (List.mem_of_getElem? (i := 12) rfl))) rfl⟩)) jo_24
-- SpoutNews$World.canDo
theorem jk_25 : sq_w 25 (sx_b 25).data.toList 0 = true := by decide +kernel
theorem jo_25 : sx_ok 25 := sq_ok_of 25 (fun pc hp => by
    show jt_25 pc = none
    unfold jt_25
    rw [Nat.ble_eq_true_of_le (show 44 ≤ pc from hp)]
    rfl) (by decide +kernel) jk_25
set_option maxRecDepth 100000 in
theorem jf_25 : sx_mf 25 := sx_mfA (c := 10) rfl rfl sx_cls10 (lw_t1 (tq_3_6 _ (List.mem_of_getElem? (i := 1) rfl))) (by decide +kernel) (Nat.le_of_ble_eq_true rfl) (Or.inr (Or.inl ⟨rfl, sx_tb_mm (lw_t1 (tq_3_5 _ (List.mem_of_getElem? (i := 15) rfl))) rfl, sx_tb_mm (lw_t1 (tq_3_6 _ (List.mem_of_getElem? (i := 0) rfl))) rfl⟩)) jo_25
-- SpoutNews$World.countOfWho
theorem jk_26 : sq_w 26 (sx_b 26).data.toList 0 = true := by decide +kernel
theorem jo_26 : sx_ok 26 := sq_ok_of 26 (fun pc hp => by
    show jt_26 pc = none
    unfold jt_26
    rw [Nat.ble_eq_true_of_le (show 63 ≤ pc from hp)]
    rfl) (by decide +kernel) jk_26
set_option maxRecDepth 100000 in
theorem jf_26 : sx_mf 26 := sx_mfA (c := 10) rfl rfl sx_cls10 (lw_t1 (tq_3_6 _ (List.mem_of_getElem? (i := 5) rfl))) (by decide +kernel) (Nat.le_of_ble_eq_true rfl) (Or.inr (Or.inl ⟨rfl, sx_tb_mm (lw_t1 (tq_3_6 _ (List.mem_of_getElem? (i := 3) rfl))) rfl, sx_tb_mm (lw_t1 (tq_3_6 _ (List.mem_of_getElem? (i := 4) rfl))) rfl⟩)) jo_26
-- SpoutNews$World.countOfWhat
theorem jk_27 : sq_w 27 (sx_b 27).data.toList 0 = true := by decide +kernel
theorem jo_27 : sx_ok 27 := sq_ok_of 27 (fun pc hp => by
    show jt_27 pc = none
    unfold jt_27
    rw [Nat.ble_eq_true_of_le (show 46 ≤ pc from hp)]
    rfl) (by decide +kernel) jk_27
set_option maxRecDepth 100000 in
theorem jf_27 : sx_mf 27 := sx_mfA (c := 10) rfl rfl sx_cls10 (lw_t1 (tq_3_6 _ (List.mem_of_getElem? (i := 9) rfl))) (by decide +kernel) (Nat.le_of_ble_eq_true rfl) (Or.inr (Or.inl ⟨rfl, sx_tb_mm (lw_t1 (tq_3_6 _ (List.mem_of_getElem? (i := 7) rfl))) rfl, sx_tb_mm (lw_t1 (tq_3_6 _ (List.mem_of_getElem? (i := 8) rfl))) rfl⟩)) jo_27
-- SpoutNews$Past.keep
theorem jk_28 : sq_w 28 (sx_b 28).data.toList 0 = true := by decide +kernel
theorem jo_28 : sx_ok 28 := sq_ok_of 28 (fun pc hp => by
    show jt_28 pc = none
    unfold jt_28
    rw [Nat.ble_eq_true_of_le (show 42 ≤ pc from hp)]
    rfl) (by decide +kernel) jk_28
set_option maxRecDepth 100000 in
theorem jf_28 : sx_mf 28 := sx_mfA (c := 5) rfl rfl sx_cls5 (lw_t1 (tq_3_6 _ (List.mem_of_getElem? (i := 13) rfl))) (by decide +kernel) (Nat.le_of_ble_eq_true rfl) (Or.inr (Or.inl ⟨rfl, sx_tb_mm (lw_t1 (tq_3_6 _ (List.mem_of_getElem? (i := 11) rfl))) rfl, sx_tb_mm (lw_t1 (tq_3_6 _ (List.mem_of_getElem? (i := 12) rfl))) rfl⟩)) jo_28
-- SpoutNews$World.copyFrom
theorem jk_29 : sq_w 29 (sx_b 29).data.toList 0 = true := by decide +kernel
theorem jo_29 : sx_ok 29 := sq_ok_of 29 (fun pc hp => by
    show jt_29 pc = none
    unfold jt_29
    rw [Nat.ble_eq_true_of_le (show 231 ≤ pc from hp)]
    rfl) (by decide +kernel) jk_29
set_option maxRecDepth 100000 in
theorem jf_29 : sx_mf 29 := sx_mfA (c := 10) rfl rfl sx_cls10 (lw_t1 (tq_3_7 _ (List.mem_of_getElem? (i := 1) rfl))) (by decide +kernel) (Nat.le_of_ble_eq_true rfl) (Or.inr (Or.inl ⟨rfl, sx_tb_mm (lw_t1 (tq_3_6 _ (List.mem_of_getElem? (i := 15) rfl))) rfl, sx_tb_mm (lw_t1 (tq_3_7 _ (List.mem_of_getElem? (i := 0) rfl))) rfl⟩)) jo_29
-- SpoutNews$World.carryOut
theorem jk_31 : sq_w 31 (sx_b 31).data.toList 0 = true := by decide +kernel
theorem jo_31 : sx_ok 31 := sq_ok_of 31 (fun pc hp => by
    show jt_31 pc = none
    unfold jt_31
    rw [Nat.ble_eq_true_of_le (show 139 ≤ pc from hp)]
    rfl) (by decide +kernel) jk_31
set_option maxRecDepth 100000 in
theorem jf_31 : sx_mf 31 := sx_mfA (c := 10) rfl rfl sx_cls10 (lw_t1 (tq_3_7 _ (List.mem_of_getElem? (i := 11) rfl))) (by decide +kernel) (Nat.le_of_ble_eq_true rfl) (Or.inr (Or.inl ⟨rfl, sx_tb_mm (lw_t1 (tq_3_7 _ (List.mem_of_getElem? (i := 9) rfl))) rfl, sx_tb_mm (lw_t1 (tq_3_7 _ (List.mem_of_getElem? (i := 10) rfl))) rfl⟩)) jo_31
-- SpoutNews.days
theorem jk_32 : sq_w 32 (sx_b 32).data.toList 0 = true := by decide +kernel
theorem jo_32 : sx_ok 32 := sq_ok_of 32 (fun pc hp => by
    show jt_32 pc = none
    unfold jt_32
    rw [Nat.ble_eq_true_of_le (show 99 ≤ pc from hp)]
    rfl) (by decide +kernel) jk_32
set_option maxRecDepth 100000 in
theorem jf_32 : sx_mf 32 := sx_mfA (c := 11) rfl rfl sx_cls11 (lw_t1 (tq_3_8 _ (List.mem_of_getElem? (i := 0) rfl))) (by decide +kernel) (Nat.le_of_ble_eq_true rfl) (Or.inr (Or.inl ⟨rfl, sx_tb_mm (lw_t1 (tq_3_7 _ (List.mem_of_getElem? (i := 14) rfl))) rfl, sx_tb_mm (lw_t1 (tq_3_7 _ (List.mem_of_getElem? (i := 15) rfl))) rfl⟩)) jo_32
-- SpoutNews$DayRun.pass
theorem jk_33 : sq_w 33 (sx_b 33).data.toList 0 = true := by decide +kernel
theorem jo_33 : sx_ok 33 := sq_ok_of 33 (fun pc hp => by
    show jt_33 pc = none
    unfold jt_33
    rw [Nat.ble_eq_true_of_le (show 114 ≤ pc from hp)]
    rfl) (by decide +kernel) jk_33
set_option maxRecDepth 100000 in
theorem jf_33 : sx_mf 33 := sx_mfA (c := 2) rfl rfl sx_cls2 (lw_t1 (tq_3_8 _ (List.mem_of_getElem? (i := 4) rfl))) (by decide +kernel) (Nat.le_of_ble_eq_true rfl) (Or.inr (Or.inl ⟨rfl, sx_tb_mm (lw_t1 (tq_3_8 _ (List.mem_of_getElem? (i := 2) rfl))) rfl, sx_tb_mm (lw_t1 (tq_3_8 _ (List.mem_of_getElem? (i := 3) rfl))) rfl⟩)) jo_33
-- SpoutNews$Texts.rainOn
theorem jk_34 : sq_w 34 (sx_b 34).data.toList 0 = true := by decide +kernel
theorem jo_34 : sx_ok 34 := sq_ok_of 34 (fun pc hp => by
    show jt_34 pc = none
    unfold jt_34
    rw [Nat.ble_eq_true_of_le (show 35 ≤ pc from hp)]
    rfl) (by decide +kernel) jk_34
set_option maxRecDepth 100000 in
theorem jf_34 : sx_mf 34 := sx_mfA (c := 6) rfl rfl sx_cls6 (lw_t1 (tq_3_8 _ (List.mem_of_getElem? (i := 9) rfl))) (by decide +kernel) (Nat.le_of_ble_eq_true rfl) (Or.inr (Or.inl ⟨rfl, sx_tb_mm (lw_t1 (tq_3_8 _ (List.mem_of_getElem? (i := 7) rfl))) rfl, sx_tb_mm (lw_t1 (tq_3_8 _ (List.mem_of_getElem? (i := 8) rfl))) rfl⟩)) jo_34
-- SpoutNews$DayRun.passDry
theorem jk_35 : sq_w 35 (sx_b 35).data.toList 0 = true := by decide +kernel
theorem jo_35 : sx_ok 35 := sq_ok_of 35 (fun pc hp => by
    show jt_35 pc = none
    unfold jt_35
    rw [Nat.ble_eq_true_of_le (show 98 ≤ pc from hp)]
    rfl) (by decide +kernel) jk_35
set_option maxRecDepth 100000 in
theorem jf_35 : sx_mf 35 := sx_mfA (c := 2) rfl rfl sx_cls2 (lw_t1 (tq_3_8 _ (List.mem_of_getElem? (i := 13) rfl))) (by decide +kernel) (Nat.le_of_ble_eq_true rfl) (Or.inr (Or.inl ⟨rfl, sx_tb_mm (lw_t1 (tq_3_8 _ (List.mem_of_getElem? (i := 12) rfl))) rfl, sx_tb_mm (lw_t0 (⟨"SpoutNews$DayRun", "passDry", "(LSpoutNews$World;LSpoutNews$Texts;LSpoutNews$Book;)V"⟩, 3) (lw_pk1 _ (List.mem_of_getElem? (i := 0) rfl))) rfl⟩)) jo_35
-- SpoutNews$DayRun.listen
theorem jk_36 : sq_w 36 (sx_b 36).data.toList 0 = true := by decide +kernel
theorem jo_36 : sx_ok 36 := sq_ok_of 36 (fun pc hp => by
    show jt_36 pc = none
    unfold jt_36
    rw [Nat.ble_eq_true_of_le (show 71 ≤ pc from hp)]
    rfl) (by decide +kernel) jk_36
set_option maxRecDepth 100000 in
theorem jf_36 : sx_mf 36 := sx_mfA (c := 2) rfl rfl sx_cls2 (lw_t1 (tq_3_9 _ (List.mem_of_getElem? (i := 1) rfl))) (by decide +kernel) (Nat.le_of_ble_eq_true rfl) (Or.inr (Or.inl ⟨rfl, sx_tb_mm (lw_t1 (tq_3_9 _ (List.mem_of_getElem? (i := 0) rfl))) rfl, sx_tb_mm (lw_t0 (⟨"SpoutNews$DayRun", "listen", "(LSpoutNews$World;LSpoutNews$Texts;LSpoutNews$Book;II)V"⟩, 3) (lw_pk1 _ (List.mem_of_getElem? (i := 1) rfl))) rfl⟩)) jo_36
-- SpoutNews$Law.tells
theorem jk_37 : sq_w 37 (sx_b 37).data.toList 0 = true := by decide +kernel
theorem jo_37 : sx_ok 37 := sq_ok_of 37 (fun pc hp => by
    show jt_37 pc = none
    unfold jt_37
    rw [Nat.ble_eq_true_of_le (show 154 ≤ pc from hp)]
    rfl) (by decide +kernel) jk_37
set_option maxRecDepth 100000 in
theorem jf_37 : sx_mf 37 := sx_mfA (c := 3) rfl rfl sx_cls3 (lw_t1 (tq_3_9 _ (List.mem_of_getElem? (i := 5) rfl))) (by decide +kernel) (Nat.le_of_ble_eq_true rfl) (Or.inr (Or.inl ⟨rfl, sx_tb_mm (lw_t1 (tq_3_9 _ (List.mem_of_getElem? (i := 3) rfl))) rfl, sx_tb_mm (lw_t1 (tq_3_9 _ (List.mem_of_getElem? (i := 4) rfl))) rfl⟩)) jo_37
-- SpoutNews$Law.gatherFacts
theorem jk_38 : sq_w 38 (sx_b 38).data.toList 0 = true := by decide +kernel
theorem jo_38 : sx_ok 38 := sq_ok_of 38 (fun pc hp => by
    show jt_38 pc = none
    unfold jt_38
    rw [Nat.ble_eq_true_of_le (show 103 ≤ pc from hp)]
    rfl) (by decide +kernel) jk_38
set_option maxRecDepth 100000 in
theorem jf_38 : sx_mf 38 := sx_mfA (c := 3) rfl rfl sx_cls3 (lw_t1 (tq_3_9 _ (List.mem_of_getElem? (i := 9) rfl))) (by decide +kernel) (Nat.le_of_ble_eq_true rfl) (Or.inr (Or.inl ⟨rfl, sx_tb_mm (lw_t1 (tq_3_9 _ (List.mem_of_getElem? (i := 8) rfl))) rfl, sx_tb_mm (lw_t0 (⟨"SpoutNews$Law", "gatherFacts", "(LSpoutNews$World;II)V"⟩, 10) (lw_pk1 _ (List.mem_of_getElem? (i := 2) rfl))) rfl⟩)) jo_38
-- SpoutNews$Law.worth
theorem jk_39 : sq_w 39 (sx_b 39).data.toList 0 = true := by decide +kernel
theorem jo_39 : sx_ok 39 := sq_ok_of 39 (fun pc hp => by
    show jt_39 pc = none
    unfold jt_39
    rw [Nat.ble_eq_true_of_le (show 217 ≤ pc from hp)]
    rfl) (by decide +kernel) jk_39
set_option maxRecDepth 100000 in
theorem jf_39 : sx_mf 39 := sx_mfA (c := 3) rfl rfl sx_cls3 (lw_t1 (tq_3_9 _ (List.mem_of_getElem? (i := 13) rfl))) (by decide +kernel) (Nat.le_of_ble_eq_true rfl) (Or.inr (Or.inl ⟨rfl, sx_tb_mm (lw_t1 (tq_3_9 _ (List.mem_of_getElem? (i := 12) rfl))) rfl, sx_tb_mm (lw_t0 (⟨"SpoutNews$Law", "worth", "(II)I"⟩, 10) (lw_pk1 _ (List.mem_of_getElem? (i := 3) rfl))) rfl⟩)) jo_39
-- SpoutNews$Law.joined
theorem jk_40 : sq_w 40 (sx_b 40).data.toList 0 = true := by decide +kernel
theorem jo_40 : sx_ok 40 := sq_ok_of 40 (fun pc hp => by
    show jt_40 pc = none
    unfold jt_40
    rw [Nat.ble_eq_true_of_le (show 105 ≤ pc from hp)]
    rfl) (by decide +kernel) jk_40
set_option maxRecDepth 100000 in
theorem jf_40 : sx_mf 40 := sx_mfA (c := 3) rfl rfl sx_cls3 (lw_t1 (tq_3_10 _ (List.mem_of_getElem? (i := 0) rfl))) (by decide +kernel) (Nat.le_of_ble_eq_true rfl) (Or.inl ⟨rfl, sx_tb_mm (lw_t1 (tq_3_9 _ (List.mem_of_getElem? (i := 15) rfl))) rfl⟩) jo_40
-- SpoutNews$World.takeIn
theorem jk_42 : sq_w 42 (sx_b 42).data.toList 0 = true := by decide +kernel
theorem jo_42 : sx_ok 42 := sq_ok_of 42 (fun pc hp => by
    show jt_42 pc = none
    unfold jt_42
    rw [Nat.ble_eq_true_of_le (show 51 ≤ pc from hp)]
    rfl) (by decide +kernel) jk_42
set_option maxRecDepth 100000 in
theorem jf_42 : sx_mf 42 := sx_mfA (c := 10) rfl rfl sx_cls10 (lw_t1 (tq_3_10 _ (List.mem_of_getElem? (i := 8) rfl))) (by decide +kernel) (Nat.le_of_ble_eq_true rfl) (Or.inr (Or.inl ⟨rfl, sx_tb_mm (lw_t1 (tq_3_10 _ (List.mem_of_getElem? (i := 6) rfl))) rfl, sx_tb_mm (lw_t1 (tq_3_10 _ (List.mem_of_getElem? (i := 7) rfl))) rfl⟩)) jo_42
