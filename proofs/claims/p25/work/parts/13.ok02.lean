-- by program (wip/gen/mk12.py, mkfast.py): the tables of methods hold
-- SpoutNews$LawReader.settleNots
theorem jk_99 : sq_w 99 (sx_b 99).data.toList 0 = true := by decide +kernel
theorem jo_99 : sx_ok 99 := sq_ok_of 99 (fun pc hp => by
    show jt_99 pc = none
    unfold jt_99
    rw [Nat.ble_eq_true_of_le (show 65 ≤ pc from hp)]
    rfl) (by decide +kernel) jk_99
set_option maxRecDepth 100000 in
theorem jf_99 : sx_mf 99 := sx_mfA (c := 4) rfl rfl sx_cls4 (lw_t1 (tq_4_10 _ (List.mem_of_getElem? (i := 3) rfl))) (by decide +kernel) (Nat.le_of_ble_eq_true rfl) (Or.inr (Or.inl ⟨rfl, sx_tb_mm (lw_t1 (tq_4_10 _ (List.mem_of_getElem? (i := 2) rfl))) rfl, sx_tb_mm (lw_t0 (⟨"SpoutNews$LawReader", "settleNots", "(LSpoutNews$Law;)V"⟩, 4) (lw_pk2 _ (List.mem_of_getElem? (i := 3) rfl))) rfl⟩)) jo_99
-- SpoutNews$LawReader.settleBinary
theorem jk_100 : sq_w 100 (sx_b 100).data.toList 0 = true := by decide +kernel
theorem jo_100 : sx_ok 100 := sq_ok_of 100 (fun pc hp => by
    show jt_100 pc = none
    unfold jt_100
    rw [Nat.ble_eq_true_of_le (show 83 ≤ pc from hp)]
    rfl) (by decide +kernel) jk_100
set_option maxRecDepth 100000 in
theorem jf_100 : sx_mf 100 := sx_mfA (c := 4) rfl rfl sx_cls4 (lw_t1 (tq_4_10 _ (List.mem_of_getElem? (i := 7) rfl))) (by decide +kernel) (Nat.le_of_ble_eq_true rfl) (Or.inr (Or.inl ⟨rfl, sx_tb_mm (lw_t1 (tq_4_10 _ (List.mem_of_getElem? (i := 6) rfl))) rfl, sx_tb_mm (lw_t0 (⟨"SpoutNews$LawReader", "settleBinary", "(LSpoutNews$Law;I)V"⟩, 4) (lw_pk2 _ (List.mem_of_getElem? (i := 4) rfl))) rfl⟩)) jo_100
-- SpoutNews$Law.addLine
theorem jk_101 : sq_w 101 (sx_b 101).data.toList 0 = true := by decide +kernel
theorem jo_101 : sx_ok 101 := sq_ok_of 101 (fun pc hp => by
    show jt_101 pc = none
    unfold jt_101
    rw [Nat.ble_eq_true_of_le (show 63 ≤ pc from hp)]
    rfl) (by decide +kernel) jk_101
set_option maxRecDepth 100000 in
theorem jf_101 : sx_mf 101 := sx_mfA (c := 3) rfl rfl sx_cls3 (lw_t1 (tq_4_10 _ (List.mem_of_getElem? (i := 12) rfl))) (by decide +kernel) (Nat.le_of_ble_eq_true rfl) (Or.inr (Or.inl ⟨rfl, sx_tb_mm (lw_t1 (tq_4_10 _ (List.mem_of_getElem? (i := 10) rfl))) rfl, sx_tb_mm (lw_t1 (tq_4_10 _ (List.mem_of_getElem? (i := 11) rfl))) rfl⟩)) jo_101
-- SpoutNews$Law.copyFrom
theorem jk_102 : sq_w 102 (sx_b 102).data.toList 0 = true := by decide +kernel
theorem jo_102 : sx_ok 102 := sq_ok_of 102 (fun pc hp => by
    show jt_102 pc = none
    unfold jt_102
    rw [Nat.ble_eq_true_of_le (show 111 ≤ pc from hp)]
    rfl) (by decide +kernel) jk_102
set_option maxRecDepth 100000 in
theorem jf_102 : sx_mf 102 := sx_mfA (c := 3) rfl rfl sx_cls3 (lw_t1 (tq_4_11 _ (List.mem_of_getElem? (i := 0) rfl))) (by decide +kernel) (Nat.le_of_ble_eq_true rfl) (Or.inr (Or.inl ⟨rfl, sx_tb_mm (lw_t1 (tq_4_10 _ (List.mem_of_getElem? (i := 14) rfl))) rfl, sx_tb_mm (lw_t1 (tq_4_10 _ (List.mem_of_getElem? (i := 15) rfl))) rfl⟩)) jo_102
-- SpoutNews.takeGutters
theorem jk_103 : sq_w 103 (sx_b 103).data.toList 0 = true := by decide +kernel
theorem jo_103 : sx_ok 103 := sq_ok_of 103 (fun pc hp => by
    show jt_103 pc = none
    unfold jt_103
    rw [Nat.ble_eq_true_of_le (show 59 ≤ pc from hp)]
    rfl) (by decide +kernel) jk_103
set_option maxRecDepth 100000 in
theorem jf_103 : sx_mf 103 := sx_mfA (c := 11) rfl rfl sx_cls11 (lw_t1 (tq_4_11 _ (List.mem_of_getElem? (i := 5) rfl))) (by decide +kernel) (Nat.le_of_ble_eq_true rfl) (Or.inr (Or.inl ⟨rfl, sx_tb_mm (lw_t1 (tq_4_11 _ (List.mem_of_getElem? (i := 4) rfl))) rfl, sx_tb_mm (lw_t0 (⟨"SpoutNews", "takeGutters", "(I)I"⟩, 12) (lw_pk2 _ (List.mem_of_getElem? (i := 5) rfl))) rfl⟩)) jo_103
-- SpoutNews$Texts.readGutters
theorem jk_104 : sq_w 104 (sx_b 104).data.toList 0 = true := by decide +kernel
theorem jo_104 : sx_ok 104 := sq_ok_of 104 (fun pc hp => by
    show jt_104 pc = none
    unfold jt_104
    rw [Nat.ble_eq_true_of_le (show 133 ≤ pc from hp)]
    rfl) (by decide +kernel) jk_104
set_option maxRecDepth 100000 in
theorem jf_104 : sx_mf 104 := sx_mfA (c := 6) rfl rfl sx_cls6 (lw_t1 (tq_4_11 _ (List.mem_of_getElem? (i := 10) rfl))) (by decide +kernel) (Nat.le_of_ble_eq_true rfl) (Or.inr (Or.inl ⟨rfl, sx_tb_mm (lw_t1 (tq_4_11 _ (List.mem_of_getElem? (i := 8) rfl))) rfl, sx_tb_mm (lw_t1 (tq_4_11 _ (List.mem_of_getElem? (i := 9) rfl))) rfl⟩)) jo_104
-- SpoutNews$Tokens.takeBelow
theorem jk_105 : sq_w 105 (sx_b 105).data.toList 0 = true := by decide +kernel
theorem jo_105 : sx_ok 105 := sq_ok_of 105 (fun pc hp => by
    show jt_105 pc = none
    unfold jt_105
    rw [Nat.ble_eq_true_of_le (show 37 ≤ pc from hp)]
    rfl) (by decide +kernel) jk_105
set_option maxRecDepth 100000 in
theorem jf_105 : sx_mf 105 := sx_mfA (c := 8) rfl rfl sx_cls8 (lw_t1 (tq_4_12 _ (List.mem_of_getElem? (i := 0) rfl))) (by decide +kernel) (Nat.le_of_ble_eq_true rfl) (Or.inr (Or.inl ⟨rfl, sx_tb_mm (lw_t1 (tq_4_11 _ (List.mem_of_getElem? (i := 14) rfl))) rfl, sx_tb_mm (lw_t1 (tq_4_11 _ (List.mem_of_getElem? (i := 15) rfl))) rfl⟩)) jo_105
-- SpoutNews$Texts.copyGutters
theorem jk_106 : sq_w 106 (sx_b 106).data.toList 0 = true := by decide +kernel
theorem jo_106 : sx_ok 106 := sq_ok_of 106 (fun pc hp => by
    show jt_106 pc = none
    unfold jt_106
    rw [Nat.ble_eq_true_of_le (show 24 ≤ pc from hp)]
    rfl) (by decide +kernel) jk_106
set_option maxRecDepth 100000 in
theorem jf_106 : sx_mf 106 := sx_mfA (c := 6) rfl rfl sx_cls6 (lw_t1 (tq_4_12 _ (List.mem_of_getElem? (i := 8) rfl))) (by decide +kernel) (Nat.le_of_ble_eq_true rfl) (Or.inr (Or.inl ⟨rfl, sx_tb_mm (lw_t1 (tq_4_12 _ (List.mem_of_getElem? (i := 6) rfl))) rfl, sx_tb_mm (lw_t1 (tq_4_12 _ (List.mem_of_getElem? (i := 7) rfl))) rfl⟩)) jo_106
-- SpoutNews.takeWeather
theorem jk_107 : sq_w 107 (sx_b 107).data.toList 0 = true := by decide +kernel
theorem jo_107 : sx_ok 107 := sq_ok_of 107 (fun pc hp => by
    show jt_107 pc = none
    unfold jt_107
    rw [Nat.ble_eq_true_of_le (show 59 ≤ pc from hp)]
    rfl) (by decide +kernel) jk_107
set_option maxRecDepth 100000 in
theorem jf_107 : sx_mf 107 := sx_mfA (c := 11) rfl rfl sx_cls11 (lw_t1 (tq_4_12 _ (List.mem_of_getElem? (i := 13) rfl))) (by decide +kernel) (Nat.le_of_ble_eq_true rfl) (Or.inr (Or.inl ⟨rfl, sx_tb_mm (lw_t1 (tq_4_12 _ (List.mem_of_getElem? (i := 12) rfl))) rfl, sx_tb_mm (lw_t0 (⟨"SpoutNews", "takeWeather", "(I)I"⟩, 12) (lw_pk2 _ (List.mem_of_getElem? (i := 6) rfl))) rfl⟩)) jo_107
-- SpoutNews$Texts.readWeather
theorem jk_108 : sq_w 108 (sx_b 108).data.toList 0 = true := by decide +kernel
theorem jo_108 : sx_ok 108 := sq_ok_of 108 (fun pc hp => by
    show jt_108 pc = none
    unfold jt_108
    rw [Nat.ble_eq_true_of_le (show 117 ≤ pc from hp)]
    rfl) (by decide +kernel) jk_108
set_option maxRecDepth 100000 in
theorem jf_108 : sx_mf 108 := sx_mfA (c := 6) rfl rfl sx_cls6 (lw_t1 (tq_4_13 _ (List.mem_of_getElem? (i := 2) rfl))) (by decide +kernel) (Nat.le_of_ble_eq_true rfl) (Or.inr (Or.inl ⟨rfl, sx_tb_mm (lw_t1 (tq_4_13 _ (List.mem_of_getElem? (i := 0) rfl))) rfl, sx_tb_mm (lw_t1 (tq_4_13 _ (List.mem_of_getElem? (i := 1) rfl))) rfl⟩)) jo_108
-- SpoutNews$Texts.copyWeather
theorem jk_109 : sq_w 109 (sx_b 109).data.toList 0 = true := by decide +kernel
theorem jo_109 : sx_ok 109 := sq_ok_of 109 (fun pc hp => by
    show jt_109 pc = none
    unfold jt_109
    rw [Nat.ble_eq_true_of_le (show 39 ≤ pc from hp)]
    rfl) (by decide +kernel) jk_109
set_option maxRecDepth 100000 in
theorem jf_109 : sx_mf 109 := sx_mfA (c := 6) rfl rfl sx_cls6 (lw_t1 (tq_4_13 _ (List.mem_of_getElem? (i := 6) rfl))) (by decide +kernel) (Nat.le_of_ble_eq_true rfl) (Or.inr (Or.inl ⟨rfl, sx_tb_mm (lw_t1 (tq_4_13 _ (List.mem_of_getElem? (i := 4) rfl))) rfl, sx_tb_mm (lw_t1 (tq_4_13 _ (List.mem_of_getElem? (i := 5) rfl))) rfl⟩)) jo_109
-- SpoutNews.takePlan
theorem jk_110 : sq_w 110 (sx_b 110).data.toList 0 = true := by decide +kernel
theorem jo_110 : sx_ok 110 := sq_ok_of 110 (fun pc hp => by
    show jt_110 pc = none
    unfold jt_110
    rw [Nat.ble_eq_true_of_le (show 66 ≤ pc from hp)]
    rfl) (by decide +kernel) jk_110
set_option maxRecDepth 100000 in
theorem jf_110 : sx_mf 110 := sx_mfA (c := 11) rfl rfl sx_cls11 (lw_t1 (tq_4_13 _ (List.mem_of_getElem? (i := 10) rfl))) (by decide +kernel) (Nat.le_of_ble_eq_true rfl) (Or.inr (Or.inl ⟨rfl, sx_tb_mm (lw_t1 (tq_4_13 _ (List.mem_of_getElem? (i := 9) rfl))) rfl, sx_tb_mm (lw_t0 (⟨"SpoutNews", "takePlan", "(I)I"⟩, 12) (lw_pk2 _ (List.mem_of_getElem? (i := 7) rfl))) rfl⟩)) jo_110
-- SpoutNews$Texts.readPlan
theorem jk_111 : sq_w 111 (sx_b 111).data.toList 0 = true := by decide +kernel
theorem jo_111 : sx_ok 111 := sq_ok_of 111 (fun pc hp => by
    show jt_111 pc = none
    unfold jt_111
    rw [Nat.ble_eq_true_of_le (show 98 ≤ pc from hp)]
    rfl) (by decide +kernel) jk_111
set_option maxRecDepth 100000 in
theorem jf_111 : sx_mf 111 := sx_mfA (c := 6) rfl rfl sx_cls6 (lw_t1 (tq_4_13 _ (List.mem_of_getElem? (i := 15) rfl))) (by decide +kernel) (Nat.le_of_ble_eq_true rfl) (Or.inr (Or.inl ⟨rfl, sx_tb_mm (lw_t1 (tq_4_13 _ (List.mem_of_getElem? (i := 13) rfl))) rfl, sx_tb_mm (lw_t1 (tq_4_13 _ (List.mem_of_getElem? (i := 14) rfl))) rfl⟩)) jo_111
-- SpoutNews$Texts.readDeed
theorem jk_112 : sq_w 112 (sx_b 112).data.toList 0 = true := by decide +kernel
theorem jo_112 : sx_ok 112 := sq_ok_of 112 (fun pc hp => by
    show jt_112 pc = none
    unfold jt_112
    rw [Nat.ble_eq_true_of_le (show 128 ≤ pc from hp)]
    rfl) (by decide +kernel) jk_112
set_option maxRecDepth 100000 in
theorem jf_112 : sx_mf 112 := sx_mfA (c := 6) rfl rfl sx_cls6 (lw_t1 (tq_4_14 _ (List.mem_of_getElem? (i := 3) rfl))) (by decide +kernel) (Nat.le_of_ble_eq_true rfl) (Or.inr (Or.inl ⟨rfl, sx_tb_mm (lw_t1 (tq_4_14 _ (List.mem_of_getElem? (i := 2) rfl))) rfl, sx_tb_mm (lw_t0 (⟨"SpoutNews$Texts", "readDeed", "(LSpoutNews$Tokens;LSpoutNews$World;I)Z"⟩, 11) (lw_pk2 _ (List.mem_of_getElem? (i := 8) rfl))) rfl⟩)) jo_112
-- SpoutNews$Texts.copyPlan
theorem jk_113 : sq_w 113 (sx_b 113).data.toList 0 = true := by decide +kernel
theorem jo_113 : sx_ok 113 := sq_ok_of 113 (fun pc hp => by
    show jt_113 pc = none
    unfold jt_113
    rw [Nat.ble_eq_true_of_le (show 69 ≤ pc from hp)]
    rfl) (by decide +kernel) jk_113
set_option maxRecDepth 100000 in
theorem jf_113 : sx_mf 113 := sx_mfA (c := 6) rfl rfl sx_cls6 (lw_t1 (tq_4_14 _ (List.mem_of_getElem? (i := 11) rfl))) (by decide +kernel) (Nat.le_of_ble_eq_true rfl) (Or.inr (Or.inl ⟨rfl, sx_tb_mm (lw_t1 (tq_4_14 _ (List.mem_of_getElem? (i := 9) rfl))) rfl, sx_tb_mm (lw_t1 (tq_4_14 _ (List.mem_of_getElem? (i := 10) rfl))) rfl⟩)) jo_113
-- SpoutNews.fault
theorem jk_114 : sq_w 114 (sx_b 114).data.toList 0 = true := by decide +kernel
theorem jo_114 : sx_ok 114 := sq_ok_of 114 (fun pc hp => by
    show jt_114 pc = none
    unfold jt_114
    rw [Nat.ble_eq_true_of_le (show 46 ≤ pc from hp)]
    rfl) (by decide +kernel) jk_114
set_option maxRecDepth 100000 in
theorem jf_114 : sx_mf 114 := sx_mfA (c := 11) rfl rfl sx_cls11 (lw_t1 (tq_5_0 _ (List.mem_of_getElem? (i := 1) rfl))) (by decide +kernel) (Nat.le_of_ble_eq_true rfl) (Or.inr (Or.inl ⟨rfl, sx_tb_mm (lw_t1 (tq_4_14 _ (List.mem_of_getElem? (i := 15) rfl))) rfl, sx_tb_mm (lw_t1 (tq_5_0 _ (List.mem_of_getElem? (i := 0) rfl))) rfl⟩)) jo_114
-- SpoutNews.of
theorem jk_115 : sq_w 115 (sx_b 115).data.toList 0 = true := by decide +kernel
theorem jo_115 : sx_ok 115 := sq_ok_of 115 (fun pc hp => by
    show jt_115 pc = none
    unfold jt_115
    rw [Nat.ble_eq_true_of_le (show 237 ≤ pc from hp)]
    rfl) (by decide +kernel) jk_115
set_option maxRecDepth 100000 in
theorem jf_115 : sx_mf 115 := sx_mfA (c := 11) rfl rfl sx_cls11 (lw_t1 (tq_5_0 _ (List.mem_of_getElem? (i := 5) rfl))) (by decide +kernel) (Nat.le_of_ble_eq_true rfl) (Or.inr (Or.inl ⟨rfl, sx_tb_mm (lw_t1 (tq_5_0 _ (List.mem_of_getElem? (i := 3) rfl))) rfl, sx_tb_mm (lw_t1 (tq_5_0 _ (List.mem_of_getElem? (i := 4) rfl))) rfl⟩)) jo_115
-- SpoutNews.who
theorem jk_116 : sq_w 116 (sx_b 116).data.toList 0 = true := by decide +kernel
theorem jo_116 : sx_ok 116 := sq_ok_of 116 (fun pc hp => by
    show jt_116 pc = none
    unfold jt_116
    rw [Nat.ble_eq_true_of_le (show 73 ≤ pc from hp)]
    rfl) (by decide +kernel) jk_116
set_option maxRecDepth 100000 in
theorem jf_116 : sx_mf 116 := sx_mfA (c := 11) rfl rfl sx_cls11 (lw_t1 (tq_5_0 _ (List.mem_of_getElem? (i := 12) rfl))) (by decide +kernel) (Nat.le_of_ble_eq_true rfl) (Or.inr (Or.inl ⟨rfl, sx_tb_mm (lw_t1 (tq_5_0 _ (List.mem_of_getElem? (i := 10) rfl))) rfl, sx_tb_mm (lw_t1 (tq_5_0 _ (List.mem_of_getElem? (i := 11) rfl))) rfl⟩)) jo_116
-- SpoutNews.jar
theorem jk_117 : sq_w 117 (sx_b 117).data.toList 0 = true := by decide +kernel
theorem jo_117 : sx_ok 117 := sq_ok_of 117 (fun pc hp => by
    show jt_117 pc = none
    unfold jt_117
    rw [Nat.ble_eq_true_of_le (show 69 ≤ pc from hp)]
    rfl) (by decide +kernel) jk_117
set_option maxRecDepth 100000 in
theorem jf_117 : sx_mf 117 := sx_mfA (c := 11) rfl rfl sx_cls11 (lw_t1 (tq_5_1 _ (List.mem_of_getElem? (i := 0) rfl))) (by decide +kernel) (Nat.le_of_ble_eq_true rfl) (Or.inr (Or.inl ⟨rfl, sx_tb_mm (lw_t1 (tq_5_0 _ (List.mem_of_getElem? (i := 14) rfl))) rfl, sx_tb_mm (lw_t1 (tq_5_0 _ (List.mem_of_getElem? (i := 15) rfl))) rfl⟩)) jo_117
-- SpoutNews.weather
theorem jk_118 : sq_w 118 (sx_b 118).data.toList 0 = true := by decide +kernel
theorem jo_118 : sx_ok 118 := sq_ok_of 118 (fun pc hp => by
    show jt_118 pc = none
    unfold jt_118
    rw [Nat.ble_eq_true_of_le (show 12 ≤ pc from hp)]
    rfl) (by decide +kernel) jk_118
set_option maxRecDepth 100000 in
theorem jf_118 : sx_mf 118 := sx_mfA (c := 11) rfl rfl sx_cls11 (lw_t1 (tq_5_1 _ (List.mem_of_getElem? (i := 4) rfl))) (by decide +kernel) (Nat.le_of_ble_eq_true rfl) (Or.inr (Or.inl ⟨rfl, sx_tb_mm (lw_t1 (tq_5_1 _ (List.mem_of_getElem? (i := 2) rfl))) rfl, sx_tb_mm (lw_t1 (tq_5_1 _ (List.mem_of_getElem? (i := 3) rfl))) rfl⟩)) jo_118
-- SpoutNews.book
theorem jk_119 : sq_w 119 (sx_b 119).data.toList 0 = true := by decide +kernel
theorem jo_119 : sx_ok 119 := sq_ok_of 119 (fun pc hp => by
    show jt_119 pc = none
    unfold jt_119
    rw [Nat.ble_eq_true_of_le (show 114 ≤ pc from hp)]
    rfl) (by decide +kernel) jk_119
set_option maxRecDepth 100000 in
theorem jf_119 : sx_mf 119 := sx_mfA (c := 11) rfl rfl sx_cls11 (lw_t1 (tq_5_1 _ (List.mem_of_getElem? (i := 9) rfl))) (by decide +kernel) (Nat.le_of_ble_eq_true rfl) (Or.inr (Or.inl ⟨rfl, sx_tb_mm (lw_t1 (tq_5_1 _ (List.mem_of_getElem? (i := 7) rfl))) rfl, sx_tb_mm (lw_t1 (tq_5_1 _ (List.mem_of_getElem? (i := 8) rfl))) rfl⟩)) jo_119
-- SpoutNews.goes
theorem jk_120 : sq_w 120 (sx_b 120).data.toList 0 = true := by decide +kernel
theorem jo_120 : sx_ok 120 := sq_ok_of 120 (fun pc hp => by
    show jt_120 pc = none
    unfold jt_120
    rw [Nat.ble_eq_true_of_le (show 182 ≤ pc from hp)]
    rfl) (by decide +kernel) jk_120
set_option maxRecDepth 100000 in
theorem jf_120 : sx_mf 120 := sx_mfA (c := 11) rfl rfl sx_cls11 (lw_t1 (tq_5_1 _ (List.mem_of_getElem? (i := 13) rfl))) (by decide +kernel) (Nat.le_of_ble_eq_true rfl) (Or.inr (Or.inl ⟨rfl, sx_tb_mm (lw_t1 (tq_5_1 _ (List.mem_of_getElem? (i := 11) rfl))) rfl, sx_tb_mm (lw_t1 (tq_5_1 _ (List.mem_of_getElem? (i := 12) rfl))) rfl⟩)) jo_120
-- SpoutNews$World.heardInAll
theorem jk_121 : sq_w 121 (sx_b 121).data.toList 0 = true := by decide +kernel
theorem jo_121 : sx_ok 121 := sq_ok_of 121 (fun pc hp => by
    show jt_121 pc = none
    unfold jt_121
    rw [Nat.ble_eq_true_of_le (show 29 ≤ pc from hp)]
    rfl) (by decide +kernel) jk_121
set_option maxRecDepth 100000 in
theorem jf_121 : sx_mf 121 := sx_mfA (c := 10) rfl rfl sx_cls10 (lw_t1 (tq_5_2 _ (List.mem_of_getElem? (i := 2) rfl))) (by decide +kernel) (Nat.le_of_ble_eq_true rfl) (Or.inr (Or.inl ⟨rfl, sx_tb_mm (lw_t1 (tq_5_2 _ (List.mem_of_getElem? (i := 0) rfl))) rfl, sx_tb_mm (lw_t1 (tq_5_2 _ (List.mem_of_getElem? (i := 1) rfl))) rfl⟩)) jo_121
-- SpoutNews.told
theorem jk_122 : sq_w 122 (sx_b 122).data.toList 0 = true := by decide +kernel
theorem jo_122 : sx_ok 122 := sq_ok_of 122 (fun pc hp => by
    show jt_122 pc = none
    unfold jt_122
    rw [Nat.ble_eq_true_of_le (show 47 ≤ pc from hp)]
    rfl) (by decide +kernel) jk_122
set_option maxRecDepth 100000 in
theorem jf_122 : sx_mf 122 := sx_mfA (c := 11) rfl rfl sx_cls11 (lw_t1 (tq_5_2 _ (List.mem_of_getElem? (i := 6) rfl))) (by decide +kernel) (Nat.le_of_ble_eq_true rfl) (Or.inr (Or.inl ⟨rfl, sx_tb_mm (lw_t1 (tq_5_2 _ (List.mem_of_getElem? (i := 4) rfl))) rfl, sx_tb_mm (lw_t1 (tq_5_2 _ (List.mem_of_getElem? (i := 5) rfl))) rfl⟩)) jo_122
-- SpoutNews.isWord
theorem jk_123 : sq_w 123 (sx_b 123).data.toList 0 = true := by decide +kernel
theorem jo_123 : sx_ok 123 := sq_ok_of 123 (fun pc hp => by
    show jt_123 pc = none
    unfold jt_123
    rw [Nat.ble_eq_true_of_le (show 16 ≤ pc from hp)]
    rfl) (by decide +kernel) jk_123
set_option maxRecDepth 100000 in
theorem jf_123 : sx_mf 123 := sx_mfA (c := 11) rfl rfl sx_cls11 (lw_t1 (tq_5_2 _ (List.mem_of_getElem? (i := 9) rfl))) (by decide +kernel) (Nat.le_of_ble_eq_true rfl) (Or.inl ⟨rfl, sx_tb_mm (lw_t1 (tq_5_2 _ (List.mem_of_getElem? (i := 8) rfl))) rfl⟩) jo_123
-- SpoutNews$Thought.tellers
theorem jk_124 : sq_w 124 (sx_b 124).data.toList 0 = true := by decide +kernel
theorem jo_124 : sx_ok 124 := sq_ok_of 124 (fun pc hp => by
    show jt_124 pc = none
    unfold jt_124
    rw [Nat.ble_eq_true_of_le (show 69 ≤ pc from hp)]
    rfl) (by decide +kernel) jk_124
set_option maxRecDepth 100000 in
theorem jf_124 : sx_mf 124 := sx_mfA (c := 7) rfl rfl sx_cls7 (lw_t1 (tq_5_2 _ (List.mem_of_getElem? (i := 13) rfl))) (by decide +kernel) (Nat.le_of_ble_eq_true rfl) (Or.inr (Or.inl ⟨rfl, sx_tb_mm (lw_t1 (tq_5_2 _ (List.mem_of_getElem? (i := 11) rfl))) rfl, sx_tb_mm (lw_t1 (tq_5_2 _ (List.mem_of_getElem? (i := 12) rfl))) rfl⟩)) jo_124
-- SpoutNews$Thought.reach
theorem jk_125 : sq_w 125 (sx_b 125).data.toList 0 = true := by decide +kernel
theorem jo_125 : sx_ok 125 := sq_ok_of 125 (fun pc hp => by
    show jt_125 pc = none
    unfold jt_125
    rw [Nat.ble_eq_true_of_le (show 44 ≤ pc from hp)]
    rfl) (by decide +kernel) jk_125
set_option maxRecDepth 100000 in
theorem jf_125 : sx_mf 125 := sx_mfA (c := 7) rfl rfl sx_cls7 (lw_t1 (tq_5_3 _ (List.mem_of_getElem? (i := 1) rfl))) (by decide +kernel) (Nat.le_of_ble_eq_true rfl) (Or.inr (Or.inl ⟨rfl, sx_tb_mm (lw_t1 (tq_5_3 _ (List.mem_of_getElem? (i := 0) rfl))) rfl, sx_tb_mm (lw_t0 (⟨"SpoutNews$Thought", "reach", "(LSpoutNews$Texts;I)I"⟩, 13) (lw_pk2 _ (List.mem_of_getElem? (i := 9) rfl))) rfl⟩)) jo_125
-- SpoutNews.ends
theorem jk_126 : sq_w 126 (sx_b 126).data.toList 0 = true := by decide +kernel
theorem jo_126 : sx_ok 126 := sq_ok_of 126 (fun pc hp => by
    show jt_126 pc = none
    unfold jt_126
    rw [Nat.ble_eq_true_of_le (show 78 ≤ pc from hp)]
    rfl) (by decide +kernel) jk_126
set_option maxRecDepth 100000 in
theorem jf_126 : sx_mf 126 := sx_mfA (c := 11) rfl rfl sx_cls11 (lw_t1 (tq_5_3 _ (List.mem_of_getElem? (i := 6) rfl))) (by decide +kernel) (Nat.le_of_ble_eq_true rfl) (Or.inr (Or.inl ⟨rfl, sx_tb_mm (lw_t1 (tq_5_3 _ (List.mem_of_getElem? (i := 4) rfl))) rfl, sx_tb_mm (lw_t1 (tq_5_3 _ (List.mem_of_getElem? (i := 5) rfl))) rfl⟩)) jo_126
-- SpoutNews$Thought.endOf
theorem jk_127 : sq_w 127 (sx_b 127).data.toList 0 = true := by decide +kernel
theorem jo_127 : sx_ok 127 := sq_ok_of 127 (fun pc hp => by
    show jt_127 pc = none
    unfold jt_127
    rw [Nat.ble_eq_true_of_le (show 41 ≤ pc from hp)]
    rfl) (by decide +kernel) jk_127
set_option maxRecDepth 100000 in
theorem jf_127 : sx_mf 127 := sx_mfA (c := 7) rfl rfl sx_cls7 (lw_t1 (tq_5_3 _ (List.mem_of_getElem? (i := 10) rfl))) (by decide +kernel) (Nat.le_of_ble_eq_true rfl) (Or.inr (Or.inl ⟨rfl, sx_tb_mm (lw_t1 (tq_5_3 _ (List.mem_of_getElem? (i := 8) rfl))) rfl, sx_tb_mm (lw_t1 (tq_5_3 _ (List.mem_of_getElem? (i := 9) rfl))) rfl⟩)) jo_127
-- SpoutNews$Thought.lastOnes
theorem jk_128 : sq_w 128 (sx_b 128).data.toList 0 = true := by decide +kernel
theorem jo_128 : sx_ok 128 := sq_ok_of 128 (fun pc hp => by
    show jt_128 pc = none
    unfold jt_128
    rw [Nat.ble_eq_true_of_le (show 40 ≤ pc from hp)]
    rfl) (by decide +kernel) jk_128
set_option maxRecDepth 100000 in
theorem jf_128 : sx_mf 128 := sx_mfA (c := 7) rfl rfl sx_cls7 (lw_t1 (tq_5_3 _ (List.mem_of_getElem? (i := 14) rfl))) (by decide +kernel) (Nat.le_of_ble_eq_true rfl) (Or.inr (Or.inl ⟨rfl, sx_tb_mm (lw_t1 (tq_5_3 _ (List.mem_of_getElem? (i := 13) rfl))) rfl, sx_tb_mm (lw_t0 (⟨"SpoutNews$Thought", "lastOnes", "(LSpoutNews$Texts;I)I"⟩, 13) (lw_pk2 _ (List.mem_of_getElem? (i := 10) rfl))) rfl⟩)) jo_128
-- SpoutNews$Thought.guttersToEnd
theorem jk_129 : sq_w 129 (sx_b 129).data.toList 0 = true := by decide +kernel
theorem jo_129 : sx_ok 129 := sq_ok_of 129 (fun pc hp => by
    show jt_129 pc = none
    unfold jt_129
    rw [Nat.ble_eq_true_of_le (show 58 ≤ pc from hp)]
    rfl) (by decide +kernel) jk_129
set_option maxRecDepth 100000 in
theorem jf_129 : sx_mf 129 := sx_mfA (c := 7) rfl rfl sx_cls7 (lw_t1 (tq_5_4 _ (List.mem_of_getElem? (i := 2) rfl))) (by decide +kernel) (Nat.le_of_ble_eq_true rfl) (Or.inr (Or.inl ⟨rfl, sx_tb_mm (lw_t1 (tq_5_4 _ (List.mem_of_getElem? (i := 0) rfl))) rfl, sx_tb_mm (lw_t1 (tq_5_4 _ (List.mem_of_getElem? (i := 1) rfl))) rfl⟩)) jo_129
-- SpoutNews.catches
theorem jk_130 : sq_w 130 (sx_b 130).data.toList 0 = true := by decide +kernel
theorem jo_130 : sx_ok 130 := sq_ok_of 130 (fun pc hp => by
    show jt_130 pc = none
    unfold jt_130
    rw [Nat.ble_eq_true_of_le (show 46 ≤ pc from hp)]
    rfl) (by decide +kernel) jk_130
set_option maxRecDepth 100000 in
theorem jf_130 : sx_mf 130 := sx_mfA (c := 11) rfl rfl sx_cls11 (lw_t1 (tq_5_4 _ (List.mem_of_getElem? (i := 6) rfl))) (by decide +kernel) (Nat.le_of_ble_eq_true rfl) (Or.inr (Or.inl ⟨rfl, sx_tb_mm (lw_t1 (tq_5_4 _ (List.mem_of_getElem? (i := 4) rfl))) rfl, sx_tb_mm (lw_t1 (tq_5_4 _ (List.mem_of_getElem? (i := 5) rfl))) rfl⟩)) jo_130
-- SpoutNews$Thought.allEnds
theorem jk_131 : sq_w 131 (sx_b 131).data.toList 0 = true := by decide +kernel
theorem jo_131 : sx_ok 131 := sq_ok_of 131 (fun pc hp => by
    show jt_131 pc = none
    unfold jt_131
    rw [Nat.ble_eq_true_of_le (show 34 ≤ pc from hp)]
    rfl) (by decide +kernel) jk_131
set_option maxRecDepth 100000 in
theorem jf_131 : sx_mf 131 := sx_mfA (c := 7) rfl rfl sx_cls7 (lw_t1 (tq_5_4 _ (List.mem_of_getElem? (i := 10) rfl))) (by decide +kernel) (Nat.le_of_ble_eq_true rfl) (Or.inr (Or.inl ⟨rfl, sx_tb_mm (lw_t1 (tq_5_4 _ (List.mem_of_getElem? (i := 8) rfl))) rfl, sx_tb_mm (lw_t1 (tq_5_4 _ (List.mem_of_getElem? (i := 9) rfl))) rfl⟩)) jo_131
-- java/lang/Integer.bitCount
theorem jk_132 : sq_w 132 (sx_b 132).data.toList 0 = true := by decide +kernel
theorem jo_132 : sx_ok 132 := sq_ok_of 132 (fun pc hp => by
    show jt_132 pc = none
    unfold jt_132
    rw [Nat.ble_eq_true_of_le (show 53 ≤ pc from hp)]
    rfl) (by decide +kernel) jk_132
set_option maxRecDepth 100000 in
theorem jf_132 : sx_mf 132 := sx_mfA (c := 14) rfl rfl sx_cls14 (lw_t1 (tq_5_4 _ (List.mem_of_getElem? (i := 14) rfl))) (by decide +kernel) (Nat.le_of_ble_eq_true rfl) (Or.inl ⟨rfl, sx_tb_mm (lw_t1 (tq_5_4 _ (List.mem_of_getElem? (i := 13) rfl))) rfl⟩) jo_132
-- SpoutNews.seat
theorem jk_133 : sq_w 133 (sx_b 133).data.toList 0 = true := by decide +kernel
theorem jo_133 : sx_ok 133 := sq_ok_of 133 (fun pc hp => by
    show jt_133 pc = none
    unfold jt_133
    rw [Nat.ble_eq_true_of_le (show 94 ≤ pc from hp)]
    rfl) (by decide +kernel) jk_133
set_option maxRecDepth 100000 in
theorem jf_133 : sx_mf 133 := sx_mfA (c := 11) rfl rfl sx_cls11 (lw_t1 (tq_5_5 _ (List.mem_of_getElem? (i := 5) rfl))) (by decide +kernel) (Nat.le_of_ble_eq_true rfl) (Or.inr (Or.inl ⟨rfl, sx_tb_mm (lw_t1 (tq_5_5 _ (List.mem_of_getElem? (i := 3) rfl))) rfl, sx_tb_mm (lw_t1 (tq_5_5 _ (List.mem_of_getElem? (i := 4) rfl))) rfl⟩)) jo_133
-- SpoutNews.ways
theorem jk_134 : sq_w 134 (sx_b 134).data.toList 0 = true := by decide +kernel
theorem jo_134 : sx_ok 134 := sq_ok_of 134 (fun pc hp => by
    show jt_134 pc = none
    unfold jt_134
    rw [Nat.ble_eq_true_of_le (show 76 ≤ pc from hp)]
    rfl) (by decide +kernel) jk_134
set_option maxRecDepth 100000 in
theorem jf_134 : sx_mf 134 := sx_mfA (c := 11) rfl rfl sx_cls11 (lw_t1 (tq_5_5 _ (List.mem_of_getElem? (i := 9) rfl))) (by decide +kernel) (Nat.le_of_ble_eq_true rfl) (Or.inr (Or.inl ⟨rfl, sx_tb_mm (lw_t1 (tq_5_5 _ (List.mem_of_getElem? (i := 7) rfl))) rfl, sx_tb_mm (lw_t1 (tq_5_5 _ (List.mem_of_getElem? (i := 8) rfl))) rfl⟩)) jo_134
-- SpoutNews$Thought.countWays
theorem jk_135 : sq_w 135 (sx_b 135).data.toList 0 = true := by decide +kernel
theorem jo_135 : sx_ok 135 := sq_ok_of 135 (fun pc hp => by
    show jt_135 pc = none
    unfold jt_135
    rw [Nat.ble_eq_true_of_le (show 66 ≤ pc from hp)]
    rfl) (by decide +kernel) jk_135
set_option maxRecDepth 100000 in
theorem jf_135 : sx_mf 135 := sx_mfA (c := 7) rfl rfl sx_cls7 (lw_t1 (tq_5_5 _ (List.mem_of_getElem? (i := 13) rfl))) (by decide +kernel) (Nat.le_of_ble_eq_true rfl) (Or.inr (Or.inl ⟨rfl, sx_tb_mm (lw_t1 (tq_5_5 _ (List.mem_of_getElem? (i := 11) rfl))) rfl, sx_tb_mm (lw_t1 (tq_5_5 _ (List.mem_of_getElem? (i := 12) rfl))) rfl⟩)) jo_135
-- SpoutNews$Thought.seatFrom
theorem jk_136 : sq_w 136 (sx_b 136).data.toList 0 = true := by decide +kernel
theorem jo_136 : sx_ok 136 := sq_ok_of 136 (fun pc hp => by
    show jt_136 pc = none
    unfold jt_136
    rw [Nat.ble_eq_true_of_le (show 85 ≤ pc from hp)]
    rfl) (by decide +kernel) jk_136
set_option maxRecDepth 100000 in
theorem jf_136 : sx_mf 136 := sx_mfA (c := 7) rfl rfl sx_cls7 (lw_t1 (tq_5_6 _ (List.mem_of_getElem? (i := 2) rfl))) (by decide +kernel) (Nat.le_of_ble_eq_true rfl) (Or.inr (Or.inl ⟨rfl, sx_tb_mm (lw_t1 (tq_5_6 _ (List.mem_of_getElem? (i := 1) rfl))) rfl, sx_tb_mm (lw_t0 (⟨"SpoutNews$Thought", "seatFrom", "(II)V"⟩, 13) (lw_pk2 _ (List.mem_of_getElem? (i := 11) rfl))) rfl⟩)) jo_136
-- SpoutNews$Thought.countWay
theorem jk_137 : sq_w 137 (sx_b 137).data.toList 0 = true := by decide +kernel
theorem jo_137 : sx_ok 137 := sq_ok_of 137 (fun pc hp => by
    show jt_137 pc = none
    unfold jt_137
    rw [Nat.ble_eq_true_of_le (show 54 ≤ pc from hp)]
    rfl) (by decide +kernel) jk_137
set_option maxRecDepth 100000 in
theorem jf_137 : sx_mf 137 := sx_mfA (c := 7) rfl rfl sx_cls7 (lw_t1 (tq_5_6 _ (List.mem_of_getElem? (i := 6) rfl))) (by decide +kernel) (Nat.le_of_ble_eq_true rfl) (Or.inr (Or.inl ⟨rfl, sx_tb_mm (lw_t1 (tq_5_6 _ (List.mem_of_getElem? (i := 5) rfl))) rfl, sx_tb_mm (lw_t0 (⟨"SpoutNews$Thought", "countWay", "()V"⟩, 13) (lw_pk2 _ (List.mem_of_getElem? (i := 12) rfl))) rfl⟩)) jo_137
-- SpoutNews$Thought.sureCouples
theorem jk_138 : sq_w 138 (sx_b 138).data.toList 0 = true := by decide +kernel
theorem jo_138 : sx_ok 138 := sq_ok_of 138 (fun pc hp => by
    show jt_138 pc = none
    unfold jt_138
    rw [Nat.ble_eq_true_of_le (show 67 ≤ pc from hp)]
    rfl) (by decide +kernel) jk_138
set_option maxRecDepth 100000 in
theorem jf_138 : sx_mf 138 := sx_mfA (c := 7) rfl rfl sx_cls7 (lw_t1 (tq_5_6 _ (List.mem_of_getElem? (i := 10) rfl))) (by decide +kernel) (Nat.le_of_ble_eq_true rfl) (Or.inr (Or.inl ⟨rfl, sx_tb_mm (lw_t1 (tq_5_6 _ (List.mem_of_getElem? (i := 8) rfl))) rfl, sx_tb_mm (lw_t1 (tq_5_6 _ (List.mem_of_getElem? (i := 9) rfl))) rfl⟩)) jo_138
-- SpoutNews$Thought.whomToAsk
theorem jk_139 : sq_w 139 (sx_b 139).data.toList 0 = true := by decide +kernel
theorem jo_139 : sx_ok 139 := sq_ok_of 139 (fun pc hp => by
    show jt_139 pc = none
    unfold jt_139
    rw [Nat.ble_eq_true_of_le (show 83 ≤ pc from hp)]
    rfl) (by decide +kernel) jk_139
set_option maxRecDepth 100000 in
theorem jf_139 : sx_mf 139 := sx_mfA (c := 7) rfl rfl sx_cls7 (lw_t1 (tq_5_6 _ (List.mem_of_getElem? (i := 14) rfl))) (by decide +kernel) (Nat.le_of_ble_eq_true rfl) (Or.inr (Or.inl ⟨rfl, sx_tb_mm (lw_t1 (tq_5_6 _ (List.mem_of_getElem? (i := 12) rfl))) rfl, sx_tb_mm (lw_t1 (tq_5_6 _ (List.mem_of_getElem? (i := 13) rfl))) rfl⟩)) jo_139
