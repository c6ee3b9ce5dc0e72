-- by program (wip/gen/mk12.py, mkfast.py): the tables of methods hold
-- SpoutNews$World.heardSet
theorem jk_43 : sq_w 43 (sx_b 43).data.toList 0 = true := by decide +kernel
theorem jo_43 : sx_ok 43 := sq_ok_of 43 (fun pc hp => by
    show jt_43 pc = none
    unfold jt_43
    rw [Nat.ble_eq_true_of_le (show 33 ≤ pc from hp)]
    rfl) (by decide +kernel) jk_43
set_option maxRecDepth 100000 in
theorem jf_43 : sx_mf 43 := sx_mfA (c := 10) rfl rfl sx_cls10 (lw_t1 (tq_3_10 _ (List.mem_of_getElem? (i := 12) rfl))) (by decide +kernel) (Nat.le_of_ble_eq_true rfl) (Or.inr (Or.inl ⟨rfl, sx_tb_mm (lw_t1 (tq_3_10 _ (List.mem_of_getElem? (i := 10) rfl))) rfl, sx_tb_mm (lw_t1 (tq_3_10 _ (List.mem_of_getElem? (i := 11) rfl))) rfl⟩)) jo_43
-- SpoutNews$World.wordAt
theorem jk_44 : sq_w 44 (sx_b 44).data.toList 0 = true := by decide +kernel
theorem jo_44 : sx_ok 44 := sq_ok_of 44 (fun pc hp => by
    show jt_44 pc = none
    unfold jt_44
    rw [Nat.ble_eq_true_of_le (show 34 ≤ pc from hp)]
    rfl) (by decide +kernel) jk_44
set_option maxRecDepth 100000 in
theorem jf_44 : sx_mf 44 := sx_mfA (c := 10) rfl rfl sx_cls10 (lw_t1 (tq_3_11 _ (List.mem_of_getElem? (i := 0) rfl))) (by decide +kernel) (Nat.le_of_ble_eq_true rfl) (Or.inr (Or.inl ⟨rfl, sx_tb_mm (lw_t1 (tq_3_10 _ (List.mem_of_getElem? (i := 14) rfl))) rfl, sx_tb_mm (lw_t1 (tq_3_10 _ (List.mem_of_getElem? (i := 15) rfl))) rfl⟩)) jo_44
-- SpoutNews$Book.write
theorem jk_45 : sq_w 45 (sx_b 45).data.toList 0 = true := by decide +kernel
theorem jo_45 : sx_ok 45 := sq_ok_of 45 (fun pc hp => by
    show jt_45 pc = none
    unfold jt_45
    rw [Nat.ble_eq_true_of_le (show 67 ≤ pc from hp)]
    rfl) (by decide +kernel) jk_45
set_option maxRecDepth 100000 in
theorem jf_45 : sx_mf 45 := sx_mfA (c := 0) rfl rfl sx_cls0 (lw_t1 (tq_3_11 _ (List.mem_of_getElem? (i := 5) rfl))) (by decide +kernel) (Nat.le_of_ble_eq_true rfl) (Or.inr (Or.inl ⟨rfl, sx_tb_mm (lw_t1 (tq_3_11 _ (List.mem_of_getElem? (i := 3) rfl))) rfl, sx_tb_mm (lw_t1 (tq_3_11 _ (List.mem_of_getElem? (i := 4) rfl))) rfl⟩)) jo_45
-- SpoutNews$DayRun.passWet
theorem jk_46 : sq_w 46 (sx_b 46).data.toList 0 = true := by decide +kernel
theorem jo_46 : sx_ok 46 := sq_ok_of 46 (fun pc hp => by
    show jt_46 pc = none
    unfold jt_46
    rw [Nat.ble_eq_true_of_le (show 114 ≤ pc from hp)]
    rfl) (by decide +kernel) jk_46
set_option maxRecDepth 100000 in
theorem jf_46 : sx_mf 46 := sx_mfA (c := 2) rfl rfl sx_cls2 (lw_t1 (tq_3_11 _ (List.mem_of_getElem? (i := 10) rfl))) (by decide +kernel) (Nat.le_of_ble_eq_true rfl) (Or.inr (Or.inl ⟨rfl, sx_tb_mm (lw_t1 (tq_3_11 _ (List.mem_of_getElem? (i := 9) rfl))) rfl, sx_tb_mm (lw_t0 (⟨"SpoutNews$DayRun", "passWet", "(LSpoutNews$World;LSpoutNews$Texts;LSpoutNews$Book;)V"⟩, 3) (lw_pk1 _ (List.mem_of_getElem? (i := 4) rfl))) rfl⟩)) jo_46
-- SpoutNews$World.speaks
theorem jk_47 : sq_w 47 (sx_b 47).data.toList 0 = true := by decide +kernel
theorem jo_47 : sx_ok 47 := sq_ok_of 47 (fun pc hp => by
    show jt_47 pc = none
    unfold jt_47
    rw [Nat.ble_eq_true_of_le (show 33 ≤ pc from hp)]
    rfl) (by decide +kernel) jk_47
set_option maxRecDepth 100000 in
theorem jf_47 : sx_mf 47 := sx_mfA (c := 10) rfl rfl sx_cls10 (lw_t1 (tq_3_11 _ (List.mem_of_getElem? (i := 14) rfl))) (by decide +kernel) (Nat.le_of_ble_eq_true rfl) (Or.inr (Or.inl ⟨rfl, sx_tb_mm (lw_t1 (tq_3_11 _ (List.mem_of_getElem? (i := 12) rfl))) rfl, sx_tb_mm (lw_t1 (tq_3_11 _ (List.mem_of_getElem? (i := 13) rfl))) rfl⟩)) jo_47
-- SpoutNews$DayRun.sayFirst
theorem jk_48 : sq_w 48 (sx_b 48).data.toList 0 = true := by decide +kernel
theorem jo_48 : sx_ok 48 := sq_ok_of 48 (fun pc hp => by
    show jt_48 pc = none
    unfold jt_48
    rw [Nat.ble_eq_true_of_le (show 138 ≤ pc from hp)]
    rfl) (by decide +kernel) jk_48
set_option maxRecDepth 100000 in
theorem jf_48 : sx_mf 48 := sx_mfA (c := 2) rfl rfl sx_cls2 (lw_t1 (tq_3_12 _ (List.mem_of_getElem? (i := 2) rfl))) (by decide +kernel) (Nat.le_of_ble_eq_true rfl) (Or.inr (Or.inl ⟨rfl, sx_tb_mm (lw_t1 (tq_3_12 _ (List.mem_of_getElem? (i := 1) rfl))) rfl, sx_tb_mm (lw_t0 (⟨"SpoutNews$DayRun", "sayFirst", "(LSpoutNews$World;LSpoutNews$Texts;LSpoutNews$Book;I)V"⟩, 3) (lw_pk1 _ (List.mem_of_getElem? (i := 5) rfl))) rfl⟩)) jo_48
-- SpoutNews$World.slips
theorem jk_49 : sq_w 49 (sx_b 49).data.toList 0 = true := by decide +kernel
theorem jo_49 : sx_ok 49 := sq_ok_of 49 (fun pc hp => by
    show jt_49 pc = none
    unfold jt_49
    rw [Nat.ble_eq_true_of_le (show 55 ≤ pc from hp)]
    rfl) (by decide +kernel) jk_49
set_option maxRecDepth 100000 in
theorem jf_49 : sx_mf 49 := sx_mfA (c := 10) rfl rfl sx_cls10 (lw_t1 (tq_3_12 _ (List.mem_of_getElem? (i := 7) rfl))) (by decide +kernel) (Nat.le_of_ble_eq_true rfl) (Or.inr (Or.inl ⟨rfl, sx_tb_mm (lw_t1 (tq_3_12 _ (List.mem_of_getElem? (i := 5) rfl))) rfl, sx_tb_mm (lw_t1 (tq_3_12 _ (List.mem_of_getElem? (i := 6) rfl))) rfl⟩)) jo_49
-- SpoutNews$World.fillJarsAt
theorem jk_50 : sq_w 50 (sx_b 50).data.toList 0 = true := by decide +kernel
theorem jo_50 : sx_ok 50 := sq_ok_of 50 (fun pc hp => by
    show jt_50 pc = none
    unfold jt_50
    rw [Nat.ble_eq_true_of_le (show 37 ≤ pc from hp)]
    rfl) (by decide +kernel) jk_50
set_option maxRecDepth 100000 in
theorem jf_50 : sx_mf 50 := sx_mfA (c := 10) rfl rfl sx_cls10 (lw_t1 (tq_3_12 _ (List.mem_of_getElem? (i := 13) rfl))) (by decide +kernel) (Nat.le_of_ble_eq_true rfl) (Or.inr (Or.inl ⟨rfl, sx_tb_mm (lw_t1 (tq_3_12 _ (List.mem_of_getElem? (i := 11) rfl))) rfl, sx_tb_mm (lw_t1 (tq_3_12 _ (List.mem_of_getElem? (i := 12) rfl))) rfl⟩)) jo_50
-- SpoutNews$Texts.gutterOf
theorem jk_51 : sq_w 51 (sx_b 51).data.toList 0 = true := by decide +kernel
theorem jo_51 : sx_ok 51 := sq_ok_of 51 (fun pc hp => by
    show jt_51 pc = none
    unfold jt_51
    rw [Nat.ble_eq_true_of_le (show 21 ≤ pc from hp)]
    rfl) (by decide +kernel) jk_51
set_option maxRecDepth 100000 in
theorem jf_51 : sx_mf 51 := sx_mfA (c := 6) rfl rfl sx_cls6 (lw_t1 (tq_3_13 _ (List.mem_of_getElem? (i := 1) rfl))) (by decide +kernel) (Nat.le_of_ble_eq_true rfl) (Or.inr (Or.inl ⟨rfl, sx_tb_mm (lw_t1 (tq_3_12 _ (List.mem_of_getElem? (i := 15) rfl))) rfl, sx_tb_mm (lw_t1 (tq_3_13 _ (List.mem_of_getElem? (i := 0) rfl))) rfl⟩)) jo_51
-- SpoutNews$World.dropFirst
theorem jk_52 : sq_w 52 (sx_b 52).data.toList 0 = true := by decide +kernel
theorem jo_52 : sx_ok 52 := sq_ok_of 52 (fun pc hp => by
    show jt_52 pc = none
    unfold jt_52
    rw [Nat.ble_eq_true_of_le (show 46 ≤ pc from hp)]
    rfl) (by decide +kernel) jk_52
set_option maxRecDepth 100000 in
theorem jf_52 : sx_mf 52 := sx_mfA (c := 10) rfl rfl sx_cls10 (lw_t1 (tq_3_13 _ (List.mem_of_getElem? (i := 5) rfl))) (by decide +kernel) (Nat.le_of_ble_eq_true rfl) (Or.inr (Or.inl ⟨rfl, sx_tb_mm (lw_t1 (tq_3_13 _ (List.mem_of_getElem? (i := 3) rfl))) rfl, sx_tb_mm (lw_t1 (tq_3_13 _ (List.mem_of_getElem? (i := 4) rfl))) rfl⟩)) jo_52
-- SpoutNews$DayRun.leadOn
theorem jk_53 : sq_w 53 (sx_b 53).data.toList 0 = true := by decide +kernel
theorem jo_53 : sx_ok 53 := sq_ok_of 53 (fun pc hp => by
    show jt_53 pc = none
    unfold jt_53
    rw [Nat.ble_eq_true_of_le (show 65 ≤ pc from hp)]
    rfl) (by decide +kernel) jk_53
set_option maxRecDepth 100000 in
theorem jf_53 : sx_mf 53 := sx_mfA (c := 2) rfl rfl sx_cls2 (lw_t1 (tq_3_13 _ (List.mem_of_getElem? (i := 9) rfl))) (by decide +kernel) (Nat.le_of_ble_eq_true rfl) (Or.inr (Or.inl ⟨rfl, sx_tb_mm (lw_t1 (tq_3_13 _ (List.mem_of_getElem? (i := 8) rfl))) rfl, sx_tb_mm (lw_t0 (⟨"SpoutNews$DayRun", "leadOn", "(LSpoutNews$World;LSpoutNews$Book;)V"⟩, 3) (lw_pk1 _ (List.mem_of_getElem? (i := 6) rfl))) rfl⟩)) jo_53
-- SpoutNews.feed
theorem jk_54 : sq_w 54 (sx_b 54).data.toList 0 = true := by decide +kernel
theorem jo_54 : sx_ok 54 := sq_ok_of 54 (fun pc hp => by
    show jt_54 pc = none
    unfold jt_54
    rw [Nat.ble_eq_true_of_le (show 47 ≤ pc from hp)]
    rfl) (by decide +kernel) jk_54
set_option maxRecDepth 100000 in
theorem jf_54 : sx_mf 54 := sx_mfA (c := 11) rfl rfl sx_cls11 (lw_t1 (tq_3_13 _ (List.mem_of_getElem? (i := 13) rfl))) (by decide +kernel) (Nat.le_of_ble_eq_true rfl) (Or.inr (Or.inl ⟨rfl, sx_tb_mm (lw_t1 (tq_3_13 _ (List.mem_of_getElem? (i := 11) rfl))) rfl, sx_tb_mm (lw_t1 (tq_3_13 _ (List.mem_of_getElem? (i := 12) rfl))) rfl⟩)) jo_54
-- SpoutNews.feedFour
theorem jk_55 : sq_w 55 (sx_b 55).data.toList 0 = true := by decide +kernel
theorem jo_55 : sx_ok 55 := sq_ok_of 55 (fun pc hp => by
    show jt_55 pc = none
    unfold jt_55
    rw [Nat.ble_eq_true_of_le (show 50 ≤ pc from hp)]
    rfl) (by decide +kernel) jk_55
set_option maxRecDepth 100000 in
theorem jf_55 : sx_mf 55 := sx_mfA (c := 11) rfl rfl sx_cls11 (lw_t1 (tq_3_14 _ (List.mem_of_getElem? (i := 1) rfl))) (by decide +kernel) (Nat.le_of_ble_eq_true rfl) (Or.inr (Or.inl ⟨rfl, sx_tb_mm (lw_t1 (tq_3_14 _ (List.mem_of_getElem? (i := 0) rfl))) rfl, sx_tb_mm (lw_t0 (⟨"SpoutNews", "feedFour", "(I)V"⟩, 12) (lw_pk1 _ (List.mem_of_getElem? (i := 7) rfl))) rfl⟩)) jo_55
-- SpoutNews.end
theorem jk_56 : sq_w 56 (sx_b 56).data.toList 0 = true := by decide +kernel
theorem jo_56 : sx_ok 56 := sq_ok_of 56 (fun pc hp => by
    show jt_56 pc = none
    unfold jt_56
    rw [Nat.ble_eq_true_of_le (show 21 ≤ pc from hp)]
    rfl) (by decide +kernel) jk_56
set_option maxRecDepth 100000 in
theorem jf_56 : sx_mf 56 := sx_mfA (c := 11) rfl rfl sx_cls11 (lw_t1 (tq_3_14 _ (List.mem_of_getElem? (i := 5) rfl))) (by decide +kernel) (Nat.le_of_ble_eq_true rfl) (Or.inr (Or.inl ⟨rfl, sx_tb_mm (lw_t1 (tq_3_14 _ (List.mem_of_getElem? (i := 3) rfl))) rfl, sx_tb_mm (lw_t1 (tq_3_14 _ (List.mem_of_getElem? (i := 4) rfl))) rfl⟩)) jo_56
-- SpoutNews.text
theorem jk_57 : sq_w 57 (sx_b 57).data.toList 0 = true := by decide +kernel
theorem jo_57 : sx_ok 57 := sq_ok_of 57 (fun pc hp => by
    show jt_57 pc = none
    unfold jt_57
    rw [Nat.ble_eq_true_of_le (show 73 ≤ pc from hp)]
    rfl) (by decide +kernel) jk_57
set_option maxRecDepth 100000 in
theorem jf_57 : sx_mf 57 := sx_mfA (c := 11) rfl rfl sx_cls11 (lw_t1 (tq_3_14 _ (List.mem_of_getElem? (i := 9) rfl))) (by decide +kernel) (Nat.le_of_ble_eq_true rfl) (Or.inr (Or.inl ⟨rfl, sx_tb_mm (lw_t1 (tq_3_14 _ (List.mem_of_getElem? (i := 7) rfl))) rfl, sx_tb_mm (lw_t1 (tq_3_14 _ (List.mem_of_getElem? (i := 8) rfl))) rfl⟩)) jo_57
-- SpoutNews.takeLaw
theorem jk_58 : sq_w 58 (sx_b 58).data.toList 0 = true := by decide +kernel
theorem jo_58 : sx_ok 58 := sq_ok_of 58 (fun pc hp => by
    show jt_58 pc = none
    unfold jt_58
    rw [Nat.ble_eq_true_of_le (show 68 ≤ pc from hp)]
    rfl) (by decide +kernel) jk_58
set_option maxRecDepth 100000 in
theorem jf_58 : sx_mf 58 := sx_mfA (c := 11) rfl rfl sx_cls11 (lw_t1 (tq_3_14 _ (List.mem_of_getElem? (i := 13) rfl))) (by decide +kernel) (Nat.le_of_ble_eq_true rfl) (Or.inr (Or.inl ⟨rfl, sx_tb_mm (lw_t1 (tq_3_14 _ (List.mem_of_getElem? (i := 12) rfl))) rfl, sx_tb_mm (lw_t0 (⟨"SpoutNews", "takeLaw", "(I)I"⟩, 12) (lw_pk1 _ (List.mem_of_getElem? (i := 8) rfl))) rfl⟩)) jo_58
-- SpoutNews$Tokens.split
theorem jk_59 : sq_w 59 (sx_b 59).data.toList 0 = true := by decide +kernel
theorem jo_59 : sx_ok 59 := sq_ok_of 59 (fun pc hp => by
    show jt_59 pc = none
    unfold jt_59
    rw [Nat.ble_eq_true_of_le (show 217 ≤ pc from hp)]
    rfl) (by decide +kernel) jk_59
set_option maxRecDepth 100000 in
theorem jf_59 : sx_mf 59 := sx_mfA (c := 8) rfl rfl sx_cls8 (lw_t1 (tq_4_0 _ (List.mem_of_getElem? (i := 2) rfl))) (by decide +kernel) (Nat.le_of_ble_eq_true rfl) (Or.inr (Or.inl ⟨rfl, sx_tb_mm (lw_t1 (tq_4_0 _ (List.mem_of_getElem? (i := 0) rfl))) rfl, sx_tb_mm (lw_t1 (tq_4_0 _ (List.mem_of_getElem? (i := 1) rfl))) rfl⟩)) jo_59
-- SpoutNews$Tokens.clear
theorem jk_60 : sq_w 60 (sx_b 60).data.toList 0 = true := by decide +kernel
theorem jo_60 : sx_ok 60 := sq_ok_of 60 (fun pc hp => by
    show jt_60 pc = none
    unfold jt_60
    rw [Nat.ble_eq_true_of_le (show 21 ≤ pc from hp)]
    rfl) (by decide +kernel) jk_60
set_option maxRecDepth 100000 in
theorem jf_60 : sx_mf 60 := sx_mfA (c := 8) rfl rfl sx_cls8 (lw_t1 (tq_4_0 _ (List.mem_of_getElem? (i := 6) rfl))) (by decide +kernel) (Nat.le_of_ble_eq_true rfl) (Or.inr (Or.inl ⟨rfl, sx_tb_mm (lw_t1 (tq_4_0 _ (List.mem_of_getElem? (i := 4) rfl))) rfl, sx_tb_mm (lw_t1 (tq_4_0 _ (List.mem_of_getElem? (i := 5) rfl))) rfl⟩)) jo_60
-- SpoutNews$Tokens.isLetter
theorem jk_61 : sq_w 61 (sx_b 61).data.toList 0 = true := by decide +kernel
theorem jo_61 : sx_ok 61 := sq_ok_of 61 (fun pc hp => by
    show jt_61 pc = none
    unfold jt_61
    rw [Nat.ble_eq_true_of_le (show 30 ≤ pc from hp)]
    rfl) (by decide +kernel) jk_61
set_option maxRecDepth 100000 in
theorem jf_61 : sx_mf 61 := sx_mfA (c := 8) rfl rfl sx_cls8 (lw_t1 (tq_4_0 _ (List.mem_of_getElem? (i := 9) rfl))) (by decide +kernel) (Nat.le_of_ble_eq_true rfl) (Or.inl ⟨rfl, sx_tb_mm (lw_t1 (tq_4_0 _ (List.mem_of_getElem? (i := 8) rfl))) rfl⟩) jo_61
-- SpoutNews$Tokens.isDigit
theorem jk_62 : sq_w 62 (sx_b 62).data.toList 0 = true := by decide +kernel
theorem jo_62 : sx_ok 62 := sq_ok_of 62 (fun pc hp => by
    show jt_62 pc = none
    unfold jt_62
    rw [Nat.ble_eq_true_of_le (show 18 ≤ pc from hp)]
    rfl) (by decide +kernel) jk_62
set_option maxRecDepth 100000 in
theorem jf_62 : sx_mf 62 := sx_mfA (c := 8) rfl rfl sx_cls8 (lw_t1 (tq_4_0 _ (List.mem_of_getElem? (i := 12) rfl))) (by decide +kernel) (Nat.le_of_ble_eq_true rfl) (Or.inl ⟨rfl, sx_tb_mm (lw_t1 (tq_4_0 _ (List.mem_of_getElem? (i := 11) rfl))) rfl⟩) jo_62
-- SpoutNews$Tokens.keywordAt
theorem jk_63 : sq_w 63 (sx_b 63).data.toList 0 = true := by decide +kernel
theorem jo_63 : sx_ok 63 := sq_ok_of 63 (fun pc hp => by
    show jt_63 pc = none
    unfold jt_63
    rw [Nat.ble_eq_true_of_le (show 114 ≤ pc from hp)]
    rfl) (by decide +kernel) jk_63
set_option maxRecDepth 100000 in
theorem jf_63 : sx_mf 63 := sx_mfA (c := 8) rfl rfl sx_cls8 (lw_t1 (tq_4_0 _ (List.mem_of_getElem? (i := 15) rfl))) (by decide +kernel) (Nat.le_of_ble_eq_true rfl) (Or.inl ⟨rfl, sx_tb_mm (lw_t1 (tq_4_0 _ (List.mem_of_getElem? (i := 14) rfl))) rfl⟩) jo_63
-- java/lang/String.length
theorem jk_64 : sq_w 64 (sx_b 64).data.toList 0 = true := by decide +kernel
theorem jo_64 : sx_ok 64 := sq_ok_of 64 (fun pc hp => by
    show jt_64 pc = none
    unfold jt_64
    rw [Nat.ble_eq_true_of_le (show 11 ≤ pc from hp)]
    rfl) (by decide +kernel) jk_64
set_option maxRecDepth 100000 in
theorem jf_64 : sx_mf 64 := sx_mfA (c := 17) rfl rfl sx_cls17 (lw_t1 (tq_4_1 _ (List.mem_of_getElem? (i := 3) rfl))) (by decide +kernel) (Nat.le_of_ble_eq_true rfl) (Or.inr (Or.inl ⟨rfl, sx_tb_mm (lw_t1 (tq_4_1 _ (List.mem_of_getElem? (i := 1) rfl))) rfl, sx_tb_mm (lw_t1 (tq_4_1 _ (List.mem_of_getElem? (i := 2) rfl))) rfl⟩)) jo_64
-- java/lang/String.coder
theorem jk_65 : sq_w 65 (sx_b 65).data.toList 0 = true := by decide +kernel
theorem jo_65 : sx_ok 65 := sq_ok_of 65 (fun pc hp => by
    show jt_65 pc = none
    unfold jt_65
    rw [Nat.ble_eq_true_of_le (show 15 ≤ pc from hp)]
    rfl) (by decide +kernel) jk_65
set_option maxRecDepth 100000 in
theorem jf_65 : sx_mf 65 := sx_mfA (c := 17) rfl rfl sx_cls17 (lw_t1 (tq_4_1 _ (List.mem_of_getElem? (i := 7) rfl))) (by decide +kernel) (Nat.le_of_ble_eq_true rfl) (Or.inr (Or.inl ⟨rfl, sx_tb_mm (lw_t1 (tq_4_1 _ (List.mem_of_getElem? (i := 5) rfl))) rfl, sx_tb_mm (lw_t1 (tq_4_1 _ (List.mem_of_getElem? (i := 6) rfl))) rfl⟩)) jo_65
-- java/lang/String.charAt
theorem jk_66 : sq_w 66 (sx_b 66).data.toList 0 = true := by decide +kernel
theorem jo_66 : sx_ok 66 := sq_ok_of 66 (fun pc hp => by
    show jt_66 pc = none
    unfold jt_66
    rw [Nat.ble_eq_true_of_le (show 25 ≤ pc from hp)]
    rfl) (by decide +kernel) jk_66
set_option maxRecDepth 100000 in
theorem jf_66 : sx_mf 66 := sx_mfA (c := 17) rfl rfl sx_cls17 (lw_t1 (tq_4_1 _ (List.mem_of_getElem? (i := 13) rfl))) (by decide +kernel) (Nat.le_of_ble_eq_true rfl) (Or.inr (Or.inl ⟨rfl, sx_tb_mm (lw_t1 (tq_4_1 _ (List.mem_of_getElem? (i := 11) rfl))) rfl, sx_tb_mm (lw_t1 (tq_4_1 _ (List.mem_of_getElem? (i := 12) rfl))) rfl⟩)) jo_66
-- java/lang/String.isLatin1
theorem jk_67 : sq_w 67 (sx_b 67).data.toList 0 = true := by decide +kernel
theorem jo_67 : sx_ok 67 := sq_ok_of 67 (fun pc hp => by
    show jt_67 pc = none
    unfold jt_67
    rw [Nat.ble_eq_true_of_le (show 19 ≤ pc from hp)]
    rfl) (by decide +kernel) jk_67
set_option maxRecDepth 100000 in
theorem jf_67 : sx_mf 67 := sx_mfA (c := 17) rfl rfl sx_cls17 (lw_t1 (tq_4_2 _ (List.mem_of_getElem? (i := 1) rfl))) (by decide +kernel) (Nat.le_of_ble_eq_true rfl) (Or.inr (Or.inl ⟨rfl, sx_tb_mm (lw_t1 (tq_4_1 _ (List.mem_of_getElem? (i := 15) rfl))) rfl, sx_tb_mm (lw_t1 (tq_4_2 _ (List.mem_of_getElem? (i := 0) rfl))) rfl⟩)) jo_67
-- java/lang/StringLatin1.charAt
theorem jk_68 : sq_w 68 (sx_b 68).data.toList 0 = true := by decide +kernel
theorem jo_68 : sx_ok 68 := sq_ok_of 68 (fun pc hp => by
    show jt_68 pc = none
    unfold jt_68
    rw [Nat.ble_eq_true_of_le (show 15 ≤ pc from hp)]
    rfl) (by decide +kernel) jk_68
set_option maxRecDepth 100000 in
theorem jf_68 : sx_mf 68 := sx_mfA (c := 18) rfl rfl sx_cls18 (lw_t1 (tq_4_2 _ (List.mem_of_getElem? (i := 4) rfl))) (by decide +kernel) (Nat.le_of_ble_eq_true rfl) (Or.inl ⟨rfl, sx_tb_mm (lw_t1 (tq_4_2 _ (List.mem_of_getElem? (i := 3) rfl))) rfl⟩) jo_68
-- java/lang/String.checkIndex
theorem jk_69 : sq_w 69 (sx_b 69).data.toList 0 = true := by decide +kernel
theorem jo_69 : sx_ok 69 := sq_ok_of 69 (fun pc hp => by
    show jt_69 pc = none
    unfold jt_69
    rw [Nat.ble_eq_true_of_le (show 10 ≤ pc from hp)]
    rfl) (by decide +kernel) jk_69
set_option maxRecDepth 100000 in
theorem jf_69 : sx_mf 69 := sx_mfA (c := 17) rfl rfl sx_cls17 (lw_t1 (tq_4_2 _ (List.mem_of_getElem? (i := 7) rfl))) (by decide +kernel) (Nat.le_of_ble_eq_true rfl) (Or.inl ⟨rfl, sx_tb_mm (lw_t1 (tq_4_2 _ (List.mem_of_getElem? (i := 6) rfl))) rfl⟩) jo_69
-- jdk/internal/util/Preconditions.checkIndex
theorem jk_70 : sq_w 70 (sx_b 70).data.toList 0 = true := by decide +kernel
theorem jo_70 : sx_ok 70 := sq_ok_of 70 (fun pc hp => by
    show jt_70 pc = none
    unfold jt_70
    rw [Nat.ble_eq_true_of_le (show 18 ≤ pc from hp)]
    rfl) (by decide +kernel) jk_70
set_option maxRecDepth 100000 in
theorem jf_70 : sx_mf 70 := sx_mfA (c := 21) rfl rfl sx_cls21 (lw_t1 (tq_4_2 _ (List.mem_of_getElem? (i := 12) rfl))) (by decide +kernel) (Nat.le_of_ble_eq_true rfl) (Or.inl ⟨rfl, sx_tb_mm (lw_t1 (tq_4_2 _ (List.mem_of_getElem? (i := 11) rfl))) rfl⟩) jo_70
-- java/lang/StringUTF16.checkIndex
theorem jk_72 : sq_w 72 (sx_b 72).data.toList 0 = true := by decide +kernel
theorem jo_72 : sx_ok 72 := sq_ok_of 72 (fun pc hp => by
    show jt_72 pc = none
    unfold jt_72
    rw [Nat.ble_eq_true_of_le (show 9 ≤ pc from hp)]
    rfl) (by decide +kernel) jk_72
set_option maxRecDepth 100000 in
theorem jf_72 : sx_mf 72 := sx_mfA (c := 19) rfl rfl sx_cls19 (lw_t1 (tq_4_3 _ (List.mem_of_getElem? (i := 2) rfl))) (by decide +kernel) (Nat.le_of_ble_eq_true rfl) (Or.inl ⟨rfl, sx_tb_mm (lw_t1 (tq_4_3 _ (List.mem_of_getElem? (i := 1) rfl))) rfl⟩) jo_72
-- java/lang/StringUTF16.length
theorem jk_73 : sq_w 73 (sx_b 73).data.toList 0 = true := by decide +kernel
theorem jo_73 : sx_ok 73 := sq_ok_of 73 (fun pc hp => by
    show jt_73 pc = none
    unfold jt_73
    rw [Nat.ble_eq_true_of_le (show 5 ≤ pc from hp)]
    rfl) (by decide +kernel) jk_73
set_option maxRecDepth 100000 in
theorem jf_73 : sx_mf 73 := sx_mfA (c := 19) rfl rfl sx_cls19 (lw_t1 (tq_4_3 _ (List.mem_of_getElem? (i := 5) rfl))) (by decide +kernel) (Nat.le_of_ble_eq_true rfl) (Or.inl ⟨rfl, sx_tb_mm (lw_t1 (tq_4_3 _ (List.mem_of_getElem? (i := 4) rfl))) rfl⟩) jo_73
-- SpoutNews$Tokens.sameLetters
theorem jk_75 : sq_w 75 (sx_b 75).data.toList 0 = true := by decide +kernel
theorem jo_75 : sx_ok 75 := sq_ok_of 75 (fun pc hp => by
    show jt_75 pc = none
    unfold jt_75
    rw [Nat.ble_eq_true_of_le (show 37 ≤ pc from hp)]
    rfl) (by decide +kernel) jk_75
set_option maxRecDepth 100000 in
theorem jf_75 : sx_mf 75 := sx_mfA (c := 8) rfl rfl sx_cls8 (lw_t1 (tq_4_4 _ (List.mem_of_getElem? (i := 2) rfl))) (by decide +kernel) (Nat.le_of_ble_eq_true rfl) (Or.inl ⟨rfl, sx_tb_mm (lw_t1 (tq_4_4 _ (List.mem_of_getElem? (i := 1) rfl))) rfl⟩) jo_75
-- SpoutNews$Tokens.add
theorem jk_76 : sq_w 76 (sx_b 76).data.toList 0 = true := by decide +kernel
theorem jo_76 : sx_ok 76 := sq_ok_of 76 (fun pc hp => by
    show jt_76 pc = none
    unfold jt_76
    rw [Nat.ble_eq_true_of_le (show 51 ≤ pc from hp)]
    rfl) (by decide +kernel) jk_76
set_option maxRecDepth 100000 in
theorem jf_76 : sx_mf 76 := sx_mfA (c := 8) rfl rfl sx_cls8 (lw_t1 (tq_4_4 _ (List.mem_of_getElem? (i := 6) rfl))) (by decide +kernel) (Nat.le_of_ble_eq_true rfl) (Or.inr (Or.inl ⟨rfl, sx_tb_mm (lw_t1 (tq_4_4 _ (List.mem_of_getElem? (i := 5) rfl))) rfl, sx_tb_mm (lw_t0 (⟨"SpoutNews$Tokens", "add", "(III)V"⟩, 7) (lw_pk1 _ (List.mem_of_getElem? (i := 9) rfl))) rfl⟩)) jo_76
-- SpoutNews$Tokens.numberAt
theorem jk_77 : sq_w 77 (sx_b 77).data.toList 0 = true := by decide +kernel
theorem jo_77 : sx_ok 77 := sq_ok_of 77 (fun pc hp => by
    show jt_77 pc = none
    unfold jt_77
    rw [Nat.ble_eq_true_of_le (show 52 ≤ pc from hp)]
    rfl) (by decide +kernel) jk_77
set_option maxRecDepth 100000 in
theorem jf_77 : sx_mf 77 := sx_mfA (c := 8) rfl rfl sx_cls8 (lw_t1 (tq_4_4 _ (List.mem_of_getElem? (i := 9) rfl))) (by decide +kernel) (Nat.le_of_ble_eq_true rfl) (Or.inl ⟨rfl, sx_tb_mm (lw_t1 (tq_4_4 _ (List.mem_of_getElem? (i := 8) rfl))) rfl⟩) jo_77
-- SpoutNews$Tokens.isSignOfLaw
theorem jk_78 : sq_w 78 (sx_b 78).data.toList 0 = true := by decide +kernel
theorem jo_78 : sx_ok 78 := sq_ok_of 78 (fun pc hp => by
    show jt_78 pc = none
    unfold jt_78
    rw [Nat.ble_eq_true_of_le (show 66 ≤ pc from hp)]
    rfl) (by decide +kernel) jk_78
set_option maxRecDepth 100000 in
theorem jf_78 : sx_mf 78 := sx_mfA (c := 8) rfl rfl sx_cls8 (lw_t1 (tq_4_4 _ (List.mem_of_getElem? (i := 12) rfl))) (by decide +kernel) (Nat.le_of_ble_eq_true rfl) (Or.inl ⟨rfl, sx_tb_mm (lw_t1 (tq_4_4 _ (List.mem_of_getElem? (i := 11) rfl))) rfl⟩) jo_78
-- SpoutNews$LawReader.readLaw
theorem jk_79 : sq_w 79 (sx_b 79).data.toList 0 = true := by decide +kernel
theorem jo_79 : sx_ok 79 := sq_ok_of 79 (fun pc hp => by
    show jt_79 pc = none
    unfold jt_79
    rw [Nat.ble_eq_true_of_le (show 128 ≤ pc from hp)]
    rfl) (by decide +kernel) jk_79
set_option maxRecDepth 100000 in
theorem jf_79 : sx_mf 79 := sx_mfA (c := 4) rfl rfl sx_cls4 (lw_t1 (tq_4_5 _ (List.mem_of_getElem? (i := 0) rfl))) (by decide +kernel) (Nat.le_of_ble_eq_true rfl) (Or.inr (Or.inl ⟨rfl, sx_tb_mm (lw_t1 (tq_4_4 _ (List.mem_of_getElem? (i := 14) rfl))) rfl, sx_tb_mm (lw_t1 (tq_4_4 _ (List.mem_of_getElem? (i := 15) rfl))) rfl⟩)) jo_79
-- SpoutNews$Law.clear
theorem jk_80 : sq_w 80 (sx_b 80).data.toList 0 = true := by decide +kernel
theorem jo_80 : sx_ok 80 := sq_ok_of 80 (fun pc hp => by
    show jt_80 pc = none
    unfold jt_80
    rw [Nat.ble_eq_true_of_le (show 11 ≤ pc from hp)]
    rfl) (by decide +kernel) jk_80
set_option maxRecDepth 100000 in
theorem jf_80 : sx_mf 80 := sx_mfA (c := 3) rfl rfl sx_cls3 (lw_t1 (tq_4_5 _ (List.mem_of_getElem? (i := 4) rfl))) (by decide +kernel) (Nat.le_of_ble_eq_true rfl) (Or.inr (Or.inl ⟨rfl, sx_tb_mm (lw_t1 (tq_4_5 _ (List.mem_of_getElem? (i := 2) rfl))) rfl, sx_tb_mm (lw_t1 (tq_4_5 _ (List.mem_of_getElem? (i := 3) rfl))) rfl⟩)) jo_80
-- SpoutNews$Tokens.isAtEnd
theorem jk_81 : sq_w 81 (sx_b 81).data.toList 0 = true := by decide +kernel
theorem jo_81 : sx_ok 81 := sq_ok_of 81 (fun pc hp => by
    show jt_81 pc = none
    unfold jt_81
    rw [Nat.ble_eq_true_of_le (show 30 ≤ pc from hp)]
    rfl) (by decide +kernel) jk_81
set_option maxRecDepth 100000 in
theorem jf_81 : sx_mf 81 := sx_mfA (c := 8) rfl rfl sx_cls8 (lw_t1 (tq_4_5 _ (List.mem_of_getElem? (i := 8) rfl))) (by decide +kernel) (Nat.le_of_ble_eq_true rfl) (Or.inr (Or.inl ⟨rfl, sx_tb_mm (lw_t1 (tq_4_5 _ (List.mem_of_getElem? (i := 6) rfl))) rfl, sx_tb_mm (lw_t1 (tq_4_5 _ (List.mem_of_getElem? (i := 7) rfl))) rfl⟩)) jo_81
-- SpoutNews$Tokens.keyword
theorem jk_82 : sq_w 82 (sx_b 82).data.toList 0 = true := by decide +kernel
theorem jo_82 : sx_ok 82 := sq_ok_of 82 (fun pc hp => by
    show jt_82 pc = none
    unfold jt_82
    rw [Nat.ble_eq_true_of_le (show 38 ≤ pc from hp)]
    rfl) (by decide +kernel) jk_82
set_option maxRecDepth 100000 in
theorem jf_82 : sx_mf 82 := sx_mfA (c := 8) rfl rfl sx_cls8 (lw_t1 (tq_4_5 _ (List.mem_of_getElem? (i := 12) rfl))) (by decide +kernel) (Nat.le_of_ble_eq_true rfl) (Or.inr (Or.inl ⟨rfl, sx_tb_mm (lw_t1 (tq_4_5 _ (List.mem_of_getElem? (i := 10) rfl))) rfl, sx_tb_mm (lw_t1 (tq_4_5 _ (List.mem_of_getElem? (i := 11) rfl))) rfl⟩)) jo_82
-- SpoutNews$Tokens.refuse
theorem jk_83 : sq_w 83 (sx_b 83).data.toList 0 = true := by decide +kernel
theorem jo_83 : sx_ok 83 := sq_ok_of 83 (fun pc hp => by
    show jt_83 pc = none
    unfold jt_83
    rw [Nat.ble_eq_true_of_le (show 35 ≤ pc from hp)]
    rfl) (by decide +kernel) jk_83
set_option maxRecDepth 100000 in
theorem jf_83 : sx_mf 83 := sx_mfA (c := 8) rfl rfl sx_cls8 (lw_t1 (tq_4_6 _ (List.mem_of_getElem? (i := 0) rfl))) (by decide +kernel) (Nat.le_of_ble_eq_true rfl) (Or.inr (Or.inl ⟨rfl, sx_tb_mm (lw_t1 (tq_4_5 _ (List.mem_of_getElem? (i := 14) rfl))) rfl, sx_tb_mm (lw_t1 (tq_4_5 _ (List.mem_of_getElem? (i := 15) rfl))) rfl⟩)) jo_83
-- SpoutNews$Tokens.takeLineStart
theorem jk_84 : sq_w 84 (sx_b 84).data.toList 0 = true := by decide +kernel
theorem jo_84 : sx_ok 84 := sq_ok_of 84 (fun pc hp => by
    show jt_84 pc = none
    unfold jt_84
    rw [Nat.ble_eq_true_of_le (show 28 ≤ pc from hp)]
    rfl) (by decide +kernel) jk_84
set_option maxRecDepth 100000 in
theorem jf_84 : sx_mf 84 := sx_mfA (c := 8) rfl rfl sx_cls8 (lw_t1 (tq_4_6 _ (List.mem_of_getElem? (i := 4) rfl))) (by decide +kernel) (Nat.le_of_ble_eq_true rfl) (Or.inr (Or.inl ⟨rfl, sx_tb_mm (lw_t1 (tq_4_6 _ (List.mem_of_getElem? (i := 2) rfl))) rfl, sx_tb_mm (lw_t1 (tq_4_6 _ (List.mem_of_getElem? (i := 3) rfl))) rfl⟩)) jo_84
-- SpoutNews$Tokens.isAt
theorem jk_85 : sq_w 85 (sx_b 85).data.toList 0 = true := by decide +kernel
theorem jo_85 : sx_ok 85 := sq_ok_of 85 (fun pc hp => by
    show jt_85 pc = none
    unfold jt_85
    rw [Nat.ble_eq_true_of_le (show 43 ≤ pc from hp)]
    rfl) (by decide +kernel) jk_85
set_option maxRecDepth 100000 in
theorem jf_85 : sx_mf 85 := sx_mfA (c := 8) rfl rfl sx_cls8 (lw_t1 (tq_4_6 _ (List.mem_of_getElem? (i := 8) rfl))) (by decide +kernel) (Nat.le_of_ble_eq_true rfl) (Or.inr (Or.inl ⟨rfl, sx_tb_mm (lw_t1 (tq_4_6 _ (List.mem_of_getElem? (i := 6) rfl))) rfl, sx_tb_mm (lw_t1 (tq_4_6 _ (List.mem_of_getElem? (i := 7) rfl))) rfl⟩)) jo_85
-- SpoutNews$Tokens.take
theorem jk_86 : sq_w 86 (sx_b 86).data.toList 0 = true := by decide +kernel
theorem jo_86 : sx_ok 86 := sq_ok_of 86 (fun pc hp => by
    show jt_86 pc = none
    unfold jt_86
    rw [Nat.ble_eq_true_of_le (show 21 ≤ pc from hp)]
    rfl) (by decide +kernel) jk_86
set_option maxRecDepth 100000 in
theorem jf_86 : sx_mf 86 := sx_mfA (c := 8) rfl rfl sx_cls8 (lw_t1 (tq_4_6 _ (List.mem_of_getElem? (i := 13) rfl))) (by decide +kernel) (Nat.le_of_ble_eq_true rfl) (Or.inr (Or.inl ⟨rfl, sx_tb_mm (lw_t1 (tq_4_6 _ (List.mem_of_getElem? (i := 11) rfl))) rfl, sx_tb_mm (lw_t1 (tq_4_6 _ (List.mem_of_getElem? (i := 12) rfl))) rfl⟩)) jo_86
-- SpoutNews$Tokens.step
theorem jk_87 : sq_w 87 (sx_b 87).data.toList 0 = true := by decide +kernel
theorem jo_87 : sx_ok 87 := sq_ok_of 87 (fun pc hp => by
    show jt_87 pc = none
    unfold jt_87
    rw [Nat.ble_eq_true_of_le (show 24 ≤ pc from hp)]
    rfl) (by decide +kernel) jk_87
set_option maxRecDepth 100000 in
theorem jf_87 : sx_mf 87 := sx_mfA (c := 8) rfl rfl sx_cls8 (lw_t1 (tq_4_7 _ (List.mem_of_getElem? (i := 1) rfl))) (by decide +kernel) (Nat.le_of_ble_eq_true rfl) (Or.inr (Or.inl ⟨rfl, sx_tb_mm (lw_t1 (tq_4_6 _ (List.mem_of_getElem? (i := 15) rfl))) rfl, sx_tb_mm (lw_t1 (tq_4_7 _ (List.mem_of_getElem? (i := 0) rfl))) rfl⟩)) jo_87
-- SpoutNews$LawReader.sum
theorem jk_88 : sq_w 88 (sx_b 88).data.toList 0 = true := by decide +kernel
theorem jo_88 : sx_ok 88 := sq_ok_of 88 (fun pc hp => by
    show jt_88 pc = none
    unfold jt_88
    rw [Nat.ble_eq_true_of_le (show 149 ≤ pc from hp)]
    rfl) (by decide +kernel) jk_88
set_option maxRecDepth 100000 in
theorem jf_88 : sx_mf 88 := sx_mfA (c := 4) rfl rfl sx_cls4 (lw_t1 (tq_4_7 _ (List.mem_of_getElem? (i := 5) rfl))) (by decide +kernel) (Nat.le_of_ble_eq_true rfl) (Or.inr (Or.inl ⟨rfl, sx_tb_mm (lw_t1 (tq_4_7 _ (List.mem_of_getElem? (i := 4) rfl))) rfl, sx_tb_mm (lw_t0 (⟨"SpoutNews$LawReader", "sum", "(LSpoutNews$Tokens;LSpoutNews$Law;)Z"⟩, 4) (lw_pk1 _ (List.mem_of_getElem? (i := 10) rfl))) rfl⟩)) jo_88
-- SpoutNews$LawReader.unit
theorem jk_89 : sq_w 89 (sx_b 89).data.toList 0 = true := by decide +kernel
theorem jo_89 : sx_ok 89 := sq_ok_of 89 (fun pc hp => by
    show jt_89 pc = none
    unfold jt_89
    rw [Nat.ble_eq_true_of_le (show 56 ≤ pc from hp)]
    rfl) (by decide +kernel) jk_89
set_option maxRecDepth 100000 in
theorem jf_89 : sx_mf 89 := sx_mfA (c := 4) rfl rfl sx_cls4 (lw_t1 (tq_4_7 _ (List.mem_of_getElem? (i := 9) rfl))) (by decide +kernel) (Nat.le_of_ble_eq_true rfl) (Or.inr (Or.inl ⟨rfl, sx_tb_mm (lw_t1 (tq_4_7 _ (List.mem_of_getElem? (i := 8) rfl))) rfl, sx_tb_mm (lw_t0 (⟨"SpoutNews$LawReader", "unit", "(LSpoutNews$Tokens;LSpoutNews$Law;)Z"⟩, 4) (lw_pk1 _ (List.mem_of_getElem? (i := 11) rfl))) rfl⟩)) jo_89
-- SpoutNews$Tokens.number
theorem jk_90 : sq_w 90 (sx_b 90).data.toList 0 = true := by decide +kernel
theorem jo_90 : sx_ok 90 := sq_ok_of 90 (fun pc hp => by
    show jt_90 pc = none
    unfold jt_90
    rw [Nat.ble_eq_true_of_le (show 38 ≤ pc from hp)]
    rfl) (by decide +kernel) jk_90
set_option maxRecDepth 100000 in
theorem jf_90 : sx_mf 90 := sx_mfA (c := 8) rfl rfl sx_cls8 (lw_t1 (tq_4_7 _ (List.mem_of_getElem? (i := 13) rfl))) (by decide +kernel) (Nat.le_of_ble_eq_true rfl) (Or.inr (Or.inl ⟨rfl, sx_tb_mm (lw_t1 (tq_4_7 _ (List.mem_of_getElem? (i := 11) rfl))) rfl, sx_tb_mm (lw_t1 (tq_4_7 _ (List.mem_of_getElem? (i := 12) rfl))) rfl⟩)) jo_90
-- SpoutNews$Law.add
theorem jk_91 : sq_w 91 (sx_b 91).data.toList 0 = true := by decide +kernel
theorem jo_91 : sx_ok 91 := sq_ok_of 91 (fun pc hp => by
    show jt_91 pc = none
    unfold jt_91
    rw [Nat.ble_eq_true_of_le (show 41 ≤ pc from hp)]
    rfl) (by decide +kernel) jk_91
set_option maxRecDepth 100000 in
theorem jf_91 : sx_mf 91 := sx_mfA (c := 3) rfl rfl sx_cls3 (lw_t1 (tq_4_8 _ (List.mem_of_getElem? (i := 1) rfl))) (by decide +kernel) (Nat.le_of_ble_eq_true rfl) (Or.inr (Or.inl ⟨rfl, sx_tb_mm (lw_t1 (tq_4_7 _ (List.mem_of_getElem? (i := 15) rfl))) rfl, sx_tb_mm (lw_t1 (tq_4_8 _ (List.mem_of_getElem? (i := 0) rfl))) rfl⟩)) jo_91
-- SpoutNews$LawReader.part
theorem jk_92 : sq_w 92 (sx_b 92).data.toList 0 = true := by decide +kernel
theorem jo_92 : sx_ok 92 := sq_ok_of 92 (fun pc hp => by
    show jt_92 pc = none
    unfold jt_92
    rw [Nat.ble_eq_true_of_le (show 36 ≤ pc from hp)]
    rfl) (by decide +kernel) jk_92
set_option maxRecDepth 100000 in
theorem jf_92 : sx_mf 92 := sx_mfA (c := 4) rfl rfl sx_cls4 (lw_t1 (tq_4_8 _ (List.mem_of_getElem? (i := 7) rfl))) (by decide +kernel) (Nat.le_of_ble_eq_true rfl) (Or.inr (Or.inl ⟨rfl, sx_tb_mm (lw_t1 (tq_4_8 _ (List.mem_of_getElem? (i := 6) rfl))) rfl, sx_tb_mm (lw_t0 (⟨"SpoutNews$LawReader", "part", "(LSpoutNews$Tokens;LSpoutNews$Law;)Z"⟩, 4) (lw_pk1 _ (List.mem_of_getElem? (i := 12) rfl))) rfl⟩)) jo_92
-- SpoutNews$LawReader.addLate
theorem jk_93 : sq_w 93 (sx_b 93).data.toList 0 = true := by decide +kernel
theorem jo_93 : sx_ok 93 := sq_ok_of 93 (fun pc hp => by
    show jt_93 pc = none
    unfold jt_93
    rw [Nat.ble_eq_true_of_le (show 12 ≤ pc from hp)]
    rfl) (by decide +kernel) jk_93
set_option maxRecDepth 100000 in
theorem jf_93 : sx_mf 93 := sx_mfA (c := 4) rfl rfl sx_cls4 (lw_t1 (tq_4_8 _ (List.mem_of_getElem? (i := 11) rfl))) (by decide +kernel) (Nat.le_of_ble_eq_true rfl) (Or.inr (Or.inl ⟨rfl, sx_tb_mm (lw_t1 (tq_4_8 _ (List.mem_of_getElem? (i := 10) rfl))) rfl, sx_tb_mm (lw_t0 (⟨"SpoutNews$LawReader", "addLate", "(LSpoutNews$Law;I)V"⟩, 4) (lw_pk1 _ (List.mem_of_getElem? (i := 13) rfl))) rfl⟩)) jo_93
-- SpoutNews$LawReader.conditions
theorem jk_94 : sq_w 94 (sx_b 94).data.toList 0 = true := by decide +kernel
theorem jo_94 : sx_ok 94 := sq_ok_of 94 (fun pc hp => by
    show jt_94 pc = none
    unfold jt_94
    rw [Nat.ble_eq_true_of_le (show 118 ≤ pc from hp)]
    rfl) (by decide +kernel) jk_94
set_option maxRecDepth 100000 in
theorem jf_94 : sx_mf 94 := sx_mfA (c := 4) rfl rfl sx_cls4 (lw_t1 (tq_4_8 _ (List.mem_of_getElem? (i := 15) rfl))) (by decide +kernel) (Nat.le_of_ble_eq_true rfl) (Or.inr (Or.inl ⟨rfl, sx_tb_mm (lw_t1 (tq_4_8 _ (List.mem_of_getElem? (i := 14) rfl))) rfl, sx_tb_mm (lw_t0 (⟨"SpoutNews$LawReader", "conditions", "(LSpoutNews$Tokens;LSpoutNews$Law;)Z"⟩, 4) (lw_pk1 _ (List.mem_of_getElem? (i := 14) rfl))) rfl⟩)) jo_94
-- SpoutNews$LawReader.openAll
theorem jk_95 : sq_w 95 (sx_b 95).data.toList 0 = true := by decide +kernel
theorem jo_95 : sx_ok 95 := sq_ok_of 95 (fun pc hp => by
    show jt_95 pc = none
    unfold jt_95
    rw [Nat.ble_eq_true_of_le (show 96 ≤ pc from hp)]
    rfl) (by decide +kernel) jk_95
set_option maxRecDepth 100000 in
theorem jf_95 : sx_mf 95 := sx_mfA (c := 4) rfl rfl sx_cls4 (lw_t1 (tq_4_9 _ (List.mem_of_getElem? (i := 3) rfl))) (by decide +kernel) (Nat.le_of_ble_eq_true rfl) (Or.inr (Or.inl ⟨rfl, sx_tb_mm (lw_t1 (tq_4_9 _ (List.mem_of_getElem? (i := 2) rfl))) rfl, sx_tb_mm (lw_t0 (⟨"SpoutNews$LawReader", "openAll", "(LSpoutNews$Tokens;)Z"⟩, 4) (lw_pk1 _ (List.mem_of_getElem? (i := 15) rfl))) rfl⟩)) jo_95
-- SpoutNews$LawReader.push
theorem jk_96 : sq_w 96 (sx_b 96).data.toList 0 = true := by decide +kernel
theorem jo_96 : sx_ok 96 := sq_ok_of 96 (fun pc hp => by
    show jt_96 pc = none
    unfold jt_96
    rw [Nat.ble_eq_true_of_le (show 30 ≤ pc from hp)]
    rfl) (by decide +kernel) jk_96
set_option maxRecDepth 100000 in
theorem jf_96 : sx_mf 96 := sx_mfA (c := 4) rfl rfl sx_cls4 (lw_t1 (tq_4_9 _ (List.mem_of_getElem? (i := 7) rfl))) (by decide +kernel) (Nat.le_of_ble_eq_true rfl) (Or.inr (Or.inl ⟨rfl, sx_tb_mm (lw_t1 (tq_4_9 _ (List.mem_of_getElem? (i := 6) rfl))) rfl, sx_tb_mm (lw_t0 (⟨"SpoutNews$LawReader", "push", "(I)V"⟩, 4) (lw_pk2 _ (List.mem_of_getElem? (i := 0) rfl))) rfl⟩)) jo_96
-- SpoutNews$LawReader.comparison
theorem jk_97 : sq_w 97 (sx_b 97).data.toList 0 = true := by decide +kernel
theorem jo_97 : sx_ok 97 := sq_ok_of 97 (fun pc hp => by
    show jt_97 pc = none
    unfold jt_97
    rw [Nat.ble_eq_true_of_le (show 92 ≤ pc from hp)]
    rfl) (by decide +kernel) jk_97
set_option maxRecDepth 100000 in
theorem jf_97 : sx_mf 97 := sx_mfA (c := 4) rfl rfl sx_cls4 (lw_t1 (tq_4_9 _ (List.mem_of_getElem? (i := 11) rfl))) (by decide +kernel) (Nat.le_of_ble_eq_true rfl) (Or.inr (Or.inl ⟨rfl, sx_tb_mm (lw_t1 (tq_4_9 _ (List.mem_of_getElem? (i := 10) rfl))) rfl, sx_tb_mm (lw_t0 (⟨"SpoutNews$LawReader", "comparison", "(LSpoutNews$Tokens;LSpoutNews$Law;)Z"⟩, 4) (lw_pk2 _ (List.mem_of_getElem? (i := 1) rfl))) rfl⟩)) jo_97
-- SpoutNews$LawReader.closeAll
theorem jk_98 : sq_w 98 (sx_b 98).data.toList 0 = true := by decide +kernel
theorem jo_98 : sx_ok 98 := sq_ok_of 98 (fun pc hp => by
    show jt_98 pc = none
    unfold jt_98
    rw [Nat.ble_eq_true_of_le (show 82 ≤ pc from hp)]
    rfl) (by decide +kernel) jk_98
set_option maxRecDepth 100000 in
theorem jf_98 : sx_mf 98 := sx_mfA (c := 4) rfl rfl sx_cls4 (lw_t1 (tq_4_9 _ (List.mem_of_getElem? (i := 15) rfl))) (by decide +kernel) (Nat.le_of_ble_eq_true rfl) (Or.inr (Or.inl ⟨rfl, sx_tb_mm (lw_t1 (tq_4_9 _ (List.mem_of_getElem? (i := 14) rfl))) rfl, sx_tb_mm (lw_t0 (⟨"SpoutNews$LawReader", "closeAll", "(LSpoutNews$Tokens;LSpoutNews$Law;)V"⟩, 4) (lw_pk2 _ (List.mem_of_getElem? (i := 2) rfl))) rfl⟩)) jo_98
