-- by program (wip/gen/mk12.py): the tables of methods hold
-- SpoutNews.<init>
theorem jk_0 : sx_chk 0 0 114 = true := by decide +kernel
theorem jo_0 : sx_ok 0 := sx_ok_of 0 (fun pc hp => by
    show jt_0 pc = none
    unfold jt_0
    rw [Nat.ble_eq_true_of_le (show 114 ≤ pc from hp)]
    rfl) (fun pc hp => ⟨0, 114, Nat.zero_le _, hp, jk_0⟩)
set_option maxRecDepth 100000 in
theorem jf_0 : sx_mf 0 := sx_mfA (c := 11) (p := 160) rfl rfl sx_cls11 rfl (by decide +kernel) (Nat.le_of_ble_eq_true rfl) (Or.inr (Or.inr ⟨rfl, sx_tb_in 159 (by decide +kernel) rfl, rfl, rfl⟩)) jo_0
-- SpoutNews$Cathedral.<init>
theorem jk_2 : sx_chk 2 0 50 = true := by decide +kernel
theorem jo_2 : sx_ok 2 := sx_ok_of 2 (fun pc hp => by
    show jt_2 pc = none
    unfold jt_2
    rw [Nat.ble_eq_true_of_le (show 50 ≤ pc from hp)]
    rfl) (fun pc hp => ⟨0, 50, Nat.zero_le _, hp, jk_2⟩)
set_option maxRecDepth 100000 in
theorem jf_2 : sx_mf 2 := sx_mfA (c := 1) (p := 168) rfl rfl sx_cls1 rfl (by decide +kernel) (Nat.le_of_ble_eq_true rfl) (Or.inr (Or.inr ⟨rfl, sx_tb_in 167 (by decide +kernel) rfl, rfl, rfl⟩)) jo_2
-- SpoutNews$World.<init>
theorem jk_3 : sx_chk 3 0 107 = true := by decide +kernel
theorem jo_3 : sx_ok 3 := sx_ok_of 3 (fun pc hp => by
    show jt_3 pc = none
    unfold jt_3
    rw [Nat.ble_eq_true_of_le (show 107 ≤ pc from hp)]
    rfl) (fun pc hp => ⟨0, 107, Nat.zero_le _, hp, jk_3⟩)
set_option maxRecDepth 100000 in
theorem jf_3 : sx_mf 3 := sx_mfA (c := 10) (p := 174) rfl rfl sx_cls10 rfl (by decide +kernel) (Nat.le_of_ble_eq_true rfl) (Or.inr (Or.inr ⟨rfl, sx_tb_in 173 (by decide +kernel) rfl, rfl, rfl⟩)) jo_3
-- java/util/Arrays.fill
theorem jk_4 : sx_chk 4 0 21 = true := by decide +kernel
theorem jo_4 : sx_ok 4 := sx_ok_of 4 (fun pc hp => by
    show jt_4 pc = none
    unfold jt_4
    rw [Nat.ble_eq_true_of_le (show 21 ≤ pc from hp)]
    rfl) (fun pc hp => ⟨0, 21, Nat.zero_le _, hp, jk_4⟩)
set_option maxRecDepth 100000 in
theorem jf_4 : sx_mf 4 := sx_mfA (c := 20) (p := 178) rfl rfl sx_cls20 rfl (by decide +kernel) (Nat.le_of_ble_eq_true rfl) (Or.inl ⟨rfl, sx_tb_in 177 (by decide +kernel) rfl⟩) jo_4
-- SpoutNews$Book.<init>
theorem jk_5 : sx_chk 5 0 41 = true := by decide +kernel
theorem jo_5 : sx_ok 5 := sx_ok_of 5 (fun pc hp => by
    show jt_5 pc = none
    unfold jt_5
    rw [Nat.ble_eq_true_of_le (show 41 ≤ pc from hp)]
    rfl) (fun pc hp => ⟨0, 41, Nat.zero_le _, hp, jk_5⟩)
set_option maxRecDepth 100000 in
theorem jf_5 : sx_mf 5 := sx_mfA (c := 0) (p := 292) rfl rfl sx_cls0 rfl (by decide +kernel) (Nat.le_of_ble_eq_true rfl) (Or.inr (Or.inr ⟨rfl, sx_tb_in 291 (by decide +kernel) rfl, rfl, rfl⟩)) jo_5
-- SpoutNews$Texts.<init>
theorem jk_6 : sx_chk 6 0 80 = true := by decide +kernel
theorem jo_6 : sx_ok 6 := sx_ok_of 6 (fun pc hp => by
    show jt_6 pc = none
    unfold jt_6
    rw [Nat.ble_eq_true_of_le (show 80 ≤ pc from hp)]
    rfl) (fun pc hp => ⟨0, 80, Nat.zero_le _, hp, jk_6⟩)
set_option maxRecDepth 100000 in
theorem jf_6 : sx_mf 6 := sx_mfA (c := 6) (p := 315) rfl rfl sx_cls6 rfl (by decide +kernel) (Nat.le_of_ble_eq_true rfl) (Or.inr (Or.inr ⟨rfl, sx_tb_in 314 (by decide +kernel) rfl, rfl, rfl⟩)) jo_6
-- SpoutNews$Law.<init>
theorem jk_7 : sx_chk 7 0 71 = true := by decide +kernel
theorem jo_7 : sx_ok 7 := sx_ok_of 7 (fun pc hp => by
    show jt_7 pc = none
    unfold jt_7
    rw [Nat.ble_eq_true_of_le (show 71 ≤ pc from hp)]
    rfl) (fun pc hp => ⟨0, 71, Nat.zero_le _, hp, jk_7⟩)
set_option maxRecDepth 100000 in
theorem jf_7 : sx_mf 7 := sx_mfA (c := 3) (p := 321) rfl rfl sx_cls3 rfl (by decide +kernel) (Nat.le_of_ble_eq_true rfl) (Or.inr (Or.inr ⟨rfl, sx_tb_in 320 (by decide +kernel) rfl, rfl, rfl⟩)) jo_7
-- SpoutNews$Told.<init>
theorem jk_8 : sx_chk 8 0 130 = true := by decide +kernel
theorem jo_8 : sx_ok 8 := sx_ok_of 8 (fun pc hp => by
    show jt_8 pc = none
    unfold jt_8
    rw [Nat.ble_eq_true_of_le (show 130 ≤ pc from hp)]
    rfl) (fun pc hp => ⟨0, 130, Nat.zero_le _, hp, jk_8⟩)
set_option maxRecDepth 100000 in
theorem jf_8 : sx_mf 8 := sx_mfA (c := 9) (p := 405) rfl rfl sx_cls9 rfl (by decide +kernel) (Nat.le_of_ble_eq_true rfl) (Or.inr (Or.inr ⟨rfl, sx_tb_in 404 (by decide +kernel) rfl, rfl, rfl⟩)) jo_8
-- SpoutNews$Past.<init>
theorem jk_9 : sx_chk 9 0 42 = true := by decide +kernel
theorem jo_9 : sx_ok 9 := sx_ok_of 9 (fun pc hp => by
    show jt_9 pc = none
    unfold jt_9
    rw [Nat.ble_eq_true_of_le (show 42 ≤ pc from hp)]
    rfl) (fun pc hp => ⟨0, 42, Nat.zero_le _, hp, jk_9⟩)
set_option maxRecDepth 100000 in
theorem jf_9 : sx_mf 9 := sx_mfA (c := 5) (p := 491) rfl rfl sx_cls5 rfl (by decide +kernel) (Nat.le_of_ble_eq_true rfl) (Or.inr (Or.inr ⟨rfl, sx_tb_in 490 (by decide +kernel) rfl, rfl, rfl⟩)) jo_9
-- SpoutNews$DayRun.<init>
theorem jk_10 : sx_chk 10 0 21 = true := by decide +kernel
theorem jo_10 : sx_ok 10 := sx_ok_of 10 (fun pc hp => by
    show jt_10 pc = none
    unfold jt_10
    rw [Nat.ble_eq_true_of_le (show 21 ≤ pc from hp)]
    rfl) (fun pc hp => ⟨0, 21, Nat.zero_le _, hp, jk_10⟩)
set_option maxRecDepth 100000 in
theorem jf_10 : sx_mf 10 := sx_mfA (c := 2) (p := 513) rfl rfl sx_cls2 rfl (by decide +kernel) (Nat.le_of_ble_eq_true rfl) (Or.inr (Or.inr ⟨rfl, sx_tb_in 512 (by decide +kernel) rfl, rfl, rfl⟩)) jo_10
-- SpoutNews$Thought.<init>
theorem jk_11 : sx_chk 11 0 74 = true := by decide +kernel
theorem jo_11 : sx_ok 11 := sx_ok_of 11 (fun pc hp => by
    show jt_11 pc = none
    unfold jt_11
    rw [Nat.ble_eq_true_of_le (show 74 ≤ pc from hp)]
    rfl) (fun pc hp => ⟨0, 74, Nat.zero_le _, hp, jk_11⟩)
set_option maxRecDepth 100000 in
theorem jf_11 : sx_mf 11 := sx_mfA (c := 7) (p := 529) rfl rfl sx_cls7 rfl (by decide +kernel) (Nat.le_of_ble_eq_true rfl) (Or.inr (Or.inr ⟨rfl, sx_tb_in 528 (by decide +kernel) rfl, rfl, rfl⟩)) jo_11
-- SpoutNews$Tokens.<init>
theorem jk_12 : sx_chk 12 0 37 = true := by decide +kernel
theorem jo_12 : sx_ok 12 := sx_ok_of 12 (fun pc hp => by
    show jt_12 pc = none
    unfold jt_12
    rw [Nat.ble_eq_true_of_le (show 37 ≤ pc from hp)]
    rfl) (fun pc hp => ⟨0, 37, Nat.zero_le _, hp, jk_12⟩)
set_option maxRecDepth 100000 in
theorem jf_12 : sx_mf 12 := sx_mfA (c := 8) (p := 580) rfl rfl sx_cls8 rfl (by decide +kernel) (Nat.le_of_ble_eq_true rfl) (Or.inr (Or.inr ⟨rfl, sx_tb_in 579 (by decide +kernel) rfl, rfl, rfl⟩)) jo_12
-- SpoutNews$LawReader.<init>
theorem jk_13 : sx_chk 13 0 13 = true := by decide +kernel
theorem jo_13 : sx_ok 13 := sx_ok_of 13 (fun pc hp => by
    show jt_13 pc = none
    unfold jt_13
    rw [Nat.ble_eq_true_of_le (show 13 ≤ pc from hp)]
    rfl) (fun pc hp => ⟨0, 13, Nat.zero_le _, hp, jk_13⟩)
set_option maxRecDepth 100000 in
theorem jf_13 : sx_mf 13 := sx_mfA (c := 4) (p := 612) rfl rfl sx_cls4 rfl (by decide +kernel) (Nat.le_of_ble_eq_true rfl) (Or.inr (Or.inr ⟨rfl, sx_tb_in 611 (by decide +kernel) rfl, rfl, rfl⟩)) jo_13
-- SpoutNews.state
theorem jk_14 : sx_chk 14 0 31 = true := by decide +kernel
theorem jo_14 : sx_ok 14 := sx_ok_of 14 (fun pc hp => by
    show jt_14 pc = none
    unfold jt_14
    rw [Nat.ble_eq_true_of_le (show 31 ≤ pc from hp)]
    rfl) (fun pc hp => ⟨0, 31, Nat.zero_le _, hp, jk_14⟩)
set_option maxRecDepth 100000 in
theorem jf_14 : sx_mf 14 := sx_mfA (c := 11) (p := 667) rfl rfl sx_cls11 rfl (by decide +kernel) (Nat.le_of_ble_eq_true rfl) (Or.inr (Or.inl ⟨rfl, sx_tb_in 665 (by decide +kernel) rfl, sx_tb_in 666 (by decide +kernel) rfl⟩)) jo_14
-- SpoutNews$Past.forget
theorem jk_15 : sx_chk 15 0 6 = true := by decide +kernel
theorem jo_15 : sx_ok 15 := sx_ok_of 15 (fun pc hp => by
    show jt_15 pc = none
    unfold jt_15
    rw [Nat.ble_eq_true_of_le (show 6 ≤ pc from hp)]
    rfl) (fun pc hp => ⟨0, 6, Nat.zero_le _, hp, jk_15⟩)
set_option maxRecDepth 100000 in
theorem jf_15 : sx_mf 15 := sx_mfA (c := 5) (p := 671) rfl rfl sx_cls5 rfl (by decide +kernel) (Nat.le_of_ble_eq_true rfl) (Or.inr (Or.inl ⟨rfl, sx_tb_in 669 (by decide +kernel) rfl, sx_tb_in 670 (by decide +kernel) rfl⟩)) jo_15
-- SpoutNews.spout
theorem jk_16 : sx_chk 16 0 68 = true := by decide +kernel
theorem jo_16 : sx_ok 16 := sx_ok_of 16 (fun pc hp => by
    show jt_16 pc = none
    unfold jt_16
    rw [Nat.ble_eq_true_of_le (show 68 ≤ pc from hp)]
    rfl) (fun pc hp => ⟨0, 68, Nat.zero_le _, hp, jk_16⟩)
set_option maxRecDepth 100000 in
theorem jf_16 : sx_mf 16 := sx_mfA (c := 11) (p := 675) rfl rfl sx_cls11 rfl (by decide +kernel) (Nat.le_of_ble_eq_true rfl) (Or.inr (Or.inl ⟨rfl, sx_tb_in 673 (by decide +kernel) rfl, sx_tb_in 674 (by decide +kernel) rfl⟩)) jo_16
-- SpoutNews$World.addSpout
theorem jk_17 : sx_chk 17 0 74 = true := by decide +kernel
theorem jo_17 : sx_ok 17 := sx_ok_of 17 (fun pc hp => by
    show jt_17 pc = none
    unfold jt_17
    rw [Nat.ble_eq_true_of_le (show 74 ≤ pc from hp)]
    rfl) (fun pc hp => ⟨0, 74, Nat.zero_le _, hp, jk_17⟩)
set_option maxRecDepth 100000 in
theorem jf_17 : sx_mf 17 := sx_mfA (c := 10) (p := 679) rfl rfl sx_cls10 rfl (by decide +kernel) (Nat.le_of_ble_eq_true rfl) (Or.inr (Or.inl ⟨rfl, sx_tb_in 677 (by decide +kernel) rfl, sx_tb_in 678 (by decide +kernel) rfl⟩)) jo_17
-- SpoutNews.sitter
theorem jk_18 : sx_chk 18 0 43 = true := by decide +kernel
theorem jo_18 : sx_ok 18 := sx_ok_of 18 (fun pc hp => by
    show jt_18 pc = none
    unfold jt_18
    rw [Nat.ble_eq_true_of_le (show 43 ≤ pc from hp)]
    rfl) (fun pc hp => ⟨0, 43, Nat.zero_le _, hp, jk_18⟩)
set_option maxRecDepth 100000 in
theorem jf_18 : sx_mf 18 := sx_mfA (c := 11) (p := 683) rfl rfl sx_cls11 rfl (by decide +kernel) (Nat.le_of_ble_eq_true rfl) (Or.inr (Or.inl ⟨rfl, sx_tb_in 681 (by decide +kernel) rfl, sx_tb_in 682 (by decide +kernel) rfl⟩)) jo_18
-- SpoutNews.isWordSet
theorem jk_19 : sx_chk 19 0 17 = true := by decide +kernel
theorem jo_19 : sx_ok 19 := sx_ok_of 19 (fun pc hp => by
    show jt_19 pc = none
    unfold jt_19
    rw [Nat.ble_eq_true_of_le (show 17 ≤ pc from hp)]
    rfl) (fun pc hp => ⟨0, 17, Nat.zero_le _, hp, jk_19⟩)
set_option maxRecDepth 100000 in
theorem jf_19 : sx_mf 19 := sx_mfA (c := 11) (p := 686) rfl rfl sx_cls11 rfl (by decide +kernel) (Nat.le_of_ble_eq_true rfl) (Or.inl ⟨rfl, sx_tb_in 685 (by decide +kernel) rfl⟩) jo_19
-- SpoutNews$World.addSitter
theorem jk_20 : sx_chk 20 0 36 = true := by decide +kernel
theorem jo_20 : sx_ok 20 := sx_ok_of 20 (fun pc hp => by
    show jt_20 pc = none
    unfold jt_20
    rw [Nat.ble_eq_true_of_le (show 36 ≤ pc from hp)]
    rfl) (fun pc hp => ⟨0, 36, Nat.zero_le _, hp, jk_20⟩)
set_option maxRecDepth 100000 in
theorem jf_20 : sx_mf 20 := sx_mfA (c := 10) (p := 691) rfl rfl sx_cls10 rfl (by decide +kernel) (Nat.le_of_ble_eq_true rfl) (Or.inr (Or.inl ⟨rfl, sx_tb_in 689 (by decide +kernel) rfl, sx_tb_in 690 (by decide +kernel) rfl⟩)) jo_20
-- SpoutNews.set
theorem jk_21 : sx_chk 21 0 240 = true ∧ sx_chk 21 240 245 = true := ⟨by decide +kernel, by decide +kernel⟩
theorem jo_21 : sx_ok 21 := sx_ok_of 21 (fun pc hp => by
    show jt_21 pc = none
    unfold jt_21
    rw [Nat.ble_eq_true_of_le (show 245 ≤ pc from hp)]
    rfl) (fun pc hp => (by
    rcases Nat.lt_or_ge pc 240 with g | g
    · exact ⟨0, 240, by omega, g, jk_21.1⟩
    exact ⟨240, 245, g, hp, jk_21.2⟩))
set_option maxRecDepth 100000 in
theorem jf_21 : sx_mf 21 := sx_mfA (c := 11) (p := 695) rfl rfl sx_cls11 rfl (by decide +kernel) (Nat.le_of_ble_eq_true rfl) (Or.inr (Or.inl ⟨rfl, sx_tb_in 693 (by decide +kernel) rfl, sx_tb_in 694 (by decide +kernel) rfl⟩)) jo_21
-- SpoutNews$World.isSpout
theorem jk_22 : sx_chk 22 0 18 = true := by decide +kernel
theorem jo_22 : sx_ok 22 := sx_ok_of 22 (fun pc hp => by
    show jt_22 pc = none
    unfold jt_22
    rw [Nat.ble_eq_true_of_le (show 18 ≤ pc from hp)]
    rfl) (fun pc hp => ⟨0, 18, Nat.zero_le _, hp, jk_22⟩)
set_option maxRecDepth 100000 in
theorem jf_22 : sx_mf 22 := sx_mfA (c := 10) (p := 699) rfl rfl sx_cls10 rfl (by decide +kernel) (Nat.le_of_ble_eq_true rfl) (Or.inr (Or.inl ⟨rfl, sx_tb_in 697 (by decide +kernel) rfl, sx_tb_in 698 (by decide +kernel) rfl⟩)) jo_22
-- SpoutNews$World.isSitter
theorem jk_23 : sx_chk 23 0 18 = true := by decide +kernel
theorem jo_23 : sx_ok 23 := sx_ok_of 23 (fun pc hp => by
    show jt_23 pc = none
    unfold jt_23
    rw [Nat.ble_eq_true_of_le (show 18 ≤ pc from hp)]
    rfl) (fun pc hp => ⟨0, 18, Nat.zero_le _, hp, jk_23⟩)
set_option maxRecDepth 100000 in
theorem jf_23 : sx_mf 23 := sx_mfA (c := 10) (p := 703) rfl rfl sx_cls10 rfl (by decide +kernel) (Nat.le_of_ble_eq_true rfl) (Or.inr (Or.inl ⟨rfl, sx_tb_in 701 (by decide +kernel) rfl, sx_tb_in 702 (by decide +kernel) rfl⟩)) jo_23
-- SpoutNews.act
theorem jk_24 : sx_chk 24 0 47 = true := by decide +kernel
theorem jo_24 : sx_ok 24 := sx_ok_of 24 (fun pc hp => by
    show jt_24 pc = none
    unfold jt_24
    rw [Nat.ble_eq_true_of_le (show 47 ≤ pc from hp)]
    rfl) (fun pc hp => ⟨0, 47, Nat.zero_le _, hp, jk_24⟩)
set_option maxRecDepth 100000 in
theorem jf_24 : sx_mf 24 := sx_mfA (c := 11) (p := 707) rfl rfl sx_cls11 rfl (by decide +kernel) (Nat.le_of_ble_eq_true rfl) (Or.inr (Or.inl ⟨rfl, sx_tb_in 705 (by decide +kernel) rfl, sx_tb_in 706 (by decide +kernel) rfl⟩)) jo_24
-- SpoutNews$World.canDo
theorem jk_25 : sx_chk 25 0 44 = true := by decide +kernel
theorem jo_25 : sx_ok 25 := sx_ok_of 25 (fun pc hp => by
    show jt_25 pc = none
    unfold jt_25
    rw [Nat.ble_eq_true_of_le (show 44 ≤ pc from hp)]
    rfl) (fun pc hp => ⟨0, 44, Nat.zero_le _, hp, jk_25⟩)
set_option maxRecDepth 100000 in
theorem jf_25 : sx_mf 25 := sx_mfA (c := 10) (p := 711) rfl rfl sx_cls10 rfl (by decide +kernel) (Nat.le_of_ble_eq_true rfl) (Or.inr (Or.inl ⟨rfl, sx_tb_in 709 (by decide +kernel) rfl, sx_tb_in 710 (by decide +kernel) rfl⟩)) jo_25
-- SpoutNews$World.countOfWho
theorem jk_26 : sx_chk 26 0 63 = true := by decide +kernel
theorem jo_26 : sx_ok 26 := sx_ok_of 26 (fun pc hp => by
    show jt_26 pc = none
    unfold jt_26
    rw [Nat.ble_eq_true_of_le (show 63 ≤ pc from hp)]
    rfl) (fun pc hp => ⟨0, 63, Nat.zero_le _, hp, jk_26⟩)
set_option maxRecDepth 100000 in
theorem jf_26 : sx_mf 26 := sx_mfA (c := 10) (p := 715) rfl rfl sx_cls10 rfl (by decide +kernel) (Nat.le_of_ble_eq_true rfl) (Or.inr (Or.inl ⟨rfl, sx_tb_in 713 (by decide +kernel) rfl, sx_tb_in 714 (by decide +kernel) rfl⟩)) jo_26
-- SpoutNews$World.countOfWhat
theorem jk_27 : sx_chk 27 0 46 = true := by decide +kernel
theorem jo_27 : sx_ok 27 := sx_ok_of 27 (fun pc hp => by
    show jt_27 pc = none
    unfold jt_27
    rw [Nat.ble_eq_true_of_le (show 46 ≤ pc from hp)]
    rfl) (fun pc hp => ⟨0, 46, Nat.zero_le _, hp, jk_27⟩)
set_option maxRecDepth 100000 in
theorem jf_27 : sx_mf 27 := sx_mfA (c := 10) (p := 719) rfl rfl sx_cls10 rfl (by decide +kernel) (Nat.le_of_ble_eq_true rfl) (Or.inr (Or.inl ⟨rfl, sx_tb_in 717 (by decide +kernel) rfl, sx_tb_in 718 (by decide +kernel) rfl⟩)) jo_27
-- SpoutNews$Past.keep
theorem jk_28 : sx_chk 28 0 42 = true := by decide +kernel
theorem jo_28 : sx_ok 28 := sx_ok_of 28 (fun pc hp => by
    show jt_28 pc = none
    unfold jt_28
    rw [Nat.ble_eq_true_of_le (show 42 ≤ pc from hp)]
    rfl) (fun pc hp => ⟨0, 42, Nat.zero_le _, hp, jk_28⟩)
set_option maxRecDepth 100000 in
theorem jf_28 : sx_mf 28 := sx_mfA (c := 5) (p := 723) rfl rfl sx_cls5 rfl (by decide +kernel) (Nat.le_of_ble_eq_true rfl) (Or.inr (Or.inl ⟨rfl, sx_tb_in 721 (by decide +kernel) rfl, sx_tb_in 722 (by decide +kernel) rfl⟩)) jo_28
-- SpoutNews$World.copyFrom
theorem jk_29 : sx_chk 29 0 231 = true := by decide +kernel
theorem jo_29 : sx_ok 29 := sx_ok_of 29 (fun pc hp => by
    show jt_29 pc = none
    unfold jt_29
    rw [Nat.ble_eq_true_of_le (show 231 ≤ pc from hp)]
    rfl) (fun pc hp => ⟨0, 231, Nat.zero_le _, hp, jk_29⟩)
set_option maxRecDepth 100000 in
theorem jf_29 : sx_mf 29 := sx_mfA (c := 10) (p := 727) rfl rfl sx_cls10 rfl (by decide +kernel) (Nat.le_of_ble_eq_true rfl) (Or.inr (Or.inl ⟨rfl, sx_tb_in 725 (by decide +kernel) rfl, sx_tb_in 726 (by decide +kernel) rfl⟩)) jo_29
-- SpoutNews$World.carryOut
theorem jk_31 : sx_chk 31 0 139 = true := by decide +kernel
theorem jo_31 : sx_ok 31 := sx_ok_of 31 (fun pc hp => by
    show jt_31 pc = none
    unfold jt_31
    rw [Nat.ble_eq_true_of_le (show 139 ≤ pc from hp)]
    rfl) (fun pc hp => ⟨0, 139, Nat.zero_le _, hp, jk_31⟩)
set_option maxRecDepth 100000 in
theorem jf_31 : sx_mf 31 := sx_mfA (c := 10) (p := 737) rfl rfl sx_cls10 rfl (by decide +kernel) (Nat.le_of_ble_eq_true rfl) (Or.inr (Or.inl ⟨rfl, sx_tb_in 735 (by decide +kernel) rfl, sx_tb_in 736 (by decide +kernel) rfl⟩)) jo_31
-- SpoutNews.days
theorem jk_32 : sx_chk 32 0 99 = true := by decide +kernel
theorem jo_32 : sx_ok 32 := sx_ok_of 32 (fun pc hp => by
    show jt_32 pc = none
    unfold jt_32
    rw [Nat.ble_eq_true_of_le (show 99 ≤ pc from hp)]
    rfl) (fun pc hp => ⟨0, 99, Nat.zero_le _, hp, jk_32⟩)
set_option maxRecDepth 100000 in
theorem jf_32 : sx_mf 32 := sx_mfA (c := 11) (p := 742) rfl rfl sx_cls11 rfl (by decide +kernel) (Nat.le_of_ble_eq_true rfl) (Or.inr (Or.inl ⟨rfl, sx_tb_in 740 (by decide +kernel) rfl, sx_tb_in 741 (by decide +kernel) rfl⟩)) jo_32
-- SpoutNews$DayRun.pass
theorem jk_33 : sx_chk 33 0 114 = true := by decide +kernel
theorem jo_33 : sx_ok 33 := sx_ok_of 33 (fun pc hp => by
    show jt_33 pc = none
    unfold jt_33
    rw [Nat.ble_eq_true_of_le (show 114 ≤ pc from hp)]
    rfl) (fun pc hp => ⟨0, 114, Nat.zero_le _, hp, jk_33⟩)
set_option maxRecDepth 100000 in
theorem jf_33 : sx_mf 33 := sx_mfA (c := 2) (p := 746) rfl rfl sx_cls2 rfl (by decide +kernel) (Nat.le_of_ble_eq_true rfl) (Or.inr (Or.inl ⟨rfl, sx_tb_in 744 (by decide +kernel) rfl, sx_tb_in 745 (by decide +kernel) rfl⟩)) jo_33
-- SpoutNews$Texts.rainOn
theorem jk_34 : sx_chk 34 0 35 = true := by decide +kernel
theorem jo_34 : sx_ok 34 := sx_ok_of 34 (fun pc hp => by
    show jt_34 pc = none
    unfold jt_34
    rw [Nat.ble_eq_true_of_le (show 35 ≤ pc from hp)]
    rfl) (fun pc hp => ⟨0, 35, Nat.zero_le _, hp, jk_34⟩)
set_option maxRecDepth 100000 in
theorem jf_34 : sx_mf 34 := sx_mfA (c := 6) (p := 751) rfl rfl sx_cls6 rfl (by decide +kernel) (Nat.le_of_ble_eq_true rfl) (Or.inr (Or.inl ⟨rfl, sx_tb_in 749 (by decide +kernel) rfl, sx_tb_in 750 (by decide +kernel) rfl⟩)) jo_34
-- SpoutNews$DayRun.passDry
theorem jk_35 : sx_chk 35 0 98 = true := by decide +kernel
theorem jo_35 : sx_ok 35 := sx_ok_of 35 (fun pc hp => by
    show jt_35 pc = none
    unfold jt_35
    rw [Nat.ble_eq_true_of_le (show 98 ≤ pc from hp)]
    rfl) (fun pc hp => ⟨0, 98, Nat.zero_le _, hp, jk_35⟩)
set_option maxRecDepth 100000 in
theorem jf_35 : sx_mf 35 := sx_mfA (c := 2) (p := 755) rfl rfl sx_cls2 rfl (by decide +kernel) (Nat.le_of_ble_eq_true rfl) (Or.inr (Or.inl ⟨rfl, sx_tb_in 754 (by decide +kernel) rfl, sx_tb_in 0 (by decide +kernel) rfl⟩)) jo_35
-- SpoutNews$DayRun.listen
theorem jk_36 : sx_chk 36 0 71 = true := by decide +kernel
theorem jo_36 : sx_ok 36 := sx_ok_of 36 (fun pc hp => by
    show jt_36 pc = none
    unfold jt_36
    rw [Nat.ble_eq_true_of_le (show 71 ≤ pc from hp)]
    rfl) (fun pc hp => ⟨0, 71, Nat.zero_le _, hp, jk_36⟩)
set_option maxRecDepth 100000 in
theorem jf_36 : sx_mf 36 := sx_mfA (c := 2) (p := 759) rfl rfl sx_cls2 rfl (by decide +kernel) (Nat.le_of_ble_eq_true rfl) (Or.inr (Or.inl ⟨rfl, sx_tb_in 758 (by decide +kernel) rfl, sx_tb_in 1 (by decide +kernel) rfl⟩)) jo_36
-- SpoutNews$Law.tells
theorem jk_37 : sx_chk 37 0 154 = true := by decide +kernel
theorem jo_37 : sx_ok 37 := sx_ok_of 37 (fun pc hp => by
    show jt_37 pc = none
    unfold jt_37
    rw [Nat.ble_eq_true_of_le (show 154 ≤ pc from hp)]
    rfl) (fun pc hp => ⟨0, 154, Nat.zero_le _, hp, jk_37⟩)
set_option maxRecDepth 100000 in
theorem jf_37 : sx_mf 37 := sx_mfA (c := 3) (p := 763) rfl rfl sx_cls3 rfl (by decide +kernel) (Nat.le_of_ble_eq_true rfl) (Or.inr (Or.inl ⟨rfl, sx_tb_in 761 (by decide +kernel) rfl, sx_tb_in 762 (by decide +kernel) rfl⟩)) jo_37
-- SpoutNews$Law.gatherFacts
theorem jk_38 : sx_chk 38 0 103 = true := by decide +kernel
theorem jo_38 : sx_ok 38 := sx_ok_of 38 (fun pc hp => by
    show jt_38 pc = none
    unfold jt_38
    rw [Nat.ble_eq_true_of_le (show 103 ≤ pc from hp)]
    rfl) (fun pc hp => ⟨0, 103, Nat.zero_le _, hp, jk_38⟩)
set_option maxRecDepth 100000 in
theorem jf_38 : sx_mf 38 := sx_mfA (c := 3) (p := 767) rfl rfl sx_cls3 rfl (by decide +kernel) (Nat.le_of_ble_eq_true rfl) (Or.inr (Or.inl ⟨rfl, sx_tb_in 766 (by decide +kernel) rfl, sx_tb_in 2 (by decide +kernel) rfl⟩)) jo_38
-- SpoutNews$Law.worth
theorem jk_39 : sx_chk 39 0 217 = true := by decide +kernel
theorem jo_39 : sx_ok 39 := sx_ok_of 39 (fun pc hp => by
    show jt_39 pc = none
    unfold jt_39
    rw [Nat.ble_eq_true_of_le (show 217 ≤ pc from hp)]
    rfl) (fun pc hp => ⟨0, 217, Nat.zero_le _, hp, jk_39⟩)
set_option maxRecDepth 100000 in
theorem jf_39 : sx_mf 39 := sx_mfA (c := 3) (p := 771) rfl rfl sx_cls3 rfl (by decide +kernel) (Nat.le_of_ble_eq_true rfl) (Or.inr (Or.inl ⟨rfl, sx_tb_in 770 (by decide +kernel) rfl, sx_tb_in 3 (by decide +kernel) rfl⟩)) jo_39
-- SpoutNews$Law.joined
theorem jk_40 : sx_chk 40 0 105 = true := by decide +kernel
theorem jo_40 : sx_ok 40 := sx_ok_of 40 (fun pc hp => by
    show jt_40 pc = none
    unfold jt_40
    rw [Nat.ble_eq_true_of_le (show 105 ≤ pc from hp)]
    rfl) (fun pc hp => ⟨0, 105, Nat.zero_le _, hp, jk_40⟩)
set_option maxRecDepth 100000 in
theorem jf_40 : sx_mf 40 := sx_mfA (c := 3) (p := 774) rfl rfl sx_cls3 rfl (by decide +kernel) (Nat.le_of_ble_eq_true rfl) (Or.inl ⟨rfl, sx_tb_in 773 (by decide +kernel) rfl⟩) jo_40
-- SpoutNews$World.takeIn
theorem jk_42 : sx_chk 42 0 51 = true := by decide +kernel
theorem jo_42 : sx_ok 42 := sx_ok_of 42 (fun pc hp => by
    show jt_42 pc = none
    unfold jt_42
    rw [Nat.ble_eq_true_of_le (show 51 ≤ pc from hp)]
    rfl) (fun pc hp => ⟨0, 51, Nat.zero_le _, hp, jk_42⟩)
set_option maxRecDepth 100000 in
theorem jf_42 : sx_mf 42 := sx_mfA (c := 10) (p := 782) rfl rfl sx_cls10 rfl (by decide +kernel) (Nat.le_of_ble_eq_true rfl) (Or.inr (Or.inl ⟨rfl, sx_tb_in 780 (by decide +kernel) rfl, sx_tb_in 781 (by decide +kernel) rfl⟩)) jo_42
