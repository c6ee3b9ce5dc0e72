-- by program (wip/gen/mk12.py): the tables of methods hold
-- SpoutNews$World.heardSet
theorem jk_43 : sx_chk 43 0 33 = true := by decide +kernel
theorem jo_43 : sx_ok 43 := sx_ok_of 43 (fun pc hp => by
    show jt_43 pc = none
    unfold jt_43
    rw [Nat.ble_eq_true_of_le (show 33 ≤ pc from hp)]
    rfl) (fun pc hp => ⟨0, 33, Nat.zero_le _, hp, jk_43⟩)
set_option maxRecDepth 100000 in
theorem jf_43 : sx_mf 43 := sx_mfA (c := 10) (p := 786) rfl rfl sx_cls10 rfl (by decide +kernel) (Nat.le_of_ble_eq_true rfl) (Or.inr (Or.inl ⟨rfl, sx_tb_in 784 (by decide +kernel) rfl, sx_tb_in 785 (by decide +kernel) rfl⟩)) jo_43
-- SpoutNews$World.wordAt
theorem jk_44 : sx_chk 44 0 34 = true := by decide +kernel
theorem jo_44 : sx_ok 44 := sx_ok_of 44 (fun pc hp => by
    show jt_44 pc = none
    unfold jt_44
    rw [Nat.ble_eq_true_of_le (show 34 ≤ pc from hp)]
    rfl) (fun pc hp => ⟨0, 34, Nat.zero_le _, hp, jk_44⟩)
set_option maxRecDepth 100000 in
theorem jf_44 : sx_mf 44 := sx_mfA (c := 10) (p := 790) rfl rfl sx_cls10 rfl (by decide +kernel) (Nat.le_of_ble_eq_true rfl) (Or.inr (Or.inl ⟨rfl, sx_tb_in 788 (by decide +kernel) rfl, sx_tb_in 789 (by decide +kernel) rfl⟩)) jo_44
-- SpoutNews$Book.write
theorem jk_45 : sx_chk 45 0 67 = true := by decide +kernel
theorem jo_45 : sx_ok 45 := sx_ok_of 45 (fun pc hp => by
    show jt_45 pc = none
    unfold jt_45
    rw [Nat.ble_eq_true_of_le (show 67 ≤ pc from hp)]
    rfl) (fun pc hp => ⟨0, 67, Nat.zero_le _, hp, jk_45⟩)
set_option maxRecDepth 100000 in
theorem jf_45 : sx_mf 45 := sx_mfA (c := 0) (p := 795) rfl rfl sx_cls0 rfl (by decide +kernel) (Nat.le_of_ble_eq_true rfl) (Or.inr (Or.inl ⟨rfl, sx_tb_in 793 (by decide +kernel) rfl, sx_tb_in 794 (by decide +kernel) rfl⟩)) jo_45
-- SpoutNews$DayRun.passWet
theorem jk_46 : sx_chk 46 0 114 = true := by decide +kernel
theorem jo_46 : sx_ok 46 := sx_ok_of 46 (fun pc hp => by
    show jt_46 pc = none
    unfold jt_46
    rw [Nat.ble_eq_true_of_le (show 114 ≤ pc from hp)]
    rfl) (fun pc hp => ⟨0, 114, Nat.zero_le _, hp, jk_46⟩)
set_option maxRecDepth 100000 in
theorem jf_46 : sx_mf 46 := sx_mfA (c := 2) (p := 800) rfl rfl sx_cls2 rfl (by decide +kernel) (Nat.le_of_ble_eq_true rfl) (Or.inr (Or.inl ⟨rfl, sx_tb_in 799 (by decide +kernel) rfl, sx_tb_in 4 (by decide +kernel) rfl⟩)) jo_46
-- SpoutNews$World.speaks
theorem jk_47 : sx_chk 47 0 33 = true := by decide +kernel
theorem jo_47 : sx_ok 47 := sx_ok_of 47 (fun pc hp => by
    show jt_47 pc = none
    unfold jt_47
    rw [Nat.ble_eq_true_of_le (show 33 ≤ pc from hp)]
    rfl) (fun pc hp => ⟨0, 33, Nat.zero_le _, hp, jk_47⟩)
set_option maxRecDepth 100000 in
theorem jf_47 : sx_mf 47 := sx_mfA (c := 10) (p := 804) rfl rfl sx_cls10 rfl (by decide +kernel) (Nat.le_of_ble_eq_true rfl) (Or.inr (Or.inl ⟨rfl, sx_tb_in 802 (by decide +kernel) rfl, sx_tb_in 803 (by decide +kernel) rfl⟩)) jo_47
-- SpoutNews$DayRun.sayFirst
theorem jk_48 : sx_chk 48 0 138 = true := by decide +kernel
theorem jo_48 : sx_ok 48 := sx_ok_of 48 (fun pc hp => by
    show jt_48 pc = none
    unfold jt_48
    rw [Nat.ble_eq_true_of_le (show 138 ≤ pc from hp)]
    rfl) (fun pc hp => ⟨0, 138, Nat.zero_le _, hp, jk_48⟩)
set_option maxRecDepth 100000 in
theorem jf_48 : sx_mf 48 := sx_mfA (c := 2) (p := 808) rfl rfl sx_cls2 rfl (by decide +kernel) (Nat.le_of_ble_eq_true rfl) (Or.inr (Or.inl ⟨rfl, sx_tb_in 807 (by decide +kernel) rfl, sx_tb_in 5 (by decide +kernel) rfl⟩)) jo_48
-- SpoutNews$World.slips
theorem jk_49 : sx_chk 49 0 55 = true := by decide +kernel
theorem jo_49 : sx_ok 49 := sx_ok_of 49 (fun pc hp => by
    show jt_49 pc = none
    unfold jt_49
    rw [Nat.ble_eq_true_of_le (show 55 ≤ pc from hp)]
    rfl) (fun pc hp => ⟨0, 55, Nat.zero_le _, hp, jk_49⟩)
set_option maxRecDepth 100000 in
theorem jf_49 : sx_mf 49 := sx_mfA (c := 10) (p := 813) rfl rfl sx_cls10 rfl (by decide +kernel) (Nat.le_of_ble_eq_true rfl) (Or.inr (Or.inl ⟨rfl, sx_tb_in 811 (by decide +kernel) rfl, sx_tb_in 812 (by decide +kernel) rfl⟩)) jo_49
-- SpoutNews$World.fillJarsAt
theorem jk_50 : sx_chk 50 0 37 = true := by decide +kernel
theorem jo_50 : sx_ok 50 := sx_ok_of 50 (fun pc hp => by
    show jt_50 pc = none
    unfold jt_50
    rw [Nat.ble_eq_true_of_le (show 37 ≤ pc from hp)]
    rfl) (fun pc hp => ⟨0, 37, Nat.zero_le _, hp, jk_50⟩)
set_option maxRecDepth 100000 in
theorem jf_50 : sx_mf 50 := sx_mfA (c := 10) (p := 819) rfl rfl sx_cls10 rfl (by decide +kernel) (Nat.le_of_ble_eq_true rfl) (Or.inr (Or.inl ⟨rfl, sx_tb_in 817 (by decide +kernel) rfl, sx_tb_in 818 (by decide +kernel) rfl⟩)) jo_50
-- SpoutNews$Texts.gutterOf
theorem jk_51 : sx_chk 51 0 21 = true := by decide +kernel
theorem jo_51 : sx_ok 51 := sx_ok_of 51 (fun pc hp => by
    show jt_51 pc = none
    unfold jt_51
    rw [Nat.ble_eq_true_of_le (show 21 ≤ pc from hp)]
    rfl) (fun pc hp => ⟨0, 21, Nat.zero_le _, hp, jk_51⟩)
set_option maxRecDepth 100000 in
theorem jf_51 : sx_mf 51 := sx_mfA (c := 6) (p := 823) rfl rfl sx_cls6 rfl (by decide +kernel) (Nat.le_of_ble_eq_true rfl) (Or.inr (Or.inl ⟨rfl, sx_tb_in 821 (by decide +kernel) rfl, sx_tb_in 822 (by decide +kernel) rfl⟩)) jo_51
-- SpoutNews$World.dropFirst
theorem jk_52 : sx_chk 52 0 46 = true := by decide +kernel
theorem jo_52 : sx_ok 52 := sx_ok_of 52 (fun pc hp => by
    show jt_52 pc = none
    unfold jt_52
    rw [Nat.ble_eq_true_of_le (show 46 ≤ pc from hp)]
    rfl) (fun pc hp => ⟨0, 46, Nat.zero_le _, hp, jk_52⟩)
set_option maxRecDepth 100000 in
theorem jf_52 : sx_mf 52 := sx_mfA (c := 10) (p := 827) rfl rfl sx_cls10 rfl (by decide +kernel) (Nat.le_of_ble_eq_true rfl) (Or.inr (Or.inl ⟨rfl, sx_tb_in 825 (by decide +kernel) rfl, sx_tb_in 826 (by decide +kernel) rfl⟩)) jo_52
-- SpoutNews$DayRun.leadOn
theorem jk_53 : sx_chk 53 0 65 = true := by decide +kernel
theorem jo_53 : sx_ok 53 := sx_ok_of 53 (fun pc hp => by
    show jt_53 pc = none
    unfold jt_53
    rw [Nat.ble_eq_true_of_le (show 65 ≤ pc from hp)]
    rfl) (fun pc hp => ⟨0, 65, Nat.zero_le _, hp, jk_53⟩)
set_option maxRecDepth 100000 in
theorem jf_53 : sx_mf 53 := sx_mfA (c := 2) (p := 831) rfl rfl sx_cls2 rfl (by decide +kernel) (Nat.le_of_ble_eq_true rfl) (Or.inr (Or.inl ⟨rfl, sx_tb_in 830 (by decide +kernel) rfl, sx_tb_in 6 (by decide +kernel) rfl⟩)) jo_53
-- SpoutNews.feed
theorem jk_54 : sx_chk 54 0 47 = true := by decide +kernel
theorem jo_54 : sx_ok 54 := sx_ok_of 54 (fun pc hp => by
    show jt_54 pc = none
    unfold jt_54
    rw [Nat.ble_eq_true_of_le (show 47 ≤ pc from hp)]
    rfl) (fun pc hp => ⟨0, 47, Nat.zero_le _, hp, jk_54⟩)
set_option maxRecDepth 100000 in
theorem jf_54 : sx_mf 54 := sx_mfA (c := 11) (p := 835) rfl rfl sx_cls11 rfl (by decide +kernel) (Nat.le_of_ble_eq_true rfl) (Or.inr (Or.inl ⟨rfl, sx_tb_in 833 (by decide +kernel) rfl, sx_tb_in 834 (by decide +kernel) rfl⟩)) jo_54
-- SpoutNews.feedFour
theorem jk_55 : sx_chk 55 0 50 = true := by decide +kernel
theorem jo_55 : sx_ok 55 := sx_ok_of 55 (fun pc hp => by
    show jt_55 pc = none
    unfold jt_55
    rw [Nat.ble_eq_true_of_le (show 50 ≤ pc from hp)]
    rfl) (fun pc hp => ⟨0, 50, Nat.zero_le _, hp, jk_55⟩)
set_option maxRecDepth 100000 in
theorem jf_55 : sx_mf 55 := sx_mfA (c := 11) (p := 839) rfl rfl sx_cls11 rfl (by decide +kernel) (Nat.le_of_ble_eq_true rfl) (Or.inr (Or.inl ⟨rfl, sx_tb_in 838 (by decide +kernel) rfl, sx_tb_in 7 (by decide +kernel) rfl⟩)) jo_55
-- SpoutNews.end
theorem jk_56 : sx_chk 56 0 21 = true := by decide +kernel
theorem jo_56 : sx_ok 56 := sx_ok_of 56 (fun pc hp => by
    show jt_56 pc = none
    unfold jt_56
    rw [Nat.ble_eq_true_of_le (show 21 ≤ pc from hp)]
    rfl) (fun pc hp => ⟨0, 21, Nat.zero_le _, hp, jk_56⟩)
set_option maxRecDepth 100000 in
theorem jf_56 : sx_mf 56 := sx_mfA (c := 11) (p := 843) rfl rfl sx_cls11 rfl (by decide +kernel) (Nat.le_of_ble_eq_true rfl) (Or.inr (Or.inl ⟨rfl, sx_tb_in 841 (by decide +kernel) rfl, sx_tb_in 842 (by decide +kernel) rfl⟩)) jo_56
-- SpoutNews.text
theorem jk_57 : sx_chk 57 0 73 = true := by decide +kernel
theorem jo_57 : sx_ok 57 := sx_ok_of 57 (fun pc hp => by
    show jt_57 pc = none
    unfold jt_57
    rw [Nat.ble_eq_true_of_le (show 73 ≤ pc from hp)]
    rfl) (fun pc hp => ⟨0, 73, Nat.zero_le _, hp, jk_57⟩)
set_option maxRecDepth 100000 in
theorem jf_57 : sx_mf 57 := sx_mfA (c := 11) (p := 847) rfl rfl sx_cls11 rfl (by decide +kernel) (Nat.le_of_ble_eq_true rfl) (Or.inr (Or.inl ⟨rfl, sx_tb_in 845 (by decide +kernel) rfl, sx_tb_in 846 (by decide +kernel) rfl⟩)) jo_57
-- SpoutNews.takeLaw
theorem jk_58 : sx_chk 58 0 68 = true := by decide +kernel
theorem jo_58 : sx_ok 58 := sx_ok_of 58 (fun pc hp => by
    show jt_58 pc = none
    unfold jt_58
    rw [Nat.ble_eq_true_of_le (show 68 ≤ pc from hp)]
    rfl) (fun pc hp => ⟨0, 68, Nat.zero_le _, hp, jk_58⟩)
set_option maxRecDepth 100000 in
theorem jf_58 : sx_mf 58 := sx_mfA (c := 11) (p := 851) rfl rfl sx_cls11 rfl (by decide +kernel) (Nat.le_of_ble_eq_true rfl) (Or.inr (Or.inl ⟨rfl, sx_tb_in 850 (by decide +kernel) rfl, sx_tb_in 8 (by decide +kernel) rfl⟩)) jo_58
-- SpoutNews$Tokens.split
theorem jk_59 : sx_chk 59 0 217 = true := by decide +kernel
theorem jo_59 : sx_ok 59 := sx_ok_of 59 (fun pc hp => by
    show jt_59 pc = none
    unfold jt_59
    rw [Nat.ble_eq_true_of_le (show 217 ≤ pc from hp)]
    rfl) (fun pc hp => ⟨0, 217, Nat.zero_le _, hp, jk_59⟩)
set_option maxRecDepth 100000 in
theorem jf_59 : sx_mf 59 := sx_mfA (c := 8) (p := 856) rfl rfl sx_cls8 rfl (by decide +kernel) (Nat.le_of_ble_eq_true rfl) (Or.inr (Or.inl ⟨rfl, sx_tb_in 854 (by decide +kernel) rfl, sx_tb_in 855 (by decide +kernel) rfl⟩)) jo_59
-- SpoutNews$Tokens.clear
theorem jk_60 : sx_chk 60 0 21 = true := by decide +kernel
theorem jo_60 : sx_ok 60 := sx_ok_of 60 (fun pc hp => by
    show jt_60 pc = none
    unfold jt_60
    rw [Nat.ble_eq_true_of_le (show 21 ≤ pc from hp)]
    rfl) (fun pc hp => ⟨0, 21, Nat.zero_le _, hp, jk_60⟩)
set_option maxRecDepth 100000 in
theorem jf_60 : sx_mf 60 := sx_mfA (c := 8) (p := 860) rfl rfl sx_cls8 rfl (by decide +kernel) (Nat.le_of_ble_eq_true rfl) (Or.inr (Or.inl ⟨rfl, sx_tb_in 858 (by decide +kernel) rfl, sx_tb_in 859 (by decide +kernel) rfl⟩)) jo_60
-- SpoutNews$Tokens.isLetter
theorem jk_61 : sx_chk 61 0 30 = true := by decide +kernel
theorem jo_61 : sx_ok 61 := sx_ok_of 61 (fun pc hp => by
    show jt_61 pc = none
    unfold jt_61
    rw [Nat.ble_eq_true_of_le (show 30 ≤ pc from hp)]
    rfl) (fun pc hp => ⟨0, 30, Nat.zero_le _, hp, jk_61⟩)
set_option maxRecDepth 100000 in
theorem jf_61 : sx_mf 61 := sx_mfA (c := 8) (p := 863) rfl rfl sx_cls8 rfl (by decide +kernel) (Nat.le_of_ble_eq_true rfl) (Or.inl ⟨rfl, sx_tb_in 862 (by decide +kernel) rfl⟩) jo_61
-- SpoutNews$Tokens.isDigit
theorem jk_62 : sx_chk 62 0 18 = true := by decide +kernel
theorem jo_62 : sx_ok 62 := sx_ok_of 62 (fun pc hp => by
    show jt_62 pc = none
    unfold jt_62
    rw [Nat.ble_eq_true_of_le (show 18 ≤ pc from hp)]
    rfl) (fun pc hp => ⟨0, 18, Nat.zero_le _, hp, jk_62⟩)
set_option maxRecDepth 100000 in
theorem jf_62 : sx_mf 62 := sx_mfA (c := 8) (p := 866) rfl rfl sx_cls8 rfl (by decide +kernel) (Nat.le_of_ble_eq_true rfl) (Or.inl ⟨rfl, sx_tb_in 865 (by decide +kernel) rfl⟩) jo_62
-- SpoutNews$Tokens.keywordAt
theorem jk_63 : sx_chk 63 0 114 = true := by decide +kernel
theorem jo_63 : sx_ok 63 := sx_ok_of 63 (fun pc hp => by
    show jt_63 pc = none
    unfold jt_63
    rw [Nat.ble_eq_true_of_le (show 114 ≤ pc from hp)]
    rfl) (fun pc hp => ⟨0, 114, Nat.zero_le _, hp, jk_63⟩)
set_option maxRecDepth 100000 in
theorem jf_63 : sx_mf 63 := sx_mfA (c := 8) (p := 869) rfl rfl sx_cls8 rfl (by decide +kernel) (Nat.le_of_ble_eq_true rfl) (Or.inl ⟨rfl, sx_tb_in 868 (by decide +kernel) rfl⟩) jo_63
-- java/lang/String.length
theorem jk_64 : sx_chk 64 0 11 = true := by decide +kernel
theorem jo_64 : sx_ok 64 := sx_ok_of 64 (fun pc hp => by
    show jt_64 pc = none
    unfold jt_64
    rw [Nat.ble_eq_true_of_le (show 11 ≤ pc from hp)]
    rfl) (fun pc hp => ⟨0, 11, Nat.zero_le _, hp, jk_64⟩)
set_option maxRecDepth 100000 in
theorem jf_64 : sx_mf 64 := sx_mfA (c := 17) (p := 873) rfl rfl sx_cls17 rfl (by decide +kernel) (Nat.le_of_ble_eq_true rfl) (Or.inr (Or.inl ⟨rfl, sx_tb_in 871 (by decide +kernel) rfl, sx_tb_in 872 (by decide +kernel) rfl⟩)) jo_64
-- java/lang/String.coder
theorem jk_65 : sx_chk 65 0 15 = true := by decide +kernel
theorem jo_65 : sx_ok 65 := sx_ok_of 65 (fun pc hp => by
    show jt_65 pc = none
    unfold jt_65
    rw [Nat.ble_eq_true_of_le (show 15 ≤ pc from hp)]
    rfl) (fun pc hp => ⟨0, 15, Nat.zero_le _, hp, jk_65⟩)
set_option maxRecDepth 100000 in
theorem jf_65 : sx_mf 65 := sx_mfA (c := 17) (p := 877) rfl rfl sx_cls17 rfl (by decide +kernel) (Nat.le_of_ble_eq_true rfl) (Or.inr (Or.inl ⟨rfl, sx_tb_in 875 (by decide +kernel) rfl, sx_tb_in 876 (by decide +kernel) rfl⟩)) jo_65
-- java/lang/String.charAt
theorem jk_66 : sx_chk 66 0 25 = true := by decide +kernel
theorem jo_66 : sx_ok 66 := sx_ok_of 66 (fun pc hp => by
    show jt_66 pc = none
    unfold jt_66
    rw [Nat.ble_eq_true_of_le (show 25 ≤ pc from hp)]
    rfl) (fun pc hp => ⟨0, 25, Nat.zero_le _, hp, jk_66⟩)
set_option maxRecDepth 100000 in
theorem jf_66 : sx_mf 66 := sx_mfA (c := 17) (p := 883) rfl rfl sx_cls17 rfl (by decide +kernel) (Nat.le_of_ble_eq_true rfl) (Or.inr (Or.inl ⟨rfl, sx_tb_in 881 (by decide +kernel) rfl, sx_tb_in 882 (by decide +kernel) rfl⟩)) jo_66
-- java/lang/String.isLatin1
theorem jk_67 : sx_chk 67 0 19 = true := by decide +kernel
theorem jo_67 : sx_ok 67 := sx_ok_of 67 (fun pc hp => by
    show jt_67 pc = none
    unfold jt_67
    rw [Nat.ble_eq_true_of_le (show 19 ≤ pc from hp)]
    rfl) (fun pc hp => ⟨0, 19, Nat.zero_le _, hp, jk_67⟩)
set_option maxRecDepth 100000 in
theorem jf_67 : sx_mf 67 := sx_mfA (c := 17) (p := 887) rfl rfl sx_cls17 rfl (by decide +kernel) (Nat.le_of_ble_eq_true rfl) (Or.inr (Or.inl ⟨rfl, sx_tb_in 885 (by decide +kernel) rfl, sx_tb_in 886 (by decide +kernel) rfl⟩)) jo_67
-- java/lang/StringLatin1.charAt
theorem jk_68 : sx_chk 68 0 15 = true := by decide +kernel
theorem jo_68 : sx_ok 68 := sx_ok_of 68 (fun pc hp => by
    show jt_68 pc = none
    unfold jt_68
    rw [Nat.ble_eq_true_of_le (show 15 ≤ pc from hp)]
    rfl) (fun pc hp => ⟨0, 15, Nat.zero_le _, hp, jk_68⟩)
set_option maxRecDepth 100000 in
theorem jf_68 : sx_mf 68 := sx_mfA (c := 18) (p := 890) rfl rfl sx_cls18 rfl (by decide +kernel) (Nat.le_of_ble_eq_true rfl) (Or.inl ⟨rfl, sx_tb_in 889 (by decide +kernel) rfl⟩) jo_68
-- java/lang/String.checkIndex
theorem jk_69 : sx_chk 69 0 10 = true := by decide +kernel
theorem jo_69 : sx_ok 69 := sx_ok_of 69 (fun pc hp => by
    show jt_69 pc = none
    unfold jt_69
    rw [Nat.ble_eq_true_of_le (show 10 ≤ pc from hp)]
    rfl) (fun pc hp => ⟨0, 10, Nat.zero_le _, hp, jk_69⟩)
set_option maxRecDepth 100000 in
theorem jf_69 : sx_mf 69 := sx_mfA (c := 17) (p := 893) rfl rfl sx_cls17 rfl (by decide +kernel) (Nat.le_of_ble_eq_true rfl) (Or.inl ⟨rfl, sx_tb_in 892 (by decide +kernel) rfl⟩) jo_69
-- jdk/internal/util/Preconditions.checkIndex
theorem jk_70 : sx_chk 70 0 18 = true := by decide +kernel
theorem jo_70 : sx_ok 70 := sx_ok_of 70 (fun pc hp => by
    show jt_70 pc = none
    unfold jt_70
    rw [Nat.ble_eq_true_of_le (show 18 ≤ pc from hp)]
    rfl) (fun pc hp => ⟨0, 18, Nat.zero_le _, hp, jk_70⟩)
set_option maxRecDepth 100000 in
theorem jf_70 : sx_mf 70 := sx_mfA (c := 21) (p := 898) rfl rfl sx_cls21 rfl (by decide +kernel) (Nat.le_of_ble_eq_true rfl) (Or.inl ⟨rfl, sx_tb_in 897 (by decide +kernel) rfl⟩) jo_70
-- java/lang/StringUTF16.checkIndex
theorem jk_72 : sx_chk 72 0 9 = true := by decide +kernel
theorem jo_72 : sx_ok 72 := sx_ok_of 72 (fun pc hp => by
    show jt_72 pc = none
    unfold jt_72
    rw [Nat.ble_eq_true_of_le (show 9 ≤ pc from hp)]
    rfl) (fun pc hp => ⟨0, 9, Nat.zero_le _, hp, jk_72⟩)
set_option maxRecDepth 100000 in
theorem jf_72 : sx_mf 72 := sx_mfA (c := 19) (p := 904) rfl rfl sx_cls19 rfl (by decide +kernel) (Nat.le_of_ble_eq_true rfl) (Or.inl ⟨rfl, sx_tb_in 903 (by decide +kernel) rfl⟩) jo_72
-- java/lang/StringUTF16.length
theorem jk_73 : sx_chk 73 0 5 = true := by decide +kernel
theorem jo_73 : sx_ok 73 := sx_ok_of 73 (fun pc hp => by
    show jt_73 pc = none
    unfold jt_73
    rw [Nat.ble_eq_true_of_le (show 5 ≤ pc from hp)]
    rfl) (fun pc hp => ⟨0, 5, Nat.zero_le _, hp, jk_73⟩)
set_option maxRecDepth 100000 in
theorem jf_73 : sx_mf 73 := sx_mfA (c := 19) (p := 907) rfl rfl sx_cls19 rfl (by decide +kernel) (Nat.le_of_ble_eq_true rfl) (Or.inl ⟨rfl, sx_tb_in 906 (by decide +kernel) rfl⟩) jo_73
-- SpoutNews$Tokens.sameLetters
theorem jk_75 : sx_chk 75 0 37 = true := by decide +kernel
theorem jo_75 : sx_ok 75 := sx_ok_of 75 (fun pc hp => by
    show jt_75 pc = none
    unfold jt_75
    rw [Nat.ble_eq_true_of_le (show 37 ≤ pc from hp)]
    rfl) (fun pc hp => ⟨0, 37, Nat.zero_le _, hp, jk_75⟩)
set_option maxRecDepth 100000 in
theorem jf_75 : sx_mf 75 := sx_mfA (c := 8) (p := 920) rfl rfl sx_cls8 rfl (by decide +kernel) (Nat.le_of_ble_eq_true rfl) (Or.inl ⟨rfl, sx_tb_in 919 (by decide +kernel) rfl⟩) jo_75
-- SpoutNews$Tokens.add
theorem jk_76 : sx_chk 76 0 51 = true := by decide +kernel
theorem jo_76 : sx_ok 76 := sx_ok_of 76 (fun pc hp => by
    show jt_76 pc = none
    unfold jt_76
    rw [Nat.ble_eq_true_of_le (show 51 ≤ pc from hp)]
    rfl) (fun pc hp => ⟨0, 51, Nat.zero_le _, hp, jk_76⟩)
set_option maxRecDepth 100000 in
theorem jf_76 : sx_mf 76 := sx_mfA (c := 8) (p := 924) rfl rfl sx_cls8 rfl (by decide +kernel) (Nat.le_of_ble_eq_true rfl) (Or.inr (Or.inl ⟨rfl, sx_tb_in 923 (by decide +kernel) rfl, sx_tb_in 9 (by decide +kernel) rfl⟩)) jo_76
-- SpoutNews$Tokens.numberAt
theorem jk_77 : sx_chk 77 0 52 = true := by decide +kernel
theorem jo_77 : sx_ok 77 := sx_ok_of 77 (fun pc hp => by
    show jt_77 pc = none
    unfold jt_77
    rw [Nat.ble_eq_true_of_le (show 52 ≤ pc from hp)]
    rfl) (fun pc hp => ⟨0, 52, Nat.zero_le _, hp, jk_77⟩)
set_option maxRecDepth 100000 in
theorem jf_77 : sx_mf 77 := sx_mfA (c := 8) (p := 927) rfl rfl sx_cls8 rfl (by decide +kernel) (Nat.le_of_ble_eq_true rfl) (Or.inl ⟨rfl, sx_tb_in 926 (by decide +kernel) rfl⟩) jo_77
-- SpoutNews$Tokens.isSignOfLaw
theorem jk_78 : sx_chk 78 0 66 = true := by decide +kernel
theorem jo_78 : sx_ok 78 := sx_ok_of 78 (fun pc hp => by
    show jt_78 pc = none
    unfold jt_78
    rw [Nat.ble_eq_true_of_le (show 66 ≤ pc from hp)]
    rfl) (fun pc hp => ⟨0, 66, Nat.zero_le _, hp, jk_78⟩)
set_option maxRecDepth 100000 in
theorem jf_78 : sx_mf 78 := sx_mfA (c := 8) (p := 930) rfl rfl sx_cls8 rfl (by decide +kernel) (Nat.le_of_ble_eq_true rfl) (Or.inl ⟨rfl, sx_tb_in 929 (by decide +kernel) rfl⟩) jo_78
-- SpoutNews$LawReader.readLaw
theorem jk_79 : sx_chk 79 0 128 = true := by decide +kernel
theorem jo_79 : sx_ok 79 := sx_ok_of 79 (fun pc hp => by
    show jt_79 pc = none
    unfold jt_79
    rw [Nat.ble_eq_true_of_le (show 128 ≤ pc from hp)]
    rfl) (fun pc hp => ⟨0, 128, Nat.zero_le _, hp, jk_79⟩)
set_option maxRecDepth 100000 in
theorem jf_79 : sx_mf 79 := sx_mfA (c := 4) (p := 934) rfl rfl sx_cls4 rfl (by decide +kernel) (Nat.le_of_ble_eq_true rfl) (Or.inr (Or.inl ⟨rfl, sx_tb_in 932 (by decide +kernel) rfl, sx_tb_in 933 (by decide +kernel) rfl⟩)) jo_79
-- SpoutNews$Law.clear
theorem jk_80 : sx_chk 80 0 11 = true := by decide +kernel
theorem jo_80 : sx_ok 80 := sx_ok_of 80 (fun pc hp => by
    show jt_80 pc = none
    unfold jt_80
    rw [Nat.ble_eq_true_of_le (show 11 ≤ pc from hp)]
    rfl) (fun pc hp => ⟨0, 11, Nat.zero_le _, hp, jk_80⟩)
set_option maxRecDepth 100000 in
theorem jf_80 : sx_mf 80 := sx_mfA (c := 3) (p := 938) rfl rfl sx_cls3 rfl (by decide +kernel) (Nat.le_of_ble_eq_true rfl) (Or.inr (Or.inl ⟨rfl, sx_tb_in 936 (by decide +kernel) rfl, sx_tb_in 937 (by decide +kernel) rfl⟩)) jo_80
-- SpoutNews$Tokens.isAtEnd
theorem jk_81 : sx_chk 81 0 30 = true := by decide +kernel
theorem jo_81 : sx_ok 81 := sx_ok_of 81 (fun pc hp => by
    show jt_81 pc = none
    unfold jt_81
    rw [Nat.ble_eq_true_of_le (show 30 ≤ pc from hp)]
    rfl) (fun pc hp => ⟨0, 30, Nat.zero_le _, hp, jk_81⟩)
set_option maxRecDepth 100000 in
theorem jf_81 : sx_mf 81 := sx_mfA (c := 8) (p := 942) rfl rfl sx_cls8 rfl (by decide +kernel) (Nat.le_of_ble_eq_true rfl) (Or.inr (Or.inl ⟨rfl, sx_tb_in 940 (by decide +kernel) rfl, sx_tb_in 941 (by decide +kernel) rfl⟩)) jo_81
-- SpoutNews$Tokens.keyword
theorem jk_82 : sx_chk 82 0 38 = true := by decide +kernel
theorem jo_82 : sx_ok 82 := sx_ok_of 82 (fun pc hp => by
    show jt_82 pc = none
    unfold jt_82
    rw [Nat.ble_eq_true_of_le (show 38 ≤ pc from hp)]
    rfl) (fun pc hp => ⟨0, 38, Nat.zero_le _, hp, jk_82⟩)
set_option maxRecDepth 100000 in
theorem jf_82 : sx_mf 82 := sx_mfA (c := 8) (p := 946) rfl rfl sx_cls8 rfl (by decide +kernel) (Nat.le_of_ble_eq_true rfl) (Or.inr (Or.inl ⟨rfl, sx_tb_in 944 (by decide +kernel) rfl, sx_tb_in 945 (by decide +kernel) rfl⟩)) jo_82
-- SpoutNews$Tokens.refuse
theorem jk_83 : sx_chk 83 0 35 = true := by decide +kernel
theorem jo_83 : sx_ok 83 := sx_ok_of 83 (fun pc hp => by
    show jt_83 pc = none
    unfold jt_83
    rw [Nat.ble_eq_true_of_le (show 35 ≤ pc from hp)]
    rfl) (fun pc hp => ⟨0, 35, Nat.zero_le _, hp, jk_83⟩)
set_option maxRecDepth 100000 in
theorem jf_83 : sx_mf 83 := sx_mfA (c := 8) (p := 950) rfl rfl sx_cls8 rfl (by decide +kernel) (Nat.le_of_ble_eq_true rfl) (Or.inr (Or.inl ⟨rfl, sx_tb_in 948 (by decide +kernel) rfl, sx_tb_in 949 (by decide +kernel) rfl⟩)) jo_83
-- SpoutNews$Tokens.takeLineStart
theorem jk_84 : sx_chk 84 0 28 = true := by decide +kernel
theorem jo_84 : sx_ok 84 := sx_ok_of 84 (fun pc hp => by
    show jt_84 pc = none
    unfold jt_84
    rw [Nat.ble_eq_true_of_le (show 28 ≤ pc from hp)]
    rfl) (fun pc hp => ⟨0, 28, Nat.zero_le _, hp, jk_84⟩)
set_option maxRecDepth 100000 in
theorem jf_84 : sx_mf 84 := sx_mfA (c := 8) (p := 954) rfl rfl sx_cls8 rfl (by decide +kernel) (Nat.le_of_ble_eq_true rfl) (Or.inr (Or.inl ⟨rfl, sx_tb_in 952 (by decide +kernel) rfl, sx_tb_in 953 (by decide +kernel) rfl⟩)) jo_84
-- SpoutNews$Tokens.isAt
theorem jk_85 : sx_chk 85 0 43 = true := by decide +kernel
theorem jo_85 : sx_ok 85 := sx_ok_of 85 (fun pc hp => by
    show jt_85 pc = none
    unfold jt_85
    rw [Nat.ble_eq_true_of_le (show 43 ≤ pc from hp)]
    rfl) (fun pc hp => ⟨0, 43, Nat.zero_le _, hp, jk_85⟩)
set_option maxRecDepth 100000 in
theorem jf_85 : sx_mf 85 := sx_mfA (c := 8) (p := 958) rfl rfl sx_cls8 rfl (by decide +kernel) (Nat.le_of_ble_eq_true rfl) (Or.inr (Or.inl ⟨rfl, sx_tb_in 956 (by decide +kernel) rfl, sx_tb_in 957 (by decide +kernel) rfl⟩)) jo_85
-- SpoutNews$Tokens.take
theorem jk_86 : sx_chk 86 0 21 = true := by decide +kernel
theorem jo_86 : sx_ok 86 := sx_ok_of 86 (fun pc hp => by
    show jt_86 pc = none
    unfold jt_86
    rw [Nat.ble_eq_true_of_le (show 21 ≤ pc from hp)]
    rfl) (fun pc hp => ⟨0, 21, Nat.zero_le _, hp, jk_86⟩)
set_option maxRecDepth 100000 in
theorem jf_86 : sx_mf 86 := sx_mfA (c := 8) (p := 963) rfl rfl sx_cls8 rfl (by decide +kernel) (Nat.le_of_ble_eq_true rfl) (Or.inr (Or.inl ⟨rfl, sx_tb_in 961 (by decide +kernel) rfl, sx_tb_in 962 (by decide +kernel) rfl⟩)) jo_86
-- SpoutNews$Tokens.step
theorem jk_87 : sx_chk 87 0 24 = true := by decide +kernel
theorem jo_87 : sx_ok 87 := sx_ok_of 87 (fun pc hp => by
    show jt_87 pc = none
    unfold jt_87
    rw [Nat.ble_eq_true_of_le (show 24 ≤ pc from hp)]
    rfl) (fun pc hp => ⟨0, 24, Nat.zero_le _, hp, jk_87⟩)
set_option maxRecDepth 100000 in
theorem jf_87 : sx_mf 87 := sx_mfA (c := 8) (p := 967) rfl rfl sx_cls8 rfl (by decide +kernel) (Nat.le_of_ble_eq_true rfl) (Or.inr (Or.inl ⟨rfl, sx_tb_in 965 (by decide +kernel) rfl, sx_tb_in 966 (by decide +kernel) rfl⟩)) jo_87
-- SpoutNews$LawReader.sum
theorem jk_88 : sx_chk 88 0 149 = true := by decide +kernel
theorem jo_88 : sx_ok 88 := sx_ok_of 88 (fun pc hp => by
    show jt_88 pc = none
    unfold jt_88
    rw [Nat.ble_eq_true_of_le (show 149 ≤ pc from hp)]
    rfl) (fun pc hp => ⟨0, 149, Nat.zero_le _, hp, jk_88⟩)
set_option maxRecDepth 100000 in
theorem jf_88 : sx_mf 88 := sx_mfA (c := 4) (p := 971) rfl rfl sx_cls4 rfl (by decide +kernel) (Nat.le_of_ble_eq_true rfl) (Or.inr (Or.inl ⟨rfl, sx_tb_in 970 (by decide +kernel) rfl, sx_tb_in 10 (by decide +kernel) rfl⟩)) jo_88
-- SpoutNews$LawReader.unit
theorem jk_89 : sx_chk 89 0 56 = true := by decide +kernel
theorem jo_89 : sx_ok 89 := sx_ok_of 89 (fun pc hp => by
    show jt_89 pc = none
    unfold jt_89
    rw [Nat.ble_eq_true_of_le (show 56 ≤ pc from hp)]
    rfl) (fun pc hp => ⟨0, 56, Nat.zero_le _, hp, jk_89⟩)
set_option maxRecDepth 100000 in
theorem jf_89 : sx_mf 89 := sx_mfA (c := 4) (p := 975) rfl rfl sx_cls4 rfl (by decide +kernel) (Nat.le_of_ble_eq_true rfl) (Or.inr (Or.inl ⟨rfl, sx_tb_in 974 (by decide +kernel) rfl, sx_tb_in 11 (by decide +kernel) rfl⟩)) jo_89
-- SpoutNews$Tokens.number
theorem jk_90 : sx_chk 90 0 38 = true := by decide +kernel
theorem jo_90 : sx_ok 90 := sx_ok_of 90 (fun pc hp => by
    show jt_90 pc = none
    unfold jt_90
    rw [Nat.ble_eq_true_of_le (show 38 ≤ pc from hp)]
    rfl) (fun pc hp => ⟨0, 38, Nat.zero_le _, hp, jk_90⟩)
set_option maxRecDepth 100000 in
theorem jf_90 : sx_mf 90 := sx_mfA (c := 8) (p := 979) rfl rfl sx_cls8 rfl (by decide +kernel) (Nat.le_of_ble_eq_true rfl) (Or.inr (Or.inl ⟨rfl, sx_tb_in 977 (by decide +kernel) rfl, sx_tb_in 978 (by decide +kernel) rfl⟩)) jo_90
-- SpoutNews$Law.add
theorem jk_91 : sx_chk 91 0 41 = true := by decide +kernel
theorem jo_91 : sx_ok 91 := sx_ok_of 91 (fun pc hp => by
    show jt_91 pc = none
    unfold jt_91
    rw [Nat.ble_eq_true_of_le (show 41 ≤ pc from hp)]
    rfl) (fun pc hp => ⟨0, 41, Nat.zero_le _, hp, jk_91⟩)
set_option maxRecDepth 100000 in
theorem jf_91 : sx_mf 91 := sx_mfA (c := 3) (p := 983) rfl rfl sx_cls3 rfl (by decide +kernel) (Nat.le_of_ble_eq_true rfl) (Or.inr (Or.inl ⟨rfl, sx_tb_in 981 (by decide +kernel) rfl, sx_tb_in 982 (by decide +kernel) rfl⟩)) jo_91
-- SpoutNews$LawReader.part
theorem jk_92 : sx_chk 92 0 36 = true := by decide +kernel
theorem jo_92 : sx_ok 92 := sx_ok_of 92 (fun pc hp => by
    show jt_92 pc = none
    unfold jt_92
    rw [Nat.ble_eq_true_of_le (show 36 ≤ pc from hp)]
    rfl) (fun pc hp => ⟨0, 36, Nat.zero_le _, hp, jk_92⟩)
set_option maxRecDepth 100000 in
theorem jf_92 : sx_mf 92 := sx_mfA (c := 4) (p := 989) rfl rfl sx_cls4 rfl (by decide +kernel) (Nat.le_of_ble_eq_true rfl) (Or.inr (Or.inl ⟨rfl, sx_tb_in 988 (by decide +kernel) rfl, sx_tb_in 12 (by decide +kernel) rfl⟩)) jo_92
-- SpoutNews$LawReader.addLate
theorem jk_93 : sx_chk 93 0 12 = true := by decide +kernel
theorem jo_93 : sx_ok 93 := sx_ok_of 93 (fun pc hp => by
    show jt_93 pc = none
    unfold jt_93
    rw [Nat.ble_eq_true_of_le (show 12 ≤ pc from hp)]
    rfl) (fun pc hp => ⟨0, 12, Nat.zero_le _, hp, jk_93⟩)
set_option maxRecDepth 100000 in
theorem jf_93 : sx_mf 93 := sx_mfA (c := 4) (p := 993) rfl rfl sx_cls4 rfl (by decide +kernel) (Nat.le_of_ble_eq_true rfl) (Or.inr (Or.inl ⟨rfl, sx_tb_in 992 (by decide +kernel) rfl, sx_tb_in 13 (by decide +kernel) rfl⟩)) jo_93
-- SpoutNews$LawReader.conditions
theorem jk_94 : sx_chk 94 0 118 = true := by decide +kernel
theorem jo_94 : sx_ok 94 := sx_ok_of 94 (fun pc hp => by
    show jt_94 pc = none
    unfold jt_94
    rw [Nat.ble_eq_true_of_le (show 118 ≤ pc from hp)]
    rfl) (fun pc hp => ⟨0, 118, Nat.zero_le _, hp, jk_94⟩)
set_option maxRecDepth 100000 in
theorem jf_94 : sx_mf 94 := sx_mfA (c := 4) (p := 997) rfl rfl sx_cls4 rfl (by decide +kernel) (Nat.le_of_ble_eq_true rfl) (Or.inr (Or.inl ⟨rfl, sx_tb_in 996 (by decide +kernel) rfl, sx_tb_in 14 (by decide +kernel) rfl⟩)) jo_94
-- SpoutNews$LawReader.openAll
theorem jk_95 : sx_chk 95 0 96 = true := by decide +kernel
theorem jo_95 : sx_ok 95 := sx_ok_of 95 (fun pc hp => by
    show jt_95 pc = none
    unfold jt_95
    rw [Nat.ble_eq_true_of_le (show 96 ≤ pc from hp)]
    rfl) (fun pc hp => ⟨0, 96, Nat.zero_le _, hp, jk_95⟩)
set_option maxRecDepth 100000 in
theorem jf_95 : sx_mf 95 := sx_mfA (c := 4) (p := 1001) rfl rfl sx_cls4 rfl (by decide +kernel) (Nat.le_of_ble_eq_true rfl) (Or.inr (Or.inl ⟨rfl, sx_tb_in 1000 (by decide +kernel) rfl, sx_tb_in 15 (by decide +kernel) rfl⟩)) jo_95
-- SpoutNews$LawReader.push
theorem jk_96 : sx_chk 96 0 30 = true := by decide +kernel
theorem jo_96 : sx_ok 96 := sx_ok_of 96 (fun pc hp => by
    show jt_96 pc = none
    unfold jt_96
    rw [Nat.ble_eq_true_of_le (show 30 ≤ pc from hp)]
    rfl) (fun pc hp => ⟨0, 30, Nat.zero_le _, hp, jk_96⟩)
set_option maxRecDepth 100000 in
theorem jf_96 : sx_mf 96 := sx_mfA (c := 4) (p := 1005) rfl rfl sx_cls4 rfl (by decide +kernel) (Nat.le_of_ble_eq_true rfl) (Or.inr (Or.inl ⟨rfl, sx_tb_in 1004 (by decide +kernel) rfl, sx_tb_in 16 (by decide +kernel) rfl⟩)) jo_96
-- SpoutNews$LawReader.comparison
theorem jk_97 : sx_chk 97 0 92 = true := by decide +kernel
theorem jo_97 : sx_ok 97 := sx_ok_of 97 (fun pc hp => by
    show jt_97 pc = none
    unfold jt_97
    rw [Nat.ble_eq_true_of_le (show 92 ≤ pc from hp)]
    rfl) (fun pc hp => ⟨0, 92, Nat.zero_le _, hp, jk_97⟩)
set_option maxRecDepth 100000 in
theorem jf_97 : sx_mf 97 := sx_mfA (c := 4) (p := 1009) rfl rfl sx_cls4 rfl (by decide +kernel) (Nat.le_of_ble_eq_true rfl) (Or.inr (Or.inl ⟨rfl, sx_tb_in 1008 (by decide +kernel) rfl, sx_tb_in 17 (by decide +kernel) rfl⟩)) jo_97
-- SpoutNews$LawReader.closeAll
theorem jk_98 : sx_chk 98 0 82 = true := by decide +kernel
theorem jo_98 : sx_ok 98 := sx_ok_of 98 (fun pc hp => by
    show jt_98 pc = none
    unfold jt_98
    rw [Nat.ble_eq_true_of_le (show 82 ≤ pc from hp)]
    rfl) (fun pc hp => ⟨0, 82, Nat.zero_le _, hp, jk_98⟩)
set_option maxRecDepth 100000 in
theorem jf_98 : sx_mf 98 := sx_mfA (c := 4) (p := 1013) rfl rfl sx_cls4 rfl (by decide +kernel) (Nat.le_of_ble_eq_true rfl) (Or.inr (Or.inl ⟨rfl, sx_tb_in 1012 (by decide +kernel) rfl, sx_tb_in 18 (by decide +kernel) rfl⟩)) jo_98
