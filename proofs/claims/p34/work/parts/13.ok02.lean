-- by program (wip/gen/mk12.py): the tables of methods hold
-- SpoutNews$LawReader.settleNots
theorem jk_99 : sx_chk 99 0 65 = true := by decide +kernel
theorem jo_99 : sx_ok 99 := sx_ok_of 99 (fun pc hp => by
    show jt_99 pc = none
    unfold jt_99
    rw [Nat.ble_eq_true_of_le (show 65 ≤ pc from hp)]
    rfl) (fun pc hp => ⟨0, 65, Nat.zero_le _, hp, jk_99⟩)
set_option maxRecDepth 100000 in
theorem jf_99 : sx_mf 99 := sx_mfA (c := 4) (p := 1017) rfl rfl sx_cls4 rfl (by decide +kernel) (Nat.le_of_ble_eq_true rfl) (Or.inr (Or.inl ⟨rfl, sx_tb_in 1016 (by decide +kernel) rfl, sx_tb_in 19 (by decide +kernel) rfl⟩)) jo_99
-- SpoutNews$LawReader.settleBinary
theorem jk_100 : sx_chk 100 0 83 = true := by decide +kernel
theorem jo_100 : sx_ok 100 := sx_ok_of 100 (fun pc hp => by
    show jt_100 pc = none
    unfold jt_100
    rw [Nat.ble_eq_true_of_le (show 83 ≤ pc from hp)]
    rfl) (fun pc hp => ⟨0, 83, Nat.zero_le _, hp, jk_100⟩)
set_option maxRecDepth 100000 in
theorem jf_100 : sx_mf 100 := sx_mfA (c := 4) (p := 1021) rfl rfl sx_cls4 rfl (by decide +kernel) (Nat.le_of_ble_eq_true rfl) (Or.inr (Or.inl ⟨rfl, sx_tb_in 1020 (by decide +kernel) rfl, sx_tb_in 20 (by decide +kernel) rfl⟩)) jo_100
-- SpoutNews$Law.addLine
theorem jk_101 : sx_chk 101 0 63 = true := by decide +kernel
theorem jo_101 : sx_ok 101 := sx_ok_of 101 (fun pc hp => by
    show jt_101 pc = none
    unfold jt_101
    rw [Nat.ble_eq_true_of_le (show 63 ≤ pc from hp)]
    rfl) (fun pc hp => ⟨0, 63, Nat.zero_le _, hp, jk_101⟩)
set_option maxRecDepth 100000 in
theorem jf_101 : sx_mf 101 := sx_mfA (c := 3) (p := 1026) rfl rfl sx_cls3 rfl (by decide +kernel) (Nat.le_of_ble_eq_true rfl) (Or.inr (Or.inl ⟨rfl, sx_tb_in 1024 (by decide +kernel) rfl, sx_tb_in 1025 (by decide +kernel) rfl⟩)) jo_101
-- SpoutNews$Law.copyFrom
theorem jk_102 : sx_chk 102 0 111 = true := by decide +kernel
theorem jo_102 : sx_ok 102 := sx_ok_of 102 (fun pc hp => by
    show jt_102 pc = none
    unfold jt_102
    rw [Nat.ble_eq_true_of_le (show 111 ≤ pc from hp)]
    rfl) (fun pc hp => ⟨0, 111, Nat.zero_le _, hp, jk_102⟩)
set_option maxRecDepth 100000 in
theorem jf_102 : sx_mf 102 := sx_mfA (c := 3) (p := 1030) rfl rfl sx_cls3 rfl (by decide +kernel) (Nat.le_of_ble_eq_true rfl) (Or.inr (Or.inl ⟨rfl, sx_tb_in 1028 (by decide +kernel) rfl, sx_tb_in 1029 (by decide +kernel) rfl⟩)) jo_102
-- SpoutNews.takeGutters
theorem jk_103 : sx_chk 103 0 59 = true := by decide +kernel
theorem jo_103 : sx_ok 103 := sx_ok_of 103 (fun pc hp => by
    show jt_103 pc = none
    unfold jt_103
    rw [Nat.ble_eq_true_of_le (show 59 ≤ pc from hp)]
    rfl) (fun pc hp => ⟨0, 59, Nat.zero_le _, hp, jk_103⟩)
set_option maxRecDepth 100000 in
theorem jf_103 : sx_mf 103 := sx_mfA (c := 11) (p := 1035) rfl rfl sx_cls11 rfl (by decide +kernel) (Nat.le_of_ble_eq_true rfl) (Or.inr (Or.inl ⟨rfl, sx_tb_in 1034 (by decide +kernel) rfl, sx_tb_in 21 (by decide +kernel) rfl⟩)) jo_103
-- SpoutNews$Texts.readGutters
theorem jk_104 : sx_chk 104 0 133 = true := by decide +kernel
theorem jo_104 : sx_ok 104 := sx_ok_of 104 (fun pc hp => by
    show jt_104 pc = none
    unfold jt_104
    rw [Nat.ble_eq_true_of_le (show 133 ≤ pc from hp)]
    rfl) (fun pc hp => ⟨0, 133, Nat.zero_le _, hp, jk_104⟩)
set_option maxRecDepth 100000 in
theorem jf_104 : sx_mf 104 := sx_mfA (c := 6) (p := 1040) rfl rfl sx_cls6 rfl (by decide +kernel) (Nat.le_of_ble_eq_true rfl) (Or.inr (Or.inl ⟨rfl, sx_tb_in 1038 (by decide +kernel) rfl, sx_tb_in 1039 (by decide +kernel) rfl⟩)) jo_104
-- SpoutNews$Tokens.takeBelow
theorem jk_105 : sx_chk 105 0 37 = true := by decide +kernel
theorem jo_105 : sx_ok 105 := sx_ok_of 105 (fun pc hp => by
    show jt_105 pc = none
    unfold jt_105
    rw [Nat.ble_eq_true_of_le (show 37 ≤ pc from hp)]
    rfl) (fun pc hp => ⟨0, 37, Nat.zero_le _, hp, jk_105⟩)
set_option maxRecDepth 100000 in
theorem jf_105 : sx_mf 105 := sx_mfA (c := 8) (p := 1046) rfl rfl sx_cls8 rfl (by decide +kernel) (Nat.le_of_ble_eq_true rfl) (Or.inr (Or.inl ⟨rfl, sx_tb_in 1044 (by decide +kernel) rfl, sx_tb_in 1045 (by decide +kernel) rfl⟩)) jo_105
-- SpoutNews$Texts.copyGutters
theorem jk_106 : sx_chk 106 0 24 = true := by decide +kernel
theorem jo_106 : sx_ok 106 := sx_ok_of 106 (fun pc hp => by
    show jt_106 pc = none
    unfold jt_106
    rw [Nat.ble_eq_true_of_le (show 24 ≤ pc from hp)]
    rfl) (fun pc hp => ⟨0, 24, Nat.zero_le _, hp, jk_106⟩)
set_option maxRecDepth 100000 in
theorem jf_106 : sx_mf 106 := sx_mfA (c := 6) (p := 1054) rfl rfl sx_cls6 rfl (by decide +kernel) (Nat.le_of_ble_eq_true rfl) (Or.inr (Or.inl ⟨rfl, sx_tb_in 1052 (by decide +kernel) rfl, sx_tb_in 1053 (by decide +kernel) rfl⟩)) jo_106
-- SpoutNews.takeWeather
theorem jk_107 : sx_chk 107 0 59 = true := by decide +kernel
theorem jo_107 : sx_ok 107 := sx_ok_of 107 (fun pc hp => by
    show jt_107 pc = none
    unfold jt_107
    rw [Nat.ble_eq_true_of_le (show 59 ≤ pc from hp)]
    rfl) (fun pc hp => ⟨0, 59, Nat.zero_le _, hp, jk_107⟩)
set_option maxRecDepth 100000 in
theorem jf_107 : sx_mf 107 := sx_mfA (c := 11) (p := 1059) rfl rfl sx_cls11 rfl (by decide +kernel) (Nat.le_of_ble_eq_true rfl) (Or.inr (Or.inl ⟨rfl, sx_tb_in 1058 (by decide +kernel) rfl, sx_tb_in 22 (by decide +kernel) rfl⟩)) jo_107
-- SpoutNews$Texts.readWeather
theorem jk_108 : sx_chk 108 0 117 = true := by decide +kernel
theorem jo_108 : sx_ok 108 := sx_ok_of 108 (fun pc hp => by
    show jt_108 pc = none
    unfold jt_108
    rw [Nat.ble_eq_true_of_le (show 117 ≤ pc from hp)]
    rfl) (fun pc hp => ⟨0, 117, Nat.zero_le _, hp, jk_108⟩)
set_option maxRecDepth 100000 in
theorem jf_108 : sx_mf 108 := sx_mfA (c := 6) (p := 1064) rfl rfl sx_cls6 rfl (by decide +kernel) (Nat.le_of_ble_eq_true rfl) (Or.inr (Or.inl ⟨rfl, sx_tb_in 1062 (by decide +kernel) rfl, sx_tb_in 1063 (by decide +kernel) rfl⟩)) jo_108
-- SpoutNews$Texts.copyWeather
theorem jk_109 : sx_chk 109 0 39 = true := by decide +kernel
theorem jo_109 : sx_ok 109 := sx_ok_of 109 (fun pc hp => by
    show jt_109 pc = none
    unfold jt_109
    rw [Nat.ble_eq_true_of_le (show 39 ≤ pc from hp)]
    rfl) (fun pc hp => ⟨0, 39, Nat.zero_le _, hp, jk_109⟩)
set_option maxRecDepth 100000 in
theorem jf_109 : sx_mf 109 := sx_mfA (c := 6) (p := 1068) rfl rfl sx_cls6 rfl (by decide +kernel) (Nat.le_of_ble_eq_true rfl) (Or.inr (Or.inl ⟨rfl, sx_tb_in 1066 (by decide +kernel) rfl, sx_tb_in 1067 (by decide +kernel) rfl⟩)) jo_109
-- SpoutNews.takePlan
theorem jk_110 : sx_chk 110 0 66 = true := by decide +kernel
theorem jo_110 : sx_ok 110 := sx_ok_of 110 (fun pc hp => by
    show jt_110 pc = none
    unfold jt_110
    rw [Nat.ble_eq_true_of_le (show 66 ≤ pc from hp)]
    rfl) (fun pc hp => ⟨0, 66, Nat.zero_le _, hp, jk_110⟩)
set_option maxRecDepth 100000 in
theorem jf_110 : sx_mf 110 := sx_mfA (c := 11) (p := 1072) rfl rfl sx_cls11 rfl (by decide +kernel) (Nat.le_of_ble_eq_true rfl) (Or.inr (Or.inl ⟨rfl, sx_tb_in 1071 (by decide +kernel) rfl, sx_tb_in 23 (by decide +kernel) rfl⟩)) jo_110
-- SpoutNews$Texts.readPlan
theorem jk_111 : sx_chk 111 0 98 = true := by decide +kernel
theorem jo_111 : sx_ok 111 := sx_ok_of 111 (fun pc hp => by
    show jt_111 pc = none
    unfold jt_111
    rw [Nat.ble_eq_true_of_le (show 98 ≤ pc from hp)]
    rfl) (fun pc hp => ⟨0, 98, Nat.zero_le _, hp, jk_111⟩)
set_option maxRecDepth 100000 in
theorem jf_111 : sx_mf 111 := sx_mfA (c := 6) (p := 1077) rfl rfl sx_cls6 rfl (by decide +kernel) (Nat.le_of_ble_eq_true rfl) (Or.inr (Or.inl ⟨rfl, sx_tb_in 1075 (by decide +kernel) rfl, sx_tb_in 1076 (by decide +kernel) rfl⟩)) jo_111
-- SpoutNews$Texts.readDeed
theorem jk_112 : sx_chk 112 0 128 = true := by decide +kernel
theorem jo_112 : sx_ok 112 := sx_ok_of 112 (fun pc hp => by
    show jt_112 pc = none
    unfold jt_112
    rw [Nat.ble_eq_true_of_le (show 128 ≤ pc from hp)]
    rfl) (fun pc hp => ⟨0, 128, Nat.zero_le _, hp, jk_112⟩)
set_option maxRecDepth 100000 in
theorem jf_112 : sx_mf 112 := sx_mfA (c := 6) (p := 1081) rfl rfl sx_cls6 rfl (by decide +kernel) (Nat.le_of_ble_eq_true rfl) (Or.inr (Or.inl ⟨rfl, sx_tb_in 1080 (by decide +kernel) rfl, sx_tb_in 24 (by decide +kernel) rfl⟩)) jo_112
-- SpoutNews$Texts.copyPlan
theorem jk_113 : sx_chk 113 0 69 = true := by decide +kernel
theorem jo_113 : sx_ok 113 := sx_ok_of 113 (fun pc hp => by
    show jt_113 pc = none
    unfold jt_113
    rw [Nat.ble_eq_true_of_le (show 69 ≤ pc from hp)]
    rfl) (fun pc hp => ⟨0, 69, Nat.zero_le _, hp, jk_113⟩)
set_option maxRecDepth 100000 in
theorem jf_113 : sx_mf 113 := sx_mfA (c := 6) (p := 1089) rfl rfl sx_cls6 rfl (by decide +kernel) (Nat.le_of_ble_eq_true rfl) (Or.inr (Or.inl ⟨rfl, sx_tb_in 1087 (by decide +kernel) rfl, sx_tb_in 1088 (by decide +kernel) rfl⟩)) jo_113
-- SpoutNews.fault
theorem jk_114 : sx_chk 114 0 46 = true := by decide +kernel
theorem jo_114 : sx_ok 114 := sx_ok_of 114 (fun pc hp => by
    show jt_114 pc = none
    unfold jt_114
    rw [Nat.ble_eq_true_of_le (show 46 ≤ pc from hp)]
    rfl) (fun pc hp => ⟨0, 46, Nat.zero_le _, hp, jk_114⟩)
set_option maxRecDepth 100000 in
theorem jf_114 : sx_mf 114 := sx_mfA (c := 11) (p := 1095) rfl rfl sx_cls11 rfl (by decide +kernel) (Nat.le_of_ble_eq_true rfl) (Or.inr (Or.inl ⟨rfl, sx_tb_in 1093 (by decide +kernel) rfl, sx_tb_in 1094 (by decide +kernel) rfl⟩)) jo_114
-- SpoutNews.of
theorem jk_115 : sx_chk 115 0 237 = true := by decide +kernel
theorem jo_115 : sx_ok 115 := sx_ok_of 115 (fun pc hp => by
    show jt_115 pc = none
    unfold jt_115
    rw [Nat.ble_eq_true_of_le (show 237 ≤ pc from hp)]
    rfl) (fun pc hp => ⟨0, 237, Nat.zero_le _, hp, jk_115⟩)
set_option maxRecDepth 100000 in
theorem jf_115 : sx_mf 115 := sx_mfA (c := 11) (p := 1099) rfl rfl sx_cls11 rfl (by decide +kernel) (Nat.le_of_ble_eq_true rfl) (Or.inr (Or.inl ⟨rfl, sx_tb_in 1097 (by decide +kernel) rfl, sx_tb_in 1098 (by decide +kernel) rfl⟩)) jo_115
-- SpoutNews.who
theorem jk_116 : sx_chk 116 0 73 = true := by decide +kernel
theorem jo_116 : sx_ok 116 := sx_ok_of 116 (fun pc hp => by
    show jt_116 pc = none
    unfold jt_116
    rw [Nat.ble_eq_true_of_le (show 73 ≤ pc from hp)]
    rfl) (fun pc hp => ⟨0, 73, Nat.zero_le _, hp, jk_116⟩)
set_option maxRecDepth 100000 in
theorem jf_116 : sx_mf 116 := sx_mfA (c := 11) (p := 1106) rfl rfl sx_cls11 rfl (by decide +kernel) (Nat.le_of_ble_eq_true rfl) (Or.inr (Or.inl ⟨rfl, sx_tb_in 1104 (by decide +kernel) rfl, sx_tb_in 1105 (by decide +kernel) rfl⟩)) jo_116
-- SpoutNews.jar
theorem jk_117 : sx_chk 117 0 69 = true := by decide +kernel
theorem jo_117 : sx_ok 117 := sx_ok_of 117 (fun pc hp => by
    show jt_117 pc = none
    unfold jt_117
    rw [Nat.ble_eq_true_of_le (show 69 ≤ pc from hp)]
    rfl) (fun pc hp => ⟨0, 69, Nat.zero_le _, hp, jk_117⟩)
set_option maxRecDepth 100000 in
theorem jf_117 : sx_mf 117 := sx_mfA (c := 11) (p := 1110) rfl rfl sx_cls11 rfl (by decide +kernel) (Nat.le_of_ble_eq_true rfl) (Or.inr (Or.inl ⟨rfl, sx_tb_in 1108 (by decide +kernel) rfl, sx_tb_in 1109 (by decide +kernel) rfl⟩)) jo_117
-- SpoutNews.weather
theorem jk_118 : sx_chk 118 0 12 = true := by decide +kernel
theorem jo_118 : sx_ok 118 := sx_ok_of 118 (fun pc hp => by
    show jt_118 pc = none
    unfold jt_118
    rw [Nat.ble_eq_true_of_le (show 12 ≤ pc from hp)]
    rfl) (fun pc hp => ⟨0, 12, Nat.zero_le _, hp, jk_118⟩)
set_option maxRecDepth 100000 in
theorem jf_118 : sx_mf 118 := sx_mfA (c := 11) (p := 1114) rfl rfl sx_cls11 rfl (by decide +kernel) (Nat.le_of_ble_eq_true rfl) (Or.inr (Or.inl ⟨rfl, sx_tb_in 1112 (by decide +kernel) rfl, sx_tb_in 1113 (by decide +kernel) rfl⟩)) jo_118
-- SpoutNews.book
theorem jk_119 : sx_chk 119 0 114 = true := by decide +kernel
theorem jo_119 : sx_ok 119 := sx_ok_of 119 (fun pc hp => by
    show jt_119 pc = none
    unfold jt_119
    rw [Nat.ble_eq_true_of_le (show 114 ≤ pc from hp)]
    rfl) (fun pc hp => ⟨0, 114, Nat.zero_le _, hp, jk_119⟩)
set_option maxRecDepth 100000 in
theorem jf_119 : sx_mf 119 := sx_mfA (c := 11) (p := 1119) rfl rfl sx_cls11 rfl (by decide +kernel) (Nat.le_of_ble_eq_true rfl) (Or.inr (Or.inl ⟨rfl, sx_tb_in 1117 (by decide +kernel) rfl, sx_tb_in 1118 (by decide +kernel) rfl⟩)) jo_119
-- SpoutNews.goes
theorem jk_120 : sx_chk 120 0 182 = true := by decide +kernel
theorem jo_120 : sx_ok 120 := sx_ok_of 120 (fun pc hp => by
    show jt_120 pc = none
    unfold jt_120
    rw [Nat.ble_eq_true_of_le (show 182 ≤ pc from hp)]
    rfl) (fun pc hp => ⟨0, 182, Nat.zero_le _, hp, jk_120⟩)
set_option maxRecDepth 100000 in
theorem jf_120 : sx_mf 120 := sx_mfA (c := 11) (p := 1123) rfl rfl sx_cls11 rfl (by decide +kernel) (Nat.le_of_ble_eq_true rfl) (Or.inr (Or.inl ⟨rfl, sx_tb_in 1121 (by decide +kernel) rfl, sx_tb_in 1122 (by decide +kernel) rfl⟩)) jo_120
-- SpoutNews$World.heardInAll
theorem jk_121 : sx_chk 121 0 29 = true := by decide +kernel
theorem jo_121 : sx_ok 121 := sx_ok_of 121 (fun pc hp => by
    show jt_121 pc = none
    unfold jt_121
    rw [Nat.ble_eq_true_of_le (show 29 ≤ pc from hp)]
    rfl) (fun pc hp => ⟨0, 29, Nat.zero_le _, hp, jk_121⟩)
set_option maxRecDepth 100000 in
theorem jf_121 : sx_mf 121 := sx_mfA (c := 10) (p := 1128) rfl rfl sx_cls10 rfl (by decide +kernel) (Nat.le_of_ble_eq_true rfl) (Or.inr (Or.inl ⟨rfl, sx_tb_in 1126 (by decide +kernel) rfl, sx_tb_in 1127 (by decide +kernel) rfl⟩)) jo_121
-- SpoutNews.told
theorem jk_122 : sx_chk 122 0 47 = true := by decide +kernel
theorem jo_122 : sx_ok 122 := sx_ok_of 122 (fun pc hp => by
    show jt_122 pc = none
    unfold jt_122
    rw [Nat.ble_eq_true_of_le (show 47 ≤ pc from hp)]
    rfl) (fun pc hp => ⟨0, 47, Nat.zero_le _, hp, jk_122⟩)
set_option maxRecDepth 100000 in
theorem jf_122 : sx_mf 122 := sx_mfA (c := 11) (p := 1132) rfl rfl sx_cls11 rfl (by decide +kernel) (Nat.le_of_ble_eq_true rfl) (Or.inr (Or.inl ⟨rfl, sx_tb_in 1130 (by decide +kernel) rfl, sx_tb_in 1131 (by decide +kernel) rfl⟩)) jo_122
-- SpoutNews.isWord
theorem jk_123 : sx_chk 123 0 16 = true := by decide +kernel
theorem jo_123 : sx_ok 123 := sx_ok_of 123 (fun pc hp => by
    show jt_123 pc = none
    unfold jt_123
    rw [Nat.ble_eq_true_of_le (show 16 ≤ pc from hp)]
    rfl) (fun pc hp => ⟨0, 16, Nat.zero_le _, hp, jk_123⟩)
set_option maxRecDepth 100000 in
theorem jf_123 : sx_mf 123 := sx_mfA (c := 11) (p := 1135) rfl rfl sx_cls11 rfl (by decide +kernel) (Nat.le_of_ble_eq_true rfl) (Or.inl ⟨rfl, sx_tb_in 1134 (by decide +kernel) rfl⟩) jo_123
-- SpoutNews$Thought.tellers
theorem jk_124 : sx_chk 124 0 69 = true := by decide +kernel
theorem jo_124 : sx_ok 124 := sx_ok_of 124 (fun pc hp => by
    show jt_124 pc = none
    unfold jt_124
    rw [Nat.ble_eq_true_of_le (show 69 ≤ pc from hp)]
    rfl) (fun pc hp => ⟨0, 69, Nat.zero_le _, hp, jk_124⟩)
set_option maxRecDepth 100000 in
theorem jf_124 : sx_mf 124 := sx_mfA (c := 7) (p := 1139) rfl rfl sx_cls7 rfl (by decide +kernel) (Nat.le_of_ble_eq_true rfl) (Or.inr (Or.inl ⟨rfl, sx_tb_in 1137 (by decide +kernel) rfl, sx_tb_in 1138 (by decide +kernel) rfl⟩)) jo_124
-- SpoutNews$Thought.reach
theorem jk_125 : sx_chk 125 0 44 = true := by decide +kernel
theorem jo_125 : sx_ok 125 := sx_ok_of 125 (fun pc hp => by
    show jt_125 pc = none
    unfold jt_125
    rw [Nat.ble_eq_true_of_le (show 44 ≤ pc from hp)]
    rfl) (fun pc hp => ⟨0, 44, Nat.zero_le _, hp, jk_125⟩)
set_option maxRecDepth 100000 in
theorem jf_125 : sx_mf 125 := sx_mfA (c := 7) (p := 1143) rfl rfl sx_cls7 rfl (by decide +kernel) (Nat.le_of_ble_eq_true rfl) (Or.inr (Or.inl ⟨rfl, sx_tb_in 1142 (by decide +kernel) rfl, sx_tb_in 25 (by decide +kernel) rfl⟩)) jo_125
-- SpoutNews.ends
theorem jk_126 : sx_chk 126 0 78 = true := by decide +kernel
theorem jo_126 : sx_ok 126 := sx_ok_of 126 (fun pc hp => by
    show jt_126 pc = none
    unfold jt_126
    rw [Nat.ble_eq_true_of_le (show 78 ≤ pc from hp)]
    rfl) (fun pc hp => ⟨0, 78, Nat.zero_le _, hp, jk_126⟩)
set_option maxRecDepth 100000 in
theorem jf_126 : sx_mf 126 := sx_mfA (c := 11) (p := 1148) rfl rfl sx_cls11 rfl (by decide +kernel) (Nat.le_of_ble_eq_true rfl) (Or.inr (Or.inl ⟨rfl, sx_tb_in 1146 (by decide +kernel) rfl, sx_tb_in 1147 (by decide +kernel) rfl⟩)) jo_126
-- SpoutNews$Thought.endOf
theorem jk_127 : sx_chk 127 0 41 = true := by decide +kernel
theorem jo_127 : sx_ok 127 := sx_ok_of 127 (fun pc hp => by
    show jt_127 pc = none
    unfold jt_127
    rw [Nat.ble_eq_true_of_le (show 41 ≤ pc from hp)]
    rfl) (fun pc hp => ⟨0, 41, Nat.zero_le _, hp, jk_127⟩)
set_option maxRecDepth 100000 in
theorem jf_127 : sx_mf 127 := sx_mfA (c := 7) (p := 1152) rfl rfl sx_cls7 rfl (by decide +kernel) (Nat.le_of_ble_eq_true rfl) (Or.inr (Or.inl ⟨rfl, sx_tb_in 1150 (by decide +kernel) rfl, sx_tb_in 1151 (by decide +kernel) rfl⟩)) jo_127
-- SpoutNews$Thought.lastOnes
theorem jk_128 : sx_chk 128 0 40 = true := by decide +kernel
theorem jo_128 : sx_ok 128 := sx_ok_of 128 (fun pc hp => by
    show jt_128 pc = none
    unfold jt_128
    rw [Nat.ble_eq_true_of_le (show 40 ≤ pc from hp)]
    rfl) (fun pc hp => ⟨0, 40, Nat.zero_le _, hp, jk_128⟩)
set_option maxRecDepth 100000 in
theorem jf_128 : sx_mf 128 := sx_mfA (c := 7) (p := 1156) rfl rfl sx_cls7 rfl (by decide +kernel) (Nat.le_of_ble_eq_true rfl) (Or.inr (Or.inl ⟨rfl, sx_tb_in 1155 (by decide +kernel) rfl, sx_tb_in 26 (by decide +kernel) rfl⟩)) jo_128
-- SpoutNews$Thought.guttersToEnd
theorem jk_129 : sx_chk 129 0 58 = true := by decide +kernel
theorem jo_129 : sx_ok 129 := sx_ok_of 129 (fun pc hp => by
    show jt_129 pc = none
    unfold jt_129
    rw [Nat.ble_eq_true_of_le (show 58 ≤ pc from hp)]
    rfl) (fun pc hp => ⟨0, 58, Nat.zero_le _, hp, jk_129⟩)
set_option maxRecDepth 100000 in
theorem jf_129 : sx_mf 129 := sx_mfA (c := 7) (p := 1160) rfl rfl sx_cls7 rfl (by decide +kernel) (Nat.le_of_ble_eq_true rfl) (Or.inr (Or.inl ⟨rfl, sx_tb_in 1158 (by decide +kernel) rfl, sx_tb_in 1159 (by decide +kernel) rfl⟩)) jo_129
-- SpoutNews.catches
theorem jk_130 : sx_chk 130 0 46 = true := by decide +kernel
theorem jo_130 : sx_ok 130 := sx_ok_of 130 (fun pc hp => by
    show jt_130 pc = none
    unfold jt_130
    rw [Nat.ble_eq_true_of_le (show 46 ≤ pc from hp)]
    rfl) (fun pc hp => ⟨0, 46, Nat.zero_le _, hp, jk_130⟩)
set_option maxRecDepth 100000 in
theorem jf_130 : sx_mf 130 := sx_mfA (c := 11) (p := 1164) rfl rfl sx_cls11 rfl (by decide +kernel) (Nat.le_of_ble_eq_true rfl) (Or.inr (Or.inl ⟨rfl, sx_tb_in 1162 (by decide +kernel) rfl, sx_tb_in 1163 (by decide +kernel) rfl⟩)) jo_130
-- SpoutNews$Thought.allEnds
theorem jk_131 : sx_chk 131 0 34 = true := by decide +kernel
theorem jo_131 : sx_ok 131 := sx_ok_of 131 (fun pc hp => by
    show jt_131 pc = none
    unfold jt_131
    rw [Nat.ble_eq_true_of_le (show 34 ≤ pc from hp)]
    rfl) (fun pc hp => ⟨0, 34, Nat.zero_le _, hp, jk_131⟩)
set_option maxRecDepth 100000 in
theorem jf_131 : sx_mf 131 := sx_mfA (c := 7) (p := 1168) rfl rfl sx_cls7 rfl (by decide +kernel) (Nat.le_of_ble_eq_true rfl) (Or.inr (Or.inl ⟨rfl, sx_tb_in 1166 (by decide +kernel) rfl, sx_tb_in 1167 (by decide +kernel) rfl⟩)) jo_131
-- java/lang/Integer.bitCount
theorem jk_132 : sx_chk 132 0 53 = true := by decide +kernel
theorem jo_132 : sx_ok 132 := sx_ok_of 132 (fun pc hp => by
    show jt_132 pc = none
    unfold jt_132
    rw [Nat.ble_eq_true_of_le (show 53 ≤ pc from hp)]
    rfl) (fun pc hp => ⟨0, 53, Nat.zero_le _, hp, jk_132⟩)
set_option maxRecDepth 100000 in
theorem jf_132 : sx_mf 132 := sx_mfA (c := 14) (p := 1172) rfl rfl sx_cls14 rfl (by decide +kernel) (Nat.le_of_ble_eq_true rfl) (Or.inl ⟨rfl, sx_tb_in 1171 (by decide +kernel) rfl⟩) jo_132
-- SpoutNews.seat
theorem jk_133 : sx_chk 133 0 94 = true := by decide +kernel
theorem jo_133 : sx_ok 133 := sx_ok_of 133 (fun pc hp => by
    show jt_133 pc = none
    unfold jt_133
    rw [Nat.ble_eq_true_of_le (show 94 ≤ pc from hp)]
    rfl) (fun pc hp => ⟨0, 94, Nat.zero_le _, hp, jk_133⟩)
set_option maxRecDepth 100000 in
theorem jf_133 : sx_mf 133 := sx_mfA (c := 11) (p := 1179) rfl rfl sx_cls11 rfl (by decide +kernel) (Nat.le_of_ble_eq_true rfl) (Or.inr (Or.inl ⟨rfl, sx_tb_in 1177 (by decide +kernel) rfl, sx_tb_in 1178 (by decide +kernel) rfl⟩)) jo_133
-- SpoutNews.ways
theorem jk_134 : sx_chk 134 0 76 = true := by decide +kernel
theorem jo_134 : sx_ok 134 := sx_ok_of 134 (fun pc hp => by
    show jt_134 pc = none
    unfold jt_134
    rw [Nat.ble_eq_true_of_le (show 76 ≤ pc from hp)]
    rfl) (fun pc hp => ⟨0, 76, Nat.zero_le _, hp, jk_134⟩)
set_option maxRecDepth 100000 in
theorem jf_134 : sx_mf 134 := sx_mfA (c := 11) (p := 1183) rfl rfl sx_cls11 rfl (by decide +kernel) (Nat.le_of_ble_eq_true rfl) (Or.inr (Or.inl ⟨rfl, sx_tb_in 1181 (by decide +kernel) rfl, sx_tb_in 1182 (by decide +kernel) rfl⟩)) jo_134
-- SpoutNews$Thought.countWays
theorem jk_135 : sx_chk 135 0 66 = true := by decide +kernel
theorem jo_135 : sx_ok 135 := sx_ok_of 135 (fun pc hp => by
    show jt_135 pc = none
    unfold jt_135
    rw [Nat.ble_eq_true_of_le (show 66 ≤ pc from hp)]
    rfl) (fun pc hp => ⟨0, 66, Nat.zero_le _, hp, jk_135⟩)
set_option maxRecDepth 100000 in
theorem jf_135 : sx_mf 135 := sx_mfA (c := 7) (p := 1187) rfl rfl sx_cls7 rfl (by decide +kernel) (Nat.le_of_ble_eq_true rfl) (Or.inr (Or.inl ⟨rfl, sx_tb_in 1185 (by decide +kernel) rfl, sx_tb_in 1186 (by decide +kernel) rfl⟩)) jo_135
-- SpoutNews$Thought.seatFrom
theorem jk_136 : sx_chk 136 0 85 = true := by decide +kernel
theorem jo_136 : sx_ok 136 := sx_ok_of 136 (fun pc hp => by
    show jt_136 pc = none
    unfold jt_136
    rw [Nat.ble_eq_true_of_le (show 85 ≤ pc from hp)]
    rfl) (fun pc hp => ⟨0, 85, Nat.zero_le _, hp, jk_136⟩)
set_option maxRecDepth 100000 in
theorem jf_136 : sx_mf 136 := sx_mfA (c := 7) (p := 1192) rfl rfl sx_cls7 rfl (by decide +kernel) (Nat.le_of_ble_eq_true rfl) (Or.inr (Or.inl ⟨rfl, sx_tb_in 1191 (by decide +kernel) rfl, sx_tb_in 27 (by decide +kernel) rfl⟩)) jo_136
-- SpoutNews$Thought.countWay
theorem jk_137 : sx_chk 137 0 54 = true := by decide +kernel
theorem jo_137 : sx_ok 137 := sx_ok_of 137 (fun pc hp => by
    show jt_137 pc = none
    unfold jt_137
    rw [Nat.ble_eq_true_of_le (show 54 ≤ pc from hp)]
    rfl) (fun pc hp => ⟨0, 54, Nat.zero_le _, hp, jk_137⟩)
set_option maxRecDepth 100000 in
theorem jf_137 : sx_mf 137 := sx_mfA (c := 7) (p := 1196) rfl rfl sx_cls7 rfl (by decide +kernel) (Nat.le_of_ble_eq_true rfl) (Or.inr (Or.inl ⟨rfl, sx_tb_in 1195 (by decide +kernel) rfl, sx_tb_in 28 (by decide +kernel) rfl⟩)) jo_137
-- SpoutNews$Thought.sureCouples
theorem jk_138 : sx_chk 138 0 67 = true := by decide +kernel
theorem jo_138 : sx_ok 138 := sx_ok_of 138 (fun pc hp => by
    show jt_138 pc = none
    unfold jt_138
    rw [Nat.ble_eq_true_of_le (show 67 ≤ pc from hp)]
    rfl) (fun pc hp => ⟨0, 67, Nat.zero_le _, hp, jk_138⟩)
set_option maxRecDepth 100000 in
theorem jf_138 : sx_mf 138 := sx_mfA (c := 7) (p := 1200) rfl rfl sx_cls7 rfl (by decide +kernel) (Nat.le_of_ble_eq_true rfl) (Or.inr (Or.inl ⟨rfl, sx_tb_in 1198 (by decide +kernel) rfl, sx_tb_in 1199 (by decide +kernel) rfl⟩)) jo_138
-- SpoutNews$Thought.whomToAsk
theorem jk_139 : sx_chk 139 0 83 = true := by decide +kernel
theorem jo_139 : sx_ok 139 := sx_ok_of 139 (fun pc hp => by
    show jt_139 pc = none
    unfold jt_139
    rw [Nat.ble_eq_true_of_le (show 83 ≤ pc from hp)]
    rfl) (fun pc hp => ⟨0, 83, Nat.zero_le _, hp, jk_139⟩)
set_option maxRecDepth 100000 in
theorem jf_139 : sx_mf 139 := sx_mfA (c := 7) (p := 1204) rfl rfl sx_cls7 rfl (by decide +kernel) (Nat.le_of_ble_eq_true rfl) (Or.inr (Or.inl ⟨rfl, sx_tb_in 1202 (by decide +kernel) rfl, sx_tb_in 1203 (by decide +kernel) rfl⟩)) jo_139
