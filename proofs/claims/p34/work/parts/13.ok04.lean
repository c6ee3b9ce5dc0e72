-- by program (wip/gen/mk12.py): the tables of methods hold
-- SpoutNews.look
theorem jk_187 : sx_chk 187 0 157 = true := by decide +kernel
theorem jo_187 : sx_ok 187 := sx_ok_of 187 (fun pc hp => by
    show jt_187 pc = none
    unfold jt_187
    rw [Nat.ble_eq_true_of_le (show 157 ≤ pc from hp)]
    rfl) (fun pc hp => ⟨0, 157, Nat.zero_le _, hp, jk_187⟩)
set_option maxRecDepth 100000 in
theorem jf_187 : sx_mf 187 := sx_mfA (c := 11) (p := 1407) rfl rfl sx_cls11 rfl (by decide +kernel) (Nat.le_of_ble_eq_true rfl) (Or.inr (Or.inl ⟨rfl, sx_tb_in 1405 (by decide +kernel) rfl, sx_tb_in 1406 (by decide +kernel) rfl⟩)) jo_187
-- SpoutNewsModel.<init>
theorem jk_188 : sx_chk 188 0 240 = true ∧ sx_chk 188 240 480 = true ∧ sx_chk 188 480 720 = true ∧ sx_chk 188 720 960 = true ∧ sx_chk 188 960 1076 = true := ⟨by decide +kernel, by decide +kernel, by decide +kernel, by decide +kernel, by decide +kernel⟩
theorem jo_188 : sx_ok 188 := sx_ok_of 188 (fun pc hp => by
    show jt_188 pc = none
    unfold jt_188
    rw [Nat.ble_eq_true_of_le (show 1076 ≤ pc from hp)]
    rfl) (fun pc hp => (by
    rcases Nat.lt_or_ge pc 240 with g | g
    · exact ⟨0, 240, by omega, g, jk_188.1⟩
    rcases Nat.lt_or_ge pc 480 with g | g
    · exact ⟨240, 480, by omega, g, jk_188.2.1⟩
    rcases Nat.lt_or_ge pc 720 with g | g
    · exact ⟨480, 720, by omega, g, jk_188.2.2.1⟩
    rcases Nat.lt_or_ge pc 960 with g | g
    · exact ⟨720, 960, by omega, g, jk_188.2.2.2.1⟩
    exact ⟨960, 1076, g, hp, jk_188.2.2.2.2⟩))
set_option maxRecDepth 100000 in
theorem jf_188 : sx_mf 188 := sx_mfA (c := 12) (p := 1412) rfl rfl sx_cls12 rfl (by decide +kernel) (Nat.le_of_ble_eq_true rfl) (Or.inr (Or.inr ⟨rfl, sx_tb_in 1411 (by decide +kernel) rfl, rfl, rfl⟩)) jo_188
-- SpoutNewsModel.undo
theorem jk_189 : sx_chk 189 0 62 = true := by decide +kernel
theorem jo_189 : sx_ok 189 := sx_ok_of 189 (fun pc hp => by
    show jt_189 pc = none
    unfold jt_189
    rw [Nat.ble_eq_true_of_le (show 62 ≤ pc from hp)]
    rfl) (fun pc hp => ⟨0, 62, Nat.zero_le _, hp, jk_189⟩)
set_option maxRecDepth 100000 in
theorem jf_189 : sx_mf 189 := sx_mfA (c := 12) (p := 1613) rfl rfl sx_cls12 rfl (by decide +kernel) (Nat.le_of_ble_eq_true rfl) (Or.inr (Or.inl ⟨rfl, sx_tb_in 1611 (by decide +kernel) rfl, sx_tb_in 1612 (by decide +kernel) rfl⟩)) jo_189
-- SpoutNewsModel.state
theorem jk_190 : sx_chk 190 0 26 = true := by decide +kernel
theorem jo_190 : sx_ok 190 := sx_ok_of 190 (fun pc hp => by
    show jt_190 pc = none
    unfold jt_190
    rw [Nat.ble_eq_true_of_le (show 26 ≤ pc from hp)]
    rfl) (fun pc hp => ⟨0, 26, Nat.zero_le _, hp, jk_190⟩)
set_option maxRecDepth 100000 in
theorem jf_190 : sx_mf 190 := sx_mfA (c := 12) (p := 1617) rfl rfl sx_cls12 rfl (by decide +kernel) (Nat.le_of_ble_eq_true rfl) (Or.inr (Or.inl ⟨rfl, sx_tb_in 1615 (by decide +kernel) rfl, sx_tb_in 1616 (by decide +kernel) rfl⟩)) jo_190
-- SpoutNewsModel.spout
theorem jk_191 : sx_chk 191 0 138 = true := by decide +kernel
theorem jo_191 : sx_ok 191 := sx_ok_of 191 (fun pc hp => by
    show jt_191 pc = none
    unfold jt_191
    rw [Nat.ble_eq_true_of_le (show 138 ≤ pc from hp)]
    rfl) (fun pc hp => ⟨0, 138, Nat.zero_le _, hp, jk_191⟩)
set_option maxRecDepth 100000 in
theorem jf_191 : sx_mf 191 := sx_mfA (c := 12) (p := 1621) rfl rfl sx_cls12 rfl (by decide +kernel) (Nat.le_of_ble_eq_true rfl) (Or.inr (Or.inl ⟨rfl, sx_tb_in 1619 (by decide +kernel) rfl, sx_tb_in 1620 (by decide +kernel) rfl⟩)) jo_191
-- SpoutNewsModel.isIn
theorem jk_192 : sx_chk 192 0 16 = true := by decide +kernel
theorem jo_192 : sx_ok 192 := sx_ok_of 192 (fun pc hp => by
    show jt_192 pc = none
    unfold jt_192
    rw [Nat.ble_eq_true_of_le (show 16 ≤ pc from hp)]
    rfl) (fun pc hp => ⟨0, 16, Nat.zero_le _, hp, jk_192⟩)
set_option maxRecDepth 100000 in
theorem jf_192 : sx_mf 192 := sx_mfA (c := 12) (p := 1625) rfl rfl sx_cls12 rfl (by decide +kernel) (Nat.le_of_ble_eq_true rfl) (Or.inr (Or.inl ⟨rfl, sx_tb_in 1624 (by decide +kernel) rfl, sx_tb_in 35 (by decide +kernel) rfl⟩)) jo_192
-- SpoutNewsModel.sitter
theorem jk_193 : sx_chk 193 0 77 = true := by decide +kernel
theorem jo_193 : sx_ok 193 := sx_ok_of 193 (fun pc hp => by
    show jt_193 pc = none
    unfold jt_193
    rw [Nat.ble_eq_true_of_le (show 77 ≤ pc from hp)]
    rfl) (fun pc hp => ⟨0, 77, Nat.zero_le _, hp, jk_193⟩)
set_option maxRecDepth 100000 in
theorem jf_193 : sx_mf 193 := sx_mfA (c := 12) (p := 1629) rfl rfl sx_cls12 rfl (by decide +kernel) (Nat.le_of_ble_eq_true rfl) (Or.inr (Or.inl ⟨rfl, sx_tb_in 1627 (by decide +kernel) rfl, sx_tb_in 1628 (by decide +kernel) rfl⟩)) jo_193
-- SpoutNewsModel.set
theorem jk_194 : sx_chk 194 0 78 = true := by decide +kernel
theorem jo_194 : sx_ok 194 := sx_ok_of 194 (fun pc hp => by
    show jt_194 pc = none
    unfold jt_194
    rw [Nat.ble_eq_true_of_le (show 78 ≤ pc from hp)]
    rfl) (fun pc hp => ⟨0, 78, Nat.zero_le _, hp, jk_194⟩)
set_option maxRecDepth 100000 in
theorem jf_194 : sx_mf 194 := sx_mfA (c := 12) (p := 1634) rfl rfl sx_cls12 rfl (by decide +kernel) (Nat.le_of_ble_eq_true rfl) (Or.inr (Or.inl ⟨rfl, sx_tb_in 1632 (by decide +kernel) rfl, sx_tb_in 1633 (by decide +kernel) rfl⟩)) jo_194
-- SpoutNewsModel.canSet
theorem jk_195 : sx_chk 195 0 89 = true := by decide +kernel
theorem jo_195 : sx_ok 195 := sx_ok_of 195 (fun pc hp => by
    show jt_195 pc = none
    unfold jt_195
    rw [Nat.ble_eq_true_of_le (show 89 ≤ pc from hp)]
    rfl) (fun pc hp => ⟨0, 89, Nat.zero_le _, hp, jk_195⟩)
set_option maxRecDepth 100000 in
theorem jf_195 : sx_mf 195 := sx_mfA (c := 12) (p := 1638) rfl rfl sx_cls12 rfl (by decide +kernel) (Nat.le_of_ble_eq_true rfl) (Or.inr (Or.inl ⟨rfl, sx_tb_in 1637 (by decide +kernel) rfl, sx_tb_in 36 (by decide +kernel) rfl⟩)) jo_195
-- SpoutNewsModel.isSitter
theorem jk_196 : sx_chk 196 0 18 = true := by decide +kernel
theorem jo_196 : sx_ok 196 := sx_ok_of 196 (fun pc hp => by
    show jt_196 pc = none
    unfold jt_196
    rw [Nat.ble_eq_true_of_le (show 18 ≤ pc from hp)]
    rfl) (fun pc hp => ⟨0, 18, Nat.zero_le _, hp, jk_196⟩)
set_option maxRecDepth 100000 in
theorem jf_196 : sx_mf 196 := sx_mfA (c := 12) (p := 1642) rfl rfl sx_cls12 rfl (by decide +kernel) (Nat.le_of_ble_eq_true rfl) (Or.inr (Or.inl ⟨rfl, sx_tb_in 1641 (by decide +kernel) rfl, sx_tb_in 37 (by decide +kernel) rfl⟩)) jo_196
-- SpoutNewsModel.isSpout
theorem jk_197 : sx_chk 197 0 18 = true := by decide +kernel
theorem jo_197 : sx_ok 197 := sx_ok_of 197 (fun pc hp => by
    show jt_197 pc = none
    unfold jt_197
    rw [Nat.ble_eq_true_of_le (show 18 ≤ pc from hp)]
    rfl) (fun pc hp => ⟨0, 18, Nat.zero_le _, hp, jk_197⟩)
set_option maxRecDepth 100000 in
theorem jf_197 : sx_mf 197 := sx_mfA (c := 12) (p := 1646) rfl rfl sx_cls12 rfl (by decide +kernel) (Nat.le_of_ble_eq_true rfl) (Or.inr (Or.inl ⟨rfl, sx_tb_in 1645 (by decide +kernel) rfl, sx_tb_in 38 (by decide +kernel) rfl⟩)) jo_197
-- SpoutNewsModel.feed
theorem jk_198 : sx_chk 198 0 49 = true := by decide +kernel
theorem jo_198 : sx_ok 198 := sx_ok_of 198 (fun pc hp => by
    show jt_198 pc = none
    unfold jt_198
    rw [Nat.ble_eq_true_of_le (show 49 ≤ pc from hp)]
    rfl) (fun pc hp => ⟨0, 49, Nat.zero_le _, hp, jk_198⟩)
set_option maxRecDepth 100000 in
theorem jf_198 : sx_mf 198 := sx_mfA (c := 12) (p := 1650) rfl rfl sx_cls12 rfl (by decide +kernel) (Nat.le_of_ble_eq_true rfl) (Or.inr (Or.inl ⟨rfl, sx_tb_in 1648 (by decide +kernel) rfl, sx_tb_in 1649 (by decide +kernel) rfl⟩)) jo_198
-- SpoutNewsModel.types
theorem jk_199 : sx_chk 199 0 40 = true := by decide +kernel
theorem jo_199 : sx_ok 199 := sx_ok_of 199 (fun pc hp => by
    show jt_199 pc = none
    unfold jt_199
    rw [Nat.ble_eq_true_of_le (show 40 ≤ pc from hp)]
    rfl) (fun pc hp => ⟨0, 40, Nat.zero_le _, hp, jk_199⟩)
set_option maxRecDepth 100000 in
theorem jf_199 : sx_mf 199 := sx_mfA (c := 12) (p := 1654) rfl rfl sx_cls12 rfl (by decide +kernel) (Nat.le_of_ble_eq_true rfl) (Or.inr (Or.inl ⟨rfl, sx_tb_in 1653 (by decide +kernel) rfl, sx_tb_in 39 (by decide +kernel) rfl⟩)) jo_199
-- SpoutNewsModel.end
theorem jk_200 : sx_chk 200 0 27 = true := by decide +kernel
theorem jo_200 : sx_ok 200 := sx_ok_of 200 (fun pc hp => by
    show jt_200 pc = none
    unfold jt_200
    rw [Nat.ble_eq_true_of_le (show 27 ≤ pc from hp)]
    rfl) (fun pc hp => ⟨0, 27, Nat.zero_le _, hp, jk_200⟩)
set_option maxRecDepth 100000 in
theorem jf_200 : sx_mf 200 := sx_mfA (c := 12) (p := 1658) rfl rfl sx_cls12 rfl (by decide +kernel) (Nat.le_of_ble_eq_true rfl) (Or.inr (Or.inl ⟨rfl, sx_tb_in 1656 (by decide +kernel) rfl, sx_tb_in 1657 (by decide +kernel) rfl⟩)) jo_200
-- SpoutNewsModel.text
theorem jk_201 : sx_chk 201 0 101 = true := by decide +kernel
theorem jo_201 : sx_ok 201 := sx_ok_of 201 (fun pc hp => by
    show jt_201 pc = none
    unfold jt_201
    rw [Nat.ble_eq_true_of_le (show 101 ≤ pc from hp)]
    rfl) (fun pc hp => ⟨0, 101, Nat.zero_le _, hp, jk_201⟩)
set_option maxRecDepth 100000 in
theorem jf_201 : sx_mf 201 := sx_mfA (c := 12) (p := 1662) rfl rfl sx_cls12 rfl (by decide +kernel) (Nat.le_of_ble_eq_true rfl) (Or.inr (Or.inl ⟨rfl, sx_tb_in 1660 (by decide +kernel) rfl, sx_tb_in 1661 (by decide +kernel) rfl⟩)) jo_201
-- SpoutNewsModel.readsText
theorem jk_202 : sx_chk 202 0 46 = true := by decide +kernel
theorem jo_202 : sx_ok 202 := sx_ok_of 202 (fun pc hp => by
    show jt_202 pc = none
    unfold jt_202
    rw [Nat.ble_eq_true_of_le (show 46 ≤ pc from hp)]
    rfl) (fun pc hp => ⟨0, 46, Nat.zero_le _, hp, jk_202⟩)
set_option maxRecDepth 100000 in
theorem jf_202 : sx_mf 202 := sx_mfA (c := 12) (p := 1666) rfl rfl sx_cls12 rfl (by decide +kernel) (Nat.le_of_ble_eq_true rfl) (Or.inr (Or.inl ⟨rfl, sx_tb_in 1665 (by decide +kernel) rfl, sx_tb_in 40 (by decide +kernel) rfl⟩)) jo_202
-- SpoutNewsModel.reads
theorem jk_203 : sx_chk 203 0 240 = true ∧ sx_chk 203 240 274 = true := ⟨by decide +kernel, by decide +kernel⟩
theorem jo_203 : sx_ok 203 := sx_ok_of 203 (fun pc hp => by
    show jt_203 pc = none
    unfold jt_203
    rw [Nat.ble_eq_true_of_le (show 274 ≤ pc from hp)]
    rfl) (fun pc hp => (by
    rcases Nat.lt_or_ge pc 240 with g | g
    · exact ⟨0, 240, by omega, g, jk_203.1⟩
    exact ⟨240, 274, g, hp, jk_203.2⟩))
set_option maxRecDepth 100000 in
theorem jf_203 : sx_mf 203 := sx_mfA (c := 12) (p := 1670) rfl rfl sx_cls12 rfl (by decide +kernel) (Nat.le_of_ble_eq_true rfl) (Or.inr (Or.inl ⟨rfl, sx_tb_in 1669 (by decide +kernel) rfl, sx_tb_in 41 (by decide +kernel) rfl⟩)) jo_203
-- SpoutNewsModel.raw
theorem jk_204 : sx_chk 204 0 19 = true := by decide +kernel
theorem jo_204 : sx_ok 204 := sx_ok_of 204 (fun pc hp => by
    show jt_204 pc = none
    unfold jt_204
    rw [Nat.ble_eq_true_of_le (show 19 ≤ pc from hp)]
    rfl) (fun pc hp => ⟨0, 19, Nat.zero_le _, hp, jk_204⟩)
set_option maxRecDepth 100000 in
theorem jf_204 : sx_mf 204 := sx_mfA (c := 12) (p := 1674) rfl rfl sx_cls12 rfl (by decide +kernel) (Nat.le_of_ble_eq_true rfl) (Or.inr (Or.inl ⟨rfl, sx_tb_in 1673 (by decide +kernel) rfl, sx_tb_in 42 (by decide +kernel) rfl⟩)) jo_204
-- SpoutNewsModel.isLetter
theorem jk_205 : sx_chk 205 0 30 = true := by decide +kernel
theorem jo_205 : sx_ok 205 := sx_ok_of 205 (fun pc hp => by
    show jt_205 pc = none
    unfold jt_205
    rw [Nat.ble_eq_true_of_le (show 30 ≤ pc from hp)]
    rfl) (fun pc hp => ⟨0, 30, Nat.zero_le _, hp, jk_205⟩)
set_option maxRecDepth 100000 in
theorem jf_205 : sx_mf 205 := sx_mfA (c := 12) (p := 1678) rfl rfl sx_cls12 rfl (by decide +kernel) (Nat.le_of_ble_eq_true rfl) (Or.inr (Or.inl ⟨rfl, sx_tb_in 1677 (by decide +kernel) rfl, sx_tb_in 43 (by decide +kernel) rfl⟩)) jo_205
-- SpoutNewsModel.wordAt
theorem jk_206 : sx_chk 206 0 120 = true := by decide +kernel
theorem jo_206 : sx_ok 206 := sx_ok_of 206 (fun pc hp => by
    show jt_206 pc = none
    unfold jt_206
    rw [Nat.ble_eq_true_of_le (show 120 ≤ pc from hp)]
    rfl) (fun pc hp => ⟨0, 120, Nat.zero_le _, hp, jk_206⟩)
set_option maxRecDepth 100000 in
theorem jf_206 : sx_mf 206 := sx_mfA (c := 12) (p := 1682) rfl rfl sx_cls12 rfl (by decide +kernel) (Nat.le_of_ble_eq_true rfl) (Or.inr (Or.inl ⟨rfl, sx_tb_in 1681 (by decide +kernel) rfl, sx_tb_in 44 (by decide +kernel) rfl⟩)) jo_206
-- SpoutNewsModel.isDigit
theorem jk_207 : sx_chk 207 0 10 = true := by decide +kernel
theorem jo_207 : sx_ok 207 := sx_ok_of 207 (fun pc hp => by
    show jt_207 pc = none
    unfold jt_207
    rw [Nat.ble_eq_true_of_le (show 10 ≤ pc from hp)]
    rfl) (fun pc hp => ⟨0, 10, Nat.zero_le _, hp, jk_207⟩)
set_option maxRecDepth 100000 in
theorem jf_207 : sx_mf 207 := sx_mfA (c := 12) (p := 1686) rfl rfl sx_cls12 rfl (by decide +kernel) (Nat.le_of_ble_eq_true rfl) (Or.inr (Or.inl ⟨rfl, sx_tb_in 1685 (by decide +kernel) rfl, sx_tb_in 45 (by decide +kernel) rfl⟩)) jo_207
-- SpoutNewsModel.isMarkSign
theorem jk_208 : sx_chk 208 0 66 = true := by decide +kernel
theorem jo_208 : sx_ok 208 := sx_ok_of 208 (fun pc hp => by
    show jt_208 pc = none
    unfold jt_208
    rw [Nat.ble_eq_true_of_le (show 66 ≤ pc from hp)]
    rfl) (fun pc hp => ⟨0, 66, Nat.zero_le _, hp, jk_208⟩)
set_option maxRecDepth 100000 in
theorem jf_208 : sx_mf 208 := sx_mfA (c := 12) (p := 1690) rfl rfl sx_cls12 rfl (by decide +kernel) (Nat.le_of_ble_eq_true rfl) (Or.inr (Or.inl ⟨rfl, sx_tb_in 1689 (by decide +kernel) rfl, sx_tb_in 46 (by decide +kernel) rfl⟩)) jo_208
-- SpoutNewsModel.readGutters
theorem jk_209 : sx_chk 209 0 81 = true := by decide +kernel
theorem jo_209 : sx_ok 209 := sx_ok_of 209 (fun pc hp => by
    show jt_209 pc = none
    unfold jt_209
    rw [Nat.ble_eq_true_of_le (show 81 ≤ pc from hp)]
    rfl) (fun pc hp => ⟨0, 81, Nat.zero_le _, hp, jk_209⟩)
set_option maxRecDepth 100000 in
theorem jf_209 : sx_mf 209 := sx_mfA (c := 12) (p := 1694) rfl rfl sx_cls12 rfl (by decide +kernel) (Nat.le_of_ble_eq_true rfl) (Or.inr (Or.inl ⟨rfl, sx_tb_in 1693 (by decide +kernel) rfl, sx_tb_in 47 (by decide +kernel) rfl⟩)) jo_209
