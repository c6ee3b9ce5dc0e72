-- by program (wip/gen/mk12.py): the tables of methods hold
-- SpoutNewsModel.isWord
theorem jk_210 : sx_chk 210 0 22 = true := by decide +kernel
theorem jo_210 : sx_ok 210 := sx_ok_of 210 (fun pc hp => by
    show jt_210 pc = none
    unfold jt_210
    rw [Nat.ble_eq_true_of_le (show 22 ≤ pc from hp)]
    rfl) (fun pc hp => ⟨0, 22, Nat.zero_le _, hp, jk_210⟩)
set_option maxRecDepth 100000 in
theorem jf_210 : sx_mf 210 := sx_mfA (c := 12) (p := 1698) rfl rfl sx_cls12 rfl (by decide +kernel) (Nat.le_of_ble_eq_true rfl) (Or.inr (Or.inl ⟨rfl, sx_tb_in 1697 (by decide +kernel) rfl, sx_tb_in 48 (by decide +kernel) rfl⟩)) jo_210
-- SpoutNewsModel.errs
theorem jk_211 : sx_chk 211 0 15 = true := by decide +kernel
theorem jo_211 : sx_ok 211 := sx_ok_of 211 (fun pc hp => by
    show jt_211 pc = none
    unfold jt_211
    rw [Nat.ble_eq_true_of_le (show 15 ≤ pc from hp)]
    rfl) (fun pc hp => ⟨0, 15, Nat.zero_le _, hp, jk_211⟩)
set_option maxRecDepth 100000 in
theorem jf_211 : sx_mf 211 := sx_mfA (c := 12) (p := 1702) rfl rfl sx_cls12 rfl (by decide +kernel) (Nat.le_of_ble_eq_true rfl) (Or.inr (Or.inl ⟨rfl, sx_tb_in 1701 (by decide +kernel) rfl, sx_tb_in 49 (by decide +kernel) rfl⟩)) jo_211
-- SpoutNewsModel.readGutter
theorem jk_212 : sx_chk 212 0 100 = true := by decide +kernel
theorem jo_212 : sx_ok 212 := sx_ok_of 212 (fun pc hp => by
    show jt_212 pc = none
    unfold jt_212
    rw [Nat.ble_eq_true_of_le (show 100 ≤ pc from hp)]
    rfl) (fun pc hp => ⟨0, 100, Nat.zero_le _, hp, jk_212⟩)
set_option maxRecDepth 100000 in
theorem jf_212 : sx_mf 212 := sx_mfA (c := 12) (p := 1706) rfl rfl sx_cls12 rfl (by decide +kernel) (Nat.le_of_ble_eq_true rfl) (Or.inr (Or.inl ⟨rfl, sx_tb_in 1705 (by decide +kernel) rfl, sx_tb_in 50 (by decide +kernel) rfl⟩)) jo_212
-- SpoutNewsModel.readTold
theorem jk_213 : sx_chk 213 0 25 = true := by decide +kernel
theorem jo_213 : sx_ok 213 := sx_ok_of 213 (fun pc hp => by
    show jt_213 pc = none
    unfold jt_213
    rw [Nat.ble_eq_true_of_le (show 25 ≤ pc from hp)]
    rfl) (fun pc hp => ⟨0, 25, Nat.zero_le _, hp, jk_213⟩)
set_option maxRecDepth 100000 in
theorem jf_213 : sx_mf 213 := sx_mfA (c := 12) (p := 1710) rfl rfl sx_cls12 rfl (by decide +kernel) (Nat.le_of_ble_eq_true rfl) (Or.inr (Or.inl ⟨rfl, sx_tb_in 1709 (by decide +kernel) rfl, sx_tb_in 51 (by decide +kernel) rfl⟩)) jo_213
-- SpoutNewsModel.readNumber
theorem jk_214 : sx_chk 214 0 44 = true := by decide +kernel
theorem jo_214 : sx_ok 214 := sx_ok_of 214 (fun pc hp => by
    show jt_214 pc = none
    unfold jt_214
    rw [Nat.ble_eq_true_of_le (show 44 ≤ pc from hp)]
    rfl) (fun pc hp => ⟨0, 44, Nat.zero_le _, hp, jk_214⟩)
set_option maxRecDepth 100000 in
theorem jf_214 : sx_mf 214 := sx_mfA (c := 12) (p := 1714) rfl rfl sx_cls12 rfl (by decide +kernel) (Nat.le_of_ble_eq_true rfl) (Or.inr (Or.inl ⟨rfl, sx_tb_in 1713 (by decide +kernel) rfl, sx_tb_in 52 (by decide +kernel) rfl⟩)) jo_214
-- SpoutNewsModel.readMark
theorem jk_215 : sx_chk 215 0 20 = true := by decide +kernel
theorem jo_215 : sx_ok 215 := sx_ok_of 215 (fun pc hp => by
    show jt_215 pc = none
    unfold jt_215
    rw [Nat.ble_eq_true_of_le (show 20 ≤ pc from hp)]
    rfl) (fun pc hp => ⟨0, 20, Nat.zero_le _, hp, jk_215⟩)
set_option maxRecDepth 100000 in
theorem jf_215 : sx_mf 215 := sx_mfA (c := 12) (p := 1718) rfl rfl sx_cls12 rfl (by decide +kernel) (Nat.le_of_ble_eq_true rfl) (Or.inr (Or.inl ⟨rfl, sx_tb_in 1717 (by decide +kernel) rfl, sx_tb_in 53 (by decide +kernel) rfl⟩)) jo_215
-- SpoutNewsModel.isSign
theorem jk_216 : sx_chk 216 0 22 = true := by decide +kernel
theorem jo_216 : sx_ok 216 := sx_ok_of 216 (fun pc hp => by
    show jt_216 pc = none
    unfold jt_216
    rw [Nat.ble_eq_true_of_le (show 22 ≤ pc from hp)]
    rfl) (fun pc hp => ⟨0, 22, Nat.zero_le _, hp, jk_216⟩)
set_option maxRecDepth 100000 in
theorem jf_216 : sx_mf 216 := sx_mfA (c := 12) (p := 1722) rfl rfl sx_cls12 rfl (by decide +kernel) (Nat.le_of_ble_eq_true rfl) (Or.inr (Or.inl ⟨rfl, sx_tb_in 1721 (by decide +kernel) rfl, sx_tb_in 54 (by decide +kernel) rfl⟩)) jo_216
-- SpoutNewsModel.readWeather
theorem jk_217 : sx_chk 217 0 123 = true := by decide +kernel
theorem jo_217 : sx_ok 217 := sx_ok_of 217 (fun pc hp => by
    show jt_217 pc = none
    unfold jt_217
    rw [Nat.ble_eq_true_of_le (show 123 ≤ pc from hp)]
    rfl) (fun pc hp => ⟨0, 123, Nat.zero_le _, hp, jk_217⟩)
set_option maxRecDepth 100000 in
theorem jf_217 : sx_mf 217 := sx_mfA (c := 12) (p := 1726) rfl rfl sx_cls12 rfl (by decide +kernel) (Nat.le_of_ble_eq_true rfl) (Or.inr (Or.inl ⟨rfl, sx_tb_in 1725 (by decide +kernel) rfl, sx_tb_in 55 (by decide +kernel) rfl⟩)) jo_217
-- SpoutNewsModel.readPlan
theorem jk_218 : sx_chk 218 0 63 = true := by decide +kernel
theorem jo_218 : sx_ok 218 := sx_ok_of 218 (fun pc hp => by
    show jt_218 pc = none
    unfold jt_218
    rw [Nat.ble_eq_true_of_le (show 63 ≤ pc from hp)]
    rfl) (fun pc hp => ⟨0, 63, Nat.zero_le _, hp, jk_218⟩)
set_option maxRecDepth 100000 in
theorem jf_218 : sx_mf 218 := sx_mfA (c := 12) (p := 1730) rfl rfl sx_cls12 rfl (by decide +kernel) (Nat.le_of_ble_eq_true rfl) (Or.inr (Or.inl ⟨rfl, sx_tb_in 1729 (by decide +kernel) rfl, sx_tb_in 56 (by decide +kernel) rfl⟩)) jo_218
-- SpoutNewsModel.readDeed
theorem jk_219 : sx_chk 219 0 162 = true := by decide +kernel
theorem jo_219 : sx_ok 219 := sx_ok_of 219 (fun pc hp => by
    show jt_219 pc = none
    unfold jt_219
    rw [Nat.ble_eq_true_of_le (show 162 ≤ pc from hp)]
    rfl) (fun pc hp => ⟨0, 162, Nat.zero_le _, hp, jk_219⟩)
set_option maxRecDepth 100000 in
theorem jf_219 : sx_mf 219 := sx_mfA (c := 12) (p := 1734) rfl rfl sx_cls12 rfl (by decide +kernel) (Nat.le_of_ble_eq_true rfl) (Or.inr (Or.inl ⟨rfl, sx_tb_in 1733 (by decide +kernel) rfl, sx_tb_in 57 (by decide +kernel) rfl⟩)) jo_219
-- SpoutNewsModel.kindOfDeed
theorem jk_220 : sx_chk 220 0 48 = true := by decide +kernel
theorem jo_220 : sx_ok 220 := sx_ok_of 220 (fun pc hp => by
    show jt_220 pc = none
    unfold jt_220
    rw [Nat.ble_eq_true_of_le (show 48 ≤ pc from hp)]
    rfl) (fun pc hp => ⟨0, 48, Nat.zero_le _, hp, jk_220⟩)
set_option maxRecDepth 100000 in
theorem jf_220 : sx_mf 220 := sx_mfA (c := 12) (p := 1738) rfl rfl sx_cls12 rfl (by decide +kernel) (Nat.le_of_ble_eq_true rfl) (Or.inr (Or.inl ⟨rfl, sx_tb_in 1737 (by decide +kernel) rfl, sx_tb_in 58 (by decide +kernel) rfl⟩)) jo_220
-- SpoutNewsModel.mostFor
theorem jk_221 : sx_chk 221 0 33 = true := by decide +kernel
theorem jo_221 : sx_ok 221 := sx_ok_of 221 (fun pc hp => by
    show jt_221 pc = none
    unfold jt_221
    rw [Nat.ble_eq_true_of_le (show 33 ≤ pc from hp)]
    rfl) (fun pc hp => ⟨0, 33, Nat.zero_le _, hp, jk_221⟩)
set_option maxRecDepth 100000 in
theorem jf_221 : sx_mf 221 := sx_mfA (c := 12) (p := 1742) rfl rfl sx_cls12 rfl (by decide +kernel) (Nat.le_of_ble_eq_true rfl) (Or.inr (Or.inl ⟨rfl, sx_tb_in 1741 (by decide +kernel) rfl, sx_tb_in 59 (by decide +kernel) rfl⟩)) jo_221
-- SpoutNewsModel.readLaw
theorem jk_222 : sx_chk 222 0 145 = true := by decide +kernel
theorem jo_222 : sx_ok 222 := sx_ok_of 222 (fun pc hp => by
    show jt_222 pc = none
    unfold jt_222
    rw [Nat.ble_eq_true_of_le (show 145 ≤ pc from hp)]
    rfl) (fun pc hp => ⟨0, 145, Nat.zero_le _, hp, jk_222⟩)
set_option maxRecDepth 100000 in
theorem jf_222 : sx_mf 222 := sx_mfA (c := 12) (p := 1746) rfl rfl sx_cls12 rfl (by decide +kernel) (Nat.le_of_ble_eq_true rfl) (Or.inr (Or.inl ⟨rfl, sx_tb_in 1745 (by decide +kernel) rfl, sx_tb_in 60 (by decide +kernel) rfl⟩)) jo_222
-- SpoutNewsModel.isLineWord
theorem jk_223 : sx_chk 223 0 27 = true := by decide +kernel
theorem jo_223 : sx_ok 223 := sx_ok_of 223 (fun pc hp => by
    show jt_223 pc = none
    unfold jt_223
    rw [Nat.ble_eq_true_of_le (show 27 ≤ pc from hp)]
    rfl) (fun pc hp => ⟨0, 27, Nat.zero_le _, hp, jk_223⟩)
set_option maxRecDepth 100000 in
theorem jf_223 : sx_mf 223 := sx_mfA (c := 12) (p := 1750) rfl rfl sx_cls12 rfl (by decide +kernel) (Nat.le_of_ble_eq_true rfl) (Or.inr (Or.inl ⟨rfl, sx_tb_in 1749 (by decide +kernel) rfl, sx_tb_in 61 (by decide +kernel) rfl⟩)) jo_223
-- SpoutNewsModel.readSum
theorem jk_224 : sx_chk 224 0 68 = true := by decide +kernel
theorem jo_224 : sx_ok 224 := sx_ok_of 224 (fun pc hp => by
    show jt_224 pc = none
    unfold jt_224
    rw [Nat.ble_eq_true_of_le (show 68 ≤ pc from hp)]
    rfl) (fun pc hp => ⟨0, 68, Nat.zero_le _, hp, jk_224⟩)
set_option maxRecDepth 100000 in
theorem jf_224 : sx_mf 224 := sx_mfA (c := 12) (p := 1754) rfl rfl sx_cls12 rfl (by decide +kernel) (Nat.le_of_ble_eq_true rfl) (Or.inr (Or.inl ⟨rfl, sx_tb_in 1753 (by decide +kernel) rfl, sx_tb_in 62 (by decide +kernel) rfl⟩)) jo_224
-- SpoutNewsModel.readProduct
theorem jk_225 : sx_chk 225 0 103 = true := by decide +kernel
theorem jo_225 : sx_ok 225 := sx_ok_of 225 (fun pc hp => by
    show jt_225 pc = none
    unfold jt_225
    rw [Nat.ble_eq_true_of_le (show 103 ≤ pc from hp)]
    rfl) (fun pc hp => ⟨0, 103, Nat.zero_le _, hp, jk_225⟩)
set_option maxRecDepth 100000 in
theorem jf_225 : sx_mf 225 := sx_mfA (c := 12) (p := 1758) rfl rfl sx_cls12 rfl (by decide +kernel) (Nat.le_of_ble_eq_true rfl) (Or.inr (Or.inl ⟨rfl, sx_tb_in 1757 (by decide +kernel) rfl, sx_tb_in 63 (by decide +kernel) rfl⟩)) jo_225
-- SpoutNewsModel.readUnit
theorem jk_226 : sx_chk 226 0 80 = true := by decide +kernel
theorem jo_226 : sx_ok 226 := sx_ok_of 226 (fun pc hp => by
    show jt_226 pc = none
    unfold jt_226
    rw [Nat.ble_eq_true_of_le (show 80 ≤ pc from hp)]
    rfl) (fun pc hp => ⟨0, 80, Nat.zero_le _, hp, jk_226⟩)
set_option maxRecDepth 100000 in
theorem jf_226 : sx_mf 226 := sx_mfA (c := 12) (p := 1762) rfl rfl sx_cls12 rfl (by decide +kernel) (Nat.le_of_ble_eq_true rfl) (Or.inr (Or.inl ⟨rfl, sx_tb_in 1761 (by decide +kernel) rfl, sx_tb_in 64 (by decide +kernel) rfl⟩)) jo_226
-- SpoutNewsModel.canAsk
theorem jk_227 : sx_chk 227 0 10 = true := by decide +kernel
theorem jo_227 : sx_ok 227 := sx_ok_of 227 (fun pc hp => by
    show jt_227 pc = none
    unfold jt_227
    rw [Nat.ble_eq_true_of_le (show 10 ≤ pc from hp)]
    rfl) (fun pc hp => ⟨0, 10, Nat.zero_le _, hp, jk_227⟩)
set_option maxRecDepth 100000 in
theorem jf_227 : sx_mf 227 := sx_mfA (c := 12) (p := 1766) rfl rfl sx_cls12 rfl (by decide +kernel) (Nat.le_of_ble_eq_true rfl) (Or.inr (Or.inl ⟨rfl, sx_tb_in 1765 (by decide +kernel) rfl, sx_tb_in 65 (by decide +kernel) rfl⟩)) jo_227
-- SpoutNewsModel.emits
theorem jk_228 : sx_chk 228 0 39 = true := by decide +kernel
theorem jo_228 : sx_ok 228 := sx_ok_of 228 (fun pc hp => by
    show jt_228 pc = none
    unfold jt_228
    rw [Nat.ble_eq_true_of_le (show 39 ≤ pc from hp)]
    rfl) (fun pc hp => ⟨0, 39, Nat.zero_le _, hp, jk_228⟩)
set_option maxRecDepth 100000 in
theorem jf_228 : sx_mf 228 := sx_mfA (c := 12) (p := 1770) rfl rfl sx_cls12 rfl (by decide +kernel) (Nat.le_of_ble_eq_true rfl) (Or.inr (Or.inl ⟨rfl, sx_tb_in 1769 (by decide +kernel) rfl, sx_tb_in 66 (by decide +kernel) rfl⟩)) jo_228
-- SpoutNewsModel.readAny
theorem jk_229 : sx_chk 229 0 240 = true ∧ sx_chk 229 240 243 = true := ⟨by decide +kernel, by decide +kernel⟩
theorem jo_229 : sx_ok 229 := sx_ok_of 229 (fun pc hp => by
    show jt_229 pc = none
    unfold jt_229
    rw [Nat.ble_eq_true_of_le (show 243 ≤ pc from hp)]
    rfl) (fun pc hp => (by
    rcases Nat.lt_or_ge pc 240 with g | g
    · exact ⟨0, 240, by omega, g, jk_229.1⟩
    exact ⟨240, 243, g, hp, jk_229.2⟩))
set_option maxRecDepth 100000 in
theorem jf_229 : sx_mf 229 := sx_mfA (c := 12) (p := 1774) rfl rfl sx_cls12 rfl (by decide +kernel) (Nat.le_of_ble_eq_true rfl) (Or.inr (Or.inl ⟨rfl, sx_tb_in 1773 (by decide +kernel) rfl, sx_tb_in 67 (by decide +kernel) rfl⟩)) jo_229
-- SpoutNewsModel.waits
theorem jk_230 : sx_chk 230 0 21 = true := by decide +kernel
theorem jo_230 : sx_ok 230 := sx_ok_of 230 (fun pc hp => by
    show jt_230 pc = none
    unfold jt_230
    rw [Nat.ble_eq_true_of_le (show 21 ≤ pc from hp)]
    rfl) (fun pc hp => ⟨0, 21, Nat.zero_le _, hp, jk_230⟩)
set_option maxRecDepth 100000 in
theorem jf_230 : sx_mf 230 := sx_mfA (c := 12) (p := 1778) rfl rfl sx_cls12 rfl (by decide +kernel) (Nat.le_of_ble_eq_true rfl) (Or.inr (Or.inl ⟨rfl, sx_tb_in 1777 (by decide +kernel) rfl, sx_tb_in 68 (by decide +kernel) rfl⟩)) jo_230
-- SpoutNewsModel.readCompared
theorem jk_231 : sx_chk 231 0 96 = true := by decide +kernel
theorem jo_231 : sx_ok 231 := sx_ok_of 231 (fun pc hp => by
    show jt_231 pc = none
    unfold jt_231
    rw [Nat.ble_eq_true_of_le (show 96 ≤ pc from hp)]
    rfl) (fun pc hp => ⟨0, 96, Nat.zero_le _, hp, jk_231⟩)
set_option maxRecDepth 100000 in
theorem jf_231 : sx_mf 231 := sx_mfA (c := 12) (p := 1782) rfl rfl sx_cls12 rfl (by decide +kernel) (Nat.le_of_ble_eq_true rfl) (Or.inr (Or.inl ⟨rfl, sx_tb_in 1781 (by decide +kernel) rfl, sx_tb_in 69 (by decide +kernel) rfl⟩)) jo_231
-- SpoutNewsModel.settles
theorem jk_232 : sx_chk 232 0 58 = true := by decide +kernel
theorem jo_232 : sx_ok 232 := sx_ok_of 232 (fun pc hp => by
    show jt_232 pc = none
    unfold jt_232
    rw [Nat.ble_eq_true_of_le (show 58 ≤ pc from hp)]
    rfl) (fun pc hp => ⟨0, 58, Nat.zero_le _, hp, jk_232⟩)
set_option maxRecDepth 100000 in
theorem jf_232 : sx_mf 232 := sx_mfA (c := 12) (p := 1786) rfl rfl sx_cls12 rfl (by decide +kernel) (Nat.le_of_ble_eq_true rfl) (Or.inr (Or.inl ⟨rfl, sx_tb_in 1785 (by decide +kernel) rfl, sx_tb_in 70 (by decide +kernel) rfl⟩)) jo_232
-- SpoutNewsModel.takesLaw
theorem jk_233 : sx_chk 233 0 182 = true := by decide +kernel
theorem jo_233 : sx_ok 233 := sx_ok_of 233 (fun pc hp => by
    show jt_233 pc = none
    unfold jt_233
    rw [Nat.ble_eq_true_of_le (show 182 ≤ pc from hp)]
    rfl) (fun pc hp => ⟨0, 182, Nat.zero_le _, hp, jk_233⟩)
set_option maxRecDepth 100000 in
theorem jf_233 : sx_mf 233 := sx_mfA (c := 12) (p := 1790) rfl rfl sx_cls12 rfl (by decide +kernel) (Nat.le_of_ble_eq_true rfl) (Or.inr (Or.inl ⟨rfl, sx_tb_in 1789 (by decide +kernel) rfl, sx_tb_in 71 (by decide +kernel) rfl⟩)) jo_233
-- SpoutNewsModel.takesOther
theorem jk_234 : sx_chk 234 0 124 = true := by decide +kernel
theorem jo_234 : sx_ok 234 := sx_ok_of 234 (fun pc hp => by
    show jt_234 pc = none
    unfold jt_234
    rw [Nat.ble_eq_true_of_le (show 124 ≤ pc from hp)]
    rfl) (fun pc hp => ⟨0, 124, Nat.zero_le _, hp, jk_234⟩)
set_option maxRecDepth 100000 in
theorem jf_234 : sx_mf 234 := sx_mfA (c := 12) (p := 1794) rfl rfl sx_cls12 rfl (by decide +kernel) (Nat.le_of_ble_eq_true rfl) (Or.inr (Or.inl ⟨rfl, sx_tb_in 1793 (by decide +kernel) rfl, sx_tb_in 72 (by decide +kernel) rfl⟩)) jo_234
-- SpoutNewsModel.fault
theorem jk_235 : sx_chk 235 0 30 = true := by decide +kernel
theorem jo_235 : sx_ok 235 := sx_ok_of 235 (fun pc hp => by
    show jt_235 pc = none
    unfold jt_235
    rw [Nat.ble_eq_true_of_le (show 30 ≤ pc from hp)]
    rfl) (fun pc hp => ⟨0, 30, Nat.zero_le _, hp, jk_235⟩)
set_option maxRecDepth 100000 in
theorem jf_235 : sx_mf 235 := sx_mfA (c := 12) (p := 1798) rfl rfl sx_cls12 rfl (by decide +kernel) (Nat.le_of_ble_eq_true rfl) (Or.inr (Or.inl ⟨rfl, sx_tb_in 1796 (by decide +kernel) rfl, sx_tb_in 1797 (by decide +kernel) rfl⟩)) jo_235
-- SpoutNewsModel.act
theorem jk_236 : sx_chk 236 0 30 = true := by decide +kernel
theorem jo_236 : sx_ok 236 := sx_ok_of 236 (fun pc hp => by
    show jt_236 pc = none
    unfold jt_236
    rw [Nat.ble_eq_true_of_le (show 30 ≤ pc from hp)]
    rfl) (fun pc hp => ⟨0, 30, Nat.zero_le _, hp, jk_236⟩)
set_option maxRecDepth 100000 in
theorem jf_236 : sx_mf 236 := sx_mfA (c := 12) (p := 1802) rfl rfl sx_cls12 rfl (by decide +kernel) (Nat.le_of_ble_eq_true rfl) (Or.inr (Or.inl ⟨rfl, sx_tb_in 1800 (by decide +kernel) rfl, sx_tb_in 1801 (by decide +kernel) rfl⟩)) jo_236
-- SpoutNewsModel.canAct
theorem jk_237 : sx_chk 237 0 137 = true := by decide +kernel
theorem jo_237 : sx_ok 237 := sx_ok_of 237 (fun pc hp => by
    show jt_237 pc = none
    unfold jt_237
    rw [Nat.ble_eq_true_of_le (show 137 ≤ pc from hp)]
    rfl) (fun pc hp => ⟨0, 137, Nat.zero_le _, hp, jk_237⟩)
set_option maxRecDepth 100000 in
theorem jf_237 : sx_mf 237 := sx_mfA (c := 12) (p := 1806) rfl rfl sx_cls12 rfl (by decide +kernel) (Nat.le_of_ble_eq_true rfl) (Or.inr (Or.inl ⟨rfl, sx_tb_in 1805 (by decide +kernel) rfl, sx_tb_in 73 (by decide +kernel) rfl⟩)) jo_237
-- SpoutNewsModel.keepsAhead
theorem jk_238 : sx_chk 238 0 102 = true := by decide +kernel
theorem jo_238 : sx_ok 238 := sx_ok_of 238 (fun pc hp => by
    show jt_238 pc = none
    unfold jt_238
    rw [Nat.ble_eq_true_of_le (show 102 ≤ pc from hp)]
    rfl) (fun pc hp => ⟨0, 102, Nat.zero_le _, hp, jk_238⟩)
set_option maxRecDepth 100000 in
theorem jf_238 : sx_mf 238 := sx_mfA (c := 12) (p := 1810) rfl rfl sx_cls12 rfl (by decide +kernel) (Nat.le_of_ble_eq_true rfl) (Or.inr (Or.inl ⟨rfl, sx_tb_in 1809 (by decide +kernel) rfl, sx_tb_in 74 (by decide +kernel) rfl⟩)) jo_238
-- SpoutNewsModel.acts
theorem jk_239 : sx_chk 239 0 132 = true := by decide +kernel
theorem jo_239 : sx_ok 239 := sx_ok_of 239 (fun pc hp => by
    show jt_239 pc = none
    unfold jt_239
    rw [Nat.ble_eq_true_of_le (show 132 ≤ pc from hp)]
    rfl) (fun pc hp => ⟨0, 132, Nat.zero_le _, hp, jk_239⟩)
set_option maxRecDepth 100000 in
theorem jf_239 : sx_mf 239 := sx_mfA (c := 12) (p := 1814) rfl rfl sx_cls12 rfl (by decide +kernel) (Nat.le_of_ble_eq_true rfl) (Or.inr (Or.inl ⟨rfl, sx_tb_in 1813 (by decide +kernel) rfl, sx_tb_in 75 (by decide +kernel) rfl⟩)) jo_239
-- SpoutNewsModel.days
theorem jk_240 : sx_chk 240 0 60 = true := by decide +kernel
theorem jo_240 : sx_ok 240 := sx_ok_of 240 (fun pc hp => by
    show jt_240 pc = none
    unfold jt_240
    rw [Nat.ble_eq_true_of_le (show 60 ≤ pc from hp)]
    rfl) (fun pc hp => ⟨0, 60, Nat.zero_le _, hp, jk_240⟩)
set_option maxRecDepth 100000 in
theorem jf_240 : sx_mf 240 := sx_mfA (c := 12) (p := 1818) rfl rfl sx_cls12 rfl (by decide +kernel) (Nat.le_of_ble_eq_true rfl) (Or.inr (Or.inl ⟨rfl, sx_tb_in 1816 (by decide +kernel) rfl, sx_tb_in 1817 (by decide +kernel) rfl⟩)) jo_240
-- SpoutNewsModel.goesBy
theorem jk_241 : sx_chk 241 0 153 = true := by decide +kernel
theorem jo_241 : sx_ok 241 := sx_ok_of 241 (fun pc hp => by
    show jt_241 pc = none
    unfold jt_241
    rw [Nat.ble_eq_true_of_le (show 153 ≤ pc from hp)]
    rfl) (fun pc hp => ⟨0, 153, Nat.zero_le _, hp, jk_241⟩)
set_option maxRecDepth 100000 in
theorem jf_241 : sx_mf 241 := sx_mfA (c := 12) (p := 1822) rfl rfl sx_cls12 rfl (by decide +kernel) (Nat.le_of_ble_eq_true rfl) (Or.inr (Or.inl ⟨rfl, sx_tb_in 1821 (by decide +kernel) rfl, sx_tb_in 76 (by decide +kernel) rfl⟩)) jo_241
-- SpoutNewsModel.weatherOf
theorem jk_242 : sx_chk 242 0 41 = true := by decide +kernel
theorem jo_242 : sx_ok 242 := sx_ok_of 242 (fun pc hp => by
    show jt_242 pc = none
    unfold jt_242
    rw [Nat.ble_eq_true_of_le (show 41 ≤ pc from hp)]
    rfl) (fun pc hp => ⟨0, 41, Nat.zero_le _, hp, jk_242⟩)
set_option maxRecDepth 100000 in
theorem jf_242 : sx_mf 242 := sx_mfA (c := 12) (p := 1826) rfl rfl sx_cls12 rfl (by decide +kernel) (Nat.le_of_ble_eq_true rfl) (Or.inr (Or.inl ⟨rfl, sx_tb_in 1825 (by decide +kernel) rfl, sx_tb_in 77 (by decide +kernel) rfl⟩)) jo_242
