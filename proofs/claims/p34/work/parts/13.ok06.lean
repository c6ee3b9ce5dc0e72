-- by program (wip/gen/mk12.py): the tables of methods hold
-- SpoutNewsModel.rains
theorem jk_243 : sx_chk 243 0 184 = true := by decide +kernel
theorem jo_243 : sx_ok 243 := sx_ok_of 243 (fun pc hp => by
    show jt_243 pc = none
    unfold jt_243
    rw [Nat.ble_eq_true_of_le (show 184 ≤ pc from hp)]
    rfl) (fun pc hp => ⟨0, 184, Nat.zero_le _, hp, jk_243⟩)
set_option maxRecDepth 100000 in
theorem jf_243 : sx_mf 243 := sx_mfA (c := 12) (p := 1830) rfl rfl sx_cls12 rfl (by decide +kernel) (Nat.le_of_ble_eq_true rfl) (Or.inr (Or.inl ⟨rfl, sx_tb_in 1829 (by decide +kernel) rfl, sx_tb_in 78 (by decide +kernel) rfl⟩)) jo_243
-- SpoutNewsModel.canSay
theorem jk_244 : sx_chk 244 0 41 = true := by decide +kernel
theorem jo_244 : sx_ok 244 := sx_ok_of 244 (fun pc hp => by
    show jt_244 pc = none
    unfold jt_244
    rw [Nat.ble_eq_true_of_le (show 41 ≤ pc from hp)]
    rfl) (fun pc hp => ⟨0, 41, Nat.zero_le _, hp, jk_244⟩)
set_option maxRecDepth 100000 in
theorem jf_244 : sx_mf 244 := sx_mfA (c := 12) (p := 1834) rfl rfl sx_cls12 rfl (by decide +kernel) (Nat.le_of_ble_eq_true rfl) (Or.inr (Or.inl ⟨rfl, sx_tb_in 1833 (by decide +kernel) rfl, sx_tb_in 79 (by decide +kernel) rfl⟩)) jo_244
-- SpoutNewsModel.jetOf
theorem jk_245 : sx_chk 245 0 20 = true := by decide +kernel
theorem jo_245 : sx_ok 245 := sx_ok_of 245 (fun pc hp => by
    show jt_245 pc = none
    unfold jt_245
    rw [Nat.ble_eq_true_of_le (show 20 ≤ pc from hp)]
    rfl) (fun pc hp => ⟨0, 20, Nat.zero_le _, hp, jk_245⟩)
set_option maxRecDepth 100000 in
theorem jf_245 : sx_mf 245 := sx_mfA (c := 12) (p := 1838) rfl rfl sx_cls12 rfl (by decide +kernel) (Nat.le_of_ble_eq_true rfl) (Or.inr (Or.inl ⟨rfl, sx_tb_in 1837 (by decide +kernel) rfl, sx_tb_in 80 (by decide +kernel) rfl⟩)) jo_245
-- SpoutNewsModel.asks
theorem jk_246 : sx_chk 246 0 116 = true := by decide +kernel
theorem jo_246 : sx_ok 246 := sx_ok_of 246 (fun pc hp => by
    show jt_246 pc = none
    unfold jt_246
    rw [Nat.ble_eq_true_of_le (show 116 ≤ pc from hp)]
    rfl) (fun pc hp => ⟨0, 116, Nat.zero_le _, hp, jk_246⟩)
set_option maxRecDepth 100000 in
theorem jf_246 : sx_mf 246 := sx_mfA (c := 12) (p := 1842) rfl rfl sx_cls12 rfl (by decide +kernel) (Nat.le_of_ble_eq_true rfl) (Or.inr (Or.inl ⟨rfl, sx_tb_in 1841 (by decide +kernel) rfl, sx_tb_in 81 (by decide +kernel) rfl⟩)) jo_246
-- SpoutNewsModel.lawTells
theorem jk_247 : sx_chk 247 0 43 = true := by decide +kernel
theorem jo_247 : sx_ok 247 := sx_ok_of 247 (fun pc hp => by
    show jt_247 pc = none
    unfold jt_247
    rw [Nat.ble_eq_true_of_le (show 43 ≤ pc from hp)]
    rfl) (fun pc hp => ⟨0, 43, Nat.zero_le _, hp, jk_247⟩)
set_option maxRecDepth 100000 in
theorem jf_247 : sx_mf 247 := sx_mfA (c := 12) (p := 1846) rfl rfl sx_cls12 rfl (by decide +kernel) (Nat.le_of_ble_eq_true rfl) (Or.inr (Or.inl ⟨rfl, sx_tb_in 1845 (by decide +kernel) rfl, sx_tb_in 82 (by decide +kernel) rfl⟩)) jo_247
-- SpoutNewsModel.lineOf
theorem jk_248 : sx_chk 248 0 67 = true := by decide +kernel
theorem jo_248 : sx_ok 248 := sx_ok_of 248 (fun pc hp => by
    show jt_248 pc = none
    unfold jt_248
    rw [Nat.ble_eq_true_of_le (show 67 ≤ pc from hp)]
    rfl) (fun pc hp => ⟨0, 67, Nat.zero_le _, hp, jk_248⟩)
set_option maxRecDepth 100000 in
theorem jf_248 : sx_mf 248 := sx_mfA (c := 12) (p := 1850) rfl rfl sx_cls12 rfl (by decide +kernel) (Nat.le_of_ble_eq_true rfl) (Or.inr (Or.inl ⟨rfl, sx_tb_in 1849 (by decide +kernel) rfl, sx_tb_in 83 (by decide +kernel) rfl⟩)) jo_248
-- SpoutNewsModel.runs
theorem jk_249 : sx_chk 249 0 183 = true := by decide +kernel
theorem jo_249 : sx_ok 249 := sx_ok_of 249 (fun pc hp => by
    show jt_249 pc = none
    unfold jt_249
    rw [Nat.ble_eq_true_of_le (show 183 ≤ pc from hp)]
    rfl) (fun pc hp => ⟨0, 183, Nat.zero_le _, hp, jk_249⟩)
set_option maxRecDepth 100000 in
theorem jf_249 : sx_mf 249 := sx_mfA (c := 12) (p := 1854) rfl rfl sx_cls12 rfl (by decide +kernel) (Nat.le_of_ble_eq_true rfl) (Or.inr (Or.inl ⟨rfl, sx_tb_in 1853 (by decide +kernel) rfl, sx_tb_in 84 (by decide +kernel) rfl⟩)) jo_249
-- SpoutNewsModel.twoOf
theorem jk_250 : sx_chk 250 0 111 = true := by decide +kernel
theorem jo_250 : sx_ok 250 := sx_ok_of 250 (fun pc hp => by
    show jt_250 pc = none
    unfold jt_250
    rw [Nat.ble_eq_true_of_le (show 111 ≤ pc from hp)]
    rfl) (fun pc hp => ⟨0, 111, Nat.zero_le _, hp, jk_250⟩)
set_option maxRecDepth 100000 in
theorem jf_250 : sx_mf 250 := sx_mfA (c := 12) (p := 1858) rfl rfl sx_cls12 rfl (by decide +kernel) (Nat.le_of_ble_eq_true rfl) (Or.inr (Or.inl ⟨rfl, sx_tb_in 1857 (by decide +kernel) rfl, sx_tb_in 85 (by decide +kernel) rfl⟩)) jo_250
-- SpoutNewsModel.held
theorem jk_251 : sx_chk 251 0 20 = true := by decide +kernel
theorem jo_251 : sx_ok 251 := sx_ok_of 251 (fun pc hp => by
    show jt_251 pc = none
    unfold jt_251
    rw [Nat.ble_eq_true_of_le (show 20 ≤ pc from hp)]
    rfl) (fun pc hp => ⟨0, 20, Nat.zero_le _, hp, jk_251⟩)
set_option maxRecDepth 100000 in
theorem jf_251 : sx_mf 251 := sx_mfA (c := 12) (p := 1862) rfl rfl sx_cls12 rfl (by decide +kernel) (Nat.le_of_ble_eq_true rfl) (Or.inr (Or.inl ⟨rfl, sx_tb_in 1861 (by decide +kernel) rfl, sx_tb_in 86 (by decide +kernel) rfl⟩)) jo_251
-- SpoutNewsModel.lesser
theorem jk_252 : sx_chk 252 0 11 = true := by decide +kernel
theorem jo_252 : sx_ok 252 := sx_ok_of 252 (fun pc hp => by
    show jt_252 pc = none
    unfold jt_252
    rw [Nat.ble_eq_true_of_le (show 11 ≤ pc from hp)]
    rfl) (fun pc hp => ⟨0, 11, Nat.zero_le _, hp, jk_252⟩)
set_option maxRecDepth 100000 in
theorem jf_252 : sx_mf 252 := sx_mfA (c := 12) (p := 1866) rfl rfl sx_cls12 rfl (by decide +kernel) (Nat.le_of_ble_eq_true rfl) (Or.inr (Or.inl ⟨rfl, sx_tb_in 1865 (by decide +kernel) rfl, sx_tb_in 87 (by decide +kernel) rfl⟩)) jo_252
-- SpoutNewsModel.saysFirst
theorem jk_253 : sx_chk 253 0 205 = true := by decide +kernel
theorem jo_253 : sx_ok 253 := sx_ok_of 253 (fun pc hp => by
    show jt_253 pc = none
    unfold jt_253
    rw [Nat.ble_eq_true_of_le (show 205 ≤ pc from hp)]
    rfl) (fun pc hp => ⟨0, 205, Nat.zero_le _, hp, jk_253⟩)
set_option maxRecDepth 100000 in
theorem jf_253 : sx_mf 253 := sx_mfA (c := 12) (p := 1870) rfl rfl sx_cls12 rfl (by decide +kernel) (Nat.le_of_ble_eq_true rfl) (Or.inr (Or.inl ⟨rfl, sx_tb_in 1869 (by decide +kernel) rfl, sx_tb_in 88 (by decide +kernel) rfl⟩)) jo_253
-- SpoutNewsModel.heardAt
theorem jk_254 : sx_chk 254 0 15 = true := by decide +kernel
theorem jo_254 : sx_ok 254 := sx_ok_of 254 (fun pc hp => by
    show jt_254 pc = none
    unfold jt_254
    rw [Nat.ble_eq_true_of_le (show 15 ≤ pc from hp)]
    rfl) (fun pc hp => ⟨0, 15, Nat.zero_le _, hp, jk_254⟩)
set_option maxRecDepth 100000 in
theorem jf_254 : sx_mf 254 := sx_mfA (c := 12) (p := 1874) rfl rfl sx_cls12 rfl (by decide +kernel) (Nat.le_of_ble_eq_true rfl) (Or.inr (Or.inl ⟨rfl, sx_tb_in 1873 (by decide +kernel) rfl, sx_tb_in 89 (by decide +kernel) rfl⟩)) jo_254
-- SpoutNewsModel.saysAs
theorem jk_255 : sx_chk 255 0 77 = true := by decide +kernel
theorem jo_255 : sx_ok 255 := sx_ok_of 255 (fun pc hp => by
    show jt_255 pc = none
    unfold jt_255
    rw [Nat.ble_eq_true_of_le (show 77 ≤ pc from hp)]
    rfl) (fun pc hp => ⟨0, 77, Nat.zero_le _, hp, jk_255⟩)
set_option maxRecDepth 100000 in
theorem jf_255 : sx_mf 255 := sx_mfA (c := 12) (p := 1878) rfl rfl sx_cls12 rfl (by decide +kernel) (Nat.le_of_ble_eq_true rfl) (Or.inr (Or.inl ⟨rfl, sx_tb_in 1877 (by decide +kernel) rfl, sx_tb_in 90 (by decide +kernel) rfl⟩)) jo_255
-- SpoutNewsModel.slipOf
theorem jk_256 : sx_chk 256 0 24 = true := by decide +kernel
theorem jo_256 : sx_ok 256 := sx_ok_of 256 (fun pc hp => by
    show jt_256 pc = none
    unfold jt_256
    rw [Nat.ble_eq_true_of_le (show 24 ≤ pc from hp)]
    rfl) (fun pc hp => ⟨0, 24, Nat.zero_le _, hp, jk_256⟩)
set_option maxRecDepth 100000 in
theorem jf_256 : sx_mf 256 := sx_mfA (c := 12) (p := 1882) rfl rfl sx_cls12 rfl (by decide +kernel) (Nat.le_of_ble_eq_true rfl) (Or.inr (Or.inl ⟨rfl, sx_tb_in 1881 (by decide +kernel) rfl, sx_tb_in 91 (by decide +kernel) rfl⟩)) jo_256
-- SpoutNewsModel.draw
theorem jk_257 : sx_chk 257 0 30 = true := by decide +kernel
theorem jo_257 : sx_ok 257 := sx_ok_of 257 (fun pc hp => by
    show jt_257 pc = none
    unfold jt_257
    rw [Nat.ble_eq_true_of_le (show 30 ≤ pc from hp)]
    rfl) (fun pc hp => ⟨0, 30, Nat.zero_le _, hp, jk_257⟩)
set_option maxRecDepth 100000 in
theorem jf_257 : sx_mf 257 := sx_mfA (c := 12) (p := 1886) rfl rfl sx_cls12 rfl (by decide +kernel) (Nat.le_of_ble_eq_true rfl) (Or.inr (Or.inl ⟨rfl, sx_tb_in 1885 (by decide +kernel) rfl, sx_tb_in 92 (by decide +kernel) rfl⟩)) jo_257
-- SpoutNewsModel.notes
theorem jk_258 : sx_chk 258 0 88 = true := by decide +kernel
theorem jo_258 : sx_ok 258 := sx_ok_of 258 (fun pc hp => by
    show jt_258 pc = none
    unfold jt_258
    rw [Nat.ble_eq_true_of_le (show 88 ≤ pc from hp)]
    rfl) (fun pc hp => ⟨0, 88, Nat.zero_le _, hp, jk_258⟩)
set_option maxRecDepth 100000 in
theorem jf_258 : sx_mf 258 := sx_mfA (c := 12) (p := 1892) rfl rfl sx_cls12 rfl (by decide +kernel) (Nat.le_of_ble_eq_true rfl) (Or.inr (Or.inl ⟨rfl, sx_tb_in 1891 (by decide +kernel) rfl, sx_tb_in 93 (by decide +kernel) rfl⟩)) jo_258
-- SpoutNewsModel.into
theorem jk_259 : sx_chk 259 0 9 = true := by decide +kernel
theorem jo_259 : sx_ok 259 := sx_ok_of 259 (fun pc hp => by
    show jt_259 pc = none
    unfold jt_259
    rw [Nat.ble_eq_true_of_le (show 9 ≤ pc from hp)]
    rfl) (fun pc hp => ⟨0, 9, Nat.zero_le _, hp, jk_259⟩)
set_option maxRecDepth 100000 in
theorem jf_259 : sx_mf 259 := sx_mfA (c := 12) (p := 1896) rfl rfl sx_cls12 rfl (by decide +kernel) (Nat.le_of_ble_eq_true rfl) (Or.inr (Or.inl ⟨rfl, sx_tb_in 1895 (by decide +kernel) rfl, sx_tb_in 94 (by decide +kernel) rfl⟩)) jo_259
-- SpoutNewsModel.comesTo
theorem jk_260 : sx_chk 260 0 74 = true := by decide +kernel
theorem jo_260 : sx_ok 260 := sx_ok_of 260 (fun pc hp => by
    show jt_260 pc = none
    unfold jt_260
    rw [Nat.ble_eq_true_of_le (show 74 ≤ pc from hp)]
    rfl) (fun pc hp => ⟨0, 74, Nat.zero_le _, hp, jk_260⟩)
set_option maxRecDepth 100000 in
theorem jf_260 : sx_mf 260 := sx_mfA (c := 12) (p := 1900) rfl rfl sx_cls12 rfl (by decide +kernel) (Nat.le_of_ble_eq_true rfl) (Or.inr (Or.inl ⟨rfl, sx_tb_in 1899 (by decide +kernel) rfl, sx_tb_in 95 (by decide +kernel) rfl⟩)) jo_260
-- SpoutNewsModel.heardSet
theorem jk_261 : sx_chk 261 0 36 = true := by decide +kernel
theorem jo_261 : sx_ok 261 := sx_ok_of 261 (fun pc hp => by
    show jt_261 pc = none
    unfold jt_261
    rw [Nat.ble_eq_true_of_le (show 36 ≤ pc from hp)]
    rfl) (fun pc hp => ⟨0, 36, Nat.zero_le _, hp, jk_261⟩)
set_option maxRecDepth 100000 in
theorem jf_261 : sx_mf 261 := sx_mfA (c := 12) (p := 1904) rfl rfl sx_cls12 rfl (by decide +kernel) (Nat.le_of_ble_eq_true rfl) (Or.inr (Or.inl ⟨rfl, sx_tb_in 1903 (by decide +kernel) rfl, sx_tb_in 96 (by decide +kernel) rfl⟩)) jo_261
-- SpoutNewsModel.has
theorem jk_262 : sx_chk 262 0 15 = true := by decide +kernel
theorem jo_262 : sx_ok 262 := sx_ok_of 262 (fun pc hp => by
    show jt_262 pc = none
    unfold jt_262
    rw [Nat.ble_eq_true_of_le (show 15 ≤ pc from hp)]
    rfl) (fun pc hp => ⟨0, 15, Nat.zero_le _, hp, jk_262⟩)
set_option maxRecDepth 100000 in
theorem jf_262 : sx_mf 262 := sx_mfA (c := 12) (p := 1908) rfl rfl sx_cls12 rfl (by decide +kernel) (Nat.le_of_ble_eq_true rfl) (Or.inr (Or.inl ⟨rfl, sx_tb_in 1907 (by decide +kernel) rfl, sx_tb_in 97 (by decide +kernel) rfl⟩)) jo_262
-- SpoutNewsModel.isDry
theorem jk_263 : sx_chk 263 0 79 = true := by decide +kernel
theorem jo_263 : sx_ok 263 := sx_ok_of 263 (fun pc hp => by
    show jt_263 pc = none
    unfold jt_263
    rw [Nat.ble_eq_true_of_le (show 79 ≤ pc from hp)]
    rfl) (fun pc hp => ⟨0, 79, Nat.zero_le _, hp, jk_263⟩)
set_option maxRecDepth 100000 in
theorem jf_263 : sx_mf 263 := sx_mfA (c := 12) (p := 1912) rfl rfl sx_cls12 rfl (by decide +kernel) (Nat.le_of_ble_eq_true rfl) (Or.inr (Or.inl ⟨rfl, sx_tb_in 1911 (by decide +kernel) rfl, sx_tb_in 98 (by decide +kernel) rfl⟩)) jo_263
-- SpoutNewsModel.hears
theorem jk_264 : sx_chk 264 0 78 = true := by decide +kernel
theorem jo_264 : sx_ok 264 := sx_ok_of 264 (fun pc hp => by
    show jt_264 pc = none
    unfold jt_264
    rw [Nat.ble_eq_true_of_le (show 78 ≤ pc from hp)]
    rfl) (fun pc hp => ⟨0, 78, Nat.zero_le _, hp, jk_264⟩)
set_option maxRecDepth 100000 in
theorem jf_264 : sx_mf 264 := sx_mfA (c := 12) (p := 1916) rfl rfl sx_cls12 rfl (by decide +kernel) (Nat.le_of_ble_eq_true rfl) (Or.inr (Or.inl ⟨rfl, sx_tb_in 1915 (by decide +kernel) rfl, sx_tb_in 99 (by decide +kernel) rfl⟩)) jo_264
-- SpoutNewsModel.hearsOf
theorem jk_265 : sx_chk 265 0 15 = true := by decide +kernel
theorem jo_265 : sx_ok 265 := sx_ok_of 265 (fun pc hp => by
    show jt_265 pc = none
    unfold jt_265
    rw [Nat.ble_eq_true_of_le (show 15 ≤ pc from hp)]
    rfl) (fun pc hp => ⟨0, 15, Nat.zero_le _, hp, jk_265⟩)
set_option maxRecDepth 100000 in
theorem jf_265 : sx_mf 265 := sx_mfA (c := 12) (p := 1920) rfl rfl sx_cls12 rfl (by decide +kernel) (Nat.le_of_ble_eq_true rfl) (Or.inr (Or.inl ⟨rfl, sx_tb_in 1919 (by decide +kernel) rfl, sx_tb_in 100 (by decide +kernel) rfl⟩)) jo_265
-- SpoutNewsModel.of
theorem jk_266 : sx_chk 266 0 193 = true := by decide +kernel
theorem jo_266 : sx_ok 266 := sx_ok_of 266 (fun pc hp => by
    show jt_266 pc = none
    unfold jt_266
    rw [Nat.ble_eq_true_of_le (show 193 ≤ pc from hp)]
    rfl) (fun pc hp => ⟨0, 193, Nat.zero_le _, hp, jk_266⟩)
set_option maxRecDepth 100000 in
theorem jf_266 : sx_mf 266 := sx_mfA (c := 12) (p := 1924) rfl rfl sx_cls12 rfl (by decide +kernel) (Nat.le_of_ble_eq_true rfl) (Or.inr (Or.inl ⟨rfl, sx_tb_in 1922 (by decide +kernel) rfl, sx_tb_in 1923 (by decide +kernel) rfl⟩)) jo_266
-- SpoutNewsModel.who
theorem jk_267 : sx_chk 267 0 56 = true := by decide +kernel
theorem jo_267 : sx_ok 267 := sx_ok_of 267 (fun pc hp => by
    show jt_267 pc = none
    unfold jt_267
    rw [Nat.ble_eq_true_of_le (show 56 ≤ pc from hp)]
    rfl) (fun pc hp => ⟨0, 56, Nat.zero_le _, hp, jk_267⟩)
set_option maxRecDepth 100000 in
theorem jf_267 : sx_mf 267 := sx_mfA (c := 12) (p := 1928) rfl rfl sx_cls12 rfl (by decide +kernel) (Nat.le_of_ble_eq_true rfl) (Or.inr (Or.inl ⟨rfl, sx_tb_in 1926 (by decide +kernel) rfl, sx_tb_in 1927 (by decide +kernel) rfl⟩)) jo_267
-- SpoutNewsModel.jar
theorem jk_268 : sx_chk 268 0 58 = true := by decide +kernel
theorem jo_268 : sx_ok 268 := sx_ok_of 268 (fun pc hp => by
    show jt_268 pc = none
    unfold jt_268
    rw [Nat.ble_eq_true_of_le (show 58 ≤ pc from hp)]
    rfl) (fun pc hp => ⟨0, 58, Nat.zero_le _, hp, jk_268⟩)
set_option maxRecDepth 100000 in
theorem jf_268 : sx_mf 268 := sx_mfA (c := 12) (p := 1932) rfl rfl sx_cls12 rfl (by decide +kernel) (Nat.le_of_ble_eq_true rfl) (Or.inr (Or.inl ⟨rfl, sx_tb_in 1930 (by decide +kernel) rfl, sx_tb_in 1931 (by decide +kernel) rfl⟩)) jo_268
-- SpoutNewsModel.weather
theorem jk_269 : sx_chk 269 0 11 = true := by decide +kernel
theorem jo_269 : sx_ok 269 := sx_ok_of 269 (fun pc hp => by
    show jt_269 pc = none
    unfold jt_269
    rw [Nat.ble_eq_true_of_le (show 11 ≤ pc from hp)]
    rfl) (fun pc hp => ⟨0, 11, Nat.zero_le _, hp, jk_269⟩)
set_option maxRecDepth 100000 in
theorem jf_269 : sx_mf 269 := sx_mfA (c := 12) (p := 1936) rfl rfl sx_cls12 rfl (by decide +kernel) (Nat.le_of_ble_eq_true rfl) (Or.inr (Or.inl ⟨rfl, sx_tb_in 1934 (by decide +kernel) rfl, sx_tb_in 1935 (by decide +kernel) rfl⟩)) jo_269
-- SpoutNewsModel.book
theorem jk_270 : sx_chk 270 0 47 = true := by decide +kernel
theorem jo_270 : sx_ok 270 := sx_ok_of 270 (fun pc hp => by
    show jt_270 pc = none
    unfold jt_270
    rw [Nat.ble_eq_true_of_le (show 47 ≤ pc from hp)]
    rfl) (fun pc hp => ⟨0, 47, Nat.zero_le _, hp, jk_270⟩)
set_option maxRecDepth 100000 in
theorem jf_270 : sx_mf 270 := sx_mfA (c := 12) (p := 1940) rfl rfl sx_cls12 rfl (by decide +kernel) (Nat.le_of_ble_eq_true rfl) (Or.inr (Or.inl ⟨rfl, sx_tb_in 1938 (by decide +kernel) rfl, sx_tb_in 1939 (by decide +kernel) rfl⟩)) jo_270
-- SpoutNewsModel.goes
theorem jk_271 : sx_chk 271 0 153 = true := by decide +kernel
theorem jo_271 : sx_ok 271 := sx_ok_of 271 (fun pc hp => by
    show jt_271 pc = none
    unfold jt_271
    rw [Nat.ble_eq_true_of_le (show 153 ≤ pc from hp)]
    rfl) (fun pc hp => ⟨0, 153, Nat.zero_le _, hp, jk_271⟩)
set_option maxRecDepth 100000 in
theorem jf_271 : sx_mf 271 := sx_mfA (c := 12) (p := 1944) rfl rfl sx_cls12 rfl (by decide +kernel) (Nat.le_of_ble_eq_true rfl) (Or.inr (Or.inl ⟨rfl, sx_tb_in 1942 (by decide +kernel) rfl, sx_tb_in 1943 (by decide +kernel) rfl⟩)) jo_271
-- SpoutNewsModel.thinks
theorem jk_272 : sx_chk 272 0 33 = true := by decide +kernel
theorem jo_272 : sx_ok 272 := sx_ok_of 272 (fun pc hp => by
    show jt_272 pc = none
    unfold jt_272
    rw [Nat.ble_eq_true_of_le (show 33 ≤ pc from hp)]
    rfl) (fun pc hp => ⟨0, 33, Nat.zero_le _, hp, jk_272⟩)
set_option maxRecDepth 100000 in
theorem jf_272 : sx_mf 272 := sx_mfA (c := 12) (p := 1948) rfl rfl sx_cls12 rfl (by decide +kernel) (Nat.le_of_ble_eq_true rfl) (Or.inr (Or.inl ⟨rfl, sx_tb_in 1947 (by decide +kernel) rfl, sx_tb_in 101 (by decide +kernel) rfl⟩)) jo_272
-- SpoutNewsModel.endsThought
theorem jk_273 : sx_chk 273 0 33 = true := by decide +kernel
theorem jo_273 : sx_ok 273 := sx_ok_of 273 (fun pc hp => by
    show jt_273 pc = none
    unfold jt_273
    rw [Nat.ble_eq_true_of_le (show 33 ≤ pc from hp)]
    rfl) (fun pc hp => ⟨0, 33, Nat.zero_le _, hp, jk_273⟩)
set_option maxRecDepth 100000 in
theorem jf_273 : sx_mf 273 := sx_mfA (c := 12) (p := 1952) rfl rfl sx_cls12 rfl (by decide +kernel) (Nat.le_of_ble_eq_true rfl) (Or.inr (Or.inl ⟨rfl, sx_tb_in 1951 (by decide +kernel) rfl, sx_tb_in 102 (by decide +kernel) rfl⟩)) jo_273
-- SpoutNewsModel.told
theorem jk_274 : sx_chk 274 0 113 = true := by decide +kernel
theorem jo_274 : sx_ok 274 := sx_ok_of 274 (fun pc hp => by
    show jt_274 pc = none
    unfold jt_274
    rw [Nat.ble_eq_true_of_le (show 113 ≤ pc from hp)]
    rfl) (fun pc hp => ⟨0, 113, Nat.zero_le _, hp, jk_274⟩)
set_option maxRecDepth 100000 in
theorem jf_274 : sx_mf 274 := sx_mfA (c := 12) (p := 1956) rfl rfl sx_cls12 rfl (by decide +kernel) (Nat.le_of_ble_eq_true rfl) (Or.inr (Or.inl ⟨rfl, sx_tb_in 1954 (by decide +kernel) rfl, sx_tb_in 1955 (by decide +kernel) rfl⟩)) jo_274
-- SpoutNewsModel.passedFrom
theorem jk_275 : sx_chk 275 0 35 = true := by decide +kernel
theorem jo_275 : sx_ok 275 := sx_ok_of 275 (fun pc hp => by
    show jt_275 pc = none
    unfold jt_275
    rw [Nat.ble_eq_true_of_le (show 35 ≤ pc from hp)]
    rfl) (fun pc hp => ⟨0, 35, Nat.zero_le _, hp, jk_275⟩)
set_option maxRecDepth 100000 in
theorem jf_275 : sx_mf 275 := sx_mfA (c := 12) (p := 1960) rfl rfl sx_cls12 rfl (by decide +kernel) (Nat.le_of_ble_eq_true rfl) (Or.inr (Or.inl ⟨rfl, sx_tb_in 1959 (by decide +kernel) rfl, sx_tb_in 103 (by decide +kernel) rfl⟩)) jo_275
-- SpoutNewsModel.ends
theorem jk_276 : sx_chk 276 0 91 = true := by decide +kernel
theorem jo_276 : sx_ok 276 := sx_ok_of 276 (fun pc hp => by
    show jt_276 pc = none
    unfold jt_276
    rw [Nat.ble_eq_true_of_le (show 91 ≤ pc from hp)]
    rfl) (fun pc hp => ⟨0, 91, Nat.zero_le _, hp, jk_276⟩)
set_option maxRecDepth 100000 in
theorem jf_276 : sx_mf 276 := sx_mfA (c := 12) (p := 1964) rfl rfl sx_cls12 rfl (by decide +kernel) (Nat.le_of_ble_eq_true rfl) (Or.inr (Or.inl ⟨rfl, sx_tb_in 1962 (by decide +kernel) rfl, sx_tb_in 1963 (by decide +kernel) rfl⟩)) jo_276
-- SpoutNewsModel.isInRound
theorem jk_277 : sx_chk 277 0 40 = true := by decide +kernel
theorem jo_277 : sx_ok 277 := sx_ok_of 277 (fun pc hp => by
    show jt_277 pc = none
    unfold jt_277
    rw [Nat.ble_eq_true_of_le (show 40 ≤ pc from hp)]
    rfl) (fun pc hp => ⟨0, 40, Nat.zero_le _, hp, jk_277⟩)
set_option maxRecDepth 100000 in
theorem jf_277 : sx_mf 277 := sx_mfA (c := 12) (p := 1968) rfl rfl sx_cls12 rfl (by decide +kernel) (Nat.le_of_ble_eq_true rfl) (Or.inr (Or.inl ⟨rfl, sx_tb_in 1967 (by decide +kernel) rfl, sx_tb_in 104 (by decide +kernel) rfl⟩)) jo_277
-- SpoutNewsModel.leastOfRound
theorem jk_278 : sx_chk 278 0 31 = true := by decide +kernel
theorem jo_278 : sx_ok 278 := sx_ok_of 278 (fun pc hp => by
    show jt_278 pc = none
    unfold jt_278
    rw [Nat.ble_eq_true_of_le (show 31 ≤ pc from hp)]
    rfl) (fun pc hp => ⟨0, 31, Nat.zero_le _, hp, jk_278⟩)
set_option maxRecDepth 100000 in
theorem jf_278 : sx_mf 278 := sx_mfA (c := 12) (p := 1972) rfl rfl sx_cls12 rfl (by decide +kernel) (Nat.le_of_ble_eq_true rfl) (Or.inr (Or.inl ⟨rfl, sx_tb_in 1971 (by decide +kernel) rfl, sx_tb_in 105 (by decide +kernel) rfl⟩)) jo_278
-- SpoutNewsModel.catches
theorem jk_279 : sx_chk 279 0 81 = true := by decide +kernel
theorem jo_279 : sx_ok 279 := sx_ok_of 279 (fun pc hp => by
    show jt_279 pc = none
    unfold jt_279
    rw [Nat.ble_eq_true_of_le (show 81 ≤ pc from hp)]
    rfl) (fun pc hp => ⟨0, 81, Nat.zero_le _, hp, jk_279⟩)
set_option maxRecDepth 100000 in
theorem jf_279 : sx_mf 279 := sx_mfA (c := 12) (p := 1976) rfl rfl sx_cls12 rfl (by decide +kernel) (Nat.le_of_ble_eq_true rfl) (Or.inr (Or.inl ⟨rfl, sx_tb_in 1974 (by decide +kernel) rfl, sx_tb_in 1975 (by decide +kernel) rfl⟩)) jo_279
