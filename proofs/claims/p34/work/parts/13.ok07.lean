-- by program (wip/gen/mk12.py): the tables of methods hold
-- SpoutNewsModel.onesOf
theorem jk_280 : sx_chk 280 0 23 = true := by decide +kernel
theorem jo_280 : sx_ok 280 := sx_ok_of 280 (fun pc hp => by
    show jt_280 pc = none
    unfold jt_280
    rw [Nat.ble_eq_true_of_le (show 23 ≤ pc from hp)]
    rfl) (fun pc hp => ⟨0, 23, Nat.zero_le _, hp, jk_280⟩)
set_option maxRecDepth 100000 in
theorem jf_280 : sx_mf 280 := sx_mfA (c := 12) (p := 1980) rfl rfl sx_cls12 rfl (by decide +kernel) (Nat.le_of_ble_eq_true rfl) (Or.inr (Or.inl ⟨rfl, sx_tb_in 1979 (by decide +kernel) rfl, sx_tb_in 106 (by decide +kernel) rfl⟩)) jo_280
-- SpoutNewsModel.catchesAll
theorem jk_281 : sx_chk 281 0 30 = true := by decide +kernel
theorem jo_281 : sx_ok 281 := sx_ok_of 281 (fun pc hp => by
    show jt_281 pc = none
    unfold jt_281
    rw [Nat.ble_eq_true_of_le (show 30 ≤ pc from hp)]
    rfl) (fun pc hp => ⟨0, 30, Nat.zero_le _, hp, jk_281⟩)
set_option maxRecDepth 100000 in
theorem jf_281 : sx_mf 281 := sx_mfA (c := 12) (p := 1984) rfl rfl sx_cls12 rfl (by decide +kernel) (Nat.le_of_ble_eq_true rfl) (Or.inr (Or.inl ⟨rfl, sx_tb_in 1983 (by decide +kernel) rfl, sx_tb_in 107 (by decide +kernel) rfl⟩)) jo_281
-- SpoutNewsModel.seat
theorem jk_282 : sx_chk 282 0 111 = true := by decide +kernel
theorem jo_282 : sx_ok 282 := sx_ok_of 282 (fun pc hp => by
    show jt_282 pc = none
    unfold jt_282
    rw [Nat.ble_eq_true_of_le (show 111 ≤ pc from hp)]
    rfl) (fun pc hp => ⟨0, 111, Nat.zero_le _, hp, jk_282⟩)
set_option maxRecDepth 100000 in
theorem jf_282 : sx_mf 282 := sx_mfA (c := 12) (p := 1988) rfl rfl sx_cls12 rfl (by decide +kernel) (Nat.le_of_ble_eq_true rfl) (Or.inr (Or.inl ⟨rfl, sx_tb_in 1986 (by decide +kernel) rfl, sx_tb_in 1987 (by decide +kernel) rfl⟩)) jo_282
-- SpoutNewsModel.ways
theorem jk_283 : sx_chk 283 0 93 = true := by decide +kernel
theorem jo_283 : sx_ok 283 := sx_ok_of 283 (fun pc hp => by
    show jt_283 pc = none
    unfold jt_283
    rw [Nat.ble_eq_true_of_le (show 93 ≤ pc from hp)]
    rfl) (fun pc hp => ⟨0, 93, Nat.zero_le _, hp, jk_283⟩)
set_option maxRecDepth 100000 in
theorem jf_283 : sx_mf 283 := sx_mfA (c := 12) (p := 1992) rfl rfl sx_cls12 rfl (by decide +kernel) (Nat.le_of_ble_eq_true rfl) (Or.inr (Or.inl ⟨rfl, sx_tb_in 1990 (by decide +kernel) rfl, sx_tb_in 1991 (by decide +kernel) rfl⟩)) jo_283
-- SpoutNewsModel.askedBest
theorem jk_284 : sx_chk 284 0 107 = true := by decide +kernel
theorem jo_284 : sx_ok 284 := sx_ok_of 284 (fun pc hp => by
    show jt_284 pc = none
    unfold jt_284
    rw [Nat.ble_eq_true_of_le (show 107 ≤ pc from hp)]
    rfl) (fun pc hp => ⟨0, 107, Nat.zero_le _, hp, jk_284⟩)
set_option maxRecDepth 100000 in
theorem jf_284 : sx_mf 284 := sx_mfA (c := 12) (p := 1996) rfl rfl sx_cls12 rfl (by decide +kernel) (Nat.le_of_ble_eq_true rfl) (Or.inr (Or.inl ⟨rfl, sx_tb_in 1995 (by decide +kernel) rfl, sx_tb_in 108 (by decide +kernel) rfl⟩)) jo_284
-- SpoutNewsModel.waysWith
theorem jk_285 : sx_chk 285 0 167 = true := by decide +kernel
theorem jo_285 : sx_ok 285 := sx_ok_of 285 (fun pc hp => by
    show jt_285 pc = none
    unfold jt_285
    rw [Nat.ble_eq_true_of_le (show 167 ≤ pc from hp)]
    rfl) (fun pc hp => ⟨0, 167, Nat.zero_le _, hp, jk_285⟩)
set_option maxRecDepth 100000 in
theorem jf_285 : sx_mf 285 := sx_mfA (c := 12) (p := 2001) rfl rfl sx_cls12 rfl (by decide +kernel) (Nat.le_of_ble_eq_true rfl) (Or.inr (Or.inl ⟨rfl, sx_tb_in 2000 (by decide +kernel) rfl, sx_tb_in 109 (by decide +kernel) rfl⟩)) jo_285
-- SpoutNewsModel.seatsOf
theorem jk_286 : sx_chk 286 0 36 = true := by decide +kernel
theorem jo_286 : sx_ok 286 := sx_ok_of 286 (fun pc hp => by
    show jt_286 pc = none
    unfold jt_286
    rw [Nat.ble_eq_true_of_le (show 36 ≤ pc from hp)]
    rfl) (fun pc hp => ⟨0, 36, Nat.zero_le _, hp, jk_286⟩)
set_option maxRecDepth 100000 in
theorem jf_286 : sx_mf 286 := sx_mfA (c := 12) (p := 2005) rfl rfl sx_cls12 rfl (by decide +kernel) (Nat.le_of_ble_eq_true rfl) (Or.inr (Or.inl ⟨rfl, sx_tb_in 2004 (by decide +kernel) rfl, sx_tb_in 110 (by decide +kernel) rfl⟩)) jo_286
-- SpoutNewsModel.greater
theorem jk_287 : sx_chk 287 0 11 = true := by decide +kernel
theorem jo_287 : sx_ok 287 := sx_ok_of 287 (fun pc hp => by
    show jt_287 pc = none
    unfold jt_287
    rw [Nat.ble_eq_true_of_le (show 11 ≤ pc from hp)]
    rfl) (fun pc hp => ⟨0, 11, Nat.zero_le _, hp, jk_287⟩)
set_option maxRecDepth 100000 in
theorem jf_287 : sx_mf 287 := sx_mfA (c := 12) (p := 2009) rfl rfl sx_cls12 rfl (by decide +kernel) (Nat.le_of_ble_eq_true rfl) (Or.inr (Or.inl ⟨rfl, sx_tb_in 2008 (by decide +kernel) rfl, sx_tb_in 111 (by decide +kernel) rfl⟩)) jo_287
-- SpoutNewsModel.isFirstTold
theorem jk_288 : sx_chk 288 0 32 = true := by decide +kernel
theorem jo_288 : sx_ok 288 := sx_ok_of 288 (fun pc hp => by
    show jt_288 pc = none
    unfold jt_288
    rw [Nat.ble_eq_true_of_le (show 32 ≤ pc from hp)]
    rfl) (fun pc hp => ⟨0, 32, Nat.zero_le _, hp, jk_288⟩)
set_option maxRecDepth 100000 in
theorem jf_288 : sx_mf 288 := sx_mfA (c := 12) (p := 2013) rfl rfl sx_cls12 rfl (by decide +kernel) (Nat.le_of_ble_eq_true rfl) (Or.inr (Or.inl ⟨rfl, sx_tb_in 2012 (by decide +kernel) rfl, sx_tb_in 112 (by decide +kernel) rfl⟩)) jo_288
-- SpoutNewsModel.quarrel
theorem jk_289 : sx_chk 289 0 123 = true := by decide +kernel
theorem jo_289 : sx_ok 289 := sx_ok_of 289 (fun pc hp => by
    show jt_289 pc = none
    unfold jt_289
    rw [Nat.ble_eq_true_of_le (show 123 ≤ pc from hp)]
    rfl) (fun pc hp => ⟨0, 123, Nat.zero_le _, hp, jk_289⟩)
set_option maxRecDepth 100000 in
theorem jf_289 : sx_mf 289 := sx_mfA (c := 12) (p := 2017) rfl rfl sx_cls12 rfl (by decide +kernel) (Nat.le_of_ble_eq_true rfl) (Or.inr (Or.inl ⟨rfl, sx_tb_in 2015 (by decide +kernel) rfl, sx_tb_in 2016 (by decide +kernel) rfl⟩)) jo_289
-- SpoutNewsModel.parts
theorem jk_290 : sx_chk 290 0 139 = true := by decide +kernel
theorem jo_290 : sx_ok 290 := sx_ok_of 290 (fun pc hp => by
    show jt_290 pc = none
    unfold jt_290
    rw [Nat.ble_eq_true_of_le (show 139 ≤ pc from hp)]
    rfl) (fun pc hp => ⟨0, 139, Nat.zero_le _, hp, jk_290⟩)
set_option maxRecDepth 100000 in
theorem jf_290 : sx_mf 290 := sx_mfA (c := 12) (p := 2021) rfl rfl sx_cls12 rfl (by decide +kernel) (Nat.le_of_ble_eq_true rfl) (Or.inr (Or.inl ⟨rfl, sx_tb_in 2019 (by decide +kernel) rfl, sx_tb_in 2020 (by decide +kernel) rfl⟩)) jo_290
-- SpoutNewsModel.sideFrom
theorem jk_291 : sx_chk 291 0 53 = true := by decide +kernel
theorem jo_291 : sx_ok 291 := sx_ok_of 291 (fun pc hp => by
    show jt_291 pc = none
    unfold jt_291
    rw [Nat.ble_eq_true_of_le (show 53 ≤ pc from hp)]
    rfl) (fun pc hp => ⟨0, 53, Nat.zero_le _, hp, jk_291⟩)
set_option maxRecDepth 100000 in
theorem jf_291 : sx_mf 291 := sx_mfA (c := 12) (p := 2025) rfl rfl sx_cls12 rfl (by decide +kernel) (Nat.le_of_ble_eq_true rfl) (Or.inr (Or.inl ⟨rfl, sx_tb_in 2024 (by decide +kernel) rfl, sx_tb_in 113 (by decide +kernel) rfl⟩)) jo_291
-- SpoutNewsModel.besideAll
theorem jk_292 : sx_chk 292 0 36 = true := by decide +kernel
theorem jo_292 : sx_ok 292 := sx_ok_of 292 (fun pc hp => by
    show jt_292 pc = none
    unfold jt_292
    rw [Nat.ble_eq_true_of_le (show 36 ≤ pc from hp)]
    rfl) (fun pc hp => ⟨0, 36, Nat.zero_le _, hp, jk_292⟩)
set_option maxRecDepth 100000 in
theorem jf_292 : sx_mf 292 := sx_mfA (c := 12) (p := 2029) rfl rfl sx_cls12 rfl (by decide +kernel) (Nat.le_of_ble_eq_true rfl) (Or.inr (Or.inl ⟨rfl, sx_tb_in 2028 (by decide +kernel) rfl, sx_tb_in 114 (by decide +kernel) rfl⟩)) jo_292
-- SpoutNewsModel.known
theorem jk_293 : sx_chk 293 0 144 = true := by decide +kernel
theorem jo_293 : sx_ok 293 := sx_ok_of 293 (fun pc hp => by
    show jt_293 pc = none
    unfold jt_293
    rw [Nat.ble_eq_true_of_le (show 144 ≤ pc from hp)]
    rfl) (fun pc hp => ⟨0, 144, Nat.zero_le _, hp, jk_293⟩)
set_option maxRecDepth 100000 in
theorem jf_293 : sx_mf 293 := sx_mfA (c := 12) (p := 2033) rfl rfl sx_cls12 rfl (by decide +kernel) (Nat.le_of_ble_eq_true rfl) (Or.inr (Or.inl ⟨rfl, sx_tb_in 2031 (by decide +kernel) rfl, sx_tb_in 2032 (by decide +kernel) rfl⟩)) jo_293
-- SpoutNewsModel.latin
theorem jk_294 : sx_chk 294 0 40 = true := by decide +kernel
theorem jo_294 : sx_ok 294 := sx_ok_of 294 (fun pc hp => by
    show jt_294 pc = none
    unfold jt_294
    rw [Nat.ble_eq_true_of_le (show 40 ≤ pc from hp)]
    rfl) (fun pc hp => ⟨0, 40, Nat.zero_le _, hp, jk_294⟩)
set_option maxRecDepth 100000 in
theorem jf_294 : sx_mf 294 := sx_mfA (c := 12) (p := 2037) rfl rfl sx_cls12 rfl (by decide +kernel) (Nat.le_of_ble_eq_true rfl) (Or.inr (Or.inl ⟨rfl, sx_tb_in 2035 (by decide +kernel) rfl, sx_tb_in 2036 (by decide +kernel) rfl⟩)) jo_294
-- SpoutNewsModel.again
theorem jk_295 : sx_chk 295 0 75 = true := by decide +kernel
theorem jo_295 : sx_ok 295 := sx_ok_of 295 (fun pc hp => by
    show jt_295 pc = none
    unfold jt_295
    rw [Nat.ble_eq_true_of_le (show 75 ≤ pc from hp)]
    rfl) (fun pc hp => ⟨0, 75, Nat.zero_le _, hp, jk_295⟩)
set_option maxRecDepth 100000 in
theorem jf_295 : sx_mf 295 := sx_mfA (c := 12) (p := 2041) rfl rfl sx_cls12 rfl (by decide +kernel) (Nat.le_of_ble_eq_true rfl) (Or.inr (Or.inl ⟨rfl, sx_tb_in 2039 (by decide +kernel) rfl, sx_tb_in 2040 (by decide +kernel) rfl⟩)) jo_295
-- SpoutNewsModel.comingFrom
theorem jk_296 : sx_chk 296 0 43 = true := by decide +kernel
theorem jo_296 : sx_ok 296 := sx_ok_of 296 (fun pc hp => by
    show jt_296 pc = none
    unfold jt_296
    rw [Nat.ble_eq_true_of_le (show 43 ≤ pc from hp)]
    rfl) (fun pc hp => ⟨0, 43, Nat.zero_le _, hp, jk_296⟩)
set_option maxRecDepth 100000 in
theorem jf_296 : sx_mf 296 := sx_mfA (c := 12) (p := 2045) rfl rfl sx_cls12 rfl (by decide +kernel) (Nat.le_of_ble_eq_true rfl) (Or.inr (Or.inl ⟨rfl, sx_tb_in 2044 (by decide +kernel) rfl, sx_tb_in 115 (by decide +kernel) rfl⟩)) jo_296
-- SpoutNewsModel.isOneToOne
theorem jk_297 : sx_chk 297 0 41 = true := by decide +kernel
theorem jo_297 : sx_ok 297 := sx_ok_of 297 (fun pc hp => by
    show jt_297 pc = none
    unfold jt_297
    rw [Nat.ble_eq_true_of_le (show 41 ≤ pc from hp)]
    rfl) (fun pc hp => ⟨0, 41, Nat.zero_le _, hp, jk_297⟩)
set_option maxRecDepth 100000 in
theorem jf_297 : sx_mf 297 := sx_mfA (c := 12) (p := 2049) rfl rfl sx_cls12 rfl (by decide +kernel) (Nat.le_of_ble_eq_true rfl) (Or.inr (Or.inl ⟨rfl, sx_tb_in 2048 (by decide +kernel) rfl, sx_tb_in 116 (by decide +kernel) rfl⟩)) jo_297
-- SpoutNewsModel.common
theorem jk_298 : sx_chk 298 0 31 = true := by decide +kernel
theorem jo_298 : sx_ok 298 := sx_ok_of 298 (fun pc hp => by
    show jt_298 pc = none
    unfold jt_298
    rw [Nat.ble_eq_true_of_le (show 31 ≤ pc from hp)]
    rfl) (fun pc hp => ⟨0, 31, Nat.zero_le _, hp, jk_298⟩)
set_option maxRecDepth 100000 in
theorem jf_298 : sx_mf 298 := sx_mfA (c := 12) (p := 2053) rfl rfl sx_cls12 rfl (by decide +kernel) (Nat.le_of_ble_eq_true rfl) (Or.inr (Or.inl ⟨rfl, sx_tb_in 2052 (by decide +kernel) rfl, sx_tb_in 117 (by decide +kernel) rfl⟩)) jo_298
-- SpoutNewsModel.rest
theorem jk_299 : sx_chk 299 0 12 = true := by decide +kernel
theorem jo_299 : sx_ok 299 := sx_ok_of 299 (fun pc hp => by
    show jt_299 pc = none
    unfold jt_299
    rw [Nat.ble_eq_true_of_le (show 12 ≤ pc from hp)]
    rfl) (fun pc hp => ⟨0, 12, Nat.zero_le _, hp, jk_299⟩)
set_option maxRecDepth 100000 in
theorem jf_299 : sx_mf 299 := sx_mfA (c := 12) (p := 2057) rfl rfl sx_cls12 rfl (by decide +kernel) (Nat.le_of_ble_eq_true rfl) (Or.inr (Or.inl ⟨rfl, sx_tb_in 2056 (by decide +kernel) rfl, sx_tb_in 118 (by decide +kernel) rfl⟩)) jo_299
-- SpoutNewsModel.mason
theorem jk_300 : sx_chk 300 0 85 = true := by decide +kernel
theorem jo_300 : sx_ok 300 := sx_ok_of 300 (fun pc hp => by
    show jt_300 pc = none
    unfold jt_300
    rw [Nat.ble_eq_true_of_le (show 85 ≤ pc from hp)]
    rfl) (fun pc hp => ⟨0, 85, Nat.zero_le _, hp, jk_300⟩)
set_option maxRecDepth 100000 in
theorem jf_300 : sx_mf 300 := sx_mfA (c := 12) (p := 2061) rfl rfl sx_cls12 rfl (by decide +kernel) (Nat.le_of_ble_eq_true rfl) (Or.inr (Or.inl ⟨rfl, sx_tb_in 2059 (by decide +kernel) rfl, sx_tb_in 2060 (by decide +kernel) rfl⟩)) jo_300
-- SpoutNewsModel.isRow
theorem jk_301 : sx_chk 301 0 50 = true := by decide +kernel
theorem jo_301 : sx_ok 301 := sx_ok_of 301 (fun pc hp => by
    show jt_301 pc = none
    unfold jt_301
    rw [Nat.ble_eq_true_of_le (show 50 ≤ pc from hp)]
    rfl) (fun pc hp => ⟨0, 50, Nat.zero_le _, hp, jk_301⟩)
set_option maxRecDepth 100000 in
theorem jf_301 : sx_mf 301 := sx_mfA (c := 12) (p := 2065) rfl rfl sx_cls12 rfl (by decide +kernel) (Nat.le_of_ble_eq_true rfl) (Or.inr (Or.inl ⟨rfl, sx_tb_in 2064 (by decide +kernel) rfl, sx_tb_in 119 (by decide +kernel) rfl⟩)) jo_301
-- SpoutNewsModel.digitOf
theorem jk_302 : sx_chk 302 0 27 = true := by decide +kernel
theorem jo_302 : sx_ok 302 := sx_ok_of 302 (fun pc hp => by
    show jt_302 pc = none
    unfold jt_302
    rw [Nat.ble_eq_true_of_le (show 27 ≤ pc from hp)]
    rfl) (fun pc hp => ⟨0, 27, Nat.zero_le _, hp, jk_302⟩)
set_option maxRecDepth 100000 in
theorem jf_302 : sx_mf 302 := sx_mfA (c := 12) (p := 2069) rfl rfl sx_cls12 rfl (by decide +kernel) (Nat.le_of_ble_eq_true rfl) (Or.inr (Or.inl ⟨rfl, sx_tb_in 2068 (by decide +kernel) rfl, sx_tb_in 120 (by decide +kernel) rfl⟩)) jo_302
-- SpoutNewsModel.keeps
theorem jk_303 : sx_chk 303 0 52 = true := by decide +kernel
theorem jo_303 : sx_ok 303 := sx_ok_of 303 (fun pc hp => by
    show jt_303 pc = none
    unfold jt_303
    rw [Nat.ble_eq_true_of_le (show 52 ≤ pc from hp)]
    rfl) (fun pc hp => ⟨0, 52, Nat.zero_le _, hp, jk_303⟩)
set_option maxRecDepth 100000 in
theorem jf_303 : sx_mf 303 := sx_mfA (c := 12) (p := 2073) rfl rfl sx_cls12 rfl (by decide +kernel) (Nat.le_of_ble_eq_true rfl) (Or.inr (Or.inl ⟨rfl, sx_tb_in 2071 (by decide +kernel) rfl, sx_tb_in 2072 (by decide +kernel) rfl⟩)) jo_303
-- SpoutNewsModel.offers
theorem jk_304 : sx_chk 304 0 121 = true := by decide +kernel
theorem jo_304 : sx_ok 304 := sx_ok_of 304 (fun pc hp => by
    show jt_304 pc = none
    unfold jt_304
    rw [Nat.ble_eq_true_of_le (show 121 ≤ pc from hp)]
    rfl) (fun pc hp => ⟨0, 121, Nat.zero_le _, hp, jk_304⟩)
set_option maxRecDepth 100000 in
theorem jf_304 : sx_mf 304 := sx_mfA (c := 12) (p := 2077) rfl rfl sx_cls12 rfl (by decide +kernel) (Nat.le_of_ble_eq_true rfl) (Or.inr (Or.inl ⟨rfl, sx_tb_in 2076 (by decide +kernel) rfl, sx_tb_in 121 (by decide +kernel) rfl⟩)) jo_304
-- SpoutNewsModel.freeMason
theorem jk_305 : sx_chk 305 0 50 = true := by decide +kernel
theorem jo_305 : sx_ok 305 := sx_ok_of 305 (fun pc hp => by
    show jt_305 pc = none
    unfold jt_305
    rw [Nat.ble_eq_true_of_le (show 50 ≤ pc from hp)]
    rfl) (fun pc hp => ⟨0, 50, Nat.zero_le _, hp, jk_305⟩)
set_option maxRecDepth 100000 in
theorem jf_305 : sx_mf 305 := sx_mfA (c := 12) (p := 2081) rfl rfl sx_cls12 rfl (by decide +kernel) (Nat.le_of_ble_eq_true rfl) (Or.inr (Or.inl ⟨rfl, sx_tb_in 2080 (by decide +kernel) rfl, sx_tb_in 122 (by decide +kernel) rfl⟩)) jo_305
-- SpoutNewsModel.dearOf
theorem jk_306 : sx_chk 306 0 13 = true := by decide +kernel
theorem jo_306 : sx_ok 306 := sx_ok_of 306 (fun pc hp => by
    show jt_306 pc = none
    unfold jt_306
    rw [Nat.ble_eq_true_of_le (show 13 ≤ pc from hp)]
    rfl) (fun pc hp => ⟨0, 13, Nat.zero_le _, hp, jk_306⟩)
set_option maxRecDepth 100000 in
theorem jf_306 : sx_mf 306 := sx_mfA (c := 12) (p := 2085) rfl rfl sx_cls12 rfl (by decide +kernel) (Nat.le_of_ble_eq_true rfl) (Or.inr (Or.inl ⟨rfl, sx_tb_in 2084 (by decide +kernel) rfl, sx_tb_in 123 (by decide +kernel) rfl⟩)) jo_306
-- SpoutNewsModel.placeIn
theorem jk_307 : sx_chk 307 0 21 = true := by decide +kernel
theorem jo_307 : sx_ok 307 := sx_ok_of 307 (fun pc hp => by
    show jt_307 pc = none
    unfold jt_307
    rw [Nat.ble_eq_true_of_le (show 21 ≤ pc from hp)]
    rfl) (fun pc hp => ⟨0, 21, Nat.zero_le _, hp, jk_307⟩)
set_option maxRecDepth 100000 in
theorem jf_307 : sx_mf 307 := sx_mfA (c := 12) (p := 2089) rfl rfl sx_cls12 rfl (by decide +kernel) (Nat.le_of_ble_eq_true rfl) (Or.inr (Or.inl ⟨rfl, sx_tb_in 2088 (by decide +kernel) rfl, sx_tb_in 124 (by decide +kernel) rfl⟩)) jo_307
-- SpoutNewsModel.surmise
theorem jk_308 : sx_chk 308 0 103 = true := by decide +kernel
theorem jo_308 : sx_ok 308 := sx_ok_of 308 (fun pc hp => by
    show jt_308 pc = none
    unfold jt_308
    rw [Nat.ble_eq_true_of_le (show 103 ≤ pc from hp)]
    rfl) (fun pc hp => ⟨0, 103, Nat.zero_le _, hp, jk_308⟩)
set_option maxRecDepth 100000 in
theorem jf_308 : sx_mf 308 := sx_mfA (c := 12) (p := 2093) rfl rfl sx_cls12 rfl (by decide +kernel) (Nat.le_of_ble_eq_true rfl) (Or.inr (Or.inl ⟨rfl, sx_tb_in 2091 (by decide +kernel) rfl, sx_tb_in 2092 (by decide +kernel) rfl⟩)) jo_308
-- SpoutNewsModel.surmised
theorem jk_309 : sx_chk 309 0 19 = true := by decide +kernel
theorem jo_309 : sx_ok 309 := sx_ok_of 309 (fun pc hp => by
    show jt_309 pc = none
    unfold jt_309
    rw [Nat.ble_eq_true_of_le (show 19 ≤ pc from hp)]
    rfl) (fun pc hp => ⟨0, 19, Nat.zero_le _, hp, jk_309⟩)
set_option maxRecDepth 100000 in
theorem jf_309 : sx_mf 309 := sx_mfA (c := 12) (p := 2097) rfl rfl sx_cls12 rfl (by decide +kernel) (Nat.le_of_ble_eq_true rfl) (Or.inr (Or.inl ⟨rfl, sx_tb_in 2096 (by decide +kernel) rfl, sx_tb_in 125 (by decide +kernel) rfl⟩)) jo_309
-- SpoutNewsModel.shareOf
theorem jk_310 : sx_chk 310 0 50 = true := by decide +kernel
theorem jo_310 : sx_ok 310 := sx_ok_of 310 (fun pc hp => by
    show jt_310 pc = none
    unfold jt_310
    rw [Nat.ble_eq_true_of_le (show 50 ≤ pc from hp)]
    rfl) (fun pc hp => ⟨0, 50, Nat.zero_le _, hp, jk_310⟩)
set_option maxRecDepth 100000 in
theorem jf_310 : sx_mf 310 := sx_mfA (c := 12) (p := 2102) rfl rfl sx_cls12 rfl (by decide +kernel) (Nat.le_of_ble_eq_true rfl) (Or.inr (Or.inl ⟨rfl, sx_tb_in 2101 (by decide +kernel) rfl, sx_tb_in 126 (by decide +kernel) rfl⟩)) jo_310
-- SpoutNewsModel.drought
theorem jk_311 : sx_chk 311 0 64 = true := by decide +kernel
theorem jo_311 : sx_ok 311 := sx_ok_of 311 (fun pc hp => by
    show jt_311 pc = none
    unfold jt_311
    rw [Nat.ble_eq_true_of_le (show 64 ≤ pc from hp)]
    rfl) (fun pc hp => ⟨0, 64, Nat.zero_le _, hp, jk_311⟩)
set_option maxRecDepth 100000 in
theorem jf_311 : sx_mf 311 := sx_mfA (c := 12) (p := 2106) rfl rfl sx_cls12 rfl (by decide +kernel) (Nat.le_of_ble_eq_true rfl) (Or.inr (Or.inl ⟨rfl, sx_tb_in 2104 (by decide +kernel) rfl, sx_tb_in 2105 (by decide +kernel) rfl⟩)) jo_311
-- SpoutNewsModel.longest
theorem jk_312 : sx_chk 312 0 89 = true := by decide +kernel
theorem jo_312 : sx_ok 312 := sx_ok_of 312 (fun pc hp => by
    show jt_312 pc = none
    unfold jt_312
    rw [Nat.ble_eq_true_of_le (show 89 ≤ pc from hp)]
    rfl) (fun pc hp => ⟨0, 89, Nat.zero_le _, hp, jk_312⟩)
set_option maxRecDepth 100000 in
theorem jf_312 : sx_mf 312 := sx_mfA (c := 12) (p := 2110) rfl rfl sx_cls12 rfl (by decide +kernel) (Nat.le_of_ble_eq_true rfl) (Or.inr (Or.inl ⟨rfl, sx_tb_in 2108 (by decide +kernel) rfl, sx_tb_in 2109 (by decide +kernel) rfl⟩)) jo_312
-- SpoutNewsModel.leans
theorem jk_313 : sx_chk 313 0 55 = true := by decide +kernel
theorem jo_313 : sx_ok 313 := sx_ok_of 313 (fun pc hp => by
    show jt_313 pc = none
    unfold jt_313
    rw [Nat.ble_eq_true_of_le (show 55 ≤ pc from hp)]
    rfl) (fun pc hp => ⟨0, 55, Nat.zero_le _, hp, jk_313⟩)
set_option maxRecDepth 100000 in
theorem jf_313 : sx_mf 313 := sx_mfA (c := 12) (p := 2114) rfl rfl sx_cls12 rfl (by decide +kernel) (Nat.le_of_ble_eq_true rfl) (Or.inr (Or.inl ⟨rfl, sx_tb_in 2112 (by decide +kernel) rfl, sx_tb_in 2113 (by decide +kernel) rfl⟩)) jo_313
-- SpoutNewsModel.leansFrom
theorem jk_314 : sx_chk 314 0 32 = true := by decide +kernel
theorem jo_314 : sx_ok 314 := sx_ok_of 314 (fun pc hp => by
    show jt_314 pc = none
    unfold jt_314
    rw [Nat.ble_eq_true_of_le (show 32 ≤ pc from hp)]
    rfl) (fun pc hp => ⟨0, 32, Nat.zero_le _, hp, jk_314⟩)
set_option maxRecDepth 100000 in
theorem jf_314 : sx_mf 314 := sx_mfA (c := 12) (p := 2118) rfl rfl sx_cls12 rfl (by decide +kernel) (Nat.le_of_ble_eq_true rfl) (Or.inr (Or.inl ⟨rfl, sx_tb_in 2117 (by decide +kernel) rfl, sx_tb_in 127 (by decide +kernel) rfl⟩)) jo_314
-- SpoutNewsModel.chapter
theorem jk_315 : sx_chk 315 0 64 = true := by decide +kernel
theorem jo_315 : sx_ok 315 := sx_ok_of 315 (fun pc hp => by
    show jt_315 pc = none
    unfold jt_315
    rw [Nat.ble_eq_true_of_le (show 64 ≤ pc from hp)]
    rfl) (fun pc hp => ⟨0, 64, Nat.zero_le _, hp, jk_315⟩)
set_option maxRecDepth 100000 in
theorem jf_315 : sx_mf 315 := sx_mfA (c := 12) (p := 2122) rfl rfl sx_cls12 rfl (by decide +kernel) (Nat.le_of_ble_eq_true rfl) (Or.inr (Or.inl ⟨rfl, sx_tb_in 2120 (by decide +kernel) rfl, sx_tb_in 2121 (by decide +kernel) rfl⟩)) jo_315
-- SpoutNewsModel.read
theorem jk_316 : sx_chk 316 0 102 = true := by decide +kernel
theorem jo_316 : sx_ok 316 := sx_ok_of 316 (fun pc hp => by
    show jt_316 pc = none
    unfold jt_316
    rw [Nat.ble_eq_true_of_le (show 102 ≤ pc from hp)]
    rfl) (fun pc hp => ⟨0, 102, Nat.zero_le _, hp, jk_316⟩)
set_option maxRecDepth 100000 in
theorem jf_316 : sx_mf 316 := sx_mfA (c := 12) (p := 2126) rfl rfl sx_cls12 rfl (by decide +kernel) (Nat.le_of_ble_eq_true rfl) (Or.inr (Or.inl ⟨rfl, sx_tb_in 2124 (by decide +kernel) rfl, sx_tb_in 2125 (by decide +kernel) rfl⟩)) jo_316
-- SpoutNewsModel.findsRead
theorem jk_317 : sx_chk 317 0 124 = true := by decide +kernel
theorem jo_317 : sx_ok 317 := sx_ok_of 317 (fun pc hp => by
    show jt_317 pc = none
    unfold jt_317
    rw [Nat.ble_eq_true_of_le (show 124 ≤ pc from hp)]
    rfl) (fun pc hp => ⟨0, 124, Nat.zero_le _, hp, jk_317⟩)
set_option maxRecDepth 100000 in
theorem jf_317 : sx_mf 317 := sx_mfA (c := 12) (p := 2130) rfl rfl sx_cls12 rfl (by decide +kernel) (Nat.le_of_ble_eq_true rfl) (Or.inr (Or.inl ⟨rfl, sx_tb_in 2129 (by decide +kernel) rfl, sx_tb_in 128 (by decide +kernel) rfl⟩)) jo_317
