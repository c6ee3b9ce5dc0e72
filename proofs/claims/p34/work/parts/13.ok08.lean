-- by program (wip/gen/mk12.py): the tables of methods hold
-- SpoutNewsModel.minutesOf
theorem jk_318 : sx_chk 318 0 29 = true := by decide +kernel
theorem jo_318 : sx_ok 318 := sx_ok_of 318 (fun pc hp => by
    show jt_318 pc = none
    unfold jt_318
    rw [Nat.ble_eq_true_of_le (show 29 ≤ pc from hp)]
    rfl) (fun pc hp => ⟨0, 29, Nat.zero_le _, hp, jk_318⟩)
set_option maxRecDepth 100000 in
theorem jf_318 : sx_mf 318 := sx_mfA (c := 12) (p := 2134) rfl rfl sx_cls12 rfl (by decide +kernel) (Nat.le_of_ble_eq_true rfl) (Or.inr (Or.inl ⟨rfl, sx_tb_in 2133 (by decide +kernel) rfl, sx_tb_in 129 (by decide +kernel) rfl⟩)) jo_318
-- SpoutNewsModel.game
theorem jk_319 : sx_chk 319 0 132 = true := by decide +kernel
theorem jo_319 : sx_ok 319 := sx_ok_of 319 (fun pc hp => by
    show jt_319 pc = none
    unfold jt_319
    rw [Nat.ble_eq_true_of_le (show 132 ≤ pc from hp)]
    rfl) (fun pc hp => ⟨0, 132, Nat.zero_le _, hp, jk_319⟩)
set_option maxRecDepth 100000 in
theorem jf_319 : sx_mf 319 := sx_mfA (c := 12) (p := 2138) rfl rfl sx_cls12 rfl (by decide +kernel) (Nat.le_of_ble_eq_true rfl) (Or.inr (Or.inl ⟨rfl, sx_tb_in 2136 (by decide +kernel) rfl, sx_tb_in 2137 (by decide +kernel) rfl⟩)) jo_319
-- SpoutNewsModel.image
theorem jk_320 : sx_chk 320 0 118 = true := by decide +kernel
theorem jo_320 : sx_ok 320 := sx_ok_of 320 (fun pc hp => by
    show jt_320 pc = none
    unfold jt_320
    rw [Nat.ble_eq_true_of_le (show 118 ≤ pc from hp)]
    rfl) (fun pc hp => ⟨0, 118, Nat.zero_le _, hp, jk_320⟩)
set_option maxRecDepth 100000 in
theorem jf_320 : sx_mf 320 := sx_mfA (c := 12) (p := 2142) rfl rfl sx_cls12 rfl (by decide +kernel) (Nat.le_of_ble_eq_true rfl) (Or.inr (Or.inl ⟨rfl, sx_tb_in 2140 (by decide +kernel) rfl, sx_tb_in 2141 (by decide +kernel) rfl⟩)) jo_320
-- SpoutNewsModel.keepsOne
theorem jk_321 : sx_chk 321 0 43 = true := by decide +kernel
theorem jo_321 : sx_ok 321 := sx_ok_of 321 (fun pc hp => by
    show jt_321 pc = none
    unfold jt_321
    rw [Nat.ble_eq_true_of_le (show 43 ≤ pc from hp)]
    rfl) (fun pc hp => ⟨0, 43, Nat.zero_le _, hp, jk_321⟩)
set_option maxRecDepth 100000 in
theorem jf_321 : sx_mf 321 := sx_mfA (c := 12) (p := 2146) rfl rfl sx_cls12 rfl (by decide +kernel) (Nat.le_of_ble_eq_true rfl) (Or.inr (Or.inl ⟨rfl, sx_tb_in 2145 (by decide +kernel) rfl, sx_tb_in 130 (by decide +kernel) rfl⟩)) jo_321
-- SpoutNewsModel.keepsMany
theorem jk_322 : sx_chk 322 0 109 = true := by decide +kernel
theorem jo_322 : sx_ok 322 := sx_ok_of 322 (fun pc hp => by
    show jt_322 pc = none
    unfold jt_322
    rw [Nat.ble_eq_true_of_le (show 109 ≤ pc from hp)]
    rfl) (fun pc hp => ⟨0, 109, Nat.zero_le _, hp, jk_322⟩)
set_option maxRecDepth 100000 in
theorem jf_322 : sx_mf 322 := sx_mfA (c := 12) (p := 2150) rfl rfl sx_cls12 rfl (by decide +kernel) (Nat.le_of_ble_eq_true rfl) (Or.inr (Or.inl ⟨rfl, sx_tb_in 2149 (by decide +kernel) rfl, sx_tb_in 131 (by decide +kernel) rfl⟩)) jo_322
-- SpoutNewsModel.keepsTold
theorem jk_323 : sx_chk 323 0 240 = true ∧ sx_chk 323 240 321 = true := ⟨by decide +kernel, by decide +kernel⟩
theorem jo_323 : sx_ok 323 := sx_ok_of 323 (fun pc hp => by
    show jt_323 pc = none
    unfold jt_323
    rw [Nat.ble_eq_true_of_le (show 321 ≤ pc from hp)]
    rfl) (fun pc hp => (by
    rcases Nat.lt_or_ge pc 240 with g | g
    · exact ⟨0, 240, by omega, g, jk_323.1⟩
    exact ⟨240, 321, g, hp, jk_323.2⟩))
set_option maxRecDepth 100000 in
theorem jf_323 : sx_mf 323 := sx_mfA (c := 12) (p := 2154) rfl rfl sx_cls12 rfl (by decide +kernel) (Nat.le_of_ble_eq_true rfl) (Or.inr (Or.inl ⟨rfl, sx_tb_in 2153 (by decide +kernel) rfl, sx_tb_in 132 (by decide +kernel) rfl⟩)) jo_323
-- SpoutNewsModel.keepsLaw
theorem jk_324 : sx_chk 324 0 142 = true := by decide +kernel
theorem jo_324 : sx_ok 324 := sx_ok_of 324 (fun pc hp => by
    show jt_324 pc = none
    unfold jt_324
    rw [Nat.ble_eq_true_of_le (show 142 ≤ pc from hp)]
    rfl) (fun pc hp => ⟨0, 142, Nat.zero_le _, hp, jk_324⟩)
set_option maxRecDepth 100000 in
theorem jf_324 : sx_mf 324 := sx_mfA (c := 12) (p := 2158) rfl rfl sx_cls12 rfl (by decide +kernel) (Nat.le_of_ble_eq_true rfl) (Or.inr (Or.inl ⟨rfl, sx_tb_in 2157 (by decide +kernel) rfl, sx_tb_in 133 (by decide +kernel) rfl⟩)) jo_324
-- SpoutNewsModel.look
theorem jk_325 : sx_chk 325 0 159 = true := by decide +kernel
theorem jo_325 : sx_ok 325 := sx_ok_of 325 (fun pc hp => by
    show jt_325 pc = none
    unfold jt_325
    rw [Nat.ble_eq_true_of_le (show 159 ≤ pc from hp)]
    rfl) (fun pc hp => ⟨0, 159, Nat.zero_le _, hp, jk_325⟩)
set_option maxRecDepth 100000 in
theorem jf_325 : sx_mf 325 := sx_mfA (c := 12) (p := 2162) rfl rfl sx_cls12 rfl (by decide +kernel) (Nat.le_of_ble_eq_true rfl) (Or.inr (Or.inl ⟨rfl, sx_tb_in 2160 (by decide +kernel) rfl, sx_tb_in 2161 (by decide +kernel) rfl⟩)) jo_325
-- SpoutNewsLaw.law
theorem jk_326 : sx_chk 326 0 240 = true ∧ sx_chk 326 240 480 = true ∧ sx_chk 326 480 720 = true ∧ sx_chk 326 720 960 = true ∧ sx_chk 326 960 1200 = true ∧ sx_chk 326 1200 1364 = true := ⟨by decide +kernel, by decide +kernel, by decide +kernel, by decide +kernel, by decide +kernel, by decide +kernel⟩
theorem jo_326 : sx_ok 326 := sx_ok_of 326 (fun pc hp => by
    show jt_326 pc = none
    unfold jt_326
    rw [Nat.ble_eq_true_of_le (show 1364 ≤ pc from hp)]
    rfl) (fun pc hp => (by
    rcases Nat.lt_or_ge pc 240 with g | g
    · exact ⟨0, 240, by omega, g, jk_326.1⟩
    rcases Nat.lt_or_ge pc 480 with g | g
    · exact ⟨240, 480, by omega, g, jk_326.2.1⟩
    rcases Nat.lt_or_ge pc 720 with g | g
    · exact ⟨480, 720, by omega, g, jk_326.2.2.1⟩
    rcases Nat.lt_or_ge pc 960 with g | g
    · exact ⟨720, 960, by omega, g, jk_326.2.2.2.1⟩
    rcases Nat.lt_or_ge pc 1200 with g | g
    · exact ⟨960, 1200, by omega, g, jk_326.2.2.2.2.1⟩
    exact ⟨1200, 1364, g, hp, jk_326.2.2.2.2.2⟩))
