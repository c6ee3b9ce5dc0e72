-- the links of the tables, all at once; the classes by their numbers
theorem sx_fl_ok : ∀ q ∈ sx_fl, lw_tbl[q.1]? = some (.fieldLink (sx_cn q.2.1) q.2.2.1 (sx_T q.2.2.2.1 q.2.2.2.2).1 (sx_T q.2.2.2.1 q.2.2.2.2).2.1 (sx_T q.2.2.2.1 q.2.2.2.2).2.2.1) := by decide +kernel
noncomputable def sx_yy (t : Nat) : MethodName := bif Nat.beq t 9996 then Lib.Math.max.name else bif Nat.beq t 9997 then Lib.Math.min.name else bif Nat.beq t 9998 then arraycopyName else bif Nat.beq t 9999 then objectInit else sx_y t
theorem sx_ml_ok : ∀ q ∈ sx_ml, lw_tbl[q.1]? = some (.methodLink (sx_cn q.2.1) q.2.2.1 (sx_yy q.2.2.2)) := by decide +kernel
theorem sx_kl_ok : ∀ q ∈ sx_kl, lw_tbl[q.1]? = some (.classLink (sx_cn q.2.1) q.2.2.1 (sx_cn q.2.2.2)) := by decide +kernel
theorem sx_ct_ok : ∀ q ∈ sx_ct, lw_tbl[q.1]? = some (.constant (sx_cn q.2.1) q.2.2.1 q.2.2.2) := by decide +kernel
theorem sx_lg_ok : ∀ q ∈ sx_lg, lw_tbl[q.1]? = some (.constantLong (sx_cn q.2.1) q.2.2.1 (Int64.ofNat q.2.2.2)) := by decide +kernel
theorem sx_arr_ok : lw_tbl[730]? = some (.native arraycopyName) ∧ lw_tbl[729]? = some (.static arraycopyName) ∧ lw_tbl[149]? = some (.initialized "java/lang/System") := by decide +kernel
theorem sx_obj_ok : lw_tbl[162]? = some (.instanceMethod objectInit) ∧ lw_tbl[163]? = some (.code objectInit ⟨#[0xb1]⟩ 1 none) := by decide +kernel
theorem sx_int_ok : lw_tbl[287]? = some (.arrayClass .int) := by decide +kernel
theorem sx_mth_ok : lw_tbl[150]? = some (.initialized "java/lang/Math") ∧ lw_tbl[777]? = some (.static Lib.Math.max.name) ∧ lw_tbl[732]? = some (.static Lib.Math.min.name) ∧ lw_tbl[778]? = some (.code Lib.Math.max.name Lib.Math.max.code 2 (some .int)) ∧ lw_tbl[733]? = some (.code Lib.Math.min.name Lib.Math.min.code 2 (some .int)) := by decide +kernel
noncomputable def sx_ip (c : Nat) : Nat × Nat := ([(289, 139), (165, 136), (510, 144), (318, 141), (609, 147), (488, 143), (312, 140), (526, 145), (577, 146), (402, 142), (171, 137), (157, 135), (1409, 148)] : List (Nat × Nat)).getD c (0, 0)
theorem sx_ip_ok : ∀ c, c < 13 → lw_tbl[(sx_ip c).1]? = some (.instantiable (sx_cn c) (sx_N c)) ∧ lw_tbl[(sx_ip c).2]? = some (.initialized (sx_cn c)) := by decide +kernel
theorem sx_c13 {P : Nat → Prop} (h : P 0 ∧ P 1 ∧ P 2 ∧ P 3 ∧ P 4 ∧ P 5 ∧ P 6 ∧ P 7 ∧ P 8 ∧ P 9 ∧ P 10 ∧ P 11 ∧ P 12) : ∀ c, c < 13 → P c := by
  obtain ⟨h0, h1, h2, h3, h4, h5, h6, h7, h8, h9, h10, h11, h12⟩ := h
  intro c hc
  rcases (show c = 0 ∨ c = 1 ∨ c = 2 ∨ c = 3 ∨ c = 4 ∨ c = 5 ∨ c = 6 ∨ c = 7 ∨ c = 8 ∨ c = 9 ∨ c = 10 ∨ c = 11 ∨ c = 12 by omega) with rfl | rfl | rfl | rfl | rfl | rfl | rfl | rfl | rfl | rfl | rfl | rfl | rfl <;> assumption
theorem sx_cl_at : ∀ c, c < 13 → sx_cl[c]? = some (sx_cn c, sx_T c, sx_N c) := sx_c13 ⟨rfl, rfl, rfl, rfl, rfl, rfl, rfl, rfl, rfl, rfl, rfl, rfl, rfl⟩
theorem sx_in : ∀ c, c < 13 → ∀ w ∈ u_ws (sx_cn c) (sx_T c) (sx_N c), w ∈ sx_tb := sx_c13 ⟨inX0, inX1, inX2, inX3, inX4, inX5, inX6, inX7, inX8, inX9, inX10, inX11, inX12⟩
theorem sx_nm : ∀ c, c < 13 → ∀ a, a < sx_N c → ∀ b, b < sx_N c → a ≠ b → (sx_T c a).2.1 ≠ (sx_T c b).2.1 := sx_c13 ⟨nmX0, nmX1, nmX2, nmX3, nmX4, nmX5, nmX6, nmX7, nmX8, nmX9, nmX10, nmX11, nmX12⟩
theorem sx_tyok : ∀ c, c < 13 → ∀ k, k < sx_N c → parseFieldDescriptor (sx_T c k).2.2.1 = some (sx_ty c k) := sx_c13 ⟨tyX0_ok, tyX1_ok, tyX2_ok, tyX3_ok, tyX4_ok, tyX5_ok, tyX6_ok, tyX7_ok, tyX8_ok, tyX9_ok, tyX10_ok, tyX11_ok, tyX12_ok⟩
theorem sx_fin : ∀ c, c < 13 → ∀ k, k < sx_N c → (sx_T c k).2.2.2 = sx_isF c k := sx_c13 (by decide +kernel)
theorem sx_own : ∀ c, c < 13 → ∀ k, k < sx_N c → (sx_T c k).1 = sx_cn c := sx_c13 (by decide +kernel)
/-- a field's type: an int, a truth value, or a reference -/
theorem sx_tyI : ∀ c, c < 13 → ∀ k, k < sx_N c → (sx_isI c k = true → sx_isZ c k = false → sx_ty c k = .int) ∧ (sx_isI c k = true → sx_isZ c k = true → sx_ty c k = .boolean) ∧ (sx_isI c k = false → fits (sx_ty c k) .null = true ∧ sx_ty c k ≠ .int ∧ sx_ty c k ≠ .boolean) := sx_c13 ⟨by decide +kernel, by decide +kernel, by decide +kernel, by decide +kernel, by decide +kernel, by decide +kernel, by decide +kernel, by decide +kernel, by decide +kernel, by decide +kernel, by decide +kernel, by decide +kernel, by decide +kernel⟩
