-- keeps, by the image it asks for
theorem k27_0_r0 : ax_run2 (a0_X 6 fun _ _ _ _ => none) (fun _ => false) 7644 [a0_at 1067 ((a0_all 6).set 1 ((-2147483648), (-1)))] = true := by decide +kernel
theorem k27_0_G0 {E : sx_E} (hL : sx_Ln E = 6) : ax_G E (a0_B E) a0_Q (a0_at 1067 ((a0_all 6).set 1 ((-2147483648), (-1)))) := ax_run2_ok (a0_XO hL) a0_nost _ _ k27_0_r0 _ (List.mem_singleton.mpr rfl)
theorem k27_1_r0 : ax_run2 (a0_X 6 fun _ _ _ _ => none) (fun _ => false) 7619 [a0_at 1067 ((a0_all 6).set 1 (0, 0))] = true := by decide +kernel
theorem k27_1_G0 {E : sx_E} (hL : sx_Ln E = 6) : ax_G E (a0_B E) a0_Q (a0_at 1067 ((a0_all 6).set 1 (0, 0))) := ax_run2_ok (a0_XO hL) a0_nost _ _ k27_1_r0 _ (List.mem_singleton.mpr rfl)
theorem k27_2_r0 : ax_run2 (a0_X 6 fun _ _ _ _ => none) (fun _ => false) 7632 [a0_at 1067 ((a0_all 6).set 1 (1, 1))] = true := by decide +kernel
theorem k27_2_G0 {E : sx_E} (hL : sx_Ln E = 6) : ax_G E (a0_B E) a0_Q (a0_at 1067 ((a0_all 6).set 1 (1, 1))) := ax_run2_ok (a0_XO hL) a0_nost _ _ k27_2_r0 _ (List.mem_singleton.mpr rfl)
theorem k27_3_r0 : ax_run2 (a0_X 6 fun _ _ _ _ => none) (fun _ => false) 7645 [a0_at 1067 ((a0_all 6).set 1 (2, 2))] = true := by decide +kernel
theorem k27_3_G0 {E : sx_E} (hL : sx_Ln E = 6) : ax_G E (a0_B E) a0_Q (a0_at 1067 ((a0_all 6).set 1 (2, 2))) := ax_run2_ok (a0_XO hL) a0_nost _ _ k27_3_r0 _ (List.mem_singleton.mpr rfl)
theorem k27_4_r0 : ax_run2 (a0_X 6 fun _ _ _ _ => none) (fun _ => false) 7658 [a0_at 1067 ((a0_all 6).set 1 (3, 3))] = true := by decide +kernel
theorem k27_4_G0 {E : sx_E} (hL : sx_Ln E = 6) : ax_G E (a0_B E) a0_Q (a0_at 1067 ((a0_all 6).set 1 (3, 3))) := ax_run2_ok (a0_XO hL) a0_nost _ _ k27_4_r0 _ (List.mem_singleton.mpr rfl)
theorem k27_5_r0 : ax_run2 (a0_X 6 fun _ _ _ _ => none) (fun _ => false) 252 [a0_at 1067 ((a0_all 6).set 1 (4, 2147483647))] = true := by decide +kernel
theorem k27_5_G0 {E : sx_E} (hL : sx_Ln E = 6) : ax_G E (a0_B E) a0_Q (a0_at 1067 ((a0_all 6).set 1 (4, 2147483647))) := ax_run2_ok (a0_XO hL) a0_nost _ _ k27_5_r0 _ (List.mem_singleton.mpr rfl)
theorem a1_G27 {E : sx_E} (hL : sx_Ln E = 6) : ax_G E (a0_B E) a0_Q (a0_at 1067 (a0_all 6)) := ax_G.cuts 1 [(-1), 0, 1, 2, 3] rfl (List.forall_mem_cons.mpr ⟨k27_0_G0 hL, List.forall_mem_cons.mpr ⟨k27_1_G0 hL, List.forall_mem_cons.mpr ⟨k27_2_G0 hL, List.forall_mem_cons.mpr ⟨k27_3_G0 hL, List.forall_mem_cons.mpr ⟨k27_4_G0 hL, List.forall_mem_cons.mpr ⟨k27_5_G0 hL, fun _ h => absurd h List.not_mem_nil⟩⟩⟩⟩⟩⟩)
