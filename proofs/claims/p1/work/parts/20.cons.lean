-- the constructors, for every length of the script
theorem a0_cons6 : ax_run2 (a0_X 6 fun _ _ _ _ => none) (ax_cut [] (a0_at 18 (a0_all 6))) 5000 [a0_in (a0_all 6)] = true := by decide +kernel
theorem a0_len0 : ax_run2 (a0_X 0 fun _ _ _ _ => none) (fun _ => false) 5000 [a0_in (a0_all 0)] = true := by decide +kernel
theorem a0_len1 : ax_run2 (a0_X 1 fun _ _ _ _ => none) (fun _ => false) 5000 [a0_in (a0_all 1)] = true := by decide +kernel
theorem a0_len2 : ax_run2 (a0_X 2 fun _ _ _ _ => none) (fun _ => false) 5000 [a0_in (a0_all 2)] = true := by decide +kernel
theorem a0_len3 : ax_run2 (a0_X 3 fun _ _ _ _ => none) (fun _ => false) 5000 [a0_in (a0_all 3)] = true := by decide +kernel
theorem a0_len4 : ax_run2 (a0_X 4 fun _ _ _ _ => none) (fun _ => false) 5000 [a0_in (a0_all 4)] = true := by decide +kernel
theorem a0_len5 : ax_run2 (a0_X 5 fun _ _ _ _ => none) (fun _ => false) 5000 [a0_in (a0_all 5)] = true := by decide +kernel
