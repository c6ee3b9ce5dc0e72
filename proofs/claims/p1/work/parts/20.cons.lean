-- the constructors, for every length of the script
theorem a0_cons6 : ax_run2 (a0_X 6 fun _ _ _ _ => none) (ax_cut [] (a0_at 18 (a0_all 6))) 5000 [a0_in (a0_all 6)] = true := by decide +kernel
