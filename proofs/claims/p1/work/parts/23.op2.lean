-- runs of the law, longer ones
theorem a1_4 : ax_run2 (a0_X 6 fun _ _ _ _ => none) (fun _ => false) 6553 [a0_at 332 (a0_all 6)] = true := by decide +kernel  -- act
theorem a1_21 : ax_run2 (a0_X 6 fun _ _ _ _ => none) (fun _ => false) 6028 [a0_at 863 (a0_all 6)] = true := by decide +kernel  -- quarrel
theorem a1_25 : ax_run2 (a0_X 6 fun _ _ _ _ => none) (fun _ => false) 6193 [a0_at 985 (a0_all 6)] = true := by decide +kernel  -- again
