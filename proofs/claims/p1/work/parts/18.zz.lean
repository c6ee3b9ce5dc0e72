def zz_X (L : Nat) (post : Option ax_V → ax_M → ax_N → Bool) : ax_X := (L, ax_jo, ax_al, fun _ _ _ _ => none, post)
def zz_M : ax_M := (0, fun _ => none, fun _ _ => .inl (.int 0), fun _ _ => none)
def zz_c (L : Nat) : ax_C := ((420, 600000, 7302250, 326, 0, [some (.inl (.ref 1000000000)), none, none, none], []), [], zz_M, List.replicate L (-2147483648, 2147483647))
theorem zz_1 : ax_run (zz_X 5 fun a _ _ => decide (a = some (.inl (.int 1)))) 5000 [zz_c 5] = true := by decide +kernel
