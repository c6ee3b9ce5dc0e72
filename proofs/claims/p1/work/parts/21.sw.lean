-- the law from its loop to its switch
theorem sx_swT_all {v : Int32} {pc : Nat} {P : Nat → Prop} : ∀ (l : List Int) (a : Int), (∀ o ∈ l, P ((pc : Int) + o).toNat) → sx_swT v pc P a l
  | [], _, _ => trivial
  | o :: l, a, h => ⟨fun _ => h o List.mem_cons_self, sx_swT_all l (a + 1) fun q hq => h q (List.mem_cons_of_mem _ hq)⟩
def a0_tg : List Nat := [1356, 200, 223, 266, 289, 332, 375, 398, 461, 484, 507, 530, 563, 596, 629, 652, 685, 718, 751, 784, 807, 840, 863, 896, 919, 952, 985, 1008, 1067, 1090, 1133, 1156, 1179, 1202, 1225, 1258, 1281, 1294, 1333]
def a0_of : List Int := [167, 190, 233, 256, 299, 342, 365, 428, 451, 474, 497, 530, 563, 596, 619, 652, 685, 718, 751, 774, 807, 830, 863, 886, 919, 952, 975, 1034, 1057, 1100, 1123, 1146, 1169, 1192, 1225, 1248, 1261, 1300]
theorem a0_in_tg : ∀ o ∈ a0_of, ((33 : Nat) + o : Int).toNat ∈ a0_tg := by decide +kernel
theorem a0_hp : 0 ≤ ((33 : Nat) : Int) + 1323 ∧ (a0_of.toArray.toList.all fun o => decide (0 ≤ ((33 : Nat) : Int) + o)) = true ∧ a0_of.toArray.size = ((37 : Int) - 0 + 1).toNat := by decide +kernel
theorem a0_df : (((33 : Nat) : Int) + 1323).toNat = 1356 := by decide
theorem a0_rl4 {ρ : Nat → Int} {ls : List (Option Value)} (h : ax_rl ρ a0_ls ls) : ls = [some (.ref 1000000000), some (.ref 0), some (.ref 214), some (.int 0)] := by
  match ls, h with
  | [some a, some b, some c, some d], h =>
    obtain ⟨h1, h2, h3, h4, -⟩ := h
    have e1 : a = .ref 1000000000 := h1
    have e2 : b = .ref 0 := h2
    have e3 : c = .ref 214 := h3
    have e4 : d = .int 0 := h4
    rw [e1, e2, e3, e4]
set_option maxRecDepth 100000 in
theorem a0_head {E : sx_E} {B : (Nat → Int) → Prop} {Q : Option Value → sx_M → Prop} (hL : sx_Ln E = 6) (h : ∀ t ∈ a0_tg, ax_G E B Q (a0_at t (a0_all 6))) : ax_G E B Q (a0_at 18 (a0_all 6)) := by
  intro ρ ls st fs m hB hls hst hfs hm hN
  have hk : ∀ t ∈ a0_tg, sx_W E 420 599749 7282378 326 t ls [] m (ax_P E Q fs) := fun t ht => h t ht ρ ls [] fs m hB hls trivial hfs hm hN
  have els := a0_rl4 hls
  have est : st = [] := ax_rs0 hst
  subst est
  show sx_W E 420 599749 7282378 326 18 ls [] m (ax_P E Q fs)
  clear hls
  subst els
  refine sx_iload_n (w := 3) (v := 0) (n := 1) (x := 0) (y := 0) (z := 0) rfl rfl ?_
  refine sx_aload_n (w := 0) (v := 1000000000) (n := 1) (x := 0) (y := 0) (z := 0) rfl rfl ?_
  refine sx_alX (n := 1) (x := 0) (y := 0) (z := 0) rfl ?_
  rw [hL]
  refine sx_bipush (q := 6) (n := 2) (x := 0) (y := 0) (z := 6) rfl ?_
  refine sx_isub (n := 1) (x := 0) (y := 0) (z := 0) rfl ?_
  refine sx_icmp (cd := .gt) (off := 1338) (n := 3) (x := 1362) (y := 0) (z := 0) rfl ⟨fun hc => absurd hc (by decide), fun _ => ?_⟩
  refine sx_aload_n (w := 0) (v := 1000000000) (n := 1) (x := 0) (y := 0) (z := 0) rfl rfl ?_
  refine sx_iload_n (w := 3) (v := 0) (n := 1) (x := 0) (y := 0) (z := 0) rfl rfl ?_
  refine sx_iaX (n := 1) (x := 0) (y := 0) (z := 0) rfl (by rw [hL]; decide) ?_
  refine sx_bipush (q := 63) (n := 2) (x := 0) (y := 0) (z := 63) rfl ?_
  refine sx_iand (n := 1) (x := 0) (y := 0) (z := 0) rfl ?_
  refine sx_tsw (dflt := 1323) (lo := 0) (hi := 37) (offs := a0_of.toArray) (n := 167) (x := 0) (y := 0) (z := 0) rfl a0_hp (fun _ => ?_) (sx_swT_all _ _ fun o ho => hk _ (a0_in_tg o (by simpa using ho)))
  rw [a0_df]
  exact hk 1356 (by decide)
