-- by program (wip/gen/mklaw.py)
set_option maxRecDepth 100000 in
theorem zw_step {E : sx_E} {i : Int} {g : zi_M} (hL : sx_Ln E ≤ 3072) (h0 : 0 ≤ i) (h1 : i ≤ ((sx_Ln E : Nat) : Int)) (R : zw_R g) (kk : i + 6 ≤ ((sx_Ln E : Nat) : Int) → ∀ g' : zi_M, zw_R g' → zi_W E 420 326 18 [some (.ref 1000000000), some (.ref 0), some (.ref 214), some (zi_i (i + 6))] [] g' zw_Q) : zi_W E 420 326 18 [some (.ref 1000000000), some (.ref 0), some (.ref 214), some (zi_i i)] [] g zw_Q := by
  refine zi_iload_n (pc' := 19) rfl rfl rfl ?_
  refine zi_aload_n (pc' := 20) rfl rfl rfl ?_
  refine zi_xlen (pc' := 21) rfl rfl ?_
  refine zi_bipush (pc' := 23) rfl rfl (by decide) ?_
  refine zi_isub (pc' := 24) rfl rfl ?_
  refine zi_icmp_gt (x := 1362) (pc' := 27) rfl rfl ⟨by omega, by omega⟩ ⟨by omega, by omega⟩ (fun c => ?_) (fun c => ?_)
  · refine zi_iconst (pc' := 1363) rfl rfl ?_
    exact zi_zret rfl rfl (Or.inr rfl) rfl
  · have h6 : i + 6 ≤ ((sx_Ln E : Nat) : Int) := by omega
    have k : ∀ g' : zi_M, zw_R g' → zi_W E 420 326 1356 [some (.ref 1000000000), some (.ref 0), some (.ref 214), some (zi_i i)] [] g' zw_Q := by
      intro g' R'
      refine zi_iinc (pc' := 1359) [some _, some _, some _, some _] rfl rfl rfl rfl ?_
      refine zi_goto (x := 18) rfl ?_
      exact kk h6 g' R'
    refine zi_aload_n (pc' := 28) rfl rfl rfl ?_
    refine zi_iload_n (pc' := 29) rfl rfl rfl ?_
    refine zi_xald (pc' := 30) rfl rfl hL ⟨by omega, by omega⟩ ?_
    refine zi_bipush (pc' := 32) rfl rfl (by decide) ?_
    refine zi_iand (pc' := 33) rfl rfl ?_
    exact zi_tsw [(0, 200), (1, 223), (2, 266), (3, 289), (4, 332), (5, 375), (6, 398), (7, 461), (8, 484), (9, 507), (10, 530), (11, 563), (12, 596), (13, 629), (14, 652), (15, 685), (16, 718), (17, 751), (18, 784), (19, 807), (20, 840), (21, 863), (22, 896), (23, 919), (24, 952), (25, 985), (26, 1008), (27, 1067), (28, 1090), (29, 1133), (30, 1156), (31, 1179), (32, 1202), (33, 1225), (34, 1258), (35, 1281), (36, 1294), (37, 1333)] 1356 rfl rfl (zi_r_and _ _) (fun _ => k g R) (And.intro (fun _ => zw_c0 hL h0 h6 R k) (And.intro (fun _ => zw_c1 hL h0 h6 R k) (And.intro (fun _ => zw_c2 hL h0 h6 R k) (And.intro (fun _ => zw_c3 hL h0 h6 R k) (And.intro (fun _ => zw_c4 hL h0 h6 R k) (And.intro (fun _ => zw_c5 hL h0 h6 R k) (And.intro (fun _ => zw_c6 hL h0 h6 R k) (And.intro (fun _ => zw_c7 hL h0 h6 R k) (And.intro (fun _ => zw_c8 hL h0 h6 R k) (And.intro (fun _ => zw_c9 hL h0 h6 R k) (And.intro (fun _ => zw_c10 hL h0 h6 R k) (And.intro (fun _ => zw_c11 hL h0 h6 R k) (And.intro (fun _ => zw_c12 hL h0 h6 R k) (And.intro (fun _ => zw_c13 hL h0 h6 R k) (And.intro (fun _ => zw_c14 hL h0 h6 R k) (And.intro (fun _ => zw_c15 hL h0 h6 R k) (And.intro (fun _ => zw_c16 hL h0 h6 R k) (And.intro (fun _ => zw_c17 hL h0 h6 R k) (And.intro (fun _ => zw_c18 hL h0 h6 R k) (And.intro (fun _ => zw_c19 hL h0 h6 R k) (And.intro (fun _ => zw_c20 hL h0 h6 R k) (And.intro (fun _ => zw_c21 hL h0 h6 R k) (And.intro (fun _ => zw_c22 hL h0 h6 R k) (And.intro (fun _ => zw_c23 hL h0 h6 R k) (And.intro (fun _ => zw_c24 hL h0 h6 R k) (And.intro (fun _ => zw_c25 hL h0 h6 R k) (And.intro (fun _ => zw_c26 hL h0 h6 R k) (And.intro (fun _ => zw_c27 hL h0 h6 R k) (And.intro (fun _ => zw_c28 hL h0 h6 R k) (And.intro (fun _ => zw_c29 hL h0 h6 R k) (And.intro (fun _ => zw_c30 hL h0 h6 R k) (And.intro (fun _ => zw_c31 hL h0 h6 R k) (And.intro (fun _ => zw_c32 hL h0 h6 R k) (And.intro (fun _ => zw_c33 hL h0 h6 R k) (And.intro (fun _ => zw_c34 hL h0 h6 R k) (And.intro (fun _ => zw_c35 hL h0 h6 R k) (And.intro (fun _ => zw_c36 hL h0 h6 R k) (And.intro (fun _ => zw_c37 hL h0 h6 R k) trivial))))))))))))))))))))))))))))))))))))))
theorem zw_loop {E : sx_E} (hL : sx_Ln E ≤ 3072) : ∀ (f : Nat) (i : Int) (g : zi_M), 0 ≤ i → i ≤ ((sx_Ln E : Nat) : Int) → ((sx_Ln E : Nat) : Int) - i ≤ (f : Int) → zw_R g → zi_W E 420 326 18 [some (.ref 1000000000), some (.ref 0), some (.ref 214), some (zi_i i)] [] g zw_Q
  | 0, i, g, h0, h1, h2, R => zw_step hL h0 h1 R (fun h6 => by exfalso; omega)
  | f + 1, i, g, h0, h1, h2, R => zw_step hL h0 h1 R (fun h6 g' R' => zw_loop hL f (i + 6) g' (by omega) h6 (by omega) R')
theorem zw_run {E : sx_E} (hL : sx_Ln E ≤ 3072) : sx_W E 420 600000 7302250 326 0 [some (.ref 1000000000), none, none, none] [] (0, fun _ => none, fun _ _ => 0, fun _ _ => none) zw_Q :=
  zw_ini (fun m hm => zw_loop hL (sx_Ln E) 0 zw_g0 (Int.le_refl 0) (by omega) (by omega) zw_R0 m hm)
