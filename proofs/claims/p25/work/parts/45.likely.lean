-- by program (wip/gen/mklk.py)
noncomputable def w_Thought_likely (l0 l1 l2 : Int) (g : zi_M) (Q : Int → zi_M → Prop) : Prop := (0 ≤ l0 ∧ l0 ≤ 1000) ∧ (0 ≤ l1 ∧ l1 ≤ 20) ∧ (0 ≤ l2 ∧ l2 ≤ 20) ∧ Q (sm_S l0 l1 l2) g
set_option maxRecDepth 100000 in
theorem sm_add {a b : Int32} {x y : Int} (ha : a.toInt = x) (hb : b.toInt = y) (h1 : -2147483648 ≤ x + y) (h2 : x + y ≤ 2147483647) : (a + b).toInt = x + y := by
  rw [Int32.toInt_add, ha, hb]
  exact ax_bmod h1 h2
theorem lm_bmod {x : Int} (h1 : -9223372036854775808 ≤ x) (h2 : x ≤ 9223372036854775807) : x.bmod (2 ^ 64) = x := by
  rw [Int.bmod_def]
  split <;> omega
theorem lm_mul {a b : Int64} {x y : Int} (ha : a.toInt = x) (hb : b.toInt = y) (h1 : -9223372036854775808 ≤ x * y) (h2 : x * y ≤ 9223372036854775807) : (a * b).toInt = x * y := by
  rw [Int64.toInt_mul, ha, hb]
  exact lm_bmod h1 h2
theorem lm_add {a b : Int64} {x y : Int} (ha : a.toInt = x) (hb : b.toInt = y) (h1 : -9223372036854775808 ≤ x + y) (h2 : x + y ≤ 9223372036854775807) : (a + b).toInt = x + y := by
  rw [Int64.toInt_add, ha, hb]
  exact lm_bmod h1 h2
theorem lm_sub {a b : Int64} {x y : Int} (ha : a.toInt = x) (hb : b.toInt = y) (h1 : -9223372036854775808 ≤ x - y) (h2 : x - y ≤ 9223372036854775807) : (a - b).toInt = x - y := by
  rw [Int64.toInt_sub, ha, hb]
  exact lm_bmod h1 h2
theorem lm_div {a b : Int64} {x y : Int} (ha : a.toInt = x) (hb : b.toInt = y) (h1 : 0 ≤ x) (h2 : 0 < y) : (a / b).toInt = x / y := by
  rw [Int64.toInt_div_of_ne_right a b (fun e => by
    rw [e] at hb
    have : (-1 : Int64).toInt = -1 := by decide
    omega), ha, hb, Int.tdiv_eq_ediv_of_nonneg h1]
theorem lg_cmp_ne {a : Int64} (h : ¬ a.toInt = 0) : ¬ lg_cmp a (Int64.ofNat 0) = 0 := by
  unfold lg_cmp
  split
  · decide
  · split
    · rename_i e
      exact absurd (by rw [e]; decide) h
    · decide
set_option maxRecDepth 100000 in
theorem sm_w6 {E : sx_E} {d : Nat} {m : sx_M} {Q : Option Value → sx_M → Prop} {q : Int64} {X : Int} (hq : q.toInt = X) (h1 : 0 ≤ X) (h2 : X ≤ 1000000) (hQ : ∀ r : Int64, r.toInt = sm_F 6 4 X → Q (some (.long r)) m) : sx_S E d 0 0 162 [.long q, .long (Int64.ofNat 600), .long (Int64.ofNat 400)] m Q := by
  have cA : (Int64.ofNat 600).toInt = 600 := by decide
  have cB : (Int64.ofNat 400).toInt = 400 := by decide
  have cM : (Int64.ofNat 1000000).toInt = 1000000 := by decide
  have g1 : (q * Int64.ofNat 600).toInt = X * 600 := lm_mul hq cA (by omega) (by omega)
  have g2 : (Int64.ofNat 1000000 - q).toInt = 1000000 - X := lm_sub cM hq (by omega) (by omega)
  have g3 : ((Int64.ofNat 1000000 - q) * Int64.ofNat 400).toInt = (1000000 - X) * 400 := lm_mul g2 cB (by omega) (by omega)
  have g4 : (q * Int64.ofNat 600 + (Int64.ofNat 1000000 - q) * Int64.ofNat 400).toInt = X * 600 + (1000000 - X) * 400 := lm_add g1 g3 (by omega) (by omega)
  have g5 : (q * Int64.ofNat 600 * Int64.ofNat 1000000).toInt = X * 600 * 1000000 := lm_mul g1 cM (by omega) (by omega)
  have g6 := lm_div g5 g4 (by omega) (by omega)
  have e : X * 600 * 1000000 / (X * 600 + (1000000 - X) * 400) = sm_F 6 4 X := by
    unfold sm_F
    have e1 : X * 600 * 1000000 = 100 * (X * 6 * 1000000) := by omega
    have e2 : X * 600 + (1000000 - X) * 400 = 100 * (X * 6 + (1000000 - X) * 4) := by omega
    rw [e1, e2, Int.mul_ediv_mul_of_pos _ _ (by decide)]
  have hne : ¬ (q * Int64.ofNat 600 + (Int64.ofNat 1000000 - q) * Int64.ofNat 400) = 0 := fun e0 => by
    rw [e0] at g4
    have : (0 : Int64).toInt = 0 := by decide
    omega
  refine sx_S.of2 jf_162 (Nat.le_of_ble_eq_true rfl) ?_
  show sx_W E d 0 0 162 0 [some (.long q), none, some (.long (Int64.ofNat 600)), none, some (.long (Int64.ofNat 400)), none, none, none] [] m _
  refine sx_lload_n (w := 0) (n := 1) (x := 0) (y := 0) (z := 0) rfl rfl ?_
  refine sx_lload_n (w := 2) (n := 1) (x := 0) (y := 0) (z := 0) rfl rfl ?_
  refine sx_lmul (n := 1) (x := 0) (y := 0) (z := 0) rfl ?_
  refine sx_ldc2 (i := 177) (n := 3) (x := 1000000) (y := 0) (z := 0) rfl ?_
  refine sx_lload_n (w := 0) (n := 1) (x := 0) (y := 0) (z := 0) rfl rfl ?_
  refine sx_lsub (n := 1) (x := 0) (y := 0) (z := 0) rfl ?_
  refine sx_lload (i := 4) (n := 2) (x := 0) (y := 0) (z := 0) rfl rfl ?_
  refine sx_lmul (n := 1) (x := 0) (y := 0) (z := 0) rfl ?_
  refine sx_ladd (n := 1) (x := 0) (y := 0) (z := 0) rfl ?_
  refine sx_lstore (i := 6) (n := 2) (x := 0) (y := 0) (z := 0) rfl ?_
  refine sx_lload (i := 6) (n := 2) (x := 0) (y := 0) (z := 0) rfl rfl ?_
  refine sx_lconst (w := 0) (n := 1) (x := 0) (y := 0) (z := 0) rfl ?_
  refine sx_lcmp (n := 1) (x := 0) (y := 0) (z := 0) rfl ?_
  refine sx_if (cd := .ne) (off := 7) (n := 3) (x := 25) (y := 0) (z := 0) rfl ⟨fun _ => ?_, fun hc => absurd hc (lg_cmp_ne (by rw [g4]; omega))⟩
  refine sx_lload_n (w := 0) (n := 1) (x := 0) (y := 0) (z := 0) rfl rfl ?_
  refine sx_lload_n (w := 2) (n := 1) (x := 0) (y := 0) (z := 0) rfl rfl ?_
  refine sx_lmul (n := 1) (x := 0) (y := 0) (z := 0) rfl ?_
  refine sx_ldc2 (i := 177) (n := 3) (x := 1000000) (y := 0) (z := 0) rfl ?_
  refine sx_lmul (n := 1) (x := 0) (y := 0) (z := 0) rfl ?_
  refine sx_lload (i := 6) (n := 2) (x := 0) (y := 0) (z := 0) rfl rfl ?_
  refine sx_ldiv (n := 1) (x := 0) (y := 0) (z := 0) rfl hne ?_
  exact sx_lret (n := 1) (x := 0) (y := 0) (z := 0) rfl rfl (hQ _ (g6.trans e))
set_option maxRecDepth 100000 in
theorem sm_w4 {E : sx_E} {d : Nat} {m : sx_M} {Q : Option Value → sx_M → Prop} {q : Int64} {X : Int} (hq : q.toInt = X) (h1 : 0 ≤ X) (h2 : X ≤ 1000000) (hQ : ∀ r : Int64, r.toInt = sm_F 4 6 X → Q (some (.long r)) m) : sx_S E d 0 0 162 [.long q, .long (Int64.ofNat 400), .long (Int64.ofNat 600)] m Q := by
  have cA : (Int64.ofNat 400).toInt = 400 := by decide
  have cB : (Int64.ofNat 600).toInt = 600 := by decide
  have cM : (Int64.ofNat 1000000).toInt = 1000000 := by decide
  have g1 : (q * Int64.ofNat 400).toInt = X * 400 := lm_mul hq cA (by omega) (by omega)
  have g2 : (Int64.ofNat 1000000 - q).toInt = 1000000 - X := lm_sub cM hq (by omega) (by omega)
  have g3 : ((Int64.ofNat 1000000 - q) * Int64.ofNat 600).toInt = (1000000 - X) * 600 := lm_mul g2 cB (by omega) (by omega)
  have g4 : (q * Int64.ofNat 400 + (Int64.ofNat 1000000 - q) * Int64.ofNat 600).toInt = X * 400 + (1000000 - X) * 600 := lm_add g1 g3 (by omega) (by omega)
  have g5 : (q * Int64.ofNat 400 * Int64.ofNat 1000000).toInt = X * 400 * 1000000 := lm_mul g1 cM (by omega) (by omega)
  have g6 := lm_div g5 g4 (by omega) (by omega)
  have e : X * 400 * 1000000 / (X * 400 + (1000000 - X) * 600) = sm_F 4 6 X := by
    unfold sm_F
    have e1 : X * 400 * 1000000 = 100 * (X * 4 * 1000000) := by omega
    have e2 : X * 400 + (1000000 - X) * 600 = 100 * (X * 4 + (1000000 - X) * 6) := by omega
    rw [e1, e2, Int.mul_ediv_mul_of_pos _ _ (by decide)]
  have hne : ¬ (q * Int64.ofNat 400 + (Int64.ofNat 1000000 - q) * Int64.ofNat 600) = 0 := fun e0 => by
    rw [e0] at g4
    have : (0 : Int64).toInt = 0 := by decide
    omega
  refine sx_S.of2 jf_162 (Nat.le_of_ble_eq_true rfl) ?_
  show sx_W E d 0 0 162 0 [some (.long q), none, some (.long (Int64.ofNat 400)), none, some (.long (Int64.ofNat 600)), none, none, none] [] m _
  refine sx_lload_n (w := 0) (n := 1) (x := 0) (y := 0) (z := 0) rfl rfl ?_
  refine sx_lload_n (w := 2) (n := 1) (x := 0) (y := 0) (z := 0) rfl rfl ?_
  refine sx_lmul (n := 1) (x := 0) (y := 0) (z := 0) rfl ?_
  refine sx_ldc2 (i := 177) (n := 3) (x := 1000000) (y := 0) (z := 0) rfl ?_
  refine sx_lload_n (w := 0) (n := 1) (x := 0) (y := 0) (z := 0) rfl rfl ?_
  refine sx_lsub (n := 1) (x := 0) (y := 0) (z := 0) rfl ?_
  refine sx_lload (i := 4) (n := 2) (x := 0) (y := 0) (z := 0) rfl rfl ?_
  refine sx_lmul (n := 1) (x := 0) (y := 0) (z := 0) rfl ?_
  refine sx_ladd (n := 1) (x := 0) (y := 0) (z := 0) rfl ?_
  refine sx_lstore (i := 6) (n := 2) (x := 0) (y := 0) (z := 0) rfl ?_
  refine sx_lload (i := 6) (n := 2) (x := 0) (y := 0) (z := 0) rfl rfl ?_
  refine sx_lconst (w := 0) (n := 1) (x := 0) (y := 0) (z := 0) rfl ?_
  refine sx_lcmp (n := 1) (x := 0) (y := 0) (z := 0) rfl ?_
  refine sx_if (cd := .ne) (off := 7) (n := 3) (x := 25) (y := 0) (z := 0) rfl ⟨fun _ => ?_, fun hc => absurd hc (lg_cmp_ne (by rw [g4]; omega))⟩
  refine sx_lload_n (w := 0) (n := 1) (x := 0) (y := 0) (z := 0) rfl rfl ?_
  refine sx_lload_n (w := 2) (n := 1) (x := 0) (y := 0) (z := 0) rfl rfl ?_
  refine sx_lmul (n := 1) (x := 0) (y := 0) (z := 0) rfl ?_
  refine sx_ldc2 (i := 177) (n := 3) (x := 1000000) (y := 0) (z := 0) rfl ?_
  refine sx_lmul (n := 1) (x := 0) (y := 0) (z := 0) rfl ?_
  refine sx_lload (i := 6) (n := 2) (x := 0) (y := 0) (z := 0) rfl rfl ?_
  refine sx_ldiv (n := 1) (x := 0) (y := 0) (z := 0) rfl hne ?_
  exact sx_lret (n := 1) (x := 0) (y := 0) (z := 0) rfl rfl (hQ _ (g6.trans e))

-- surmise: the loops of the class and of the reference
set_option maxRecDepth 100000 in
theorem sm_c1 {E : sx_E} {d : Nat} {m : sx_M} {Q : Option Value → sx_M → Prop} {p n mm : Int32} :
    ∀ (k : Nat) (i : Int32) (q : Int64) (X : Int), 0 ≤ i.toInt → i.toInt + (k : Int) = n.toInt → n.toInt ≤ 20 → q.toInt = X → 0 ≤ X → X ≤ 1000000 → (∀ (q' : Int64) (i' : Int32), q'.toInt = sm_it 6 4 k X → sx_W E (d + 2) 0 0 161 33 [some (.int p), some (.int n), some (.int mm), some (.long q'), none, some (.int i')] [] m Q) → sx_W E (d + 2) 0 0 161 10 [some (.int p), some (.int n), some (.int mm), some (.long q), none, some (.int i)] [] m Q
  | 0, i, q, X, hi0, hi, hn, hq, h1, h2, hk => by
    refine sx_iload (i := 5) (n := 2) (x := 0) (y := 0) (z := 0) rfl rfl ?_
    refine sx_iload_n (w := 1) (n := 1) (x := 0) (y := 0) (z := 0) rfl rfl ?_
    refine sx_icmp (cd := .ge) (off := 20) (n := 3) (x := 33) (y := 0) (z := 0) rfl ⟨fun _ => ?_, fun hc => absurd (by rw [Int32.le_iff_toInt_le]; omega) hc⟩
    exact hk q i hq
  | k + 1, i, q, X, hi0, hi, hn, hq, h1, h2, hk => by
    have g7 : (i + 1).toInt = i.toInt + 1 := sm_add rfl (by decide) (by omega) (by omega)
    refine sx_iload (i := 5) (n := 2) (x := 0) (y := 0) (z := 0) rfl rfl ?_
    refine sx_iload_n (w := 1) (n := 1) (x := 0) (y := 0) (z := 0) rfl rfl ?_
    refine sx_icmp (cd := .ge) (off := 20) (n := 3) (x := 33) (y := 0) (z := 0) rfl ⟨fun hc => absurd hc (by rw [Int32.le_iff_toInt_le]; omega), fun _ => ?_⟩
    refine sx_lload_n (w := 3) (n := 1) (x := 0) (y := 0) (z := 0) rfl rfl ?_
    refine sx_ldc2 (i := 169) (n := 3) (x := 600) (y := 0) (z := 0) rfl ?_
    refine sx_ldc2 (i := 171) (n := 3) (x := 400) (y := 0) (z := 0) rfl ?_
    refine sx_callS (i := 173) (x := 162) (y := 3) (z := 0) (n := 3) (d' := d) (kc' := 0) (ks' := 0) (as := [.long q, .long (Int64.ofNat 600), .long (Int64.ofNat 400)]) (rest := []) (Q' := fun v m' => (∃ r : Int64, v = some (.long r) ∧ r.toInt = sm_F 6 4 X) ∧ m' = m) rfl rfl (by decide) rfl (Nat.le_of_ble_eq_true rfl) (by omega) (Nat.le_refl _) (Nat.le_refl _) (sm_w6 hq h1 h2 fun r hr => ⟨⟨r, rfl, hr⟩, rfl⟩) fun v m' hv => ?_
    obtain ⟨⟨r, rfl, hr⟩, rfl⟩ := hv
    show sx_W E (d + 2) 0 0 161 26 [some (.int p), some (.int n), some (.int mm), some (.long q), none, some (.int i)] [.long r] m' _
    refine sx_lstore_n (w := 3) (n := 1) (x := 0) (y := 0) (z := 0) rfl ?_
    refine sx_iinc (i := 5) (q := 1) (n := 3) (x := 0) (y := 0) (z := 1) rfl rfl ?_
    refine sx_goto (off := (-20)) (n := 3) (x := 10) (y := 0) (z := 0) rfl ?_
    exact sm_c1 k (i + 1) r (sm_F 6 4 X) (by omega) (by omega) hn hr (sm_F_in (by decide) (by decide) h1 h2).1 (sm_F_in (by decide) (by decide) h1 h2).2 hk
set_option maxRecDepth 100000 in
theorem sm_c2 {E : sx_E} {d : Nat} {m : sx_M} {Q : Option Value → sx_M → Prop} {p n mm : Int32} :
    ∀ (k : Nat) (i : Int32) (q : Int64) (X : Int), 0 ≤ i.toInt → i.toInt + (k : Int) = mm.toInt → mm.toInt ≤ 20 → q.toInt = X → 0 ≤ X → X ≤ 1000000 → (∀ (q' : Int64) (i' : Int32), q'.toInt = sm_it 4 6 k X → sx_W E (d + 2) 0 0 161 59 [some (.int p), some (.int n), some (.int mm), some (.long q'), none, some (.int i')] [] m Q) → sx_W E (d + 2) 0 0 161 36 [some (.int p), some (.int n), some (.int mm), some (.long q), none, some (.int i)] [] m Q
  | 0, i, q, X, hi0, hi, hn, hq, h1, h2, hk => by
    refine sx_iload (i := 5) (n := 2) (x := 0) (y := 0) (z := 0) rfl rfl ?_
    refine sx_iload_n (w := 2) (n := 1) (x := 0) (y := 0) (z := 0) rfl rfl ?_
    refine sx_icmp (cd := .ge) (off := 20) (n := 3) (x := 59) (y := 0) (z := 0) rfl ⟨fun _ => ?_, fun hc => absurd (by rw [Int32.le_iff_toInt_le]; omega) hc⟩
    exact hk q i hq
  | k + 1, i, q, X, hi0, hi, hn, hq, h1, h2, hk => by
    have g7 : (i + 1).toInt = i.toInt + 1 := sm_add rfl (by decide) (by omega) (by omega)
    refine sx_iload (i := 5) (n := 2) (x := 0) (y := 0) (z := 0) rfl rfl ?_
    refine sx_iload_n (w := 2) (n := 1) (x := 0) (y := 0) (z := 0) rfl rfl ?_
    refine sx_icmp (cd := .ge) (off := 20) (n := 3) (x := 59) (y := 0) (z := 0) rfl ⟨fun hc => absurd hc (by rw [Int32.le_iff_toInt_le]; omega), fun _ => ?_⟩
    refine sx_lload_n (w := 3) (n := 1) (x := 0) (y := 0) (z := 0) rfl rfl ?_
    refine sx_ldc2 (i := 171) (n := 3) (x := 400) (y := 0) (z := 0) rfl ?_
    refine sx_ldc2 (i := 169) (n := 3) (x := 600) (y := 0) (z := 0) rfl ?_
    refine sx_callS (i := 173) (x := 162) (y := 3) (z := 0) (n := 3) (d' := d) (kc' := 0) (ks' := 0) (as := [.long q, .long (Int64.ofNat 400), .long (Int64.ofNat 600)]) (rest := []) (Q' := fun v m' => (∃ r : Int64, v = some (.long r) ∧ r.toInt = sm_F 4 6 X) ∧ m' = m) rfl rfl (by decide) rfl (Nat.le_of_ble_eq_true rfl) (by omega) (Nat.le_refl _) (Nat.le_refl _) (sm_w4 hq h1 h2 fun r hr => ⟨⟨r, rfl, hr⟩, rfl⟩) fun v m' hv => ?_
    obtain ⟨⟨r, rfl, hr⟩, rfl⟩ := hv
    show sx_W E (d + 2) 0 0 161 52 [some (.int p), some (.int n), some (.int mm), some (.long q), none, some (.int i)] [.long r] m' _
    refine sx_lstore_n (w := 3) (n := 1) (x := 0) (y := 0) (z := 0) rfl ?_
    refine sx_iinc (i := 5) (q := 1) (n := 3) (x := 0) (y := 0) (z := 1) rfl rfl ?_
    refine sx_goto (off := (-20)) (n := 3) (x := 36) (y := 0) (z := 0) rfl ?_
    exact sm_c2 k (i + 1) r (sm_F 4 6 X) (by omega) (by omega) hn hr (sm_F_in (by decide) (by decide) h1 h2).1 (sm_F_in (by decide) (by decide) h1 h2).2 hk
set_option maxRecDepth 100000 in
theorem sm_cS {E : sx_E} {m : sx_M} {Q : Option Value → sx_M → Prop} {p n mm : Int32} (hp1 : 0 ≤ p.toInt) (hp2 : p.toInt ≤ 1000) (hn1 : 0 ≤ n.toInt) (hn2 : n.toInt ≤ 20) (hm1 : 0 ≤ mm.toInt) (hm2 : mm.toInt ≤ 20) (hQ : ∀ r : Int32, r.toInt = sm_S p.toInt n.toInt mm.toInt → Q (some (.int r)) m) : sx_S E 10 0 0 161 [.int p, .int n, .int mm] m Q := by
  have g : (p.toInt64 * Int64.ofNat 1000).toInt = 1000 * p.toInt := by
    rw [Int.mul_comm]
    exact lm_mul (Int32.toInt_toInt64 p) (by decide) (by omega) (by omega)
  have c0 : (0 : Int32).toInt = 0 := by decide
  have i1 := sm_it_in (a := 6) (b := 4) (by decide) (by decide) n.toInt.toNat (1000 * p.toInt) (by omega) (by omega)
  have i2 := sm_it_in (a := 4) (b := 6) (by decide) (by decide) mm.toInt.toNat _ i1.1 i1.2
  refine sx_S.of2 jf_161 (Nat.le_of_ble_eq_true rfl) ?_
  show sx_W E 10 0 0 161 0 [some (.int p), some (.int n), some (.int mm), none, none, none] [] m _
  refine sx_iload_n (w := 0) (n := 1) (x := 0) (y := 0) (z := 0) rfl rfl ?_
  refine sx_i2l (n := 1) (x := 0) (y := 0) (z := 0) rfl ?_
  refine sx_ldc2 (i := 167) (n := 3) (x := 1000) (y := 0) (z := 0) rfl ?_
  refine sx_lmul (n := 1) (x := 0) (y := 0) (z := 0) rfl ?_
  refine sx_lstore_n (w := 3) (n := 1) (x := 0) (y := 0) (z := 0) rfl ?_
  refine sx_iconst (q := 0) (n := 1) (x := 0) (y := 0) (z := 0) rfl ?_
  refine sx_istore (i := 5) (n := 2) (x := 0) (y := 0) (z := 0) rfl ?_
  show sx_W E (8 + 2) 0 0 161 10 [some (.int p), some (.int n), some (.int mm), some (.long (p.toInt64 * Int64.ofNat 1000)), none, some (.int 0)] [] m _
  refine sm_c1 n.toInt.toNat 0 _ (1000 * p.toInt) (by omega) (by omega) hn2 g (by omega) (by omega) fun q1 j1 hq1 => ?_
  refine sx_iconst (q := 0) (n := 1) (x := 0) (y := 0) (z := 0) rfl ?_
  refine sx_istore (i := 5) (n := 2) (x := 0) (y := 0) (z := 0) rfl ?_
  show sx_W E (8 + 2) 0 0 161 36 [some (.int p), some (.int n), some (.int mm), some (.long q1), none, some (.int 0)] [] m _
  refine sm_c2 mm.toInt.toNat 0 _ _ (by omega) (by omega) hm2 hq1 i1.1 i1.2 fun q2 j2 hq2 => ?_
  refine sx_lload_n (w := 3) (n := 1) (x := 0) (y := 0) (z := 0) rfl rfl ?_
  refine sx_l2i (n := 1) (x := 0) (y := 0) (z := 0) rfl ?_
  refine sx_iret (n := 1) (x := 0) (y := 0) (z := 0) rfl (Or.inl rfl) (hQ _ ?_)
  rw [Int64.toInt_toInt32, hq2]
  exact ax_bmod (by omega) (by omega)
theorem s_Thought_likely {E : sx_E} {d : Nat} (hd : 10 ≤ d) {l0 l1 l2 : Int} {g : zi_M} {Q : Int → zi_M → Prop} (h : w_Thought_likely l0 l1 l2 g Q) : zi_S E 10 161 [zi_i l0, zi_i l1, zi_i l2] g (zi_Q Q) := by
  obtain ⟨⟨a1, a2⟩, ⟨b1, b2⟩, ⟨c1, c2⟩, h⟩ := h
  intro m hm
  have e0 : (Int32.ofInt l0).toInt = l0 := zi_to ⟨by omega, by omega⟩
  have e1 : (Int32.ofInt l1).toInt = l1 := zi_to ⟨by omega, by omega⟩
  have e2 : (Int32.ofInt l2).toInt = l2 := zi_to ⟨by omega, by omega⟩
  refine sm_cS (p := Int32.ofInt l0) (n := Int32.ofInt l1) (mm := Int32.ofInt l2) (by omega) (by omega) (by omega) (by omega) (by omega) (by omega) (fun r hr => ?_)
  rw [e0, e1, e2] at hr
  refine ⟨sm_S l0 l1 l2, g, ?_, hm, h⟩
  rw [← hr]
  show some (Value.int r) = some (Value.int (Int32.ofInt r.toInt))
  rw [Int32.ofInt_toInt]
