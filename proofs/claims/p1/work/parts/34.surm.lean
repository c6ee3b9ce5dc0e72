-- surmise: the loops of the class and of the reference
def sm_it (a b : Int) : Nat → Int → Int
  | 0, q => q
  | k + 1, q => sm_it a b k (sm_F a b q)
theorem sm_it_in {a b : Int} (ha : 0 < a) (hb : 0 < b) : ∀ (k : Nat) (q : Int), 0 ≤ q → q ≤ 1000000 → 0 ≤ sm_it a b k q ∧ sm_it a b k q ≤ 1000000
  | 0, q, h1, h2 => ⟨h1, h2⟩
  | k + 1, q, h1, h2 => sm_it_in ha hb k _ (sm_F_in ha hb h1 h2).1 (sm_F_in ha hb h1 h2).2
def sm_S (p n m : Int) : Int := sm_it 4 6 m.toNat (sm_it 6 4 n.toNat (1000 * p))
set_option maxRecDepth 100000 in
theorem sm_c1 {E : sx_E} {d : Nat} {m : sx_M} {Q : Option Value → sx_M → Prop} {p n mm : Int32} :
    ∀ (k : Nat) (i : Int32) (q : Int64) (X : Int), 0 ≤ i.toInt → i.toInt + (k : Int) = n.toInt → n.toInt ≤ 20 → q.toInt = X → 0 ≤ X → X ≤ 1000000 → (∀ (q' : Int64) (i' : Int32), q'.toInt = sm_it 6 4 k X → sx_W E (d + 2) 0 0 161 33 [some (.int p), some (.int n), some (.int mm), some (.long q'), none, some (.int i')] [] m Q) → sx_W E (d + 2) 0 0 161 10 [some (.int p), some (.int n), some (.int mm), some (.long q), none, some (.int i)] [] m Q
  | 0, i, q, X, hi0, hi, hn, hq, h1, h2, hk => by
    refine sx_iload (i := 5) (n := 2) (x := 0) (y := 0) (z := 0) rfl rfl ?_
    refine sx_iload_n (w := 1) (n := 1) (x := 0) (y := 0) (z := 0) rfl rfl ?_
    refine sx_icmp (cd := .ge) (off := 20) (n := 3) (x := 33) (y := 0) (z := 0) rfl ⟨fun _ => ?_, fun hc => absurd (by rw [Int32.le_iff_toInt_le]; omega) hc⟩
    exact hk q i hq
  | k + 1, i, q, X, hi0, hi, hn, hq, h1, h2, hk => by
    have g7 : (i + 1).toInt = i.toInt + 1 := sm_add rfl (by decide) (by omega) (by omega)
    refine sx_iload (i := 5) (n := 2) (x := 0) (y := 0) (z := 0) rfl rfl ?_
    refine sx_iload_n (w := 1) (n := 1) (x := 0) (y := 0) (z := 0) rfl rfl ?_
    refine sx_icmp (cd := .ge) (off := 20) (n := 3) (x := 33) (y := 0) (z := 0) rfl ⟨fun hc => absurd hc (by rw [Int32.le_iff_toInt_le]; omega), fun _ => ?_⟩
    refine sx_lload_n (w := 3) (n := 1) (x := 0) (y := 0) (z := 0) rfl rfl ?_
    refine sx_ldc2 (i := 169) (n := 3) (x := 600) (y := 0) (z := 0) rfl ?_
    refine sx_ldc2 (i := 171) (n := 3) (x := 400) (y := 0) (z := 0) rfl ?_
    refine sx_callS (i := 173) (x := 162) (y := 3) (z := 0) (n := 3) (d' := d) (kc' := 0) (ks' := 0) (as := [.long q, .long (Int64.ofNat 600), .long (Int64.ofNat 400)]) (rest := []) (Q' := fun v m' => (∃ r : Int64, v = some (.long r) ∧ r.toInt = sm_F 6 4 X) ∧ m' = m) rfl rfl (by decide) rfl (Nat.le_of_ble_eq_true rfl) (by omega) (Nat.le_refl _) (Nat.le_refl _) (sm_w6 hq h1 h2 fun r hr => ⟨⟨r, rfl, hr⟩, rfl⟩) fun v m' hv => ?_
    obtain ⟨⟨r, rfl, hr⟩, rfl⟩ := hv
    show sx_W E (d + 2) 0 0 161 26 [some (.int p), some (.int n), some (.int mm), some (.long q), none, some (.int i)] [.long r] m' _
    refine sx_lstore_n (w := 3) (n := 1) (x := 0) (y := 0) (z := 0) rfl ?_
    refine sx_iinc (i := 5) (q := 1) (n := 3) (x := 0) (y := 0) (z := 1) rfl rfl ?_
    refine sx_goto (off := (-20)) (n := 3) (x := 10) (y := 0) (z := 0) rfl ?_
    exact sm_c1 k (i + 1) r (sm_F 6 4 X) (by omega) (by omega) hn hr (sm_F_in (by decide) (by decide) h1 h2).1 (sm_F_in (by decide) (by decide) h1 h2).2 hk
set_option maxRecDepth 100000 in
theorem sm_c2 {E : sx_E} {d : Nat} {m : sx_M} {Q : Option Value → sx_M → Prop} {p n mm : Int32} :
    ∀ (k : Nat) (i : Int32) (q : Int64) (X : Int), 0 ≤ i.toInt → i.toInt + (k : Int) = mm.toInt → mm.toInt ≤ 20 → q.toInt = X → 0 ≤ X → X ≤ 1000000 → (∀ (q' : Int64) (i' : Int32), q'.toInt = sm_it 4 6 k X → sx_W E (d + 2) 0 0 161 59 [some (.int p), some (.int n), some (.int mm), some (.long q'), none, some (.int i')] [] m Q) → sx_W E (d + 2) 0 0 161 36 [some (.int p), some (.int n), some (.int mm), some (.long q), none, some (.int i)] [] m Q
  | 0, i, q, X, hi0, hi, hn, hq, h1, h2, hk => by
    refine sx_iload (i := 5) (n := 2) (x := 0) (y := 0) (z := 0) rfl rfl ?_
    refine sx_iload_n (w := 2) (n := 1) (x := 0) (y := 0) (z := 0) rfl rfl ?_
    refine sx_icmp (cd := .ge) (off := 20) (n := 3) (x := 59) (y := 0) (z := 0) rfl ⟨fun _ => ?_, fun hc => absurd (by rw [Int32.le_iff_toInt_le]; omega) hc⟩
    exact hk q i hq
  | k + 1, i, q, X, hi0, hi, hn, hq, h1, h2, hk => by
    have g7 : (i + 1).toInt = i.toInt + 1 := sm_add rfl (by decide) (by omega) (by omega)
    refine sx_iload (i := 5) (n := 2) (x := 0) (y := 0) (z := 0) rfl rfl ?_
    refine sx_iload_n (w := 2) (n := 1) (x := 0) (y := 0) (z := 0) rfl rfl ?_
    refine sx_icmp (cd := .ge) (off := 20) (n := 3) (x := 59) (y := 0) (z := 0) rfl ⟨fun hc => absurd hc (by rw [Int32.le_iff_toInt_le]; omega), fun _ => ?_⟩
    refine sx_lload_n (w := 3) (n := 1) (x := 0) (y := 0) (z := 0) rfl rfl ?_
    refine sx_ldc2 (i := 171) (n := 3) (x := 400) (y := 0) (z := 0) rfl ?_
    refine sx_ldc2 (i := 169) (n := 3) (x := 600) (y := 0) (z := 0) rfl ?_
    refine sx_callS (i := 173) (x := 162) (y := 3) (z := 0) (n := 3) (d' := d) (kc' := 0) (ks' := 0) (as := [.long q, .long (Int64.ofNat 400), .long (Int64.ofNat 600)]) (rest := []) (Q' := fun v m' => (∃ r : Int64, v = some (.long r) ∧ r.toInt = sm_F 4 6 X) ∧ m' = m) rfl rfl (by decide) rfl (Nat.le_of_ble_eq_true rfl) (by omega) (Nat.le_refl _) (Nat.le_refl _) (sm_w4 hq h1 h2 fun r hr => ⟨⟨r, rfl, hr⟩, rfl⟩) fun v m' hv => ?_
    obtain ⟨⟨r, rfl, hr⟩, rfl⟩ := hv
    show sx_W E (d + 2) 0 0 161 52 [some (.int p), some (.int n), some (.int mm), some (.long q), none, some (.int i)] [.long r] m' _
    refine sx_lstore_n (w := 3) (n := 1) (x := 0) (y := 0) (z := 0) rfl ?_
    refine sx_iinc (i := 5) (q := 1) (n := 3) (x := 0) (y := 0) (z := 1) rfl rfl ?_
    refine sx_goto (off := (-20)) (n := 3) (x := 36) (y := 0) (z := 0) rfl ?_
    exact sm_c2 k (i + 1) r (sm_F 4 6 X) (by omega) (by omega) hn hr (sm_F_in (by decide) (by decide) h1 h2).1 (sm_F_in (by decide) (by decide) h1 h2).2 hk
set_option maxRecDepth 100000 in
theorem sm_m1 {E : sx_E} {d : Nat} {m : sx_M} {Q : Option Value → sx_M → Prop} {p n mm : Int32} {n0 : Nat} (hs : m.2.1 214 = some (12, n0)) :
    ∀ (k : Nat) (i : Int32) (q : Int32) (X : Int), 0 ≤ i.toInt → i.toInt + (k : Int) = n.toInt → n.toInt ≤ 20 → q.toInt = X → 0 ≤ X → X ≤ 1000000 → (∀ (q' : Int32) (i' : Int32), q'.toInt = sm_it 6 4 k X → sx_W E (d + 2) 0 0 308 74 [some (.ref 214), some (.int p), some (.int n), some (.int mm), some (.int q'), some (.int i')] [] m Q) → sx_W E (d + 2) 0 0 308 51 [some (.ref 214), some (.int p), some (.int n), some (.int mm), some (.int q), some (.int i)] [] m Q
  | 0, i, q, X, hi0, hi, hn, hq, h1, h2, hk => by
    refine sx_iload (i := 5) (n := 2) (x := 0) (y := 0) (z := 0) rfl rfl ?_
    refine sx_iload_n (w := 2) (n := 1) (x := 0) (y := 0) (z := 0) rfl rfl ?_
    refine sx_icmp (cd := .ge) (off := 20) (n := 3) (x := 74) (y := 0) (z := 0) rfl ⟨fun _ => ?_, fun hc => absurd (by rw [Int32.le_iff_toInt_le]; omega) hc⟩
    exact hk q i hq
  | k + 1, i, q, X, hi0, hi, hn, hq, h1, h2, hk => by
    have g7 : (i + 1).toInt = i.toInt + 1 := sm_add rfl (by decide) (by omega) (by omega)
    refine sx_iload (i := 5) (n := 2) (x := 0) (y := 0) (z := 0) rfl rfl ?_
    refine sx_iload_n (w := 2) (n := 1) (x := 0) (y := 0) (z := 0) rfl rfl ?_
    refine sx_icmp (cd := .ge) (off := 20) (n := 3) (x := 74) (y := 0) (z := 0) rfl ⟨fun hc => absurd hc (by rw [Int32.le_iff_toInt_le]; omega), fun _ => ?_⟩
    refine sx_aload_n (w := 0) (n := 1) (x := 0) (y := 0) (z := 0) rfl rfl ?_
    refine sx_iload (i := 4) (n := 2) (x := 0) (y := 0) (z := 0) rfl rfl ?_
    refine sx_bipush (q := 6) (n := 2) (x := 0) (y := 0) (z := 6) rfl ?_
    refine sx_iconst (q := 4) (n := 1) (x := 0) (y := 0) (z := 4) rfl ?_
    refine sx_callV (i := 481) (x := 309) (y := 3) (z := 0) (n := 3) (d' := d + 1) (kc' := 0) (ks' := 0) (a := 214) (as := [.int q, .int 6, .int 4]) (rest := []) (Q' := fun v m' => (∃ r : Int32, v = some (.int r) ∧ r.toInt = sm_F 6 4 X) ∧ m' = m) rfl rfl (by decide) rfl (by decide) hs (Nat.le_of_ble_eq_true rfl) (by omega) (Nat.le_refl _) (Nat.le_refl _) (sm_d6 hs hq h1 h2 fun r hr => ⟨⟨r, rfl, hr⟩, rfl⟩) fun v m' hv => ?_
    obtain ⟨⟨r, rfl, hr⟩, rfl⟩ := hv
    show sx_W E (d + 2) 0 0 308 66 [some (.ref 214), some (.int p), some (.int n), some (.int mm), some (.int q), some (.int i)] [.int r] m' _
    refine sx_istore (i := 4) (n := 2) (x := 0) (y := 0) (z := 0) rfl ?_
    refine sx_iinc (i := 5) (q := 1) (n := 3) (x := 0) (y := 0) (z := 1) rfl rfl ?_
    refine sx_goto (off := (-20)) (n := 3) (x := 51) (y := 0) (z := 0) rfl ?_
    exact sm_m1 hs k (i + 1) r (sm_F 6 4 X) (by omega) (by omega) hn hr (sm_F_in (by decide) (by decide) h1 h2).1 (sm_F_in (by decide) (by decide) h1 h2).2 hk
set_option maxRecDepth 100000 in
theorem sm_m2 {E : sx_E} {d : Nat} {m : sx_M} {Q : Option Value → sx_M → Prop} {p n mm : Int32} {n0 : Nat} (hs : m.2.1 214 = some (12, n0)) :
    ∀ (k : Nat) (i : Int32) (q : Int32) (X : Int), 0 ≤ i.toInt → i.toInt + (k : Int) = mm.toInt → mm.toInt ≤ 20 → q.toInt = X → 0 ≤ X → X ≤ 1000000 → (∀ (q' : Int32) (i' : Int32), q'.toInt = sm_it 4 6 k X → sx_W E (d + 2) 0 0 308 100 [some (.ref 214), some (.int p), some (.int n), some (.int mm), some (.int q'), some (.int i')] [] m Q) → sx_W E (d + 2) 0 0 308 77 [some (.ref 214), some (.int p), some (.int n), some (.int mm), some (.int q), some (.int i)] [] m Q
  | 0, i, q, X, hi0, hi, hn, hq, h1, h2, hk => by
    refine sx_iload (i := 5) (n := 2) (x := 0) (y := 0) (z := 0) rfl rfl ?_
    refine sx_iload_n (w := 3) (n := 1) (x := 0) (y := 0) (z := 0) rfl rfl ?_
    refine sx_icmp (cd := .ge) (off := 20) (n := 3) (x := 100) (y := 0) (z := 0) rfl ⟨fun _ => ?_, fun hc => absurd (by rw [Int32.le_iff_toInt_le]; omega) hc⟩
    exact hk q i hq
  | k + 1, i, q, X, hi0, hi, hn, hq, h1, h2, hk => by
    have g7 : (i + 1).toInt = i.toInt + 1 := sm_add rfl (by decide) (by omega) (by omega)
    refine sx_iload (i := 5) (n := 2) (x := 0) (y := 0) (z := 0) rfl rfl ?_
    refine sx_iload_n (w := 3) (n := 1) (x := 0) (y := 0) (z := 0) rfl rfl ?_
    refine sx_icmp (cd := .ge) (off := 20) (n := 3) (x := 100) (y := 0) (z := 0) rfl ⟨fun hc => absurd hc (by rw [Int32.le_iff_toInt_le]; omega), fun _ => ?_⟩
    refine sx_aload_n (w := 0) (n := 1) (x := 0) (y := 0) (z := 0) rfl rfl ?_
    refine sx_iload (i := 4) (n := 2) (x := 0) (y := 0) (z := 0) rfl rfl ?_
    refine sx_iconst (q := 4) (n := 1) (x := 0) (y := 0) (z := 4) rfl ?_
    refine sx_bipush (q := 6) (n := 2) (x := 0) (y := 0) (z := 6) rfl ?_
    refine sx_callV (i := 481) (x := 309) (y := 3) (z := 0) (n := 3) (d' := d + 1) (kc' := 0) (ks' := 0) (a := 214) (as := [.int q, .int 4, .int 6]) (rest := []) (Q' := fun v m' => (∃ r : Int32, v = some (.int r) ∧ r.toInt = sm_F 4 6 X) ∧ m' = m) rfl rfl (by decide) rfl (by decide) hs (Nat.le_of_ble_eq_true rfl) (by omega) (Nat.le_refl _) (Nat.le_refl _) (sm_d4 hs hq h1 h2 fun r hr => ⟨⟨r, rfl, hr⟩, rfl⟩) fun v m' hv => ?_
    obtain ⟨⟨r, rfl, hr⟩, rfl⟩ := hv
    show sx_W E (d + 2) 0 0 308 92 [some (.ref 214), some (.int p), some (.int n), some (.int mm), some (.int q), some (.int i)] [.int r] m' _
    refine sx_istore (i := 4) (n := 2) (x := 0) (y := 0) (z := 0) rfl ?_
    refine sx_iinc (i := 5) (q := 1) (n := 3) (x := 0) (y := 0) (z := 1) rfl rfl ?_
    refine sx_goto (off := (-20)) (n := 3) (x := 77) (y := 0) (z := 0) rfl ?_
    exact sm_m2 hs k (i + 1) r (sm_F 4 6 X) (by omega) (by omega) hn hr (sm_F_in (by decide) (by decide) h1 h2).1 (sm_F_in (by decide) (by decide) h1 h2).2 hk
set_option maxRecDepth 100000 in
theorem sm_cS {E : sx_E} {m : sx_M} {Q : Option Value → sx_M → Prop} {p n mm : Int32} (hp1 : 0 ≤ p.toInt) (hp2 : p.toInt ≤ 1000) (hn1 : 0 ≤ n.toInt) (hn2 : n.toInt ≤ 20) (hm1 : 0 ≤ mm.toInt) (hm2 : mm.toInt ≤ 20) (hQ : ∀ r : Int32, r.toInt = sm_S p.toInt n.toInt mm.toInt → Q (some (.int r)) m) : sx_S E 10 0 0 161 [.int p, .int n, .int mm] m Q := by
  have g : (p.toInt64 * Int64.ofNat 1000).toInt = 1000 * p.toInt := by
    rw [Int.mul_comm]
    exact lm_mul (Int32.toInt_toInt64 p) (by decide) (by omega) (by omega)
  have c0 : (0 : Int32).toInt = 0 := by decide
  have i1 := sm_it_in (a := 6) (b := 4) (by decide) (by decide) n.toInt.toNat (1000 * p.toInt) (by omega) (by omega)
  have i2 := sm_it_in (a := 4) (b := 6) (by decide) (by decide) mm.toInt.toNat _ i1.1 i1.2
  refine sx_S.of2 jf_161 (Nat.le_of_ble_eq_true rfl) ?_
  show sx_W E 10 0 0 161 0 [some (.int p), some (.int n), some (.int mm), none, none, none] [] m _
  refine sx_iload_n (w := 0) (n := 1) (x := 0) (y := 0) (z := 0) rfl rfl ?_
  refine sx_i2l (n := 1) (x := 0) (y := 0) (z := 0) rfl ?_
  refine sx_ldc2 (i := 167) (n := 3) (x := 1000) (y := 0) (z := 0) rfl ?_
  refine sx_lmul (n := 1) (x := 0) (y := 0) (z := 0) rfl ?_
  refine sx_lstore_n (w := 3) (n := 1) (x := 0) (y := 0) (z := 0) rfl ?_
  refine sx_iconst (q := 0) (n := 1) (x := 0) (y := 0) (z := 0) rfl ?_
  refine sx_istore (i := 5) (n := 2) (x := 0) (y := 0) (z := 0) rfl ?_
  show sx_W E (8 + 2) 0 0 161 10 [some (.int p), some (.int n), some (.int mm), some (.long (p.toInt64 * Int64.ofNat 1000)), none, some (.int 0)] [] m _
  refine sm_c1 n.toInt.toNat 0 _ (1000 * p.toInt) (by omega) (by omega) hn2 g (by omega) (by omega) fun q1 j1 hq1 => ?_
  refine sx_iconst (q := 0) (n := 1) (x := 0) (y := 0) (z := 0) rfl ?_
  refine sx_istore (i := 5) (n := 2) (x := 0) (y := 0) (z := 0) rfl ?_
  show sx_W E (8 + 2) 0 0 161 36 [some (.int p), some (.int n), some (.int mm), some (.long q1), none, some (.int 0)] [] m _
  refine sm_c2 mm.toInt.toNat 0 _ _ (by omega) (by omega) hm2 hq1 i1.1 i1.2 fun q2 j2 hq2 => ?_
  refine sx_lload_n (w := 3) (n := 1) (x := 0) (y := 0) (z := 0) rfl rfl ?_
  refine sx_l2i (n := 1) (x := 0) (y := 0) (z := 0) rfl ?_
  refine sx_iret (n := 1) (x := 0) (y := 0) (z := 0) rfl (Or.inl rfl) (hQ _ ?_)
  rw [Int64.toInt_toInt32, hq2]
  exact ax_bmod (by omega) (by omega)
set_option maxRecDepth 100000 in
theorem sm_in {E : sx_E} {m : sx_M} (x lo hi : Int32) (h1 : ¬ x < lo) (h2 : ¬ hi < x) : sx_S E 9 0 0 192 [.ref 214, .int x, .int lo, .int hi] m (fun v m' => v = some (.int 1) ∧ m' = m) := by
  refine sx_S.of2 jf_192 (Nat.le_of_ble_eq_true rfl) ?_
  show sx_W E 9 0 0 192 0 [some (.ref 214), some (.int x), some (.int lo), some (.int hi)] [] m _
  refine sx_iload_n (w := 1) (n := 1) (x := 0) (y := 0) (z := 0) rfl rfl ?_
  refine sx_iload_n (w := 2) (n := 1) (x := 0) (y := 0) (z := 0) rfl rfl ?_
  refine sx_icmp (cd := .lt) (off := 12) (n := 3) (x := 14) (y := 0) (z := 0) rfl ⟨fun hc => absurd hc h1, fun _ => ?_⟩
  refine sx_iload_n (w := 1) (n := 1) (x := 0) (y := 0) (z := 0) rfl rfl ?_
  refine sx_iload_n (w := 3) (n := 1) (x := 0) (y := 0) (z := 0) rfl rfl ?_
  refine sx_icmp (cd := .gt) (off := 7) (n := 3) (x := 14) (y := 0) (z := 0) rfl ⟨fun hc => absurd hc h2, fun _ => ?_⟩
  refine sx_iconst (q := 1) (n := 1) (x := 0) (y := 0) (z := 1) rfl ?_
  refine sx_goto (off := 4) (n := 3) (x := 15) (y := 0) (z := 0) rfl ?_
  exact sx_iret (n := 1) (x := 0) (y := 0) (z := 0) rfl (Or.inr ⟨rfl, Or.inr rfl⟩) ⟨rfl, rfl⟩
set_option maxRecDepth 100000 in
theorem sm_mS1 {E : sx_E} {m : sx_M} {Q : Option Value → sx_M → Prop} {n0 : Nat} {p n mm : Int32} (hs : m.2.1 214 = some (12, n0)) (hp1 : 0 ≤ p.toInt) (hp2 : p.toInt ≤ 1000) (hn1 : 0 ≤ n.toInt) (hn2 : n.toInt ≤ 20) (hm1 : 0 ≤ mm.toInt) (hm2 : mm.toInt ≤ 20) (hQ : ∀ r : Int32, r.toInt = sm_S p.toInt n.toInt mm.toInt → Q (some (.int r)) m) : sx_W E 10 0 0 308 5 [some (.ref 214), some (.int p), some (.int n), some (.int mm), none, none] [] m Q := by
  have c0 : (0 : Int32).toInt = 0 := by decide
  have c1 : (1000 : Int32).toInt = 1000 := by decide
  have c2 : (20 : Int32).toInt = 20 := by decide
  have g : (1000 * p).toInt = 1000 * p.toInt := sm_mul c1 rfl (by omega) (by omega)
  have i1 := sm_it_in (a := 6) (b := 4) (by decide) (by decide) n.toInt.toNat (1000 * p.toInt) (by omega) (by omega)
  refine sx_aload_n (w := 0) (n := 1) (x := 0) (y := 0) (z := 0) rfl rfl ?_
  refine sx_iload_n (w := 1) (n := 1) (x := 0) (y := 0) (z := 0) rfl rfl ?_
  refine sx_iconst (q := 0) (n := 1) (x := 0) (y := 0) (z := 0) rfl ?_
  refine sx_sipush (q := 1000) (n := 3) (x := 0) (y := 0) (z := 1000) rfl ?_
  refine sx_callV (i := 144) (x := 192) (y := 3) (z := 0) (n := 3) (a := 214) (as := [.int p, .int 0, .int 1000]) (rest := []) rfl rfl (by decide) rfl (by decide) hs (Nat.le_of_ble_eq_true rfl) (show 9 < 10 by decide) (Nat.le_refl _) (Nat.le_refl _) (sm_in p 0 1000 (by rw [Int32.lt_iff_toInt_lt]; omega) (by rw [Int32.lt_iff_toInt_lt]; omega)) fun v m' hv => ?_
  obtain ⟨rfl, rfl⟩ := hv
  show sx_W E 10 0 0 308 14 [some (.ref 214), some (.int p), some (.int n), some (.int mm), none, none] [.int 1] _ _
  refine sx_if (cd := .eq) (off := 25) (n := 3) (x := 39) (y := 0) (z := 0) rfl ⟨fun hc => absurd hc (by decide), fun _ => ?_⟩
  refine sx_aload_n (w := 0) (n := 1) (x := 0) (y := 0) (z := 0) rfl rfl ?_
  refine sx_iload_n (w := 2) (n := 1) (x := 0) (y := 0) (z := 0) rfl rfl ?_
  refine sx_iconst (q := 0) (n := 1) (x := 0) (y := 0) (z := 0) rfl ?_
  refine sx_bipush (q := 20) (n := 2) (x := 0) (y := 0) (z := 20) rfl ?_
  refine sx_callV (i := 144) (x := 192) (y := 3) (z := 0) (n := 3) (a := 214) (as := [.int n, .int 0, .int 20]) (rest := []) rfl rfl (by decide) rfl (by decide) hs (Nat.le_of_ble_eq_true rfl) (show 9 < 10 by decide) (Nat.le_refl _) (Nat.le_refl _) (sm_in n 0 20 (by rw [Int32.lt_iff_toInt_lt]; omega) (by rw [Int32.lt_iff_toInt_lt]; omega)) fun v m' hv => ?_
  obtain ⟨rfl, rfl⟩ := hv
  show sx_W E 10 0 0 308 25 [some (.ref 214), some (.int p), some (.int n), some (.int mm), none, none] [.int 1] _ _
  refine sx_if (cd := .eq) (off := 14) (n := 3) (x := 39) (y := 0) (z := 0) rfl ⟨fun hc => absurd hc (by decide), fun _ => ?_⟩
  refine sx_aload_n (w := 0) (n := 1) (x := 0) (y := 0) (z := 0) rfl rfl ?_
  refine sx_iload_n (w := 3) (n := 1) (x := 0) (y := 0) (z := 0) rfl rfl ?_
  refine sx_iconst (q := 0) (n := 1) (x := 0) (y := 0) (z := 0) rfl ?_
  refine sx_bipush (q := 20) (n := 2) (x := 0) (y := 0) (z := 20) rfl ?_
  refine sx_callV (i := 144) (x := 192) (y := 3) (z := 0) (n := 3) (a := 214) (as := [.int mm, .int 0, .int 20]) (rest := []) rfl rfl (by decide) rfl (by decide) hs (Nat.le_of_ble_eq_true rfl) (show 9 < 10 by decide) (Nat.le_refl _) (Nat.le_refl _) (sm_in mm 0 20 (by rw [Int32.lt_iff_toInt_lt]; omega) (by rw [Int32.lt_iff_toInt_lt]; omega)) fun v m' hv => ?_
  obtain ⟨rfl, rfl⟩ := hv
  show sx_W E 10 0 0 308 36 [some (.ref 214), some (.int p), some (.int n), some (.int mm), none, none] [.int 1] _ _
  refine sx_if (cd := .ne) (off := 5) (n := 3) (x := 41) (y := 0) (z := 0) rfl ⟨fun _ => ?_, fun hc => absurd hc (by decide)⟩
  refine sx_sipush (q := 1000) (n := 3) (x := 0) (y := 0) (z := 1000) rfl ?_
  refine sx_iload_n (w := 1) (n := 1) (x := 0) (y := 0) (z := 0) rfl rfl ?_
  refine sx_imul (n := 1) (x := 0) (y := 0) (z := 0) rfl ?_
  refine sx_istore (i := 4) (n := 2) (x := 0) (y := 0) (z := 0) rfl ?_
  refine sx_iconst (q := 0) (n := 1) (x := 0) (y := 0) (z := 0) rfl ?_
  refine sx_istore (i := 5) (n := 2) (x := 0) (y := 0) (z := 0) rfl ?_
  show sx_W E (8 + 2) 0 0 308 51 [some (.ref 214), some (.int p), some (.int n), some (.int mm), some (.int (1000 * p)), some (.int 0)] [] _ _
  refine sm_m1 hs n.toInt.toNat 0 _ (1000 * p.toInt) (by omega) (by omega) hn2 g (by omega) (by omega) fun q1 j1 hq1 => ?_
  refine sx_iconst (q := 0) (n := 1) (x := 0) (y := 0) (z := 0) rfl ?_
  refine sx_istore (i := 5) (n := 2) (x := 0) (y := 0) (z := 0) rfl ?_
  show sx_W E (8 + 2) 0 0 308 77 [some (.ref 214), some (.int p), some (.int n), some (.int mm), some (.int q1), some (.int 0)] [] _ _
  refine sm_m2 hs mm.toInt.toNat 0 _ _ (by omega) (by omega) hm2 hq1 i1.1 i1.2 fun q2 j2 hq2 => ?_
  refine sx_iload (i := 4) (n := 2) (x := 0) (y := 0) (z := 0) rfl rfl ?_
  exact sx_iret (n := 1) (x := 0) (y := 0) (z := 0) rfl (Or.inl rfl) (hQ _ hq2)
set_option maxRecDepth 100000 in
theorem sm_mS {E : sx_E} {m : sx_M} {Q : Option Value → sx_M → Prop} {n0 : Nat} {p n mm : Int32} (hs : m.2.1 214 = some (12, n0)) (hp1 : 0 ≤ p.toInt) (hp2 : p.toInt ≤ 1000) (hn1 : 0 ≤ n.toInt) (hn2 : n.toInt ≤ 20) (hm1 : 0 ≤ mm.toInt) (hm2 : mm.toInt ≤ 20) (hQ : ∀ r : Int32, r.toInt = sm_S p.toInt n.toInt mm.toInt → Q (some (.int r)) (m.1, m.2.1, sx_up m.2.2.1 214 0 0, m.2.2.2)) : sx_S E 10 0 0 308 [.ref 214, .int p, .int n, .int mm] m Q := by
  refine sx_S.of2 jf_308 (Nat.le_of_ble_eq_true rfl) ?_
  show sx_W E 10 0 0 308 0 [some (.ref 214), some (.int p), some (.int n), some (.int mm), none, none] [] m _
  refine sx_aload_n (w := 0) (n := 1) (x := 0) (y := 0) (z := 0) rfl rfl ?_
  refine sx_iconst (q := 0) (n := 1) (x := 0) (y := 0) (z := 0) rfl ?_
  refine sx_step ?_
  show sx_sk (m.2.1 214) 12 fun _ => sx_W E 10 0 0 308 5 [some (.ref 214), some (.int p), some (.int n), some (.int mm), none, none] [] (m.1, m.2.1, sx_up m.2.2.1 214 0 0, m.2.2.2) Q
  rw [hs]
  exact sm_mS1 (m := (m.1, m.2.1, sx_up m.2.2.1 214 0 0, m.2.2.2)) hs hp1 hp2 hn1 hn2 hm1 hm2 hQ
