-- surmise: numbers, the share of the reference, the weighing of the class
theorem sm_mul {a b : Int32} {x y : Int} (ha : a.toInt = x) (hb : b.toInt = y) (h1 : -2147483648 ≤ x * y) (h2 : x * y ≤ 2147483647) : (a * b).toInt = x * y := by
  rw [Int32.toInt_mul, ha, hb]
  exact ax_bmod h1 h2
theorem sm_add {a b : Int32} {x y : Int} (ha : a.toInt = x) (hb : b.toInt = y) (h1 : -2147483648 ≤ x + y) (h2 : x + y ≤ 2147483647) : (a + b).toInt = x + y := by
  rw [Int32.toInt_add, ha, hb]
  exact ax_bmod h1 h2
theorem sm_sub {a b : Int32} {x y : Int} (ha : a.toInt = x) (hb : b.toInt = y) (h1 : -2147483648 ≤ x - y) (h2 : x - y ≤ 2147483647) : (a - b).toInt = x - y := by
  rw [Int32.toInt_sub, ha, hb]
  exact ax_bmod h1 h2
theorem sm_div {a b : Int32} {x y : Int} (ha : a.toInt = x) (hb : b.toInt = y) (h1 : 0 ≤ x) (h2 : 0 < y) : (a / b).toInt = x / y := by
  rw [Int32.toInt_div_of_ne_right a b (fun e => by
    rw [e] at hb
    have : (-1 : Int32).toInt = -1 := by decide
    omega), ha, hb, Int.tdiv_eq_ediv_of_nonneg h1]
theorem lm_bmod {x : Int} (h1 : -9223372036854775808 ≤ x) (h2 : x ≤ 9223372036854775807) : x.bmod (2 ^ 64) = x := by
  rw [Int.bmod_def]
  split <;> omega
theorem lm_mul {a b : Int64} {x y : Int} (ha : a.toInt = x) (hb : b.toInt = y) (h1 : -9223372036854775808 ≤ x * y) (h2 : x * y ≤ 9223372036854775807) : (a * b).toInt = x * y := by
  rw [Int64.toInt_mul, ha, hb]
  exact lm_bmod h1 h2
theorem lm_add {a b : Int64} {x y : Int} (ha : a.toInt = x) (hb : b.toInt = y) (h1 : -9223372036854775808 ≤ x + y) (h2 : x + y ≤ 9223372036854775807) : (a + b).toInt = x + y := by
  rw [Int64.toInt_add, ha, hb]
  exact lm_bmod h1 h2
theorem lm_sub {a b : Int64} {x y : Int} (ha : a.toInt = x) (hb : b.toInt = y) (h1 : -9223372036854775808 ≤ x - y) (h2 : x - y ≤ 9223372036854775807) : (a - b).toInt = x - y := by
  rw [Int64.toInt_sub, ha, hb]
  exact lm_bmod h1 h2
theorem lm_div {a b : Int64} {x y : Int} (ha : a.toInt = x) (hb : b.toInt = y) (h1 : 0 ≤ x) (h2 : 0 < y) : (a / b).toInt = x / y := by
  rw [Int64.toInt_div_of_ne_right a b (fun e => by
    rw [e] at hb
    have : (-1 : Int64).toInt = -1 := by decide
    omega), ha, hb, Int.tdiv_eq_ediv_of_nonneg h1]
def sm_F (a b q : Int) : Int := q * a * 1000000 / (q * a + (1000000 - q) * b)
theorem sm_F_in {a b q : Int} (ha : 0 < a) (hb : 0 < b) (h1 : 0 ≤ q) (h2 : q ≤ 1000000) : 0 ≤ sm_F a b q ∧ sm_F a b q ≤ 1000000 := by
  have p1 : 0 ≤ q * a := Int.mul_nonneg h1 (by omega)
  have p2 : 0 ≤ (1000000 - q) * b := Int.mul_nonneg (by omega) (by omega)
  unfold sm_F
  refine ⟨Int.ediv_nonneg (by omega) (by omega), ?_⟩
  have p3 : 0 < q * a ∨ 0 < (1000000 - q) * b := by
    by_cases e : q = 0
    · exact Or.inr (Int.mul_pos (by omega) hb)
    · exact Or.inl (Int.mul_pos (by omega) ha)
  exact Int.ediv_le_of_le_mul (by omega) (by omega)
theorem lg_cmp_ne {a : Int64} (h : ¬ a.toInt = 0) : ¬ lg_cmp a (Int64.ofNat 0) = 0 := by
  unfold lg_cmp
  split
  · decide
  · split
    · rename_i e
      exact absurd (by rw [e]; decide) h
    · decide
set_option maxRecDepth 100000 in
theorem sm_b {E : sx_E} {d : Nat} {m : sx_M} {Q : Option Value → sx_M → Prop} (own all v left i : Int32) (hi : ¬ (6 : Int32) ≤ i) (hne : ¬ all = 0) (h : sx_W E d 0 0 310 12 [some (.ref 214), some (.int own), some (.int all), some (.int (10 * v + left * 10 / all)), some (.int (left * 10 - left * 10 / all * all)), some (.int (i + 1))] [] m Q) : sx_W E d 0 0 310 12 [some (.ref 214), some (.int own), some (.int all), some (.int v), some (.int left), some (.int i)] [] m Q := by
  refine sx_iload (i := 5) (n := 2) (x := 0) (y := 0) (z := 0) rfl rfl ?_
  refine sx_bipush (q := 6) (n := 2) (x := 0) (y := 0) (z := 6) rfl ?_
  refine sx_icmp (cd := .ge) (off := 32) (n := 3) (x := 48) (y := 0) (z := 0) rfl ⟨fun hc => absurd hc hi, fun _ => ?_⟩
  refine sx_iload (i := 4) (n := 2) (x := 0) (y := 0) (z := 0) rfl rfl ?_
  refine sx_bipush (q := 10) (n := 2) (x := 0) (y := 0) (z := 10) rfl ?_
  refine sx_imul (n := 1) (x := 0) (y := 0) (z := 0) rfl ?_
  refine sx_istore (i := 4) (n := 2) (x := 0) (y := 0) (z := 0) rfl ?_
  refine sx_bipush (q := 10) (n := 2) (x := 0) (y := 0) (z := 10) rfl ?_
  refine sx_iload_n (w := 3) (n := 1) (x := 0) (y := 0) (z := 0) rfl rfl ?_
  refine sx_imul (n := 1) (x := 0) (y := 0) (z := 0) rfl ?_
  refine sx_iload (i := 4) (n := 2) (x := 0) (y := 0) (z := 0) rfl rfl ?_
  refine sx_iload_n (w := 2) (n := 1) (x := 0) (y := 0) (z := 0) rfl rfl ?_
  refine sx_idiv (n := 1) (x := 0) (y := 0) (z := 0) rfl hne ?_
  refine sx_iadd (n := 1) (x := 0) (y := 0) (z := 0) rfl ?_
  refine sx_istore_n (w := 3) (n := 1) (x := 0) (y := 0) (z := 0) rfl ?_
  refine sx_iload (i := 4) (n := 2) (x := 0) (y := 0) (z := 0) rfl rfl ?_
  refine sx_iload_n (w := 2) (n := 1) (x := 0) (y := 0) (z := 0) rfl rfl ?_
  refine sx_irem (n := 1) (x := 0) (y := 0) (z := 0) rfl hne ?_
  refine sx_istore (i := 4) (n := 2) (x := 0) (y := 0) (z := 0) rfl ?_
  refine sx_iinc (i := 5) (q := 1) (n := 3) (x := 0) (y := 0) (z := 1) rfl rfl ?_
  refine sx_goto (off := (-33)) (n := 3) (x := 12) (y := 0) (z := 0) rfl ?_
  exact h
set_option maxRecDepth 100000 in
theorem sm_e {E : sx_E} {d : Nat} {m : sx_M} {Q : Option Value → sx_M → Prop} (own all v left i : Int32) (hi : (6 : Int32) ≤ i) (hQ : Q (some (.int v)) m) : sx_W E d 0 0 310 12 [some (.ref 214), some (.int own), some (.int all), some (.int v), some (.int left), some (.int i)] [] m Q := by
  refine sx_iload (i := 5) (n := 2) (x := 0) (y := 0) (z := 0) rfl rfl ?_
  refine sx_bipush (q := 6) (n := 2) (x := 0) (y := 0) (z := 6) rfl ?_
  refine sx_icmp (cd := .ge) (off := 32) (n := 3) (x := 48) (y := 0) (z := 0) rfl ⟨fun _ => ?_, fun hc => absurd hi hc⟩
  refine sx_iload_n (w := 3) (n := 1) (x := 0) (y := 0) (z := 0) rfl rfl ?_
  exact sx_iret (n := 1) (x := 0) (y := 0) (z := 0) rfl (Or.inl rfl) hQ
theorem sm_loop {E : sx_E} {d : Nat} {m : sx_M} {Q : Option Value → sx_M → Prop} {own all : Int32} {A : Int} (hA : all.toInt = A) (hA1 : 0 < A) (hA2 : A ≤ 6000000) :
    ∀ (k : Nat) (v left i : Int32) (V L : Int), 0 ≤ i.toInt → i.toInt + (k : Int) = 6 → v.toInt = V → left.toInt = L → 0 ≤ L → L < A → 0 ≤ V → (V + 1) * 10 ^ k ≤ 2000000 →
      (∀ r : Int32, r.toInt = (V * A + L) * 10 ^ k / A → Q (some (.int r)) m) → sx_W E d 0 0 310 12 [some (.ref 214), some (.int own), some (.int all), some (.int v), some (.int left), some (.int i)] [] m Q
  | 0, v, left, i, V, L, hi0, hi, hv, hl, hl1, hl2, hv1, hb, hQ => by
    refine sm_e own all v left i ?_ (hQ v ?_)
    · rw [Int32.le_iff_toInt_le, show (6 : Int32).toInt = 6 by decide]
      omega
    · rw [Int.pow_zero, Int.mul_one, Int.add_comm, Int.add_mul_ediv_right L V (by omega), Int.ediv_eq_zero_of_lt hl1 hl2, hv]
      omega
  | k + 1, v, left, i, V, L, hi0, hi, hv, hl, hl1, hl2, hv1, hb, hQ => by
    have hp : (1 : Int) ≤ 10 ^ k := by
      have : (0 : Int) < 10 ^ k := Int.pow_pos (by decide)
      omega
    have e1 : (V + 1) * 10 ^ (k + 1) = (10 * V + 10) * 10 ^ k := by
      rw [Int.pow_succ, Int.mul_comm (10 ^ k) 10, ← Int.mul_assoc]
      congr 1
      omega
    have hV : 10 * V + 10 ≤ 2000000 := by
      have := Int.mul_le_mul_of_nonneg_left hp (show 0 ≤ 10 * V + 10 by omega)
      omega
    have d0 : 0 ≤ L * 10 / A := Int.ediv_nonneg (by omega) (by omega)
    have d1 : L * 10 / A < 10 := Int.ediv_lt_of_lt_mul hA1 (by omega)
    have d2 := Int.mul_ediv_add_emod (L * 10) A
    have d3 := Int.emod_nonneg (L * 10) (show A ≠ 0 by omega)
    have d4 := Int.emod_lt_of_pos (L * 10) hA1
    have c10 : (10 : Int32).toInt = 10 := by decide
    have g1 : (left * 10).toInt = L * 10 := sm_mul hl c10 (by omega) (by omega)
    have g2 : (left * 10 / all).toInt = L * 10 / A := sm_div g1 hA (by omega) hA1
    have g3 : (10 * v).toInt = 10 * V := sm_mul c10 hv (by omega) (by omega)
    have g4 : (10 * v + left * 10 / all).toInt = 10 * V + L * 10 / A := sm_add g3 g2 (by omega) (by omega)
    have d5 : L * 10 / A * A = L * 10 - L * 10 % A := by rw [Int.mul_comm]; omega
    have g5 : (left * 10 / all * all).toInt = L * 10 / A * A := sm_mul g2 hA (by omega) (by omega)
    have g6 : (left * 10 - left * 10 / all * all).toInt = L * 10 - L * 10 / A * A := sm_sub g1 g5 (by omega) (by omega)
    have g7 : (i + 1).toInt = i.toInt + 1 := sm_add rfl (by decide) (by omega) (by omega)
    refine sm_b own all v left i ?_ (fun e => ?_) (sm_loop hA hA1 hA2 k _ _ _ (10 * V + L * 10 / A) (L * 10 - L * 10 / A * A) (by omega) (by omega) g4 g6 (by omega) (by omega) (by omega) ?_ fun r hr => hQ r ?_)
    · rw [Int32.le_iff_toInt_le, show (6 : Int32).toInt = 6 by decide]
      omega
    · rw [e] at hA
      have : (0 : Int32).toInt = 0 := by decide
      omega
    · have := Int.mul_le_mul_of_nonneg_right (show 10 * V + L * 10 / A + 1 ≤ 10 * V + 10 by omega) (show (0 : Int) ≤ 10 ^ k by omega)
      omega
    · rw [hr]
      congr 1
      rw [Int.pow_succ, Int.mul_comm (10 ^ k) 10, ← Int.mul_assoc]
      congr 1
      rw [Int.add_mul, Int.mul_assoc]
      omega
set_option maxRecDepth 100000 in
theorem sm_share {E : sx_E} {d : Nat} {m : sx_M} {Q : Option Value → sx_M → Prop} {own all : Int32} {O A : Int} (hO : own.toInt = O) (hA : all.toInt = A) (h1 : 0 ≤ O) (h2 : O ≤ A) (hA1 : 0 < A) (hA2 : A ≤ 6000000) (hQ : ∀ r : Int32, r.toInt = O * 1000000 / A → Q (some (.int r)) m) : sx_S E d 0 0 310 [.ref 214, .int own, .int all] m Q := by
  have hne : ¬ all = 0 := fun e => by
    rw [e] at hA
    have : (0 : Int32).toInt = 0 := by decide
    omega
  refine sx_S.of2 jf_310 (Nat.le_of_ble_eq_true rfl) ?_
  show sx_W E d 0 0 310 0 [some (.ref 214), some (.int own), some (.int all), none, none, none] [] m _
  refine sx_iload_n (w := 1) (n := 1) (x := 0) (y := 0) (z := 0) rfl rfl ?_
  refine sx_iload_n (w := 2) (n := 1) (x := 0) (y := 0) (z := 0) rfl rfl ?_
  refine sx_idiv (n := 1) (x := 0) (y := 0) (z := 0) rfl hne ?_
  refine sx_istore_n (w := 3) (n := 1) (x := 0) (y := 0) (z := 0) rfl ?_
  refine sx_iload_n (w := 1) (n := 1) (x := 0) (y := 0) (z := 0) rfl rfl ?_
  refine sx_iload_n (w := 2) (n := 1) (x := 0) (y := 0) (z := 0) rfl rfl ?_
  refine sx_irem (n := 1) (x := 0) (y := 0) (z := 0) rfl hne ?_
  refine sx_istore (i := 4) (n := 2) (x := 0) (y := 0) (z := 0) rfl ?_
  refine sx_iconst (q := 0) (n := 1) (x := 0) (y := 0) (z := 0) rfl ?_
  refine sx_istore (i := 5) (n := 2) (x := 0) (y := 0) (z := 0) rfl ?_
  have d0 : 0 ≤ O / A := Int.ediv_nonneg h1 (by omega)
  have d1 : O / A < 2 := Int.ediv_lt_of_lt_mul hA1 (by omega)
  have d2 := Int.mul_ediv_add_emod O A
  have d3 := Int.emod_nonneg O (show A ≠ 0 by omega)
  have d4 := Int.emod_lt_of_pos O hA1
  have d5 : O / A * A = O - O % A := by rw [Int.mul_comm]; omega
  have g2 : (own / all).toInt = O / A := sm_div hO hA h1 hA1
  have g5 : (own / all * all).toInt = O / A * A := sm_mul g2 hA (by omega) (by omega)
  have g6 : (own - own / all * all).toInt = O - O / A * A := sm_sub hO g5 (by omega) (by omega)
  refine sm_loop (own := own) hA hA1 hA2 6 (own / all) (own - own / all * all) 0 (O / A) (O - O / A * A) (by decide) (by decide) g2 g6 (by omega) (by omega) d0 ?_ fun r hr => hQ r ?_
  · rw [show (10 : Int) ^ 6 = 1000000 by decide]
    omega
  · rw [hr, show (10 : Int) ^ 6 = 1000000 by decide]
    congr 2
    omega
set_option maxRecDepth 100000 in
theorem sm_d6 {E : sx_E} {d : Nat} {m : sx_M} {Q : Option Value → sx_M → Prop} {n0 : Nat} {q : Int32} {X : Int} (hs : m.2.1 214 = some (12, n0)) (hq : q.toInt = X) (h1 : 0 ≤ X) (h2 : X ≤ 1000000) (hQ : ∀ r : Int32, r.toInt = sm_F 6 4 X → Q (some (.int r)) m) : sx_S E (d + 1) 0 0 309 [.ref 214, .int q, .int 6, .int 4] m Q := by
  have cA : (6 : Int32).toInt = 6 := by decide
  have cB : (4 : Int32).toInt = 4 := by decide
  have cM : (1000000 : Int32).toInt = 1000000 := by decide
  have g1 : (q * 6).toInt = X * 6 := sm_mul hq cA (by omega) (by omega)
  have g2 : (1000000 - q).toInt = 1000000 - X := sm_sub cM hq (by omega) (by omega)
  have g3 : ((1000000 - q) * 4).toInt = (1000000 - X) * 4 := sm_mul g2 cB (by omega) (by omega)
  have g4 : (q * 6 + (1000000 - q) * 4).toInt = X * 6 + (1000000 - X) * 4 := sm_add g1 g3 (by omega) (by omega)
  refine sx_S.of2 jf_309 (Nat.le_of_ble_eq_true rfl) ?_
  show sx_W E (d + 1) 0 0 309 0 [some (.ref 214), some (.int q), some (.int 6), some (.int 4)] [] m _
  refine sx_aload_n (w := 0) (n := 1) (x := 0) (y := 0) (z := 0) rfl rfl ?_
  refine sx_iload_n (w := 1) (n := 1) (x := 0) (y := 0) (z := 0) rfl rfl ?_
  refine sx_iload_n (w := 2) (n := 1) (x := 0) (y := 0) (z := 0) rfl rfl ?_
  refine sx_imul (n := 1) (x := 0) (y := 0) (z := 0) rfl ?_
  refine sx_iload_n (w := 1) (n := 1) (x := 0) (y := 0) (z := 0) rfl rfl ?_
  refine sx_iload_n (w := 2) (n := 1) (x := 0) (y := 0) (z := 0) rfl rfl ?_
  refine sx_imul (n := 1) (x := 0) (y := 0) (z := 0) rfl ?_
  refine sx_ldcw (i := 477) (n := 3) (x := 0) (y := 0) (z := 1000000) rfl ?_
  refine sx_iload_n (w := 1) (n := 1) (x := 0) (y := 0) (z := 0) rfl rfl ?_
  refine sx_isub (n := 1) (x := 0) (y := 0) (z := 0) rfl ?_
  refine sx_iload_n (w := 3) (n := 1) (x := 0) (y := 0) (z := 0) rfl rfl ?_
  refine sx_imul (n := 1) (x := 0) (y := 0) (z := 0) rfl ?_
  refine sx_iadd (n := 1) (x := 0) (y := 0) (z := 0) rfl ?_
  refine sx_callV (i := 478) (x := 310) (y := 2) (z := 0) (n := 3) (a := 214) (as := [.int (q * 6), .int (q * 6 + (1000000 - q) * 4)]) (rest := []) (Q' := fun v m' => (∃ r : Int32, v = some (.int r) ∧ r.toInt = sm_F 6 4 X) ∧ m' = m) rfl rfl (by decide) rfl (by decide) hs (Nat.le_of_ble_eq_true rfl) (Nat.lt_succ_self d) (Nat.le_refl _) (Nat.le_refl _) (sm_share g1 g4 (by omega) (by omega) (by omega) (by omega) fun r hr => ⟨⟨r, rfl, hr⟩, rfl⟩) fun v m' hv => ?_
  obtain ⟨⟨r, rfl, hr⟩, rfl⟩ := hv
  exact sx_iret (n := 1) (x := 0) (y := 0) (z := 0) rfl (Or.inl rfl) (hQ r hr)
set_option maxRecDepth 100000 in
theorem sm_d4 {E : sx_E} {d : Nat} {m : sx_M} {Q : Option Value → sx_M → Prop} {n0 : Nat} {q : Int32} {X : Int} (hs : m.2.1 214 = some (12, n0)) (hq : q.toInt = X) (h1 : 0 ≤ X) (h2 : X ≤ 1000000) (hQ : ∀ r : Int32, r.toInt = sm_F 4 6 X → Q (some (.int r)) m) : sx_S E (d + 1) 0 0 309 [.ref 214, .int q, .int 4, .int 6] m Q := by
  have cA : (4 : Int32).toInt = 4 := by decide
  have cB : (6 : Int32).toInt = 6 := by decide
  have cM : (1000000 : Int32).toInt = 1000000 := by decide
  have g1 : (q * 4).toInt = X * 4 := sm_mul hq cA (by omega) (by omega)
  have g2 : (1000000 - q).toInt = 1000000 - X := sm_sub cM hq (by omega) (by omega)
  have g3 : ((1000000 - q) * 6).toInt = (1000000 - X) * 6 := sm_mul g2 cB (by omega) (by omega)
  have g4 : (q * 4 + (1000000 - q) * 6).toInt = X * 4 + (1000000 - X) * 6 := sm_add g1 g3 (by omega) (by omega)
  refine sx_S.of2 jf_309 (Nat.le_of_ble_eq_true rfl) ?_
  show sx_W E (d + 1) 0 0 309 0 [some (.ref 214), some (.int q), some (.int 4), some (.int 6)] [] m _
  refine sx_aload_n (w := 0) (n := 1) (x := 0) (y := 0) (z := 0) rfl rfl ?_
  refine sx_iload_n (w := 1) (n := 1) (x := 0) (y := 0) (z := 0) rfl rfl ?_
  refine sx_iload_n (w := 2) (n := 1) (x := 0) (y := 0) (z := 0) rfl rfl ?_
  refine sx_imul (n := 1) (x := 0) (y := 0) (z := 0) rfl ?_
  refine sx_iload_n (w := 1) (n := 1) (x := 0) (y := 0) (z := 0) rfl rfl ?_
  refine sx_iload_n (w := 2) (n := 1) (x := 0) (y := 0) (z := 0) rfl rfl ?_
  refine sx_imul (n := 1) (x := 0) (y := 0) (z := 0) rfl ?_
  refine sx_ldcw (i := 477) (n := 3) (x := 0) (y := 0) (z := 1000000) rfl ?_
  refine sx_iload_n (w := 1) (n := 1) (x := 0) (y := 0) (z := 0) rfl rfl ?_
  refine sx_isub (n := 1) (x := 0) (y := 0) (z := 0) rfl ?_
  refine sx_iload_n (w := 3) (n := 1) (x := 0) (y := 0) (z := 0) rfl rfl ?_
  refine sx_imul (n := 1) (x := 0) (y := 0) (z := 0) rfl ?_
  refine sx_iadd (n := 1) (x := 0) (y := 0) (z := 0) rfl ?_
  refine sx_callV (i := 478) (x := 310) (y := 2) (z := 0) (n := 3) (a := 214) (as := [.int (q * 4), .int (q * 4 + (1000000 - q) * 6)]) (rest := []) (Q' := fun v m' => (∃ r : Int32, v = some (.int r) ∧ r.toInt = sm_F 4 6 X) ∧ m' = m) rfl rfl (by decide) rfl (by decide) hs (Nat.le_of_ble_eq_true rfl) (Nat.lt_succ_self d) (Nat.le_refl _) (Nat.le_refl _) (sm_share g1 g4 (by omega) (by omega) (by omega) (by omega) fun r hr => ⟨⟨r, rfl, hr⟩, rfl⟩) fun v m' hv => ?_
  obtain ⟨⟨r, rfl, hr⟩, rfl⟩ := hv
  exact sx_iret (n := 1) (x := 0) (y := 0) (z := 0) rfl (Or.inl rfl) (hQ r hr)
set_option maxRecDepth 100000 in
theorem sm_w6 {E : sx_E} {d : Nat} {m : sx_M} {Q : Option Value → sx_M → Prop} {q : Int64} {X : Int} (hq : q.toInt = X) (h1 : 0 ≤ X) (h2 : X ≤ 1000000) (hQ : ∀ r : Int64, r.toInt = sm_F 6 4 X → Q (some (.long r)) m) : sx_S E d 0 0 162 [.long q, .long (Int64.ofNat 600), .long (Int64.ofNat 400)] m Q := by
  have cA : (Int64.ofNat 600).toInt = 600 := by decide
  have cB : (Int64.ofNat 400).toInt = 400 := by decide
  have cM : (Int64.ofNat 1000000).toInt = 1000000 := by decide
  have g1 : (q * Int64.ofNat 600).toInt = X * 600 := lm_mul hq cA (by omega) (by omega)
  have g2 : (Int64.ofNat 1000000 - q).toInt = 1000000 - X := lm_sub cM hq (by omega) (by omega)
  have g3 : ((Int64.ofNat 1000000 - q) * Int64.ofNat 400).toInt = (1000000 - X) * 400 := lm_mul g2 cB (by omega) (by omega)
  have g4 : (q * Int64.ofNat 600 + (Int64.ofNat 1000000 - q) * Int64.ofNat 400).toInt = X * 600 + (1000000 - X) * 400 := lm_add g1 g3 (by omega) (by omega)
  have g5 : (q * Int64.ofNat 600 * Int64.ofNat 1000000).toInt = X * 600 * 1000000 := lm_mul g1 cM (by omega) (by omega)
  have g6 := lm_div g5 g4 (by omega) (by omega)
  have e : X * 600 * 1000000 / (X * 600 + (1000000 - X) * 400) = sm_F 6 4 X := by
    unfold sm_F
    have e1 : X * 600 * 1000000 = 100 * (X * 6 * 1000000) := by omega
    have e2 : X * 600 + (1000000 - X) * 400 = 100 * (X * 6 + (1000000 - X) * 4) := by omega
    rw [e1, e2, Int.mul_ediv_mul_of_pos _ _ (by decide)]
  have hne : ¬ (q * Int64.ofNat 600 + (Int64.ofNat 1000000 - q) * Int64.ofNat 400) = 0 := fun e0 => by
    rw [e0] at g4
    have : (0 : Int64).toInt = 0 := by decide
    omega
  refine sx_S.of2 jf_162 (Nat.le_of_ble_eq_true rfl) ?_
  show sx_W E d 0 0 162 0 [some (.long q), none, some (.long (Int64.ofNat 600)), none, some (.long (Int64.ofNat 400)), none, none, none] [] m _
  refine sx_lload_n (w := 0) (n := 1) (x := 0) (y := 0) (z := 0) rfl rfl ?_
  refine sx_lload_n (w := 2) (n := 1) (x := 0) (y := 0) (z := 0) rfl rfl ?_
  refine sx_lmul (n := 1) (x := 0) (y := 0) (z := 0) rfl ?_
  refine sx_ldc2 (i := 177) (n := 3) (x := 1000000) (y := 0) (z := 0) rfl ?_
  refine sx_lload_n (w := 0) (n := 1) (x := 0) (y := 0) (z := 0) rfl rfl ?_
  refine sx_lsub (n := 1) (x := 0) (y := 0) (z := 0) rfl ?_
  refine sx_lload (i := 4) (n := 2) (x := 0) (y := 0) (z := 0) rfl rfl ?_
  refine sx_lmul (n := 1) (x := 0) (y := 0) (z := 0) rfl ?_
  refine sx_ladd (n := 1) (x := 0) (y := 0) (z := 0) rfl ?_
  refine sx_lstore (i := 6) (n := 2) (x := 0) (y := 0) (z := 0) rfl ?_
  refine sx_lload (i := 6) (n := 2) (x := 0) (y := 0) (z := 0) rfl rfl ?_
  refine sx_lconst (w := 0) (n := 1) (x := 0) (y := 0) (z := 0) rfl ?_
  refine sx_lcmp (n := 1) (x := 0) (y := 0) (z := 0) rfl ?_
  refine sx_if (cd := .ne) (off := 7) (n := 3) (x := 25) (y := 0) (z := 0) rfl ⟨fun _ => ?_, fun hc => absurd hc (lg_cmp_ne (by rw [g4]; omega))⟩
  refine sx_lload_n (w := 0) (n := 1) (x := 0) (y := 0) (z := 0) rfl rfl ?_
  refine sx_lload_n (w := 2) (n := 1) (x := 0) (y := 0) (z := 0) rfl rfl ?_
  refine sx_lmul (n := 1) (x := 0) (y := 0) (z := 0) rfl ?_
  refine sx_ldc2 (i := 177) (n := 3) (x := 1000000) (y := 0) (z := 0) rfl ?_
  refine sx_lmul (n := 1) (x := 0) (y := 0) (z := 0) rfl ?_
  refine sx_lload (i := 6) (n := 2) (x := 0) (y := 0) (z := 0) rfl rfl ?_
  refine sx_ldiv (n := 1) (x := 0) (y := 0) (z := 0) rfl hne ?_
  exact sx_lret (n := 1) (x := 0) (y := 0) (z := 0) rfl rfl (hQ _ (g6.trans e))
set_option maxRecDepth 100000 in
theorem sm_w4 {E : sx_E} {d : Nat} {m : sx_M} {Q : Option Value → sx_M → Prop} {q : Int64} {X : Int} (hq : q.toInt = X) (h1 : 0 ≤ X) (h2 : X ≤ 1000000) (hQ : ∀ r : Int64, r.toInt = sm_F 4 6 X → Q (some (.long r)) m) : sx_S E d 0 0 162 [.long q, .long (Int64.ofNat 400), .long (Int64.ofNat 600)] m Q := by
  have cA : (Int64.ofNat 400).toInt = 400 := by decide
  have cB : (Int64.ofNat 600).toInt = 600 := by decide
  have cM : (Int64.ofNat 1000000).toInt = 1000000 := by decide
  have g1 : (q * Int64.ofNat 400).toInt = X * 400 := lm_mul hq cA (by omega) (by omega)
  have g2 : (Int64.ofNat 1000000 - q).toInt = 1000000 - X := lm_sub cM hq (by omega) (by omega)
  have g3 : ((Int64.ofNat 1000000 - q) * Int64.ofNat 600).toInt = (1000000 - X) * 600 := lm_mul g2 cB (by omega) (by omega)
  have g4 : (q * Int64.ofNat 400 + (Int64.ofNat 1000000 - q) * Int64.ofNat 600).toInt = X * 400 + (1000000 - X) * 600 := lm_add g1 g3 (by omega) (by omega)
  have g5 : (q * Int64.ofNat 400 * Int64.ofNat 1000000).toInt = X * 400 * 1000000 := lm_mul g1 cM (by omega) (by omega)
  have g6 := lm_div g5 g4 (by omega) (by omega)
  have e : X * 400 * 1000000 / (X * 400 + (1000000 - X) * 600) = sm_F 4 6 X := by
    unfold sm_F
    have e1 : X * 400 * 1000000 = 100 * (X * 4 * 1000000) := by omega
    have e2 : X * 400 + (1000000 - X) * 600 = 100 * (X * 4 + (1000000 - X) * 6) := by omega
    rw [e1, e2, Int.mul_ediv_mul_of_pos _ _ (by decide)]
  have hne : ¬ (q * Int64.ofNat 400 + (Int64.ofNat 1000000 - q) * Int64.ofNat 600) = 0 := fun e0 => by
    rw [e0] at g4
    have : (0 : Int64).toInt = 0 := by decide
    omega
  refine sx_S.of2 jf_162 (Nat.le_of_ble_eq_true rfl) ?_
  show sx_W E d 0 0 162 0 [some (.long q), none, some (.long (Int64.ofNat 400)), none, some (.long (Int64.ofNat 600)), none, none, none] [] m _
  refine sx_lload_n (w := 0) (n := 1) (x := 0) (y := 0) (z := 0) rfl rfl ?_
  refine sx_lload_n (w := 2) (n := 1) (x := 0) (y := 0) (z := 0) rfl rfl ?_
  refine sx_lmul (n := 1) (x := 0) (y := 0) (z := 0) rfl ?_
  refine sx_ldc2 (i := 177) (n := 3) (x := 1000000) (y := 0) (z := 0) rfl ?_
  refine sx_lload_n (w := 0) (n := 1) (x := 0) (y := 0) (z := 0) rfl rfl ?_
  refine sx_lsub (n := 1) (x := 0) (y := 0) (z := 0) rfl ?_
  refine sx_lload (i := 4) (n := 2) (x := 0) (y := 0) (z := 0) rfl rfl ?_
  refine sx_lmul (n := 1) (x := 0) (y := 0) (z := 0) rfl ?_
  refine sx_ladd (n := 1) (x := 0) (y := 0) (z := 0) rfl ?_
  refine sx_lstore (i := 6) (n := 2) (x := 0) (y := 0) (z := 0) rfl ?_
  refine sx_lload (i := 6) (n := 2) (x := 0) (y := 0) (z := 0) rfl rfl ?_
  refine sx_lconst (w := 0) (n := 1) (x := 0) (y := 0) (z := 0) rfl ?_
  refine sx_lcmp (n := 1) (x := 0) (y := 0) (z := 0) rfl ?_
  refine sx_if (cd := .ne) (off := 7) (n := 3) (x := 25) (y := 0) (z := 0) rfl ⟨fun _ => ?_, fun hc => absurd hc (lg_cmp_ne (by rw [g4]; omega))⟩
  refine sx_lload_n (w := 0) (n := 1) (x := 0) (y := 0) (z := 0) rfl rfl ?_
  refine sx_lload_n (w := 2) (n := 1) (x := 0) (y := 0) (z := 0) rfl rfl ?_
  refine sx_lmul (n := 1) (x := 0) (y := 0) (z := 0) rfl ?_
  refine sx_ldc2 (i := 177) (n := 3) (x := 1000000) (y := 0) (z := 0) rfl ?_
  refine sx_lmul (n := 1) (x := 0) (y := 0) (z := 0) rfl ?_
  refine sx_lload (i := 6) (n := 2) (x := 0) (y := 0) (z := 0) rfl rfl ?_
  refine sx_ldiv (n := 1) (x := 0) (y := 0) (z := 0) rfl hne ?_
  exact sx_lret (n := 1) (x := 0) (y := 0) (z := 0) rfl rfl (hQ _ (g6.trans e))
