-- SETS as numbers: which bits they have
noncomputable def zB_ (s k : Int) : Prop := s.toNat.testBit k.toNat = true
noncomputable def zBr (s : Int) : Prop := 0 ≤ s ∧ s ≤ 2147483647
theorem zB_orN {a b : Int} (ha : zBr a) (hb : zBr b) : zBr (zi_or a b) ∧ (zi_or a b).toNat = a.toNat ||| b.toNat := by
  unfold zBr at *
  have h1 := zi_ofN ha.1 ha.2
  have h2 := zi_ofN hb.1 hb.2
  have e31 : (2 : Nat) ^ 31 = 2147483648 := by decide
  have h3 : (Int32.ofInt a ||| Int32.ofInt b).toBitVec.toNat = a.toNat ||| b.toNat := by rw [zi_or_N, h1, h2]
  have h5 : a.toNat ||| b.toNat < 2 ^ 31 := Nat.or_lt_two_pow (by omega) (by omega)
  have h4 := zi_toN (Int32.ofInt a ||| Int32.ofInt b) (by omega)
  unfold zi_or
  rw [h4, h3]
  exact ⟨⟨by omega, by omega⟩, Int.toNat_natCast _⟩
theorem zB_andN {a b : Int} (ha : zBr a) (hb : zBr b) : zBr (zi_and a b) ∧ (zi_and a b).toNat = a.toNat &&& b.toNat := by
  unfold zBr at *
  have h1 := zi_ofN ha.1 ha.2
  have h2 := zi_ofN hb.1 hb.2
  have h3 : (Int32.ofInt a &&& Int32.ofInt b).toBitVec.toNat = a.toNat &&& b.toNat := by rw [zi_and_N, h1, h2]
  have h5 : a.toNat &&& b.toNat ≤ a.toNat := Nat.and_le_left
  have h4 := zi_toN (Int32.ofInt a &&& Int32.ofInt b) (by omega)
  unfold zi_and
  rw [h4, h3]
  exact ⟨⟨by omega, by omega⟩, Int.toNat_natCast _⟩
theorem zB_has {s k : Int} (hs : zBr s) (hk : 0 ≤ k ∧ k ≤ 30) : zi_and (zi_shr s k) 1 = 1 ↔ zB_ s k := by
  unfold zBr zB_ at *
  rw [zi_has hs hk, Nat.testBit_eq_decide_div_mod_eq, decide_eq_true_iff]
  have : s / ((2 ^ k.toNat : Nat) : Int) = ((s.toNat / 2 ^ k.toNat : Nat) : Int) := by
    rw [Int.natCast_ediv]
    congr 1
    omega
  rw [this]
  omega
theorem zB_01 {s k : Int} (hs : zBr s) (hk : 0 ≤ k ∧ k ≤ 30) : zi_and (zi_shr s k) 1 = 0 ∨ zi_and (zi_shr s k) 1 = 1 := by
  rw [zi_has hs hk]
  omega
theorem zB_shlN {j : Int} (hj : 0 ≤ j ∧ j ≤ 30) : zBr (zi_shl 1 j) ∧ (zi_shl 1 j).toNat = 2 ^ j.toNat := by
  have h := (zi_shl_f j).2.1 hj
  rw [zi_shl1 hj] at h ⊢
  exact ⟨⟨by omega, by omega⟩, Int.toNat_natCast _⟩
theorem zB_shl {j k : Int} (hj : 0 ≤ j ∧ j ≤ 30) (hk : 0 ≤ k) : zB_ (zi_shl 1 j) k ↔ k = j := by
  unfold zB_
  rw [(zB_shlN hj).2, Nat.testBit_two_pow]
  constructor
  · intro h
    have := of_decide_eq_true h
    omega
  · intro h
    rw [h]
    exact decide_eq_true rfl
theorem zB_or {a b k : Int} (ha : zBr a) (hb : zBr b) : zB_ (zi_or a b) k ↔ zB_ a k ∨ zB_ b k := by
  unfold zB_
  rw [(zB_orN ha hb).2, Nat.testBit_or, Bool.or_eq_true]
theorem zB_and {a b k : Int} (ha : zBr a) (hb : zBr b) : zB_ (zi_and a b) k ↔ zB_ a k ∧ zB_ b k := by
  unfold zB_
  rw [(zB_andN ha hb).2, Nat.testBit_and, Bool.and_eq_true]
theorem zB_0 (k : Int) : ¬ zB_ 0 k := by
  unfold zB_
  rw [show (0 : Int).toNat = 0 from rfl, Nat.zero_testBit]
  exact Bool.false_ne_true
/-- one more -/
theorem zB_add {s j k : Int} (hs : zBr s) (hj : 0 ≤ j ∧ j ≤ 30) (hk : 0 ≤ k) : zB_ (zi_or s (zi_shl 1 j)) k ↔ zB_ s k ∨ k = j := by
  rw [zB_or hs (zB_shlN hj).1, zB_shl hj hk]
theorem zB_ext {s t : Int} (hs : 0 ≤ s) (ht : 0 ≤ t) (h : ∀ k : Int, 0 ≤ k → (zB_ s k ↔ zB_ t k)) : s = t := by
  have : s.toNat = t.toNat := Nat.eq_of_testBit_eq (fun i => by
    have := h (i : Int) (by omega)
    unfold zB_ at this
    rw [show ((i : Nat) : Int).toNat = i from Int.toNat_natCast _] at this
    exact Bool.eq_iff_iff.2 this)
  omega
theorem zB_big {s k : Int} {n : Nat} (hs : 0 ≤ s) (h : s.toNat < 2 ^ n) (hk : (n : Int) ≤ k) : ¬ zB_ s k := by
  unfold zB_
  rw [Nat.testBit_lt_two_pow (Nat.lt_of_lt_of_le h (Nat.pow_le_pow_right (by decide) (by omega)))]
  exact Bool.false_ne_true
/-- all of the first n -/
theorem zB_all {s : Int} {n : Nat} (hs : 0 ≤ s) (h : s.toNat < 2 ^ n) : s = ((2 ^ n - 1 : Nat) : Int) ↔ ∀ k : Int, 0 ≤ k → k < (n : Int) → zB_ s k := by
  constructor
  · intro e k h0 h1
    unfold zB_
    rw [e, Int.toNat_natCast, Nat.testBit_two_pow_sub_one]
    exact decide_eq_true (by omega)
  · intro h2
    refine zB_ext hs (Int.natCast_nonneg _) (fun k h0 => ?_)
    by_cases q : k < (n : Int)
    · refine ⟨fun _ => ?_, fun _ => h2 k h0 q⟩
      unfold zB_
      rw [Int.toNat_natCast, Nat.testBit_two_pow_sub_one]
      exact decide_eq_true (by omega)
    · refine ⟨fun z => absurd z (zB_big hs h (by omega)), fun z => absurd z ?_⟩
      exact zB_big (n := n) (Int.natCast_nonneg _) (by rw [Int.toNat_natCast]; exact Nat.sub_lt (Nat.two_pow_pos n) (by decide)) (by omega)
/-- how many of the first n -/
noncomputable def zpc (s : Int) : Nat → Int
  | 0 => 0
  | n + 1 => zpc s n + (if s.toNat.testBit n = true then 1 else 0)
theorem zpc_b (s : Int) : ∀ n : Nat, 0 ≤ zpc s n ∧ zpc s n ≤ (n : Int)
  | 0 => ⟨Int.le_refl _, Int.le_refl _⟩
  | n + 1 => by
    have := zpc_b s n
    show 0 ≤ zpc s n + _ ∧ zpc s n + _ ≤ _
    split <;> omega
theorem zpc_c {s t : Int} : ∀ n : Nat, (∀ k : Int, 0 ≤ k → k < (n : Int) → (zB_ s k ↔ zB_ t k)) → zpc s n = zpc t n
  | 0, _ => rfl
  | n + 1, h => by
    have h1 := zpc_c n (fun k h0 h1 => h k h0 (by omega))
    have h2 := h (n : Int) (by omega) (by omega)
    unfold zB_ at h2
    rw [show ((n : Nat) : Int).toNat = n from Int.toNat_natCast _] at h2
    show zpc s n + _ = zpc t n + _
    rw [h1]
    by_cases q : s.toNat.testBit n = true
    · rw [if_pos q, if_pos (h2.1 q)]
    · rw [if_neg q, if_neg (fun z => q (h2.2 z))]
/-- one more, that wasn't there -/
theorem zpc_new {s t j : Int} (h0 : 0 ≤ j) (hn : ¬ zB_ s j) (h : ∀ k : Int, 0 ≤ k → (zB_ t k ↔ zB_ s k ∨ k = j)) : ∀ n : Nat, (j < (n : Int) → zpc t n = zpc s n + 1) ∧ ((n : Int) ≤ j → zpc t n = zpc s n)
  | 0 => ⟨fun q => by exfalso; omega, fun _ => rfl⟩
  | n + 1 => by
    have ih := zpc_new h0 hn h n
    have h2 := h (n : Int) (by omega)
    unfold zB_ at h2 hn
    rw [show ((n : Nat) : Int).toNat = n from Int.toNat_natCast _] at h2
    refine ⟨fun q => ?_, fun q => ?_⟩
    · show zpc t n + _ = zpc s n + _ + 1
      by_cases e : (n : Int) = j
      · have hn' : ¬ s.toNat.testBit n = true := by
          rw [show n = j.toNat by omega]
          exact hn
        rw [ih.2 (by omega), if_pos (h2.2 (Or.inr e)), if_neg hn']
        omega
      · rw [ih.1 (by omega)]
        by_cases z : s.toNat.testBit n = true
        · rw [if_pos z, if_pos (h2.2 (Or.inl z))]
        · rw [if_neg z, if_neg (fun y => (h2.1 y).elim z e)]; omega
    · show zpc t n + _ = zpc s n + _
      rw [ih.2 (by omega)]
      by_cases z : s.toNat.testBit n = true
      · rw [if_pos z, if_pos (h2.2 (Or.inl z))]
      · rw [if_neg z, if_neg (fun y => (h2.1 y).elim z (by omega))]
