-- bits, quotients, rests: bounds
theorem zi_toN (x : Int32) (h : x.toBitVec.toNat < 2147483648) : x.toInt = (x.toBitVec.toNat : Int) := by
  show x.toBitVec.toInt = _
  rw [BitVec.toInt_eq_toNat_cond]
  rw [if_pos (by omega)]
theorem zi_ofN {a : Int} (h : 0 ≤ a) (h2 : a ≤ 2147483647) : (Int32.ofInt a).toBitVec.toNat = a.toNat := by
  have h3 : (Int32.ofInt a).toInt = a := zi_to ⟨by omega, h2⟩
  have h4 : (Int32.ofInt a).toBitVec.toInt = a := h3
  rw [BitVec.toInt_eq_toNat_cond] at h4
  have h5 := (Int32.ofInt a).toBitVec.isLt
  split at h4 <;> omega
theorem zi_and_N (a b : Int) : (Int32.ofInt a &&& Int32.ofInt b).toBitVec.toNat = (Int32.ofInt a).toBitVec.toNat &&& (Int32.ofInt b).toBitVec.toNat := by
  rw [Int32.toBitVec_and, BitVec.toNat_and]
theorem zi_or_N (a b : Int) : (Int32.ofInt a ||| Int32.ofInt b).toBitVec.toNat = (Int32.ofInt a).toBitVec.toNat ||| (Int32.ofInt b).toBitVec.toNat := by
  rw [Int32.toBitVec_or, BitVec.toNat_or]
theorem zi_xor_N (a b : Int) : (Int32.ofInt a ^^^ Int32.ofInt b).toBitVec.toNat = (Int32.ofInt a).toBitVec.toNat ^^^ (Int32.ofInt b).toBitVec.toNat := by
  rw [Int32.toBitVec_xor, BitVec.toNat_xor]
theorem zi_and_f (a b : Int) : zi_r (zi_and a b) ∧ (0 ≤ a ∧ a ≤ 2147483647 → 0 ≤ zi_and a b ∧ zi_and a b ≤ a) ∧ (0 ≤ b ∧ b ≤ 2147483647 → 0 ≤ zi_and a b ∧ zi_and a b ≤ b) := by
  have hN := zi_and_N a b
  refine ⟨zi_r_and a b, fun h => ?_, fun h => ?_⟩
  · have h1 := zi_ofN h.1 h.2
    have h2 : (Int32.ofInt a &&& Int32.ofInt b).toBitVec.toNat ≤ a.toNat := by rw [hN, ← h1]; exact Nat.and_le_left
    have h3 := zi_toN (Int32.ofInt a &&& Int32.ofInt b) (by omega)
    unfold zi_and
    omega
  · have h1 := zi_ofN h.1 h.2
    have h2 : (Int32.ofInt a &&& Int32.ofInt b).toBitVec.toNat ≤ b.toNat := by rw [hN, ← h1]; exact Nat.and_le_right
    have h3 := zi_toN (Int32.ofInt a &&& Int32.ofInt b) (by omega)
    unfold zi_and
    omega
theorem zi_or_k (k : Nat) (hk : k ≤ 31) {a b : Int} (ha : 0 ≤ a ∧ a.toNat < 2 ^ k) (hb : 0 ≤ b ∧ b.toNat < 2 ^ k) : 0 ≤ zi_or a b ∧ (zi_or a b).toNat < 2 ^ k := by
  have hp : (2 : Nat) ^ k ≤ 2 ^ 31 := Nat.pow_le_pow_right (by decide) hk
  have e31 : (2 : Nat) ^ 31 = 2147483648 := by decide
  have h1 := zi_ofN ha.1 (by omega)
  have h2 := zi_ofN hb.1 (by omega)
  have h3 : (Int32.ofInt a ||| Int32.ofInt b).toBitVec.toNat < 2 ^ k := by rw [zi_or_N, h1, h2]; exact Nat.or_lt_two_pow ha.2 hb.2
  have h4 := zi_toN (Int32.ofInt a ||| Int32.ofInt b) (by omega)
  unfold zi_or
  rw [h4]
  exact ⟨by omega, by simpa using h3⟩
theorem zi_xor_k (k : Nat) (hk : k ≤ 31) {a b : Int} (ha : 0 ≤ a ∧ a.toNat < 2 ^ k) (hb : 0 ≤ b ∧ b.toNat < 2 ^ k) : 0 ≤ zi_xor a b ∧ (zi_xor a b).toNat < 2 ^ k := by
  have hp : (2 : Nat) ^ k ≤ 2 ^ 31 := Nat.pow_le_pow_right (by decide) hk
  have e31 : (2 : Nat) ^ 31 = 2147483648 := by decide
  have h1 := zi_ofN ha.1 (by omega)
  have h2 := zi_ofN hb.1 (by omega)
  have h3 : (Int32.ofInt a ^^^ Int32.ofInt b).toBitVec.toNat < 2 ^ k := by rw [zi_xor_N, h1, h2]; exact Nat.xor_lt_two_pow ha.2 hb.2
  have h4 := zi_toN (Int32.ofInt a ^^^ Int32.ofInt b) (by omega)
  unfold zi_xor
  rw [h4]
  exact ⟨by omega, by simpa using h3⟩
theorem zi_or_f (a b : Int) : zi_r (zi_or a b) ∧ (0 ≤ a ∧ 0 ≤ b ∧ a ≤ 15 ∧ b ≤ 15 → 0 ≤ zi_or a b ∧ zi_or a b ≤ 15) ∧ (0 ≤ a ∧ 0 ≤ b ∧ a ≤ 255 ∧ b ≤ 255 → 0 ≤ zi_or a b ∧ zi_or a b ≤ 255) ∧ (0 ≤ a ∧ 0 ≤ b ∧ a ≤ 1023 ∧ b ≤ 1023 → 0 ≤ zi_or a b ∧ zi_or a b ≤ 1023) ∧ (0 ≤ a ∧ 0 ≤ b ∧ a ≤ 65535 ∧ b ≤ 65535 → 0 ≤ zi_or a b ∧ zi_or a b ≤ 65535) ∧ (0 ≤ a ∧ 0 ≤ b ∧ a ≤ 2147483647 ∧ b ≤ 2147483647 → 0 ≤ zi_or a b) := by
  refine ⟨zi_r_or a b, fun h => ?_, fun h => ?_, fun h => ?_, fun h => ?_, fun h => ?_⟩
  · have := zi_or_k 4 (by decide) (a := a) (b := b) ⟨h.1, by omega⟩ ⟨h.2.1, by omega⟩; omega
  · have := zi_or_k 8 (by decide) (a := a) (b := b) ⟨h.1, by omega⟩ ⟨h.2.1, by omega⟩; omega
  · have := zi_or_k 10 (by decide) (a := a) (b := b) ⟨h.1, by omega⟩ ⟨h.2.1, by omega⟩; omega
  · have := zi_or_k 16 (by decide) (a := a) (b := b) ⟨h.1, by omega⟩ ⟨h.2.1, by omega⟩; omega
  · have := zi_or_k 31 (by decide) (a := a) (b := b) ⟨h.1, by omega⟩ ⟨h.2.1, by omega⟩; omega
theorem zi_xor_f (a b : Int) : zi_r (zi_xor a b) ∧ (0 ≤ a ∧ 0 ≤ b ∧ a ≤ 3 ∧ b ≤ 3 → 0 ≤ zi_xor a b ∧ zi_xor a b ≤ 3) ∧ (0 ≤ a ∧ 0 ≤ b ∧ a ≤ 31 ∧ b ≤ 31 → 0 ≤ zi_xor a b ∧ zi_xor a b ≤ 31) ∧ (0 ≤ a ∧ 0 ≤ b ∧ a ≤ 2147483647 ∧ b ≤ 2147483647 → 0 ≤ zi_xor a b) := by
  refine ⟨zi_r_xor a b, fun h => ?_, fun h => ?_, fun h => ?_⟩
  · have := zi_xor_k 2 (by decide) (a := a) (b := b) ⟨h.1, by omega⟩ ⟨h.2.1, by omega⟩; omega
  · have := zi_xor_k 5 (by decide) (a := a) (b := b) ⟨h.1, by omega⟩ ⟨h.2.1, by omega⟩; omega
  · have := zi_xor_k 31 (by decide) (a := a) (b := b) ⟨h.1, by omega⟩ ⟨h.2.1, by omega⟩; omega
/-- one bit -/
theorem zi_shl1 {k : Int} (h : 0 ≤ k ∧ k ≤ 30) : zi_shl 1 k = ((2 ^ k.toNat : Nat) : Int) := by
  have hd : ∀ n, n < 31 → zi_shl 1 (n : Int) = ((2 ^ n : Nat) : Int) := by decide +kernel
  have := hd k.toNat (by omega)
  rw [show ((k.toNat : Nat) : Int) = k by omega] at this
  exact this
theorem zi_shl_f (k : Int) : zi_r (zi_shl 1 k) ∧ (0 ≤ k ∧ k ≤ 30 → 1 ≤ zi_shl 1 k ∧ zi_shl 1 k ≤ 1073741824) ∧ (0 ≤ k ∧ k ≤ 3 → zi_shl 1 k ≤ 8) ∧ (0 ≤ k ∧ k ≤ 7 → zi_shl 1 k ≤ 128) ∧ (0 ≤ k ∧ k ≤ 9 → zi_shl 1 k ≤ 512) ∧ (0 ≤ k ∧ k ≤ 10 → zi_shl 1 k ≤ 1024) ∧ (0 ≤ k ∧ k ≤ 15 → zi_shl 1 k ≤ 32768) := by
  have hd : ∀ n, n < 31 → 1 ≤ zi_shl 1 (n : Int) ∧ zi_shl 1 (n : Int) ≤ 1073741824 ∧ (n ≤ 3 → zi_shl 1 (n : Int) ≤ 8) ∧ (n ≤ 7 → zi_shl 1 (n : Int) ≤ 128) ∧ (n ≤ 9 → zi_shl 1 (n : Int) ≤ 512) ∧ (n ≤ 10 → zi_shl 1 (n : Int) ≤ 1024) ∧ (n ≤ 15 → zi_shl 1 (n : Int) ≤ 32768) := by decide +kernel
  have use : 0 ≤ k → k ≤ 30 → 1 ≤ zi_shl 1 k ∧ zi_shl 1 k ≤ 1073741824 ∧ (k.toNat ≤ 3 → zi_shl 1 k ≤ 8) ∧ (k.toNat ≤ 7 → zi_shl 1 k ≤ 128) ∧ (k.toNat ≤ 9 → zi_shl 1 k ≤ 512) ∧ (k.toNat ≤ 10 → zi_shl 1 k ≤ 1024) ∧ (k.toNat ≤ 15 → zi_shl 1 k ≤ 32768) := by
    intro h0 h1
    have := hd k.toNat (by omega)
    rw [show ((k.toNat : Nat) : Int) = k by omega] at this
    exact this
  refine ⟨zi_r_shl 1 k, fun h => ?_, fun h => ?_, fun h => ?_, fun h => ?_, fun h => ?_, fun h => ?_⟩
  · have := use (by omega) (by omega); exact ⟨this.1, this.2.1⟩
  · exact (use (by omega) (by omega)).2.2.1 (by omega)
  · exact (use (by omega) (by omega)).2.2.2.1 (by omega)
  · exact (use (by omega) (by omega)).2.2.2.2.1 (by omega)
  · exact (use (by omega) (by omega)).2.2.2.2.2.1 (by omega)
  · exact (use (by omega) (by omega)).2.2.2.2.2.2 (by omega)
theorem zi_shamt (b : Int) : ∃ k : Nat, k < 32 ∧ (Int32.ofInt b &&& 31).toBitVec.toNat = k ∧ (Int32.ofInt b &&& 31).toInt = k := by
  have h := zi_and_f b 31
  have h1 : (Int32.ofInt b &&& 31).toInt = zi_and b 31 := rfl
  have h2 := h.2.2 (by decide)
  refine ⟨(zi_and b 31).toNat, by omega, ?_, by rw [h1]; omega⟩
  have h4 : (Int32.ofInt b &&& 31).toBitVec.toInt = zi_and b 31 := rfl
  rw [BitVec.toInt_eq_toNat_cond] at h4
  have h5 := (Int32.ofInt b &&& 31).toBitVec.isLt
  split at h4 <;> omega
theorem zi_tdiv_f (a b : Int) : (0 < b ∧ 0 ≤ a → 0 ≤ Int.tdiv a b ∧ Int.tdiv a b ≤ a) ∧ (0 < b ∧ a ≤ 0 → a ≤ Int.tdiv a b ∧ Int.tdiv a b ≤ 0) := by
  refine ⟨fun h => ?_, fun h => ?_⟩
  · rw [Int.tdiv_eq_ediv_of_nonneg h.2]
    exact ⟨Int.ediv_nonneg h.2 (by omega), Int.ediv_le_self b h.2⟩
  · have e : Int.tdiv a b = -(Int.tdiv (-a) b) := by rw [Int.neg_tdiv]; omega
    rw [e, Int.tdiv_eq_ediv_of_nonneg (by omega)]
    have h1 := Int.ediv_nonneg (a := -a) (b := b) (by omega) (by omega)
    have h2 := Int.ediv_le_self (a := -a) b (by omega)
    omega
theorem zi_tdiv_c (a c : Int) (_ : c ≠ 0) : 0 ≤ a → Int.tdiv a c = a / c := fun h => Int.tdiv_eq_ediv_of_nonneg h
theorem zi_tmod_f (a b : Int) : (0 < b ∧ 0 ≤ a → 0 ≤ Int.tmod a b ∧ Int.tmod a b < b) ∧ (0 < b ∧ a ≤ 0 → -b < Int.tmod a b ∧ Int.tmod a b ≤ 0) := by
  refine ⟨fun h => ?_, fun h => ?_⟩
  · rw [Int.tmod_eq_emod_of_nonneg h.2]
    exact ⟨Int.emod_nonneg a (by omega), Int.emod_lt_of_pos a h.1⟩
  · have e : Int.tmod a b = -(Int.tmod (-a) b) := by rw [Int.neg_tmod]; omega
    rw [e, Int.tmod_eq_emod_of_nonneg (by omega)]
    have h1 := Int.emod_nonneg (-a) (b := b) (by omega)
    have h2 := Int.emod_lt_of_pos (-a) (b := b) h.1
    omega
theorem zi_tmod_c (a c : Int) (_ : c ≠ 0) : 0 ≤ a → Int.tmod a c = a % c := fun h => Int.tmod_eq_emod_of_nonneg h
