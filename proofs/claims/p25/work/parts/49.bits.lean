-- bits, quotients, rests: bounds
theorem zi_toN (x : Int32) (h : x.toBitVec.toNat < 2147483648) : x.toInt = (x.toBitVec.toNat : Int) := by
  show x.toBitVec.toInt = _
  rw [BitVec.toInt_eq_toNat_cond]
  rw [if_pos (by omega)]
theorem zi_ofN {a : Int} (h : 0 ≤ a) (h2 : a ≤ 2147483647) : (Int32.ofInt a).toBitVec.toNat = a.toNat := by
  have h3 : (Int32.ofInt a).toInt = a := zi_to ⟨by omega, h2⟩
  have h4 : (Int32.ofInt a).toBitVec.toInt = a := h3
  rw [BitVec.toInt_eq_toNat_cond] at h4
  have h5 := (Int32.ofInt a).toBitVec.isLt
  split at h4 <;> omega
theorem zi_and_N (a b : Int) : (Int32.ofInt a &&& Int32.ofInt b).toBitVec.toNat = (Int32.ofInt a).toBitVec.toNat &&& (Int32.ofInt b).toBitVec.toNat := by
  rw [Int32.toBitVec_and, BitVec.toNat_and]
theorem zi_or_N (a b : Int) : (Int32.ofInt a ||| Int32.ofInt b).toBitVec.toNat = (Int32.ofInt a).toBitVec.toNat ||| (Int32.ofInt b).toBitVec.toNat := by
  rw [Int32.toBitVec_or, BitVec.toNat_or]
theorem zi_xor_N (a b : Int) : (Int32.ofInt a ^^^ Int32.ofInt b).toBitVec.toNat = (Int32.ofInt a).toBitVec.toNat ^^^ (Int32.ofInt b).toBitVec.toNat := by
  rw [Int32.toBitVec_xor, BitVec.toNat_xor]
theorem zi_and_f (a b : Int) : zi_r (zi_and a b) ∧ (0 ≤ a ∧ a ≤ 2147483647 → 0 ≤ zi_and a b ∧ zi_and a b ≤ a) ∧ (0 ≤ b ∧ b ≤ 2147483647 → 0 ≤ zi_and a b ∧ zi_and a b ≤ b) := by
  have hN := zi_and_N a b
  refine ⟨zi_r_and a b, fun h => ?_, fun h => ?_⟩
  · have h1 := zi_ofN h.1 h.2
    have h2 : (Int32.ofInt a &&& Int32.ofInt b).toBitVec.toNat ≤ a.toNat := by rw [hN, ← h1]; exact Nat.and_le_left
    have h3 := zi_toN (Int32.ofInt a &&& Int32.ofInt b) (by omega)
    unfold zi_and
    omega
  · have h1 := zi_ofN h.1 h.2
    have h2 : (Int32.ofInt a &&& Int32.ofInt b).toBitVec.toNat ≤ b.toNat := by rw [hN, ← h1]; exact Nat.and_le_right
    have h3 := zi_toN (Int32.ofInt a &&& Int32.ofInt b) (by omega)
    unfold zi_and
    omega
theorem zi_or_k (k : Nat) (hk : k ≤ 31) {a b : Int} (ha : 0 ≤ a ∧ a.toNat < 2 ^ k) (hb : 0 ≤ b ∧ b.toNat < 2 ^ k) : 0 ≤ zi_or a b ∧ (zi_or a b).toNat < 2 ^ k := by
  have hp : (2 : Nat) ^ k ≤ 2 ^ 31 := Nat.pow_le_pow_right (by decide) hk
  have e31 : (2 : Nat) ^ 31 = 2147483648 := by decide
  have h1 := zi_ofN ha.1 (by omega)
  have h2 := zi_ofN hb.1 (by omega)
  have h3 : (Int32.ofInt a ||| Int32.ofInt b).toBitVec.toNat < 2 ^ k := by rw [zi_or_N, h1, h2]; exact Nat.or_lt_two_pow ha.2 hb.2
  have h4 := zi_toN (Int32.ofInt a ||| Int32.ofInt b) (by omega)
  unfold zi_or
  rw [h4]
  exact ⟨by omega, by simpa using h3⟩
theorem zi_xor_k (k : Nat) (hk : k ≤ 31) {a b : Int} (ha : 0 ≤ a ∧ a.toNat < 2 ^ k) (hb : 0 ≤ b ∧ b.toNat < 2 ^ k) : 0 ≤ zi_xor a b ∧ (zi_xor a b).toNat < 2 ^ k := by
  have hp : (2 : Nat) ^ k ≤ 2 ^ 31 := Nat.pow_le_pow_right (by decide) hk
  have e31 : (2 : Nat) ^ 31 = 2147483648 := by decide
  have h1 := zi_ofN ha.1 (by omega)
  have h2 := zi_ofN hb.1 (by omega)
  have h3 : (Int32.ofInt a ^^^ Int32.ofInt b).toBitVec.toNat < 2 ^ k := by rw [zi_xor_N, h1, h2]; exact Nat.xor_lt_two_pow ha.2 hb.2
  have h4 := zi_toN (Int32.ofInt a ^^^ Int32.ofInt b) (by omega)
  unfold zi_xor
  rw [h4]
  exact ⟨by omega, by simpa using h3⟩
theorem zi_or_f (a b : Int) : zi_r (zi_or a b) ∧ (0 ≤ a ∧ 0 ≤ b ∧ a ≤ 15 ∧ b ≤ 15 → 0 ≤ zi_or a b ∧ zi_or a b ≤ 15) ∧ (0 ≤ a ∧ 0 ≤ b ∧ a ≤ 255 ∧ b ≤ 255 → 0 ≤ zi_or a b ∧ zi_or a b ≤ 255) ∧ (0 ≤ a ∧ 0 ≤ b ∧ a ≤ 1023 ∧ b ≤ 1023 → 0 ≤ zi_or a b ∧ zi_or a b ≤ 1023) ∧ (0 ≤ a ∧ 0 ≤ b ∧ a ≤ 65535 ∧ b ≤ 65535 → 0 ≤ zi_or a b ∧ zi_or a b ≤ 65535) ∧ (0 ≤ a ∧ 0 ≤ b ∧ a ≤ 2147483647 ∧ b ≤ 2147483647 → 0 ≤ zi_or a b) := by
  refine ⟨zi_r_or a b, fun h => ?_, fun h => ?_, fun h => ?_, fun h => ?_, fun h => ?_⟩
  · have := zi_or_k 4 (by decide) (a := a) (b := b) ⟨h.1, by omega⟩ ⟨h.2.1, by omega⟩; omega
  · have := zi_or_k 8 (by decide) (a := a) (b := b) ⟨h.1, by omega⟩ ⟨h.2.1, by omega⟩; omega
  · have := zi_or_k 10 (by decide) (a := a) (b := b) ⟨h.1, by omega⟩ ⟨h.2.1, by omega⟩; omega
  · have := zi_or_k 16 (by decide) (a := a) (b := b) ⟨h.1, by omega⟩ ⟨h.2.1, by omega⟩; omega
  · have := zi_or_k 31 (by decide) (a := a) (b := b) ⟨h.1, by omega⟩ ⟨h.2.1, by omega⟩; omega
theorem zi_xor_f (a b : Int) : zi_r (zi_xor a b) ∧ (0 ≤ a ∧ 0 ≤ b ∧ a ≤ 3 ∧ b ≤ 3 → 0 ≤ zi_xor a b ∧ zi_xor a b ≤ 3) ∧ (0 ≤ a ∧ 0 ≤ b ∧ a ≤ 31 ∧ b ≤ 31 → 0 ≤ zi_xor a b ∧ zi_xor a b ≤ 31) ∧ (0 ≤ a ∧ 0 ≤ b ∧ a ≤ 2147483647 ∧ b ≤ 2147483647 → 0 ≤ zi_xor a b) := by
  refine ⟨zi_r_xor a b, fun h => ?_, fun h => ?_, fun h => ?_⟩
  · have := zi_xor_k 2 (by decide) (a := a) (b := b) ⟨h.1, by omega⟩ ⟨h.2.1, by omega⟩; omega
  · have := zi_xor_k 5 (by decide) (a := a) (b := b) ⟨h.1, by omega⟩ ⟨h.2.1, by omega⟩; omega
  · have := zi_xor_k 31 (by decide) (a := a) (b := b) ⟨h.1, by omega⟩ ⟨h.2.1, by omega⟩; omega
/-- one bit -/
theorem zi_shl1 {k : Int} (h : 0 ≤ k ∧ k ≤ 30) : zi_shl 1 k = ((2 ^ k.toNat : Nat) : Int) := by
  have hd : ∀ n : Nat, n < 31 → zi_shl 1 (n : Int) = ((2 ^ n : Nat) : Int) := by decide +kernel
  have := hd k.toNat (by omega)
  rw [show ((k.toNat : Nat) : Int) = k by omega] at this
  exact this
theorem zi_shl_f (k : Int) : zi_r (zi_shl 1 k) ∧ (0 ≤ k ∧ k ≤ 30 → 1 ≤ zi_shl 1 k ∧ zi_shl 1 k ≤ 1073741824) ∧ (0 ≤ k ∧ k ≤ 3 → zi_shl 1 k ≤ 8) ∧ (0 ≤ k ∧ k ≤ 7 → zi_shl 1 k ≤ 128) ∧ (0 ≤ k ∧ k ≤ 9 → zi_shl 1 k ≤ 512) ∧ (0 ≤ k ∧ k ≤ 10 → zi_shl 1 k ≤ 1024) ∧ (0 ≤ k ∧ k ≤ 15 → zi_shl 1 k ≤ 32768) := by
  have hd : ∀ n : Nat, n < 31 → 1 ≤ zi_shl 1 (n : Int) ∧ zi_shl 1 (n : Int) ≤ 1073741824 ∧ (n ≤ 3 → zi_shl 1 (n : Int) ≤ 8) ∧ (n ≤ 7 → zi_shl 1 (n : Int) ≤ 128) ∧ (n ≤ 9 → zi_shl 1 (n : Int) ≤ 512) ∧ (n ≤ 10 → zi_shl 1 (n : Int) ≤ 1024) ∧ (n ≤ 15 → zi_shl 1 (n : Int) ≤ 32768) := by decide +kernel
  have use : 0 ≤ k → k ≤ 30 → 1 ≤ zi_shl 1 k ∧ zi_shl 1 k ≤ 1073741824 ∧ (k.toNat ≤ 3 → zi_shl 1 k ≤ 8) ∧ (k.toNat ≤ 7 → zi_shl 1 k ≤ 128) ∧ (k.toNat ≤ 9 → zi_shl 1 k ≤ 512) ∧ (k.toNat ≤ 10 → zi_shl 1 k ≤ 1024) ∧ (k.toNat ≤ 15 → zi_shl 1 k ≤ 32768) := by
    intro h0 h1
    have := hd k.toNat (by omega)
    rw [show ((k.toNat : Nat) : Int) = k by omega] at this
    exact this
  refine ⟨zi_r_shl 1 k, fun h => ?_, fun h => ?_, fun h => ?_, fun h => ?_, fun h => ?_, fun h => ?_⟩
  · have := use (by omega) (by omega); exact ⟨this.1, this.2.1⟩
  · exact (use (by omega) (by omega)).2.2.1 (by omega)
  · exact (use (by omega) (by omega)).2.2.2.1 (by omega)
  · exact (use (by omega) (by omega)).2.2.2.2.1 (by omega)
  · exact (use (by omega) (by omega)).2.2.2.2.2.1 (by omega)
  · exact (use (by omega) (by omega)).2.2.2.2.2.2 (by omega)
theorem zi_amt (b : Int) : ∃ k : Nat, k < 32 ∧ (Int32.ofInt b &&& 31).toBitVec = BitVec.ofNat 32 k ∧ (0 ≤ b ∧ b ≤ 31 → k = b.toNat) := by
  have h := zi_and_f b 31
  have h2 := h.2.2 (by decide)
  have h4 : (Int32.ofInt b &&& 31).toBitVec.toInt = zi_and b 31 := rfl
  rw [BitVec.toInt_eq_toNat_cond] at h4
  have h5 := (Int32.ofInt b &&& 31).toBitVec.isLt
  have hN : (Int32.ofInt b &&& 31).toBitVec.toNat = (zi_and b 31).toNat := by split at h4 <;> omega
  refine ⟨(zi_and b 31).toNat, by omega, BitVec.eq_of_toNat_eq ?_, fun hb => ?_⟩
  · rw [BitVec.toNat_ofNat, Nat.mod_eq_of_lt (by omega)]
    exact hN
  · rw [← hN, Int32.toBitVec_and, BitVec.toNat_and, zi_ofN hb.1 (by omega), show (31 : Int32).toBitVec.toNat = 2 ^ 5 - 1 from by decide, Nat.and_two_pow_sub_one_eq_mod]
    omega
theorem zi_smod : ∀ k, k < 32 → ((BitVec.ofNat 32 k).smod 32).toNat = k ∧ (BitVec.ofNat 32 k % 32).toNat = k := by decide +kernel
theorem zi_shr_d (a b : Int) (ra : zi_r a) : ∃ k : Nat, k < 32 ∧ zi_shr a b = a / ((2 ^ k : Nat) : Int) ∧ (0 ≤ b ∧ b ≤ 31 → k = b.toNat) := by
  obtain ⟨k, hk, h1, h2⟩ := zi_amt b
  refine ⟨k, hk, ?_, h2⟩
  show ((Int32.ofInt a).toBitVec.sshiftRight' ((Int32.ofInt b &&& 31).toBitVec.smod 32)).toInt = _
  rw [BitVec.toInt_sshiftRight', Int.shiftRight_eq_div_pow, h1, (zi_smod k hk).1]
  have : (Int32.ofInt a).toBitVec.toInt = a := zi_to ra
  rw [this]
theorem zi_shr_f (a b : Int) : zi_r (zi_shr a b) ∧ (0 ≤ a ∧ a ≤ 2147483647 → 0 ≤ zi_shr a b ∧ zi_shr a b ≤ a) := by
  refine ⟨zi_r_shr a b, fun h => ?_⟩
  obtain ⟨k, hk, h1, -⟩ := zi_shr_d a b ⟨by omega, by omega⟩
  rw [h1]
  exact ⟨Int.ediv_nonneg h.1 (Int.natCast_nonneg _), Int.ediv_le_self _ h.1⟩
theorem zi_ush_d (a b : Int) (ra : zi_r a) : ∃ k : Nat, k < 32 ∧ (0 < k → zi_ush a b = (a % 4294967296) / ((2 ^ k : Nat) : Int)) ∧ (0 ≤ b ∧ b ≤ 31 → k = b.toNat) := by
  obtain ⟨k, hk, h1, h2⟩ := zi_amt b
  refine ⟨k, hk, fun h0 => ?_, h2⟩
  have e0 : (Int32.ofInt a).toBitVec.toInt = a := zi_to ra
  have h3 := (Int32.ofInt a).toBitVec.isLt
  show ((Int32.ofInt a).toBitVec >>> ((Int32.ofInt b &&& 31).toBitVec % 32)).toInt = _
  have h4 : ((Int32.ofInt a).toBitVec >>> ((Int32.ofInt b &&& 31).toBitVec % 32)).toNat = (Int32.ofInt a).toBitVec.toNat / 2 ^ k := by
    rw [BitVec.ushiftRight_eq', BitVec.toNat_ushiftRight, Nat.shiftRight_eq_div_pow, h1, (zi_smod k hk).2]
  have h5 : (Int32.ofInt a).toBitVec.toNat / 2 ^ k ≤ (Int32.ofInt a).toBitVec.toNat / 2 := Nat.div_le_div_left (by have := Nat.pow_le_pow_right (show 0 < 2 by decide) h0; simpa using this) (by decide)
  have h6 : a % 4294967296 = ((Int32.ofInt a).toBitVec.toNat : Int) := by
    have e1 := e0
    rw [BitVec.toInt_eq_toNat_cond] at e1
    split at e1 <;> omega
  rw [BitVec.toInt_eq_toNat_cond, h4, if_pos (by omega), h6]
  exact Int.natCast_ediv _ _
theorem zi_ush_f (a b : Int) : zi_r (zi_ush a b) ∧ (zi_r a ∧ b = 8 → 0 ≤ zi_ush a b ∧ zi_ush a b ≤ 16777215) := by
  refine ⟨zi_r_ush a b, fun h => ?_⟩
  obtain ⟨k, hk, h1, h2⟩ := zi_ush_d a b h.1
  have hk8 : k = 8 := by have := h2 (by omega); omega
  rw [h1 (by omega), hk8]
  have : ((2 ^ 8 : Nat) : Int) = 256 := by decide
  rw [this]
  omega
theorem zi_has {s k : Int} (hs : 0 ≤ s ∧ s ≤ 2147483647) (hk : 0 ≤ k ∧ k ≤ 30) : zi_and (zi_shr s k) 1 = s / ((2 ^ k.toNat : Nat) : Int) % 2 := by
  obtain ⟨j, hj, h1, h2⟩ := zi_shr_d s k ⟨by omega, by omega⟩
  have hjk := h2 (by omega)
  subst hjk
  have h3 := (zi_shr_f s k).2 hs
  rw [← h1]
  generalize zi_shr s k = t at *
  have h4 := zi_and_N t 1
  rw [zi_ofN h3.1 (by omega), show (Int32.ofInt 1).toBitVec.toNat = 2 ^ 1 - 1 from by decide, Nat.and_two_pow_sub_one_eq_mod] at h4
  have h5 := zi_toN (Int32.ofInt t &&& Int32.ofInt 1) (by omega)
  unfold zi_and
  rw [h5, h4]
  omega
theorem zi_tdiv_f (a b : Int) : (0 < b ∧ 0 ≤ a → 0 ≤ Int.tdiv a b ∧ Int.tdiv a b ≤ a) ∧ (0 < b ∧ a ≤ 0 → a ≤ Int.tdiv a b ∧ Int.tdiv a b ≤ 0) := by
  refine ⟨fun h => ?_, fun h => ?_⟩
  · rw [Int.tdiv_eq_ediv_of_nonneg h.2]
    exact ⟨Int.ediv_nonneg h.2 (by omega), Int.ediv_le_self b h.2⟩
  · have e : Int.tdiv a b = -(Int.tdiv (-a) b) := by rw [Int.neg_tdiv]; omega
    rw [e, Int.tdiv_eq_ediv_of_nonneg (by omega)]
    have h1 := Int.ediv_nonneg (a := -a) (b := b) (by omega) (by omega)
    have h2 := Int.ediv_le_self (a := -a) b (by omega)
    omega
theorem zi_tdiv_c (a c : Int) (_ : c ≠ 0) : 0 ≤ a → Int.tdiv a c = a / c := fun h => Int.tdiv_eq_ediv_of_nonneg h
theorem zi_tmod_f (a b : Int) : (0 < b ∧ 0 ≤ a → 0 ≤ Int.tmod a b ∧ Int.tmod a b < b) ∧ (0 < b ∧ a ≤ 0 → -b < Int.tmod a b ∧ Int.tmod a b ≤ 0) := by
  refine ⟨fun h => ?_, fun h => ?_⟩
  · rw [Int.tmod_eq_emod_of_nonneg h.2]
    exact ⟨Int.emod_nonneg a (by omega), Int.emod_lt_of_pos a h.1⟩
  · have e : Int.tmod a b = -(Int.tmod (-a) b) := by rw [Int.neg_tmod]; omega
    rw [e, Int.tmod_eq_emod_of_nonneg (by omega)]
    have h1 := Int.emod_nonneg (-a) (b := b) (by omega)
    have h2 := Int.emod_lt_of_pos (-a) (b := b) h.1
    omega
theorem zi_tmod_c (a c : Int) (_ : c ≠ 0) : 0 ≤ a → Int.tmod a c = a % c := fun h => Int.tmod_eq_emod_of_nonneg h

-- WHAT HOLDS OF THE REFERENCE'S ROWS beyond bounds: its law can be run, its deeds can be done, its masons' rows are rows (the image's too)
noncomputable def zj_dep (op : Int → Int) (s : Int) : Nat → Int
  | 0 => 0
  | n + 1 => zj_dep op s n + (if op (s + n) ≤ 1 then 1 else if op (s + n) = 9 then 0 else -1)
noncomputable def zj_one (op arg : Int → Int) (s : Int) (i : Nat) : Prop :=
  (0 ≤ op (s + i) ∧ op (s + i) ≤ 11) ∧ (op (s + i) = 1 → 0 ≤ arg (s + i) ∧ arg (s + i) ≤ 8) ∧ (op (s + i) = 9 → 1 ≤ zj_dep op s i) ∧
  (2 ≤ op (s + i) → op (s + i) ≠ 9 → 2 ≤ zj_dep op s i) ∧ (op (s + i) = 5 → 1 ≤ i ∧ op (s + i - 1) = 0 ∧ 1 ≤ arg (s + i - 1))
noncomputable def zj_seg (op arg : Int → Int) (s : Int) (n : Nat) : Prop := ∀ i : Nat, i < n → zj_one op arg s i
noncomputable def zj_law (many : Int) (lf lh lt op arg : Int → Int) : Prop := ∀ l : Int, 0 ≤ l → l < many →
  (0 ≤ lf l ∧ lf l < lh l ∧ lh l ≤ lt l ∧ lt l ≤ 400) ∧ zj_seg op arg (lf l) (lh l - lf l).toNat ∧ zj_seg op arg (lh l) (lt l - lh l).toNat
noncomputable def zj_deed (w a b : Int) : Prop := (0 ≤ w ∧ w ≤ 6) ∧ (w = 0 → (0 ≤ a ∧ a ≤ 7) ∧ (0 ≤ b ∧ b ≤ 9)) ∧ (w = 1 → 0 ≤ a ∧ a ≤ 7) ∧ (w = 2 → (0 ≤ a ∧ a ≤ 5) ∧ (0 ≤ b ∧ b ≤ 9)) ∧ (3 ≤ w → w ≤ 5 → 0 ≤ a ∧ a ≤ 9) ∧ (w = 6 → 0 ≤ a ∧ a ≤ 7)
noncomputable def zj_deeds (d : Int → Int) : Prop := ∀ k : Int, 0 ≤ k → k < 16 → zj_deed (d (4 * k + 1)) (d (4 * k + 2)) (d (4 * k + 3))
noncomputable def zj_row (a b c d : Int) : Prop := (0 ≤ a ∧ a ≤ 3) ∧ (0 ≤ b ∧ b ≤ 3) ∧ (0 ≤ c ∧ c ≤ 3) ∧ (0 ≤ d ∧ d ≤ 3) ∧ a ≠ b ∧ a ≠ c ∧ a ≠ d ∧ b ≠ c ∧ b ≠ d ∧ c ≠ d
noncomputable def zj_rows (m : Int → Int) : Prop := ∀ i : Int, 0 ≤ i → i < 8 → zj_row (m (4 * i)) (m (4 * i + 1) + 1) (m (4 * i + 2) + 2) (m (4 * i + 3) + 3)
noncomputable def zj (g : zi_M) : Prop := (zj_law (g 224 0) (g 226) (g 227) (g 228) (g 229) (g 230)) ∧ (zj_deeds (g 234)) ∧ (zj_rows (g 244)) ∧ (zj_law (g 250 1139) (fun l => g 250 (1141 + 4 * l)) (fun l => g 250 (1142 + 4 * l)) (fun l => g 250 (1143 + 4 * l)) (fun i => g 250 (1204 + 2 * i)) (fun i => g 250 (1205 + 2 * i))) ∧ (zj_deeds (fun k => g 250 (475 + k))) ∧ (zj_rows (fun k => g 250 (371 + k)))
theorem zj.law {g : zi_M} (h : zj g) : zj_law (g 224 0) (g 226) (g 227) (g 228) (g 229) (g 230) := h.1
theorem zj.deeds {g : zi_M} (h : zj g) : zj_deeds (g 234) := h.2.1
theorem zj.rows {g : zi_M} (h : zj g) : zj_rows (g 244) := h.2.2.1
theorem zj.ilaw {g : zi_M} (h : zj g) : zj_law (g 250 1139) (fun l => g 250 (1141 + 4 * l)) (fun l => g 250 (1142 + 4 * l)) (fun l => g 250 (1143 + 4 * l)) (fun i => g 250 (1204 + 2 * i)) (fun i => g 250 (1205 + 2 * i)) := h.2.2.2.1
theorem zj.ideeds {g : zi_M} (h : zj g) : zj_deeds (fun k => g 250 (475 + k)) := h.2.2.2.2.1
theorem zj.irows {g : zi_M} (h : zj g) : zj_rows (fun k => g 250 (371 + k)) := h.2.2.2.2.2
noncomputable def zj_no (a : Nat) : Bool := !(Nat.beq a 224 || Nat.beq a 226 || Nat.beq a 227 || Nat.beq a 228 || Nat.beq a 229 || Nat.beq a 230 || Nat.beq a 234 || Nat.beq a 244 || Nat.beq a 250)
theorem zj_of {g h : zi_M} (j : zj g) (e : ∀ a : Nat, zj_no a = false → h a = g a) : zj h := by
  obtain ⟨h1, h2, h3, h4, h5, h6⟩ := j
  have e1 := e 224 rfl; have e2 := e 226 rfl; have e3 := e 227 rfl; have e4 := e 228 rfl; have e5 := e 229 rfl
  have e6 := e 230 rfl; have e7 := e 234 rfl; have e8 := e 244 rfl; have e9 := e 250 rfl
  refine ⟨?_, ?_, ?_, ?_, ?_, ?_⟩
  · rw [e1, e2, e3, e4, e5, e6]; exact h1
  · rw [e7]; exact h2
  · rw [e8]; exact h3
  · rw [e9]; exact h4
  · rw [e9]; exact h5
  · rw [e9]; exact h6
theorem zj_u {g : zi_M} {a : Nat} {i v : Int} (j : zj g) (hz : zj_no a = true) : zj (zi_u g a i v) :=
  zj_of j (fun b hb => by funext k; exact zi_u_ne (fun e => by rw [e, hz] at hb; cases hb))
theorem zj_fl {g : zi_M} {a : Nat} {n v : Int} (j : zj g) (hz : zj_no a = true) : zj (zi_fl g a n v) :=
  zj_of j (fun b hb => by funext k; unfold zi_fl; rw [if_neg (fun e => by rw [e.1, hz] at hb; cases hb)])
theorem zj_cp {g : zi_M} {s t : Nat} {sp dp n : Int} (j : zj g) (hz : zj_no t = true) : zj (zi_cp g s sp t dp n) :=
  zj_of j (fun b hb => by funext k; unfold zi_cp; rw [if_neg (fun e => by rw [e.1, hz] at hb; cases hb)])
