-- BYTES of a tape
theorem zand255 {x : Int} (h : zi_r x) : zi_and x 255 = x % 256 := by
  have hN := zi_and_N x 255
  have e255 : (Int32.ofInt 255).toBitVec.toNat = 2 ^ 8 - 1 := by decide
  rw [e255, Nat.and_two_pow_sub_one_eq_mod] at hN
  have e0 : (Int32.ofInt x).toBitVec.toInt = x := zi_to h
  rw [BitVec.toInt_eq_toNat_cond] at e0
  have h3 := (Int32.ofInt x).toBitVec.isLt
  have h4 := zi_toN (Int32.ofInt x &&& Int32.ofInt 255) (by omega)
  unfold zi_and
  rw [h4, hN]
  split at e0 <;> omega
theorem zush0 {v : Int} (h : zi_r v) : zi_ush v 0 = v := by
  have e0 : (Int32.ofInt v).toBitVec.toInt = v := zi_to h
  show ((Int32.ofInt v).toBitVec >>> ((Int32.ofInt 0 &&& 31).toBitVec % 32)).toInt = _
  rw [show (Int32.ofInt 0 &&& 31).toBitVec % 32 = 0#32 by decide, BitVec.ushiftRight_eq', show (0#32).toNat = 0 from rfl, BitVec.ushiftRight_zero]
  exact e0
noncomputable def zby (v s : Int) : Int := zi_and (zi_shr v s) 255
theorem zby_u {v s : Int} (hv : zi_r v) (hs : s = 0 ∨ s = 8 ∨ s = 16 ∨ s = 24) : zi_and (zi_ush v s) 255 = zby v s := by
  unfold zby
  obtain ⟨k, hk, h1, h2⟩ := zi_ush_d v s hv
  obtain ⟨j, hj, k1, k2⟩ := zi_shr_d v s hv
  have ek := h2 (by omega)
  have ej := k2 (by omega)
  subst ek ej
  rw [zand255 (zi_r_ush _ _), zand255 (zi_r_shr _ _), k1]
  rcases hs with q | q | q | q <;> subst q
  · rw [zush0 hv]
    have : ((2 ^ (0 : Int).toNat : Nat) : Int) = 1 := by decide
    rw [this]
    omega
  · rw [h1 (by decide)]
    have : ((2 ^ (8 : Int).toNat : Nat) : Int) = 256 := by decide
    rw [this]
    omega
  · rw [h1 (by decide)]
    have : ((2 ^ (16 : Int).toNat : Nat) : Int) = 65536 := by decide
    rw [this]
    omega
  · rw [h1 (by decide)]
    have : ((2 ^ (24 : Int).toNat : Nat) : Int) = 16777216 := by decide
    rw [this]
    omega
theorem zby_b (v s : Int) : 0 ≤ zby v s ∧ zby v s ≤ 255 := (zi_and_f _ _).2.2 ⟨by decide, by decide⟩
/-- four bytes more; twenty -/
noncomputable def zty (f : Int → Int) (n v : Int) : Int → Int := zup (zup (zup (zup f n (zby v 24)) (n + 1) (zby v 16)) (n + 1 + 1) (zby v 8)) (n + 1 + 1 + 1) (zby v 0)
noncomputable def zfd (f : Int → Int) (n a b c d e : Int) : Int → Int := zty (zty (zty (zty (zty f n a) (n + 4) b) (n + 8) c) (n + 12) d) (n + 16) e
