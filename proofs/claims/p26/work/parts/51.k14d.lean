-- part
-- SpoutNews$Thought.allAgain(LSpoutNews$Told;)I
set_option maxRecDepth 100000 in
set_option maxHeartbeats 4000000 in
theorem k_Thought_allAgain_l4 {g : zi_M} (I : zk_I g) {K27 : Int → zi_M → Prop} {Q : Int → zi_M → Prop} (hK27 : ∀ (k2 : Int), (0 ≤ k2 ∧ k2 ≤ 65535) → (k2 = zst (g 41) z16) → K27 k2 g) (hQ : ∀ v : Int, ((-2147483648) ≤ v ∧ v ≤ 2147483647) → (zst (g 41) z16 = 65535 → v = zal (fun w => zco (g 41) z16 (zi_shl 1 w) (g 41 w) 1) z16) → (¬ zst (g 41) z16 = 65535 → v = -1) → Q v g) : ∀ (n : Nat) {l2 : Int} {l3 : Int}, (0 ≤ l2 ∧ l2 ≤ 65535) → (0 ≤ l3 ∧ l3 ≤ 16) → (l2 = zst (g 41) l3.toNat) → 16 - l3 < (n : Int) → w_Thought_allAgain_l4 K27 Q n l2 l3 g
  | 0, l2, l3, b0, b1, b2, hm => by exfalso; omega
  | n + 1, l2, l3, b0, b1, b2, hm => by
    unfold w_Thought_allAgain_l4
    refine ⟨⟨by omega, by omega⟩, ?_⟩
    refine ⟨fun c3 => ?_, fun c3 => ?_⟩
    · exact hK27 _ ⟨by omega, by omega⟩ (by exact zst_e b2 (by rw [z16_e]; omega))
    · refine ⟨⟨by omega, by omega⟩, ?_⟩
      have m_1 : 0 ≤ (g 41 l3) ∧ (g 41 l3) ≤ 15 := I.1 41 l3
      have m_2 := zi_r_shl 1 (g 41 l3)
      try have m_3 := (zi_shl_f (g 41 l3)).2.1 ⟨by omega, by omega⟩
      first | have m_4 := (zi_shl_f (g 41 l3)).2.2.1 ⟨by omega, by omega⟩ | have m_5 := (zi_shl_f (g 41 l3)).2.2.2.1 ⟨by omega, by omega⟩ | have m_6 := (zi_shl_f (g 41 l3)).2.2.2.2.1 ⟨by omega, by omega⟩ | have m_7 := (zi_shl_f (g 41 l3)).2.2.2.2.2.1 ⟨by omega, by omega⟩ | have m_8 := (zi_shl_f (g 41 l3)).2.2.2.2.2.2 ⟨by omega, by omega⟩ | skip
      first | have m_9 := (zi_or_f l2 (zi_shl 1 (g 41 l3))).2.1 ⟨by omega, by omega, by omega, by omega⟩ | have m_9 := (zi_or_f l2 (zi_shl 1 (g 41 l3))).2.2.1 ⟨by omega, by omega, by omega, by omega⟩ | have m_9 := (zi_or_f l2 (zi_shl 1 (g 41 l3))).2.2.2.1 ⟨by omega, by omega, by omega, by omega⟩ | have m_9 := (zi_or_f l2 (zi_shl 1 (g 41 l3))).2.2.2.2.1 ⟨by omega, by omega, by omega, by omega⟩ | have m_9 := (zi_or_f l2 (zi_shl 1 (g 41 l3))).2.2.2.2.2 ⟨by omega, by omega, by omega, by omega⟩ | have m_9 := zi_r_or l2 (zi_shl 1 (g 41 l3))
      exact k_Thought_allAgain_l4 I hK27 hQ n ⟨by omega, by omega⟩ ⟨by omega, by omega⟩ (by first | exact zst_s b2 (by omega) | rfl) (by omega)
set_option maxRecDepth 100000 in
set_option maxHeartbeats 4000000 in
theorem k_Thought_allAgain_l43 {g : zi_M} (I : zk_I g) {K68 : Int → zi_M → Prop} {Q : Int → zi_M → Prop} (hK68 : ∀ (k3 : Int), ((-2147483648) ≤ k3 ∧ k3 ≤ 2147483647) → (k3 = zal (fun w => zco (g 41) z16 (zi_shl 1 w) (g 41 w) 1) z16) → K68 k3 g) (hQ : ∀ v : Int, ((-2147483648) ≤ v ∧ v ≤ 2147483647) → (zst (g 41) z16 = 65535 → v = zal (fun w => zco (g 41) z16 (zi_shl 1 w) (g 41 w) 1) z16) → (¬ zst (g 41) z16 = 65535 → v = -1) → Q v g) : ∀ (n : Nat) {l3 : Int} {l4 : Int}, ((-2147483648) ≤ l3 ∧ l3 ≤ 2147483647) → (0 ≤ l4 ∧ l4 ≤ 16) → (l3 = zal (fun w => zco (g 41) z16 (zi_shl 1 w) (g 41 w) 1) l4.toNat) → (1 ≤ l3 ∧ l3.toNat ∣ 720720) → 16 - l4 < (n : Int) → w_Thought_allAgain_l43 K68 Q n l3 l4 g
  | 0, l3, l4, b0, b1, b2, b3, hm => by exfalso; omega
  | n + 1, l3, l4, b0, b1, b2, b3, hm => by
    unfold w_Thought_allAgain_l43
    refine ⟨⟨by omega, by omega⟩, ?_⟩
    refine ⟨fun c17 => ?_, fun c17 => ?_⟩
    · exact hK68 _ ⟨by omega, by omega⟩ (by exact zal_e b2 (by rw [z16_e]; omega))
    · have m_14 : 0 ≤ (g 41 l4) ∧ (g 41 l4) ≤ 15 := I.1 41 l4
      refine k_Thought_stepsAgain I ⟨by omega, by omega⟩ (fun v11 b_15 b_16 b_17 => ?_)
      refine k_Thought_commonMultiple I ⟨by omega, by omega⟩ ⟨by omega, by omega⟩ (fun v14 b_18 b_19 => ?_)
      exact k_Thought_allAgain_l43 I hK68 hQ n ⟨by omega, by omega⟩ ⟨by omega, by omega⟩ (by first | exact zal_st (by assumption) b2 b3 (by assumption) (by assumption) (by omega) | exact zal_1) (by first | exact zal_sd (by assumption) b3 (by assumption) | exact ⟨by decide, by decide⟩) (by omega)
set_option maxRecDepth 100000 in
set_option maxHeartbeats 4000000 in
theorem k_Thought_allAgain {g : zi_M} {Q : Int → zi_M → Prop} (I : zk_I g) (hQ : ∀ v : Int, ((-2147483648) ≤ v ∧ v ≤ 2147483647) → (zst (g 41) z16 = 65535 → v = zal (fun w => zco (g 41) z16 (zi_shl 1 w) (g 41 w) 1) z16) → (¬ zst (g 41) z16 = 65535 → v = -1) → Q v g) : w_Thought_allAgain g Q := by
  unfold w_Thought_allAgain
  refine ⟨((16 - 0 : Int).toNat + 1), k_Thought_allAgain_l4 I (fun k4 b_10 b_11 => ?_) hQ ((16 - 0 : Int).toNat + 1) ⟨by omega, by omega⟩ ⟨by omega, by omega⟩ (by first | exact zst_s b2 (by omega) | rfl) (by omega)⟩
  refine k_Integer_bitCount I ⟨by omega, by omega⟩ (fun v6 b_12 b_13 => ?_)
  refine ⟨⟨by omega, by omega⟩, ?_⟩
  refine ⟨fun c21 => ?_, fun c21 => ?_⟩
  · refine ⟨((16 - 0 : Int).toNat + 1), k_Thought_allAgain_l43 I (fun k18 b_20 b_21 => ?_) hQ ((16 - 0 : Int).toNat + 1) ⟨by omega, by omega⟩ ⟨by omega, by omega⟩ (by first | exact zal_st (by assumption) b2 b3 (by assumption) (by assumption) (by omega) | exact zal_1) (by first | exact zal_sd (by assumption) b3 (by assumption) | exact ⟨by decide, by decide⟩) (by omega)⟩
    exact hQ _ ⟨by omega, by omega⟩ (by intro hv; first | assumption | exact absurd hv (zbc_p (by assumption) ⟨by omega, by omega⟩ (by assumption) (by omega))) (by intro hv; first | rfl | exact absurd (zbc_q (by assumption) ⟨by omega, by omega⟩ (by assumption) (by omega)) hv)
  · exact hQ _ ⟨by omega, by omega⟩ (by intro hv; first | assumption | exact absurd hv (zbc_p (by assumption) ⟨by omega, by omega⟩ (by assumption) (by omega))) (by intro hv; first | rfl | exact absurd (zbc_q (by assumption) ⟨by omega, by omega⟩ (by assumption) (by omega)) hv)
