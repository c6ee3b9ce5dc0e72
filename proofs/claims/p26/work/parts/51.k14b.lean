-- part
-- SpoutNews$Thought.stepsAgain(LSpoutNews$Told;I)I
set_option maxRecDepth 100000 in
set_option maxHeartbeats 4000000 in
theorem k_Thought_stepsAgain_l10 {l2 : Int} {g : zi_M} (I : zk_I g) {x2 : Int} {K36 : Int → zi_M → Prop} {K52 : zi_M → Prop} {Q : Int → zi_M → Prop} (hK36 : ∀ (k5 : Int), (1 ≤ k5 ∧ k5 ≤ 16) → (k5 = zco (g 41) z16 (zi_shl 1 x2) (g 41 x2) 1) → K36 k5 g) (hK52 : (False) → K52 g) (hQ : ∀ v : Int, ((-1) ≤ v ∧ v ≤ 16) → (v = zco (g 41) z16 (zi_shl 1 l2) (g 41 l2) 1) → (1 ≤ v ∧ v ≤ 16) → Q v g) : ∀ (n : Nat) {l3 : Int} {l4 : Int} {l5 : Int}, (0 ≤ l3 ∧ l3 ≤ 65535) → (0 ≤ l4 ∧ l4 ≤ 15) → (1 ≤ l5 ∧ l5 ≤ 17) → (zpc l3 z16 = l5) → (zco (g 41) (17 - l5).toNat l3 (g 41 l4) l5 = zco (g 41) z16 (zi_shl 1 x2) (g 41 x2) 1) → 17 - l5 < (n : Int) → w_Thought_stepsAgain_l10 K36 K52 Q n l3 l4 l5 g
  | 0, l3, l4, l5, b0, b1, b2, b3, b4, hm => by exfalso; omega
  | n + 1, l3, l4, l5, b0, b1, b2, b3, b4, hm => by
    unfold w_Thought_stepsAgain_l10
    refine ⟨⟨by omega, by omega⟩, ?_⟩
    refine ⟨fun c4 => ?_, fun c4 => ?_⟩
    · exact hK52 (by have hp := zpc_16 b3; omega)
    · refine ⟨⟨by omega, by omega⟩, ?_⟩
      have m_1 : 0 ≤ (g 41 l4) ∧ (g 41 l4) ≤ 15 := I.1 41 l4
      have m_2 := zi_r_shr l3 (g 41 l4)
      try have m_3 := (zi_shr_f l3 (g 41 l4)).2 ⟨by omega, by omega⟩
      have m_4 := zi_r_and (zi_shr l3 (g 41 l4)) 1
      try have m_5 := (zi_and_f (zi_shr l3 (g 41 l4)) 1).2.1 ⟨by omega, by omega⟩
      try have m_6 := (zi_and_f (zi_shr l3 (g 41 l4)) 1).2.2 ⟨by omega, by omega⟩
      refine ⟨fun c3 => ?_, fun c3 => ?_⟩
      · have m_7 := zi_r_shl 1 (g 41 l4)
        try have m_8 := (zi_shl_f (g 41 l4)).2.1 ⟨by omega, by omega⟩
        first | have m_9 := (zi_shl_f (g 41 l4)).2.2.1 ⟨by omega, by omega⟩ | have m_10 := (zi_shl_f (g 41 l4)).2.2.2.1 ⟨by omega, by omega⟩ | have m_11 := (zi_shl_f (g 41 l4)).2.2.2.2.1 ⟨by omega, by omega⟩ | have m_12 := (zi_shl_f (g 41 l4)).2.2.2.2.2.1 ⟨by omega, by omega⟩ | have m_13 := (zi_shl_f (g 41 l4)).2.2.2.2.2.2 ⟨by omega, by omega⟩ | skip
        first | have m_14 := (zi_or_f l3 (zi_shl 1 (g 41 l4))).2.1 ⟨by omega, by omega, by omega, by omega⟩ | have m_14 := (zi_or_f l3 (zi_shl 1 (g 41 l4))).2.2.1 ⟨by omega, by omega, by omega, by omega⟩ | have m_14 := (zi_or_f l3 (zi_shl 1 (g 41 l4))).2.2.2.1 ⟨by omega, by omega, by omega, by omega⟩ | have m_14 := (zi_or_f l3 (zi_shl 1 (g 41 l4))).2.2.2.2.1 ⟨by omega, by omega, by omega, by omega⟩ | have m_14 := (zi_or_f l3 (zi_shl 1 (g 41 l4))).2.2.2.2.2 ⟨by omega, by omega, by omega, by omega⟩ | have m_14 := zi_r_or l3 (zi_shl 1 (g 41 l4))
        have m_15 : 0 ≤ (g 41 (g 41 l4)) ∧ (g 41 (g 41 l4)) ≤ 15 := I.1 41 (g 41 l4)
        have m_16 : 0 ≤ (g 41 x2) ∧ (g 41 x2) ≤ 15 := I.1 41 x2
        exact k_Thought_stepsAgain_l10 I hK36 hK52 hQ n ⟨by omega, by omega⟩ ⟨by omega, by omega⟩ ⟨by omega, by omega⟩ (by first | exact zpc_st b3 (by assumption) ⟨by omega, by omega⟩ ⟨by omega, by omega⟩ | exact zpc_1 ⟨by omega, by omega⟩) (by first | exact zco_st b4 (by assumption) (by omega) | exact zco_i (by rw [z16_e]; omega)) (by omega)
      · have m_17 : 0 ≤ (g 41 x2) ∧ (g 41 x2) ≤ 15 := I.1 41 x2
        exact hK36 _ ⟨by omega, by omega⟩ (by exact zco_x b4 (by assumption) (by omega))
set_option maxRecDepth 100000 in
set_option maxHeartbeats 4000000 in
theorem k_Thought_stepsAgain {l2 : Int} {g : zi_M} {Q : Int → zi_M → Prop} (I : zk_I g) (p2 : 0 ≤ l2 ∧ l2 ≤ 15) (hQ : ∀ v : Int, ((-1) ≤ v ∧ v ≤ 16) → (v = zco (g 41) z16 (zi_shl 1 l2) (g 41 l2) 1) → (1 ≤ v ∧ v ≤ 16) → Q v g) : w_Thought_stepsAgain l2 g Q := by
  unfold w_Thought_stepsAgain
  have m_21 := zi_r_shl 1 l2
  try have m_22 := (zi_shl_f l2).2.1 ⟨by omega, by omega⟩
  first | have m_23 := (zi_shl_f l2).2.2.1 ⟨by omega, by omega⟩ | have m_24 := (zi_shl_f l2).2.2.2.1 ⟨by omega, by omega⟩ | have m_25 := (zi_shl_f l2).2.2.2.2.1 ⟨by omega, by omega⟩ | have m_26 := (zi_shl_f l2).2.2.2.2.2.1 ⟨by omega, by omega⟩ | have m_27 := (zi_shl_f l2).2.2.2.2.2.2 ⟨by omega, by omega⟩ | skip
  have m_28 : 0 ≤ (g 41 l2) ∧ (g 41 l2) ≤ 15 := I.1 41 l2
  refine ⟨((17 - 1 : Int).toNat + 1), k_Thought_stepsAgain_l10 (x2 := l2) I (fun k5 b_18 b_19 => ?_) (fun b_20 => ?_) hQ ((17 - 1 : Int).toNat + 1) ⟨by omega, by omega⟩ ⟨by omega, by omega⟩ ⟨by omega, by omega⟩ (by first | exact zpc_st b3 (by assumption) ⟨by omega, by omega⟩ ⟨by omega, by omega⟩ | exact zpc_1 ⟨by omega, by omega⟩) (by first | exact zco_st b4 (by assumption) (by omega) | exact zco_i (by rw [z16_e]; omega)) (by omega)⟩
  · exact hQ _ ⟨by omega, by omega⟩ (by first | assumption | (exfalso; assumption)) (by first | omega | (exfalso; assumption))
  · exact hQ _ ⟨by omega, by omega⟩ (by first | assumption | (exfalso; assumption)) (by first | omega | (exfalso; assumption))
