-- by program (wip/gen/mkz.py)
-- SpoutNewsModel.latin(II)Z
def fr_M_latin (a : Nat) (i : Int) : Prop := a = 243 ∨ (a = 214 ∧ i = 0)
set_option maxRecDepth 100000 in
set_option maxHeartbeats 400000 in
theorem k_M_latin {l1 : Int} {l2 : Int} {g : zi_M} {Q : Int → zi_M → Prop} (I : zk_I g) (p1 : (-2147483648) ≤ l1 ∧ l1 ≤ 2147483647) (p2 : (-2147483648) ≤ l2 ∧ l2 ≤ 2147483647) (hQ : ∀ (v : Int) (g' : zi_M), zk_I g' → zk_fr fr_M_latin g g' → (0 ≤ v ∧ v ≤ 1) → Q v g') : w_M_latin l1 l2 g Q := by
  unfold w_M_latin
  intro g1 e_1
  have I_2 : zk_I g1 := by rw [e_1]; exact zk_upd (L := (-2147483648)) (H := 2147483647) rfl rfl I ⟨by omega, by omega⟩
  have F_3 : zk_fr fr_M_latin g g1 := by rw [e_1]; exact zk_fu (zk_f0 _) (Or.inr ⟨rfl, rfl⟩)
  refine k_M_isIn I_2 ⟨by omega, by omega⟩ ⟨by omega, by omega⟩ ⟨by omega, by omega⟩ (fun v2 b_4 b_5 b_6 => ?_)
  refine ⟨fun c11 => ?_, fun c11 => ?_⟩
  · exact hQ _ _ I_2 F_3 ⟨by omega, by omega⟩
  · refine k_M_isIn I_2 ⟨by omega, by omega⟩ ⟨by omega, by omega⟩ ⟨by omega, by omega⟩ (fun v5 b_7 b_8 b_9 => ?_)
    refine ⟨fun c10 => ?_, fun c10 => ?_⟩
    · refine ⟨⟨by omega, by omega⟩, ?_⟩
      intro g9 e_10
      have I_11 : zk_I g9 := by rw [e_10]; exact zk_upd (zk_ll (i := l1) (by omega)).1 (zk_ll (i := l1) (by omega)).2 I_2 ⟨by omega, by omega⟩
      have F_12 : zk_fr fr_M_latin g g9 := by rw [e_10]; exact zk_fu F_3 (Or.inl rfl)
      exact hQ _ _ I_11 F_12 ⟨by omega, by omega⟩
    · exact hQ _ _ I_2 F_3 ⟨by omega, by omega⟩
-- SpoutNews$Thought.stepsAgain(LSpoutNews$Told;I)I
set_option maxRecDepth 100000 in
set_option maxHeartbeats 400000 in
theorem k_Thought_stepsAgain_l10 {g : zi_M} (I : zk_I g) {K36 : Int → zi_M → Prop} {K52 : zi_M → Prop} {Q : Int → zi_M → Prop} (hK36 : ∀ (k5 : Int), (1 ≤ k5 ∧ k5 ≤ 16) → K36 k5 g) (hK52 : K52 g) (hQ : ∀ v : Int, ((-1) ≤ v ∧ v ≤ 16) → Q v g) : ∀ (n : Nat) {l3 : Int} {l4 : Int} {l5 : Int}, (0 ≤ l3 ∧ l3 ≤ 65535) → (0 ≤ l4 ∧ l4 ≤ 15) → (1 ≤ l5 ∧ l5 ≤ 17) → 17 - l5 < (n : Int) → w_Thought_stepsAgain_l10 K36 K52 Q n l3 l4 l5 g
  | 0, l3, l4, l5, b0, b1, b2, hm => by exfalso; omega
  | n + 1, l3, l4, l5, b0, b1, b2, hm => by
    unfold w_Thought_stepsAgain_l10
    refine ⟨⟨by omega, by omega⟩, ?_⟩
    refine ⟨fun c4 => ?_, fun c4 => ?_⟩
    · exact hK52
    · refine ⟨⟨by omega, by omega⟩, ?_⟩
      have m_1 : 0 ≤ (g 41 l4) ∧ (g 41 l4) ≤ 15 := I 41 l4
      have m_2 := zi_shr_f l3 (g 41 l4)
      have m_3 := zi_and_f (zi_shr l3 (g 41 l4)) 1
      refine ⟨fun c3 => ?_, fun c3 => ?_⟩
      · have m_4 := zi_shl_f (g 41 l4)
        have m_5 := zi_or_f l3 (zi_shl 1 (g 41 l4))
        exact k_Thought_stepsAgain_l10 I hK36 hK52 hQ n ⟨by omega, by omega⟩ ⟨by omega, by omega⟩ ⟨by omega, by omega⟩ (by omega)
      · exact hK36 _ ⟨by omega, by omega⟩
set_option maxRecDepth 100000 in
set_option maxHeartbeats 400000 in
theorem k_Thought_stepsAgain {l2 : Int} {g : zi_M} {Q : Int → zi_M → Prop} (I : zk_I g) (p2 : 0 ≤ l2 ∧ l2 ≤ 15) (hQ : ∀ v : Int, ((-1) ≤ v ∧ v ≤ 16) → Q v g) : w_Thought_stepsAgain l2 g Q := by
  unfold w_Thought_stepsAgain
  have m_7 := zi_shl_f l2
  refine ⟨((17 - 1 : Int).toNat + 1), k_Thought_stepsAgain_l10 I (fun k5 b_6 => ?_) (?_) hQ ((17 - 1 : Int).toNat + 1) ⟨by omega, by omega⟩ ⟨by omega, by omega⟩ ⟨by omega, by omega⟩ (by omega)⟩
  · exact hQ _ ⟨by omega, by omega⟩
  · exact hQ _ ⟨by omega, by omega⟩
-- SpoutNews$Thought.commonMultiple(II)I
set_option maxRecDepth 100000 in
set_option maxHeartbeats 400000 in
theorem k_Thought_commonMultiple_l2 {g : zi_M} (I : zk_I g) {l0 : Int} {l1 : Int} {K15 : Int → zi_M → Prop} {K25 : zi_M → Prop} {Q : Int → zi_M → Prop} (q0 : (-2147483648) ≤ l0 ∧ l0 ≤ 2147483647) (q1 : (-1) ≤ l1 ∧ l1 ≤ 16) (hK15 : ∀ (k2 : Int), (1 ≤ k2 ∧ k2 ≤ 16) → K15 k2 g) (hK25 : K25 g) (hQ : ∀ v : Int, ((-2147483648) ≤ v ∧ v ≤ 2147483647) → Q v g) : ∀ (n : Nat) {l2 : Int}, (1 ≤ l2 ∧ l2 ≤ 17) → 17 - l2 < (n : Int) → w_Thought_commonMultiple_l2 l0 l1 K15 K25 Q n l2 g
  | 0, l2, b0, hm => by exfalso; omega
  | n + 1, l2, b0, hm => by
    unfold w_Thought_commonMultiple_l2
    refine ⟨⟨by omega, by omega⟩, ⟨by omega, by omega⟩, ?_⟩
    refine ⟨fun c6 => ?_, fun c6 => ?_⟩
    · exact hK25
    · refine ⟨(by omega), ?_⟩
      have m_1 := zi_r_w (l0 * l2)
      have m_2 := zi_tmod_f (zi_w (l0 * l2)) l1
      refine ⟨⟨by omega, by omega⟩, ?_⟩
      refine ⟨fun c5 => ?_, fun c5 => ?_⟩
      · exact k_Thought_commonMultiple_l2 I q0 q1 hK15 hK25 hQ n ⟨by omega, by omega⟩ (by omega)
      · exact hK15 _ ⟨by omega, by omega⟩
set_option maxRecDepth 100000 in
set_option maxHeartbeats 400000 in
theorem k_Thought_commonMultiple {l0 : Int} {l1 : Int} {g : zi_M} {Q : Int → zi_M → Prop} (I : zk_I g) (p0 : (-2147483648) ≤ l0 ∧ l0 ≤ 2147483647) (p1 : (-1) ≤ l1 ∧ l1 ≤ 16) (hQ : ∀ v : Int, ((-2147483648) ≤ v ∧ v ≤ 2147483647) → Q v g) : w_Thought_commonMultiple l0 l1 g Q := by
  unfold w_Thought_commonMultiple
  refine ⟨((17 - 1 : Int).toNat + 1), k_Thought_commonMultiple_l2 (l0 := l0) (l1 := l1) I ⟨by omega, by omega⟩ ⟨by omega, by omega⟩ (fun k7 b_3 => ?_) (?_) hQ ((17 - 1 : Int).toNat + 1) ⟨by omega, by omega⟩ (by omega)⟩
  · have m_4 := zi_r_w (l0 * k7)
    exact hQ _ ⟨by omega, by omega⟩
  · exact hQ _ ⟨by omega, by omega⟩
-- SpoutNews$Thought.allAgain(LSpoutNews$Told;)I
set_option maxRecDepth 100000 in
set_option maxHeartbeats 400000 in
theorem k_Thought_allAgain_l4 {g : zi_M} (I : zk_I g) {K27 : Int → zi_M → Prop} {Q : Int → zi_M → Prop} (hK27 : ∀ (k2 : Int), (0 ≤ k2 ∧ k2 ≤ 65535) → K27 k2 g) (hQ : ∀ v : Int, ((-2147483648) ≤ v ∧ v ≤ 2147483647) → Q v g) : ∀ (n : Nat) {l2 : Int} {l3 : Int}, (0 ≤ l2 ∧ l2 ≤ 65535) → (0 ≤ l3 ∧ l3 ≤ 16) → 16 - l3 < (n : Int) → w_Thought_allAgain_l4 K27 Q n l2 l3 g
  | 0, l2, l3, b0, b1, hm => by exfalso; omega
  | n + 1, l2, l3, b0, b1, hm => by
    unfold w_Thought_allAgain_l4
    refine ⟨⟨by omega, by omega⟩, ?_⟩
    refine ⟨fun c3 => ?_, fun c3 => ?_⟩
    · exact hK27 _ ⟨by omega, by omega⟩
    · refine ⟨⟨by omega, by omega⟩, ?_⟩
      have m_1 : 0 ≤ (g 41 l3) ∧ (g 41 l3) ≤ 15 := I 41 l3
      have m_2 := zi_shl_f (g 41 l3)
      have m_3 := zi_or_f l2 (zi_shl 1 (g 41 l3))
      exact k_Thought_allAgain_l4 I hK27 hQ n ⟨by omega, by omega⟩ ⟨by omega, by omega⟩ (by omega)
set_option maxRecDepth 100000 in
set_option maxHeartbeats 400000 in
theorem k_Thought_allAgain_l43 {g : zi_M} (I : zk_I g) {K68 : Int → zi_M → Prop} {Q : Int → zi_M → Prop} (hK68 : ∀ (k3 : Int), ((-2147483648) ≤ k3 ∧ k3 ≤ 2147483647) → K68 k3 g) (hQ : ∀ v : Int, ((-2147483648) ≤ v ∧ v ≤ 2147483647) → Q v g) : ∀ (n : Nat) {l3 : Int} {l4 : Int}, ((-2147483648) ≤ l3 ∧ l3 ≤ 2147483647) → (0 ≤ l4 ∧ l4 ≤ 16) → 16 - l4 < (n : Int) → w_Thought_allAgain_l43 K68 Q n l3 l4 g
  | 0, l3, l4, b0, b1, hm => by exfalso; omega
  | n + 1, l3, l4, b0, b1, hm => by
    unfold w_Thought_allAgain_l43
    refine ⟨⟨by omega, by omega⟩, ?_⟩
    refine ⟨fun c17 => ?_, fun c17 => ?_⟩
    · exact hK68 _ ⟨by omega, by omega⟩
    · refine k_Thought_stepsAgain I ⟨by omega, by omega⟩ (fun v11 b_16 => ?_)
      refine k_Thought_commonMultiple I ⟨by omega, by omega⟩ ⟨by omega, by omega⟩ (fun v14 b_17 => ?_)
      exact k_Thought_allAgain_l43 I hK68 hQ n ⟨by omega, by omega⟩ ⟨by omega, by omega⟩ (by omega)
set_option maxRecDepth 100000 in
set_option maxHeartbeats 400000 in
theorem k_Thought_allAgain {g : zi_M} {Q : Int → zi_M → Prop} (I : zk_I g) (hQ : ∀ v : Int, ((-2147483648) ≤ v ∧ v ≤ 2147483647) → Q v g) : w_Thought_allAgain g Q := by
  unfold w_Thought_allAgain
  refine ⟨((16 - 0 : Int).toNat + 1), k_Thought_allAgain_l4 I (fun k4 b_4 => ?_) hQ ((16 - 0 : Int).toNat + 1) ⟨by omega, by omega⟩ ⟨by omega, by omega⟩ (by omega)⟩
  have m_6 := zi_ush_f (k4) 1
  have m_7 := zi_and_f (zi_ush k4 1) 1431655765
  have m_8 := zi_and_f (k4 - (zi_and (zi_ush k4 1) 1431655765)) 858993459
  have m_9 := zi_ush_f (k4 - (zi_and (zi_ush k4 1) 1431655765)) 2
  have m_10 := zi_and_f (zi_ush (k4 - (zi_and (zi_ush k4 1) 1431655765)) 2) 858993459
  have m_11 := zi_ush_f ((zi_and (k4 - (zi_and (zi_ush k4 1) 1431655765)) 858993459) + (zi_and (zi_ush (k4 - (zi_and (zi_ush k4 1) 1431655765)) 2) 858993459)) 4
  have m_12 := zi_and_f (((zi_and (k4 - (zi_and (zi_ush k4 1) 1431655765)) 858993459) + (zi_and (zi_ush (k4 - (zi_and (zi_ush k4 1) 1431655765)) 2) 858993459)) + (zi_ush ((zi_and (k4 - (zi_and (zi_ush k4 1) 1431655765)) 858993459) + (zi_and (zi_ush (k4 - (zi_and (zi_ush k4 1) 1431655765)) 2) 858993459)) 4)) 252645135
  have m_13 := zi_ush_f (zi_and (((zi_and (k4 - (zi_and (zi_ush k4 1) 1431655765)) 858993459) + (zi_and (zi_ush (k4 - (zi_and (zi_ush k4 1) 1431655765)) 2) 858993459)) + (zi_ush ((zi_and (k4 - (zi_and (zi_ush k4 1) 1431655765)) 858993459) + (zi_and (zi_ush (k4 - (zi_and (zi_ush k4 1) 1431655765)) 2) 858993459)) 4)) 252645135) 8
  have m_14 := zi_ush_f ((zi_and (((zi_and (k4 - (zi_and (zi_ush k4 1) 1431655765)) 858993459) + (zi_and (zi_ush (k4 - (zi_and (zi_ush k4 1) 1431655765)) 2) 858993459)) + (zi_ush ((zi_and (k4 - (zi_and (zi_ush k4 1) 1431655765)) 858993459) + (zi_and (zi_ush (k4 - (zi_and (zi_ush k4 1) 1431655765)) 2) 858993459)) 4)) 252645135) + (zi_ush (zi_and (((zi_and (k4 - (zi_and (zi_ush k4 1) 1431655765)) 858993459) + (zi_and (zi_ush (k4 - (zi_and (zi_ush k4 1) 1431655765)) 2) 858993459)) + (zi_ush ((zi_and (k4 - (zi_and (zi_ush k4 1) 1431655765)) 858993459) + (zi_and (zi_ush (k4 - (zi_and (zi_ush k4 1) 1431655765)) 2) 858993459)) 4)) 252645135) 8)) 16
  have m_15 := zi_and_f (((zi_and (((zi_and (k4 - (zi_and (zi_ush k4 1) 1431655765)) 858993459) + (zi_and (zi_ush (k4 - (zi_and (zi_ush k4 1) 1431655765)) 2) 858993459)) + (zi_ush ((zi_and (k4 - (zi_and (zi_ush k4 1) 1431655765)) 858993459) + (zi_and (zi_ush (k4 - (zi_and (zi_ush k4 1) 1431655765)) 2) 858993459)) 4)) 252645135) + (zi_ush (zi_and (((zi_and (k4 - (zi_and (zi_ush k4 1) 1431655765)) 858993459) + (zi_and (zi_ush (k4 - (zi_and (zi_ush k4 1) 1431655765)) 2) 858993459)) + (zi_ush ((zi_and (k4 - (zi_and (zi_ush k4 1) 1431655765)) 858993459) + (zi_and (zi_ush (k4 - (zi_and (zi_ush k4 1) 1431655765)) 2) 858993459)) 4)) 252645135) 8)) + (zi_ush ((zi_and (((zi_and (k4 - (zi_and (zi_ush k4 1) 1431655765)) 858993459) + (zi_and (zi_ush (k4 - (zi_and (zi_ush k4 1) 1431655765)) 2) 858993459)) + (zi_ush ((zi_and (k4 - (zi_and (zi_ush k4 1) 1431655765)) 858993459) + (zi_and (zi_ush (k4 - (zi_and (zi_ush k4 1) 1431655765)) 2) 858993459)) 4)) 252645135) + (zi_ush (zi_and (((zi_and (k4 - (zi_and (zi_ush k4 1) 1431655765)) 858993459) + (zi_and (zi_ush (k4 - (zi_and (zi_ush k4 1) 1431655765)) 2) 858993459)) + (zi_ush ((zi_and (k4 - (zi_and (zi_ush k4 1) 1431655765)) 858993459) + (zi_and (zi_ush (k4 - (zi_and (zi_ush k4 1) 1431655765)) 2) 858993459)) 4)) 252645135) 8)) 16)) 63
  refine k_Integer_bitCount I ⟨by omega, by omega⟩ (fun v6 b_5 => ?_)
  refine ⟨⟨by omega, by omega⟩, ?_⟩
  refine ⟨fun c21 => ?_, fun c21 => ?_⟩
  · refine ⟨((16 - 0 : Int).toNat + 1), k_Thought_allAgain_l43 I (fun k18 b_18 => ?_) hQ ((16 - 0 : Int).toNat + 1) ⟨by omega, by omega⟩ ⟨by omega, by omega⟩ (by omega)⟩
    exact hQ _ ⟨by omega, by omega⟩
  · exact hQ _ ⟨by omega, by omega⟩
-- SpoutNews.again(I)I
set_option maxRecDepth 100000 in
set_option maxHeartbeats 400000 in
theorem k_S_again {l1 : Int} {g : zi_M} {Q : Int → zi_M → Prop} (I : zk_I g) (p1 : (-2147483648) ≤ l1 ∧ l1 ≤ 2147483647) (hQ : ∀ v : Int, ((-2147483648) ≤ v ∧ v ≤ 2147483647) → Q v g) : w_S_again l1 g Q := by
  unfold w_S_again
  refine ⟨⟨by omega, by omega⟩, ?_⟩
  refine ⟨fun c12 => ?_, fun c12 => ?_⟩
  · refine k_S_isWord I ⟨by omega, by omega⟩ (fun v2 b_1 b_2 b_3 => ?_)
    refine ⟨fun c8 => ?_, fun c8 => ?_⟩
    · exact hQ _ ⟨by omega, by omega⟩
    · refine k_Thought_stepsAgain I ⟨by omega, by omega⟩ (fun v5 b_4 => ?_)
      exact hQ _ ⟨by omega, by omega⟩
  · refine k_Thought_allAgain I (fun v9 b_5 => ?_)
    exact hQ _ ⟨by omega, by omega⟩
-- SpoutNewsModel.isOneToOne()Z
set_option maxRecDepth 100000 in
set_option maxHeartbeats 400000 in
theorem k_M_isOneToOne_l4 {g : zi_M} (I : zk_I g) {K29 : Int → zi_M → Prop} {Q : Int → zi_M → Prop} (hK29 : ∀ (k1 : Int), ((-2147483648) ≤ k1 ∧ k1 ≤ 2147483647) → K29 k1 g) (hQ : ∀ v : Int, (0 ≤ v ∧ v ≤ 1) → Q v g) : ∀ (n : Nat) {l1 : Int} {l2 : Int}, ((-2147483648) ≤ l1 ∧ l1 ≤ 2147483647) → (0 ≤ l2 ∧ l2 ≤ 16) → 16 - l2 < (n : Int) → w_M_isOneToOne_l4 K29 Q n l1 l2 g
  | 0, l1, l2, b0, b1, hm => by exfalso; omega
  | n + 1, l1, l2, b0, b1, hm => by
    unfold w_M_isOneToOne_l4
    refine ⟨⟨by omega, by omega⟩, ?_⟩
    refine ⟨fun c3 => ?_, fun c3 => ?_⟩
    · exact hK29 _ ⟨by omega, by omega⟩
    · refine ⟨⟨by omega, by omega⟩, ?_⟩
      have m_1 := zk_latin I (i := l2)
      have m_2 := zi_shl_f (l2 + (g 243 l2))
      have m_3 := zi_or_f l1 (zi_shl 1 (l2 + (g 243 l2)))
      exact k_M_isOneToOne_l4 I hK29 hQ n ⟨by omega, by omega⟩ ⟨by omega, by omega⟩ (by omega)
set_option maxRecDepth 100000 in
set_option maxHeartbeats 400000 in
theorem k_M_isOneToOne {g : zi_M} {Q : Int → zi_M → Prop} (I : zk_I g) (hQ : ∀ v : Int, (0 ≤ v ∧ v ≤ 1) → Q v g) : w_M_isOneToOne g Q := by
  unfold w_M_isOneToOne
  refine ⟨((16 - 0 : Int).toNat + 1), k_M_isOneToOne_l4 I (fun k4 b_4 => ?_) hQ ((16 - 0 : Int).toNat + 1) ⟨by omega, by omega⟩ ⟨by omega, by omega⟩ (by omega)⟩
  refine ⟨⟨by omega, by omega⟩, ?_⟩
  refine ⟨fun c7 => ?_, fun c7 => ?_⟩
  · exact hQ _ ⟨by omega, by omega⟩
  · exact hQ _ ⟨by omega, by omega⟩
-- SpoutNewsModel.comingFrom(I)I
set_option maxRecDepth 100000 in
set_option maxHeartbeats 400000 in
theorem k_M_comingFrom {l1 : Int} {g : zi_M} {Q : Int → zi_M → Prop} (I : zk_I g) (p1 : 0 ≤ l1 ∧ l1 ≤ 15) (hQ : ∀ v : Int, (0 ≤ v) → Q v g) : w_M_comingFrom l1 g Q := by
  sorry
-- SpoutNewsModel.rest(II)I
set_option maxRecDepth 100000 in
set_option maxHeartbeats 400000 in
theorem k_M_rest {l1 : Int} {l2 : Int} {g : zi_M} {Q : Int → zi_M → Prop} (I : zk_I g) (hQ : ∀ v : Int, (¬ l2 = 0 → v = Int.tmod l1 l2) → (l2 = 0 → v = l1) → Q v g) : w_M_rest l1 l2 g Q := by
  sorry
-- SpoutNewsModel.common(II)I
set_option maxRecDepth 100000 in
set_option maxHeartbeats 400000 in
theorem k_M_common {l1 : Int} {l2 : Int} {g : zi_M} {Q : Int → zi_M → Prop} (I : zk_I g) (p1 : (-2147483648) ≤ l1 ∧ l1 ≤ 2147483647) (p2 : 0 ≤ l2) (hQ : ∀ v : Int, Q v g) : w_M_common l1 l2 g Q := by
  sorry
-- SpoutNewsModel.again(I)I
def fr_M_again (a : Nat) (i : Int) : Prop := (a = 214 ∧ i = 0)
set_option maxRecDepth 100000 in
set_option maxHeartbeats 400000 in
theorem k_M_again {l1 : Int} {g : zi_M} {Q : Int → zi_M → Prop} (I : zk_I g) (p1 : (-2147483648) ≤ l1 ∧ l1 ≤ 2147483647) (hQ : ∀ (v : Int) (g' : zi_M), zk_I g' → zk_fr fr_M_again g g' → ((-2147483648) ≤ v) → Q v g') : w_M_again l1 g Q := by
  sorry
-- SpoutNews.isRow(I)Z
set_option maxRecDepth 100000 in
set_option maxHeartbeats 400000 in
theorem k_S_isRow_l6 {g : zi_M} (I : zk_I g) {K28 : zi_M → Prop} {K48 : Int → Int → zi_M → Prop} {Q : Int → zi_M → Prop} (hK28 : K28 g) (hK48 : ∀ (k1 : Int) (k2 : Int), (0 ≤ k1 ∧ k1 ≤ 15) → ((-2147483648) ≤ k2 ∧ k2 ≤ 2147483647) → K48 k1 k2 g) (hQ : ∀ v : Int, (0 ≤ v ∧ v ≤ 1) → Q v g) : ∀ (n : Nat) {l1 : Int} {l2 : Int} {l3 : Int}, (0 ≤ l1 ∧ l1 ≤ 15) → ((-2147483648) ≤ l2 ∧ l2 ≤ 2147483647) → (0 ≤ l3 ∧ l3 ≤ 4) → 4 - l3 < (n : Int) → w_S_isRow_l6 K28 K48 Q n l1 l2 l3 g
  | 0, l1, l2, l3, b0, b1, b2, hm => by exfalso; omega
  | n + 1, l1, l2, l3, b0, b1, b2, hm => by
    unfold w_S_isRow_l6
    refine ⟨⟨by omega, by omega⟩, ?_⟩
    refine ⟨fun c6 => ?_, fun c6 => ?_⟩
    · exact hK48 _ _ ⟨by omega, by omega⟩ ⟨by omega, by omega⟩
    · refine ⟨⟨by omega, by omega⟩, ?_⟩
      have m_1 := zi_tmod_f l2 10
      have m_2 := zi_tmod_c l2 10 (by decide)
      refine ⟨⟨by omega, by omega⟩, ?_⟩
      refine ⟨fun c5 => ?_, fun c5 => ?_⟩
      · exact hK28
      · refine ⟨fun c4 => ?_, fun c4 => ?_⟩
        · have m_3 := zi_shl_f (Int.tmod l2 10)
          have m_4 := zi_or_f l1 (zi_shl 1 (Int.tmod l2 10))
          have m_5 := zi_tdiv_f l2 10
          have m_6 := zi_tdiv_c l2 10 (by decide)
          exact k_S_isRow_l6 I hK28 hK48 hQ n ⟨by omega, by omega⟩ ⟨by omega, by omega⟩ ⟨by omega, by omega⟩ (by omega)
        · exact hK28
set_option maxRecDepth 100000 in
set_option maxHeartbeats 400000 in
theorem k_S_isRow {l0 : Int} {g : zi_M} {Q : Int → zi_M → Prop} (I : zk_I g) (p0 : (-2147483648) ≤ l0 ∧ l0 ≤ 2147483647) (hQ : ∀ v : Int, (0 ≤ v ∧ v ≤ 1) → Q v g) : w_S_isRow l0 g Q := by
  unfold w_S_isRow
  refine ⟨((4 - 0 : Int).toNat + 1), k_S_isRow_l6 I (?_) (fun k8 k9 b_7 b_8 => ?_) hQ ((4 - 0 : Int).toNat + 1) ⟨by omega, by omega⟩ ⟨by omega, by omega⟩ ⟨by omega, by omega⟩ (by omega)⟩
  · exact hQ _ ⟨by omega, by omega⟩
  · refine ⟨⟨by omega, by omega⟩, ?_⟩
    refine ⟨fun c14 => ?_, fun c14 => ?_⟩
    · exact hQ _ ⟨by omega, by omega⟩
    · refine ⟨⟨by omega, by omega⟩, ?_⟩
      refine ⟨fun c13 => ?_, fun c13 => ?_⟩
      · exact hQ _ ⟨by omega, by omega⟩
      · exact hQ _ ⟨by omega, by omega⟩
-- SpoutNews.mason(IZI)Z
def fr_S_mason (a : Nat) (i : Int) : Prop := a = 42 ∨ a = 43
set_option maxRecDepth 100000 in
set_option maxHeartbeats 400000 in
theorem k_S_mason {l1 : Int} {l2 : Int} {l3 : Int} {g : zi_M} {Q : Int → zi_M → Prop} (I : zk_I g) (p1 : (-2147483648) ≤ l1 ∧ l1 ≤ 2147483647) (p2 : 0 ≤ l2 ∧ l2 ≤ 1) (p3 : (-2147483648) ≤ l3 ∧ l3 ≤ 2147483647) (hQ : ∀ (v : Int) (g' : zi_M), zk_I g' → zk_fr fr_S_mason g g' → (0 ≤ v ∧ v ≤ 1) → Q v g') : w_S_mason l1 l2 l3 g Q := by
  sorry
-- SpoutNewsModel.digitOf(II)I
set_option maxRecDepth 100000 in
set_option maxHeartbeats 400000 in
theorem k_M_digitOf_l5 {g : zi_M} (I : zk_I g) {l2 : Int} {K22 : Int → zi_M → Prop} {Q : Int → zi_M → Prop} (q2 : 0 ≤ l2 ∧ l2 ≤ 3) (hK22 : ∀ (k3 : Int), ((-2147483648) ≤ k3 ∧ k3 ≤ 2147483647) → K22 k3 g) (hQ : ∀ v : Int, ((-9) ≤ v ∧ v ≤ 9) → Q v g) : ∀ (n : Nat) {l3 : Int} {l4 : Int}, ((-2147483648) ≤ l3 ∧ l3 ≤ 2147483647) → (0 ≤ l4 ∧ l4 ≤ 3) → l4 - 0 < (n : Int) → w_M_digitOf_l5 l2 K22 Q n l3 l4 g
  | 0, l3, l4, b0, b1, hm => by exfalso; omega
  | n + 1, l3, l4, b0, b1, hm => by
    unfold w_M_digitOf_l5
    refine ⟨⟨by omega, by omega⟩, ⟨by omega, by omega⟩, ?_⟩
    refine ⟨fun c4 => ?_, fun c4 => ?_⟩
    · exact hK22 _ ⟨by omega, by omega⟩
    · refine ⟨⟨by omega, by omega⟩, ?_⟩
      have m_1 := zi_tdiv_f l3 10
      have m_2 := zi_tdiv_c l3 10 (by decide)
      exact k_M_digitOf_l5 I q2 hK22 hQ n ⟨by omega, by omega⟩ ⟨by omega, by omega⟩ (by omega)
set_option maxRecDepth 100000 in
set_option maxHeartbeats 400000 in
theorem k_M_digitOf {l1 : Int} {l2 : Int} {g : zi_M} {Q : Int → zi_M → Prop} (I : zk_I g) (p1 : (-2147483648) ≤ l1 ∧ l1 ≤ 2147483647) (p2 : 0 ≤ l2 ∧ l2 ≤ 3) (hQ : ∀ v : Int, ((-9) ≤ v ∧ v ≤ 9) → Q v g) : w_M_digitOf l1 l2 g Q := by
  unfold w_M_digitOf
  refine ⟨((3 - 0 : Int).toNat + 1), k_M_digitOf_l5 (l2 := l2) I ⟨by omega, by omega⟩ (fun k5 b_3 => ?_) hQ ((3 - 0 : Int).toNat + 1) ⟨by omega, by omega⟩ ⟨by omega, by omega⟩ (by omega)⟩
  refine ⟨⟨by omega, by omega⟩, ?_⟩
  have m_4 := zi_tmod_f k5 10
  have m_5 := zi_tmod_c k5 10 (by decide)
  exact hQ _ ⟨by omega, by omega⟩
-- SpoutNewsModel.isRow(I)Z
set_option maxRecDepth 100000 in
set_option maxHeartbeats 400000 in
theorem k_M_isRow_l4 {g : zi_M} (I : zk_I g) {l1 : Int} {K26 : Int → zi_M → Prop} {Q : Int → zi_M → Prop} (q1 : (-2147483648) ≤ l1 ∧ l1 ≤ 2147483647) (hK26 : ∀ (k2 : Int), ((-2147483648) ≤ k2 ∧ k2 ≤ 2147483647) → K26 k2 g) (hQ : ∀ v : Int, (0 ≤ v ∧ v ≤ 1) → Q v g) : ∀ (n : Nat) {l2 : Int} {l3 : Int}, ((-2147483648) ≤ l2 ∧ l2 ≤ 2147483647) → (0 ≤ l3 ∧ l3 ≤ 4) → 4 - l3 < (n : Int) → w_M_isRow_l4 l1 K26 Q n l2 l3 g
  | 0, l2, l3, b0, b1, hm => by exfalso; omega
  | n + 1, l2, l3, b0, b1, hm => by
    unfold w_M_isRow_l4
    refine ⟨⟨by omega, by omega⟩, ?_⟩
    refine ⟨fun c5 => ?_, fun c5 => ?_⟩
    · exact hK26 _ ⟨by omega, by omega⟩
    · refine k_M_digitOf I ⟨by omega, by omega⟩ ⟨by omega, by omega⟩ (fun v2 b_1 => ?_)
      have m_2 := zi_shl_f v2
      have m_3 := zi_or_f l2 (zi_shl 1 v2)
      exact k_M_isRow_l4 I q1 hK26 hQ n ⟨by omega, by omega⟩ ⟨by omega, by omega⟩ (by omega)
set_option maxRecDepth 100000 in
set_option maxHeartbeats 400000 in
theorem k_M_isRow {l1 : Int} {g : zi_M} {Q : Int → zi_M → Prop} (I : zk_I g) (p1 : (-2147483648) ≤ l1 ∧ l1 ≤ 2147483647) (hQ : ∀ v : Int, (0 ≤ v ∧ v ≤ 1) → Q v g) : w_M_isRow l1 g Q := by
  unfold w_M_isRow
  refine ⟨((4 - 0 : Int).toNat + 1), k_M_isRow_l4 (l1 := l1) I ⟨by omega, by omega⟩ (fun k6 b_4 => ?_) hQ ((4 - 0 : Int).toNat + 1) ⟨by omega, by omega⟩ ⟨by omega, by omega⟩ (by omega)⟩
  refine k_M_isIn I ⟨by omega, by omega⟩ ⟨by omega, by omega⟩ ⟨by omega, by omega⟩ (fun v8 b_5 b_6 b_7 => ?_)
  refine ⟨fun c13 => ?_, fun c13 => ?_⟩
  · exact hQ _ ⟨by omega, by omega⟩
  · refine ⟨⟨by omega, by omega⟩, ?_⟩
    refine ⟨fun c12 => ?_, fun c12 => ?_⟩
    · exact hQ _ ⟨by omega, by omega⟩
    · exact hQ _ ⟨by omega, by omega⟩
-- SpoutNewsModel.mason(IZI)Z
def fr_M_mason (a : Nat) (i : Int) : Prop := a = 244 ∨ (a = 214 ∧ i = 0)
set_option maxRecDepth 100000 in
set_option maxHeartbeats 400000 in
theorem k_M_mason {l1 : Int} {l2 : Int} {l3 : Int} {g : zi_M} {Q : Int → zi_M → Prop} (I : zk_I g) (p1 : (-2147483648) ≤ l1 ∧ l1 ≤ 2147483647) (p2 : 0 ≤ l2 ∧ l2 ≤ 1) (p3 : (-2147483648) ≤ l3 ∧ l3 ≤ 2147483647) (hQ : ∀ (v : Int) (g' : zi_M), zk_I g' → zk_fr fr_M_mason g g' → (0 ≤ v ∧ v ≤ 1) → Q v g') : w_M_mason l1 l2 l3 g Q := by
  sorry
-- SpoutNews$Thought.firstWithout()I
set_option maxRecDepth 100000 in
set_option maxHeartbeats 400000 in
theorem k_Thought_firstWithout_l2 {g : zi_M} (I : zk_I g) {K17 : Int → zi_M → Prop} {K25 : zi_M → Prop} {Q : Int → zi_M → Prop} (hK17 : ∀ (k1 : Int), (0 ≤ k1 ∧ k1 ≤ 3) → K17 k1 g) (hK25 : K25 g) (hQ : ∀ v : Int, ((-1) ≤ v ∧ v ≤ 3) → Q v g) : ∀ (n : Nat) {l1 : Int}, (0 ≤ l1 ∧ l1 ≤ 4) → 4 - l1 < (n : Int) → w_Thought_firstWithout_l2 K17 K25 Q n l1 g
  | 0, l1, b0, hm => by exfalso; omega
  | n + 1, l1, b0, hm => by
    unfold w_Thought_firstWithout_l2
    refine ⟨⟨by omega, by omega⟩, ?_⟩
    refine ⟨fun c5 => ?_, fun c5 => ?_⟩
    · exact hK25
    · refine ⟨⟨by omega, by omega⟩, ?_⟩
      have m_1 : (-1) ≤ (g 186 l1) ∧ (g 186 l1) ≤ 3 := I 186 l1
      refine ⟨⟨by omega, by omega⟩, ?_⟩
      refine ⟨fun c4 => ?_, fun c4 => ?_⟩
      · exact k_Thought_firstWithout_l2 I hK17 hK25 hQ n ⟨by omega, by omega⟩ (by omega)
      · exact hK17 _ ⟨by omega, by omega⟩
set_option maxRecDepth 100000 in
set_option maxHeartbeats 400000 in
theorem k_Thought_firstWithout {g : zi_M} {Q : Int → zi_M → Prop} (I : zk_I g) (hQ : ∀ v : Int, ((-1) ≤ v ∧ v ≤ 3) → Q v g) : w_Thought_firstWithout g Q := by
  unfold w_Thought_firstWithout
  refine ⟨((4 - 0 : Int).toNat + 1), k_Thought_firstWithout_l2 I (fun k6 b_2 => ?_) (?_) hQ ((4 - 0 : Int).toNat + 1) ⟨by omega, by omega⟩ (by omega)⟩
  · exact hQ _ ⟨by omega, by omega⟩
  · exact hQ _ ⟨by omega, by omega⟩
-- SpoutNews$Thought.dearness(LSpoutNews$Told;II)I
set_option maxRecDepth 100000 in
set_option maxHeartbeats 400000 in
theorem k_Thought_dearness_l2 {g : zi_M} (I : zk_I g) {l1 : Int} {l2 : Int} {K21 : Int → zi_M → Prop} {K29 : zi_M → Prop} {Q : Int → zi_M → Prop} (q1 : 0 ≤ l1 ∧ l1 ≤ 3) (q2 : 0 ≤ l2 ∧ l2 ≤ 3) (hK21 : ∀ (k3 : Int), (0 ≤ k3 ∧ k3 ≤ 3) → K21 k3 g) (hK29 : K29 g) (hQ : ∀ v : Int, (0 ≤ v ∧ v ≤ 4) → Q v g) : ∀ (n : Nat) {l3 : Int}, (0 ≤ l3 ∧ l3 ≤ 4) → 4 - l3 < (n : Int) → w_Thought_dearness_l2 l1 l2 K21 K29 Q n l3 g
  | 0, l3, b0, hm => by exfalso; omega
  | n + 1, l3, b0, hm => by
    unfold w_Thought_dearness_l2
    refine ⟨⟨by omega, by omega⟩, ?_⟩
    refine ⟨fun c6 => ?_, fun c6 => ?_⟩
    · exact hK29
    · refine ⟨⟨by omega, by omega⟩, ?_⟩
      have m_1 : 0 ≤ (g 43 ((l1 * 4) + l3)) ∧ (g 43 ((l1 * 4) + l3)) ≤ 3 := I 43 ((l1 * 4) + l3)
      refine ⟨⟨by omega, by omega⟩, ⟨by omega, by omega⟩, ?_⟩
      refine ⟨fun c5 => ?_, fun c5 => ?_⟩
      · exact k_Thought_dearness_l2 I q1 q2 hK21 hK29 hQ n ⟨by omega, by omega⟩ (by omega)
      · exact hK21 _ ⟨by omega, by omega⟩
set_option maxRecDepth 100000 in
set_option maxHeartbeats 400000 in
theorem k_Thought_dearness {l1 : Int} {l2 : Int} {g : zi_M} {Q : Int → zi_M → Prop} (I : zk_I g) (p1 : 0 ≤ l1 ∧ l1 ≤ 3) (p2 : 0 ≤ l2 ∧ l2 ≤ 3) (hQ : ∀ v : Int, (0 ≤ v ∧ v ≤ 4) → Q v g) : w_Thought_dearness l1 l2 g Q := by
  unfold w_Thought_dearness
  refine ⟨((4 - 0 : Int).toNat + 1), k_Thought_dearness_l2 (l1 := l1) (l2 := l2) I ⟨by omega, by omega⟩ ⟨by omega, by omega⟩ (fun k7 b_2 => ?_) (?_) hQ ((4 - 0 : Int).toNat + 1) ⟨by omega, by omega⟩ (by omega)⟩
  · exact hQ _ ⟨by omega, by omega⟩
  · exact hQ _ ⟨by omega, by omega⟩
-- SpoutNews$Thought.offer(LSpoutNews$Told;II)V
def fr_Thought_offer (a : Nat) (i : Int) : Prop := a = 186 ∨ a = 187 ∨ a = 188
set_option maxRecDepth 100000 in
set_option maxHeartbeats 400000 in
theorem k_Thought_offer {l2 : Int} {l3 : Int} {g : zi_M} {Q : Int → zi_M → Prop} (I : zk_I g) (p2 : 0 ≤ l2 ∧ l2 ≤ 3) (p3 : 0 ≤ l3 ∧ l3 ≤ 3) (hQ : ∀ g' : zi_M, zk_I g' → zk_fr fr_Thought_offer g g' → Q 0 g') : w_Thought_offer l2 l3 g Q := by
  sorry
-- SpoutNews$Thought.makeOffers(LSpoutNews$Told;)V
def fr_Thought_makeOffers (a : Nat) (i : Int) : Prop := a = 186 ∨ a = 187 ∨ a = 188 ∨ (a = 180 ∧ i = 11)
set_option maxRecDepth 100000 in
set_option maxHeartbeats 400000 in
theorem k_Thought_makeOffers {g : zi_M} {Q : Int → zi_M → Prop} (I : zk_I g) (hQ : ∀ g' : zi_M, zk_I g' → zk_fr fr_Thought_makeOffers g g' → Q 0 g') : w_Thought_makeOffers g Q := by
  sorry
-- SpoutNews.keeps(I)I
def fr_S_keeps (a : Nat) (i : Int) : Prop := a = 186 ∨ a = 187 ∨ a = 188 ∨ (a = 180 ∧ i = 11)
set_option maxRecDepth 100000 in
set_option maxHeartbeats 400000 in
theorem k_S_keeps {l1 : Int} {g : zi_M} {Q : Int → zi_M → Prop} (I : zk_I g) (p1 : (-2147483648) ≤ l1 ∧ l1 ≤ 2147483647) (hQ : ∀ (v : Int) (g' : zi_M), zk_I g' → zk_fr fr_S_keeps g g' → ((-1) ≤ v ∧ v ≤ 16) → Q v g') : w_S_keeps l1 g Q := by
  unfold w_S_keeps
  refine ⟨⟨by omega, by omega⟩, ?_⟩
  refine ⟨fun c8 => ?_, fun c8 => ?_⟩
  · exact hQ _ _ I (zk_f0 _) ⟨by omega, by omega⟩
  · refine ⟨fun c7 => ?_, fun c7 => ?_⟩
    · refine k_Thought_makeOffers I (fun g3 I_1 F_2 => ?_)
      have F_3 : zk_fr fr_S_keeps g g3 := zk_ft (zk_f0 _) F_2 (fun a i => (fun h => Or.elim h (fun h => (Or.inl h)) (fun h => Or.elim h (fun h => (Or.inr (Or.inl h))) (fun h => Or.elim h (fun h => (Or.inr (Or.inr (Or.inl h)))) (fun h => (Or.inr (Or.inr (Or.inr h))))))))
      refine ⟨fun c6 => ?_, fun c6 => ?_⟩
      · refine ⟨⟨by omega, by omega⟩, ?_⟩
        have m_4 : (-1) ≤ (g3 186 l1) ∧ (g3 186 l1) ≤ 3 := I_1 186 l1
        exact hQ _ _ I_1 F_3 ⟨by omega, by omega⟩
      · have m_5 : 0 ≤ (g3 180 11) ∧ (g3 180 11) ≤ 16 := I_1 180 11
        exact hQ _ _ I_1 F_3 ⟨by omega, by omega⟩
    · exact hQ _ _ I (zk_f0 _) ⟨by omega, by omega⟩
-- SpoutNewsModel.freeMason()I
set_option maxRecDepth 100000 in
set_option maxHeartbeats 400000 in
theorem k_M_freeMason_l11 {g : zi_M} (I : zk_I g) {l1 : Int} {K36 : Int → zi_M → Prop} {Q : Int → zi_M → Prop} (q1 : 0 ≤ l1 ∧ l1 ≤ 3) (hK36 : ∀ (k2 : Int), (0 ≤ k2 ∧ k2 ≤ 1) → K36 k2 g) (hQ : ∀ v : Int, ((-1) ≤ v ∧ v ≤ 3) → Q v g) : ∀ (n : Nat) {l2 : Int} {l3 : Int}, (0 ≤ l2 ∧ l2 ≤ 1) → (0 ≤ l3 ∧ l3 ≤ 4) → 4 - l3 < (n : Int) → w_M_freeMason_l11 l1 K36 Q n l2 l3 g
  | 0, l2, l3, b0, b1, hm => by exfalso; omega
  | n + 1, l2, l3, b0, b1, hm => by
    unfold w_M_freeMason_l11
    refine ⟨⟨by omega, by omega⟩, ?_⟩
    refine ⟨fun c7 => ?_, fun c7 => ?_⟩
    · exact hK36 _ ⟨by omega, by omega⟩
    · refine ⟨⟨by omega, by omega⟩, ?_⟩
      have m_1 : 0 ≤ (g 245 l3) ∧ (g 245 l3) ≤ 4 := I 245 l3
      refine ⟨⟨by omega, by omega⟩, ⟨by omega, by omega⟩, ?_⟩
      refine ⟨fun c6 => ?_, fun c6 => ?_⟩
      · exact k_M_freeMason_l11 I q1 hK36 hQ n ⟨by omega, by omega⟩ ⟨by omega, by omega⟩ (by omega)
      · exact k_M_freeMason_l11 I q1 hK36 hQ n ⟨by omega, by omega⟩ ⟨by omega, by omega⟩ (by omega)
set_option maxRecDepth 100000 in
set_option maxHeartbeats 400000 in
theorem k_M_freeMason_l2 {g : zi_M} (I : zk_I g) {K40 : Int → zi_M → Prop} {K48 : zi_M → Prop} {Q : Int → zi_M → Prop} (hK40 : ∀ (k1 : Int), (0 ≤ k1 ∧ k1 ≤ 3) → K40 k1 g) (hK48 : K48 g) (hQ : ∀ v : Int, ((-1) ≤ v ∧ v ≤ 3) → Q v g) : ∀ (n : Nat) {l1 : Int}, (0 ≤ l1 ∧ l1 ≤ 4) → 4 - l1 < (n : Int) → w_M_freeMason_l2 K40 K48 Q n l1 g
  | 0, l1, b0, hm => by exfalso; omega
  | n + 1, l1, b0, hm => by
    unfold w_M_freeMason_l2
    refine ⟨⟨by omega, by omega⟩, ?_⟩
    refine ⟨fun c13 => ?_, fun c13 => ?_⟩
    · exact hK48
    · refine ⟨((4 - 0 : Int).toNat + 1), k_M_freeMason_l11 (l1 := l1) I ⟨by omega, by omega⟩ (fun k8 b_2 => ?_) hQ ((4 - 0 : Int).toNat + 1) ⟨by omega, by omega⟩ ⟨by omega, by omega⟩ (by omega)⟩
      refine ⟨⟨by omega, by omega⟩, ?_⟩
      refine ⟨fun c11 => ?_, fun c11 => ?_⟩
      · exact k_M_freeMason_l2 I hK40 hK48 hQ n ⟨by omega, by omega⟩ (by omega)
      · exact hK40 _ ⟨by omega, by omega⟩
set_option maxRecDepth 100000 in
set_option maxHeartbeats 400000 in
theorem k_M_freeMason {g : zi_M} {Q : Int → zi_M → Prop} (I : zk_I g) (hQ : ∀ v : Int, ((-1) ≤ v ∧ v ≤ 3) → Q v g) : w_M_freeMason g Q := by
  unfold w_M_freeMason
  refine ⟨((4 - 0 : Int).toNat + 1), k_M_freeMason_l2 I (fun k14 b_3 => ?_) (?_) hQ ((4 - 0 : Int).toNat + 1) ⟨by omega, by omega⟩ (by omega)⟩
  · exact hQ _ ⟨by omega, by omega⟩
  · exact hQ _ ⟨by omega, by omega⟩
-- SpoutNewsModel.dearOf(II)I
set_option maxRecDepth 100000 in
set_option maxHeartbeats 400000 in
theorem k_M_dearOf {l1 : Int} {l2 : Int} {g : zi_M} {Q : Int → zi_M → Prop} (I : zk_I g) (p1 : (-1) ≤ l1) (p2 : 0 ≤ l2) (hQ : ∀ v : Int, (v = (g 244 ((4 * l1) + l2)) + l2) → Q v g) : w_M_dearOf l1 l2 g Q := by
  sorry
-- SpoutNewsModel.placeIn(II)I
set_option maxRecDepth 100000 in
set_option maxHeartbeats 400000 in
theorem k_M_placeIn {l1 : Int} {l2 : Int} {g : zi_M} {Q : Int → zi_M → Prop} (I : zk_I g) (p1 : 1 ≤ l1) (p2 : (-1) ≤ l2 ∧ l2 ≤ 3) (hQ : ∀ v : Int, (0 ≤ v) → Q v g) : w_M_placeIn l1 l2 g Q := by
  sorry
-- SpoutNewsModel.offers()I
def fr_M_offers (a : Nat) (i : Int) : Prop := a = 245 ∨ a = 246
set_option maxRecDepth 100000 in
set_option maxHeartbeats 400000 in
theorem k_M_offers {g : zi_M} {Q : Int → zi_M → Prop} (I : zk_I g) (hQ : ∀ (v : Int) (g' : zi_M), zk_I g' → zk_fr fr_M_offers g g' → (0 ≤ v) → Q v g') : w_M_offers g Q := by
  sorry
-- SpoutNewsModel.keeps(I)I
def fr_M_keeps (a : Nat) (i : Int) : Prop := a = 245 ∨ a = 246 ∨ (a = 214 ∧ i = 0)
set_option maxRecDepth 100000 in
set_option maxHeartbeats 400000 in
theorem k_M_keeps {l1 : Int} {g : zi_M} {Q : Int → zi_M → Prop} (I : zk_I g) (p1 : (-2147483648) ≤ l1 ∧ l1 ≤ 2147483647) (hQ : ∀ (v : Int) (g' : zi_M), zk_I g' → zk_fr fr_M_keeps g g' → ((-1) ≤ v) → Q v g') : w_M_keeps l1 g Q := by
  sorry
