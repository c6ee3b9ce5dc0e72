-- by program (wip/gen/mkz.py)
-- SpoutNews.ends(II)I
set_option maxRecDepth 100000 in
set_option maxHeartbeats 400000 in
theorem k_S_ends {l1 : Int} {l2 : Int} {g : zi_M} {Q : Int → zi_M → Prop} (I : zk_I g) (p1 : (-2147483648) ≤ l1 ∧ l1 ≤ 2147483647) (p2 : (-2147483648) ≤ l2 ∧ l2 ≤ 2147483647) (hQ : ∀ v : Int, ((-1) ≤ v) → Q v g) : w_S_ends l1 l2 g Q := by
  unfold w_S_ends
  have m_4 : 0 ≤ (g 2 8) ∧ (g 2 8) ≤ 10 := I 2 8
  refine k_World_isSpout rfl I ⟨by omega, by omega⟩ (fun v1 b_1 b_2 b_3 => ?_)
  refine ⟨fun c12 => ?_, fun c12 => ?_⟩
  · refine ⟨⟨by omega, by omega⟩, ?_⟩
    refine ⟨fun c5_0 c5_1 => ?_, fun c5 => ?_, fun c5 => ?_⟩
    · exact hQ _ (by omega)
    · refine k_Thought_endOf I ⟨by omega, by omega⟩ (fun v6 b_5 => ?_)
      exact hQ _ (by omega)
    · refine k_Thought_guttersToEnd I ⟨by omega, by omega⟩ (fun v9 b_6 => ?_)
      exact hQ _ (by omega)
  · exact hQ _ (by omega)
-- SpoutNewsModel.isInRound(I)Z
set_option maxRecDepth 100000 in
set_option maxHeartbeats 400000 in
theorem k_M_isInRound_l8 {g : zi_M} (I : zk_I g) {l1 : Int} {K24 : zi_M → Prop} {K38 : zi_M → Prop} {Q : Int → zi_M → Prop} (q1 : 0 ≤ l1 ∧ l1 ≤ 9) (hK24 : K24 g) (hK38 : K38 g) (hQ : ∀ v : Int, (0 ≤ v ∧ v ≤ 1) → Q v g) : ∀ (n : Nat) {l2 : Int} {l3 : Int}, ((-1) ≤ l2 ∧ l2 ≤ 9) → (0 ≤ l3 ∧ l3 ≤ 10) → 10 - l3 < (n : Int) → w_M_isInRound_l8 l1 K24 K38 Q n l2 l3 g
  | 0, l2, l3, b0, b1, hm => by exfalso; omega
  | n + 1, l2, l3, b0, b1, hm => by
    unfold w_M_isInRound_l8
    refine ⟨⟨by omega, by omega⟩, ?_⟩
    refine ⟨fun c12 => ?_, fun c12 => ?_⟩
    · exact hK38
    · refine ⟨⟨by omega, by omega⟩, ?_⟩
      refine ⟨fun c11 => ?_, fun c11 => ?_⟩
      · exact hK38
      · refine ⟨⟨by omega, by omega⟩, ?_⟩
        refine ⟨fun c10 => ?_, fun c10 => ?_⟩
        · have m_4 : 0 ≤ (g 232 (l2)) ∧ (g 232 (l2)) ≤ 10 := I 232 (l2)
          refine k_M_into I ⟨by omega, by omega⟩ (fun v7 b_3 => ?_)
          exact k_M_isInRound_l8 I q1 hK24 hK38 hQ n ⟨by omega, by omega⟩ ⟨by omega, by omega⟩ (by omega)
        · exact hK24
set_option maxRecDepth 100000 in
set_option maxHeartbeats 400000 in
theorem k_M_isInRound {l1 : Int} {g : zi_M} {Q : Int → zi_M → Prop} (I : zk_I g) (p1 : 0 ≤ l1 ∧ l1 ≤ 9) (hQ : ∀ v : Int, (0 ≤ v ∧ v ≤ 1) → Q v g) : w_M_isInRound l1 g Q := by
  unfold w_M_isInRound
  have m_2 : 0 ≤ (g 232 (l1)) ∧ (g 232 (l1)) ≤ 10 := I 232 (l1)
  refine k_M_into I ⟨by omega, by omega⟩ (fun v1 b_1 => ?_)
  refine ⟨((10 - 0 : Int).toNat + 1), k_M_isInRound_l8 (l1 := l1) I ⟨by omega, by omega⟩ (?_) (?_) hQ ((10 - 0 : Int).toNat + 1) ⟨by omega, by omega⟩ ⟨by omega, by omega⟩ (by omega)⟩
  · exact hQ _ ⟨by omega, by omega⟩
  · exact hQ _ ⟨by omega, by omega⟩
-- SpoutNewsModel.leastOfRound(I)I
set_option maxRecDepth 100000 in
set_option maxHeartbeats 400000 in
theorem k_M_leastOfRound {l1 : Int} {g : zi_M} {Q : Int → zi_M → Prop} (I : zk_I g) (p1 : 0 ≤ l1 ∧ l1 ≤ 9) (hQ : ∀ v : Int, ((-2147483648) ≤ v ∧ v ≤ 2147483647) → Q v g) : w_M_leastOfRound l1 g Q := by
  sorry
-- SpoutNewsModel.ends(II)I
def fr_M_ends (a : Nat) (i : Int) : Prop := (a = 214 ∧ i = 0)
set_option maxRecDepth 100000 in
set_option maxHeartbeats 400000 in
theorem k_M_ends {l1 : Int} {l2 : Int} {g : zi_M} {Q : Int → zi_M → Prop} (I : zk_I g) (p1 : (-2147483648) ≤ l1 ∧ l1 ≤ 2147483647) (p2 : (-2147483648) ≤ l2 ∧ l2 ≤ 2147483647) (hQ : ∀ (v : Int) (g' : zi_M), zk_I g' → zk_fr fr_M_ends g g' → ((-2147483648) ≤ v) → Q v g') : w_M_ends l1 l2 g Q := by
  sorry
-- SpoutNews$Thought.allEnds(LSpoutNews$World;LSpoutNews$Texts;)I
set_option maxRecDepth 100000 in
set_option maxHeartbeats 400000 in
theorem k_Thought_allEnds_l5 {g : zi_M} (I : zk_I g) {K32 : Int → zi_M → Prop} {Q : Int → zi_M → Prop} (hK32 : ∀ (k3 : Int), ((-2147483648) ≤ k3 ∧ k3 ≤ 2147483647) → K32 k3 g) (hQ : ∀ v : Int, ((-2147483648) ≤ v ∧ v ≤ 2147483647) → Q v g) : ∀ (n : Nat) {l3 : Int} {l4 : Int}, ((-2147483648) ≤ l3 ∧ l3 ≤ 2147483647) → (0 ≤ l4 ∧ l4 ≤ 10) → 10 - l4 < (n : Int) → w_Thought_allEnds_l5 K32 Q n l3 l4 g
  | 0, l3, l4, b0, b1, hm => by exfalso; omega
  | n + 1, l3, l4, b0, b1, hm => by
    unfold w_Thought_allEnds_l5
    have m_1 : 0 ≤ (g 2 8) ∧ (g 2 8) ≤ 10 := I 2 8
    refine ⟨⟨by omega, by omega⟩, ⟨by omega, by omega⟩, ?_⟩
    refine ⟨fun c6 => ?_, fun c6 => ?_⟩
    · exact hK32 _ ⟨by omega, by omega⟩
    · refine k_Thought_endOf I ⟨by omega, by omega⟩ (fun v3 b_2 => ?_)
      have m_3 := zi_shl_f v3
      have m_4 := zi_or_f l3 (zi_shl 1 v3)
      exact k_Thought_allEnds_l5 I hK32 hQ n ⟨by omega, by omega⟩ ⟨by omega, by omega⟩ (by omega)
set_option maxRecDepth 100000 in
set_option maxHeartbeats 400000 in
theorem k_Thought_allEnds {g : zi_M} {Q : Int → zi_M → Prop} (I : zk_I g) (hQ : ∀ v : Int, ((-2147483648) ≤ v ∧ v ≤ 2147483647) → Q v g) : w_Thought_allEnds g Q := by
  unfold w_Thought_allEnds
  refine ⟨((10 - 0 : Int).toNat + 1), k_Thought_allEnds_l5 I (fun k7 b_5 => ?_) hQ ((10 - 0 : Int).toNat + 1) ⟨by omega, by omega⟩ ⟨by omega, by omega⟩ (by omega)⟩
  exact hQ _ ⟨by omega, by omega⟩
-- java/lang/Integer.bitCount(I)I
set_option maxRecDepth 100000 in
set_option maxHeartbeats 400000 in
theorem k_Integer_bitCount {l0 : Int} {g : zi_M} {Q : Int → zi_M → Prop} (I : zk_I g) (p0 : (-2147483648) ≤ l0 ∧ l0 ≤ 2147483647) (hQ : ∀ v : Int, (v = zi_and (((zi_and (((zi_and (l0 - (zi_and (zi_ush l0 1) 1431655765)) 858993459) + (zi_and (zi_ush (l0 - (zi_and (zi_ush l0 1) 1431655765)) 2) 858993459)) + (zi_ush ((zi_and (l0 - (zi_and (zi_ush l0 1) 1431655765)) 858993459) + (zi_and (zi_ush (l0 - (zi_and (zi_ush l0 1) 1431655765)) 2) 858993459)) 4)) 252645135) + (zi_ush (zi_and (((zi_and (l0 - (zi_and (zi_ush l0 1) 1431655765)) 858993459) + (zi_and (zi_ush (l0 - (zi_and (zi_ush l0 1) 1431655765)) 2) 858993459)) + (zi_ush ((zi_and (l0 - (zi_and (zi_ush l0 1) 1431655765)) 858993459) + (zi_and (zi_ush (l0 - (zi_and (zi_ush l0 1) 1431655765)) 2) 858993459)) 4)) 252645135) 8)) + (zi_ush ((zi_and (((zi_and (l0 - (zi_and (zi_ush l0 1) 1431655765)) 858993459) + (zi_and (zi_ush (l0 - (zi_and (zi_ush l0 1) 1431655765)) 2) 858993459)) + (zi_ush ((zi_and (l0 - (zi_and (zi_ush l0 1) 1431655765)) 858993459) + (zi_and (zi_ush (l0 - (zi_and (zi_ush l0 1) 1431655765)) 2) 858993459)) 4)) 252645135) + (zi_ush (zi_and (((zi_and (l0 - (zi_and (zi_ush l0 1) 1431655765)) 858993459) + (zi_and (zi_ush (l0 - (zi_and (zi_ush l0 1) 1431655765)) 2) 858993459)) + (zi_ush ((zi_and (l0 - (zi_and (zi_ush l0 1) 1431655765)) 858993459) + (zi_and (zi_ush (l0 - (zi_and (zi_ush l0 1) 1431655765)) 2) 858993459)) 4)) 252645135) 8)) 16)) 63) → Q v g) : w_Integer_bitCount l0 g Q := by
  sorry
-- SpoutNews.catches(I)I
set_option maxRecDepth 100000 in
set_option maxHeartbeats 400000 in
theorem k_S_catches_b11 {l1 : Int} {Q : Int → zi_M → Prop} {g : zi_M} (I : zk_I g) (p1 : 0 ≤ l1 ∧ l1 ≤ 1) (hQ : ∀ v : Int, ((-2147483648) ≤ v ∧ v ≤ 2147483647) → Q v g) : w_S_catches_b11 l1 g Q := by
  unfold w_S_catches_b11
  refine k_Thought_allEnds I (fun v2 b_1 => ?_)
  refine ⟨⟨by omega, by omega⟩, ?_⟩
  refine ⟨fun c9 => ?_, fun c9 => ?_⟩
  · exact hQ _ ⟨by omega, by omega⟩
  · have m_3 := zi_ush_f (v2) 1
    have m_4 := zi_and_f (zi_ush v2 1) 1431655765
    have m_5 := zi_and_f (v2 - (zi_and (zi_ush v2 1) 1431655765)) 858993459
    have m_6 := zi_ush_f (v2 - (zi_and (zi_ush v2 1) 1431655765)) 2
    have m_7 := zi_and_f (zi_ush (v2 - (zi_and (zi_ush v2 1) 1431655765)) 2) 858993459
    have m_8 := zi_ush_f ((zi_and (v2 - (zi_and (zi_ush v2 1) 1431655765)) 858993459) + (zi_and (zi_ush (v2 - (zi_and (zi_ush v2 1) 1431655765)) 2) 858993459)) 4
    have m_9 := zi_and_f (((zi_and (v2 - (zi_and (zi_ush v2 1) 1431655765)) 858993459) + (zi_and (zi_ush (v2 - (zi_and (zi_ush v2 1) 1431655765)) 2) 858993459)) + (zi_ush ((zi_and (v2 - (zi_and (zi_ush v2 1) 1431655765)) 858993459) + (zi_and (zi_ush (v2 - (zi_and (zi_ush v2 1) 1431655765)) 2) 858993459)) 4)) 252645135
    have m_10 := zi_ush_f (zi_and (((zi_and (v2 - (zi_and (zi_ush v2 1) 1431655765)) 858993459) + (zi_and (zi_ush (v2 - (zi_and (zi_ush v2 1) 1431655765)) 2) 858993459)) + (zi_ush ((zi_and (v2 - (zi_and (zi_ush v2 1) 1431655765)) 858993459) + (zi_and (zi_ush (v2 - (zi_and (zi_ush v2 1) 1431655765)) 2) 858993459)) 4)) 252645135) 8
    have m_11 := zi_ush_f ((zi_and (((zi_and (v2 - (zi_and (zi_ush v2 1) 1431655765)) 858993459) + (zi_and (zi_ush (v2 - (zi_and (zi_ush v2 1) 1431655765)) 2) 858993459)) + (zi_ush ((zi_and (v2 - (zi_and (zi_ush v2 1) 1431655765)) 858993459) + (zi_and (zi_ush (v2 - (zi_and (zi_ush v2 1) 1431655765)) 2) 858993459)) 4)) 252645135) + (zi_ush (zi_and (((zi_and (v2 - (zi_and (zi_ush v2 1) 1431655765)) 858993459) + (zi_and (zi_ush (v2 - (zi_and (zi_ush v2 1) 1431655765)) 2) 858993459)) + (zi_ush ((zi_and (v2 - (zi_and (zi_ush v2 1) 1431655765)) 858993459) + (zi_and (zi_ush (v2 - (zi_and (zi_ush v2 1) 1431655765)) 2) 858993459)) 4)) 252645135) 8)) 16
    have m_12 := zi_and_f (((zi_and (((zi_and (v2 - (zi_and (zi_ush v2 1) 1431655765)) 858993459) + (zi_and (zi_ush (v2 - (zi_and (zi_ush v2 1) 1431655765)) 2) 858993459)) + (zi_ush ((zi_and (v2 - (zi_and (zi_ush v2 1) 1431655765)) 858993459) + (zi_and (zi_ush (v2 - (zi_and (zi_ush v2 1) 1431655765)) 2) 858993459)) 4)) 252645135) + (zi_ush (zi_and (((zi_and (v2 - (zi_and (zi_ush v2 1) 1431655765)) 858993459) + (zi_and (zi_ush (v2 - (zi_and (zi_ush v2 1) 1431655765)) 2) 858993459)) + (zi_ush ((zi_and (v2 - (zi_and (zi_ush v2 1) 1431655765)) 858993459) + (zi_and (zi_ush (v2 - (zi_and (zi_ush v2 1) 1431655765)) 2) 858993459)) 4)) 252645135) 8)) + (zi_ush ((zi_and (((zi_and (v2 - (zi_and (zi_ush v2 1) 1431655765)) 858993459) + (zi_and (zi_ush (v2 - (zi_and (zi_ush v2 1) 1431655765)) 2) 858993459)) + (zi_ush ((zi_and (v2 - (zi_and (zi_ush v2 1) 1431655765)) 858993459) + (zi_and (zi_ush (v2 - (zi_and (zi_ush v2 1) 1431655765)) 2) 858993459)) 4)) 252645135) + (zi_ush (zi_and (((zi_and (v2 - (zi_and (zi_ush v2 1) 1431655765)) 858993459) + (zi_and (zi_ush (v2 - (zi_and (zi_ush v2 1) 1431655765)) 2) 858993459)) + (zi_ush ((zi_and (v2 - (zi_and (zi_ush v2 1) 1431655765)) 858993459) + (zi_and (zi_ush (v2 - (zi_and (zi_ush v2 1) 1431655765)) 2) 858993459)) 4)) 252645135) 8)) 16)) 63
    refine k_Integer_bitCount I ⟨by omega, by omega⟩ (fun v6 b_2 => ?_)
    exact hQ _ ⟨by omega, by omega⟩
set_option maxRecDepth 100000 in
set_option maxHeartbeats 400000 in
theorem k_S_catches {l1 : Int} {g : zi_M} {Q : Int → zi_M → Prop} (I : zk_I g) (p1 : (-2147483648) ≤ l1 ∧ l1 ≤ 2147483647) (hQ : ∀ v : Int, ((-2147483648) ≤ v ∧ v ≤ 2147483647) → Q v g) : w_S_catches l1 g Q := by
  unfold w_S_catches
  refine ⟨⟨by omega, by omega⟩, ?_⟩
  refine ⟨fun c11 => ?_, fun c11 => ?_⟩
  · exact k_S_catches_b11 I ⟨by omega, by omega⟩ hQ
  · refine ⟨fun c10 => ?_, fun c10 => ?_⟩
    · exact k_S_catches_b11 I ⟨by omega, by omega⟩ hQ
    · exact hQ _ ⟨by omega, by omega⟩
-- SpoutNewsModel.onesOf(I)I
set_option maxRecDepth 100000 in
set_option maxHeartbeats 400000 in
theorem k_M_onesOf_l4 {g : zi_M} (I : zk_I g) {K21 : Int → zi_M → Prop} {Q : Int → zi_M → Prop} (hK21 : ∀ (k2 : Int), (0 ≤ k2) → K21 k2 g) (hQ : ∀ v : Int, (0 ≤ v) → Q v g) : ∀ (n : Nat) {l2 : Int} {l3 : Int}, (0 ≤ l2) → (0 ≤ l3 ∧ l3 ≤ 65535) → l3 < (n : Int) → w_M_onesOf_l4 K21 Q n l2 l3 g
  | 0, l2, l3, b0, b1, hm => by exfalso; omega
  | n + 1, l2, l3, b0, b1, hm => by
    unfold w_M_onesOf_l4
    refine ⟨⟨by omega, by omega⟩, ?_⟩
    refine ⟨fun c2 => ?_, fun c2 => ?_⟩
    · exact hK21 _ (by omega)
    · have m_1 := zi_and_f l3 (l3 - 1)
      exact k_M_onesOf_l4 I hK21 hQ n (by omega) ⟨by omega, by omega⟩ (by omega)
set_option maxRecDepth 100000 in
set_option maxHeartbeats 400000 in
theorem k_M_onesOf {l1 : Int} {g : zi_M} {Q : Int → zi_M → Prop} (I : zk_I g) (p1 : 0 ≤ l1 ∧ l1 ≤ 65535) (hQ : ∀ v : Int, (0 ≤ v) → Q v g) : w_M_onesOf l1 g Q := by
  unfold w_M_onesOf
  refine ⟨((l1 : Int).toNat + 1), k_M_onesOf_l4 I (fun k3 b_2 => ?_) hQ ((l1 : Int).toNat + 1) (by omega) ⟨by omega, by omega⟩ (by omega)⟩
  exact hQ _ (by omega)
-- SpoutNewsModel.catchesAll(I)Z
set_option maxRecDepth 100000 in
set_option maxHeartbeats 400000 in
theorem k_M_catchesAll_l2 {g : zi_M} (I : zk_I g) {l1 : Int} {K20 : zi_M → Prop} {K28 : zi_M → Prop} {Q : Int → zi_M → Prop} (q1 : 0 ≤ l1) (hK20 : K20 g) (hK28 : K28 g) (hQ : ∀ v : Int, (0 ≤ v ∧ v ≤ 1) → Q v g) : ∀ (n : Nat) {l2 : Int}, (0 ≤ l2 ∧ l2 ≤ 10) → 10 - l2 < (n : Int) → w_M_catchesAll_l2 l1 K20 K28 Q n l2 g
  | 0, l2, b0, hm => by exfalso; omega
  | n + 1, l2, b0, hm => by
    unfold w_M_catchesAll_l2
    have m_1 : 0 ≤ (g 214 6) ∧ (g 214 6) ≤ 10 := I 214 6
    refine ⟨⟨by omega, by omega⟩, ⟨by omega, by omega⟩, ?_⟩
    refine ⟨fun c7 => ?_, fun c7 => ?_⟩
    · exact hK28
    · refine k_M_passedFrom I ⟨by omega, by omega⟩ (fun v3 b_2 => ?_)
      have m_3 := zi_and_f v3 l1
      refine ⟨fun c6 => ?_, fun c6 => ?_⟩
      · exact k_M_catchesAll_l2 I q1 hK20 hK28 hQ n ⟨by omega, by omega⟩ (by omega)
      · exact hK20
set_option maxRecDepth 100000 in
set_option maxHeartbeats 400000 in
theorem k_M_catchesAll {l1 : Int} {g : zi_M} {Q : Int → zi_M → Prop} (I : zk_I g) (p1 : 0 ≤ l1) (hQ : ∀ v : Int, (0 ≤ v ∧ v ≤ 1) → Q v g) : w_M_catchesAll l1 g Q := by
  unfold w_M_catchesAll
  refine ⟨((10 - 0 : Int).toNat + 1), k_M_catchesAll_l2 (l1 := l1) I (by omega) (?_) (?_) hQ ((10 - 0 : Int).toNat + 1) ⟨by omega, by omega⟩ (by omega)⟩
  · exact hQ _ ⟨by omega, by omega⟩
  · exact hQ _ ⟨by omega, by omega⟩
-- SpoutNewsModel.catches(I)I
def fr_M_catches (a : Nat) (i : Int) : Prop := (a = 214 ∧ i = 0)
set_option maxRecDepth 100000 in
set_option maxHeartbeats 400000 in
theorem k_M_catches {l1 : Int} {g : zi_M} {Q : Int → zi_M → Prop} (I : zk_I g) (p1 : (-2147483648) ≤ l1 ∧ l1 ≤ 2147483647) (hQ : ∀ (v : Int) (g' : zi_M), zk_I g' → zk_fr fr_M_catches g g' → ((-1) ≤ v) → Q v g') : w_M_catches l1 g Q := by
  sorry
-- SpoutNews.seat(II)I
def fr_S_seat (a : Nat) (i : Int) : Prop := a = 37 ∨ a = 38 ∨ (a = 36 ∧ i = 2)
set_option maxRecDepth 100000 in
set_option maxHeartbeats 400000 in
theorem k_S_seat {l1 : Int} {l2 : Int} {g : zi_M} {Q : Int → zi_M → Prop} (I : zk_I g) (p1 : (-2147483648) ≤ l1 ∧ l1 ≤ 2147483647) (p2 : (-2147483648) ≤ l2 ∧ l2 ≤ 2147483647) (hQ : ∀ (v : Int) (g' : zi_M), zk_I g' → zk_fr fr_S_seat g g' → ((-1) ≤ v ∧ v ≤ 12) → Q v g') : w_S_seat l1 l2 g Q := by
  unfold w_S_seat
  refine ⟨⟨by omega, by omega⟩, ?_⟩
  refine ⟨fun c18 => ?_, fun c18 => ?_⟩
  · have m_4 : 0 ≤ (g 2 11) ∧ (g 2 11) ≤ 8 := I 2 11
    refine k_World_isSitter I ⟨by omega, by omega⟩ (fun v2 b_1 b_2 b_3 => ?_)
    refine ⟨fun c16 => ?_, fun c16 => ?_⟩
    · exact hQ _ _ I (zk_f0 _) ⟨by omega, by omega⟩
    · have m_8 : 0 ≤ (g 2 8) ∧ (g 2 8) ≤ 10 := I 2 8
      refine k_World_isSpout rfl I ⟨by omega, by omega⟩ (fun v5 b_5 b_6 b_7 => ?_)
      refine ⟨fun c15 => ?_, fun c15 => ?_⟩
      · exact hQ _ _ I (zk_f0 _) ⟨by omega, by omega⟩
      · have m_9 : 0 ≤ (g 36 2) ∧ (g 36 2) ≤ 12 := I 36 2
        refine ⟨⟨by omega, by omega⟩, ?_⟩
        refine ⟨fun c14 => ?_, fun c14 => ?_⟩
        · refine ⟨⟨by omega, by omega⟩, ?_⟩
          intro g10 e_10
          have I_11 : zk_I g10 := by rw [e_10]; exact zk_upd (L := 0) (H := 7) rfl rfl I ⟨by omega, by omega⟩
          have F_12 : zk_fr fr_S_seat g g10 := by rw [e_10]; exact zk_fu (zk_f0 _) (Or.inl rfl)
          have m_16 : 0 ≤ (g10 36 2) ∧ (g10 36 2) ≤ 12 := I_11 36 2
          have m_17 : g10 36 2 = g 36 2 := by rw [e_10]; exact zi_u_ne (by decide)
          refine ⟨⟨by omega, by omega⟩, ?_⟩
          intro g12 e_13
          have I_14 : zk_I g12 := by rw [e_13]; exact zk_upd (L := 0) (H := 9) rfl rfl I_11 ⟨by omega, by omega⟩
          have F_15 : zk_fr fr_S_seat g g12 := by rw [e_13]; exact zk_fu F_12 (Or.inr (Or.inl rfl))
          have m_21 : 0 ≤ (g12 36 2) ∧ (g12 36 2) ≤ 12 := I_14 36 2
          have m_22 : g12 36 2 = g10 36 2 := by rw [e_13]; exact zi_u_ne (by decide)
          intro g13 e_18
          have I_19 : zk_I g13 := by rw [e_18]; exact zk_upd (L := 0) (H := 12) rfl rfl I_14 ⟨by omega, by omega⟩
          have F_20 : zk_fr fr_S_seat g g13 := by rw [e_18]; exact zk_fu F_15 (Or.inr (Or.inr ⟨rfl, rfl⟩))
          have m_23 : 0 ≤ (g13 36 2) ∧ (g13 36 2) ≤ 12 := I_19 36 2
          have m_24 : g13 36 2 = (g12 36 2) + 1 := by rw [e_18]; exact zi_u_eq
          exact hQ _ _ I_19 F_20 ⟨by omega, by omega⟩
        · exact hQ _ _ I (zk_f0 _) ⟨by omega, by omega⟩
  · intro g17 e_25
    have I_26 : zk_I g17 := by rw [e_25]; exact zk_upd (L := 0) (H := 12) rfl rfl I ⟨by omega, by omega⟩
    have F_27 : zk_fr fr_S_seat g g17 := by rw [e_25]; exact zk_fu (zk_f0 _) (Or.inr (Or.inr ⟨rfl, rfl⟩))
    exact hQ _ _ I_26 F_27 ⟨by omega, by omega⟩
-- SpoutNewsModel.seat(II)I
def fr_M_seat (a : Nat) (i : Int) : Prop := a = 239 ∨ a = 240 ∨ (a = 214 ∧ i = 0) ∨ (a = 214 ∧ i = 46)
set_option maxRecDepth 100000 in
set_option maxHeartbeats 400000 in
theorem k_M_seat {l1 : Int} {l2 : Int} {g : zi_M} {Q : Int → zi_M → Prop} (I : zk_I g) (p1 : (-2147483648) ≤ l1 ∧ l1 ≤ 2147483647) (p2 : (-2147483648) ≤ l2 ∧ l2 ≤ 2147483647) (hQ : ∀ (v : Int) (g' : zi_M), zk_I g' → zk_fr fr_M_seat g g' → ((-1) ≤ v ∧ v ≤ 12) → Q v g') : w_M_seat l1 l2 g Q := by
  sorry
-- SpoutNews$Thought.whomToAsk()I
set_option maxRecDepth 100000 in
set_option maxHeartbeats 400000 in
theorem k_Thought_whomToAsk_l18 {g : zi_M} (I : zk_I g) {l3 : Int} {K50 : Int → zi_M → Prop} {Q : Int → zi_M → Prop} (q3 : 0 ≤ l3 ∧ l3 ≤ 7) (hK50 : ∀ (k4 : Int), (0 ≤ k4 ∧ k4 ≤ 2147483647) → K50 k4 g) (hQ : ∀ v : Int, ((-1) ≤ v ∧ v ≤ 7) → Q v g) : ∀ (n : Nat) {l4 : Int} {l5 : Int}, (0 ≤ l4 ∧ l4 ≤ 2147483647) → (0 ≤ l5 ∧ l5 ≤ 10) → 10 - l5 < (n : Int) → w_Thought_whomToAsk_l18 l3 K50 Q n l4 l5 g
  | 0, l4, l5, b0, b1, hm => by exfalso; omega
  | n + 1, l4, l5, b0, b1, hm => by
    unfold w_Thought_whomToAsk_l18
    refine ⟨⟨by omega, by omega⟩, ?_⟩
    refine ⟨fun c6 => ?_, fun c6 => ?_⟩
    · exact hK50 _ ⟨by omega, by omega⟩
    · refine ⟨⟨by omega, by omega⟩, ?_⟩
      have m_1 : (-2147483648) ≤ (g 183 ((l3 * 10) + l5)) ∧ (g 183 ((l3 * 10) + l5)) ≤ 2147483647 := I 183 ((l3 * 10) + l5)
      refine ⟨⟨by omega, by omega⟩, ⟨by omega, by omega⟩, ?_⟩
      exact k_Thought_whomToAsk_l18 I q3 hK50 hQ n ⟨by omega, by omega⟩ ⟨by omega, by omega⟩ (by omega)
set_option maxRecDepth 100000 in
set_option maxHeartbeats 400000 in
theorem k_Thought_whomToAsk_l6 {g : zi_M} (I : zk_I g) {K81 : Int → zi_M → Prop} {Q : Int → zi_M → Prop} (hK81 : ∀ (k1 : Int), ((-1) ≤ k1 ∧ k1 ≤ 7) → K81 k1 g) (hQ : ∀ v : Int, ((-1) ≤ v ∧ v ≤ 7) → Q v g) : ∀ (n : Nat) {l1 : Int} {l2 : Int} {l3 : Int}, ((-1) ≤ l1 ∧ l1 ≤ 7) → (0 ≤ l2 ∧ l2 ≤ 2147483647) → (0 ≤ l3 ∧ l3 ≤ 8) → 8 - l3 < (n : Int) → w_Thought_whomToAsk_l6 K81 Q n l1 l2 l3 g
  | 0, l1, l2, l3, b0, b1, b2, hm => by exfalso; omega
  | n + 1, l1, l2, l3, b0, b1, b2, hm => by
    unfold w_Thought_whomToAsk_l6
    refine ⟨⟨by omega, by omega⟩, ?_⟩
    refine ⟨fun c18 => ?_, fun c18 => ?_⟩
    · exact hK81 _ ⟨by omega, by omega⟩
    · refine ⟨((10 - 0 : Int).toNat + 1), k_Thought_whomToAsk_l18 (l3 := l3) I ⟨by omega, by omega⟩ (fun k7 b_2 => ?_) hQ ((10 - 0 : Int).toNat + 1) ⟨by omega, by omega⟩ ⟨by omega, by omega⟩ (by omega)⟩
      refine ⟨⟨by omega, by omega⟩, ?_⟩
      have m_3 : (-2147483648) ≤ (g 181 l3) ∧ (g 181 l3) ≤ 2147483647 := I 181 l3
      refine ⟨⟨by omega, by omega⟩, ?_⟩
      refine ⟨fun c16 => ?_, fun c16 => ?_⟩
      · exact k_Thought_whomToAsk_l6 I hK81 hQ n ⟨by omega, by omega⟩ ⟨by omega, by omega⟩ ⟨by omega, by omega⟩ (by omega)
      · refine ⟨⟨by omega, by omega⟩, ?_⟩
        refine ⟨fun c15 => ?_, fun c15 => ?_⟩
        · exact k_Thought_whomToAsk_l6 I hK81 hQ n ⟨by omega, by omega⟩ ⟨by omega, by omega⟩ ⟨by omega, by omega⟩ (by omega)
        · refine ⟨⟨by omega, by omega⟩, ⟨by omega, by omega⟩, ?_⟩
          refine ⟨fun c14 => ?_, fun c14 => ?_⟩
          · exact k_Thought_whomToAsk_l6 I hK81 hQ n ⟨by omega, by omega⟩ ⟨by omega, by omega⟩ ⟨by omega, by omega⟩ (by omega)
          · exact k_Thought_whomToAsk_l6 I hK81 hQ n ⟨by omega, by omega⟩ ⟨by omega, by omega⟩ ⟨by omega, by omega⟩ (by omega)
set_option maxRecDepth 100000 in
set_option maxHeartbeats 400000 in
theorem k_Thought_whomToAsk {g : zi_M} {Q : Int → zi_M → Prop} (I : zk_I g) (hQ : ∀ v : Int, ((-1) ≤ v ∧ v ≤ 7) → Q v g) : w_Thought_whomToAsk g Q := by
  unfold w_Thought_whomToAsk
  refine ⟨((8 - 0 : Int).toNat + 1), k_Thought_whomToAsk_l6 I (fun k19 b_4 => ?_) hQ ((8 - 0 : Int).toNat + 1) ⟨by omega, by omega⟩ ⟨by omega, by omega⟩ ⟨by omega, by omega⟩ (by omega)⟩
  exact hQ _ ⟨by omega, by omega⟩
-- SpoutNews$Thought.sureCouples()I
set_option maxRecDepth 100000 in
set_option maxHeartbeats 400000 in
theorem k_Thought_sureCouples_l12 {g : zi_M} (I : zk_I g) {l2 : Int} {K59 : Int → zi_M → Prop} {Q : Int → zi_M → Prop} (q2 : 0 ≤ l2 ∧ l2 ≤ 7) (hK59 : ∀ (k1 : Int), (0 ≤ k1) → K59 k1 g) (hQ : ∀ v : Int, (0 ≤ v) → Q v g) : ∀ (n : Nat) {l1 : Int} {l3 : Int}, (0 ≤ l1) → (0 ≤ l3 ∧ l3 ≤ 10) → 10 - l3 < (n : Int) → w_Thought_sureCouples_l12 l2 K59 Q n l1 l3 g
  | 0, l1, l3, b0, b1, hm => by exfalso; omega
  | n + 1, l1, l3, b0, b1, hm => by
    unfold w_Thought_sureCouples_l12
    refine ⟨⟨by omega, by omega⟩, ?_⟩
    refine ⟨fun c9 => ?_, fun c9 => ?_⟩
    · exact hK59 _ (by omega)
    · refine ⟨⟨by omega, by omega⟩, ?_⟩
      have m_1 : (-2147483648) ≤ (g 181 l2) ∧ (g 181 l2) ≤ 2147483647 := I 181 l2
      have m_2 := zi_shr_f (g 181 l2) l3
      have m_3 := zi_and_f (zi_shr (g 181 l2) l3) 1
      refine ⟨fun c8 => ?_, fun c8 => ?_⟩
      · exact k_Thought_sureCouples_l12 I q2 hK59 hQ n (by omega) ⟨by omega, by omega⟩ (by omega)
      · refine ⟨⟨by omega, by omega⟩, ?_⟩
        have m_4 : (-2147483648) ≤ (g 183 ((l2 * 10) + l3)) ∧ (g 183 ((l2 * 10) + l3)) ≤ 2147483647 := I 183 ((l2 * 10) + l3)
        have m_5 : (-2147483648) ≤ (g 180 3) ∧ (g 180 3) ≤ 2147483647 := I 180 3
        refine ⟨⟨by omega, by omega⟩, ⟨by omega, by omega⟩, ?_⟩
        refine ⟨fun c7 => ?_, fun c7 => ?_⟩
        · exact k_Thought_sureCouples_l12 I q2 hK59 hQ n (by omega) ⟨by omega, by omega⟩ (by omega)
        · exact k_Thought_sureCouples_l12 I q2 hK59 hQ n (by omega) ⟨by omega, by omega⟩ (by omega)
set_option maxRecDepth 100000 in
set_option maxHeartbeats 400000 in
theorem k_Thought_sureCouples_l4 {g : zi_M} (I : zk_I g) {K65 : Int → zi_M → Prop} {Q : Int → zi_M → Prop} (hK65 : ∀ (k1 : Int), (0 ≤ k1) → K65 k1 g) (hQ : ∀ v : Int, (0 ≤ v) → Q v g) : ∀ (n : Nat) {l1 : Int} {l2 : Int}, (0 ≤ l1) → (0 ≤ l2 ∧ l2 ≤ 8) → 8 - l2 < (n : Int) → w_Thought_sureCouples_l4 K65 Q n l1 l2 g
  | 0, l1, l2, b0, b1, hm => by exfalso; omega
  | n + 1, l1, l2, b0, b1, hm => by
    unfold w_Thought_sureCouples_l4
    refine ⟨⟨by omega, by omega⟩, ?_⟩
    refine ⟨fun c13 => ?_, fun c13 => ?_⟩
    · exact hK65 _ (by omega)
    · refine ⟨((10 - 0 : Int).toNat + 1), k_Thought_sureCouples_l12 (l2 := l2) I ⟨by omega, by omega⟩ (fun k10 b_6 => ?_) hQ ((10 - 0 : Int).toNat + 1) (by omega) ⟨by omega, by omega⟩ (by omega)⟩
      exact k_Thought_sureCouples_l4 I hK65 hQ n (by omega) ⟨by omega, by omega⟩ (by omega)
set_option maxRecDepth 100000 in
set_option maxHeartbeats 400000 in
theorem k_Thought_sureCouples {g : zi_M} {Q : Int → zi_M → Prop} (I : zk_I g) (hQ : ∀ v : Int, (0 ≤ v) → Q v g) : w_Thought_sureCouples g Q := by
  unfold w_Thought_sureCouples
  refine ⟨((8 - 0 : Int).toNat + 1), k_Thought_sureCouples_l4 I (fun k14 b_7 => ?_) hQ ((8 - 0 : Int).toNat + 1) (by omega) ⟨by omega, by omega⟩ (by omega)⟩
  exact hQ _ (by omega)
-- SpoutNewsModel.seatsOf(II)I
set_option maxRecDepth 100000 in
set_option maxHeartbeats 400000 in
theorem k_M_seatsOf {l1 : Int} {l2 : Int} {g : zi_M} {Q : Int → zi_M → Prop} (I : zk_I g) (p1 : 0 ≤ l1 ∧ l1 ≤ 7) (p2 : (-1) ≤ l2) (hQ : ∀ v : Int, (l2 = (-1) → v = g 239 l1) → (¬ l2 = (-1) → ¬ (Int.tdiv l2 10) = l1 → v = g 239 l1) → (¬ l2 = (-1) → (Int.tdiv l2 10) = l1 → v = zi_and (g 239 l1) (zi_shl 1 (Int.tmod l2 10))) → Q v g) : w_M_seatsOf l1 l2 g Q := by
  sorry
-- SpoutNewsModel.waysWith(I)I
def fr_M_waysWith (a : Nat) (i : Int) : Prop := a = 241
set_option maxRecDepth 100000 in
set_option maxHeartbeats 400000 in
theorem k_M_waysWith_l2 {K30 : zi_M → Prop} {Q : Int → zi_M → Prop} {g0 : zi_M} (hK30 : ∀ (g : zi_M), zk_I g → zk_fr fr_M_waysWith g0 g → K30 g) (hQ : ∀ (v : Int) (g' : zi_M), zk_I g' → zk_fr fr_M_waysWith g0 g' → ((-2147483648) ≤ v ∧ v ≤ 2147483647) → Q v g') : ∀ (n : Nat) {l2 : Int} {g : zi_M}, zk_I g → zk_fr fr_M_waysWith g0 g → (0 ≤ l2 ∧ l2 ≤ 1024) → 1024 - l2 < (n : Int) → w_M_waysWith_l2 K30 Q n l2 g
  | 0, l2, g, I, F, b0, hm => by exfalso; omega
  | n + 1, l2, g, I, F, b0, hm => by
    unfold w_M_waysWith_l2
    refine ⟨⟨by omega, by omega⟩, ?_⟩
    refine ⟨fun c7 => ?_, fun c7 => ?_⟩
    · exact hK30 _ I F
    · refine ⟨fun c6 => ?_, fun c6 => ?_⟩
      · refine ⟨⟨by omega, by omega⟩, ?_⟩
        intro g3 e_1
        have I_2 : zk_I g3 := by rw [e_1]; exact zk_upd (L := (-2147483648)) (H := 2147483647) rfl rfl I ⟨by omega, by omega⟩
        have F_3 : zk_fr fr_M_waysWith g0 g3 := by rw [e_1]; exact zk_fu F rfl
        exact k_M_waysWith_l2 hK30 hQ n I_2 F_3 ⟨by omega, by omega⟩ (by omega)
      · refine ⟨⟨by omega, by omega⟩, ?_⟩
        intro g5 e_4
        have I_5 : zk_I g5 := by rw [e_4]; exact zk_upd (L := (-2147483648)) (H := 2147483647) rfl rfl I ⟨by omega, by omega⟩
        have F_6 : zk_fr fr_M_waysWith g0 g5 := by rw [e_4]; exact zk_fu F rfl
        exact k_M_waysWith_l2 hK30 hQ n I_5 F_6 ⟨by omega, by omega⟩ (by omega)
set_option maxRecDepth 100000 in
set_option maxHeartbeats 400000 in
theorem k_M_waysWith_l73 {l3 : Int} {l4 : Int} {K118 : Int → zi_M → Prop} {Q : Int → zi_M → Prop} {g0 : zi_M} (q3 : 0 ≤ l3 ∧ l3 ≤ 1023) (q4 : 0 ≤ l4 ∧ l4 ≤ 1023) (hK118 : ∀ (k5 : Int) (g : zi_M), zk_I g → zk_fr fr_M_waysWith g0 g → ((-2147483648) ≤ k5 ∧ k5 ≤ 2147483647) → K118 k5 g) (hQ : ∀ (v : Int) (g' : zi_M), zk_I g' → zk_fr fr_M_waysWith g0 g' → ((-2147483648) ≤ v ∧ v ≤ 2147483647) → Q v g') : ∀ (n : Nat) {l5 : Int} {l6 : Int} {g : zi_M}, zk_I g → zk_fr fr_M_waysWith g0 g → ((-2147483648) ≤ l5 ∧ l5 ≤ 2147483647) → (0 ≤ l6 ∧ l6 ≤ 10) → 10 - l6 < (n : Int) → w_M_waysWith_l73 l3 l4 K118 Q n l5 l6 g
  | 0, l5, l6, g, I, F, b0, b1, hm => by exfalso; omega
  | n + 1, l5, l6, g, I, F, b0, b1, hm => by
    unfold w_M_waysWith_l73
    refine ⟨⟨by omega, by omega⟩, ?_⟩
    refine ⟨fun c23 => ?_, fun c23 => ?_⟩
    · exact hK118 _ _ I F ⟨by omega, by omega⟩
    · have m_20 := zi_and_f l4 l3
      have m_23 := zi_shr_f ((zi_and l4 l3)) (l6)
      have m_24 := zi_and_f (zi_shr (zi_and l4 l3) l6) 1
      refine k_M_has I ⟨by omega, by omega⟩ ⟨by omega, by omega⟩ (fun v17 b_21 b_22 => ?_)
      refine ⟨fun c22 => ?_, fun c22 => ?_⟩
      · exact k_M_waysWith_l73 q3 q4 hK118 hQ n I F ⟨by omega, by omega⟩ ⟨by omega, by omega⟩ (by omega)
      · have m_25 := zi_shl_f l6
        have m_26 := zi_xor_f (zi_shl 1 l6) (-1)
        have m_27 := zi_and_f l4 (zi_xor (zi_shl 1 l6) (-1))
        refine ⟨⟨by omega, by omega⟩, ?_⟩
        have m_28 : (-2147483648) ≤ (g 241 (zi_and l4 (zi_xor (zi_shl 1 l6) (-1)))) ∧ (g 241 (zi_and l4 (zi_xor (zi_shl 1 l6) (-1)))) ≤ 2147483647 := I 241 (zi_and l4 (zi_xor (zi_shl 1 l6) (-1)))
        have m_29 := zi_r_w (l5 + (g 241 (zi_and l4 (zi_xor (zi_shl 1 l6) (-1)))))
        intro y21 e_30
        exact k_M_waysWith_l73 q3 q4 hK118 hQ n I F ⟨by omega, by omega⟩ ⟨by omega, by omega⟩ (by omega)
set_option maxRecDepth 100000 in
set_option maxHeartbeats 400000 in
theorem k_M_waysWith_l62 {l3 : Int} {K133 : zi_M → Prop} {Q : Int → zi_M → Prop} {g0 : zi_M} (q3 : 0 ≤ l3 ∧ l3 ≤ 1023) (hK133 : ∀ (g : zi_M), zk_I g → zk_fr fr_M_waysWith g0 g → K133 g) (hQ : ∀ (v : Int) (g' : zi_M), zk_I g' → zk_fr fr_M_waysWith g0 g' → ((-2147483648) ≤ v ∧ v ≤ 2147483647) → Q v g') : ∀ (n : Nat) {l4 : Int} {g : zi_M}, zk_I g → zk_fr fr_M_waysWith g0 g → ((-1) ≤ l4 ∧ l4 ≤ 1023) → l4 - (-1) < (n : Int) → w_M_waysWith_l62 l3 K133 Q n l4 g
  | 0, l4, g, I, F, b0, hm => by exfalso; omega
  | n + 1, l4, g, I, F, b0, hm => by
    unfold w_M_waysWith_l62
    refine ⟨⟨by omega, by omega⟩, ?_⟩
    refine ⟨fun c29 => ?_, fun c29 => ?_⟩
    · exact hK133 _ I F
    · refine ⟨((10 - 0 : Int).toNat + 1), k_M_waysWith_l73 (l3 := l3) (l4 := l4) ⟨by omega, by omega⟩ ⟨by omega, by omega⟩ (fun k24 g25 I_31 F_32 b_33 => ?_) hQ ((10 - 0 : Int).toNat + 1) I F ⟨by omega, by omega⟩ ⟨by omega, by omega⟩ (by omega)⟩
      refine ⟨⟨by omega, by omega⟩, ?_⟩
      intro g27 e_34
      have I_35 : zk_I g27 := by rw [e_34]; exact zk_upd (L := (-2147483648)) (H := 2147483647) rfl rfl I_31 ⟨by omega, by omega⟩
      have F_36 : zk_fr fr_M_waysWith g0 g27 := by rw [e_34]; exact zk_fu F_32 rfl
      exact k_M_waysWith_l62 q3 hK133 hQ n I_35 F_36 ⟨by omega, by omega⟩ (by omega)
set_option maxRecDepth 100000 in
set_option maxHeartbeats 400000 in
theorem k_M_waysWith_l32 {l1 : Int} {K139 : zi_M → Prop} {Q : Int → zi_M → Prop} {g0 : zi_M} (q1 : (-1) ≤ l1) (hK139 : ∀ (g : zi_M), zk_I g → zk_fr fr_M_waysWith g0 g → K139 g) (hQ : ∀ (v : Int) (g' : zi_M), zk_I g' → zk_fr fr_M_waysWith g0 g' → ((-2147483648) ≤ v ∧ v ≤ 2147483647) → Q v g') : ∀ (n : Nat) {l2 : Int} {g : zi_M}, zk_I g → zk_fr fr_M_waysWith g0 g → (0 ≤ l2 ∧ l2 ≤ 8) → 8 - l2 < (n : Int) → w_M_waysWith_l32 l1 K139 Q n l2 g
  | 0, l2, g, I, F, b0, hm => by exfalso; omega
  | n + 1, l2, g, I, F, b0, hm => by
    unfold w_M_waysWith_l32
    refine ⟨⟨by omega, by omega⟩, ?_⟩
    refine ⟨fun c33 => ?_, fun c33 => ?_⟩
    · exact hK139 _ I F
    · refine ⟨⟨by omega, by omega⟩, ?_⟩
      have m_9 : 0 ≤ (g 239 l2) ∧ (g 239 l2) ≤ 1023 := I 239 l2
      refine ⟨⟨by omega, by omega⟩, ?_⟩
      refine ⟨fun c32 => ?_, fun c32 => ?_⟩
      · have m_13 : 0 ≤ (g 239 (l2)) ∧ (g 239 (l2)) ≤ 1023 := I 239 (l2)
        have m_14 := zi_tdiv_f (l1) 10
        have m_15 := zi_tdiv_c (l1) 10 (by decide)
        have m_16 := zi_tmod_f (l1) 10
        have m_17 := zi_tmod_c (l1) 10 (by decide)
        have m_18 := zi_shl_f (Int.tmod l1 10)
        have m_19 := zi_and_f (g 239 l2) (zi_shl 1 (Int.tmod l1 10))
        refine k_M_seatsOf I ⟨by omega, by omega⟩ (by omega) (fun v12 b_10 b_11 b_12 => ?_)
        refine ⟨((1023 - (-1) : Int).toNat + 1), k_M_waysWith_l62 (l3 := v12) ⟨by omega, by omega⟩ (fun g30 I_37 F_38 => ?_) hQ ((1023 - (-1) : Int).toNat + 1) I F ⟨by omega, by omega⟩ (by omega)⟩
        exact k_M_waysWith_l32 q1 hK139 hQ n I_37 F_38 ⟨by omega, by omega⟩ (by omega)
      · exact k_M_waysWith_l32 q1 hK139 hQ n I F ⟨by omega, by omega⟩ (by omega)
set_option maxRecDepth 100000 in
set_option maxHeartbeats 400000 in
theorem k_M_waysWith_l143 {K165 : Int → zi_M → Prop} {Q : Int → zi_M → Prop} {g0 : zi_M} (hK165 : ∀ (k2 : Int) (g : zi_M), zk_I g → zk_fr fr_M_waysWith g0 g → ((-2147483648) ≤ k2 ∧ k2 ≤ 2147483647) → K165 k2 g) (hQ : ∀ (v : Int) (g' : zi_M), zk_I g' → zk_fr fr_M_waysWith g0 g' → ((-2147483648) ≤ v ∧ v ≤ 2147483647) → Q v g') : ∀ (n : Nat) {l2 : Int} {l3 : Int} {g : zi_M}, zk_I g → zk_fr fr_M_waysWith g0 g → ((-2147483648) ≤ l2 ∧ l2 ≤ 2147483647) → (0 ≤ l3 ∧ l3 ≤ 1024) → 1024 - l3 < (n : Int) → w_M_waysWith_l143 K165 Q n l2 l3 g
  | 0, l2, l3, g, I, F, b0, b1, hm => by exfalso; omega
  | n + 1, l2, l3, g, I, F, b0, b1, hm => by
    unfold w_M_waysWith_l143
    refine ⟨⟨by omega, by omega⟩, ?_⟩
    refine ⟨fun c37 => ?_, fun c37 => ?_⟩
    · exact hK165 _ _ I F ⟨by omega, by omega⟩
    · refine ⟨⟨by omega, by omega⟩, ?_⟩
      have m_41 : (-2147483648) ≤ (g 241 l3) ∧ (g 241 l3) ≤ 2147483647 := I 241 l3
      have m_42 := zi_r_w (l2 + (g 241 l3))
      exact k_M_waysWith_l143 hK165 hQ n I F ⟨by omega, by omega⟩ ⟨by omega, by omega⟩ (by omega)
set_option maxRecDepth 100000 in
set_option maxHeartbeats 400000 in
theorem k_M_waysWith {l1 : Int} {g : zi_M} {Q : Int → zi_M → Prop} (I : zk_I g) (p1 : (-1) ≤ l1) (hQ : ∀ (v : Int) (g' : zi_M), zk_I g' → zk_fr fr_M_waysWith g g' → ((-2147483648) ≤ v ∧ v ≤ 2147483647) → Q v g') : w_M_waysWith l1 g Q := by
  unfold w_M_waysWith
  refine ⟨((1024 - 0 : Int).toNat + 1), k_M_waysWith_l2 (fun g8 I_7 F_8 => ?_) hQ ((1024 - 0 : Int).toNat + 1) I (zk_f0 _) ⟨by omega, by omega⟩ (by omega)⟩
  refine ⟨((8 - 0 : Int).toNat + 1), k_M_waysWith_l32 (l1 := l1) (by omega) (fun g34 I_39 F_40 => ?_) hQ ((8 - 0 : Int).toNat + 1) I_7 F_8 ⟨by omega, by omega⟩ (by omega)⟩
  refine ⟨((1024 - 0 : Int).toNat + 1), k_M_waysWith_l143 (fun k38 g39 I_43 F_44 b_45 => ?_) hQ ((1024 - 0 : Int).toNat + 1) I_39 F_40 ⟨by omega, by omega⟩ ⟨by omega, by omega⟩ (by omega)⟩
  exact hQ _ _ I_43 F_44 ⟨by omega, by omega⟩
