-- by program (wip/gen/mkz.py)
-- SpoutNews$Thought.wordsOf(II)I
set_option maxRecDepth 100000 in
set_option maxHeartbeats 400000 in
theorem k_Thought_wordsOf_l5 {g : zi_M} (I : zk_I g) {l1 : Int} {l2 : Int} {K37 : Int → zi_M → Prop} {Q : Int → zi_M → Prop} (q1 : 0 ≤ l1) (q2 : 0 ≤ l2 ∧ l2 ≤ 10) (hK37 : ∀ (k3 : Int), ((-2147483648) ≤ k3 ∧ k3 ≤ 2147483647) → K37 k3 g) (hQ : ∀ v : Int, ((-2147483648) ≤ v ∧ v ≤ 2147483647) → Q v g) : ∀ (n : Nat) {l3 : Int} {l4 : Int}, ((-2147483648) ≤ l3 ∧ l3 ≤ 2147483647) → (0 ≤ l4 ∧ l4 ≤ 10) → 10 - l4 < (n : Int) → w_Thought_wordsOf_l5 l1 l2 K37 Q n l3 l4 g
  | 0, l3, l4, b0, b1, hm => by exfalso; omega
  | n + 1, l3, l4, b0, b1, hm => by
    unfold w_Thought_wordsOf_l5
    refine ⟨⟨by omega, by omega⟩, ⟨by omega, by omega⟩, ?_⟩
    refine ⟨fun c5 => ?_, fun c5 => ?_⟩
    · exact hK37 _ ⟨by omega, by omega⟩
    · have m_1 := zi_shr_f l1 l4
      have m_2 := zi_and_f (zi_shr l1 l4) 1
      refine ⟨fun c4 => ?_, fun c4 => ?_⟩
      · exact k_Thought_wordsOf_l5 I q1 q2 hK37 hQ n ⟨by omega, by omega⟩ ⟨by omega, by omega⟩ (by omega)
      · refine ⟨⟨by omega, by omega⟩, ?_⟩
        have m_3 : (-2147483648) ≤ (g 185 l4) ∧ (g 185 l4) ≤ 2147483647 := I 185 l4
        have m_4 := zi_or_f l3 (g 185 l4)
        exact k_Thought_wordsOf_l5 I q1 q2 hK37 hQ n ⟨by omega, by omega⟩ ⟨by omega, by omega⟩ (by omega)
set_option maxRecDepth 100000 in
set_option maxHeartbeats 400000 in
theorem k_Thought_wordsOf {l1 : Int} {l2 : Int} {g : zi_M} {Q : Int → zi_M → Prop} (I : zk_I g) (p1 : 0 ≤ l1) (p2 : 0 ≤ l2 ∧ l2 ≤ 10) (hQ : ∀ v : Int, ((-2147483648) ≤ v ∧ v ≤ 2147483647) → Q v g) : w_Thought_wordsOf l1 l2 g Q := by
  unfold w_Thought_wordsOf
  refine ⟨((10 - 0).toNat + 1), k_Thought_wordsOf_l5 (l1 := l1) (l2 := l2) I (by omega) ⟨by omega, by omega⟩ (fun k6 b_5 => ?_) hQ ((10 - 0).toNat + 1) ⟨by omega, by omega⟩ ⟨by omega, by omega⟩ (by omega)⟩
  exact hQ _ ⟨by omega, by omega⟩
-- SpoutNews$Thought.fewestThatKnow(LSpoutNews$World;I)I
def fr_Thought_fewestThatKnow (a : Nat) (i : Int) : Prop := a = 185
set_option maxRecDepth 100000 in
set_option maxHeartbeats 400000 in
theorem k_Thought_fewestThatKnow_l2 {K27 : zi_M → Prop} {Q : Int → zi_M → Prop} {g0 : zi_M} (hK27 : ∀ (g : zi_M), zk_I g → zk_fr fr_Thought_fewestThatKnow g0 g → K27 g) (hQ : ∀ (v : Int) (g' : zi_M), zk_I g' → zk_fr fr_Thought_fewestThatKnow g0 g' → ((-1) ≤ v ∧ v ≤ 1023) → Q v g') : ∀ (n : Nat) {l3 : Int} {g : zi_M}, zk_I g → zk_fr fr_Thought_fewestThatKnow g0 g → (0 ≤ l3 ∧ l3 ≤ 10) → 10 - l3 < (n : Int) → w_Thought_fewestThatKnow_l2 K27 Q n l3 g
  | 0, l3, g, I, F, b0, hm => by exfalso; omega
  | n + 1, l3, g, I, F, b0, hm => by
    unfold w_Thought_fewestThatKnow_l2
    have m_1 : 0 ≤ (g 2 8) ∧ (g 2 8) ≤ 10 := I 2 8
    refine ⟨⟨by omega, by omega⟩, ⟨by omega, by omega⟩, ?_⟩
    refine ⟨fun c8 => ?_, fun c8 => ?_⟩
    · exact hK27 _ I F
    · refine k_World_heardSet rfl I ⟨by omega, by omega⟩ (fun v3 b_2 => ?_)
      refine ⟨⟨by omega, by omega⟩, ?_⟩
      intro g7 e_3
      have I_4 : zk_I g7 := by rw [e_3]; exact zk_upd (L := (-2147483648)) (H := 2147483647) rfl rfl I ⟨by omega, by omega⟩
      have F_5 : zk_fr fr_Thought_fewestThatKnow g0 g7 := by rw [e_3]; exact zk_fu F (by unfold fr_Thought_fewestThatKnow; omega)
      exact k_Thought_fewestThatKnow_l2 hK27 hQ n I_4 F_5 ⟨by omega, by omega⟩ (by omega)
set_option maxRecDepth 100000 in
set_option maxHeartbeats 400000 in
theorem k_Thought_fewestThatKnow_l36 {l2 : Int} {K91 : Int → zi_M → Prop} {Q : Int → zi_M → Prop} {g0 : zi_M} (q2 : (-2147483648) ≤ l2 ∧ l2 ≤ 2147483647) (hK91 : ∀ (k3 : Int) (g : zi_M), zk_I g → zk_fr fr_Thought_fewestThatKnow g0 g → ((-1) ≤ k3 ∧ k3 ≤ 1023) → K91 k3 g) (hQ : ∀ (v : Int) (g' : zi_M), zk_I g' → zk_fr fr_Thought_fewestThatKnow g0 g' → ((-1) ≤ v ∧ v ≤ 1023) → Q v g') : ∀ (n : Nat) {l3 : Int} {l4 : Int} {l5 : Int} {g : zi_M}, zk_I g → zk_fr fr_Thought_fewestThatKnow g0 g → ((-1) ≤ l3 ∧ l3 ≤ 1023) → (0 ≤ l4 ∧ l4 ≤ 11) → (0 ≤ l5 ∧ l5 ≤ 1024) → 1024 - l5 < (n : Int) → w_Thought_fewestThatKnow_l36 l2 K91 Q n l3 l4 l5 g
  | 0, l3, l4, l5, g, I, F, b0, b1, b2, hm => by exfalso; omega
  | n + 1, l3, l4, l5, g, I, F, b0, b1, b2, hm => by
    unfold w_Thought_fewestThatKnow_l36
    refine ⟨⟨by omega, by omega⟩, ?_⟩
    have m_8 : 0 ≤ (g 2 8) ∧ (g 2 8) ≤ 10 := I 2 8
    have m_9 := zi_shl_f (g 2 8)
    refine ⟨fun c21 => ?_, fun c21 => ?_⟩
    · exact hK91 _ _ I F ⟨by omega, by omega⟩
    · have m_11 := zi_ush_f (l5) 1
      have m_12 := zi_and_f (zi_ush l5 1) 1431655765
      have m_13 := zi_and_f (l5 - (zi_and (zi_ush l5 1) 1431655765)) 858993459
      have m_14 := zi_ush_f (l5 - (zi_and (zi_ush l5 1) 1431655765)) 2
      have m_15 := zi_and_f (zi_ush (l5 - (zi_and (zi_ush l5 1) 1431655765)) 2) 858993459
      have m_16 := zi_ush_f ((zi_and (l5 - (zi_and (zi_ush l5 1) 1431655765)) 858993459) + (zi_and (zi_ush (l5 - (zi_and (zi_ush l5 1) 1431655765)) 2) 858993459)) 4
      have m_17 := zi_and_f (((zi_and (l5 - (zi_and (zi_ush l5 1) 1431655765)) 858993459) + (zi_and (zi_ush (l5 - (zi_and (zi_ush l5 1) 1431655765)) 2) 858993459)) + (zi_ush ((zi_and (l5 - (zi_and (zi_ush l5 1) 1431655765)) 858993459) + (zi_and (zi_ush (l5 - (zi_and (zi_ush l5 1) 1431655765)) 2) 858993459)) 4)) 252645135
      have m_18 := zi_ush_f (zi_and (((zi_and (l5 - (zi_and (zi_ush l5 1) 1431655765)) 858993459) + (zi_and (zi_ush (l5 - (zi_and (zi_ush l5 1) 1431655765)) 2) 858993459)) + (zi_ush ((zi_and (l5 - (zi_and (zi_ush l5 1) 1431655765)) 858993459) + (zi_and (zi_ush (l5 - (zi_and (zi_ush l5 1) 1431655765)) 2) 858993459)) 4)) 252645135) 8
      have m_19 := zi_ush_f ((zi_and (((zi_and (l5 - (zi_and (zi_ush l5 1) 1431655765)) 858993459) + (zi_and (zi_ush (l5 - (zi_and (zi_ush l5 1) 1431655765)) 2) 858993459)) + (zi_ush ((zi_and (l5 - (zi_and (zi_ush l5 1) 1431655765)) 858993459) + (zi_and (zi_ush (l5 - (zi_and (zi_ush l5 1) 1431655765)) 2) 858993459)) 4)) 252645135) + (zi_ush (zi_and (((zi_and (l5 - (zi_and (zi_ush l5 1) 1431655765)) 858993459) + (zi_and (zi_ush (l5 - (zi_and (zi_ush l5 1) 1431655765)) 2) 858993459)) + (zi_ush ((zi_and (l5 - (zi_and (zi_ush l5 1) 1431655765)) 858993459) + (zi_and (zi_ush (l5 - (zi_and (zi_ush l5 1) 1431655765)) 2) 858993459)) 4)) 252645135) 8)) 16
      have m_20 := zi_and_f (((zi_and (((zi_and (l5 - (zi_and (zi_ush l5 1) 1431655765)) 858993459) + (zi_and (zi_ush (l5 - (zi_and (zi_ush l5 1) 1431655765)) 2) 858993459)) + (zi_ush ((zi_and (l5 - (zi_and (zi_ush l5 1) 1431655765)) 858993459) + (zi_and (zi_ush (l5 - (zi_and (zi_ush l5 1) 1431655765)) 2) 858993459)) 4)) 252645135) + (zi_ush (zi_and (((zi_and (l5 - (zi_and (zi_ush l5 1) 1431655765)) 858993459) + (zi_and (zi_ush (l5 - (zi_and (zi_ush l5 1) 1431655765)) 2) 858993459)) + (zi_ush ((zi_and (l5 - (zi_and (zi_ush l5 1) 1431655765)) 858993459) + (zi_and (zi_ush (l5 - (zi_and (zi_ush l5 1) 1431655765)) 2) 858993459)) 4)) 252645135) 8)) + (zi_ush ((zi_and (((zi_and (l5 - (zi_and (zi_ush l5 1) 1431655765)) 858993459) + (zi_and (zi_ush (l5 - (zi_and (zi_ush l5 1) 1431655765)) 2) 858993459)) + (zi_ush ((zi_and (l5 - (zi_and (zi_ush l5 1) 1431655765)) 858993459) + (zi_and (zi_ush (l5 - (zi_and (zi_ush l5 1) 1431655765)) 2) 858993459)) 4)) 252645135) + (zi_ush (zi_and (((zi_and (l5 - (zi_and (zi_ush l5 1) 1431655765)) 858993459) + (zi_and (zi_ush (l5 - (zi_and (zi_ush l5 1) 1431655765)) 2) 858993459)) + (zi_ush ((zi_and (l5 - (zi_and (zi_ush l5 1) 1431655765)) 858993459) + (zi_and (zi_ush (l5 - (zi_and (zi_ush l5 1) 1431655765)) 2) 858993459)) 4)) 252645135) 8)) 16)) 63
      refine k_Integer_bitCount I ⟨by omega, by omega⟩ (fun v11 b_10 => ?_)
      refine ⟨⟨by omega, by omega⟩, ⟨by omega, by omega⟩, ?_⟩
      refine ⟨fun c20 => ?_, fun c20 => ?_⟩
      · exact k_Thought_fewestThatKnow_l36 q2 hK91 hQ n I F ⟨by omega, by omega⟩ ⟨by omega, by omega⟩ ⟨by omega, by omega⟩ (by omega)
      · refine k_Thought_wordsOf I (by omega) ⟨by omega, by omega⟩ (fun v16 b_21 => ?_)
        have m_22 := zi_xor_f v16 (-1)
        have m_23 := zi_and_f l2 (zi_xor v16 (-1))
        refine ⟨fun c19 => ?_, fun c19 => ?_⟩
        · exact k_Thought_fewestThatKnow_l36 q2 hK91 hQ n I F ⟨by omega, by omega⟩ ⟨by omega, by omega⟩ ⟨by omega, by omega⟩ (by omega)
        · exact k_Thought_fewestThatKnow_l36 q2 hK91 hQ n I F ⟨by omega, by omega⟩ ⟨by omega, by omega⟩ ⟨by omega, by omega⟩ (by omega)
set_option maxRecDepth 100000 in
set_option maxHeartbeats 400000 in
theorem k_Thought_fewestThatKnow {l2 : Int} {g : zi_M} {Q : Int → zi_M → Prop} (I : zk_I g) (p2 : (-2147483648) ≤ l2 ∧ l2 ≤ 2147483647) (hQ : ∀ (v : Int) (g' : zi_M), zk_I g' → zk_fr fr_Thought_fewestThatKnow g g' → ((-1) ≤ v ∧ v ≤ 1023) → Q v g') : w_Thought_fewestThatKnow l2 g Q := by
  unfold w_Thought_fewestThatKnow
  refine ⟨((10 - 0).toNat + 1), k_Thought_fewestThatKnow_l2 (fun g9 I_6 F_7 => ?_) hQ ((10 - 0).toNat + 1) I (zk_f0 _) ⟨by omega, by omega⟩ (by omega)⟩
  refine ⟨((1024 - 0).toNat + 1), k_Thought_fewestThatKnow_l36 (l2 := l2) ⟨by omega, by omega⟩ (fun k22 g23 I_24 F_25 b_26 => ?_) hQ ((1024 - 0).toNat + 1) I_6 F_7 ⟨by omega, by omega⟩ ⟨by omega, by omega⟩ ⟨by omega, by omega⟩ (by omega)⟩
  exact hQ _ _ I_24 F_25 ⟨by omega, by omega⟩
-- SpoutNews.known(II)I
def fr_S_known (a : Nat) (i : Int) : Prop := a = 185
set_option maxRecDepth 100000 in
set_option maxHeartbeats 400000 in
theorem k_S_known_b18 {l1 : Int} {l2 : Int} {Q : Int → zi_M → Prop} {g : zi_M} {g0 : zi_M} (I : zk_I g) (F : zk_fr fr_S_known g0 g) (p1 : (-2147483648) ≤ l1 ∧ l1 ≤ 2147483647) (p2 : 0 ≤ l2 ∧ l2 ≤ 1) (hQ : ∀ (v : Int) (g' : zi_M), zk_I g' → zk_fr fr_S_known g0 g' → ((-1) ≤ v ∧ v ≤ 1023) → Q v g') : w_S_known_b18 l1 l2 g Q := by
  unfold w_S_known_b18
  refine k_Thought_fewestThatKnow I ⟨by omega, by omega⟩ (fun v5 g6 I_5 F_6 b_4 => ?_)
  have F_7 : zk_fr fr_S_known g0 g6 := zk_ft F F_6 (by intro a i h; unfold fr_Thought_fewestThatKnow at h; unfold fr_S_known; omega)
  refine ⟨⟨by omega, by omega⟩, ?_⟩
  refine ⟨fun c14 => ?_, fun c14 => ?_⟩
  · exact hQ _ _ I_5 F_7 ⟨by omega, by omega⟩
  · refine ⟨⟨by omega, by omega⟩, ?_⟩
    refine ⟨fun c13 => ?_, fun c13 => ?_⟩
    · exact hQ _ _ I_5 F_7 ⟨by omega, by omega⟩
    · have m_9 := zi_ush_f (v5) 1
      have m_10 := zi_and_f (zi_ush v5 1) 1431655765
      have m_11 := zi_and_f (v5 - (zi_and (zi_ush v5 1) 1431655765)) 858993459
      have m_12 := zi_ush_f (v5 - (zi_and (zi_ush v5 1) 1431655765)) 2
      have m_13 := zi_and_f (zi_ush (v5 - (zi_and (zi_ush v5 1) 1431655765)) 2) 858993459
      have m_14 := zi_ush_f ((zi_and (v5 - (zi_and (zi_ush v5 1) 1431655765)) 858993459) + (zi_and (zi_ush (v5 - (zi_and (zi_ush v5 1) 1431655765)) 2) 858993459)) 4
      have m_15 := zi_and_f (((zi_and (v5 - (zi_and (zi_ush v5 1) 1431655765)) 858993459) + (zi_and (zi_ush (v5 - (zi_and (zi_ush v5 1) 1431655765)) 2) 858993459)) + (zi_ush ((zi_and (v5 - (zi_and (zi_ush v5 1) 1431655765)) 858993459) + (zi_and (zi_ush (v5 - (zi_and (zi_ush v5 1) 1431655765)) 2) 858993459)) 4)) 252645135
      have m_16 := zi_ush_f (zi_and (((zi_and (v5 - (zi_and (zi_ush v5 1) 1431655765)) 858993459) + (zi_and (zi_ush (v5 - (zi_and (zi_ush v5 1) 1431655765)) 2) 858993459)) + (zi_ush ((zi_and (v5 - (zi_and (zi_ush v5 1) 1431655765)) 858993459) + (zi_and (zi_ush (v5 - (zi_and (zi_ush v5 1) 1431655765)) 2) 858993459)) 4)) 252645135) 8
      have m_17 := zi_ush_f ((zi_and (((zi_and (v5 - (zi_and (zi_ush v5 1) 1431655765)) 858993459) + (zi_and (zi_ush (v5 - (zi_and (zi_ush v5 1) 1431655765)) 2) 858993459)) + (zi_ush ((zi_and (v5 - (zi_and (zi_ush v5 1) 1431655765)) 858993459) + (zi_and (zi_ush (v5 - (zi_and (zi_ush v5 1) 1431655765)) 2) 858993459)) 4)) 252645135) + (zi_ush (zi_and (((zi_and (v5 - (zi_and (zi_ush v5 1) 1431655765)) 858993459) + (zi_and (zi_ush (v5 - (zi_and (zi_ush v5 1) 1431655765)) 2) 858993459)) + (zi_ush ((zi_and (v5 - (zi_and (zi_ush v5 1) 1431655765)) 858993459) + (zi_and (zi_ush (v5 - (zi_and (zi_ush v5 1) 1431655765)) 2) 858993459)) 4)) 252645135) 8)) 16
      have m_18 := zi_and_f (((zi_and (((zi_and (v5 - (zi_and (zi_ush v5 1) 1431655765)) 858993459) + (zi_and (zi_ush (v5 - (zi_and (zi_ush v5 1) 1431655765)) 2) 858993459)) + (zi_ush ((zi_and (v5 - (zi_and (zi_ush v5 1) 1431655765)) 858993459) + (zi_and (zi_ush (v5 - (zi_and (zi_ush v5 1) 1431655765)) 2) 858993459)) 4)) 252645135) + (zi_ush (zi_and (((zi_and (v5 - (zi_and (zi_ush v5 1) 1431655765)) 858993459) + (zi_and (zi_ush (v5 - (zi_and (zi_ush v5 1) 1431655765)) 2) 858993459)) + (zi_ush ((zi_and (v5 - (zi_and (zi_ush v5 1) 1431655765)) 858993459) + (zi_and (zi_ush (v5 - (zi_and (zi_ush v5 1) 1431655765)) 2) 858993459)) 4)) 252645135) 8)) + (zi_ush ((zi_and (((zi_and (v5 - (zi_and (zi_ush v5 1) 1431655765)) 858993459) + (zi_and (zi_ush (v5 - (zi_and (zi_ush v5 1) 1431655765)) 2) 858993459)) + (zi_ush ((zi_and (v5 - (zi_and (zi_ush v5 1) 1431655765)) 858993459) + (zi_and (zi_ush (v5 - (zi_and (zi_ush v5 1) 1431655765)) 2) 858993459)) 4)) 252645135) + (zi_ush (zi_and (((zi_and (v5 - (zi_and (zi_ush v5 1) 1431655765)) 858993459) + (zi_and (zi_ush (v5 - (zi_and (zi_ush v5 1) 1431655765)) 2) 858993459)) + (zi_ush ((zi_and (v5 - (zi_and (zi_ush v5 1) 1431655765)) 858993459) + (zi_and (zi_ush (v5 - (zi_and (zi_ush v5 1) 1431655765)) 2) 858993459)) 4)) 252645135) 8)) 16)) 63
      refine k_Integer_bitCount I_5 ⟨by omega, by omega⟩ (fun v10 b_8 => ?_)
      exact hQ _ _ I_5 F_7 ⟨by omega, by omega⟩
set_option maxRecDepth 100000 in
set_option maxHeartbeats 400000 in
theorem k_S_known {l1 : Int} {l2 : Int} {g : zi_M} {Q : Int → zi_M → Prop} (I : zk_I g) (p1 : (-2147483648) ≤ l1 ∧ l1 ≤ 2147483647) (p2 : (-2147483648) ≤ l2 ∧ l2 ≤ 2147483647) (hQ : ∀ (v : Int) (g' : zi_M), zk_I g' → zk_fr fr_S_known g g' → ((-1) ≤ v ∧ v ≤ 1023) → Q v g') : w_S_known l1 l2 g Q := by
  unfold w_S_known
  refine k_S_isWordSet I ⟨by omega, by omega⟩ (fun v1 b_1 b_2 b_3 => ?_)
  refine ⟨fun c17 => ?_, fun c17 => ?_⟩
  · exact hQ _ _ I (zk_f0 _) ⟨by omega, by omega⟩
  · refine ⟨⟨by omega, by omega⟩, ?_⟩
    refine ⟨fun c16 => ?_, fun c16 => ?_⟩
    · exact k_S_known_b18 I (zk_f0 _) ⟨by omega, by omega⟩ ⟨by omega, by omega⟩ hQ
    · refine ⟨fun c15 => ?_, fun c15 => ?_⟩
      · exact k_S_known_b18 I (zk_f0 _) ⟨by omega, by omega⟩ ⟨by omega, by omega⟩ hQ
      · exact hQ _ _ I (zk_f0 _) ⟨by omega, by omega⟩
-- SpoutNewsModel.known(II)I
def fr_M_known (a : Nat) (i : Int) : Prop := (a = 214 ∧ i = 0)
set_option maxRecDepth 100000 in
set_option maxHeartbeats 400000 in
theorem k_M_known_l50 {l4 : Int} {K87 : Int → zi_M → Prop} {Q : Int → zi_M → Prop} {g0 : zi_M} (q4 : 0 ≤ l4 ∧ l4 ≤ 1023) (hK87 : ∀ (k5 : Int) (g : zi_M), zk_I g → zk_fr fr_M_known g0 g → (0 ≤ k5 ∧ k5 ≤ 65535) → K87 k5 g) (hQ : ∀ (v : Int) (g' : zi_M), zk_I g' → zk_fr fr_M_known g0 g' → ((-1) ≤ v) → Q v g') : ∀ (n : Nat) {l5 : Int} {l6 : Int} {g : zi_M}, zk_I g → zk_fr fr_M_known g0 g → (0 ≤ l5 ∧ l5 ≤ 65535) → (0 ≤ l6 ∧ l6 ≤ 10) → 10 - l6 < (n : Int) → w_M_known_l50 l4 K87 Q n l5 l6 g
  | 0, l5, l6, g, I, F, b0, b1, hm => by exfalso; omega
  | n + 1, l5, l6, g, I, F, b0, b1, hm => by
    unfold w_M_known_l50
    have m_12 : 0 ≤ (g 214 6) ∧ (g 214 6) ≤ 10 := I 214 6
    refine ⟨⟨by omega, by omega⟩, ⟨by omega, by omega⟩, ?_⟩
    refine ⟨fun c18 => ?_, fun c18 => ?_⟩
    · exact hK87 _ _ I F ⟨by omega, by omega⟩
    · have m_15 := zi_shr_f (l4) (l6)
      have m_16 := zi_and_f (zi_shr l4 l6) 1
      refine k_M_has I ⟨by omega, by omega⟩ ⟨by omega, by omega⟩ (fun v11 b_13 b_14 => ?_)
      refine ⟨fun c17 => ?_, fun c17 => ?_⟩
      · exact k_M_known_l50 q4 hK87 hQ n I F ⟨by omega, by omega⟩ ⟨by omega, by omega⟩ (by omega)
      · refine k_M_heardSet I ⟨by omega, by omega⟩ (fun v14 b_17 => ?_)
        have m_18 := zi_or_f l5 v14
        exact k_M_known_l50 q4 hK87 hQ n I F ⟨by omega, by omega⟩ ⟨by omega, by omega⟩ (by omega)
set_option maxRecDepth 100000 in
set_option maxHeartbeats 400000 in
theorem k_M_known_l33 {l1 : Int} {K124 : Int → zi_M → Prop} {Q : Int → zi_M → Prop} {g0 : zi_M} (q1 : (-2147483648) ≤ l1 ∧ l1 ≤ 2147483647) (hK124 : ∀ (k3 : Int) (g : zi_M), zk_I g → zk_fr fr_M_known g0 g → ((-1) ≤ k3 ∧ k3 ≤ 1023) → K124 k3 g) (hQ : ∀ (v : Int) (g' : zi_M), zk_I g' → zk_fr fr_M_known g0 g' → ((-1) ≤ v) → Q v g') : ∀ (n : Nat) {l3 : Int} {l4 : Int} {g : zi_M}, zk_I g → zk_fr fr_M_known g0 g → ((-1) ≤ l3 ∧ l3 ≤ 1023) → (0 ≤ l4 ∧ l4 ≤ 1024) → 1024 - l4 < (n : Int) → w_M_known_l33 l1 K124 Q n l3 l4 g
  | 0, l3, l4, g, I, F, b0, b1, hm => by exfalso; omega
  | n + 1, l3, l4, g, I, F, b0, b1, hm => by
    unfold w_M_known_l33
    refine ⟨⟨by omega, by omega⟩, ?_⟩
    have m_10 : 0 ≤ (g 214 6) ∧ (g 214 6) ≤ 10 := I 214 6
    have m_11 := zi_shl_f (g 214 6)
    refine ⟨fun c34 => ?_, fun c34 => ?_⟩
    · exact hK124 _ _ I F ⟨by omega, by omega⟩
    · refine ⟨((10 - 0).toNat + 1), k_M_known_l50 (l4 := l4) ⟨by omega, by omega⟩ (fun k19 g20 I_19 F_20 b_21 => ?_) hQ ((10 - 0).toNat + 1) I F ⟨by omega, by omega⟩ ⟨by omega, by omega⟩ (by omega)⟩
      have m_22 := zi_xor_f k19 (-1)
      have m_23 := zi_and_f l1 (zi_xor k19 (-1))
      refine ⟨fun c32 => ?_, fun c32 => ?_⟩
      · exact k_M_known_l33 q1 hK124 hQ n I_19 F_20 ⟨by omega, by omega⟩ ⟨by omega, by omega⟩ (by omega)
      · refine ⟨⟨by omega, by omega⟩, ?_⟩
        refine ⟨fun c31 => ?_, fun c31 => ?_⟩
        · exact k_M_known_l33 q1 hK124 hQ n I_19 F_20 ⟨by omega, by omega⟩ ⟨by omega, by omega⟩ (by omega)
        · refine k_M_onesOf I_19 ⟨by omega, by omega⟩ (fun v22 b_24 => ?_)
          refine k_M_onesOf I_19 ⟨by omega, by omega⟩ (fun v25 b_25 => ?_)
          refine ⟨⟨by omega, by omega⟩, ⟨by omega, by omega⟩, ?_⟩
          refine ⟨fun c30 => ?_, fun c30 => ?_⟩
          · exact k_M_known_l33 q1 hK124 hQ n I_19 F_20 ⟨by omega, by omega⟩ ⟨by omega, by omega⟩ (by omega)
          · exact k_M_known_l33 q1 hK124 hQ n I_19 F_20 ⟨by omega, by omega⟩ ⟨by omega, by omega⟩ (by omega)
set_option maxRecDepth 100000 in
set_option maxHeartbeats 400000 in
theorem k_M_known {l1 : Int} {l2 : Int} {g : zi_M} {Q : Int → zi_M → Prop} (I : zk_I g) (p1 : (-2147483648) ≤ l1 ∧ l1 ≤ 2147483647) (p2 : (-2147483648) ≤ l2 ∧ l2 ≤ 2147483647) (hQ : ∀ (v : Int) (g' : zi_M), zk_I g' → zk_fr fr_M_known g g' → ((-1) ≤ v) → Q v g') : w_M_known l1 l2 g Q := by
  unfold w_M_known
  intro g1 e_1
  have I_2 : zk_I g1 := by rw [e_1]; exact zk_upd (L := (-2147483648)) (H := 2147483647) rfl rfl I ⟨by omega, by omega⟩
  have F_3 : zk_fr fr_M_known g g1 := by rw [e_1]; exact zk_fu (zk_f0 _) (by unfold fr_M_known; omega)
  refine k_M_isIn I_2 ⟨by omega, by omega⟩ ⟨by omega, by omega⟩ ⟨by omega, by omega⟩ (fun v2 b_4 b_5 b_6 => ?_)
  refine ⟨fun c46 => ?_, fun c46 => ?_⟩
  · exact hQ _ _ I_2 F_3 (by omega)
  · refine k_M_isIn I_2 ⟨by omega, by omega⟩ ⟨by omega, by omega⟩ ⟨by omega, by omega⟩ (fun v5 b_7 b_8 b_9 => ?_)
    refine ⟨fun c45 => ?_, fun c45 => ?_⟩
    · refine ⟨((1024 - 0).toNat + 1), k_M_known_l33 (l1 := l1) ⟨by omega, by omega⟩ (fun k35 g36 I_26 F_27 b_28 => ?_) hQ ((1024 - 0).toNat + 1) I_2 F_3 ⟨by omega, by omega⟩ ⟨by omega, by omega⟩ (by omega)⟩
      refine ⟨⟨by omega, by omega⟩, ?_⟩
      refine ⟨fun c43 => ?_, fun c43 => ?_⟩
      · exact hQ _ _ I_26 F_27 (by omega)
      · refine ⟨⟨by omega, by omega⟩, ?_⟩
        refine ⟨fun c42 => ?_, fun c42 => ?_⟩
        · refine k_M_onesOf I_26 ⟨by omega, by omega⟩ (fun v39 b_29 => ?_)
          exact hQ _ _ I_26 F_27 (by omega)
        · exact hQ _ _ I_26 F_27 (by omega)
    · exact hQ _ _ I_2 F_3 (by omega)
-- SpoutNews.latin(II)Z
def fr_S_latin (a : Nat) (i : Int) : Prop := a = 41
set_option maxRecDepth 100000 in
set_option maxHeartbeats 400000 in
theorem k_S_latin {l1 : Int} {l2 : Int} {g : zi_M} {Q : Int → zi_M → Prop} (I : zk_I g) (p1 : (-2147483648) ≤ l1 ∧ l1 ≤ 2147483647) (p2 : (-2147483648) ≤ l2 ∧ l2 ≤ 2147483647) (hQ : ∀ (v : Int) (g' : zi_M), zk_I g' → zk_fr fr_S_latin g g' → (0 ≤ v ∧ v ≤ 1) → Q v g') : w_S_latin l1 l2 g Q := by
  unfold w_S_latin
  refine k_S_isWord I ⟨by omega, by omega⟩ (fun v1 b_1 b_2 b_3 => ?_)
  refine ⟨fun c10 => ?_, fun c10 => ?_⟩
  · exact hQ _ _ I (zk_f0 _) ⟨by omega, by omega⟩
  · refine k_S_isWord I ⟨by omega, by omega⟩ (fun v4 b_4 b_5 b_6 => ?_)
    refine ⟨fun c9 => ?_, fun c9 => ?_⟩
    · refine ⟨⟨by omega, by omega⟩, ?_⟩
      intro g8 e_7
      have I_8 : zk_I g8 := by rw [e_7]; exact zk_upd (L := 0) (H := 15) rfl rfl I ⟨by omega, by omega⟩
      have F_9 : zk_fr fr_S_latin g g8 := by rw [e_7]; exact zk_fu (zk_f0 _) (by unfold fr_S_latin; omega)
      exact hQ _ _ I_8 F_9 ⟨by omega, by omega⟩
    · exact hQ _ _ I (zk_f0 _) ⟨by omega, by omega⟩
-- SpoutNewsModel.latin(II)Z
def fr_M_latin (a : Nat) (i : Int) : Prop := a = 243 ∨ (a = 214 ∧ i = 0)
set_option maxRecDepth 100000 in
set_option maxHeartbeats 400000 in
theorem k_M_latin {l1 : Int} {l2 : Int} {g : zi_M} {Q : Int → zi_M → Prop} (I : zk_I g) (p1 : (-2147483648) ≤ l1 ∧ l1 ≤ 2147483647) (p2 : (-2147483648) ≤ l2 ∧ l2 ≤ 2147483647) (hQ : ∀ (v : Int) (g' : zi_M), zk_I g' → zk_fr fr_M_latin g g' → (0 ≤ v ∧ v ≤ 1) → Q v g') : w_M_latin l1 l2 g Q := by
  unfold w_M_latin
  intro g1 e_1
  have I_2 : zk_I g1 := by rw [e_1]; exact zk_upd (L := (-2147483648)) (H := 2147483647) rfl rfl I ⟨by omega, by omega⟩
  have F_3 : zk_fr fr_M_latin g g1 := by rw [e_1]; exact zk_fu (zk_f0 _) (by unfold fr_M_latin; omega)
  refine k_M_isIn I_2 ⟨by omega, by omega⟩ ⟨by omega, by omega⟩ ⟨by omega, by omega⟩ (fun v2 b_4 b_5 b_6 => ?_)
  refine ⟨fun c11 => ?_, fun c11 => ?_⟩
  · exact hQ _ _ I_2 F_3 ⟨by omega, by omega⟩
  · refine k_M_isIn I_2 ⟨by omega, by omega⟩ ⟨by omega, by omega⟩ ⟨by omega, by omega⟩ (fun v5 b_7 b_8 b_9 => ?_)
    refine ⟨fun c10 => ?_, fun c10 => ?_⟩
    · refine ⟨⟨by omega, by omega⟩, ?_⟩
      intro g9 e_10
      have I_11 : zk_I g9 := by rw [e_10]; exact zk_upd (zk_ll (i := l1) (by omega)).1 (zk_ll (i := l1) (by omega)).2 I_2 ⟨by omega, by omega⟩
      have F_12 : zk_fr fr_M_latin g g9 := by rw [e_10]; exact zk_fu F_3 (by unfold fr_M_latin; omega)
      exact hQ _ _ I_11 F_12 ⟨by omega, by omega⟩
    · exact hQ _ _ I_2 F_3 ⟨by omega, by omega⟩
-- SpoutNews$Thought.stepsAgain(LSpoutNews$Told;I)I
set_option maxRecDepth 100000 in
set_option maxHeartbeats 400000 in
theorem k_Thought_stepsAgain_l10 {g : zi_M} (I : zk_I g) {K36 : Int → zi_M → Prop} {K52 : zi_M → Prop} {Q : Int → zi_M → Prop} (hK36 : ∀ (k5 : Int), (1 ≤ k5 ∧ k5 ≤ 16) → K36 k5 g) (hK52 : K52 g) (hQ : ∀ v : Int, ((-1) ≤ v ∧ v ≤ 16) → Q v g) : ∀ (n : Nat) {l3 : Int} {l4 : Int} {l5 : Int}, (0 ≤ l3 ∧ l3 ≤ 65535) → (0 ≤ l4 ∧ l4 ≤ 15) → (1 ≤ l5 ∧ l5 ≤ 17) → 17 - l5 < (n : Int) → w_Thought_stepsAgain_l10 K36 K52 Q n l3 l4 l5 g
  | 0, l3, l4, l5, b0, b1, b2, hm => by exfalso; omega
  | n + 1, l3, l4, l5, b0, b1, b2, hm => by
    unfold w_Thought_stepsAgain_l10
    refine ⟨⟨by omega, by omega⟩, ?_⟩
    refine ⟨fun c4 => ?_, fun c4 => ?_⟩
    · exact hK52
    · refine ⟨⟨by omega, by omega⟩, ?_⟩
      have m_1 : 0 ≤ (g 41 l4) ∧ (g 41 l4) ≤ 15 := I 41 l4
      have m_2 := zi_shr_f l3 (g 41 l4)
      have m_3 := zi_and_f (zi_shr l3 (g 41 l4)) 1
      refine ⟨fun c3 => ?_, fun c3 => ?_⟩
      · have m_4 := zi_shl_f (g 41 l4)
        have m_5 := zi_or_f l3 (zi_shl 1 (g 41 l4))
        exact k_Thought_stepsAgain_l10 I hK36 hK52 hQ n ⟨by omega, by omega⟩ ⟨by omega, by omega⟩ ⟨by omega, by omega⟩ (by omega)
      · exact hK36 _ ⟨by omega, by omega⟩
set_option maxRecDepth 100000 in
set_option maxHeartbeats 400000 in
theorem k_Thought_stepsAgain {l2 : Int} {g : zi_M} {Q : Int → zi_M → Prop} (I : zk_I g) (p2 : 0 ≤ l2 ∧ l2 ≤ 15) (hQ : ∀ v : Int, ((-1) ≤ v ∧ v ≤ 16) → Q v g) : w_Thought_stepsAgain l2 g Q := by
  unfold w_Thought_stepsAgain
  have m_7 := zi_shl_f l2
  refine ⟨((17 - 1).toNat + 1), k_Thought_stepsAgain_l10 I (fun k5 b_6 => ?_) (?_) hQ ((17 - 1).toNat + 1) ⟨by omega, by omega⟩ ⟨by omega, by omega⟩ ⟨by omega, by omega⟩ (by omega)⟩
  · exact hQ _ ⟨by omega, by omega⟩
  · exact hQ _ ⟨by omega, by omega⟩
-- SpoutNews$Thought.commonMultiple(II)I
set_option maxRecDepth 100000 in
set_option maxHeartbeats 400000 in
theorem k_Thought_commonMultiple_l2 {g : zi_M} (I : zk_I g) {l0 : Int} {l1 : Int} {K15 : Int → zi_M → Prop} {K25 : zi_M → Prop} {Q : Int → zi_M → Prop} (q0 : (-2147483648) ≤ l0 ∧ l0 ≤ 2147483647) (q1 : (-1) ≤ l1 ∧ l1 ≤ 16) (hK15 : ∀ (k2 : Int), (1 ≤ k2 ∧ k2 ≤ 16) → K15 k2 g) (hK25 : K25 g) (hQ : ∀ v : Int, ((-2147483648) ≤ v ∧ v ≤ 2147483647) → Q v g) : ∀ (n : Nat) {l2 : Int}, (1 ≤ l2 ∧ l2 ≤ 17) → 17 - l2 < (n : Int) → w_Thought_commonMultiple_l2 l0 l1 K15 K25 Q n l2 g
  | 0, l2, b0, hm => by exfalso; omega
  | n + 1, l2, b0, hm => by
    unfold w_Thought_commonMultiple_l2
    refine ⟨⟨by omega, by omega⟩, ⟨by omega, by omega⟩, ?_⟩
    refine ⟨fun c6 => ?_, fun c6 => ?_⟩
    · exact hK25
    · refine ⟨(by omega), ?_⟩
      have m_1 := zi_r_w (l0 * l2)
      have m_2 := zi_tmod_f (zi_w (l0 * l2)) l1
      refine ⟨⟨by omega, by omega⟩, ?_⟩
      refine ⟨fun c5 => ?_, fun c5 => ?_⟩
      · exact k_Thought_commonMultiple_l2 I q0 q1 hK15 hK25 hQ n ⟨by omega, by omega⟩ (by omega)
      · exact hK15 _ ⟨by omega, by omega⟩
set_option maxRecDepth 100000 in
set_option maxHeartbeats 400000 in
theorem k_Thought_commonMultiple {l0 : Int} {l1 : Int} {g : zi_M} {Q : Int → zi_M → Prop} (I : zk_I g) (p0 : (-2147483648) ≤ l0 ∧ l0 ≤ 2147483647) (p1 : (-1) ≤ l1 ∧ l1 ≤ 16) (hQ : ∀ v : Int, ((-2147483648) ≤ v ∧ v ≤ 2147483647) → Q v g) : w_Thought_commonMultiple l0 l1 g Q := by
  unfold w_Thought_commonMultiple
  refine ⟨((17 - 1).toNat + 1), k_Thought_commonMultiple_l2 (l0 := l0) (l1 := l1) I ⟨by omega, by omega⟩ ⟨by omega, by omega⟩ (fun k7 b_3 => ?_) (?_) hQ ((17 - 1).toNat + 1) ⟨by omega, by omega⟩ (by omega)⟩
  · have m_4 := zi_r_w (l0 * k7)
    exact hQ _ ⟨by omega, by omega⟩
  · exact hQ _ ⟨by omega, by omega⟩
-- SpoutNews$Thought.allAgain(LSpoutNews$Told;)I
set_option maxRecDepth 100000 in
set_option maxHeartbeats 400000 in
theorem k_Thought_allAgain_l4 {g : zi_M} (I : zk_I g) {K27 : Int → zi_M → Prop} {Q : Int → zi_M → Prop} (hK27 : ∀ (k2 : Int), (0 ≤ k2 ∧ k2 ≤ 65535) → K27 k2 g) (hQ : ∀ v : Int, ((-2147483648) ≤ v ∧ v ≤ 2147483647) → Q v g) : ∀ (n : Nat) {l2 : Int} {l3 : Int}, (0 ≤ l2 ∧ l2 ≤ 65535) → (0 ≤ l3 ∧ l3 ≤ 16) → 16 - l3 < (n : Int) → w_Thought_allAgain_l4 K27 Q n l2 l3 g
  | 0, l2, l3, b0, b1, hm => by exfalso; omega
  | n + 1, l2, l3, b0, b1, hm => by
    unfold w_Thought_allAgain_l4
    refine ⟨⟨by omega, by omega⟩, ?_⟩
    refine ⟨fun c3 => ?_, fun c3 => ?_⟩
    · exact hK27 _ ⟨by omega, by omega⟩
    · refine ⟨⟨by omega, by omega⟩, ?_⟩
      have m_1 : 0 ≤ (g 41 l3) ∧ (g 41 l3) ≤ 15 := I 41 l3
      have m_2 := zi_shl_f (g 41 l3)
      have m_3 := zi_or_f l2 (zi_shl 1 (g 41 l3))
      exact k_Thought_allAgain_l4 I hK27 hQ n ⟨by omega, by omega⟩ ⟨by omega, by omega⟩ (by omega)
set_option maxRecDepth 100000 in
set_option maxHeartbeats 400000 in
theorem k_Thought_allAgain_l43 {g : zi_M} (I : zk_I g) {K68 : Int → zi_M → Prop} {Q : Int → zi_M → Prop} (hK68 : ∀ (k3 : Int), ((-2147483648) ≤ k3 ∧ k3 ≤ 2147483647) → K68 k3 g) (hQ : ∀ v : Int, ((-2147483648) ≤ v ∧ v ≤ 2147483647) → Q v g) : ∀ (n : Nat) {l3 : Int} {l4 : Int}, ((-2147483648) ≤ l3 ∧ l3 ≤ 2147483647) → (0 ≤ l4 ∧ l4 ≤ 16) → 16 - l4 < (n : Int) → w_Thought_allAgain_l43 K68 Q n l3 l4 g
  | 0, l3, l4, b0, b1, hm => by exfalso; omega
  | n + 1, l3, l4, b0, b1, hm => by
    unfold w_Thought_allAgain_l43
    refine ⟨⟨by omega, by omega⟩, ?_⟩
    refine ⟨fun c17 => ?_, fun c17 => ?_⟩
    · exact hK68 _ ⟨by omega, by omega⟩
    · refine k_Thought_stepsAgain I ⟨by omega, by omega⟩ (fun v11 b_16 => ?_)
      refine k_Thought_commonMultiple I ⟨by omega, by omega⟩ ⟨by omega, by omega⟩ (fun v14 b_17 => ?_)
      exact k_Thought_allAgain_l43 I hK68 hQ n ⟨by omega, by omega⟩ ⟨by omega, by omega⟩ (by omega)
set_option maxRecDepth 100000 in
set_option maxHeartbeats 400000 in
theorem k_Thought_allAgain {g : zi_M} {Q : Int → zi_M → Prop} (I : zk_I g) (hQ : ∀ v : Int, ((-2147483648) ≤ v ∧ v ≤ 2147483647) → Q v g) : w_Thought_allAgain g Q := by
  unfold w_Thought_allAgain
  refine ⟨((16 - 0).toNat + 1), k_Thought_allAgain_l4 I (fun k4 b_4 => ?_) hQ ((16 - 0).toNat + 1) ⟨by omega, by omega⟩ ⟨by omega, by omega⟩ (by omega)⟩
  have m_6 := zi_ush_f (k4) 1
  have m_7 := zi_and_f (zi_ush k4 1) 1431655765
  have m_8 := zi_and_f (k4 - (zi_and (zi_ush k4 1) 1431655765)) 858993459
  have m_9 := zi_ush_f (k4 - (zi_and (zi_ush k4 1) 1431655765)) 2
  have m_10 := zi_and_f (zi_ush (k4 - (zi_and (zi_ush k4 1) 1431655765)) 2) 858993459
  have m_11 := zi_ush_f ((zi_and (k4 - (zi_and (zi_ush k4 1) 1431655765)) 858993459) + (zi_and (zi_ush (k4 - (zi_and (zi_ush k4 1) 1431655765)) 2) 858993459)) 4
  have m_12 := zi_and_f (((zi_and (k4 - (zi_and (zi_ush k4 1) 1431655765)) 858993459) + (zi_and (zi_ush (k4 - (zi_and (zi_ush k4 1) 1431655765)) 2) 858993459)) + (zi_ush ((zi_and (k4 - (zi_and (zi_ush k4 1) 1431655765)) 858993459) + (zi_and (zi_ush (k4 - (zi_and (zi_ush k4 1) 1431655765)) 2) 858993459)) 4)) 252645135
  have m_13 := zi_ush_f (zi_and (((zi_and (k4 - (zi_and (zi_ush k4 1) 1431655765)) 858993459) + (zi_and (zi_ush (k4 - (zi_and (zi_ush k4 1) 1431655765)) 2) 858993459)) + (zi_ush ((zi_and (k4 - (zi_and (zi_ush k4 1) 1431655765)) 858993459) + (zi_and (zi_ush (k4 - (zi_and (zi_ush k4 1) 1431655765)) 2) 858993459)) 4)) 252645135) 8
  have m_14 := zi_ush_f ((zi_and (((zi_and (k4 - (zi_and (zi_ush k4 1) 1431655765)) 858993459) + (zi_and (zi_ush (k4 - (zi_and (zi_ush k4 1) 1431655765)) 2) 858993459)) + (zi_ush ((zi_and (k4 - (zi_and (zi_ush k4 1) 1431655765)) 858993459) + (zi_and (zi_ush (k4 - (zi_and (zi_ush k4 1) 1431655765)) 2) 858993459)) 4)) 252645135) + (zi_ush (zi_and (((zi_and (k4 - (zi_and (zi_ush k4 1) 1431655765)) 858993459) + (zi_and (zi_ush (k4 - (zi_and (zi_ush k4 1) 1431655765)) 2) 858993459)) + (zi_ush ((zi_and (k4 - (zi_and (zi_ush k4 1) 1431655765)) 858993459) + (zi_and (zi_ush (k4 - (zi_and (zi_ush k4 1) 1431655765)) 2) 858993459)) 4)) 252645135) 8)) 16
  have m_15 := zi_and_f (((zi_and (((zi_and (k4 - (zi_and (zi_ush k4 1) 1431655765)) 858993459) + (zi_and (zi_ush (k4 - (zi_and (zi_ush k4 1) 1431655765)) 2) 858993459)) + (zi_ush ((zi_and (k4 - (zi_and (zi_ush k4 1) 1431655765)) 858993459) + (zi_and (zi_ush (k4 - (zi_and (zi_ush k4 1) 1431655765)) 2) 858993459)) 4)) 252645135) + (zi_ush (zi_and (((zi_and (k4 - (zi_and (zi_ush k4 1) 1431655765)) 858993459) + (zi_and (zi_ush (k4 - (zi_and (zi_ush k4 1) 1431655765)) 2) 858993459)) + (zi_ush ((zi_and (k4 - (zi_and (zi_ush k4 1) 1431655765)) 858993459) + (zi_and (zi_ush (k4 - (zi_and (zi_ush k4 1) 1431655765)) 2) 858993459)) 4)) 252645135) 8)) + (zi_ush ((zi_and (((zi_and (k4 - (zi_and (zi_ush k4 1) 1431655765)) 858993459) + (zi_and (zi_ush (k4 - (zi_and (zi_ush k4 1) 1431655765)) 2) 858993459)) + (zi_ush ((zi_and (k4 - (zi_and (zi_ush k4 1) 1431655765)) 858993459) + (zi_and (zi_ush (k4 - (zi_and (zi_ush k4 1) 1431655765)) 2) 858993459)) 4)) 252645135) + (zi_ush (zi_and (((zi_and (k4 - (zi_and (zi_ush k4 1) 1431655765)) 858993459) + (zi_and (zi_ush (k4 - (zi_and (zi_ush k4 1) 1431655765)) 2) 858993459)) + (zi_ush ((zi_and (k4 - (zi_and (zi_ush k4 1) 1431655765)) 858993459) + (zi_and (zi_ush (k4 - (zi_and (zi_ush k4 1) 1431655765)) 2) 858993459)) 4)) 252645135) 8)) 16)) 63
  refine k_Integer_bitCount I ⟨by omega, by omega⟩ (fun v6 b_5 => ?_)
  refine ⟨⟨by omega, by omega⟩, ?_⟩
  refine ⟨fun c21 => ?_, fun c21 => ?_⟩
  · refine ⟨((16 - 0).toNat + 1), k_Thought_allAgain_l43 I (fun k18 b_18 => ?_) hQ ((16 - 0).toNat + 1) ⟨by omega, by omega⟩ ⟨by omega, by omega⟩ (by omega)⟩
    exact hQ _ ⟨by omega, by omega⟩
  · exact hQ _ ⟨by omega, by omega⟩
