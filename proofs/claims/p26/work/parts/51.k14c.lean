-- part
-- SpoutNews$Thought.commonMultiple(II)I
set_option maxRecDepth 100000 in
set_option maxHeartbeats 4000000 in
theorem k_Thought_commonMultiple_l2 {g : zi_M} (I : zk_I g) {l0 : Int} {l1 : Int} {K15 : Int → zi_M → Prop} {K25 : zi_M → Prop} {Q : Int → zi_M → Prop} (q0 : (-2147483648) ≤ l0 ∧ l0 ≤ 2147483647) (q1 : (-1) ≤ l1 ∧ l1 ≤ 16) (hK15 : ∀ (k2 : Int), (1 ≤ k2 ∧ k2 ≤ 16) → (zcm l0 l1 k2) → (Int.tmod (zi_w (l0 * k2)) l1 = 0) → K15 k2 g) (hK25 : (1 ≤ l0 → l0 ≤ 720720 → 1 ≤ l1 → False) → K25 g) (hQ : ∀ v : Int, ((-2147483648) ≤ v ∧ v ≤ 2147483647) → (1 ≤ l0 → l0 ≤ 720720 → 1 ≤ l1 → v = ((Nat.lcm l0.toNat l1.toNat : Nat) : Int)) → Q v g) : ∀ (n : Nat) {l2 : Int}, (1 ≤ l2 ∧ l2 ≤ 17) → (zcm l0 l1 l2) → 17 - l2 < (n : Int) → w_Thought_commonMultiple_l2 l0 l1 K15 K25 Q n l2 g
  | 0, l2, b0, b1, hm => by exfalso; omega
  | n + 1, l2, b0, b1, hm => by
    unfold w_Thought_commonMultiple_l2
    refine ⟨⟨by omega, by omega⟩, ⟨by omega, by omega⟩, ?_⟩
    refine ⟨fun c6 => ?_, fun c6 => ?_⟩
    · exact hK25 (by exact zcm_n b1 (by omega))
    · refine ⟨(by omega), ?_⟩
      have m_1 := zi_r_w (l0 * l2)
      have m_2 := zi_tmod_f (zi_w (l0 * l2)) l1
      refine ⟨⟨by omega, by omega⟩, ?_⟩
      refine ⟨fun c5 => ?_, fun c5 => ?_⟩
      · exact k_Thought_commonMultiple_l2 I q0 q1 hK15 hK25 hQ n ⟨by omega, by omega⟩ (by first | exact zcm_st b1 ⟨by omega, by omega⟩ (by assumption) | exact zcm_0) (by omega)
      · exact hK15 _ ⟨by omega, by omega⟩ (by exact b1) (by assumption)
set_option maxRecDepth 100000 in
set_option maxHeartbeats 4000000 in
theorem k_Thought_commonMultiple {l0 : Int} {l1 : Int} {g : zi_M} {Q : Int → zi_M → Prop} (I : zk_I g) (p0 : (-2147483648) ≤ l0 ∧ l0 ≤ 2147483647) (p1 : (-1) ≤ l1 ∧ l1 ≤ 16) (hQ : ∀ v : Int, ((-2147483648) ≤ v ∧ v ≤ 2147483647) → (1 ≤ l0 → l0 ≤ 720720 → 1 ≤ l1 → v = ((Nat.lcm l0.toNat l1.toNat : Nat) : Int)) → Q v g) : w_Thought_commonMultiple l0 l1 g Q := by
  unfold w_Thought_commonMultiple
  refine ⟨((17 - 1 : Int).toNat + 1), k_Thought_commonMultiple_l2 (l0 := l0) (l1 := l1) I ⟨by omega, by omega⟩ ⟨by omega, by omega⟩ (fun k7 b_3 b_4 b_5 => ?_) (fun b_7 => ?_) hQ ((17 - 1 : Int).toNat + 1) ⟨by omega, by omega⟩ (by first | exact zcm_st b1 ⟨by omega, by omega⟩ (by assumption) | exact zcm_0) (by omega)⟩
  · have m_6 := zi_r_w (l0 * k7)
    exact hQ _ ⟨by omega, by omega⟩ (by first | exact zcm_x (by assumption) (by assumption) ⟨by omega, by omega⟩ | (intro h1 h2 h3; exact False.elim ((by assumption : 1 ≤ l0 → l0 ≤ 720720 → 1 ≤ l1 → False) h1 h2 h3)))
  · exact hQ _ ⟨by omega, by omega⟩ (by first | exact zcm_x (by assumption) (by assumption) ⟨by omega, by omega⟩ | (intro h1 h2 h3; exact False.elim ((by assumption : 1 ≤ l0 → l0 ≤ 720720 → 1 ≤ l1 → False) h1 h2 h3)))
