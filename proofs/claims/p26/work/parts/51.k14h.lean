-- part
-- SpoutNewsModel.rest(II)I
set_option maxRecDepth 100000 in
set_option maxHeartbeats 4000000 in
theorem k_M_rest {l1 : Int} {l2 : Int} {g : zi_M} {Q : Int → zi_M → Prop} (I : zk_I g) (p1 : (-2147483648) ≤ l1 ∧ l1 ≤ 2147483647) (p2 : (-2147483648) ≤ l2 ∧ l2 ≤ 2147483647) (hQ : ∀ v : Int, (¬ l2 = 0 → v = Int.tmod l1 l2) → (l2 = 0 → v = l1) → Q v g) : w_M_rest l1 l2 g Q := by
  unfold w_M_rest
  refine ⟨⟨by omega, by omega⟩, ?_⟩
  refine ⟨fun c4 => ?_, fun c4 => ?_⟩
  · refine ⟨⟨by omega, by omega⟩, (by omega), ?_⟩
    have m_1 := zi_tmod_f l1 l2
    exact hQ _ (by intros; omega) (by intros; omega)
  · have m_2 := zi_tmod_f l1 l2
    exact hQ _ (by intros; omega) (by intros; omega)
-- SpoutNewsModel.common(II)I
set_option maxRecDepth 100000 in
set_option maxHeartbeats 4000000 in
theorem k_M_common_l5 {l1 : Int} {l2 : Int} {g : zi_M} (I : zk_I g) {x1 : Int} {x2 : Int} {K29 : Int → zi_M → Prop} {Q : Int → zi_M → Prop} (hK29 : ∀ (k3 : Int), ((-2147483648) ≤ k3 ∧ k3 ≤ 2147483647) → (¬ k3 = 0) → (1 ≤ x1 → 1 ≤ x2 → k3 = ((Nat.gcd x1.toNat x2.toNat : Nat) : Int)) → K29 k3 g) (hQ : ∀ v : Int, ((-2147483648) ≤ v ∧ v ≤ 2147483647) → (¬ v = 0) → (1 ≤ l1 → 1 ≤ l2 → v = ((Nat.gcd l1.toNat l2.toNat : Nat) : Int)) → Q v g) : ∀ (n : Nat) {l3 : Int} {l4 : Int}, ((-2147483648) ≤ l3 ∧ l3 ≤ 2147483647) → ((-2147483648) ≤ l4 ∧ l4 ≤ 2147483647) → (¬ l4 = 0 ∨ ¬ l3 = 0) → (zgc x1 x2 l3 l4) → max l4 (-l4) < (n : Int) → w_M_common_l5 K29 Q n l3 l4 g
  | 0, l3, l4, b0, b1, b2, b3, hm => by exfalso; omega
  | n + 1, l3, l4, b0, b1, b2, b3, hm => by
    unfold w_M_common_l5
    refine ⟨⟨by omega, by omega⟩, ?_⟩
    refine ⟨fun c5 => ?_, fun c5 => ?_⟩
    · exact hK29 _ ⟨by omega, by omega⟩ (by omega) (by exact zgc_x b3 (by omega))
    · have hz := zi_tmod_abs l3 l4 (by omega)
      have m_3 := zi_tmod_f (l3) (l4)
      refine k_M_rest I ⟨by omega, by omega⟩ ⟨by omega, by omega⟩ (fun v2 b_1 b_2 => ?_)
      exact k_M_common_l5 I hK29 hQ n ⟨by omega, by omega⟩ ⟨by omega, by omega⟩ (by omega) (by first | exact zgc_st b3 (by assumption) (by assumption) | exact zgc_0) (by omega)
set_option maxRecDepth 100000 in
set_option maxHeartbeats 4000000 in
theorem k_M_common {l1 : Int} {l2 : Int} {g : zi_M} {Q : Int → zi_M → Prop} (I : zk_I g) (p1 : (-2147483648) ≤ l1 ∧ l1 ≤ 2147483647) (p2 : 1 ≤ l2 ∧ l2 ≤ 65535) (hQ : ∀ v : Int, ((-2147483648) ≤ v ∧ v ≤ 2147483647) → (¬ v = 0) → (1 ≤ l1 → 1 ≤ l2 → v = ((Nat.gcd l1.toNat l2.toNat : Nat) : Int)) → Q v g) : w_M_common l1 l2 g Q := by
  unfold w_M_common
  refine ⟨((max l2 (-l2) : Int).toNat + 1), k_M_common_l5 (x1 := l1) (x2 := l2) I (fun k6 b_4 b_5 b_6 => ?_) hQ ((max l2 (-l2) : Int).toNat + 1) ⟨by omega, by omega⟩ ⟨by omega, by omega⟩ (by omega) (by first | exact zgc_st b3 (by assumption) (by assumption) | exact zgc_0) (by omega)⟩
  exact hQ _ ⟨by omega, by omega⟩ (by omega) (by assumption)
