-- by program (wip/gen/mkz.py)
-- SpoutNews$Thought.commonMultiple(II)I
set_option maxRecDepth 100000 in
set_option maxHeartbeats 4000000 in
theorem k_Thought_commonMultiple_l2 {g : zi_M} (I : zk_I g) {l0 : Int} {l1 : Int} {K15 : Int → zi_M → Prop} {K25 : zi_M → Prop} {Q : Int → zi_M → Prop} (q0 : (-2147483648) ≤ l0 ∧ l0 ≤ 2147483647) (q1 : (-1) ≤ l1 ∧ l1 ≤ 16) (hK15 : ∀ (k2 : Int), (1 ≤ k2 ∧ k2 ≤ 16) → (zcm l0 l1 k2) → (Int.tmod (zi_w (l0 * k2)) l1 = 0) → K15 k2 g) (hK25 : (1 ≤ l0 → l0 ≤ 720720 → 1 ≤ l1 → False) → K25 g) (hQ : ∀ v : Int, ((-2147483648) ≤ v ∧ v ≤ 2147483647) → (1 ≤ l0 → l0 ≤ 720720 → 1 ≤ l1 → v = ((Nat.lcm l0.toNat l1.toNat : Nat) : Int)) → Q v g) : ∀ (n : Nat) {l2 : Int}, (1 ≤ l2 ∧ l2 ≤ 17) → (zcm l0 l1 l2) → 17 - l2 < (n : Int) → w_Thought_commonMultiple_l2 l0 l1 K15 K25 Q n l2 g
  | 0, l2, b0, b1, hm => by exfalso; omega
  | n + 1, l2, b0, b1, hm => by
    unfold w_Thought_commonMultiple_l2
    refine ⟨⟨by omega, by omega⟩, ⟨by omega, by omega⟩, ?_⟩
    refine ⟨fun c6 => ?_, fun c6 => ?_⟩
    · exact hK25 (by exact zcm_n b1 (by omega))
    · refine ⟨(by omega), ?_⟩
      have m_1 := zi_r_w (l0 * l2)
      have m_2 := zi_tmod_f (zi_w (l0 * l2)) l1
      refine ⟨⟨by omega, by omega⟩, ?_⟩
      refine ⟨fun c5 => ?_, fun c5 => ?_⟩
      · exact k_Thought_commonMultiple_l2 I q0 q1 hK15 hK25 hQ n ⟨by omega, by omega⟩ (by first | exact zcm_st b1 ⟨by omega, by omega⟩ (by assumption) | exact zcm_0) (by omega)
      · exact hK15 _ ⟨by omega, by omega⟩ (by exact b1) (by assumption)
set_option maxRecDepth 100000 in
set_option maxHeartbeats 4000000 in
theorem k_Thought_commonMultiple {l0 : Int} {l1 : Int} {g : zi_M} {Q : Int → zi_M → Prop} (I : zk_I g) (p0 : (-2147483648) ≤ l0 ∧ l0 ≤ 2147483647) (p1 : (-1) ≤ l1 ∧ l1 ≤ 16) (hQ : ∀ v : Int, ((-2147483648) ≤ v ∧ v ≤ 2147483647) → (1 ≤ l0 → l0 ≤ 720720 → 1 ≤ l1 → v = ((Nat.lcm l0.toNat l1.toNat : Nat) : Int)) → Q v g) : w_Thought_commonMultiple l0 l1 g Q := by
  unfold w_Thought_commonMultiple
  refine ⟨((17 - 1 : Int).toNat + 1), k_Thought_commonMultiple_l2 (l0 := l0) (l1 := l1) I ⟨by omega, by omega⟩ ⟨by omega, by omega⟩ (fun k7 b_3 b_4 b_5 => ?_) (fun b_7 => ?_) hQ ((17 - 1 : Int).toNat + 1) ⟨by omega, by omega⟩ (by first | exact zcm_st b1 ⟨by omega, by omega⟩ (by assumption) | exact zcm_0) (by omega)⟩
  · have m_6 := zi_r_w (l0 * k7)
    exact hQ _ ⟨by omega, by omega⟩ (by first | exact zcm_x (by assumption) (by assumption) ⟨by omega, by omega⟩ | (intro h1 h2 h3; exact False.elim ((by assumption : 1 ≤ l0 → l0 ≤ 720720 → 1 ≤ l1 → False) h1 h2 h3)))
  · exact hQ _ ⟨by omega, by omega⟩ (by first | exact zcm_x (by assumption) (by assumption) ⟨by omega, by omega⟩ | (intro h1 h2 h3; exact False.elim ((by assumption : 1 ≤ l0 → l0 ≤ 720720 → 1 ≤ l1 → False) h1 h2 h3)))
-- SpoutNews$Thought.allAgain(LSpoutNews$Told;)I
set_option maxRecDepth 100000 in
set_option maxHeartbeats 4000000 in
theorem k_Thought_allAgain_l4 {g : zi_M} (I : zk_I g) {K27 : Int → zi_M → Prop} {Q : Int → zi_M → Prop} (hK27 : ∀ (k2 : Int), (0 ≤ k2 ∧ k2 ≤ 65535) → (k2 = zst (g 41) z16) → K27 k2 g) (hQ : ∀ v : Int, ((-2147483648) ≤ v ∧ v ≤ 2147483647) → (zst (g 41) z16 = 65535 → v = zal (fun w => zco (g 41) z16 (zi_shl 1 w) (g 41 w) 1) z16) → (¬ zst (g 41) z16 = 65535 → v = -1) → Q v g) : ∀ (n : Nat) {l2 : Int} {l3 : Int}, (0 ≤ l2 ∧ l2 ≤ 65535) → (0 ≤ l3 ∧ l3 ≤ 16) → (l2 = zst (g 41) l3.toNat) → 16 - l3 < (n : Int) → w_Thought_allAgain_l4 K27 Q n l2 l3 g
  | 0, l2, l3, b0, b1, b2, hm => by exfalso; omega
  | n + 1, l2, l3, b0, b1, b2, hm => by
    unfold w_Thought_allAgain_l4
    refine ⟨⟨by omega, by omega⟩, ?_⟩
    refine ⟨fun c3 => ?_, fun c3 => ?_⟩
    · exact hK27 _ ⟨by omega, by omega⟩ (by exact zst_e b2 (by rw [z16_e]; omega))
    · refine ⟨⟨by omega, by omega⟩, ?_⟩
      have m_1 : 0 ≤ (g 41 l3) ∧ (g 41 l3) ≤ 15 := I.1 41 l3
      have m_2 := zi_r_shl 1 (g 41 l3)
      try have m_3 := (zi_shl_f (g 41 l3)).2.1 ⟨by omega, by omega⟩
      first | have m_4 := (zi_shl_f (g 41 l3)).2.2.1 ⟨by omega, by omega⟩ | have m_5 := (zi_shl_f (g 41 l3)).2.2.2.1 ⟨by omega, by omega⟩ | have m_6 := (zi_shl_f (g 41 l3)).2.2.2.2.1 ⟨by omega, by omega⟩ | have m_7 := (zi_shl_f (g 41 l3)).2.2.2.2.2.1 ⟨by omega, by omega⟩ | have m_8 := (zi_shl_f (g 41 l3)).2.2.2.2.2.2 ⟨by omega, by omega⟩ | skip
      first | have m_9 := (zi_or_f l2 (zi_shl 1 (g 41 l3))).2.1 ⟨by omega, by omega, by omega, by omega⟩ | have m_9 := (zi_or_f l2 (zi_shl 1 (g 41 l3))).2.2.1 ⟨by omega, by omega, by omega, by omega⟩ | have m_9 := (zi_or_f l2 (zi_shl 1 (g 41 l3))).2.2.2.1 ⟨by omega, by omega, by omega, by omega⟩ | have m_9 := (zi_or_f l2 (zi_shl 1 (g 41 l3))).2.2.2.2.1 ⟨by omega, by omega, by omega, by omega⟩ | have m_9 := (zi_or_f l2 (zi_shl 1 (g 41 l3))).2.2.2.2.2 ⟨by omega, by omega, by omega, by omega⟩ | have m_9 := zi_r_or l2 (zi_shl 1 (g 41 l3))
      exact k_Thought_allAgain_l4 I hK27 hQ n ⟨by omega, by omega⟩ ⟨by omega, by omega⟩ (by first | exact zst_s b2 (by omega) | rfl) (by omega)
set_option maxRecDepth 100000 in
set_option maxHeartbeats 4000000 in
theorem k_Thought_allAgain_l43 {g : zi_M} (I : zk_I g) {K68 : Int → zi_M → Prop} {Q : Int → zi_M → Prop} (hK68 : ∀ (k3 : Int), ((-2147483648) ≤ k3 ∧ k3 ≤ 2147483647) → (k3 = zal (fun w => zco (g 41) z16 (zi_shl 1 w) (g 41 w) 1) z16) → K68 k3 g) (hQ : ∀ v : Int, ((-2147483648) ≤ v ∧ v ≤ 2147483647) → (zst (g 41) z16 = 65535 → v = zal (fun w => zco (g 41) z16 (zi_shl 1 w) (g 41 w) 1) z16) → (¬ zst (g 41) z16 = 65535 → v = -1) → Q v g) : ∀ (n : Nat) {l3 : Int} {l4 : Int}, ((-2147483648) ≤ l3 ∧ l3 ≤ 2147483647) → (0 ≤ l4 ∧ l4 ≤ 16) → (l3 = zal (fun w => zco (g 41) z16 (zi_shl 1 w) (g 41 w) 1) l4.toNat) → (1 ≤ l3 ∧ l3.toNat ∣ 720720) → 16 - l4 < (n : Int) → w_Thought_allAgain_l43 K68 Q n l3 l4 g
  | 0, l3, l4, b0, b1, b2, b3, hm => by exfalso; omega
  | n + 1, l3, l4, b0, b1, b2, b3, hm => by
    unfold w_Thought_allAgain_l43
    refine ⟨⟨by omega, by omega⟩, ?_⟩
    refine ⟨fun c17 => ?_, fun c17 => ?_⟩
    · exact hK68 _ ⟨by omega, by omega⟩ (by exact zal_e b2 (by rw [z16_e]; omega))
    · have m_14 : 0 ≤ (g 41 l4) ∧ (g 41 l4) ≤ 15 := I.1 41 l4
      refine k_Thought_stepsAgain I ⟨by omega, by omega⟩ (fun v11 b_15 b_16 b_17 => ?_)
      refine k_Thought_commonMultiple I ⟨by omega, by omega⟩ ⟨by omega, by omega⟩ (fun v14 b_18 b_19 => ?_)
      exact k_Thought_allAgain_l43 I hK68 hQ n ⟨by omega, by omega⟩ ⟨by omega, by omega⟩ (by first | exact zal_st (by assumption) b2 b3 (by assumption) (by assumption) (by omega) | exact zal_1) (by first | exact zal_sd (by assumption) b3 (by assumption) | exact ⟨by decide, by decide⟩) (by omega)
set_option maxRecDepth 100000 in
set_option maxHeartbeats 4000000 in
theorem k_Thought_allAgain {g : zi_M} {Q : Int → zi_M → Prop} (I : zk_I g) (hQ : ∀ v : Int, ((-2147483648) ≤ v ∧ v ≤ 2147483647) → (zst (g 41) z16 = 65535 → v = zal (fun w => zco (g 41) z16 (zi_shl 1 w) (g 41 w) 1) z16) → (¬ zst (g 41) z16 = 65535 → v = -1) → Q v g) : w_Thought_allAgain g Q := by
  unfold w_Thought_allAgain
  refine ⟨((16 - 0 : Int).toNat + 1), k_Thought_allAgain_l4 I (fun k4 b_10 b_11 => ?_) hQ ((16 - 0 : Int).toNat + 1) ⟨by omega, by omega⟩ ⟨by omega, by omega⟩ (by first | exact zst_s b2 (by omega) | rfl) (by omega)⟩
  refine k_Integer_bitCount I ⟨by omega, by omega⟩ (fun v6 b_12 b_13 => ?_)
  refine ⟨⟨by omega, by omega⟩, ?_⟩
  refine ⟨fun c21 => ?_, fun c21 => ?_⟩
  · refine ⟨((16 - 0 : Int).toNat + 1), k_Thought_allAgain_l43 I (fun k18 b_20 b_21 => ?_) hQ ((16 - 0 : Int).toNat + 1) ⟨by omega, by omega⟩ ⟨by omega, by omega⟩ (by first | exact zal_st (by assumption) b2 b3 (by assumption) (by assumption) (by omega) | exact zal_1) (by first | exact zal_sd (by assumption) b3 (by assumption) | exact ⟨by decide, by decide⟩) (by omega)⟩
    exact hQ _ ⟨by omega, by omega⟩ (by intro hv; first | assumption | exact absurd hv (zbc_p (by assumption) ⟨by omega, by omega⟩ (by assumption) (by omega))) (by intro hv; first | rfl | exact absurd (zbc_q (by assumption) ⟨by omega, by omega⟩ (by assumption) (by omega)) hv)
  · exact hQ _ ⟨by omega, by omega⟩ (by intro hv; first | assumption | exact absurd hv (zbc_p (by assumption) ⟨by omega, by omega⟩ (by assumption) (by omega))) (by intro hv; first | rfl | exact absurd (zbc_q (by assumption) ⟨by omega, by omega⟩ (by assumption) (by omega)) hv)
-- SpoutNews.again(I)I
set_option maxRecDepth 100000 in
set_option maxHeartbeats 4000000 in
theorem k_S_again {l1 : Int} {g : zi_M} {Q : Int → zi_M → Prop} (I : zk_I g) (p1 : (-2147483648) ≤ l1 ∧ l1 ≤ 2147483647) (hQ : ∀ v : Int, ((-2147483648) ≤ v ∧ v ≤ 2147483647) → (l1 = -1 → zst (g 41) z16 = 65535 → v = zal (fun w => zco (g 41) z16 (zi_shl 1 w) (g 41 w) 1) z16) → (l1 = -1 → ¬ zst (g 41) z16 = 65535 → v = -1) → (0 ≤ l1 → l1 ≤ 15 → v = zco (g 41) z16 (zi_shl 1 l1) (g 41 l1) 1) → (l1 < -1 ∨ 15 < l1 → v = -1) → Q v g) : w_S_again l1 g Q := by
  unfold w_S_again
  refine ⟨⟨by omega, by omega⟩, ?_⟩
  refine ⟨fun c12 => ?_, fun c12 => ?_⟩
  · refine k_S_isWord I ⟨by omega, by omega⟩ (fun v2 b_1 b_2 b_3 => ?_)
    refine ⟨fun c8 => ?_, fun c8 => ?_⟩
    · exact hQ _ ⟨by omega, by omega⟩ (by intro hv; first | assumption | (exfalso; omega)) (by intro hv; first | assumption | (exfalso; omega)) (by intro h0 h1; first | assumption | (exfalso; omega)) (by omega)
    · have m_4 : 0 ≤ (g 41 l1) ∧ (g 41 l1) ≤ 15 := I.1 41 l1
      refine k_Thought_stepsAgain I ⟨by omega, by omega⟩ (fun v5 b_5 b_6 b_7 => ?_)
      exact hQ _ ⟨by omega, by omega⟩ (by intro hv; first | assumption | (exfalso; omega)) (by intro hv; first | assumption | (exfalso; omega)) (by intro h0 h1; first | assumption | (exfalso; omega)) (by omega)
  · refine k_Thought_allAgain I (fun v9 b_8 b_9 b_10 => ?_)
    exact hQ _ ⟨by omega, by omega⟩ (by intro hv; first | assumption | (exfalso; omega)) (by intro hv; first | assumption | (exfalso; omega)) (by intro h0 h1; first | assumption | (exfalso; omega)) (by omega)
-- SpoutNewsModel.isOneToOne()Z
set_option maxRecDepth 100000 in
set_option maxHeartbeats 4000000 in
theorem k_M_isOneToOne_l4 {g : zi_M} (I : zk_I g) {K29 : Int → zi_M → Prop} {Q : Int → zi_M → Prop} (hK29 : ∀ (k1 : Int), ((-2147483648) ≤ k1 ∧ k1 ≤ 2147483647) → (k1 = zst (fun i => i + g 243 i) z16) → K29 k1 g) (hQ : ∀ v : Int, (0 ≤ v ∧ v ≤ 1) → (zst (fun i => i + g 243 i) z16 = 65535 → v = 1) → (¬ zst (fun i => i + g 243 i) z16 = 65535 → v = 0) → Q v g) : ∀ (n : Nat) {l1 : Int} {l2 : Int}, ((-2147483648) ≤ l1 ∧ l1 ≤ 2147483647) → (0 ≤ l2 ∧ l2 ≤ 16) → (l1 = zst (fun i => i + g 243 i) l2.toNat) → 16 - l2 < (n : Int) → w_M_isOneToOne_l4 K29 Q n l1 l2 g
  | 0, l1, l2, b0, b1, b2, hm => by exfalso; omega
  | n + 1, l1, l2, b0, b1, b2, hm => by
    unfold w_M_isOneToOne_l4
    refine ⟨⟨by omega, by omega⟩, ?_⟩
    refine ⟨fun c3 => ?_, fun c3 => ?_⟩
    · exact hK29 _ ⟨by omega, by omega⟩ (by exact zst_e b2 (by rw [z16_e]; omega))
    · refine ⟨⟨by omega, by omega⟩, ?_⟩
      have m_1 := zk_latin I (i := l2)
      have m_2 := zi_r_shl 1 (l2 + (g 243 l2))
      try have m_3 := (zi_shl_f (l2 + (g 243 l2))).2.1 ⟨by omega, by omega⟩
      first | have m_4 := (zi_shl_f (l2 + (g 243 l2))).2.2.1 ⟨by omega, by omega⟩ | have m_5 := (zi_shl_f (l2 + (g 243 l2))).2.2.2.1 ⟨by omega, by omega⟩ | have m_6 := (zi_shl_f (l2 + (g 243 l2))).2.2.2.2.1 ⟨by omega, by omega⟩ | have m_7 := (zi_shl_f (l2 + (g 243 l2))).2.2.2.2.2.1 ⟨by omega, by omega⟩ | have m_8 := (zi_shl_f (l2 + (g 243 l2))).2.2.2.2.2.2 ⟨by omega, by omega⟩ | skip
      first | have m_9 := (zi_or_f l1 (zi_shl 1 (l2 + (g 243 l2)))).2.1 ⟨by omega, by omega, by omega, by omega⟩ | have m_9 := (zi_or_f l1 (zi_shl 1 (l2 + (g 243 l2)))).2.2.1 ⟨by omega, by omega, by omega, by omega⟩ | have m_9 := (zi_or_f l1 (zi_shl 1 (l2 + (g 243 l2)))).2.2.2.1 ⟨by omega, by omega, by omega, by omega⟩ | have m_9 := (zi_or_f l1 (zi_shl 1 (l2 + (g 243 l2)))).2.2.2.2.1 ⟨by omega, by omega, by omega, by omega⟩ | have m_9 := (zi_or_f l1 (zi_shl 1 (l2 + (g 243 l2)))).2.2.2.2.2 ⟨by omega, by omega, by omega, by omega⟩ | have m_9 := zi_r_or l1 (zi_shl 1 (l2 + (g 243 l2)))
      exact k_M_isOneToOne_l4 I hK29 hQ n ⟨by omega, by omega⟩ ⟨by omega, by omega⟩ (by first | exact zst_s b2 (by omega) | rfl) (by omega)
set_option maxRecDepth 100000 in
set_option maxHeartbeats 4000000 in
theorem k_M_isOneToOne {g : zi_M} {Q : Int → zi_M → Prop} (I : zk_I g) (hQ : ∀ v : Int, (0 ≤ v ∧ v ≤ 1) → (zst (fun i => i + g 243 i) z16 = 65535 → v = 1) → (¬ zst (fun i => i + g 243 i) z16 = 65535 → v = 0) → Q v g) : w_M_isOneToOne g Q := by
  unfold w_M_isOneToOne
  refine ⟨((16 - 0 : Int).toNat + 1), k_M_isOneToOne_l4 I (fun k4 b_10 b_11 => ?_) hQ ((16 - 0 : Int).toNat + 1) ⟨by omega, by omega⟩ ⟨by omega, by omega⟩ (by first | exact zst_s b2 (by omega) | rfl) (by omega)⟩
  refine ⟨⟨by omega, by omega⟩, ?_⟩
  refine ⟨fun c7 => ?_, fun c7 => ?_⟩
  · exact hQ _ ⟨by omega, by omega⟩ (by intro hv; first | rfl | (exfalso; omega)) (by intro hv; first | rfl | (exfalso; omega))
  · exact hQ _ ⟨by omega, by omega⟩ (by intro hv; first | rfl | (exfalso; omega)) (by intro hv; first | rfl | (exfalso; omega))
-- SpoutNewsModel.comingFrom(I)I
set_option maxRecDepth 100000 in
set_option maxHeartbeats 4000000 in
theorem k_M_comingFrom_l7 {l1 : Int} {g : zi_M} (I : zk_I g) {x1 : Int} {K40 : Int → zi_M → Prop} {Q : Int → zi_M → Prop} (hK40 : ∀ (k4 : Int), (0 ≤ k4 ∧ k4 ≤ 65535) → (1 ≤ k4) → (k4 = zco (fun i => i + g 243 i) z17 0 x1 0) → (1 ≤ k4 ∧ k4 ≤ 16) → K40 k4 g) (hQ : ∀ v : Int, (1 ≤ v ∧ v ≤ 65535) → (v = zco (fun i => i + g 243 i) z17 0 l1 0) → (1 ≤ v ∧ v ≤ 16) → Q v g) : ∀ (n : Nat) {l2 : Int} {l3 : Int} {l4 : Int}, (0 ≤ l2 ∧ l2 ≤ 65535) → (0 ≤ l3 ∧ l3 ≤ 15) → (0 ≤ l4 ∧ l4 ≤ 65535) → (l4 ≤ l2) → (¬ l2 = 0 → 1 ≤ l4) → (zpc l2 z16 = l4) → (zco (fun i => i + g 243 i) (17 - l4).toNat l2 l3 l4 = zco (fun i => i + g 243 i) z17 0 x1 0) → 65535 - l2 < (n : Int) → w_M_comingFrom_l7 K40 Q n l2 l3 l4 g
  | 0, l2, l3, l4, b0, b1, b2, b3, b4, b5, b6, hm => by exfalso; omega
  | n + 1, l2, l3, l4, b0, b1, b2, b3, b4, b5, b6, hm => by
    unfold w_M_comingFrom_l7
    have m_3 := zi_r_shr (l2) (l3)
    try have m_4 := (zi_shr_f (l2) (l3)).2 ⟨by omega, by omega⟩
    have m_5 := zi_r_and (zi_shr l2 l3) 1
    try have m_6 := (zi_and_f (zi_shr l2 l3) 1).2.1 ⟨by omega, by omega⟩
    try have m_7 := (zi_and_f (zi_shr l2 l3) 1).2.2 ⟨by omega, by omega⟩
    refine k_M_has I ⟨by omega, by omega⟩ ⟨by omega, by omega⟩ (fun v1 b_1 b_2 => ?_)
    refine ⟨fun c5 => ?_, fun c5 => ?_⟩
    · exact hK40 _ ⟨by omega, by omega⟩ (by omega) (by exact zco_x b6 (by omega) (by have hp := zpc_16 b5; omega)) (by have hp := zpc_16 b5; omega)
    · refine ⟨⟨by omega, by omega⟩, ?_⟩
      have m_8 := zi_r_shl 1 l3
      try have m_9 := (zi_shl_f l3).2.1 ⟨by omega, by omega⟩
      first | have m_10 := (zi_shl_f l3).2.2.1 ⟨by omega, by omega⟩ | have m_11 := (zi_shl_f l3).2.2.2.1 ⟨by omega, by omega⟩ | have m_12 := (zi_shl_f l3).2.2.2.2.1 ⟨by omega, by omega⟩ | have m_13 := (zi_shl_f l3).2.2.2.2.2.1 ⟨by omega, by omega⟩ | have m_14 := (zi_shl_f l3).2.2.2.2.2.2 ⟨by omega, by omega⟩ | skip
      have m_15 := (zi_or_f l2 (zi_shl 1 l3)).2.2.2.2.1 ⟨by omega, by omega, by omega, by omega⟩
      have m_16 := zi_or_new (s := l2) (k := l3) ⟨by omega, by omega⟩ ⟨by omega, by omega⟩ (by omega)
      have m_17 := zk_latin I (i := l3)
      exact k_M_comingFrom_l7 I hK40 hQ n ⟨by omega, by omega⟩ ⟨by omega, by omega⟩ ⟨by omega, by omega⟩ (by omega) (by omega) (by first | exact zpc_st b5 (by omega) ⟨by omega, by omega⟩ ⟨by omega, by omega⟩ | exact zpc_z z16) (by first | exact zco_st b6 (by omega) (by have hp := zpc_16 b5; omega) | exact zco_i (by rw [z17_e]; omega)) (by omega)
set_option maxRecDepth 100000 in
set_option maxHeartbeats 4000000 in
theorem k_M_comingFrom {l1 : Int} {g : zi_M} {Q : Int → zi_M → Prop} (I : zk_I g) (p1 : 0 ≤ l1 ∧ l1 ≤ 15) (hQ : ∀ v : Int, (1 ≤ v ∧ v ≤ 65535) → (v = zco (fun i => i + g 243 i) z17 0 l1 0) → (1 ≤ v ∧ v ≤ 16) → Q v g) : w_M_comingFrom l1 g Q := by
  unfold w_M_comingFrom
  refine ⟨((65535 - 0 : Int).toNat + 1), k_M_comingFrom_l7 (x1 := l1) I (fun k6 b_18 b_19 b_20 b_21 => ?_) hQ ((65535 - 0 : Int).toNat + 1) ⟨by omega, by omega⟩ ⟨by omega, by omega⟩ ⟨by omega, by omega⟩ (by omega) (by omega) (by first | exact zpc_st b5 (by omega) ⟨by omega, by omega⟩ ⟨by omega, by omega⟩ | exact zpc_z z16) (by first | exact zco_st b6 (by omega) (by have hp := zpc_16 b5; omega) | exact zco_i (by rw [z17_e]; omega)) (by omega)⟩
  exact hQ _ ⟨by omega, by omega⟩ (by assumption) (by omega)
-- SpoutNewsModel.rest(II)I
set_option maxRecDepth 100000 in
set_option maxHeartbeats 4000000 in
theorem k_M_rest {l1 : Int} {l2 : Int} {g : zi_M} {Q : Int → zi_M → Prop} (I : zk_I g) (p1 : (-2147483648) ≤ l1 ∧ l1 ≤ 2147483647) (p2 : (-2147483648) ≤ l2 ∧ l2 ≤ 2147483647) (hQ : ∀ v : Int, (¬ l2 = 0 → v = Int.tmod l1 l2) → (l2 = 0 → v = l1) → Q v g) : w_M_rest l1 l2 g Q := by
  unfold w_M_rest
  refine ⟨⟨by omega, by omega⟩, ?_⟩
  refine ⟨fun c4 => ?_, fun c4 => ?_⟩
  · refine ⟨⟨by omega, by omega⟩, (by omega), ?_⟩
    have m_1 := zi_tmod_f l1 l2
    exact hQ _ (by intros; omega) (by intros; omega)
  · have m_2 := zi_tmod_f l1 l2
    exact hQ _ (by intros; omega) (by intros; omega)
-- SpoutNewsModel.common(II)I
set_option maxRecDepth 100000 in
set_option maxHeartbeats 4000000 in
theorem k_M_common_l5 {l1 : Int} {l2 : Int} {g : zi_M} (I : zk_I g) {x1 : Int} {x2 : Int} {K29 : Int → zi_M → Prop} {Q : Int → zi_M → Prop} (hK29 : ∀ (k3 : Int), ((-2147483648) ≤ k3 ∧ k3 ≤ 2147483647) → (¬ k3 = 0) → (1 ≤ x1 → 1 ≤ x2 → k3 = ((Nat.gcd x1.toNat x2.toNat : Nat) : Int)) → K29 k3 g) (hQ : ∀ v : Int, ((-2147483648) ≤ v ∧ v ≤ 2147483647) → (¬ v = 0) → (1 ≤ l1 → 1 ≤ l2 → v = ((Nat.gcd l1.toNat l2.toNat : Nat) : Int)) → Q v g) : ∀ (n : Nat) {l3 : Int} {l4 : Int}, ((-2147483648) ≤ l3 ∧ l3 ≤ 2147483647) → ((-2147483648) ≤ l4 ∧ l4 ≤ 2147483647) → (¬ l4 = 0 ∨ ¬ l3 = 0) → (zgc x1 x2 l3 l4) → max l4 (-l4) < (n : Int) → w_M_common_l5 K29 Q n l3 l4 g
  | 0, l3, l4, b0, b1, b2, b3, hm => by exfalso; omega
  | n + 1, l3, l4, b0, b1, b2, b3, hm => by
    unfold w_M_common_l5
    refine ⟨⟨by omega, by omega⟩, ?_⟩
    refine ⟨fun c5 => ?_, fun c5 => ?_⟩
    · exact hK29 _ ⟨by omega, by omega⟩ (by omega) (by exact zgc_x b3 (by omega))
    · have hz := zi_tmod_abs l3 l4 (by omega)
      have m_3 := zi_tmod_f (l3) (l4)
      refine k_M_rest I ⟨by omega, by omega⟩ ⟨by omega, by omega⟩ (fun v2 b_1 b_2 => ?_)
      exact k_M_common_l5 I hK29 hQ n ⟨by omega, by omega⟩ ⟨by omega, by omega⟩ (by omega) (by first | exact zgc_st b3 (by assumption) (by assumption) | exact zgc_0) (by omega)
set_option maxRecDepth 100000 in
set_option maxHeartbeats 4000000 in
theorem k_M_common {l1 : Int} {l2 : Int} {g : zi_M} {Q : Int → zi_M → Prop} (I : zk_I g) (p1 : (-2147483648) ≤ l1 ∧ l1 ≤ 2147483647) (p2 : 1 ≤ l2 ∧ l2 ≤ 65535) (hQ : ∀ v : Int, ((-2147483648) ≤ v ∧ v ≤ 2147483647) → (¬ v = 0) → (1 ≤ l1 → 1 ≤ l2 → v = ((Nat.gcd l1.toNat l2.toNat : Nat) : Int)) → Q v g) : w_M_common l1 l2 g Q := by
  unfold w_M_common
  refine ⟨((max l2 (-l2) : Int).toNat + 1), k_M_common_l5 (x1 := l1) (x2 := l2) I (fun k6 b_4 b_5 b_6 => ?_) hQ ((max l2 (-l2) : Int).toNat + 1) ⟨by omega, by omega⟩ ⟨by omega, by omega⟩ (by omega) (by first | exact zgc_st b3 (by assumption) (by assumption) | exact zgc_0) (by omega)⟩
  exact hQ _ ⟨by omega, by omega⟩ (by omega) (by assumption)
-- SpoutNewsModel.again(I)I
set_option maxRecDepth 100000 in
set_option maxHeartbeats 4000000 in
theorem k_M_again_l42 {l1 : Int} {K73 : Int → zi_M → Prop} {Q : Int → zi_M → Prop} {g0 : zi_M} (hK73 : ∀ (k2 : Int) (g : zi_M), zk_I g → zk_fr fr_M_again g0 g → ((-2147483648) ≤ k2 ∧ k2 ≤ 2147483647) → (k2 = zal (fun w => zco (fun i => i + g 243 i) z17 0 w 0) z16) → (zst (fun i => i + g 243 i) z16 = 65535) → K73 k2 g) (hQ : ∀ (v : Int) (g' : zi_M), zk_I g' → zk_fr fr_M_again g0 g' → ((-2147483648) ≤ v ∧ v ≤ 2147483647) → (l1 = -1 → zst (fun i => i + g0 243 i) z16 = 65535 → v = zal (fun w => zco (fun i => i + g0 243 i) z17 0 w 0) z16) → (l1 = -1 → ¬ zst (fun i => i + g0 243 i) z16 = 65535 → v = -1) → (0 ≤ l1 → l1 ≤ 15 → v = zco (fun i => i + g0 243 i) z17 0 l1 0) → (l1 < -1 ∨ 15 < l1 → v = -1) → Q v g') : ∀ (n : Nat) {l2 : Int} {l3 : Int} {g : zi_M}, zk_I g → zk_fr fr_M_again g0 g → ((-2147483648) ≤ l2 ∧ l2 ≤ 2147483647) → (0 ≤ l3 ∧ l3 ≤ 16) → (l2 = zal (fun w => zco (fun i => i + g 243 i) z17 0 w 0) l3.toNat) → (1 ≤ l2 ∧ l2.toNat ∣ 720720) → (zst (fun i => i + g 243 i) z16 = 65535) → 16 - l3 < (n : Int) → w_M_again_l42 K73 Q n l2 l3 g
  | 0, l2, l3, g, I, F, b0, b1, b2, b3, b4, hm => by exfalso; omega
  | n + 1, l2, l3, g, I, F, b0, b1, b2, b3, b4, hm => by
    unfold w_M_again_l42
    refine ⟨⟨by omega, by omega⟩, ?_⟩
    refine ⟨fun c22 => ?_, fun c22 => ?_⟩
    · exact hK73 _ _ I F ⟨by omega, by omega⟩ (by exact zal_e b2 (by rw [z16_e]; omega)) (by exact b4)
    · refine k_M_comingFrom I ⟨by omega, by omega⟩ (fun v10 b_10 b_11 b_12 => ?_)
      refine k_M_common I ⟨by omega, by omega⟩ ⟨by omega, by omega⟩ (fun v13 b_13 b_14 b_15 => ?_)
      refine ⟨⟨by omega, by omega⟩, ⟨by omega, by omega⟩, (by omega), ?_⟩
      refine k_M_comingFrom I ⟨by omega, by omega⟩ (fun v19 b_16 b_17 b_18 => ?_)
      have m_19 := zi_tdiv_f l2 v13
      have m_20 := zi_r_w ((Int.tdiv l2 v13) * v19)
      exact k_M_again_l42 hK73 hQ n I F ⟨by omega, by omega⟩ ⟨by omega, by omega⟩ (by first | exact zal_mst (by assumption) b2 b3 (by assumption) (by assumption) (by omega) (by omega) | exact zal_1) (by first | exact zal_msd (f := (fun w => zco (fun i => i + g 243 i) z17 0 w 0)) (i := l3) (by assumption) b3 (by assumption) (by assumption) (by omega) | exact ⟨by decide, by decide⟩) (by first | exact b4 | omega) (by omega)
set_option maxRecDepth 100000 in
set_option maxHeartbeats 4000000 in
theorem k_M_again {l1 : Int} {g : zi_M} {Q : Int → zi_M → Prop} (I : zk_I g) (p1 : (-2147483648) ≤ l1 ∧ l1 ≤ 2147483647) (hQ : ∀ (v : Int) (g' : zi_M), zk_I g' → zk_fr fr_M_again g g' → ((-2147483648) ≤ v ∧ v ≤ 2147483647) → (l1 = -1 → zst (fun i => i + g 243 i) z16 = 65535 → v = zal (fun w => zco (fun i => i + g 243 i) z17 0 w 0) z16) → (l1 = -1 → ¬ zst (fun i => i + g 243 i) z16 = 65535 → v = -1) → (0 ≤ l1 → l1 ≤ 15 → v = zco (fun i => i + g 243 i) z17 0 l1 0) → (l1 < -1 ∨ 15 < l1 → v = -1) → Q v g') : w_M_again l1 g Q := by
  unfold w_M_again
  intro g1 e_1
  have I_2 : zk_I g1 := by rw [e_1]; exact zk_upd (L := (-2147483648)) (H := 2147483647) rfl rfl I ⟨by omega, by omega⟩
  have F_3 : zk_fr fr_M_again g g1 := by rw [e_1]; exact zk_fu (zk_f0 _) ⟨rfl, rfl⟩
  refine k_M_isIn I_2 ⟨by omega, by omega⟩ ⟨by omega, by omega⟩ ⟨by omega, by omega⟩ (fun v2 b_4 b_5 b_6 => ?_)
  refine ⟨fun c31 => ?_, fun c31 => ?_⟩
  · refine ⟨⟨by omega, by omega⟩, ?_⟩
    refine ⟨fun c30 => ?_, fun c30 => ?_⟩
    · refine k_M_isOneToOne I_2 (fun v6 b_7 b_8 b_9 => ?_)
      refine ⟨fun c26 => ?_, fun c26 => ?_⟩
      · refine ⟨((16 - 0 : Int).toNat + 1), k_M_again_l42 (fun k23 g24 I_21 F_22 b_23 b_24 b_25 => ?_) hQ ((16 - 0 : Int).toNat + 1) I_2 F_3 ⟨by omega, by omega⟩ ⟨by omega, by omega⟩ (by first | exact zal_mst (by assumption) b2 b3 (by assumption) (by assumption) (by omega) (by omega) | exact zal_1) (by first | exact zal_msd (f := (fun w => zco (fun i => i + g 243 i) z17 0 w 0)) (i := l3) (by assumption) b3 (by assumption) (by assumption) (by omega) | exact ⟨by decide, by decide⟩) (by first | exact b4 | omega) (by omega)⟩
        exact hQ _ _ I_21 F_22 ⟨by omega, by omega⟩ (by intro hv; first | (exfalso; omega) | (rw [← zM_row (a := 243) (by assumption : zk_fr fr_M_again g g24) (by intro i; unfold fr_M_again; omega)]; intro h9; first | assumption | (exfalso; omega))) (by intro hv; first | (exfalso; omega) | (rw [← zM_row (a := 243) (by assumption : zk_fr fr_M_again g g24) (by intro i; unfold fr_M_again; omega)]; intro h9; first | rfl | exact absurd (by assumption) h9)) (by intro h0 h1; first | (exfalso; omega) | (rw [← zM_row (a := 243) (by assumption : zk_fr fr_M_again g g24) (by intro i; unfold fr_M_again; omega)]; assumption)) (by omega)
      · exact hQ _ _ I_2 F_3 ⟨by omega, by omega⟩ (by intro hv; first | (exfalso; omega) | (rw [← zM_row (a := 243) (by assumption : zk_fr fr_M_again g g1) (by intro i; unfold fr_M_again; omega)]; intro h9; first | assumption | (exfalso; omega))) (by intro hv; first | (exfalso; omega) | (rw [← zM_row (a := 243) (by assumption : zk_fr fr_M_again g g1) (by intro i; unfold fr_M_again; omega)]; intro h9; first | rfl | exact absurd (by assumption) h9)) (by intro h0 h1; first | (exfalso; omega) | (rw [← zM_row (a := 243) (by assumption : zk_fr fr_M_again g g1) (by intro i; unfold fr_M_again; omega)]; assumption)) (by omega)
    · refine k_M_comingFrom I_2 ⟨by omega, by omega⟩ (fun v27 b_26 b_27 b_28 => ?_)
      exact hQ _ _ I_2 F_3 ⟨by omega, by omega⟩ (by intro hv; first | (exfalso; omega) | (rw [← zM_row (a := 243) (by assumption : zk_fr fr_M_again g g1) (by intro i; unfold fr_M_again; omega)]; intro h9; first | assumption | (exfalso; omega))) (by intro hv; first | (exfalso; omega) | (rw [← zM_row (a := 243) (by assumption : zk_fr fr_M_again g g1) (by intro i; unfold fr_M_again; omega)]; intro h9; first | rfl | exact absurd (by assumption) h9)) (by intro h0 h1; first | (exfalso; omega) | (rw [← zM_row (a := 243) (by assumption : zk_fr fr_M_again g g1) (by intro i; unfold fr_M_again; omega)]; assumption)) (by omega)
  · exact hQ _ _ I_2 F_3 ⟨by omega, by omega⟩ (by intro hv; first | (exfalso; omega) | (rw [← zM_row (a := 243) (by assumption : zk_fr fr_M_again g g1) (by intro i; unfold fr_M_again; omega)]; intro h9; first | assumption | (exfalso; omega))) (by intro hv; first | (exfalso; omega) | (rw [← zM_row (a := 243) (by assumption : zk_fr fr_M_again g g1) (by intro i; unfold fr_M_again; omega)]; intro h9; first | rfl | exact absurd (by assumption) h9)) (by intro h0 h1; first | (exfalso; omega) | (rw [← zM_row (a := 243) (by assumption : zk_fr fr_M_again g g1) (by intro i; unfold fr_M_again; omega)]; assumption)) (by omega)
