-- part
-- SpoutNewsModel.isOneToOne()Z
set_option maxRecDepth 100000 in
set_option maxHeartbeats 4000000 in
theorem k_M_isOneToOne_l4 {g : zi_M} (I : zk_I g) {K29 : Int → zi_M → Prop} {Q : Int → zi_M → Prop} (hK29 : ∀ (k1 : Int), ((-2147483648) ≤ k1 ∧ k1 ≤ 2147483647) → (k1 = zst (fun i => i + g 243 i) z16) → K29 k1 g) (hQ : ∀ v : Int, (0 ≤ v ∧ v ≤ 1) → (zst (fun i => i + g 243 i) z16 = 65535 → v = 1) → (¬ zst (fun i => i + g 243 i) z16 = 65535 → v = 0) → Q v g) : ∀ (n : Nat) {l1 : Int} {l2 : Int}, ((-2147483648) ≤ l1 ∧ l1 ≤ 2147483647) → (0 ≤ l2 ∧ l2 ≤ 16) → (l1 = zst (fun i => i + g 243 i) l2.toNat) → 16 - l2 < (n : Int) → w_M_isOneToOne_l4 K29 Q n l1 l2 g
  | 0, l1, l2, b0, b1, b2, hm => by exfalso; omega
  | n + 1, l1, l2, b0, b1, b2, hm => by
    unfold w_M_isOneToOne_l4
    refine ⟨⟨by omega, by omega⟩, ?_⟩
    refine ⟨fun c3 => ?_, fun c3 => ?_⟩
    · exact hK29 _ ⟨by omega, by omega⟩ (by exact zst_e b2 (by rw [z16_e]; omega))
    · refine ⟨⟨by omega, by omega⟩, ?_⟩
      have m_1 := zk_latin I (i := l2)
      have m_2 := zi_r_shl 1 (l2 + (g 243 l2))
      try have m_3 := (zi_shl_f (l2 + (g 243 l2))).2.1 ⟨by omega, by omega⟩
      first | have m_4 := (zi_shl_f (l2 + (g 243 l2))).2.2.1 ⟨by omega, by omega⟩ | have m_5 := (zi_shl_f (l2 + (g 243 l2))).2.2.2.1 ⟨by omega, by omega⟩ | have m_6 := (zi_shl_f (l2 + (g 243 l2))).2.2.2.2.1 ⟨by omega, by omega⟩ | have m_7 := (zi_shl_f (l2 + (g 243 l2))).2.2.2.2.2.1 ⟨by omega, by omega⟩ | have m_8 := (zi_shl_f (l2 + (g 243 l2))).2.2.2.2.2.2 ⟨by omega, by omega⟩ | skip
      first | have m_9 := (zi_or_f l1 (zi_shl 1 (l2 + (g 243 l2)))).2.1 ⟨by omega, by omega, by omega, by omega⟩ | have m_9 := (zi_or_f l1 (zi_shl 1 (l2 + (g 243 l2)))).2.2.1 ⟨by omega, by omega, by omega, by omega⟩ | have m_9 := (zi_or_f l1 (zi_shl 1 (l2 + (g 243 l2)))).2.2.2.1 ⟨by omega, by omega, by omega, by omega⟩ | have m_9 := (zi_or_f l1 (zi_shl 1 (l2 + (g 243 l2)))).2.2.2.2.1 ⟨by omega, by omega, by omega, by omega⟩ | have m_9 := (zi_or_f l1 (zi_shl 1 (l2 + (g 243 l2)))).2.2.2.2.2 ⟨by omega, by omega, by omega, by omega⟩ | have m_9 := zi_r_or l1 (zi_shl 1 (l2 + (g 243 l2)))
      exact k_M_isOneToOne_l4 I hK29 hQ n ⟨by omega, by omega⟩ ⟨by omega, by omega⟩ (by first | exact zst_s b2 (by omega) | rfl) (by omega)
set_option maxRecDepth 100000 in
set_option maxHeartbeats 4000000 in
theorem k_M_isOneToOne {g : zi_M} {Q : Int → zi_M → Prop} (I : zk_I g) (hQ : ∀ v : Int, (0 ≤ v ∧ v ≤ 1) → (zst (fun i => i + g 243 i) z16 = 65535 → v = 1) → (¬ zst (fun i => i + g 243 i) z16 = 65535 → v = 0) → Q v g) : w_M_isOneToOne g Q := by
  unfold w_M_isOneToOne
  refine ⟨((16 - 0 : Int).toNat + 1), k_M_isOneToOne_l4 I (fun k4 b_10 b_11 => ?_) hQ ((16 - 0 : Int).toNat + 1) ⟨by omega, by omega⟩ ⟨by omega, by omega⟩ (by first | exact zst_s b2 (by omega) | rfl) (by omega)⟩
  refine ⟨⟨by omega, by omega⟩, ?_⟩
  refine ⟨fun c7 => ?_, fun c7 => ?_⟩
  · exact hQ _ ⟨by omega, by omega⟩ (by intro hv; first | rfl | (exfalso; omega)) (by intro hv; first | rfl | (exfalso; omega))
  · exact hQ _ ⟨by omega, by omega⟩ (by intro hv; first | rfl | (exfalso; omega)) (by intro hv; first | rfl | (exfalso; omega))
