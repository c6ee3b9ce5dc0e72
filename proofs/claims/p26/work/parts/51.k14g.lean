-- part
-- SpoutNewsModel.comingFrom(I)I
set_option maxRecDepth 100000 in
set_option maxHeartbeats 4000000 in
theorem k_M_comingFrom_l7 {l1 : Int} {g : zi_M} (I : zk_I g) {x1 : Int} {K40 : Int → zi_M → Prop} {Q : Int → zi_M → Prop} (hK40 : ∀ (k4 : Int), (0 ≤ k4 ∧ k4 ≤ 65535) → (1 ≤ k4) → (k4 = zco (fun i => i + g 243 i) z17 0 x1 0) → (1 ≤ k4 ∧ k4 ≤ 16) → K40 k4 g) (hQ : ∀ v : Int, (1 ≤ v ∧ v ≤ 65535) → (v = zco (fun i => i + g 243 i) z17 0 l1 0) → (1 ≤ v ∧ v ≤ 16) → Q v g) : ∀ (n : Nat) {l2 : Int} {l3 : Int} {l4 : Int}, (0 ≤ l2 ∧ l2 ≤ 65535) → (0 ≤ l3 ∧ l3 ≤ 15) → (0 ≤ l4 ∧ l4 ≤ 65535) → (l4 ≤ l2) → (¬ l2 = 0 → 1 ≤ l4) → (zpc l2 z16 = l4) → (zco (fun i => i + g 243 i) (17 - l4).toNat l2 l3 l4 = zco (fun i => i + g 243 i) z17 0 x1 0) → 65535 - l2 < (n : Int) → w_M_comingFrom_l7 K40 Q n l2 l3 l4 g
  | 0, l2, l3, l4, b0, b1, b2, b3, b4, b5, b6, hm => by exfalso; omega
  | n + 1, l2, l3, l4, b0, b1, b2, b3, b4, b5, b6, hm => by
    unfold w_M_comingFrom_l7
    have m_3 := zi_r_shr (l2) (l3)
    try have m_4 := (zi_shr_f (l2) (l3)).2 ⟨by omega, by omega⟩
    have m_5 := zi_r_and (zi_shr l2 l3) 1
    try have m_6 := (zi_and_f (zi_shr l2 l3) 1).2.1 ⟨by omega, by omega⟩
    try have m_7 := (zi_and_f (zi_shr l2 l3) 1).2.2 ⟨by omega, by omega⟩
    refine k_M_has I ⟨by omega, by omega⟩ ⟨by omega, by omega⟩ (fun v1 b_1 b_2 => ?_)
    refine ⟨fun c5 => ?_, fun c5 => ?_⟩
    · exact hK40 _ ⟨by omega, by omega⟩ (by omega) (by exact zco_x b6 (by omega) (by have hp := zpc_16 b5; omega)) (by have hp := zpc_16 b5; omega)
    · refine ⟨⟨by omega, by omega⟩, ?_⟩
      have m_8 := zi_r_shl 1 l3
      try have m_9 := (zi_shl_f l3).2.1 ⟨by omega, by omega⟩
      first | have m_10 := (zi_shl_f l3).2.2.1 ⟨by omega, by omega⟩ | have m_11 := (zi_shl_f l3).2.2.2.1 ⟨by omega, by omega⟩ | have m_12 := (zi_shl_f l3).2.2.2.2.1 ⟨by omega, by omega⟩ | have m_13 := (zi_shl_f l3).2.2.2.2.2.1 ⟨by omega, by omega⟩ | have m_14 := (zi_shl_f l3).2.2.2.2.2.2 ⟨by omega, by omega⟩ | skip
      have m_15 := (zi_or_f l2 (zi_shl 1 l3)).2.2.2.2.1 ⟨by omega, by omega, by omega, by omega⟩
      have m_16 := zi_or_new (s := l2) (k := l3) ⟨by omega, by omega⟩ ⟨by omega, by omega⟩ (by omega)
      have m_17 := zk_latin I (i := l3)
      exact k_M_comingFrom_l7 I hK40 hQ n ⟨by omega, by omega⟩ ⟨by omega, by omega⟩ ⟨by omega, by omega⟩ (by omega) (by omega) (by first | exact zpc_st b5 (by omega) ⟨by omega, by omega⟩ ⟨by omega, by omega⟩ | exact zpc_z z16) (by first | exact zco_st b6 (by omega) (by have hp := zpc_16 b5; omega) | exact zco_i (by rw [z17_e]; omega)) (by omega)
set_option maxRecDepth 100000 in
set_option maxHeartbeats 4000000 in
theorem k_M_comingFrom {l1 : Int} {g : zi_M} {Q : Int → zi_M → Prop} (I : zk_I g) (p1 : 0 ≤ l1 ∧ l1 ≤ 15) (hQ : ∀ v : Int, (1 ≤ v ∧ v ≤ 65535) → (v = zco (fun i => i + g 243 i) z17 0 l1 0) → (1 ≤ v ∧ v ≤ 16) → Q v g) : w_M_comingFrom l1 g Q := by
  unfold w_M_comingFrom
  refine ⟨((65535 - 0 : Int).toNat + 1), k_M_comingFrom_l7 (x1 := l1) I (fun k6 b_18 b_19 b_20 b_21 => ?_) hQ ((65535 - 0 : Int).toNat + 1) ⟨by omega, by omega⟩ ⟨by omega, by omega⟩ ⟨by omega, by omega⟩ (by omega) (by omega) (by first | exact zpc_st b5 (by omega) ⟨by omega, by omega⟩ ⟨by omega, by omega⟩ | exact zpc_z z16) (by first | exact zco_st b6 (by omega) (by have hp := zpc_16 b5; omega) | exact zco_i (by rw [z17_e]; omega)) (by omega)⟩
  exact hQ _ ⟨by omega, by omega⟩ (by assumption) (by omega)
