-- part
-- SpoutNews.again(I)I
set_option maxRecDepth 100000 in
set_option maxHeartbeats 4000000 in
theorem k_S_again {l1 : Int} {g : zi_M} {Q : Int → zi_M → Prop} (I : zk_I g) (p1 : (-2147483648) ≤ l1 ∧ l1 ≤ 2147483647) (hQ : ∀ v : Int, ((-2147483648) ≤ v ∧ v ≤ 2147483647) → (l1 = -1 → zst (g 41) z16 = 65535 → v = zal (fun w => zco (g 41) z16 (zi_shl 1 w) (g 41 w) 1) z16) → (l1 = -1 → ¬ zst (g 41) z16 = 65535 → v = -1) → (0 ≤ l1 → l1 ≤ 15 → v = zco (g 41) z16 (zi_shl 1 l1) (g 41 l1) 1) → (l1 < -1 ∨ 15 < l1 → v = -1) → Q v g) : w_S_again l1 g Q := by
  unfold w_S_again
  refine ⟨⟨by omega, by omega⟩, ?_⟩
  refine ⟨fun c12 => ?_, fun c12 => ?_⟩
  · refine k_S_isWord I ⟨by omega, by omega⟩ (fun v2 b_1 b_2 b_3 => ?_)
    refine ⟨fun c8 => ?_, fun c8 => ?_⟩
    · exact hQ _ ⟨by omega, by omega⟩ (by intro hv; first | assumption | (exfalso; omega)) (by intro hv; first | assumption | (exfalso; omega)) (by intro h0 h1; first | assumption | (exfalso; omega)) (by omega)
    · have m_4 : 0 ≤ (g 41 l1) ∧ (g 41 l1) ≤ 15 := I.1 41 l1
      refine k_Thought_stepsAgain I ⟨by omega, by omega⟩ (fun v5 b_5 b_6 b_7 => ?_)
      exact hQ _ ⟨by omega, by omega⟩ (by intro hv; first | assumption | (exfalso; omega)) (by intro hv; first | assumption | (exfalso; omega)) (by intro h0 h1; first | assumption | (exfalso; omega)) (by omega)
  · refine k_Thought_allAgain I (fun v9 b_8 b_9 b_10 => ?_)
    exact hQ _ ⟨by omega, by omega⟩ (by intro hv; first | assumption | (exfalso; omega)) (by intro hv; first | assumption | (exfalso; omega)) (by intro h0 h1; first | assumption | (exfalso; omega)) (by omega)
