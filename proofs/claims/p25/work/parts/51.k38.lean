-- by program (wip/gen/mkz.py)
-- SpoutNews.latin(II)Z
set_option maxRecDepth 100000 in
set_option maxHeartbeats 4000000 in
theorem k_S_latin {l1 : Int} {l2 : Int} {g : zi_M} {Q : Int → zi_M → Prop} (I : zk_I g) (p1 : (-2147483648) ≤ l1 ∧ l1 ≤ 2147483647) (p2 : (-2147483648) ≤ l2 ∧ l2 ≤ 2147483647) (hQ : ∀ (v : Int) (g' : zi_M), zk_I g' → zk_fr fr_S_latin g g' → (0 ≤ v ∧ v ≤ 1) → (0 ≤ l1 ∧ l1 ≤ 15 ∧ 0 ≤ l2 ∧ l2 ≤ 15 → v = 1) → (¬ (0 ≤ l1 ∧ l1 ≤ 15 ∧ 0 ≤ l2 ∧ l2 ≤ 15) → v = 0) → (∀ k : Int, 0 ≤ k ∧ k < 16 → (0 ≤ l1 ∧ l1 ≤ 15 ∧ 0 ≤ l2 ∧ l2 ≤ 15 ∧ k = l1 → g' 41 k = l2) ∧ (¬ (0 ≤ l1 ∧ l1 ≤ 15 ∧ 0 ≤ l2 ∧ l2 ≤ 15 ∧ k = l1) → g' 41 k = g 41 k)) → Q v g') : w_S_latin l1 l2 g Q := by
  unfold w_S_latin
  refine k_S_isWord I ⟨by omega, by omega⟩ (fun v1 b_1 b_2 b_3 => ?_)
  refine ⟨fun c10 => ?_, fun c10 => ?_⟩
  · have z_5 : ∀ k : Int, 0 ≤ k ∧ k < 16 → (0 ≤ l1 ∧ l1 ≤ 15 ∧ 0 ≤ l2 ∧ l2 ≤ 15 ∧ k = l1 → g 41 k = l2) ∧ (¬ (0 ≤ l1 ∧ l1 ≤ 15 ∧ 0 ≤ l2 ∧ l2 ≤ 15 ∧ k = l1) → g 41 k = g 41 k) := by
      intro k hk
      have m_4 : 0 ≤ (g 41 k) ∧ (g 41 k) ≤ 15 := I.1 41 k
      omega
    exact hQ _ _ I (zk_f0 _) ⟨by omega, by omega⟩ (by omega) (by omega) z_5
  · refine k_S_isWord I ⟨by omega, by omega⟩ (fun v4 b_6 b_7 b_8 => ?_)
    refine ⟨fun c9 => ?_, fun c9 => ?_⟩
    · refine ⟨⟨by omega, by omega⟩, ?_⟩
      intro g8 e_9
      have I_10 : zk_I g8 := by rw [e_9]; exact zk_upd (L := 0) (H := 15) rfl rfl I ⟨by omega, by omega⟩
      have F_11 : zk_fr fr_S_latin g g8 := by rw [e_9]; exact zk_fu (zk_f0 _) rfl
      have z_15 : ∀ k : Int, 0 ≤ k ∧ k < 16 → (0 ≤ l1 ∧ l1 ≤ 15 ∧ 0 ≤ l2 ∧ l2 ≤ 15 ∧ k = l1 → g8 41 k = l2) ∧ (¬ (0 ≤ l1 ∧ l1 ≤ 15 ∧ 0 ≤ l2 ∧ l2 ≤ 15 ∧ k = l1) → g8 41 k = g 41 k) := by
        intro k hk
        have m_12 : 0 ≤ (g8 41 k) ∧ (g8 41 k) ≤ 15 := I_10.1 41 k
        have m_13 : 0 ≤ (g 41 k) ∧ (g 41 k) ≤ 15 := I.1 41 k
        have m_14 : (k = l1 → g8 41 k = l2) ∧ (¬ k = l1 → g8 41 k = g 41 k) := by rw [e_9]; exact zi_u_if
        omega
      exact hQ _ _ I_10 F_11 ⟨by omega, by omega⟩ (by omega) (by omega) z_15
    · have z_17 : ∀ k : Int, 0 ≤ k ∧ k < 16 → (0 ≤ l1 ∧ l1 ≤ 15 ∧ 0 ≤ l2 ∧ l2 ≤ 15 ∧ k = l1 → g 41 k = l2) ∧ (¬ (0 ≤ l1 ∧ l1 ≤ 15 ∧ 0 ≤ l2 ∧ l2 ≤ 15 ∧ k = l1) → g 41 k = g 41 k) := by
        intro k hk
        have m_16 : 0 ≤ (g 41 k) ∧ (g 41 k) ≤ 15 := I.1 41 k
        omega
      exact hQ _ _ I (zk_f0 _) ⟨by omega, by omega⟩ (by omega) (by omega) z_17
-- SpoutNewsModel.latin(II)Z
set_option maxRecDepth 100000 in
set_option maxHeartbeats 4000000 in
theorem k_M_latin {l1 : Int} {l2 : Int} {g : zi_M} {Q : Int → zi_M → Prop} (I : zk_I g) (p1 : (-2147483648) ≤ l1 ∧ l1 ≤ 2147483647) (p2 : (-2147483648) ≤ l2 ∧ l2 ≤ 2147483647) (hQ : ∀ (v : Int) (g' : zi_M), zk_I g' → zk_fr fr_M_latin g g' → (0 ≤ v ∧ v ≤ 1) → (0 ≤ l1 ∧ l1 ≤ 15 ∧ 0 ≤ l2 ∧ l2 ≤ 15 → v = 1) → (¬ (0 ≤ l1 ∧ l1 ≤ 15 ∧ 0 ≤ l2 ∧ l2 ≤ 15) → v = 0) → (∀ k : Int, 0 ≤ k ∧ k < 16 → (0 ≤ l1 ∧ l1 ≤ 15 ∧ 0 ≤ l2 ∧ l2 ≤ 15 ∧ k = l1 → g' 243 k = l2 - l1) ∧ (¬ (0 ≤ l1 ∧ l1 ≤ 15 ∧ 0 ≤ l2 ∧ l2 ≤ 15 ∧ k = l1) → g' 243 k = g 243 k)) → Q v g') : w_M_latin l1 l2 g Q := by
  unfold w_M_latin
  intro g1 e_1
  have I_2 : zk_I g1 := by rw [e_1]; exact zk_upd (L := (-2147483648)) (H := 2147483647) rfl rfl I ⟨by omega, by omega⟩
  have F_3 : zk_fr fr_M_latin g g1 := by rw [e_1]; exact zk_fu (zk_f0 _) (Or.inr ⟨rfl, rfl⟩)
  refine k_M_isIn I_2 ⟨by omega, by omega⟩ ⟨by omega, by omega⟩ ⟨by omega, by omega⟩ (fun v2 b_4 b_5 b_6 => ?_)
  refine ⟨fun c11 => ?_, fun c11 => ?_⟩
  · have z_10 : ∀ k : Int, 0 ≤ k ∧ k < 16 → (0 ≤ l1 ∧ l1 ≤ 15 ∧ 0 ≤ l2 ∧ l2 ≤ 15 ∧ k = l1 → g1 243 k = l2 - l1) ∧ (¬ (0 ≤ l1 ∧ l1 ≤ 15 ∧ 0 ≤ l2 ∧ l2 ≤ 15 ∧ k = l1) → g1 243 k = g 243 k) := by
      intro k hk
      have m_7 := zk_latin I_2 (i := k)
      have m_8 : g1 243 k = g 243 k := by rw [e_1]; exact zi_u_ne (by decide)
      have m_9 := zk_latin I (i := k)
      omega
    exact hQ _ _ I_2 F_3 ⟨by omega, by omega⟩ (by omega) (by omega) z_10
  · refine k_M_isIn I_2 ⟨by omega, by omega⟩ ⟨by omega, by omega⟩ ⟨by omega, by omega⟩ (fun v5 b_11 b_12 b_13 => ?_)
    refine ⟨fun c10 => ?_, fun c10 => ?_⟩
    · refine ⟨⟨by omega, by omega⟩, ?_⟩
      intro g9 e_14
      have I_15 : zk_I g9 := by rw [e_14]; exact zk_upd (zk_ll (i := l1) (by omega)).1 (zk_ll (i := l1) (by omega)).2 I_2 ⟨by omega, by omega⟩
      have F_16 : zk_fr fr_M_latin g g9 := by rw [e_14]; exact zk_fu F_3 (Or.inl rfl)
      have z_22 : ∀ k : Int, 0 ≤ k ∧ k < 16 → (0 ≤ l1 ∧ l1 ≤ 15 ∧ 0 ≤ l2 ∧ l2 ≤ 15 ∧ k = l1 → g9 243 k = l2 - l1) ∧ (¬ (0 ≤ l1 ∧ l1 ≤ 15 ∧ 0 ≤ l2 ∧ l2 ≤ 15 ∧ k = l1) → g9 243 k = g 243 k) := by
        intro k hk
        have m_17 := zk_latin I_15 (i := k)
        have m_18 := zk_latin I_2 (i := k)
        have m_19 : g1 243 k = g 243 k := by rw [e_1]; exact zi_u_ne (by decide)
        have m_20 := zk_latin I (i := k)
        have m_21 : (k = l1 → g9 243 k = l2 - l1) ∧ (¬ k = l1 → g9 243 k = g1 243 k) := by rw [e_14]; exact zi_u_if
        omega
      exact hQ _ _ I_15 F_16 ⟨by omega, by omega⟩ (by omega) (by omega) z_22
    · have z_26 : ∀ k : Int, 0 ≤ k ∧ k < 16 → (0 ≤ l1 ∧ l1 ≤ 15 ∧ 0 ≤ l2 ∧ l2 ≤ 15 ∧ k = l1 → g1 243 k = l2 - l1) ∧ (¬ (0 ≤ l1 ∧ l1 ≤ 15 ∧ 0 ≤ l2 ∧ l2 ≤ 15 ∧ k = l1) → g1 243 k = g 243 k) := by
        intro k hk
        have m_23 := zk_latin I_2 (i := k)
        have m_24 : g1 243 k = g 243 k := by rw [e_1]; exact zi_u_ne (by decide)
        have m_25 := zk_latin I (i := k)
        omega
      exact hQ _ _ I_2 F_3 ⟨by omega, by omega⟩ (by omega) (by omega) z_26
-- SpoutNews$Thought.stepsAgain(LSpoutNews$Told;I)I
set_option maxRecDepth 100000 in
set_option maxHeartbeats 4000000 in
theorem k_Thought_stepsAgain_l10 {l2 : Int} {g : zi_M} (I : zk_I g) {x2 : Int} {K36 : Int → zi_M → Prop} {K52 : zi_M → Prop} {Q : Int → zi_M → Prop} (hK36 : ∀ (k5 : Int), (1 ≤ k5 ∧ k5 ≤ 16) → (k5 = zco (g 41) z16 (zi_shl 1 x2) (g 41 x2) 1) → K36 k5 g) (hK52 : (False) → K52 g) (hQ : ∀ v : Int, ((-1) ≤ v ∧ v ≤ 16) → (v = zco (g 41) z16 (zi_shl 1 l2) (g 41 l2) 1) → (1 ≤ v ∧ v ≤ 16) → Q v g) : ∀ (n : Nat) {l3 : Int} {l4 : Int} {l5 : Int}, (0 ≤ l3 ∧ l3 ≤ 65535) → (0 ≤ l4 ∧ l4 ≤ 15) → (1 ≤ l5 ∧ l5 ≤ 17) → (zpc l3 z16 = l5) → (zco (g 41) (17 - l5).toNat l3 (g 41 l4) l5 = zco (g 41) z16 (zi_shl 1 x2) (g 41 x2) 1) → 17 - l5 < (n : Int) → w_Thought_stepsAgain_l10 K36 K52 Q n l3 l4 l5 g
  | 0, l3, l4, l5, b0, b1, b2, b3, b4, hm => by exfalso; omega
  | n + 1, l3, l4, l5, b0, b1, b2, b3, b4, hm => by
    unfold w_Thought_stepsAgain_l10
    refine ⟨⟨by omega, by omega⟩, ?_⟩
    refine ⟨fun c4 => ?_, fun c4 => ?_⟩
    · exact hK52 (by have hp := zpc_16 b3; omega)
    · refine ⟨⟨by omega, by omega⟩, ?_⟩
      have m_1 : 0 ≤ (g 41 l4) ∧ (g 41 l4) ≤ 15 := I.1 41 l4
      have m_2 := zi_r_shr l3 (g 41 l4)
      try have m_3 := (zi_shr_f l3 (g 41 l4)).2 ⟨by omega, by omega⟩
      have m_4 := zi_r_and (zi_shr l3 (g 41 l4)) 1
      try have m_5 := (zi_and_f (zi_shr l3 (g 41 l4)) 1).2.1 ⟨by omega, by omega⟩
      try have m_6 := (zi_and_f (zi_shr l3 (g 41 l4)) 1).2.2 ⟨by omega, by omega⟩
      refine ⟨fun c3 => ?_, fun c3 => ?_⟩
      · have m_7 := zi_r_shl 1 (g 41 l4)
        try have m_8 := (zi_shl_f (g 41 l4)).2.1 ⟨by omega, by omega⟩
        first | have m_9 := (zi_shl_f (g 41 l4)).2.2.1 ⟨by omega, by omega⟩ | have m_10 := (zi_shl_f (g 41 l4)).2.2.2.1 ⟨by omega, by omega⟩ | have m_11 := (zi_shl_f (g 41 l4)).2.2.2.2.1 ⟨by omega, by omega⟩ | have m_12 := (zi_shl_f (g 41 l4)).2.2.2.2.2.1 ⟨by omega, by omega⟩ | have m_13 := (zi_shl_f (g 41 l4)).2.2.2.2.2.2 ⟨by omega, by omega⟩ | skip
        first | have m_14 := (zi_or_f l3 (zi_shl 1 (g 41 l4))).2.1 ⟨by omega, by omega, by omega, by omega⟩ | have m_14 := (zi_or_f l3 (zi_shl 1 (g 41 l4))).2.2.1 ⟨by omega, by omega, by omega, by omega⟩ | have m_14 := (zi_or_f l3 (zi_shl 1 (g 41 l4))).2.2.2.1 ⟨by omega, by omega, by omega, by omega⟩ | have m_14 := (zi_or_f l3 (zi_shl 1 (g 41 l4))).2.2.2.2.1 ⟨by omega, by omega, by omega, by omega⟩ | have m_14 := (zi_or_f l3 (zi_shl 1 (g 41 l4))).2.2.2.2.2 ⟨by omega, by omega, by omega, by omega⟩ | have m_14 := zi_r_or l3 (zi_shl 1 (g 41 l4))
        have m_15 : 0 ≤ (g 41 (g 41 l4)) ∧ (g 41 (g 41 l4)) ≤ 15 := I.1 41 (g 41 l4)
        have m_16 : 0 ≤ (g 41 x2) ∧ (g 41 x2) ≤ 15 := I.1 41 x2
        exact k_Thought_stepsAgain_l10 I hK36 hK52 hQ n ⟨by omega, by omega⟩ ⟨by omega, by omega⟩ ⟨by omega, by omega⟩ (by first | exact zpc_st b3 (by assumption) ⟨by omega, by omega⟩ ⟨by omega, by omega⟩ | exact zpc_1 ⟨by omega, by omega⟩) (by first | exact zco_st b4 (by assumption) (by omega) | exact zco_i (by rw [z16_e]; omega)) (by omega)
      · have m_17 : 0 ≤ (g 41 x2) ∧ (g 41 x2) ≤ 15 := I.1 41 x2
        exact hK36 _ ⟨by omega, by omega⟩ (by exact zco_x b4 (by assumption) (by omega))
set_option maxRecDepth 100000 in
set_option maxHeartbeats 4000000 in
theorem k_Thought_stepsAgain {l2 : Int} {g : zi_M} {Q : Int → zi_M → Prop} (I : zk_I g) (p2 : 0 ≤ l2 ∧ l2 ≤ 15) (hQ : ∀ v : Int, ((-1) ≤ v ∧ v ≤ 16) → (v = zco (g 41) z16 (zi_shl 1 l2) (g 41 l2) 1) → (1 ≤ v ∧ v ≤ 16) → Q v g) : w_Thought_stepsAgain l2 g Q := by
  unfold w_Thought_stepsAgain
  have m_21 := zi_r_shl 1 l2
  try have m_22 := (zi_shl_f l2).2.1 ⟨by omega, by omega⟩
  first | have m_23 := (zi_shl_f l2).2.2.1 ⟨by omega, by omega⟩ | have m_24 := (zi_shl_f l2).2.2.2.1 ⟨by omega, by omega⟩ | have m_25 := (zi_shl_f l2).2.2.2.2.1 ⟨by omega, by omega⟩ | have m_26 := (zi_shl_f l2).2.2.2.2.2.1 ⟨by omega, by omega⟩ | have m_27 := (zi_shl_f l2).2.2.2.2.2.2 ⟨by omega, by omega⟩ | skip
  have m_28 : 0 ≤ (g 41 l2) ∧ (g 41 l2) ≤ 15 := I.1 41 l2
  refine ⟨((17 - 1 : Int).toNat + 1), k_Thought_stepsAgain_l10 (x2 := l2) I (fun k5 b_18 b_19 => ?_) (fun b_20 => ?_) hQ ((17 - 1 : Int).toNat + 1) ⟨by omega, by omega⟩ ⟨by omega, by omega⟩ ⟨by omega, by omega⟩ (by first | exact zpc_st b3 (by assumption) ⟨by omega, by omega⟩ ⟨by omega, by omega⟩ | exact zpc_1 ⟨by omega, by omega⟩) (by first | exact zco_st b4 (by assumption) (by omega) | exact zco_i (by rw [z16_e]; omega)) (by omega)⟩
  · exact hQ _ ⟨by omega, by omega⟩ (by first | assumption | (exfalso; assumption)) (by first | omega | (exfalso; assumption))
  · exact hQ _ ⟨by omega, by omega⟩ (by first | assumption | (exfalso; assumption)) (by first | omega | (exfalso; assumption))
-- SpoutNews$Thought.commonMultiple(II)I
set_option maxRecDepth 100000 in
set_option maxHeartbeats 4000000 in
theorem k_Thought_commonMultiple_l2 {g : zi_M} (I : zk_I g) {l0 : Int} {l1 : Int} {K15 : Int → zi_M → Prop} {K25 : zi_M → Prop} {Q : Int → zi_M → Prop} (q0 : (-2147483648) ≤ l0 ∧ l0 ≤ 2147483647) (q1 : (-1) ≤ l1 ∧ l1 ≤ 16) (hK15 : ∀ (k2 : Int), (1 ≤ k2 ∧ k2 ≤ 16) → (zcm l0 l1 k2) → (Int.tmod (zi_w (l0 * k2)) l1 = 0) → K15 k2 g) (hK25 : (1 ≤ l0 → l0 ≤ 720720 → 1 ≤ l1 → False) → K25 g) (hQ : ∀ v : Int, ((-2147483648) ≤ v ∧ v ≤ 2147483647) → (1 ≤ l0 → l0 ≤ 720720 → 1 ≤ l1 → v = ((Nat.lcm l0.toNat l1.toNat : Nat) : Int)) → Q v g) : ∀ (n : Nat) {l2 : Int}, (1 ≤ l2 ∧ l2 ≤ 17) → (zcm l0 l1 l2) → 17 - l2 < (n : Int) → w_Thought_commonMultiple_l2 l0 l1 K15 K25 Q n l2 g
  | 0, l2, b0, b1, hm => by exfalso; omega
  | n + 1, l2, b0, b1, hm => by
    unfold w_Thought_commonMultiple_l2
    refine ⟨⟨by omega, by omega⟩, ⟨by omega, by omega⟩, ?_⟩
    refine ⟨fun c6 => ?_, fun c6 => ?_⟩
    · exact hK25 (by exact zcm_n b1 (by omega))
    · refine ⟨(by omega), ?_⟩
      have m_1 := zi_r_w (l0 * l2)
      have m_2 := zi_tmod_f (zi_w (l0 * l2)) l1
      refine ⟨⟨by omega, by omega⟩, ?_⟩
      refine ⟨fun c5 => ?_, fun c5 => ?_⟩
      · exact k_Thought_commonMultiple_l2 I q0 q1 hK15 hK25 hQ n ⟨by omega, by omega⟩ (by first | exact zcm_st b1 ⟨by omega, by omega⟩ (by assumption) | exact zcm_0) (by omega)
      · exact hK15 _ ⟨by omega, by omega⟩ (by exact b1) (by assumption)
set_option maxRecDepth 100000 in
set_option maxHeartbeats 4000000 in
theorem k_Thought_commonMultiple {l0 : Int} {l1 : Int} {g : zi_M} {Q : Int → zi_M → Prop} (I : zk_I g) (p0 : (-2147483648) ≤ l0 ∧ l0 ≤ 2147483647) (p1 : (-1) ≤ l1 ∧ l1 ≤ 16) (hQ : ∀ v : Int, ((-2147483648) ≤ v ∧ v ≤ 2147483647) → (1 ≤ l0 → l0 ≤ 720720 → 1 ≤ l1 → v = ((Nat.lcm l0.toNat l1.toNat : Nat) : Int)) → Q v g) : w_Thought_commonMultiple l0 l1 g Q := by
  unfold w_Thought_commonMultiple
  refine ⟨((17 - 1 : Int).toNat + 1), k_Thought_commonMultiple_l2 (l0 := l0) (l1 := l1) I ⟨by omega, by omega⟩ ⟨by omega, by omega⟩ (fun k7 b_3 b_4 b_5 => ?_) (fun b_7 => ?_) hQ ((17 - 1 : Int).toNat + 1) ⟨by omega, by omega⟩ (by first | exact zcm_st b1 ⟨by omega, by omega⟩ (by assumption) | exact zcm_0) (by omega)⟩
  · have m_6 := zi_r_w (l0 * k7)
    exact hQ _ ⟨by omega, by omega⟩ (by first | exact zcm_x (by assumption) (by assumption) ⟨by omega, by omega⟩ | (intro h1 h2 h3; exact False.elim ((by assumption : 1 ≤ l0 → l0 ≤ 720720 → 1 ≤ l1 → False) h1 h2 h3)))
  · exact hQ _ ⟨by omega, by omega⟩ (by first | exact zcm_x (by assumption) (by assumption) ⟨by omega, by omega⟩ | (intro h1 h2 h3; exact False.elim ((by assumption : 1 ≤ l0 → l0 ≤ 720720 → 1 ≤ l1 → False) h1 h2 h3)))
-- SpoutNews$Thought.allAgain(LSpoutNews$Told;)I
set_option maxRecDepth 100000 in
set_option maxHeartbeats 4000000 in
theorem k_Thought_allAgain_l4 {g : zi_M} (I : zk_I g) {K27 : Int → zi_M → Prop} {Q : Int → zi_M → Prop} (hK27 : ∀ (k2 : Int), (0 ≤ k2 ∧ k2 ≤ 65535) → (k2 = zst (g 41) z16) → K27 k2 g) (hQ : ∀ v : Int, ((-2147483648) ≤ v ∧ v ≤ 2147483647) → (zst (g 41) z16 = 65535 → v = zal (fun w => zco (g 41) z16 (zi_shl 1 w) (g 41 w) 1) z16) → (¬ zst (g 41) z16 = 65535 → v = -1) → Q v g) : ∀ (n : Nat) {l2 : Int} {l3 : Int}, (0 ≤ l2 ∧ l2 ≤ 65535) → (0 ≤ l3 ∧ l3 ≤ 16) → (l2 = zst (g 41) l3.toNat) → 16 - l3 < (n : Int) → w_Thought_allAgain_l4 K27 Q n l2 l3 g
  | 0, l2, l3, b0, b1, b2, hm => by exfalso; omega
  | n + 1, l2, l3, b0, b1, b2, hm => by
    unfold w_Thought_allAgain_l4
    refine ⟨⟨by omega, by omega⟩, ?_⟩
    refine ⟨fun c3 => ?_, fun c3 => ?_⟩
    · exact hK27 _ ⟨by omega, by omega⟩ (by exact zst_e b2 (by rw [z16_e]; omega))
    · refine ⟨⟨by omega, by omega⟩, ?_⟩
      have m_1 : 0 ≤ (g 41 l3) ∧ (g 41 l3) ≤ 15 := I.1 41 l3
      have m_2 := zi_r_shl 1 (g 41 l3)
      try have m_3 := (zi_shl_f (g 41 l3)).2.1 ⟨by omega, by omega⟩
      first | have m_4 := (zi_shl_f (g 41 l3)).2.2.1 ⟨by omega, by omega⟩ | have m_5 := (zi_shl_f (g 41 l3)).2.2.2.1 ⟨by omega, by omega⟩ | have m_6 := (zi_shl_f (g 41 l3)).2.2.2.2.1 ⟨by omega, by omega⟩ | have m_7 := (zi_shl_f (g 41 l3)).2.2.2.2.2.1 ⟨by omega, by omega⟩ | have m_8 := (zi_shl_f (g 41 l3)).2.2.2.2.2.2 ⟨by omega, by omega⟩ | skip
      first | have m_9 := (zi_or_f l2 (zi_shl 1 (g 41 l3))).2.1 ⟨by omega, by omega, by omega, by omega⟩ | have m_9 := (zi_or_f l2 (zi_shl 1 (g 41 l3))).2.2.1 ⟨by omega, by omega, by omega, by omega⟩ | have m_9 := (zi_or_f l2 (zi_shl 1 (g 41 l3))).2.2.2.1 ⟨by omega, by omega, by omega, by omega⟩ | have m_9 := (zi_or_f l2 (zi_shl 1 (g 41 l3))).2.2.2.2.1 ⟨by omega, by omega, by omega, by omega⟩ | have m_9 := (zi_or_f l2 (zi_shl 1 (g 41 l3))).2.2.2.2.2 ⟨by omega, by omega, by omega, by omega⟩ | have m_9 := zi_r_or l2 (zi_shl 1 (g 41 l3))
      exact k_Thought_allAgain_l4 I hK27 hQ n ⟨by omega, by omega⟩ ⟨by omega, by omega⟩ (by first | exact zst_s b2 (by omega) | rfl) (by omega)
set_option maxRecDepth 100000 in
set_option maxHeartbeats 4000000 in
theorem k_Thought_allAgain_l43 {g : zi_M} (I : zk_I g) {K68 : Int → zi_M → Prop} {Q : Int → zi_M → Prop} (hK68 : ∀ (k3 : Int), ((-2147483648) ≤ k3 ∧ k3 ≤ 2147483647) → (k3 = zal (fun w => zco (g 41) z16 (zi_shl 1 w) (g 41 w) 1) z16) → K68 k3 g) (hQ : ∀ v : Int, ((-2147483648) ≤ v ∧ v ≤ 2147483647) → (zst (g 41) z16 = 65535 → v = zal (fun w => zco (g 41) z16 (zi_shl 1 w) (g 41 w) 1) z16) → (¬ zst (g 41) z16 = 65535 → v = -1) → Q v g) : ∀ (n : Nat) {l3 : Int} {l4 : Int}, ((-2147483648) ≤ l3 ∧ l3 ≤ 2147483647) → (0 ≤ l4 ∧ l4 ≤ 16) → (l3 = zal (fun w => zco (g 41) z16 (zi_shl 1 w) (g 41 w) 1) l4.toNat) → (1 ≤ l3 ∧ l3.toNat ∣ 720720) → 16 - l4 < (n : Int) → w_Thought_allAgain_l43 K68 Q n l3 l4 g
  | 0, l3, l4, b0, b1, b2, b3, hm => by exfalso; omega
  | n + 1, l3, l4, b0, b1, b2, b3, hm => by
    unfold w_Thought_allAgain_l43
    refine ⟨⟨by omega, by omega⟩, ?_⟩
    refine ⟨fun c17 => ?_, fun c17 => ?_⟩
    · exact hK68 _ ⟨by omega, by omega⟩ (by exact zal_e b2 (by rw [z16_e]; omega))
    · have m_14 : 0 ≤ (g 41 l4) ∧ (g 41 l4) ≤ 15 := I.1 41 l4
      refine k_Thought_stepsAgain I ⟨by omega, by omega⟩ (fun v11 b_15 b_16 b_17 => ?_)
      refine k_Thought_commonMultiple I ⟨by omega, by omega⟩ ⟨by omega, by omega⟩ (fun v14 b_18 b_19 => ?_)
      exact k_Thought_allAgain_l43 I hK68 hQ n ⟨by omega, by omega⟩ ⟨by omega, by omega⟩ (by first | exact zal_st (by assumption) b2 b3 (by assumption) (by assumption) (by omega) | exact zal_1) (by first | exact zal_sd (by assumption) b3 (by assumption) | exact ⟨by decide, by decide⟩) (by omega)
set_option maxRecDepth 100000 in
set_option maxHeartbeats 4000000 in
theorem k_Thought_allAgain {g : zi_M} {Q : Int → zi_M → Prop} (I : zk_I g) (hQ : ∀ v : Int, ((-2147483648) ≤ v ∧ v ≤ 2147483647) → (zst (g 41) z16 = 65535 → v = zal (fun w => zco (g 41) z16 (zi_shl 1 w) (g 41 w) 1) z16) → (¬ zst (g 41) z16 = 65535 → v = -1) → Q v g) : w_Thought_allAgain g Q := by
  unfold w_Thought_allAgain
  refine ⟨((16 - 0 : Int).toNat + 1), k_Thought_allAgain_l4 I (fun k4 b_10 b_11 => ?_) hQ ((16 - 0 : Int).toNat + 1) ⟨by omega, by omega⟩ ⟨by omega, by omega⟩ (by first | exact zst_s b2 (by omega) | rfl) (by omega)⟩
  refine k_Integer_bitCount I ⟨by omega, by omega⟩ (fun v6 b_12 b_13 => ?_)
  refine ⟨⟨by omega, by omega⟩, ?_⟩
  refine ⟨fun c21 => ?_, fun c21 => ?_⟩
  · refine ⟨((16 - 0 : Int).toNat + 1), k_Thought_allAgain_l43 I (fun k18 b_20 b_21 => ?_) hQ ((16 - 0 : Int).toNat + 1) ⟨by omega, by omega⟩ ⟨by omega, by omega⟩ (by first | exact zal_st (by assumption) b2 b3 (by assumption) (by assumption) (by omega) | exact zal_1) (by first | exact zal_sd (by assumption) b3 (by assumption) | exact ⟨by decide, by decide⟩) (by omega)⟩
    exact hQ _ ⟨by omega, by omega⟩ (by intro hv; first | assumption | exact absurd hv (zbc_p (by assumption) ⟨by omega, by omega⟩ (by assumption) (by omega))) (by intro hv; first | rfl | exact absurd (zbc_q (by assumption) ⟨by omega, by omega⟩ (by assumption) (by omega)) hv)
  · exact hQ _ ⟨by omega, by omega⟩ (by intro hv; first | assumption | exact absurd hv (zbc_p (by assumption) ⟨by omega, by omega⟩ (by assumption) (by omega))) (by intro hv; first | rfl | exact absurd (zbc_q (by assumption) ⟨by omega, by omega⟩ (by assumption) (by omega)) hv)
-- SpoutNews.again(I)I
set_option maxRecDepth 100000 in
set_option maxHeartbeats 4000000 in
theorem k_S_again {l1 : Int} {g : zi_M} {Q : Int → zi_M → Prop} (I : zk_I g) (p1 : (-2147483648) ≤ l1 ∧ l1 ≤ 2147483647) (hQ : ∀ v : Int, ((-2147483648) ≤ v ∧ v ≤ 2147483647) → (l1 = -1 → zst (g 41) z16 = 65535 → v = zal (fun w => zco (g 41) z16 (zi_shl 1 w) (g 41 w) 1) z16) → (l1 = -1 → ¬ zst (g 41) z16 = 65535 → v = -1) → (0 ≤ l1 → l1 ≤ 15 → v = zco (g 41) z16 (zi_shl 1 l1) (g 41 l1) 1) → (l1 < -1 ∨ 15 < l1 → v = -1) → Q v g) : w_S_again l1 g Q := by
  unfold w_S_again
  refine ⟨⟨by omega, by omega⟩, ?_⟩
  refine ⟨fun c12 => ?_, fun c12 => ?_⟩
  · refine k_S_isWord I ⟨by omega, by omega⟩ (fun v2 b_1 b_2 b_3 => ?_)
    refine ⟨fun c8 => ?_, fun c8 => ?_⟩
    · exact hQ _ ⟨by omega, by omega⟩ (by intro hv; first | assumption | (exfalso; omega)) (by intro hv; first | assumption | (exfalso; omega)) (by intro h0 h1; first | assumption | (exfalso; omega)) (by omega)
    · have m_4 : 0 ≤ (g 41 l1) ∧ (g 41 l1) ≤ 15 := I.1 41 l1
      refine k_Thought_stepsAgain I ⟨by omega, by omega⟩ (fun v5 b_5 b_6 b_7 => ?_)
      exact hQ _ ⟨by omega, by omega⟩ (by intro hv; first | assumption | (exfalso; omega)) (by intro hv; first | assumption | (exfalso; omega)) (by intro h0 h1; first | assumption | (exfalso; omega)) (by omega)
  · refine k_Thought_allAgain I (fun v9 b_8 b_9 b_10 => ?_)
    exact hQ _ ⟨by omega, by omega⟩ (by intro hv; first | assumption | (exfalso; omega)) (by intro hv; first | assumption | (exfalso; omega)) (by intro h0 h1; first | assumption | (exfalso; omega)) (by omega)
-- SpoutNewsModel.isOneToOne()Z
set_option maxRecDepth 100000 in
set_option maxHeartbeats 4000000 in
theorem k_M_isOneToOne_l4 {g : zi_M} (I : zk_I g) {K29 : Int → zi_M → Prop} {Q : Int → zi_M → Prop} (hK29 : ∀ (k1 : Int), ((-2147483648) ≤ k1 ∧ k1 ≤ 2147483647) → (k1 = zst (fun i => i + g 243 i) z16) → K29 k1 g) (hQ : ∀ v : Int, (0 ≤ v ∧ v ≤ 1) → (zst (fun i => i + g 243 i) z16 = 65535 → v = 1) → (¬ zst (fun i => i + g 243 i) z16 = 65535 → v = 0) → Q v g) : ∀ (n : Nat) {l1 : Int} {l2 : Int}, ((-2147483648) ≤ l1 ∧ l1 ≤ 2147483647) → (0 ≤ l2 ∧ l2 ≤ 16) → (l1 = zst (fun i => i + g 243 i) l2.toNat) → 16 - l2 < (n : Int) → w_M_isOneToOne_l4 K29 Q n l1 l2 g
  | 0, l1, l2, b0, b1, b2, hm => by exfalso; omega
  | n + 1, l1, l2, b0, b1, b2, hm => by
    unfold w_M_isOneToOne_l4
    refine ⟨⟨by omega, by omega⟩, ?_⟩
    refine ⟨fun c3 => ?_, fun c3 => ?_⟩
    · exact hK29 _ ⟨by omega, by omega⟩ (by exact zst_e b2 (by rw [z16_e]; omega))
    · refine ⟨⟨by omega, by omega⟩, ?_⟩
      have m_1 := zk_latin I (i := l2)
      have m_2 := zi_r_shl 1 (l2 + (g 243 l2))
      try have m_3 := (zi_shl_f (l2 + (g 243 l2))).2.1 ⟨by omega, by omega⟩
      first | have m_4 := (zi_shl_f (l2 + (g 243 l2))).2.2.1 ⟨by omega, by omega⟩ | have m_5 := (zi_shl_f (l2 + (g 243 l2))).2.2.2.1 ⟨by omega, by omega⟩ | have m_6 := (zi_shl_f (l2 + (g 243 l2))).2.2.2.2.1 ⟨by omega, by omega⟩ | have m_7 := (zi_shl_f (l2 + (g 243 l2))).2.2.2.2.2.1 ⟨by omega, by omega⟩ | have m_8 := (zi_shl_f (l2 + (g 243 l2))).2.2.2.2.2.2 ⟨by omega, by omega⟩ | skip
      first | have m_9 := (zi_or_f l1 (zi_shl 1 (l2 + (g 243 l2)))).2.1 ⟨by omega, by omega, by omega, by omega⟩ | have m_9 := (zi_or_f l1 (zi_shl 1 (l2 + (g 243 l2)))).2.2.1 ⟨by omega, by omega, by omega, by omega⟩ | have m_9 := (zi_or_f l1 (zi_shl 1 (l2 + (g 243 l2)))).2.2.2.1 ⟨by omega, by omega, by omega, by omega⟩ | have m_9 := (zi_or_f l1 (zi_shl 1 (l2 + (g 243 l2)))).2.2.2.2.1 ⟨by omega, by omega, by omega, by omega⟩ | have m_9 := (zi_or_f l1 (zi_shl 1 (l2 + (g 243 l2)))).2.2.2.2.2 ⟨by omega, by omega, by omega, by omega⟩ | have m_9 := zi_r_or l1 (zi_shl 1 (l2 + (g 243 l2)))
      exact k_M_isOneToOne_l4 I hK29 hQ n ⟨by omega, by omega⟩ ⟨by omega, by omega⟩ (by first | exact zst_s b2 (by omega) | rfl) (by omega)
set_option maxRecDepth 100000 in
set_option maxHeartbeats 4000000 in
theorem k_M_isOneToOne {g : zi_M} {Q : Int → zi_M → Prop} (I : zk_I g) (hQ : ∀ v : Int, (0 ≤ v ∧ v ≤ 1) → (zst (fun i => i + g 243 i) z16 = 65535 → v = 1) → (¬ zst (fun i => i + g 243 i) z16 = 65535 → v = 0) → Q v g) : w_M_isOneToOne g Q := by
  unfold w_M_isOneToOne
  refine ⟨((16 - 0 : Int).toNat + 1), k_M_isOneToOne_l4 I (fun k4 b_10 b_11 => ?_) hQ ((16 - 0 : Int).toNat + 1) ⟨by omega, by omega⟩ ⟨by omega, by omega⟩ (by first | exact zst_s b2 (by omega) | rfl) (by omega)⟩
  refine ⟨⟨by omega, by omega⟩, ?_⟩
  refine ⟨fun c7 => ?_, fun c7 => ?_⟩
  · exact hQ _ ⟨by omega, by omega⟩ (by intro hv; first | rfl | (exfalso; omega)) (by intro hv; first | rfl | (exfalso; omega))
  · exact hQ _ ⟨by omega, by omega⟩ (by intro hv; first | rfl | (exfalso; omega)) (by intro hv; first | rfl | (exfalso; omega))
-- SpoutNewsModel.comingFrom(I)I
set_option maxRecDepth 100000 in
set_option maxHeartbeats 4000000 in
theorem k_M_comingFrom_l7 {l1 : Int} {g : zi_M} (I : zk_I g) {x1 : Int} {K40 : Int → zi_M → Prop} {Q : Int → zi_M → Prop} (hK40 : ∀ (k4 : Int), (0 ≤ k4 ∧ k4 ≤ 65535) → (1 ≤ k4) → (k4 = zco (fun i => i + g 243 i) z17 0 x1 0) → (1 ≤ k4 ∧ k4 ≤ 16) → K40 k4 g) (hQ : ∀ v : Int, (1 ≤ v ∧ v ≤ 65535) → (v = zco (fun i => i + g 243 i) z17 0 l1 0) → (1 ≤ v ∧ v ≤ 16) → Q v g) : ∀ (n : Nat) {l2 : Int} {l3 : Int} {l4 : Int}, (0 ≤ l2 ∧ l2 ≤ 65535) → (0 ≤ l3 ∧ l3 ≤ 15) → (0 ≤ l4 ∧ l4 ≤ 65535) → (l4 ≤ l2) → (¬ l2 = 0 → 1 ≤ l4) → (zpc l2 z16 = l4) → (zco (fun i => i + g 243 i) (17 - l4).toNat l2 l3 l4 = zco (fun i => i + g 243 i) z17 0 x1 0) → 65535 - l2 < (n : Int) → w_M_comingFrom_l7 K40 Q n l2 l3 l4 g
  | 0, l2, l3, l4, b0, b1, b2, b3, b4, b5, b6, hm => by exfalso; omega
  | n + 1, l2, l3, l4, b0, b1, b2, b3, b4, b5, b6, hm => by
    unfold w_M_comingFrom_l7
    have m_3 := zi_r_shr (l2) (l3)
    try have m_4 := (zi_shr_f (l2) (l3)).2 ⟨by omega, by omega⟩
    have m_5 := zi_r_and (zi_shr l2 l3) 1
    try have m_6 := (zi_and_f (zi_shr l2 l3) 1).2.1 ⟨by omega, by omega⟩
    try have m_7 := (zi_and_f (zi_shr l2 l3) 1).2.2 ⟨by omega, by omega⟩
    refine k_M_has I ⟨by omega, by omega⟩ ⟨by omega, by omega⟩ (fun v1 b_1 b_2 => ?_)
    refine ⟨fun c5 => ?_, fun c5 => ?_⟩
    · exact hK40 _ ⟨by omega, by omega⟩ (by omega) (by exact zco_x b6 (by omega) (by have hp := zpc_16 b5; omega)) (by have hp := zpc_16 b5; omega)
    · refine ⟨⟨by omega, by omega⟩, ?_⟩
      have m_8 := zi_r_shl 1 l3
      try have m_9 := (zi_shl_f l3).2.1 ⟨by omega, by omega⟩
      first | have m_10 := (zi_shl_f l3).2.2.1 ⟨by omega, by omega⟩ | have m_11 := (zi_shl_f l3).2.2.2.1 ⟨by omega, by omega⟩ | have m_12 := (zi_shl_f l3).2.2.2.2.1 ⟨by omega, by omega⟩ | have m_13 := (zi_shl_f l3).2.2.2.2.2.1 ⟨by omega, by omega⟩ | have m_14 := (zi_shl_f l3).2.2.2.2.2.2 ⟨by omega, by omega⟩ | skip
      have m_15 := (zi_or_f l2 (zi_shl 1 l3)).2.2.2.2.1 ⟨by omega, by omega, by omega, by omega⟩
      have m_16 := zi_or_new (s := l2) (k := l3) ⟨by omega, by omega⟩ ⟨by omega, by omega⟩ (by omega)
      have m_17 := zk_latin I (i := l3)
      exact k_M_comingFrom_l7 I hK40 hQ n ⟨by omega, by omega⟩ ⟨by omega, by omega⟩ ⟨by omega, by omega⟩ (by omega) (by omega) (by first | exact zpc_st b5 (by omega) ⟨by omega, by omega⟩ ⟨by omega, by omega⟩ | exact zpc_z z16) (by first | exact zco_st b6 (by omega) (by have hp := zpc_16 b5; omega) | exact zco_i (by rw [z17_e]; omega)) (by omega)
set_option maxRecDepth 100000 in
set_option maxHeartbeats 4000000 in
theorem k_M_comingFrom {l1 : Int} {g : zi_M} {Q : Int → zi_M → Prop} (I : zk_I g) (p1 : 0 ≤ l1 ∧ l1 ≤ 15) (hQ : ∀ v : Int, (1 ≤ v ∧ v ≤ 65535) → (v = zco (fun i => i + g 243 i) z17 0 l1 0) → (1 ≤ v ∧ v ≤ 16) → Q v g) : w_M_comingFrom l1 g Q := by
  unfold w_M_comingFrom
  refine ⟨((65535 - 0 : Int).toNat + 1), k_M_comingFrom_l7 (x1 := l1) I (fun k6 b_18 b_19 b_20 b_21 => ?_) hQ ((65535 - 0 : Int).toNat + 1) ⟨by omega, by omega⟩ ⟨by omega, by omega⟩ ⟨by omega, by omega⟩ (by omega) (by omega) (by first | exact zpc_st b5 (by omega) ⟨by omega, by omega⟩ ⟨by omega, by omega⟩ | exact zpc_z z16) (by first | exact zco_st b6 (by omega) (by have hp := zpc_16 b5; omega) | exact zco_i (by rw [z17_e]; omega)) (by omega)⟩
  exact hQ _ ⟨by omega, by omega⟩ (by assumption) (by omega)
