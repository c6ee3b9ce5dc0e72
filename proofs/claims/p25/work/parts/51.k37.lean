-- by program (wip/gen/mkz.py)
-- SpoutNews$Thought.wordsOf(II)I
set_option maxRecDepth 100000 in
set_option maxHeartbeats 4000000 in
theorem k_Thought_wordsOf_l5 {g : zi_M} (I : zk_I g) {l1 : Int} {l2 : Int} {K37 : Int → zi_M → Prop} {Q : Int → zi_M → Prop} (q1 : 0 ≤ l1) (q2 : 0 ≤ l2 ∧ l2 ≤ 10) (hK37 : ∀ (k3 : Int), ((-2147483648) ≤ k3 ∧ k3 ≤ 2147483647) → (k3 = zWf (g 185) l1 l2.toNat) → K37 k3 g) (hQ : ∀ v : Int, ((-2147483648) ≤ v ∧ v ≤ 2147483647) → (v = zWf (g 185) l1 l2.toNat) → Q v g) : ∀ (n : Nat) {l3 : Int} {l4 : Int}, ((-2147483648) ≤ l3 ∧ l3 ≤ 2147483647) → (0 ≤ l4 ∧ l4 ≤ 10) → (l4 ≤ l2) → (l3 = zWf (g 185) l1 l4.toNat) → 10 - l4 < (n : Int) → w_Thought_wordsOf_l5 l1 l2 K37 Q n l3 l4 g
  | 0, l3, l4, b0, b1, b2, b3, hm => by exfalso; omega
  | n + 1, l3, l4, b0, b1, b2, b3, hm => by
    unfold w_Thought_wordsOf_l5
    refine ⟨⟨by omega, by omega⟩, ⟨by omega, by omega⟩, ?_⟩
    refine ⟨fun c5 => ?_, fun c5 => ?_⟩
    · exact hK37 _ ⟨by omega, by omega⟩ (by exact zWf_x (by assumption) (by omega))
    · have m_1 := zi_r_shr l1 l4
      try have m_2 := (zi_shr_f l1 l4).2 ⟨by omega, by omega⟩
      have m_3 := zi_r_and (zi_shr l1 l4) 1
      try have m_4 := (zi_and_f (zi_shr l1 l4) 1).2.1 ⟨by omega, by omega⟩
      try have m_5 := (zi_and_f (zi_shr l1 l4) 1).2.2 ⟨by omega, by omega⟩
      refine ⟨fun c4 => ?_, fun c4 => ?_⟩
      · exact k_Thought_wordsOf_l5 I q1 q2 hK37 hQ n ⟨by omega, by omega⟩ ⟨by omega, by omega⟩ (by omega) (by first | exact zWf_n (by assumption) (by omega) (by assumption) | exact zWf_y (by assumption) (by omega) (by assumption) (by rfl) (by rfl) | rfl) (by omega)
      · refine ⟨⟨by omega, by omega⟩, ?_⟩
        have m_6 : (-2147483648) ≤ (g 185 l4) ∧ (g 185 l4) ≤ 2147483647 := I.1 185 l4
        first | have m_7 := (zi_or_f l3 (g 185 l4)).2.1 ⟨by omega, by omega, by omega, by omega⟩ | have m_7 := (zi_or_f l3 (g 185 l4)).2.2.1 ⟨by omega, by omega, by omega, by omega⟩ | have m_7 := (zi_or_f l3 (g 185 l4)).2.2.2.1 ⟨by omega, by omega, by omega, by omega⟩ | have m_7 := (zi_or_f l3 (g 185 l4)).2.2.2.2.1 ⟨by omega, by omega, by omega, by omega⟩ | have m_7 := (zi_or_f l3 (g 185 l4)).2.2.2.2.2 ⟨by omega, by omega, by omega, by omega⟩ | have m_7 := zi_r_or l3 (g 185 l4)
        exact k_Thought_wordsOf_l5 I q1 q2 hK37 hQ n ⟨by omega, by omega⟩ ⟨by omega, by omega⟩ (by omega) (by first | exact zWf_n (by assumption) (by omega) (by assumption) | exact zWf_y (by assumption) (by omega) (by assumption) (by rfl) (by rfl) | rfl) (by omega)
set_option maxRecDepth 100000 in
set_option maxHeartbeats 4000000 in
theorem k_Thought_wordsOf {l1 : Int} {l2 : Int} {g : zi_M} {Q : Int → zi_M → Prop} (I : zk_I g) (p1 : 0 ≤ l1) (p2 : 0 ≤ l2 ∧ l2 ≤ 10) (hQ : ∀ v : Int, ((-2147483648) ≤ v ∧ v ≤ 2147483647) → (v = zWf (g 185) l1 l2.toNat) → Q v g) : w_Thought_wordsOf l1 l2 g Q := by
  unfold w_Thought_wordsOf
  refine ⟨((10 - 0 : Int).toNat + 1), k_Thought_wordsOf_l5 (l1 := l1) (l2 := l2) I (by omega) ⟨by omega, by omega⟩ (fun k6 b_8 b_9 => ?_) hQ ((10 - 0 : Int).toNat + 1) ⟨by omega, by omega⟩ ⟨by omega, by omega⟩ (by omega) (by first | exact zWf_n (by assumption) (by omega) (by assumption) | exact zWf_y (by assumption) (by omega) (by assumption) (by rfl) (by rfl) | rfl) (by omega)⟩
  exact hQ _ ⟨by omega, by omega⟩ (by assumption)
-- SpoutNews$Thought.fewestThatKnow(LSpoutNews$World;I)I
set_option maxRecDepth 100000 in
set_option maxHeartbeats 4000000 in
theorem k_Thought_fewestThatKnow_l2 {l2 : Int} {K27 : zi_M → Prop} {Q : Int → zi_M → Prop} {g0 : zi_M} (hK27 : ∀ (g : zi_M), zk_I g → zk_fr fr_Thought_fewestThatKnow g0 g → (zvKw (g0 2 8) g0 g) → K27 g) (hQ : ∀ (v : Int) (g' : zi_M), zk_I g' → zk_fr fr_Thought_fewestThatKnow g0 g' → ((-1) ≤ v ∧ v ≤ 1023) → (zKR (zWc0 g0) (g0 2 8) l2 v) → Q v g') : ∀ (n : Nat) {l3 : Int} {g : zi_M}, zk_I g → zk_fr fr_Thought_fewestThatKnow g0 g → (0 ≤ l3 ∧ l3 ≤ 10) → (l3 ≤ g0 2 8) → (zvKw l3 g0 g) → 10 - l3 < (n : Int) → w_Thought_fewestThatKnow_l2 K27 Q n l3 g
  | 0, l3, g, I, F, b0, b1, b2, hm => by exfalso; omega
  | n + 1, l3, g, I, F, b0, b1, b2, hm => by
    unfold w_Thought_fewestThatKnow_l2
    have m_1 : 0 ≤ (g 2 8) ∧ (g 2 8) ≤ 10 := I.1 2 8
    refine ⟨⟨by omega, by omega⟩, ⟨by omega, by omega⟩, ?_⟩
    refine ⟨fun c8 => ?_, fun c8 => ?_⟩
    · exact hK27 _ I F (by exact zvKw_x (by assumption) (by have hf := zvKw_8 F; omega))
    · refine k_World_heardSet rfl I ⟨by omega, by omega⟩ (fun v3 b_2 b_3 => ?_)
      refine ⟨⟨by omega, by omega⟩, ?_⟩
      intro g7 e_4
      have I_5 : zk_I g7 := by rw [e_4]; exact zk_upd (L := (-2147483648)) (H := 2147483647) rfl rfl I ⟨by omega, by omega⟩
      have F_6 : zk_fr fr_Thought_fewestThatKnow g0 g7 := by rw [e_4]; exact zk_fu F rfl
      exact k_Thought_fewestThatKnow_l2 hK27 hQ n I_5 F_6 ⟨by omega, by omega⟩ (by first | omega | (have hf := zvKw_8 F; omega) | exact (I.1 2 8).1) (by first | exact zvKw_s (by assumption) F (by assumption) (by assumption) (by assumption) | exact zvKw_0) (by omega)
set_option maxRecDepth 100000 in
set_option maxHeartbeats 4000000 in
theorem k_Thought_fewestThatKnow_l36 {l2 : Int} {K91 : Int → zi_M → Prop} {Q : Int → zi_M → Prop} {g0 : zi_M} (q2 : (-2147483648) ≤ l2 ∧ l2 ≤ 2147483647) (hK91 : ∀ (k3 : Int) (g : zi_M), zk_I g → zk_fr fr_Thought_fewestThatKnow g0 g → ((-1) ≤ k3 ∧ k3 ≤ 1023) → (zKR (zWc0 g0) (g0 2 8) l2 k3) → K91 k3 g) (hQ : ∀ (v : Int) (g' : zi_M), zk_I g' → zk_fr fr_Thought_fewestThatKnow g0 g' → ((-1) ≤ v ∧ v ≤ 1023) → (zKR (zWc0 g0) (g0 2 8) l2 v) → Q v g') : ∀ (n : Nat) {l3 : Int} {l4 : Int} {l5 : Int} {g : zi_M}, zk_I g → zk_fr fr_Thought_fewestThatKnow g0 g → ((-1) ≤ l3 ∧ l3 ≤ 1023) → (0 ≤ l4 ∧ l4 ≤ 11) → (0 ≤ l5 ∧ l5 ≤ 1024) → (l5 ≤ zi_shl 1 (g0 2 8)) → (zvKw (g0 2 8) g0 g) → (zKf l3 l4) → (zvKs (zKc (zWc0 g0) l2 (g0 2 8)) l5 l3) → 1024 - l5 < (n : Int) → w_Thought_fewestThatKnow_l36 l2 K91 Q n l3 l4 l5 g
  | 0, l3, l4, l5, g, I, F, b0, b1, b2, b3, b4, b5, b6, hm => by exfalso; omega
  | n + 1, l3, l4, l5, g, I, F, b0, b1, b2, b3, b4, b5, b6, hm => by
    unfold w_Thought_fewestThatKnow_l36
    refine ⟨⟨by omega, by omega⟩, ?_⟩
    have m_10 : 0 ≤ (g 2 8) ∧ (g 2 8) ≤ 10 := I.1 2 8
    have m_11 := zi_r_shl 1 (g 2 8)
    try have m_12 := (zi_shl_f (g 2 8)).2.1 ⟨by omega, by omega⟩
    first | have m_13 := (zi_shl_f (g 2 8)).2.2.1 ⟨by omega, by omega⟩ | have m_14 := (zi_shl_f (g 2 8)).2.2.2.1 ⟨by omega, by omega⟩ | have m_15 := (zi_shl_f (g 2 8)).2.2.2.2.1 ⟨by omega, by omega⟩ | have m_16 := (zi_shl_f (g 2 8)).2.2.2.2.2.1 ⟨by omega, by omega⟩ | have m_17 := (zi_shl_f (g 2 8)).2.2.2.2.2.2 ⟨by omega, by omega⟩ | skip
    refine ⟨fun c21 => ?_, fun c21 => ?_⟩
    · exact hK91 _ _ I F ⟨by omega, by omega⟩ (by exact zvKs_x (by assumption) (by have hf := congrArg (zi_shl 1) (zvKw_8 F); omega))
    · refine k_Integer_bitCount I ⟨by omega, by omega⟩ (fun v11 b_18 b_19 => ?_)
      refine ⟨⟨by omega, by omega⟩, ⟨by omega, by omega⟩, ?_⟩
      refine ⟨fun c20 => ?_, fun c20 => ?_⟩
      · exact k_Thought_fewestThatKnow_l36 q2 hK91 hQ n I F ⟨by omega, by omega⟩ ⟨by omega, by omega⟩ ⟨by omega, by omega⟩ (by first | omega | (have hf := congrArg (zi_shl 1) (zvKw_8 F); omega) | exact (zKN_0 (I.1 2 8)).1) (by assumption) (by first | assumption | exact zKf_0 | exact zKf_1 (by assumption) (by omega) (by omega)) (by first | exact zKa_c (by assumption) (by assumption) (by assumption) F I (by assumption) (by assumption) (by assumption) (by omega) (by omega) (by assumption) | exact zKa_b (by assumption) (by assumption) F I (by assumption) (by assumption) | exact zKa_a (by assumption) (by assumption) (by assumption) (by omega) (by omega) (by assumption) | exact zvKs_0) (by omega)
      · refine k_Thought_wordsOf I (by omega) ⟨by omega, by omega⟩ (fun v16 b_20 b_21 => ?_)
        first | have m_22 := (zi_xor_f v16 (-1)).2.1 ⟨by omega, by omega, by omega, by omega⟩ | have m_22 := (zi_xor_f v16 (-1)).2.2.1 ⟨by omega, by omega, by omega, by omega⟩ | have m_22 := (zi_xor_f v16 (-1)).2.2.2 ⟨by omega, by omega, by omega, by omega⟩ | have m_22 := zi_r_xor v16 (-1)
        have m_23 := zi_r_and l2 (zi_xor v16 (-1))
        try have m_24 := (zi_and_f l2 (zi_xor v16 (-1))).2.1 ⟨by omega, by omega⟩
        try have m_25 := (zi_and_f l2 (zi_xor v16 (-1))).2.2 ⟨by omega, by omega⟩
        refine ⟨fun c19 => ?_, fun c19 => ?_⟩
        · exact k_Thought_fewestThatKnow_l36 q2 hK91 hQ n I F ⟨by omega, by omega⟩ ⟨by omega, by omega⟩ ⟨by omega, by omega⟩ (by first | omega | (have hf := congrArg (zi_shl 1) (zvKw_8 F); omega) | exact (zKN_0 (I.1 2 8)).1) (by assumption) (by first | assumption | exact zKf_0 | exact zKf_1 (by assumption) (by omega) (by omega)) (by first | exact zKa_c (by assumption) (by assumption) (by assumption) F I (by assumption) (by assumption) (by assumption) (by omega) (by omega) (by assumption) | exact zKa_b (by assumption) (by assumption) F I (by assumption) (by assumption) | exact zKa_a (by assumption) (by assumption) (by assumption) (by omega) (by omega) (by assumption) | exact zvKs_0) (by omega)
        · exact k_Thought_fewestThatKnow_l36 q2 hK91 hQ n I F ⟨by omega, by omega⟩ ⟨by omega, by omega⟩ ⟨by omega, by omega⟩ (by first | omega | (have hf := congrArg (zi_shl 1) (zvKw_8 F); omega) | exact (zKN_0 (I.1 2 8)).1) (by assumption) (by first | assumption | exact zKf_0 | exact zKf_1 (by assumption) (by omega) (by omega)) (by first | exact zKa_c (by assumption) (by assumption) (by assumption) F I (by assumption) (by assumption) (by assumption) (by omega) (by omega) (by assumption) | exact zKa_b (by assumption) (by assumption) F I (by assumption) (by assumption) | exact zKa_a (by assumption) (by assumption) (by assumption) (by omega) (by omega) (by assumption) | exact zvKs_0) (by omega)
set_option maxRecDepth 100000 in
set_option maxHeartbeats 4000000 in
theorem k_Thought_fewestThatKnow {l2 : Int} {g : zi_M} {Q : Int → zi_M → Prop} (I : zk_I g) (p2 : (-2147483648) ≤ l2 ∧ l2 ≤ 2147483647) (hQ : ∀ (v : Int) (g' : zi_M), zk_I g' → zk_fr fr_Thought_fewestThatKnow g g' → ((-1) ≤ v ∧ v ≤ 1023) → (zKR (zWc0 g) (g 2 8) l2 v) → Q v g') : w_Thought_fewestThatKnow l2 g Q := by
  unfold w_Thought_fewestThatKnow
  refine ⟨((10 - 0 : Int).toNat + 1), k_Thought_fewestThatKnow_l2 (fun g9 I_7 F_8 b_9 => ?_) hQ ((10 - 0 : Int).toNat + 1) I (zk_f0 _) ⟨by omega, by omega⟩ (by first | omega | (have hf := zvKw_8 F; omega) | exact (I.1 2 8).1) (by first | exact zvKw_s (by assumption) F (by assumption) (by assumption) (by assumption) | exact zvKw_0) (by omega)⟩
  refine ⟨((1024 - 0 : Int).toNat + 1), k_Thought_fewestThatKnow_l36 (l2 := l2) ⟨by omega, by omega⟩ (fun k22 g23 I_26 F_27 b_28 b_29 => ?_) hQ ((1024 - 0 : Int).toNat + 1) I_7 F_8 ⟨by omega, by omega⟩ ⟨by omega, by omega⟩ ⟨by omega, by omega⟩ (by first | omega | (have hf := congrArg (zi_shl 1) (zvKw_8 F); omega) | exact (zKN_0 (I.1 2 8)).1) (by assumption) (by first | assumption | exact zKf_0 | exact zKf_1 (by assumption) (by omega) (by omega)) (by first | exact zKa_c (by assumption) (by assumption) (by assumption) F I (by assumption) (by assumption) (by assumption) (by omega) (by omega) (by assumption) | exact zKa_b (by assumption) (by assumption) F I (by assumption) (by assumption) | exact zKa_a (by assumption) (by assumption) (by assumption) (by omega) (by omega) (by assumption) | exact zvKs_0) (by omega)⟩
  exact hQ _ _ I_26 F_27 ⟨by omega, by omega⟩ (by assumption)
-- SpoutNews.known(II)I
set_option maxRecDepth 100000 in
set_option maxHeartbeats 4000000 in
theorem k_S_known_b18 {l1 : Int} {l2 : Int} {Q : Int → zi_M → Prop} {g : zi_M} {g0 : zi_M} (I : zk_I g) (F : zk_fr fr_S_known g0 g) (p1 : (-2147483648) ≤ l1 ∧ l1 ≤ 2147483647) (p2 : 0 ≤ l2 ∧ l2 ≤ 1) (ix0 : g = g0) (ix1 : 0 ≤ l1 ∧ l1 ≤ 65535) (hQ : ∀ (v : Int) (g' : zi_M), zk_I g' → zk_fr fr_S_known g0 g' → ((-1) ≤ v ∧ v ≤ 1023) → (zknS g0 l1 l2 v) → Q v g') : w_S_known_b18 l1 l2 g Q := by
  unfold w_S_known_b18
  have m_4 : 0 ≤ (g 2 8) ∧ (g 2 8) ≤ 10 := I.1 2 8
  refine k_Thought_fewestThatKnow I ⟨by omega, by omega⟩ (fun v5 g6 I_7 F_8 b_5 b_6 => ?_)
  have F_9 : zk_fr fr_S_known g0 g6 := zk_ft F F_8 (fun a i => (fun h => h))
  refine ⟨⟨by omega, by omega⟩, ?_⟩
  refine ⟨fun c14 => ?_, fun c14 => ?_⟩
  · exact hQ _ _ I_7 F_9 ⟨by omega, by omega⟩ (by first | exact zknS_e (by assumption) (zknP_m (by assumption) (by assumption) (by first | rfl | assumption) ⟨by omega, by omega, by omega, by omega⟩) | exact zknS_e (by assumption) (zknP_1 ⟨by omega, by omega⟩ (by assumption) (by omega)) | exact zknS_e (by assumption) (zknP_0 ⟨by omega, by omega⟩ (by assumption) (by assumption) (by assumption) (zKR_b (W := zWc0 g0) (S := 0) (l := 0) (by assumption) (by assumption) (by assumption))) | exact zknP_n (by omega))
  · refine ⟨⟨by omega, by omega⟩, ?_⟩
    refine ⟨fun c13 => ?_, fun c13 => ?_⟩
    · exact hQ _ _ I_7 F_9 ⟨by omega, by omega⟩ (by first | exact zknS_e (by assumption) (zknP_m (by assumption) (by assumption) (by first | rfl | assumption) ⟨by omega, by omega, by omega, by omega⟩) | exact zknS_e (by assumption) (zknP_1 ⟨by omega, by omega⟩ (by assumption) (by omega)) | exact zknS_e (by assumption) (zknP_0 ⟨by omega, by omega⟩ (by assumption) (by assumption) (by assumption) (zKR_b (W := zWc0 g0) (S := 0) (l := 0) (by assumption) (by assumption) (by assumption))) | exact zknP_n (by omega))
    · refine k_Integer_bitCount I_7 ⟨by omega, by omega⟩ (fun v10 b_10 b_11 => ?_)
      exact hQ _ _ I_7 F_9 ⟨by omega, by omega⟩ (by first | exact zknS_e (by assumption) (zknP_m (by assumption) (by assumption) (by first | rfl | assumption) ⟨by omega, by omega, by omega, by omega⟩) | exact zknS_e (by assumption) (zknP_1 ⟨by omega, by omega⟩ (by assumption) (by omega)) | exact zknS_e (by assumption) (zknP_0 ⟨by omega, by omega⟩ (by assumption) (by assumption) (by assumption) (zKR_b (W := zWc0 g0) (S := 0) (l := 0) (by assumption) (by assumption) (by assumption))) | exact zknP_n (by omega))
set_option maxRecDepth 100000 in
set_option maxHeartbeats 4000000 in
theorem k_S_known {l1 : Int} {l2 : Int} {g : zi_M} {Q : Int → zi_M → Prop} (I : zk_I g) (p1 : (-2147483648) ≤ l1 ∧ l1 ≤ 2147483647) (p2 : (-2147483648) ≤ l2 ∧ l2 ≤ 2147483647) (hQ : ∀ (v : Int) (g' : zi_M), zk_I g' → zk_fr fr_S_known g g' → ((-1) ≤ v ∧ v ≤ 1023) → (zknS g l1 l2 v) → Q v g') : w_S_known l1 l2 g Q := by
  unfold w_S_known
  refine k_S_isWordSet I ⟨by omega, by omega⟩ (fun v1 b_1 b_2 b_3 => ?_)
  refine ⟨fun c17 => ?_, fun c17 => ?_⟩
  · exact hQ _ _ I (zk_f0 _) ⟨by omega, by omega⟩ (by first | exact zknS_e (by assumption) (zknP_m (by assumption) (by assumption) (by first | rfl | assumption) ⟨by omega, by omega, by omega, by omega⟩) | exact zknS_e (by assumption) (zknP_1 ⟨by omega, by omega⟩ (by assumption) (by omega)) | exact zknS_e (by assumption) (zknP_0 ⟨by omega, by omega⟩ (by assumption) (by assumption) (by assumption) (zKR_b (W := zWc0 g0) (S := 0) (l := 0) (by assumption) (by assumption) (by assumption))) | exact zknP_n (by omega))
  · refine ⟨⟨by omega, by omega⟩, ?_⟩
    refine ⟨fun c16 => ?_, fun c16 => ?_⟩
    · exact k_S_known_b18 I (zk_f0 _) ⟨by omega, by omega⟩ ⟨by omega, by omega⟩ (by rfl) (by omega) hQ
    · refine ⟨fun c15 => ?_, fun c15 => ?_⟩
      · exact k_S_known_b18 I (zk_f0 _) ⟨by omega, by omega⟩ ⟨by omega, by omega⟩ (by rfl) (by omega) hQ
      · exact hQ _ _ I (zk_f0 _) ⟨by omega, by omega⟩ (by first | exact zknS_e (by assumption) (zknP_m (by assumption) (by assumption) (by first | rfl | assumption) ⟨by omega, by omega, by omega, by omega⟩) | exact zknS_e (by assumption) (zknP_1 ⟨by omega, by omega⟩ (by assumption) (by omega)) | exact zknS_e (by assumption) (zknP_0 ⟨by omega, by omega⟩ (by assumption) (by assumption) (by assumption) (zKR_b (W := zWc0 g0) (S := 0) (l := 0) (by assumption) (by assumption) (by assumption))) | exact zknP_n (by omega))
-- SpoutNewsModel.known(II)I
set_option maxRecDepth 100000 in
set_option maxHeartbeats 4000000 in
theorem k_M_known_l50 {l1 : Int} {l2 : Int} {l4 : Int} {K87 : Int → zi_M → Prop} {Q : Int → zi_M → Prop} {g0 : zi_M} (q4 : 0 ≤ l4 ∧ l4 ≤ 1023) (hK87 : ∀ (k5 : Int) (g : zi_M), zk_I g → zk_fr fr_M_known g0 g → (0 ≤ k5 ∧ k5 ≤ 65535) → (k5 = zWf (zWr0 g0) l4 (g0 214 6).toNat) → K87 k5 g) (hQ : ∀ (v : Int) (g' : zi_M), zk_I g' → zk_fr fr_M_known g0 g' → ((-1) ≤ v ∧ v ≤ 65535) → (zknM g0 l1 l2 v) → Q v g') : ∀ (n : Nat) {l5 : Int} {l6 : Int} {g : zi_M}, zk_I g → zk_fr fr_M_known g0 g → (0 ≤ l5 ∧ l5 ≤ 65535) → (0 ≤ l6 ∧ l6 ≤ 10) → (l6 ≤ g0 214 6) → (l5 = zWf (zWr0 g0) l4 l6.toNat) → 10 - l6 < (n : Int) → w_M_known_l50 l4 K87 Q n l5 l6 g
  | 0, l5, l6, g, I, F, b0, b1, b2, b3, hm => by exfalso; omega
  | n + 1, l5, l6, g, I, F, b0, b1, b2, b3, hm => by
    unfold w_M_known_l50
    have m_18 : 0 ≤ (g 214 6) ∧ (g 214 6) ≤ 10 := I.1 214 6
    refine ⟨⟨by omega, by omega⟩, ⟨by omega, by omega⟩, ?_⟩
    refine ⟨fun c18 => ?_, fun c18 => ?_⟩
    · exact hK87 _ _ I F ⟨by omega, by omega⟩ (by exact zWf_x (by assumption) (by have hf := zKr_6 F; omega))
    · have m_21 := zi_r_shr (l4) (l6)
      try have m_22 := (zi_shr_f (l4) (l6)).2 ⟨by omega, by omega⟩
      have m_23 := zi_r_and (zi_shr l4 l6) 1
      try have m_24 := (zi_and_f (zi_shr l4 l6) 1).2.1 ⟨by omega, by omega⟩
      try have m_25 := (zi_and_f (zi_shr l4 l6) 1).2.2 ⟨by omega, by omega⟩
      refine k_M_has I ⟨by omega, by omega⟩ ⟨by omega, by omega⟩ (fun v11 b_19 b_20 => ?_)
      refine ⟨fun c17 => ?_, fun c17 => ?_⟩
      · exact k_M_known_l50 q4 hK87 hQ n I F ⟨by omega, by omega⟩ ⟨by omega, by omega⟩ (by first | omega | (have hf := zKr_6 F; omega) | (have hf := zKr_6 F; have hb := (I.1 214 6).1; have hc : (0 : Int) ≤ g 214 6 := hb; omega)) (by first | exact zWf_n (by assumption) (by omega) (zKr_g (by assumption) (by assumption)) | exact zWf_y (by assumption) (by omega) (zKr_h (by assumption) (by assumption)) (zKr_v F (by assumption)) (by rfl) | rfl) (by omega)
      · refine k_M_heardSet I ⟨by omega, by omega⟩ (fun v14 b_26 b_27 => ?_)
        first | have m_28 := (zi_or_f l5 v14).2.1 ⟨by omega, by omega, by omega, by omega⟩ | have m_28 := (zi_or_f l5 v14).2.2.1 ⟨by omega, by omega, by omega, by omega⟩ | have m_28 := (zi_or_f l5 v14).2.2.2.1 ⟨by omega, by omega, by omega, by omega⟩ | have m_28 := (zi_or_f l5 v14).2.2.2.2.1 ⟨by omega, by omega, by omega, by omega⟩ | have m_28 := (zi_or_f l5 v14).2.2.2.2.2 ⟨by omega, by omega, by omega, by omega⟩ | have m_28 := zi_r_or l5 v14
        exact k_M_known_l50 q4 hK87 hQ n I F ⟨by omega, by omega⟩ ⟨by omega, by omega⟩ (by first | omega | (have hf := zKr_6 F; omega) | (have hf := zKr_6 F; have hb := (I.1 214 6).1; have hc : (0 : Int) ≤ g 214 6 := hb; omega)) (by first | exact zWf_n (by assumption) (by omega) (zKr_g (by assumption) (by assumption)) | exact zWf_y (by assumption) (by omega) (zKr_h (by assumption) (by assumption)) (zKr_v F (by assumption)) (by rfl) | rfl) (by omega)
set_option maxRecDepth 100000 in
set_option maxHeartbeats 4000000 in
theorem k_M_known_l33 {l2 : Int} {l1 : Int} {K124 : Int → zi_M → Prop} {Q : Int → zi_M → Prop} {g0 : zi_M} (q1 : (-2147483648) ≤ l1 ∧ l1 ≤ 2147483647) (hK124 : ∀ (k3 : Int) (g : zi_M), zk_I g → zk_fr fr_M_known g0 g → ((-1) ≤ k3 ∧ k3 ≤ 1023) → (zKR (zWr0 g0) (g0 214 6) l1 k3) → K124 k3 g) (hQ : ∀ (v : Int) (g' : zi_M), zk_I g' → zk_fr fr_M_known g0 g' → ((-1) ≤ v ∧ v ≤ 65535) → (zknM g0 l1 l2 v) → Q v g') : ∀ (n : Nat) {l3 : Int} {l4 : Int} {g : zi_M}, zk_I g → zk_fr fr_M_known g0 g → ((-1) ≤ l3 ∧ l3 ≤ 1023) → (0 ≤ l4 ∧ l4 ≤ 1024) → (l4 ≤ zi_shl 1 (g0 214 6)) → (zvKs (zKc (zWr0 g0) l1 (g0 214 6)) l4 l3) → 1024 - l4 < (n : Int) → w_M_known_l33 l1 K124 Q n l3 l4 g
  | 0, l3, l4, g, I, F, b0, b1, b2, b3, hm => by exfalso; omega
  | n + 1, l3, l4, g, I, F, b0, b1, b2, b3, hm => by
    unfold w_M_known_l33
    refine ⟨⟨by omega, by omega⟩, ?_⟩
    have m_10 : 0 ≤ (g 214 6) ∧ (g 214 6) ≤ 10 := I.1 214 6
    have m_11 := zi_r_shl 1 (g 214 6)
    try have m_12 := (zi_shl_f (g 214 6)).2.1 ⟨by omega, by omega⟩
    first | have m_13 := (zi_shl_f (g 214 6)).2.2.1 ⟨by omega, by omega⟩ | have m_14 := (zi_shl_f (g 214 6)).2.2.2.1 ⟨by omega, by omega⟩ | have m_15 := (zi_shl_f (g 214 6)).2.2.2.2.1 ⟨by omega, by omega⟩ | have m_16 := (zi_shl_f (g 214 6)).2.2.2.2.2.1 ⟨by omega, by omega⟩ | have m_17 := (zi_shl_f (g 214 6)).2.2.2.2.2.2 ⟨by omega, by omega⟩ | skip
    refine ⟨fun c34 => ?_, fun c34 => ?_⟩
    · exact hK124 _ _ I F ⟨by omega, by omega⟩ (by exact zvKs_x (by assumption) (by have hf := congrArg (zi_shl 1) (zKr_6 F); omega))
    · refine ⟨((10 - 0 : Int).toNat + 1), k_M_known_l50 (l4 := l4) ⟨by omega, by omega⟩ (fun k19 g20 I_29 F_30 b_31 b_32 => ?_) hQ ((10 - 0 : Int).toNat + 1) I F ⟨by omega, by omega⟩ ⟨by omega, by omega⟩ (by first | omega | (have hf := zKr_6 F; omega) | (have hf := zKr_6 F; have hb := (I.1 214 6).1; have hc : (0 : Int) ≤ g 214 6 := hb; omega)) (by first | exact zWf_n (by assumption) (by omega) (zKr_g (by assumption) (by assumption)) | exact zWf_y (by assumption) (by omega) (zKr_h (by assumption) (by assumption)) (zKr_v F (by assumption)) (by rfl) | rfl) (by omega)⟩
      first | have m_33 := (zi_xor_f k19 (-1)).2.1 ⟨by omega, by omega, by omega, by omega⟩ | have m_33 := (zi_xor_f k19 (-1)).2.2.1 ⟨by omega, by omega, by omega, by omega⟩ | have m_33 := (zi_xor_f k19 (-1)).2.2.2 ⟨by omega, by omega, by omega, by omega⟩ | have m_33 := zi_r_xor k19 (-1)
      have m_34 := zi_r_and l1 (zi_xor k19 (-1))
      try have m_35 := (zi_and_f l1 (zi_xor k19 (-1))).2.1 ⟨by omega, by omega⟩
      try have m_36 := (zi_and_f l1 (zi_xor k19 (-1))).2.2 ⟨by omega, by omega⟩
      refine ⟨fun c32 => ?_, fun c32 => ?_⟩
      · exact k_M_known_l33 q1 hK124 hQ n I_29 F_30 ⟨by omega, by omega⟩ ⟨by omega, by omega⟩ (by first | omega | (have hf := congrArg (zi_shl 1) (zKr_6 F); omega) | exact (zKN_0 (I.1 214 6)).1) (by first | exact zvKs_y b3 (by omega) (zKr_c (by assumption) (by assumption)) (Or.inr (by omega)) | exact zvKs_y b3 (by omega) (zKr_c (by assumption) (by assumption)) (Or.inl (by assumption)) | exact zvKs_k b3 (by assumption) (by omega) | exact zvKs_n b3 (zKr_d (by assumption) (by assumption)) | exact zvKs_0) (by omega)
      · refine ⟨⟨by omega, by omega⟩, ?_⟩
        refine ⟨fun c31 => ?_, fun c31 => ?_⟩
        · exact k_M_known_l33 q1 hK124 hQ n I_29 F_30 ⟨by omega, by omega⟩ ⟨by omega, by omega⟩ (by first | omega | (have hf := congrArg (zi_shl 1) (zKr_6 F); omega) | exact (zKN_0 (I.1 214 6)).1) (by first | exact zvKs_y b3 (by omega) (zKr_c (by assumption) (by assumption)) (Or.inr (by omega)) | exact zvKs_y b3 (by omega) (zKr_c (by assumption) (by assumption)) (Or.inl (by assumption)) | exact zvKs_k b3 (by assumption) (by omega) | exact zvKs_n b3 (zKr_d (by assumption) (by assumption)) | exact zvKs_0) (by omega)
        · refine k_M_onesOf I_29 ⟨by omega, by omega⟩ (fun v22 b_37 b_38 => ?_)
          refine k_M_onesOf I_29 ⟨by omega, by omega⟩ (fun v25 b_39 b_40 => ?_)
          refine ⟨⟨by omega, by omega⟩, ⟨by omega, by omega⟩, ?_⟩
          refine ⟨fun c30 => ?_, fun c30 => ?_⟩
          · exact k_M_known_l33 q1 hK124 hQ n I_29 F_30 ⟨by omega, by omega⟩ ⟨by omega, by omega⟩ (by first | omega | (have hf := congrArg (zi_shl 1) (zKr_6 F); omega) | exact (zKN_0 (I.1 214 6)).1) (by first | exact zvKs_y b3 (by omega) (zKr_c (by assumption) (by assumption)) (Or.inr (by omega)) | exact zvKs_y b3 (by omega) (zKr_c (by assumption) (by assumption)) (Or.inl (by assumption)) | exact zvKs_k b3 (by assumption) (by omega) | exact zvKs_n b3 (zKr_d (by assumption) (by assumption)) | exact zvKs_0) (by omega)
          · exact k_M_known_l33 q1 hK124 hQ n I_29 F_30 ⟨by omega, by omega⟩ ⟨by omega, by omega⟩ (by first | omega | (have hf := congrArg (zi_shl 1) (zKr_6 F); omega) | exact (zKN_0 (I.1 214 6)).1) (by first | exact zvKs_y b3 (by omega) (zKr_c (by assumption) (by assumption)) (Or.inr (by omega)) | exact zvKs_y b3 (by omega) (zKr_c (by assumption) (by assumption)) (Or.inl (by assumption)) | exact zvKs_k b3 (by assumption) (by omega) | exact zvKs_n b3 (zKr_d (by assumption) (by assumption)) | exact zvKs_0) (by omega)
set_option maxRecDepth 100000 in
set_option maxHeartbeats 4000000 in
theorem k_M_known {l1 : Int} {l2 : Int} {g : zi_M} {Q : Int → zi_M → Prop} (I : zk_I g) (p1 : (-2147483648) ≤ l1 ∧ l1 ≤ 2147483647) (p2 : (-2147483648) ≤ l2 ∧ l2 ≤ 2147483647) (hQ : ∀ (v : Int) (g' : zi_M), zk_I g' → zk_fr fr_M_known g g' → ((-1) ≤ v ∧ v ≤ 65535) → (zknM g l1 l2 v) → Q v g') : w_M_known l1 l2 g Q := by
  unfold w_M_known
  intro g1 e_1
  have I_2 : zk_I g1 := by rw [e_1]; exact zk_upd (L := (-2147483648)) (H := 2147483647) rfl rfl I ⟨by omega, by omega⟩
  have F_3 : zk_fr fr_M_known g g1 := by rw [e_1]; exact zk_fu (zk_f0 _) ⟨rfl, rfl⟩
  refine k_M_isIn I_2 ⟨by omega, by omega⟩ ⟨by omega, by omega⟩ ⟨by omega, by omega⟩ (fun v2 b_4 b_5 b_6 => ?_)
  refine ⟨fun c46 => ?_, fun c46 => ?_⟩
  · exact hQ _ _ I_2 F_3 ⟨by omega, by omega⟩ (by first | exact zknP_m (by assumption) (by assumption) (by first | rfl | assumption) ⟨by omega, by omega, by omega, by omega⟩ | exact zknP_0 ⟨by omega, by omega⟩ (by assumption) (by omega) (by assumption) (by assumption) | exact zknP_1 ⟨by omega, by omega⟩ (by assumption) (by assumption) | exact zknP_n (by omega))
  · refine k_M_isIn I_2 ⟨by omega, by omega⟩ ⟨by omega, by omega⟩ ⟨by omega, by omega⟩ (fun v5 b_7 b_8 b_9 => ?_)
    refine ⟨fun c45 => ?_, fun c45 => ?_⟩
    · refine ⟨((1024 - 0 : Int).toNat + 1), k_M_known_l33 (l1 := l1) ⟨by omega, by omega⟩ (fun k35 g36 I_41 F_42 b_43 b_44 => ?_) hQ ((1024 - 0 : Int).toNat + 1) I_2 F_3 ⟨by omega, by omega⟩ ⟨by omega, by omega⟩ (by first | omega | (have hf := congrArg (zi_shl 1) (zKr_6 F); omega) | exact (zKN_0 (I.1 214 6)).1) (by first | exact zvKs_y b3 (by omega) (zKr_c (by assumption) (by assumption)) (Or.inr (by omega)) | exact zvKs_y b3 (by omega) (zKr_c (by assumption) (by assumption)) (Or.inl (by assumption)) | exact zvKs_k b3 (by assumption) (by omega) | exact zvKs_n b3 (zKr_d (by assumption) (by assumption)) | exact zvKs_0) (by omega)⟩
      refine ⟨⟨by omega, by omega⟩, ?_⟩
      refine ⟨fun c43 => ?_, fun c43 => ?_⟩
      · exact hQ _ _ I_41 F_42 ⟨by omega, by omega⟩ (by first | exact zknP_m (by assumption) (by assumption) (by first | rfl | assumption) ⟨by omega, by omega, by omega, by omega⟩ | exact zknP_0 ⟨by omega, by omega⟩ (by assumption) (by omega) (by assumption) (by assumption) | exact zknP_1 ⟨by omega, by omega⟩ (by assumption) (by assumption) | exact zknP_n (by omega))
      · refine ⟨⟨by omega, by omega⟩, ?_⟩
        refine ⟨fun c42 => ?_, fun c42 => ?_⟩
        · refine k_M_onesOf I_41 ⟨by omega, by omega⟩ (fun v39 b_45 b_46 => ?_)
          exact hQ _ _ I_41 F_42 ⟨by omega, by omega⟩ (by first | exact zknP_m (by assumption) (by assumption) (by first | rfl | assumption) ⟨by omega, by omega, by omega, by omega⟩ | exact zknP_0 ⟨by omega, by omega⟩ (by assumption) (by omega) (by assumption) (by assumption) | exact zknP_1 ⟨by omega, by omega⟩ (by assumption) (by assumption) | exact zknP_n (by omega))
        · exact hQ _ _ I_41 F_42 ⟨by omega, by omega⟩ (by first | exact zknP_m (by assumption) (by assumption) (by first | rfl | assumption) ⟨by omega, by omega, by omega, by omega⟩ | exact zknP_0 ⟨by omega, by omega⟩ (by assumption) (by omega) (by assumption) (by assumption) | exact zknP_1 ⟨by omega, by omega⟩ (by assumption) (by assumption) | exact zknP_n (by omega))
    · exact hQ _ _ I_2 F_3 ⟨by omega, by omega⟩ (by first | exact zknP_m (by assumption) (by assumption) (by first | rfl | assumption) ⟨by omega, by omega, by omega, by omega⟩ | exact zknP_0 ⟨by omega, by omega⟩ (by assumption) (by omega) (by assumption) (by assumption) | exact zknP_1 ⟨by omega, by omega⟩ (by assumption) (by assumption) | exact zknP_n (by omega))
