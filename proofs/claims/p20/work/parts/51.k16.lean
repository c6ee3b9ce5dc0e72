-- by program (wip/gen/mkz.py)
-- SpoutNewsModel.parts(I)I
set_option maxRecDepth 100000 in
set_option maxHeartbeats 4000000 in
theorem k_M_parts_b101 {l1 : Int} {l2 : Int} {l3 : Int} {l4 : Int} {l5 : Int} {l6 : Int} {l7 : Int} {H : Int → Int → Int → Int → zi_M → Prop} {K99 : zi_M → Prop} {K128 : Int → Int → zi_M → Prop} {Q : Int → zi_M → Prop} {g : zi_M} {g0 : zi_M} (I : zk_I g) (F : zk_fr fr_M_parts g0 g) (p1 : (-2147483648) ≤ l1 ∧ l1 ≤ 2147483647) (p2 : 0 ≤ l2 ∧ l2 ≤ 1023) (p3 : 1 ≤ l3 ∧ l3 ≤ 10) (p4 : 0 ≤ l4 ∧ l4 ≤ 700000) (p5 : 0 ≤ l5 ∧ l5 ≤ 9) (p6 : 0 ≤ l6 ∧ l6 ≤ 1023) (p7 : 0 ≤ l7 ∧ l7 ≤ 1023) (ix0 : l3 ≤ l5 + 1) (ix1 : l4 ≤ 65535 * l5) (M : Int) (hM : 10 - l5 ≤ M) (hH : ∀ (m2 : Int) (m3 : Int) (m4 : Int) (m5 : Int) (g : zi_M), zk_I g → zk_fr fr_M_parts g0 g → (0 ≤ m2 ∧ m2 ≤ 1023) → (0 ≤ m3 ∧ m3 ≤ 10) → (0 ≤ m4 ∧ m4 ≤ 700000) → (0 ≤ m5 ∧ m5 ≤ 10) → (m3 ≤ m5) → (m4 ≤ 65535 * m5) → 10 - m5 < M → H m2 m3 m4 m5 g) (hK99 : ∀ (g : zi_M), zk_I g → zk_fr fr_M_parts g0 g → K99 g) (hK128 : ∀ (k3 : Int) (k4 : Int) (g : zi_M), zk_I g → zk_fr fr_M_parts g0 g → (0 ≤ k3 ∧ k3 ≤ 10) → (0 ≤ k4 ∧ k4 ≤ 700000) → K128 k3 k4 g) (hQ : ∀ (v : Int) (g' : zi_M), zk_I g' → zk_fr fr_M_parts g0 g' → ((-1) ≤ v ∧ v ≤ 700000) → Q v g') : w_M_parts_b101 l1 l2 l3 l4 l5 l6 l7 g H K99 K128 Q := by
  unfold w_M_parts_b101
  refine k_M_onesOf I ⟨by omega, by omega⟩ (fun v17 b_20 b_21 => ?_)
  refine k_M_onesOf I ⟨by omega, by omega⟩ (fun v20 b_22 b_23 => ?_)
  refine k_M_greater I ⟨by omega, by omega⟩ ⟨by omega, by omega⟩ (fun v23 b_24 b_25 => ?_)
  exact hH _ _ _ _ _ I F ⟨by omega, by omega⟩ ⟨by omega, by omega⟩ ⟨by omega, by omega⟩ ⟨by omega, by omega⟩ (by omega) (by omega) (by omega)
set_option maxRecDepth 100000 in
set_option maxHeartbeats 4000000 in
theorem k_M_parts_l27 {l1 : Int} {K99 : zi_M → Prop} {K128 : Int → Int → zi_M → Prop} {Q : Int → zi_M → Prop} {g0 : zi_M} (q1 : (-2147483648) ≤ l1 ∧ l1 ≤ 2147483647) (hK99 : ∀ (g : zi_M), zk_I g → zk_fr fr_M_parts g0 g → K99 g) (hK128 : ∀ (k3 : Int) (k4 : Int) (g : zi_M), zk_I g → zk_fr fr_M_parts g0 g → (0 ≤ k3 ∧ k3 ≤ 10) → (0 ≤ k4 ∧ k4 ≤ 700000) → K128 k3 k4 g) (hQ : ∀ (v : Int) (g' : zi_M), zk_I g' → zk_fr fr_M_parts g0 g' → ((-1) ≤ v ∧ v ≤ 700000) → Q v g') : ∀ (n : Nat) {l2 : Int} {l3 : Int} {l4 : Int} {l5 : Int} {g : zi_M}, zk_I g → zk_fr fr_M_parts g0 g → (0 ≤ l2 ∧ l2 ≤ 1023) → (0 ≤ l3 ∧ l3 ≤ 10) → (0 ≤ l4 ∧ l4 ≤ 700000) → (0 ≤ l5 ∧ l5 ≤ 10) → (l3 ≤ l5) → (l4 ≤ 65535 * l5) → 10 - l5 < (n : Int) → w_M_parts_l27 l1 K99 K128 Q n l2 l3 l4 l5 g
  | 0, l2, l3, l4, l5, g, I, F, b0, b1, b2, b3, b4, b5, hm => by exfalso; omega
  | n + 1, l2, l3, l4, l5, g, I, F, b0, b1, b2, b3, b4, b5, hm => by
    unfold w_M_parts_l27
    refine ⟨⟨by omega, by omega⟩, ?_⟩
    refine ⟨fun c31 => ?_, fun c31 => ?_⟩
    · exact hK128 _ _ _ I F ⟨by omega, by omega⟩ ⟨by omega, by omega⟩
    · refine ⟨⟨by omega, by omega⟩, ?_⟩
      have m_7 : 0 ≤ (g 242 l5) ∧ (g 242 l5) ≤ 1023 := I.1 242 l5
      refine ⟨⟨by omega, by omega⟩, ?_⟩
      refine ⟨fun c30 => ?_, fun c30 => ?_⟩
      · exact k_M_parts_l27 q1 hK99 hK128 hQ n I F ⟨by omega, by omega⟩ ⟨by omega, by omega⟩ ⟨by omega, by omega⟩ ⟨by omega, by omega⟩ (by omega) (by omega) (by omega)
      · have m_10 := zi_r_shr (l2) (l5)
        try have m_11 := (zi_shr_f (l2) (l5)).2 ⟨by omega, by omega⟩
        have m_12 := zi_r_and (zi_shr l2 l5) 1
        try have m_13 := (zi_and_f (zi_shr l2 l5) 1).2.1 ⟨by omega, by omega⟩
        try have m_14 := (zi_and_f (zi_shr l2 l5) 1).2.2 ⟨by omega, by omega⟩
        refine k_M_has I ⟨by omega, by omega⟩ ⟨by omega, by omega⟩ (fun v8 b_8 b_9 => ?_)
        refine ⟨fun c29 => ?_, fun c29 => ?_⟩
        · refine k_M_sideFrom I ⟨by omega, by omega⟩ ⟨by omega, by omega⟩ (fun v11 b_15 => ?_)
          refine k_M_sideFrom I ⟨by omega, by omega⟩ ⟨by omega, by omega⟩ (fun v14 b_16 => ?_)
          have m_17 := zi_r_and v11 v14
          try have m_18 := (zi_and_f v11 v14).2.1 ⟨by omega, by omega⟩
          try have m_19 := (zi_and_f v11 v14).2.2 ⟨by omega, by omega⟩
          refine ⟨fun c28 => ?_, fun c28 => ?_⟩
          · first | have m_26 := (zi_or_f l2 v11).2.1 ⟨by omega, by omega, by omega, by omega⟩ | have m_26 := (zi_or_f l2 v11).2.2.1 ⟨by omega, by omega, by omega, by omega⟩ | have m_26 := (zi_or_f l2 v11).2.2.2.1 ⟨by omega, by omega, by omega, by omega⟩ | have m_26 := (zi_or_f l2 v11).2.2.2.2.1 ⟨by omega, by omega, by omega, by omega⟩ | have m_26 := (zi_or_f l2 v11).2.2.2.2.2 ⟨by omega, by omega, by omega, by omega⟩ | have m_26 := zi_r_or l2 v11
            first | have m_27 := (zi_or_f (zi_or l2 v11) v14).2.1 ⟨by omega, by omega, by omega, by omega⟩ | have m_27 := (zi_or_f (zi_or l2 v11) v14).2.2.1 ⟨by omega, by omega, by omega, by omega⟩ | have m_27 := (zi_or_f (zi_or l2 v11) v14).2.2.2.1 ⟨by omega, by omega, by omega, by omega⟩ | have m_27 := (zi_or_f (zi_or l2 v11) v14).2.2.2.2.1 ⟨by omega, by omega, by omega, by omega⟩ | have m_27 := (zi_or_f (zi_or l2 v11) v14).2.2.2.2.2 ⟨by omega, by omega, by omega, by omega⟩ | have m_27 := zi_r_or (zi_or l2 v11) v14
            exact k_M_parts_b101 I F ⟨by omega, by omega⟩ ⟨by omega, by omega⟩ ⟨by omega, by omega⟩ ⟨by omega, by omega⟩ ⟨by omega, by omega⟩ ⟨by omega, by omega⟩ ⟨by omega, by omega⟩ (by omega) (by omega) (n : Int) (by omega) (fun _ _ _ _ _ I F b0 b1 b2 b3 b4 b5 hm => k_M_parts_l27 q1 hK99 hK128 hQ n I F b0 b1 b2 b3 b4 b5 hm) hK99 hK128 hQ
          · refine ⟨⟨by omega, by omega⟩, ?_⟩
            refine ⟨fun c27 => ?_, fun c27 => ?_⟩
            · first | have m_28 := (zi_or_f l2 v11).2.1 ⟨by omega, by omega, by omega, by omega⟩ | have m_28 := (zi_or_f l2 v11).2.2.1 ⟨by omega, by omega, by omega, by omega⟩ | have m_28 := (zi_or_f l2 v11).2.2.2.1 ⟨by omega, by omega, by omega, by omega⟩ | have m_28 := (zi_or_f l2 v11).2.2.2.2.1 ⟨by omega, by omega, by omega, by omega⟩ | have m_28 := (zi_or_f l2 v11).2.2.2.2.2 ⟨by omega, by omega, by omega, by omega⟩ | have m_28 := zi_r_or l2 v11
              first | have m_29 := (zi_or_f (zi_or l2 v11) v14).2.1 ⟨by omega, by omega, by omega, by omega⟩ | have m_29 := (zi_or_f (zi_or l2 v11) v14).2.2.1 ⟨by omega, by omega, by omega, by omega⟩ | have m_29 := (zi_or_f (zi_or l2 v11) v14).2.2.2.1 ⟨by omega, by omega, by omega, by omega⟩ | have m_29 := (zi_or_f (zi_or l2 v11) v14).2.2.2.2.1 ⟨by omega, by omega, by omega, by omega⟩ | have m_29 := (zi_or_f (zi_or l2 v11) v14).2.2.2.2.2 ⟨by omega, by omega, by omega, by omega⟩ | have m_29 := zi_r_or (zi_or l2 v11) v14
              exact k_M_parts_b101 I F ⟨by omega, by omega⟩ ⟨by omega, by omega⟩ ⟨by omega, by omega⟩ ⟨by omega, by omega⟩ ⟨by omega, by omega⟩ ⟨by omega, by omega⟩ ⟨by omega, by omega⟩ (by omega) (by omega) (n : Int) (by omega) (fun _ _ _ _ _ I F b0 b1 b2 b3 b4 b5 hm => k_M_parts_l27 q1 hK99 hK128 hQ n I F b0 b1 b2 b3 b4 b5 hm) hK99 hK128 hQ
            · exact hK99 _ I F
        · exact k_M_parts_l27 q1 hK99 hK128 hQ n I F ⟨by omega, by omega⟩ ⟨by omega, by omega⟩ ⟨by omega, by omega⟩ ⟨by omega, by omega⟩ (by omega) (by omega) (by omega)
set_option maxRecDepth 100000 in
set_option maxHeartbeats 4000000 in
theorem k_M_parts {l1 : Int} {g : zi_M} {Q : Int → zi_M → Prop} (I : zk_I g) (p1 : (-2147483648) ≤ l1 ∧ l1 ≤ 2147483647) (hQ : ∀ (v : Int) (g' : zi_M), zk_I g' → zk_fr fr_M_parts g g' → ((-1) ≤ v ∧ v ≤ 700000) → Q v g') : w_M_parts l1 g Q := by
  unfold w_M_parts
  intro g1 e_1
  have I_2 : zk_I g1 := by rw [e_1]; exact zk_upd (L := (-2147483648)) (H := 2147483647) rfl rfl I ⟨by omega, by omega⟩
  have F_3 : zk_fr fr_M_parts g g1 := by rw [e_1]; exact zk_fu (zk_f0 _) ⟨rfl, rfl⟩
  refine k_M_isIn I_2 ⟨by omega, by omega⟩ ⟨by omega, by omega⟩ ⟨by omega, by omega⟩ (fun v2 b_4 b_5 b_6 => ?_)
  refine ⟨fun c39 => ?_, fun c39 => ?_⟩
  · refine ⟨((10 - 0 : Int).toNat + 1), k_M_parts_l27 (l1 := l1) ⟨by omega, by omega⟩ (fun g32 I_30 F_31 => ?_) (fun k33 k34 g35 I_32 F_33 b_34 b_35 => ?_) hQ ((10 - 0 : Int).toNat + 1) I_2 F_3 ⟨by omega, by omega⟩ ⟨by omega, by omega⟩ ⟨by omega, by omega⟩ ⟨by omega, by omega⟩ (by omega) (by omega) (by omega)⟩
    · exact hQ _ _ I_30 F_31 ⟨by omega, by omega⟩
    · refine ⟨⟨by omega, by omega⟩, ?_⟩
      refine ⟨fun c37 => ?_, fun c37 => ?_⟩
      · exact hQ _ _ I_32 F_33 ⟨by omega, by omega⟩
      · exact hQ _ _ I_32 F_33 ⟨by omega, by omega⟩
  · exact hQ _ _ I_2 F_3 ⟨by omega, by omega⟩
-- SpoutNews$Thought.wordsOf(II)I
set_option maxRecDepth 100000 in
set_option maxHeartbeats 4000000 in
theorem k_Thought_wordsOf_l5 {g : zi_M} (I : zk_I g) {l1 : Int} {l2 : Int} {K37 : Int → zi_M → Prop} {Q : Int → zi_M → Prop} (q1 : 0 ≤ l1) (q2 : 0 ≤ l2 ∧ l2 ≤ 10) (hK37 : ∀ (k3 : Int), ((-2147483648) ≤ k3 ∧ k3 ≤ 2147483647) → K37 k3 g) (hQ : ∀ v : Int, ((-2147483648) ≤ v ∧ v ≤ 2147483647) → Q v g) : ∀ (n : Nat) {l3 : Int} {l4 : Int}, ((-2147483648) ≤ l3 ∧ l3 ≤ 2147483647) → (0 ≤ l4 ∧ l4 ≤ 10) → 10 - l4 < (n : Int) → w_Thought_wordsOf_l5 l1 l2 K37 Q n l3 l4 g
  | 0, l3, l4, b0, b1, hm => by exfalso; omega
  | n + 1, l3, l4, b0, b1, hm => by
    unfold w_Thought_wordsOf_l5
    refine ⟨⟨by omega, by omega⟩, ⟨by omega, by omega⟩, ?_⟩
    refine ⟨fun c5 => ?_, fun c5 => ?_⟩
    · exact hK37 _ ⟨by omega, by omega⟩
    · have m_1 := zi_r_shr l1 l4
      try have m_2 := (zi_shr_f l1 l4).2 ⟨by omega, by omega⟩
      have m_3 := zi_r_and (zi_shr l1 l4) 1
      try have m_4 := (zi_and_f (zi_shr l1 l4) 1).2.1 ⟨by omega, by omega⟩
      try have m_5 := (zi_and_f (zi_shr l1 l4) 1).2.2 ⟨by omega, by omega⟩
      refine ⟨fun c4 => ?_, fun c4 => ?_⟩
      · exact k_Thought_wordsOf_l5 I q1 q2 hK37 hQ n ⟨by omega, by omega⟩ ⟨by omega, by omega⟩ (by omega)
      · refine ⟨⟨by omega, by omega⟩, ?_⟩
        have m_6 : (-2147483648) ≤ (g 185 l4) ∧ (g 185 l4) ≤ 2147483647 := I.1 185 l4
        first | have m_7 := (zi_or_f l3 (g 185 l4)).2.1 ⟨by omega, by omega, by omega, by omega⟩ | have m_7 := (zi_or_f l3 (g 185 l4)).2.2.1 ⟨by omega, by omega, by omega, by omega⟩ | have m_7 := (zi_or_f l3 (g 185 l4)).2.2.2.1 ⟨by omega, by omega, by omega, by omega⟩ | have m_7 := (zi_or_f l3 (g 185 l4)).2.2.2.2.1 ⟨by omega, by omega, by omega, by omega⟩ | have m_7 := (zi_or_f l3 (g 185 l4)).2.2.2.2.2 ⟨by omega, by omega, by omega, by omega⟩ | have m_7 := zi_r_or l3 (g 185 l4)
        exact k_Thought_wordsOf_l5 I q1 q2 hK37 hQ n ⟨by omega, by omega⟩ ⟨by omega, by omega⟩ (by omega)
set_option maxRecDepth 100000 in
set_option maxHeartbeats 4000000 in
theorem k_Thought_wordsOf {l1 : Int} {l2 : Int} {g : zi_M} {Q : Int → zi_M → Prop} (I : zk_I g) (p1 : 0 ≤ l1) (p2 : 0 ≤ l2 ∧ l2 ≤ 10) (hQ : ∀ v : Int, ((-2147483648) ≤ v ∧ v ≤ 2147483647) → Q v g) : w_Thought_wordsOf l1 l2 g Q := by
  unfold w_Thought_wordsOf
  refine ⟨((10 - 0 : Int).toNat + 1), k_Thought_wordsOf_l5 (l1 := l1) (l2 := l2) I (by omega) ⟨by omega, by omega⟩ (fun k6 b_8 => ?_) hQ ((10 - 0 : Int).toNat + 1) ⟨by omega, by omega⟩ ⟨by omega, by omega⟩ (by omega)⟩
  exact hQ _ ⟨by omega, by omega⟩
-- SpoutNews$Thought.fewestThatKnow(LSpoutNews$World;I)I
set_option maxRecDepth 100000 in
set_option maxHeartbeats 4000000 in
theorem k_Thought_fewestThatKnow_l2 {K27 : zi_M → Prop} {Q : Int → zi_M → Prop} {g0 : zi_M} (hK27 : ∀ (g : zi_M), zk_I g → zk_fr fr_Thought_fewestThatKnow g0 g → K27 g) (hQ : ∀ (v : Int) (g' : zi_M), zk_I g' → zk_fr fr_Thought_fewestThatKnow g0 g' → ((-1) ≤ v ∧ v ≤ 1023) → Q v g') : ∀ (n : Nat) {l3 : Int} {g : zi_M}, zk_I g → zk_fr fr_Thought_fewestThatKnow g0 g → (0 ≤ l3 ∧ l3 ≤ 10) → 10 - l3 < (n : Int) → w_Thought_fewestThatKnow_l2 K27 Q n l3 g
  | 0, l3, g, I, F, b0, hm => by exfalso; omega
  | n + 1, l3, g, I, F, b0, hm => by
    unfold w_Thought_fewestThatKnow_l2
    have m_1 : 0 ≤ (g 2 8) ∧ (g 2 8) ≤ 10 := I.1 2 8
    refine ⟨⟨by omega, by omega⟩, ⟨by omega, by omega⟩, ?_⟩
    refine ⟨fun c8 => ?_, fun c8 => ?_⟩
    · exact hK27 _ I F
    · refine k_World_heardSet rfl I ⟨by omega, by omega⟩ (fun v3 b_2 b_3 => ?_)
      refine ⟨⟨by omega, by omega⟩, ?_⟩
      intro g7 e_4
      have I_5 : zk_I g7 := by rw [e_4]; exact zk_upd (L := (-2147483648)) (H := 2147483647) rfl rfl I ⟨by omega, by omega⟩
      have F_6 : zk_fr fr_Thought_fewestThatKnow g0 g7 := by rw [e_4]; exact zk_fu F rfl
      exact k_Thought_fewestThatKnow_l2 hK27 hQ n I_5 F_6 ⟨by omega, by omega⟩ (by omega)
set_option maxRecDepth 100000 in
set_option maxHeartbeats 4000000 in
theorem k_Thought_fewestThatKnow_l36 {l2 : Int} {K91 : Int → zi_M → Prop} {Q : Int → zi_M → Prop} {g0 : zi_M} (q2 : (-2147483648) ≤ l2 ∧ l2 ≤ 2147483647) (hK91 : ∀ (k3 : Int) (g : zi_M), zk_I g → zk_fr fr_Thought_fewestThatKnow g0 g → ((-1) ≤ k3 ∧ k3 ≤ 1023) → K91 k3 g) (hQ : ∀ (v : Int) (g' : zi_M), zk_I g' → zk_fr fr_Thought_fewestThatKnow g0 g' → ((-1) ≤ v ∧ v ≤ 1023) → Q v g') : ∀ (n : Nat) {l3 : Int} {l4 : Int} {l5 : Int} {g : zi_M}, zk_I g → zk_fr fr_Thought_fewestThatKnow g0 g → ((-1) ≤ l3 ∧ l3 ≤ 1023) → (0 ≤ l4 ∧ l4 ≤ 11) → (0 ≤ l5 ∧ l5 ≤ 1024) → 1024 - l5 < (n : Int) → w_Thought_fewestThatKnow_l36 l2 K91 Q n l3 l4 l5 g
  | 0, l3, l4, l5, g, I, F, b0, b1, b2, hm => by exfalso; omega
  | n + 1, l3, l4, l5, g, I, F, b0, b1, b2, hm => by
    unfold w_Thought_fewestThatKnow_l36
    refine ⟨⟨by omega, by omega⟩, ?_⟩
    have m_9 : 0 ≤ (g 2 8) ∧ (g 2 8) ≤ 10 := I.1 2 8
    have m_10 := zi_r_shl 1 (g 2 8)
    try have m_11 := (zi_shl_f (g 2 8)).2.1 ⟨by omega, by omega⟩
    first | have m_12 := (zi_shl_f (g 2 8)).2.2.1 ⟨by omega, by omega⟩ | have m_13 := (zi_shl_f (g 2 8)).2.2.2.1 ⟨by omega, by omega⟩ | have m_14 := (zi_shl_f (g 2 8)).2.2.2.2.1 ⟨by omega, by omega⟩ | have m_15 := (zi_shl_f (g 2 8)).2.2.2.2.2.1 ⟨by omega, by omega⟩ | have m_16 := (zi_shl_f (g 2 8)).2.2.2.2.2.2 ⟨by omega, by omega⟩ | skip
    refine ⟨fun c21 => ?_, fun c21 => ?_⟩
    · exact hK91 _ _ I F ⟨by omega, by omega⟩
    · refine k_Integer_bitCount I ⟨by omega, by omega⟩ (fun v11 b_17 b_18 => ?_)
      refine ⟨⟨by omega, by omega⟩, ⟨by omega, by omega⟩, ?_⟩
      refine ⟨fun c20 => ?_, fun c20 => ?_⟩
      · exact k_Thought_fewestThatKnow_l36 q2 hK91 hQ n I F ⟨by omega, by omega⟩ ⟨by omega, by omega⟩ ⟨by omega, by omega⟩ (by omega)
      · refine k_Thought_wordsOf I (by omega) ⟨by omega, by omega⟩ (fun v16 b_19 => ?_)
        first | have m_20 := (zi_xor_f v16 (-1)).2.1 ⟨by omega, by omega, by omega, by omega⟩ | have m_20 := (zi_xor_f v16 (-1)).2.2.1 ⟨by omega, by omega, by omega, by omega⟩ | have m_20 := (zi_xor_f v16 (-1)).2.2.2 ⟨by omega, by omega, by omega, by omega⟩ | have m_20 := zi_r_xor v16 (-1)
        have m_21 := zi_r_and l2 (zi_xor v16 (-1))
        try have m_22 := (zi_and_f l2 (zi_xor v16 (-1))).2.1 ⟨by omega, by omega⟩
        try have m_23 := (zi_and_f l2 (zi_xor v16 (-1))).2.2 ⟨by omega, by omega⟩
        refine ⟨fun c19 => ?_, fun c19 => ?_⟩
        · exact k_Thought_fewestThatKnow_l36 q2 hK91 hQ n I F ⟨by omega, by omega⟩ ⟨by omega, by omega⟩ ⟨by omega, by omega⟩ (by omega)
        · exact k_Thought_fewestThatKnow_l36 q2 hK91 hQ n I F ⟨by omega, by omega⟩ ⟨by omega, by omega⟩ ⟨by omega, by omega⟩ (by omega)
set_option maxRecDepth 100000 in
set_option maxHeartbeats 4000000 in
theorem k_Thought_fewestThatKnow {l2 : Int} {g : zi_M} {Q : Int → zi_M → Prop} (I : zk_I g) (p2 : (-2147483648) ≤ l2 ∧ l2 ≤ 2147483647) (hQ : ∀ (v : Int) (g' : zi_M), zk_I g' → zk_fr fr_Thought_fewestThatKnow g g' → ((-1) ≤ v ∧ v ≤ 1023) → Q v g') : w_Thought_fewestThatKnow l2 g Q := by
  unfold w_Thought_fewestThatKnow
  refine ⟨((10 - 0 : Int).toNat + 1), k_Thought_fewestThatKnow_l2 (fun g9 I_7 F_8 => ?_) hQ ((10 - 0 : Int).toNat + 1) I (zk_f0 _) ⟨by omega, by omega⟩ (by omega)⟩
  refine ⟨((1024 - 0 : Int).toNat + 1), k_Thought_fewestThatKnow_l36 (l2 := l2) ⟨by omega, by omega⟩ (fun k22 g23 I_24 F_25 b_26 => ?_) hQ ((1024 - 0 : Int).toNat + 1) I_7 F_8 ⟨by omega, by omega⟩ ⟨by omega, by omega⟩ ⟨by omega, by omega⟩ (by omega)⟩
  exact hQ _ _ I_24 F_25 ⟨by omega, by omega⟩
-- SpoutNews.known(II)I
set_option maxRecDepth 100000 in
set_option maxHeartbeats 4000000 in
theorem k_S_known_b18 {l1 : Int} {l2 : Int} {Q : Int → zi_M → Prop} {g : zi_M} {g0 : zi_M} (I : zk_I g) (F : zk_fr fr_S_known g0 g) (p1 : (-2147483648) ≤ l1 ∧ l1 ≤ 2147483647) (p2 : 0 ≤ l2 ∧ l2 ≤ 1) (hQ : ∀ (v : Int) (g' : zi_M), zk_I g' → zk_fr fr_S_known g0 g' → ((-1) ≤ v ∧ v ≤ 1023) → Q v g') : w_S_known_b18 l1 l2 g Q := by
  unfold w_S_known_b18
  refine k_Thought_fewestThatKnow I ⟨by omega, by omega⟩ (fun v5 g6 I_5 F_6 b_4 => ?_)
  have F_7 : zk_fr fr_S_known g0 g6 := zk_ft F F_6 (fun a i => (fun h => h))
  refine ⟨⟨by omega, by omega⟩, ?_⟩
  refine ⟨fun c14 => ?_, fun c14 => ?_⟩
  · exact hQ _ _ I_5 F_7 ⟨by omega, by omega⟩
  · refine ⟨⟨by omega, by omega⟩, ?_⟩
    refine ⟨fun c13 => ?_, fun c13 => ?_⟩
    · exact hQ _ _ I_5 F_7 ⟨by omega, by omega⟩
    · refine k_Integer_bitCount I_5 ⟨by omega, by omega⟩ (fun v10 b_8 b_9 => ?_)
      exact hQ _ _ I_5 F_7 ⟨by omega, by omega⟩
set_option maxRecDepth 100000 in
set_option maxHeartbeats 4000000 in
theorem k_S_known {l1 : Int} {l2 : Int} {g : zi_M} {Q : Int → zi_M → Prop} (I : zk_I g) (p1 : (-2147483648) ≤ l1 ∧ l1 ≤ 2147483647) (p2 : (-2147483648) ≤ l2 ∧ l2 ≤ 2147483647) (hQ : ∀ (v : Int) (g' : zi_M), zk_I g' → zk_fr fr_S_known g g' → ((-1) ≤ v ∧ v ≤ 1023) → Q v g') : w_S_known l1 l2 g Q := by
  unfold w_S_known
  refine k_S_isWordSet I ⟨by omega, by omega⟩ (fun v1 b_1 b_2 b_3 => ?_)
  refine ⟨fun c17 => ?_, fun c17 => ?_⟩
  · exact hQ _ _ I (zk_f0 _) ⟨by omega, by omega⟩
  · refine ⟨⟨by omega, by omega⟩, ?_⟩
    refine ⟨fun c16 => ?_, fun c16 => ?_⟩
    · exact k_S_known_b18 I (zk_f0 _) ⟨by omega, by omega⟩ ⟨by omega, by omega⟩ hQ
    · refine ⟨fun c15 => ?_, fun c15 => ?_⟩
      · exact k_S_known_b18 I (zk_f0 _) ⟨by omega, by omega⟩ ⟨by omega, by omega⟩ hQ
      · exact hQ _ _ I (zk_f0 _) ⟨by omega, by omega⟩
-- SpoutNewsModel.known(II)I
set_option maxRecDepth 100000 in
set_option maxHeartbeats 4000000 in
theorem k_M_known_l50 {l4 : Int} {K87 : Int → zi_M → Prop} {Q : Int → zi_M → Prop} {g0 : zi_M} (q4 : 0 ≤ l4 ∧ l4 ≤ 1023) (hK87 : ∀ (k5 : Int) (g : zi_M), zk_I g → zk_fr fr_M_known g0 g → (0 ≤ k5 ∧ k5 ≤ 65535) → K87 k5 g) (hQ : ∀ (v : Int) (g' : zi_M), zk_I g' → zk_fr fr_M_known g0 g' → ((-1) ≤ v ∧ v ≤ 65535) → Q v g') : ∀ (n : Nat) {l5 : Int} {l6 : Int} {g : zi_M}, zk_I g → zk_fr fr_M_known g0 g → (0 ≤ l5 ∧ l5 ≤ 65535) → (0 ≤ l6 ∧ l6 ≤ 10) → 10 - l6 < (n : Int) → w_M_known_l50 l4 K87 Q n l5 l6 g
  | 0, l5, l6, g, I, F, b0, b1, hm => by exfalso; omega
  | n + 1, l5, l6, g, I, F, b0, b1, hm => by
    unfold w_M_known_l50
    have m_18 : 0 ≤ (g 214 6) ∧ (g 214 6) ≤ 10 := I.1 214 6
    refine ⟨⟨by omega, by omega⟩, ⟨by omega, by omega⟩, ?_⟩
    refine ⟨fun c18 => ?_, fun c18 => ?_⟩
    · exact hK87 _ _ I F ⟨by omega, by omega⟩
    · have m_21 := zi_r_shr (l4) (l6)
      try have m_22 := (zi_shr_f (l4) (l6)).2 ⟨by omega, by omega⟩
      have m_23 := zi_r_and (zi_shr l4 l6) 1
      try have m_24 := (zi_and_f (zi_shr l4 l6) 1).2.1 ⟨by omega, by omega⟩
      try have m_25 := (zi_and_f (zi_shr l4 l6) 1).2.2 ⟨by omega, by omega⟩
      refine k_M_has I ⟨by omega, by omega⟩ ⟨by omega, by omega⟩ (fun v11 b_19 b_20 => ?_)
      refine ⟨fun c17 => ?_, fun c17 => ?_⟩
      · exact k_M_known_l50 q4 hK87 hQ n I F ⟨by omega, by omega⟩ ⟨by omega, by omega⟩ (by omega)
      · refine k_M_heardSet I ⟨by omega, by omega⟩ (fun v14 b_26 b_27 => ?_)
        first | have m_28 := (zi_or_f l5 v14).2.1 ⟨by omega, by omega, by omega, by omega⟩ | have m_28 := (zi_or_f l5 v14).2.2.1 ⟨by omega, by omega, by omega, by omega⟩ | have m_28 := (zi_or_f l5 v14).2.2.2.1 ⟨by omega, by omega, by omega, by omega⟩ | have m_28 := (zi_or_f l5 v14).2.2.2.2.1 ⟨by omega, by omega, by omega, by omega⟩ | have m_28 := (zi_or_f l5 v14).2.2.2.2.2 ⟨by omega, by omega, by omega, by omega⟩ | have m_28 := zi_r_or l5 v14
        exact k_M_known_l50 q4 hK87 hQ n I F ⟨by omega, by omega⟩ ⟨by omega, by omega⟩ (by omega)
set_option maxRecDepth 100000 in
set_option maxHeartbeats 4000000 in
theorem k_M_known_l33 {l1 : Int} {K124 : Int → zi_M → Prop} {Q : Int → zi_M → Prop} {g0 : zi_M} (q1 : (-2147483648) ≤ l1 ∧ l1 ≤ 2147483647) (hK124 : ∀ (k3 : Int) (g : zi_M), zk_I g → zk_fr fr_M_known g0 g → ((-1) ≤ k3 ∧ k3 ≤ 1023) → K124 k3 g) (hQ : ∀ (v : Int) (g' : zi_M), zk_I g' → zk_fr fr_M_known g0 g' → ((-1) ≤ v ∧ v ≤ 65535) → Q v g') : ∀ (n : Nat) {l3 : Int} {l4 : Int} {g : zi_M}, zk_I g → zk_fr fr_M_known g0 g → ((-1) ≤ l3 ∧ l3 ≤ 1023) → (0 ≤ l4 ∧ l4 ≤ 1024) → 1024 - l4 < (n : Int) → w_M_known_l33 l1 K124 Q n l3 l4 g
  | 0, l3, l4, g, I, F, b0, b1, hm => by exfalso; omega
  | n + 1, l3, l4, g, I, F, b0, b1, hm => by
    unfold w_M_known_l33
    refine ⟨⟨by omega, by omega⟩, ?_⟩
    have m_10 : 0 ≤ (g 214 6) ∧ (g 214 6) ≤ 10 := I.1 214 6
    have m_11 := zi_r_shl 1 (g 214 6)
    try have m_12 := (zi_shl_f (g 214 6)).2.1 ⟨by omega, by omega⟩
    first | have m_13 := (zi_shl_f (g 214 6)).2.2.1 ⟨by omega, by omega⟩ | have m_14 := (zi_shl_f (g 214 6)).2.2.2.1 ⟨by omega, by omega⟩ | have m_15 := (zi_shl_f (g 214 6)).2.2.2.2.1 ⟨by omega, by omega⟩ | have m_16 := (zi_shl_f (g 214 6)).2.2.2.2.2.1 ⟨by omega, by omega⟩ | have m_17 := (zi_shl_f (g 214 6)).2.2.2.2.2.2 ⟨by omega, by omega⟩ | skip
    refine ⟨fun c34 => ?_, fun c34 => ?_⟩
    · exact hK124 _ _ I F ⟨by omega, by omega⟩
    · refine ⟨((10 - 0 : Int).toNat + 1), k_M_known_l50 (l4 := l4) ⟨by omega, by omega⟩ (fun k19 g20 I_29 F_30 b_31 => ?_) hQ ((10 - 0 : Int).toNat + 1) I F ⟨by omega, by omega⟩ ⟨by omega, by omega⟩ (by omega)⟩
      first | have m_32 := (zi_xor_f k19 (-1)).2.1 ⟨by omega, by omega, by omega, by omega⟩ | have m_32 := (zi_xor_f k19 (-1)).2.2.1 ⟨by omega, by omega, by omega, by omega⟩ | have m_32 := (zi_xor_f k19 (-1)).2.2.2 ⟨by omega, by omega, by omega, by omega⟩ | have m_32 := zi_r_xor k19 (-1)
      have m_33 := zi_r_and l1 (zi_xor k19 (-1))
      try have m_34 := (zi_and_f l1 (zi_xor k19 (-1))).2.1 ⟨by omega, by omega⟩
      try have m_35 := (zi_and_f l1 (zi_xor k19 (-1))).2.2 ⟨by omega, by omega⟩
      refine ⟨fun c32 => ?_, fun c32 => ?_⟩
      · exact k_M_known_l33 q1 hK124 hQ n I_29 F_30 ⟨by omega, by omega⟩ ⟨by omega, by omega⟩ (by omega)
      · refine ⟨⟨by omega, by omega⟩, ?_⟩
        refine ⟨fun c31 => ?_, fun c31 => ?_⟩
        · exact k_M_known_l33 q1 hK124 hQ n I_29 F_30 ⟨by omega, by omega⟩ ⟨by omega, by omega⟩ (by omega)
        · refine k_M_onesOf I_29 ⟨by omega, by omega⟩ (fun v22 b_36 b_37 => ?_)
          refine k_M_onesOf I_29 ⟨by omega, by omega⟩ (fun v25 b_38 b_39 => ?_)
          refine ⟨⟨by omega, by omega⟩, ⟨by omega, by omega⟩, ?_⟩
          refine ⟨fun c30 => ?_, fun c30 => ?_⟩
          · exact k_M_known_l33 q1 hK124 hQ n I_29 F_30 ⟨by omega, by omega⟩ ⟨by omega, by omega⟩ (by omega)
          · exact k_M_known_l33 q1 hK124 hQ n I_29 F_30 ⟨by omega, by omega⟩ ⟨by omega, by omega⟩ (by omega)
set_option maxRecDepth 100000 in
set_option maxHeartbeats 4000000 in
theorem k_M_known {l1 : Int} {l2 : Int} {g : zi_M} {Q : Int → zi_M → Prop} (I : zk_I g) (p1 : (-2147483648) ≤ l1 ∧ l1 ≤ 2147483647) (p2 : (-2147483648) ≤ l2 ∧ l2 ≤ 2147483647) (hQ : ∀ (v : Int) (g' : zi_M), zk_I g' → zk_fr fr_M_known g g' → ((-1) ≤ v ∧ v ≤ 65535) → Q v g') : w_M_known l1 l2 g Q := by
  unfold w_M_known
  intro g1 e_1
  have I_2 : zk_I g1 := by rw [e_1]; exact zk_upd (L := (-2147483648)) (H := 2147483647) rfl rfl I ⟨by omega, by omega⟩
  have F_3 : zk_fr fr_M_known g g1 := by rw [e_1]; exact zk_fu (zk_f0 _) ⟨rfl, rfl⟩
  refine k_M_isIn I_2 ⟨by omega, by omega⟩ ⟨by omega, by omega⟩ ⟨by omega, by omega⟩ (fun v2 b_4 b_5 b_6 => ?_)
  refine ⟨fun c46 => ?_, fun c46 => ?_⟩
  · exact hQ _ _ I_2 F_3 ⟨by omega, by omega⟩
  · refine k_M_isIn I_2 ⟨by omega, by omega⟩ ⟨by omega, by omega⟩ ⟨by omega, by omega⟩ (fun v5 b_7 b_8 b_9 => ?_)
    refine ⟨fun c45 => ?_, fun c45 => ?_⟩
    · refine ⟨((1024 - 0 : Int).toNat + 1), k_M_known_l33 (l1 := l1) ⟨by omega, by omega⟩ (fun k35 g36 I_40 F_41 b_42 => ?_) hQ ((1024 - 0 : Int).toNat + 1) I_2 F_3 ⟨by omega, by omega⟩ ⟨by omega, by omega⟩ (by omega)⟩
      refine ⟨⟨by omega, by omega⟩, ?_⟩
      refine ⟨fun c43 => ?_, fun c43 => ?_⟩
      · exact hQ _ _ I_40 F_41 ⟨by omega, by omega⟩
      · refine ⟨⟨by omega, by omega⟩, ?_⟩
        refine ⟨fun c42 => ?_, fun c42 => ?_⟩
        · refine k_M_onesOf I_40 ⟨by omega, by omega⟩ (fun v39 b_43 b_44 => ?_)
          exact hQ _ _ I_40 F_41 ⟨by omega, by omega⟩
        · exact hQ _ _ I_40 F_41 ⟨by omega, by omega⟩
    · exact hQ _ _ I_2 F_3 ⟨by omega, by omega⟩
-- SpoutNews.latin(II)Z
set_option maxRecDepth 100000 in
set_option maxHeartbeats 4000000 in
theorem k_S_latin {l1 : Int} {l2 : Int} {g : zi_M} {Q : Int → zi_M → Prop} (I : zk_I g) (p1 : (-2147483648) ≤ l1 ∧ l1 ≤ 2147483647) (p2 : (-2147483648) ≤ l2 ∧ l2 ≤ 2147483647) (hQ : ∀ (v : Int) (g' : zi_M), zk_I g' → zk_fr fr_S_latin g g' → (0 ≤ v ∧ v ≤ 1) → (0 ≤ l1 ∧ l1 ≤ 15 ∧ 0 ≤ l2 ∧ l2 ≤ 15 → v = 1) → (¬ (0 ≤ l1 ∧ l1 ≤ 15 ∧ 0 ≤ l2 ∧ l2 ≤ 15) → v = 0) → (∀ k : Int, 0 ≤ k ∧ k < 16 → (0 ≤ l1 ∧ l1 ≤ 15 ∧ 0 ≤ l2 ∧ l2 ≤ 15 ∧ k = l1 → g' 41 k = l2) ∧ (¬ (0 ≤ l1 ∧ l1 ≤ 15 ∧ 0 ≤ l2 ∧ l2 ≤ 15 ∧ k = l1) → g' 41 k = g 41 k)) → Q v g') : w_S_latin l1 l2 g Q := by
  unfold w_S_latin
  refine k_S_isWord I ⟨by omega, by omega⟩ (fun v1 b_1 b_2 b_3 => ?_)
  refine ⟨fun c10 => ?_, fun c10 => ?_⟩
  · have z_5 : ∀ k : Int, 0 ≤ k ∧ k < 16 → (0 ≤ l1 ∧ l1 ≤ 15 ∧ 0 ≤ l2 ∧ l2 ≤ 15 ∧ k = l1 → g 41 k = l2) ∧ (¬ (0 ≤ l1 ∧ l1 ≤ 15 ∧ 0 ≤ l2 ∧ l2 ≤ 15 ∧ k = l1) → g 41 k = g 41 k) := by
      intro k hk
      have m_4 : 0 ≤ (g 41 k) ∧ (g 41 k) ≤ 15 := I.1 41 k
      omega
    exact hQ _ _ I (zk_f0 _) ⟨by omega, by omega⟩ (by omega) (by omega) z_5
  · refine k_S_isWord I ⟨by omega, by omega⟩ (fun v4 b_6 b_7 b_8 => ?_)
    refine ⟨fun c9 => ?_, fun c9 => ?_⟩
    · refine ⟨⟨by omega, by omega⟩, ?_⟩
      intro g8 e_9
      have I_10 : zk_I g8 := by rw [e_9]; exact zk_upd (L := 0) (H := 15) rfl rfl I ⟨by omega, by omega⟩
      have F_11 : zk_fr fr_S_latin g g8 := by rw [e_9]; exact zk_fu (zk_f0 _) rfl
      have z_15 : ∀ k : Int, 0 ≤ k ∧ k < 16 → (0 ≤ l1 ∧ l1 ≤ 15 ∧ 0 ≤ l2 ∧ l2 ≤ 15 ∧ k = l1 → g8 41 k = l2) ∧ (¬ (0 ≤ l1 ∧ l1 ≤ 15 ∧ 0 ≤ l2 ∧ l2 ≤ 15 ∧ k = l1) → g8 41 k = g 41 k) := by
        intro k hk
        have m_12 : 0 ≤ (g8 41 k) ∧ (g8 41 k) ≤ 15 := I_10.1 41 k
        have m_13 : 0 ≤ (g 41 k) ∧ (g 41 k) ≤ 15 := I.1 41 k
        have m_14 : (k = l1 → g8 41 k = l2) ∧ (¬ k = l1 → g8 41 k = g 41 k) := by rw [e_9]; exact zi_u_if
        omega
      exact hQ _ _ I_10 F_11 ⟨by omega, by omega⟩ (by omega) (by omega) z_15
    · have z_17 : ∀ k : Int, 0 ≤ k ∧ k < 16 → (0 ≤ l1 ∧ l1 ≤ 15 ∧ 0 ≤ l2 ∧ l2 ≤ 15 ∧ k = l1 → g 41 k = l2) ∧ (¬ (0 ≤ l1 ∧ l1 ≤ 15 ∧ 0 ≤ l2 ∧ l2 ≤ 15 ∧ k = l1) → g 41 k = g 41 k) := by
        intro k hk
        have m_16 : 0 ≤ (g 41 k) ∧ (g 41 k) ≤ 15 := I.1 41 k
        omega
      exact hQ _ _ I (zk_f0 _) ⟨by omega, by omega⟩ (by omega) (by omega) z_17
-- SpoutNewsModel.latin(II)Z
set_option maxRecDepth 100000 in
set_option maxHeartbeats 4000000 in
theorem k_M_latin {l1 : Int} {l2 : Int} {g : zi_M} {Q : Int → zi_M → Prop} (I : zk_I g) (p1 : (-2147483648) ≤ l1 ∧ l1 ≤ 2147483647) (p2 : (-2147483648) ≤ l2 ∧ l2 ≤ 2147483647) (hQ : ∀ (v : Int) (g' : zi_M), zk_I g' → zk_fr fr_M_latin g g' → (0 ≤ v ∧ v ≤ 1) → (0 ≤ l1 ∧ l1 ≤ 15 ∧ 0 ≤ l2 ∧ l2 ≤ 15 → v = 1) → (¬ (0 ≤ l1 ∧ l1 ≤ 15 ∧ 0 ≤ l2 ∧ l2 ≤ 15) → v = 0) → (∀ k : Int, 0 ≤ k ∧ k < 16 → (0 ≤ l1 ∧ l1 ≤ 15 ∧ 0 ≤ l2 ∧ l2 ≤ 15 ∧ k = l1 → g' 243 k = l2 - l1) ∧ (¬ (0 ≤ l1 ∧ l1 ≤ 15 ∧ 0 ≤ l2 ∧ l2 ≤ 15 ∧ k = l1) → g' 243 k = g 243 k)) → Q v g') : w_M_latin l1 l2 g Q := by
  unfold w_M_latin
  intro g1 e_1
  have I_2 : zk_I g1 := by rw [e_1]; exact zk_upd (L := (-2147483648)) (H := 2147483647) rfl rfl I ⟨by omega, by omega⟩
  have F_3 : zk_fr fr_M_latin g g1 := by rw [e_1]; exact zk_fu (zk_f0 _) (Or.inr ⟨rfl, rfl⟩)
  refine k_M_isIn I_2 ⟨by omega, by omega⟩ ⟨by omega, by omega⟩ ⟨by omega, by omega⟩ (fun v2 b_4 b_5 b_6 => ?_)
  refine ⟨fun c11 => ?_, fun c11 => ?_⟩
  · have z_10 : ∀ k : Int, 0 ≤ k ∧ k < 16 → (0 ≤ l1 ∧ l1 ≤ 15 ∧ 0 ≤ l2 ∧ l2 ≤ 15 ∧ k = l1 → g1 243 k = l2 - l1) ∧ (¬ (0 ≤ l1 ∧ l1 ≤ 15 ∧ 0 ≤ l2 ∧ l2 ≤ 15 ∧ k = l1) → g1 243 k = g 243 k) := by
      intro k hk
      have m_7 := zk_latin I_2 (i := k)
      have m_8 : g1 243 k = g 243 k := by rw [e_1]; exact zi_u_ne (by decide)
      have m_9 := zk_latin I (i := k)
      omega
    exact hQ _ _ I_2 F_3 ⟨by omega, by omega⟩ (by omega) (by omega) z_10
  · refine k_M_isIn I_2 ⟨by omega, by omega⟩ ⟨by omega, by omega⟩ ⟨by omega, by omega⟩ (fun v5 b_11 b_12 b_13 => ?_)
    refine ⟨fun c10 => ?_, fun c10 => ?_⟩
    · refine ⟨⟨by omega, by omega⟩, ?_⟩
      intro g9 e_14
      have I_15 : zk_I g9 := by rw [e_14]; exact zk_upd (zk_ll (i := l1) (by omega)).1 (zk_ll (i := l1) (by omega)).2 I_2 ⟨by omega, by omega⟩
      have F_16 : zk_fr fr_M_latin g g9 := by rw [e_14]; exact zk_fu F_3 (Or.inl rfl)
      have z_22 : ∀ k : Int, 0 ≤ k ∧ k < 16 → (0 ≤ l1 ∧ l1 ≤ 15 ∧ 0 ≤ l2 ∧ l2 ≤ 15 ∧ k = l1 → g9 243 k = l2 - l1) ∧ (¬ (0 ≤ l1 ∧ l1 ≤ 15 ∧ 0 ≤ l2 ∧ l2 ≤ 15 ∧ k = l1) → g9 243 k = g 243 k) := by
        intro k hk
        have m_17 := zk_latin I_15 (i := k)
        have m_18 := zk_latin I_2 (i := k)
        have m_19 : g1 243 k = g 243 k := by rw [e_1]; exact zi_u_ne (by decide)
        have m_20 := zk_latin I (i := k)
        have m_21 : (k = l1 → g9 243 k = l2 - l1) ∧ (¬ k = l1 → g9 243 k = g1 243 k) := by rw [e_14]; exact zi_u_if
        omega
      exact hQ _ _ I_15 F_16 ⟨by omega, by omega⟩ (by omega) (by omega) z_22
    · have z_26 : ∀ k : Int, 0 ≤ k ∧ k < 16 → (0 ≤ l1 ∧ l1 ≤ 15 ∧ 0 ≤ l2 ∧ l2 ≤ 15 ∧ k = l1 → g1 243 k = l2 - l1) ∧ (¬ (0 ≤ l1 ∧ l1 ≤ 15 ∧ 0 ≤ l2 ∧ l2 ≤ 15 ∧ k = l1) → g1 243 k = g 243 k) := by
        intro k hk
        have m_23 := zk_latin I_2 (i := k)
        have m_24 : g1 243 k = g 243 k := by rw [e_1]; exact zi_u_ne (by decide)
        have m_25 := zk_latin I (i := k)
        omega
      exact hQ _ _ I_2 F_3 ⟨by omega, by omega⟩ (by omega) (by omega) z_26
-- SpoutNews$Thought.stepsAgain(LSpoutNews$Told;I)I
set_option maxRecDepth 100000 in
set_option maxHeartbeats 4000000 in
theorem k_Thought_stepsAgain_l10 {l2 : Int} {g : zi_M} (I : zk_I g) {x2 : Int} {K36 : Int → zi_M → Prop} {K52 : zi_M → Prop} {Q : Int → zi_M → Prop} (hK36 : ∀ (k5 : Int), (1 ≤ k5 ∧ k5 ≤ 16) → (k5 = zco (g 41) z16 (zi_shl 1 x2) (g 41 x2) 1) → K36 k5 g) (hK52 : (False) → K52 g) (hQ : ∀ v : Int, ((-1) ≤ v ∧ v ≤ 16) → (v = zco (g 41) z16 (zi_shl 1 l2) (g 41 l2) 1) → (1 ≤ v ∧ v ≤ 16) → Q v g) : ∀ (n : Nat) {l3 : Int} {l4 : Int} {l5 : Int}, (0 ≤ l3 ∧ l3 ≤ 65535) → (0 ≤ l4 ∧ l4 ≤ 15) → (1 ≤ l5 ∧ l5 ≤ 17) → (zpc l3 z16 = l5) → (zco (g 41) (17 - l5).toNat l3 (g 41 l4) l5 = zco (g 41) z16 (zi_shl 1 x2) (g 41 x2) 1) → 17 - l5 < (n : Int) → w_Thought_stepsAgain_l10 K36 K52 Q n l3 l4 l5 g
  | 0, l3, l4, l5, b0, b1, b2, b3, b4, hm => by exfalso; omega
  | n + 1, l3, l4, l5, b0, b1, b2, b3, b4, hm => by
    unfold w_Thought_stepsAgain_l10
    refine ⟨⟨by omega, by omega⟩, ?_⟩
    refine ⟨fun c4 => ?_, fun c4 => ?_⟩
    · exact hK52 (by have hp := zpc_16 b3; omega)
    · refine ⟨⟨by omega, by omega⟩, ?_⟩
      have m_1 : 0 ≤ (g 41 l4) ∧ (g 41 l4) ≤ 15 := I.1 41 l4
      have m_2 := zi_r_shr l3 (g 41 l4)
      try have m_3 := (zi_shr_f l3 (g 41 l4)).2 ⟨by omega, by omega⟩
      have m_4 := zi_r_and (zi_shr l3 (g 41 l4)) 1
      try have m_5 := (zi_and_f (zi_shr l3 (g 41 l4)) 1).2.1 ⟨by omega, by omega⟩
      try have m_6 := (zi_and_f (zi_shr l3 (g 41 l4)) 1).2.2 ⟨by omega, by omega⟩
      refine ⟨fun c3 => ?_, fun c3 => ?_⟩
      · have m_7 := zi_r_shl 1 (g 41 l4)
        try have m_8 := (zi_shl_f (g 41 l4)).2.1 ⟨by omega, by omega⟩
        first | have m_9 := (zi_shl_f (g 41 l4)).2.2.1 ⟨by omega, by omega⟩ | have m_10 := (zi_shl_f (g 41 l4)).2.2.2.1 ⟨by omega, by omega⟩ | have m_11 := (zi_shl_f (g 41 l4)).2.2.2.2.1 ⟨by omega, by omega⟩ | have m_12 := (zi_shl_f (g 41 l4)).2.2.2.2.2.1 ⟨by omega, by omega⟩ | have m_13 := (zi_shl_f (g 41 l4)).2.2.2.2.2.2 ⟨by omega, by omega⟩ | skip
        first | have m_14 := (zi_or_f l3 (zi_shl 1 (g 41 l4))).2.1 ⟨by omega, by omega, by omega, by omega⟩ | have m_14 := (zi_or_f l3 (zi_shl 1 (g 41 l4))).2.2.1 ⟨by omega, by omega, by omega, by omega⟩ | have m_14 := (zi_or_f l3 (zi_shl 1 (g 41 l4))).2.2.2.1 ⟨by omega, by omega, by omega, by omega⟩ | have m_14 := (zi_or_f l3 (zi_shl 1 (g 41 l4))).2.2.2.2.1 ⟨by omega, by omega, by omega, by omega⟩ | have m_14 := (zi_or_f l3 (zi_shl 1 (g 41 l4))).2.2.2.2.2 ⟨by omega, by omega, by omega, by omega⟩ | have m_14 := zi_r_or l3 (zi_shl 1 (g 41 l4))
        have m_15 : 0 ≤ (g 41 (g 41 l4)) ∧ (g 41 (g 41 l4)) ≤ 15 := I.1 41 (g 41 l4)
        have m_16 : 0 ≤ (g 41 x2) ∧ (g 41 x2) ≤ 15 := I.1 41 x2
        exact k_Thought_stepsAgain_l10 I hK36 hK52 hQ n ⟨by omega, by omega⟩ ⟨by omega, by omega⟩ ⟨by omega, by omega⟩ (by first | exact zpc_st b3 (by assumption) ⟨by omega, by omega⟩ ⟨by omega, by omega⟩ | exact zpc_1 ⟨by omega, by omega⟩) (by first | exact zco_st b4 (by assumption) (by omega) | exact zco_i (by rw [z16_e]; omega)) (by omega)
      · have m_17 : 0 ≤ (g 41 x2) ∧ (g 41 x2) ≤ 15 := I.1 41 x2
        exact hK36 _ ⟨by omega, by omega⟩ (by exact zco_x b4 (by assumption) (by omega))
set_option maxRecDepth 100000 in
set_option maxHeartbeats 4000000 in
theorem k_Thought_stepsAgain {l2 : Int} {g : zi_M} {Q : Int → zi_M → Prop} (I : zk_I g) (p2 : 0 ≤ l2 ∧ l2 ≤ 15) (hQ : ∀ v : Int, ((-1) ≤ v ∧ v ≤ 16) → (v = zco (g 41) z16 (zi_shl 1 l2) (g 41 l2) 1) → (1 ≤ v ∧ v ≤ 16) → Q v g) : w_Thought_stepsAgain l2 g Q := by
  unfold w_Thought_stepsAgain
  have m_21 := zi_r_shl 1 l2
  try have m_22 := (zi_shl_f l2).2.1 ⟨by omega, by omega⟩
  first | have m_23 := (zi_shl_f l2).2.2.1 ⟨by omega, by omega⟩ | have m_24 := (zi_shl_f l2).2.2.2.1 ⟨by omega, by omega⟩ | have m_25 := (zi_shl_f l2).2.2.2.2.1 ⟨by omega, by omega⟩ | have m_26 := (zi_shl_f l2).2.2.2.2.2.1 ⟨by omega, by omega⟩ | have m_27 := (zi_shl_f l2).2.2.2.2.2.2 ⟨by omega, by omega⟩ | skip
  have m_28 : 0 ≤ (g 41 l2) ∧ (g 41 l2) ≤ 15 := I.1 41 l2
  refine ⟨((17 - 1 : Int).toNat + 1), k_Thought_stepsAgain_l10 (x2 := l2) I (fun k5 b_18 b_19 => ?_) (fun b_20 => ?_) hQ ((17 - 1 : Int).toNat + 1) ⟨by omega, by omega⟩ ⟨by omega, by omega⟩ ⟨by omega, by omega⟩ (by first | exact zpc_st b3 (by assumption) ⟨by omega, by omega⟩ ⟨by omega, by omega⟩ | exact zpc_1 ⟨by omega, by omega⟩) (by first | exact zco_st b4 (by assumption) (by omega) | exact zco_i (by rw [z16_e]; omega)) (by omega)⟩
  · exact hQ _ ⟨by omega, by omega⟩ (by first | assumption | (exfalso; assumption)) (by first | omega | (exfalso; assumption))
  · exact hQ _ ⟨by omega, by omega⟩ (by first | assumption | (exfalso; assumption)) (by first | omega | (exfalso; assumption))
-- SpoutNews$Thought.commonMultiple(II)I
set_option maxRecDepth 100000 in
set_option maxHeartbeats 4000000 in
theorem k_Thought_commonMultiple_l2 {g : zi_M} (I : zk_I g) {l0 : Int} {l1 : Int} {K15 : Int → zi_M → Prop} {K25 : zi_M → Prop} {Q : Int → zi_M → Prop} (q0 : (-2147483648) ≤ l0 ∧ l0 ≤ 2147483647) (q1 : (-1) ≤ l1 ∧ l1 ≤ 16) (hK15 : ∀ (k2 : Int), (1 ≤ k2 ∧ k2 ≤ 16) → (zcm l0 l1 k2) → (Int.tmod (zi_w (l0 * k2)) l1 = 0) → K15 k2 g) (hK25 : (1 ≤ l0 → l0 ≤ 720720 → 1 ≤ l1 → False) → K25 g) (hQ : ∀ v : Int, ((-2147483648) ≤ v ∧ v ≤ 2147483647) → (1 ≤ l0 → l0 ≤ 720720 → 1 ≤ l1 → v = ((Nat.lcm l0.toNat l1.toNat : Nat) : Int)) → Q v g) : ∀ (n : Nat) {l2 : Int}, (1 ≤ l2 ∧ l2 ≤ 17) → (zcm l0 l1 l2) → 17 - l2 < (n : Int) → w_Thought_commonMultiple_l2 l0 l1 K15 K25 Q n l2 g
  | 0, l2, b0, b1, hm => by exfalso; omega
  | n + 1, l2, b0, b1, hm => by
    unfold w_Thought_commonMultiple_l2
    refine ⟨⟨by omega, by omega⟩, ⟨by omega, by omega⟩, ?_⟩
    refine ⟨fun c6 => ?_, fun c6 => ?_⟩
    · exact hK25 (by exact zcm_n b1 (by omega))
    · refine ⟨(by omega), ?_⟩
      have m_1 := zi_r_w (l0 * l2)
      have m_2 := zi_tmod_f (zi_w (l0 * l2)) l1
      refine ⟨⟨by omega, by omega⟩, ?_⟩
      refine ⟨fun c5 => ?_, fun c5 => ?_⟩
      · exact k_Thought_commonMultiple_l2 I q0 q1 hK15 hK25 hQ n ⟨by omega, by omega⟩ (by first | exact zcm_st b1 ⟨by omega, by omega⟩ (by assumption) | exact zcm_0) (by omega)
      · exact hK15 _ ⟨by omega, by omega⟩ (by exact b1) (by assumption)
set_option maxRecDepth 100000 in
set_option maxHeartbeats 4000000 in
theorem k_Thought_commonMultiple {l0 : Int} {l1 : Int} {g : zi_M} {Q : Int → zi_M → Prop} (I : zk_I g) (p0 : (-2147483648) ≤ l0 ∧ l0 ≤ 2147483647) (p1 : (-1) ≤ l1 ∧ l1 ≤ 16) (hQ : ∀ v : Int, ((-2147483648) ≤ v ∧ v ≤ 2147483647) → (1 ≤ l0 → l0 ≤ 720720 → 1 ≤ l1 → v = ((Nat.lcm l0.toNat l1.toNat : Nat) : Int)) → Q v g) : w_Thought_commonMultiple l0 l1 g Q := by
  unfold w_Thought_commonMultiple
  refine ⟨((17 - 1 : Int).toNat + 1), k_Thought_commonMultiple_l2 (l0 := l0) (l1 := l1) I ⟨by omega, by omega⟩ ⟨by omega, by omega⟩ (fun k7 b_3 b_4 b_5 => ?_) (fun b_7 => ?_) hQ ((17 - 1 : Int).toNat + 1) ⟨by omega, by omega⟩ (by first | exact zcm_st b1 ⟨by omega, by omega⟩ (by assumption) | exact zcm_0) (by omega)⟩
  · have m_6 := zi_r_w (l0 * k7)
    exact hQ _ ⟨by omega, by omega⟩ (by first | exact zcm_x (by assumption) (by assumption) ⟨by omega, by omega⟩ | (intro h1 h2 h3; exact False.elim ((by assumption : 1 ≤ l0 → l0 ≤ 720720 → 1 ≤ l1 → False) h1 h2 h3)))
  · exact hQ _ ⟨by omega, by omega⟩ (by first | exact zcm_x (by assumption) (by assumption) ⟨by omega, by omega⟩ | (intro h1 h2 h3; exact False.elim ((by assumption : 1 ≤ l0 → l0 ≤ 720720 → 1 ≤ l1 → False) h1 h2 h3)))
-- SpoutNews$Thought.allAgain(LSpoutNews$Told;)I
set_option maxRecDepth 100000 in
set_option maxHeartbeats 4000000 in
theorem k_Thought_allAgain_l4 {g : zi_M} (I : zk_I g) {K27 : Int → zi_M → Prop} {Q : Int → zi_M → Prop} (hK27 : ∀ (k2 : Int), (0 ≤ k2 ∧ k2 ≤ 65535) → (k2 = zst (g 41) z16) → K27 k2 g) (hQ : ∀ v : Int, ((-2147483648) ≤ v ∧ v ≤ 2147483647) → (zst (g 41) z16 = 65535 → v = zal (fun w => zco (g 41) z16 (zi_shl 1 w) (g 41 w) 1) z16) → (¬ zst (g 41) z16 = 65535 → v = -1) → Q v g) : ∀ (n : Nat) {l2 : Int} {l3 : Int}, (0 ≤ l2 ∧ l2 ≤ 65535) → (0 ≤ l3 ∧ l3 ≤ 16) → (l2 = zst (g 41) l3.toNat) → 16 - l3 < (n : Int) → w_Thought_allAgain_l4 K27 Q n l2 l3 g
  | 0, l2, l3, b0, b1, b2, hm => by exfalso; omega
  | n + 1, l2, l3, b0, b1, b2, hm => by
    unfold w_Thought_allAgain_l4
    refine ⟨⟨by omega, by omega⟩, ?_⟩
    refine ⟨fun c3 => ?_, fun c3 => ?_⟩
    · exact hK27 _ ⟨by omega, by omega⟩ (by exact zst_e b2 (by rw [z16_e]; omega))
    · refine ⟨⟨by omega, by omega⟩, ?_⟩
      have m_1 : 0 ≤ (g 41 l3) ∧ (g 41 l3) ≤ 15 := I.1 41 l3
      have m_2 := zi_r_shl 1 (g 41 l3)
      try have m_3 := (zi_shl_f (g 41 l3)).2.1 ⟨by omega, by omega⟩
      first | have m_4 := (zi_shl_f (g 41 l3)).2.2.1 ⟨by omega, by omega⟩ | have m_5 := (zi_shl_f (g 41 l3)).2.2.2.1 ⟨by omega, by omega⟩ | have m_6 := (zi_shl_f (g 41 l3)).2.2.2.2.1 ⟨by omega, by omega⟩ | have m_7 := (zi_shl_f (g 41 l3)).2.2.2.2.2.1 ⟨by omega, by omega⟩ | have m_8 := (zi_shl_f (g 41 l3)).2.2.2.2.2.2 ⟨by omega, by omega⟩ | skip
      first | have m_9 := (zi_or_f l2 (zi_shl 1 (g 41 l3))).2.1 ⟨by omega, by omega, by omega, by omega⟩ | have m_9 := (zi_or_f l2 (zi_shl 1 (g 41 l3))).2.2.1 ⟨by omega, by omega, by omega, by omega⟩ | have m_9 := (zi_or_f l2 (zi_shl 1 (g 41 l3))).2.2.2.1 ⟨by omega, by omega, by omega, by omega⟩ | have m_9 := (zi_or_f l2 (zi_shl 1 (g 41 l3))).2.2.2.2.1 ⟨by omega, by omega, by omega, by omega⟩ | have m_9 := (zi_or_f l2 (zi_shl 1 (g 41 l3))).2.2.2.2.2 ⟨by omega, by omega, by omega, by omega⟩ | have m_9 := zi_r_or l2 (zi_shl 1 (g 41 l3))
      exact k_Thought_allAgain_l4 I hK27 hQ n ⟨by omega, by omega⟩ ⟨by omega, by omega⟩ (by first | exact zst_s b2 (by omega) | rfl) (by omega)
set_option maxRecDepth 100000 in
set_option maxHeartbeats 4000000 in
theorem k_Thought_allAgain_l43 {g : zi_M} (I : zk_I g) {K68 : Int → zi_M → Prop} {Q : Int → zi_M → Prop} (hK68 : ∀ (k3 : Int), ((-2147483648) ≤ k3 ∧ k3 ≤ 2147483647) → (k3 = zal (fun w => zco (g 41) z16 (zi_shl 1 w) (g 41 w) 1) z16) → K68 k3 g) (hQ : ∀ v : Int, ((-2147483648) ≤ v ∧ v ≤ 2147483647) → (zst (g 41) z16 = 65535 → v = zal (fun w => zco (g 41) z16 (zi_shl 1 w) (g 41 w) 1) z16) → (¬ zst (g 41) z16 = 65535 → v = -1) → Q v g) : ∀ (n : Nat) {l3 : Int} {l4 : Int}, ((-2147483648) ≤ l3 ∧ l3 ≤ 2147483647) → (0 ≤ l4 ∧ l4 ≤ 16) → (l3 = zal (fun w => zco (g 41) z16 (zi_shl 1 w) (g 41 w) 1) l4.toNat) → (1 ≤ l3 ∧ l3.toNat ∣ 720720) → 16 - l4 < (n : Int) → w_Thought_allAgain_l43 K68 Q n l3 l4 g
  | 0, l3, l4, b0, b1, b2, b3, hm => by exfalso; omega
  | n + 1, l3, l4, b0, b1, b2, b3, hm => by
    unfold w_Thought_allAgain_l43
    refine ⟨⟨by omega, by omega⟩, ?_⟩
    refine ⟨fun c17 => ?_, fun c17 => ?_⟩
    · exact hK68 _ ⟨by omega, by omega⟩ (by exact zal_e b2 (by rw [z16_e]; omega))
    · have m_14 : 0 ≤ (g 41 l4) ∧ (g 41 l4) ≤ 15 := I.1 41 l4
      refine k_Thought_stepsAgain I ⟨by omega, by omega⟩ (fun v11 b_15 b_16 b_17 => ?_)
      refine k_Thought_commonMultiple I ⟨by omega, by omega⟩ ⟨by omega, by omega⟩ (fun v14 b_18 b_19 => ?_)
      exact k_Thought_allAgain_l43 I hK68 hQ n ⟨by omega, by omega⟩ ⟨by omega, by omega⟩ (by first | exact zal_st (by assumption) b2 b3 (by assumption) (by assumption) (by omega) | exact zal_1) (by first | exact zal_sd (by assumption) b3 (by assumption) | exact ⟨by decide, by decide⟩) (by omega)
set_option maxRecDepth 100000 in
set_option maxHeartbeats 4000000 in
theorem k_Thought_allAgain {g : zi_M} {Q : Int → zi_M → Prop} (I : zk_I g) (hQ : ∀ v : Int, ((-2147483648) ≤ v ∧ v ≤ 2147483647) → (zst (g 41) z16 = 65535 → v = zal (fun w => zco (g 41) z16 (zi_shl 1 w) (g 41 w) 1) z16) → (¬ zst (g 41) z16 = 65535 → v = -1) → Q v g) : w_Thought_allAgain g Q := by
  unfold w_Thought_allAgain
  refine ⟨((16 - 0 : Int).toNat + 1), k_Thought_allAgain_l4 I (fun k4 b_10 b_11 => ?_) hQ ((16 - 0 : Int).toNat + 1) ⟨by omega, by omega⟩ ⟨by omega, by omega⟩ (by first | exact zst_s b2 (by omega) | rfl) (by omega)⟩
  refine k_Integer_bitCount I ⟨by omega, by omega⟩ (fun v6 b_12 b_13 => ?_)
  refine ⟨⟨by omega, by omega⟩, ?_⟩
  refine ⟨fun c21 => ?_, fun c21 => ?_⟩
  · refine ⟨((16 - 0 : Int).toNat + 1), k_Thought_allAgain_l43 I (fun k18 b_20 b_21 => ?_) hQ ((16 - 0 : Int).toNat + 1) ⟨by omega, by omega⟩ ⟨by omega, by omega⟩ (by first | exact zal_st (by assumption) b2 b3 (by assumption) (by assumption) (by omega) | exact zal_1) (by first | exact zal_sd (by assumption) b3 (by assumption) | exact ⟨by decide, by decide⟩) (by omega)⟩
    exact hQ _ ⟨by omega, by omega⟩ (by intro hv; first | assumption | exact absurd hv (zbc_p (by assumption) ⟨by omega, by omega⟩ (by assumption) (by omega))) (by intro hv; first | rfl | exact absurd (zbc_q (by assumption) ⟨by omega, by omega⟩ (by assumption) (by omega)) hv)
  · exact hQ _ ⟨by omega, by omega⟩ (by intro hv; first | assumption | exact absurd hv (zbc_p (by assumption) ⟨by omega, by omega⟩ (by assumption) (by omega))) (by intro hv; first | rfl | exact absurd (zbc_q (by assumption) ⟨by omega, by omega⟩ (by assumption) (by omega)) hv)
-- SpoutNews.again(I)I
set_option maxRecDepth 100000 in
set_option maxHeartbeats 4000000 in
theorem k_S_again {l1 : Int} {g : zi_M} {Q : Int → zi_M → Prop} (I : zk_I g) (p1 : (-2147483648) ≤ l1 ∧ l1 ≤ 2147483647) (hQ : ∀ v : Int, ((-2147483648) ≤ v ∧ v ≤ 2147483647) → (l1 = -1 → zst (g 41) z16 = 65535 → v = zal (fun w => zco (g 41) z16 (zi_shl 1 w) (g 41 w) 1) z16) → (l1 = -1 → ¬ zst (g 41) z16 = 65535 → v = -1) → (0 ≤ l1 → l1 ≤ 15 → v = zco (g 41) z16 (zi_shl 1 l1) (g 41 l1) 1) → (l1 < -1 ∨ 15 < l1 → v = -1) → Q v g) : w_S_again l1 g Q := by
  unfold w_S_again
  refine ⟨⟨by omega, by omega⟩, ?_⟩
  refine ⟨fun c12 => ?_, fun c12 => ?_⟩
  · refine k_S_isWord I ⟨by omega, by omega⟩ (fun v2 b_1 b_2 b_3 => ?_)
    refine ⟨fun c8 => ?_, fun c8 => ?_⟩
    · exact hQ _ ⟨by omega, by omega⟩ (by intro hv; first | assumption | (exfalso; omega)) (by intro hv; first | assumption | (exfalso; omega)) (by intro h0 h1; first | assumption | (exfalso; omega)) (by omega)
    · have m_4 : 0 ≤ (g 41 l1) ∧ (g 41 l1) ≤ 15 := I.1 41 l1
      refine k_Thought_stepsAgain I ⟨by omega, by omega⟩ (fun v5 b_5 b_6 b_7 => ?_)
      exact hQ _ ⟨by omega, by omega⟩ (by intro hv; first | assumption | (exfalso; omega)) (by intro hv; first | assumption | (exfalso; omega)) (by intro h0 h1; first | assumption | (exfalso; omega)) (by omega)
  · refine k_Thought_allAgain I (fun v9 b_8 b_9 b_10 => ?_)
    exact hQ _ ⟨by omega, by omega⟩ (by intro hv; first | assumption | (exfalso; omega)) (by intro hv; first | assumption | (exfalso; omega)) (by intro h0 h1; first | assumption | (exfalso; omega)) (by omega)
-- SpoutNewsModel.isOneToOne()Z
set_option maxRecDepth 100000 in
set_option maxHeartbeats 4000000 in
theorem k_M_isOneToOne_l4 {g : zi_M} (I : zk_I g) {K29 : Int → zi_M → Prop} {Q : Int → zi_M → Prop} (hK29 : ∀ (k1 : Int), ((-2147483648) ≤ k1 ∧ k1 ≤ 2147483647) → (k1 = zst (fun i => i + g 243 i) z16) → K29 k1 g) (hQ : ∀ v : Int, (0 ≤ v ∧ v ≤ 1) → (zst (fun i => i + g 243 i) z16 = 65535 → v = 1) → (¬ zst (fun i => i + g 243 i) z16 = 65535 → v = 0) → Q v g) : ∀ (n : Nat) {l1 : Int} {l2 : Int}, ((-2147483648) ≤ l1 ∧ l1 ≤ 2147483647) → (0 ≤ l2 ∧ l2 ≤ 16) → (l1 = zst (fun i => i + g 243 i) l2.toNat) → 16 - l2 < (n : Int) → w_M_isOneToOne_l4 K29 Q n l1 l2 g
  | 0, l1, l2, b0, b1, b2, hm => by exfalso; omega
  | n + 1, l1, l2, b0, b1, b2, hm => by
    unfold w_M_isOneToOne_l4
    refine ⟨⟨by omega, by omega⟩, ?_⟩
    refine ⟨fun c3 => ?_, fun c3 => ?_⟩
    · exact hK29 _ ⟨by omega, by omega⟩ (by exact zst_e b2 (by rw [z16_e]; omega))
    · refine ⟨⟨by omega, by omega⟩, ?_⟩
      have m_1 := zk_latin I (i := l2)
      have m_2 := zi_r_shl 1 (l2 + (g 243 l2))
      try have m_3 := (zi_shl_f (l2 + (g 243 l2))).2.1 ⟨by omega, by omega⟩
      first | have m_4 := (zi_shl_f (l2 + (g 243 l2))).2.2.1 ⟨by omega, by omega⟩ | have m_5 := (zi_shl_f (l2 + (g 243 l2))).2.2.2.1 ⟨by omega, by omega⟩ | have m_6 := (zi_shl_f (l2 + (g 243 l2))).2.2.2.2.1 ⟨by omega, by omega⟩ | have m_7 := (zi_shl_f (l2 + (g 243 l2))).2.2.2.2.2.1 ⟨by omega, by omega⟩ | have m_8 := (zi_shl_f (l2 + (g 243 l2))).2.2.2.2.2.2 ⟨by omega, by omega⟩ | skip
      first | have m_9 := (zi_or_f l1 (zi_shl 1 (l2 + (g 243 l2)))).2.1 ⟨by omega, by omega, by omega, by omega⟩ | have m_9 := (zi_or_f l1 (zi_shl 1 (l2 + (g 243 l2)))).2.2.1 ⟨by omega, by omega, by omega, by omega⟩ | have m_9 := (zi_or_f l1 (zi_shl 1 (l2 + (g 243 l2)))).2.2.2.1 ⟨by omega, by omega, by omega, by omega⟩ | have m_9 := (zi_or_f l1 (zi_shl 1 (l2 + (g 243 l2)))).2.2.2.2.1 ⟨by omega, by omega, by omega, by omega⟩ | have m_9 := (zi_or_f l1 (zi_shl 1 (l2 + (g 243 l2)))).2.2.2.2.2 ⟨by omega, by omega, by omega, by omega⟩ | have m_9 := zi_r_or l1 (zi_shl 1 (l2 + (g 243 l2)))
      exact k_M_isOneToOne_l4 I hK29 hQ n ⟨by omega, by omega⟩ ⟨by omega, by omega⟩ (by first | exact zst_s b2 (by omega) | rfl) (by omega)
set_option maxRecDepth 100000 in
set_option maxHeartbeats 4000000 in
theorem k_M_isOneToOne {g : zi_M} {Q : Int → zi_M → Prop} (I : zk_I g) (hQ : ∀ v : Int, (0 ≤ v ∧ v ≤ 1) → (zst (fun i => i + g 243 i) z16 = 65535 → v = 1) → (¬ zst (fun i => i + g 243 i) z16 = 65535 → v = 0) → Q v g) : w_M_isOneToOne g Q := by
  unfold w_M_isOneToOne
  refine ⟨((16 - 0 : Int).toNat + 1), k_M_isOneToOne_l4 I (fun k4 b_10 b_11 => ?_) hQ ((16 - 0 : Int).toNat + 1) ⟨by omega, by omega⟩ ⟨by omega, by omega⟩ (by first | exact zst_s b2 (by omega) | rfl) (by omega)⟩
  refine ⟨⟨by omega, by omega⟩, ?_⟩
  refine ⟨fun c7 => ?_, fun c7 => ?_⟩
  · exact hQ _ ⟨by omega, by omega⟩ (by intro hv; first | rfl | (exfalso; omega)) (by intro hv; first | rfl | (exfalso; omega))
  · exact hQ _ ⟨by omega, by omega⟩ (by intro hv; first | rfl | (exfalso; omega)) (by intro hv; first | rfl | (exfalso; omega))
-- SpoutNewsModel.comingFrom(I)I
set_option maxRecDepth 100000 in
set_option maxHeartbeats 4000000 in
theorem k_M_comingFrom_l7 {l1 : Int} {g : zi_M} (I : zk_I g) {x1 : Int} {K40 : Int → zi_M → Prop} {Q : Int → zi_M → Prop} (hK40 : ∀ (k4 : Int), (0 ≤ k4 ∧ k4 ≤ 65535) → (1 ≤ k4) → (k4 = zco (fun i => i + g 243 i) z17 0 x1 0) → (1 ≤ k4 ∧ k4 ≤ 16) → K40 k4 g) (hQ : ∀ v : Int, (1 ≤ v ∧ v ≤ 65535) → (v = zco (fun i => i + g 243 i) z17 0 l1 0) → (1 ≤ v ∧ v ≤ 16) → Q v g) : ∀ (n : Nat) {l2 : Int} {l3 : Int} {l4 : Int}, (0 ≤ l2 ∧ l2 ≤ 65535) → (0 ≤ l3 ∧ l3 ≤ 15) → (0 ≤ l4 ∧ l4 ≤ 65535) → (l4 ≤ l2) → (¬ l2 = 0 → 1 ≤ l4) → (zpc l2 z16 = l4) → (zco (fun i => i + g 243 i) (17 - l4).toNat l2 l3 l4 = zco (fun i => i + g 243 i) z17 0 x1 0) → 65535 - l2 < (n : Int) → w_M_comingFrom_l7 K40 Q n l2 l3 l4 g
  | 0, l2, l3, l4, b0, b1, b2, b3, b4, b5, b6, hm => by exfalso; omega
  | n + 1, l2, l3, l4, b0, b1, b2, b3, b4, b5, b6, hm => by
    unfold w_M_comingFrom_l7
    have m_3 := zi_r_shr (l2) (l3)
    try have m_4 := (zi_shr_f (l2) (l3)).2 ⟨by omega, by omega⟩
    have m_5 := zi_r_and (zi_shr l2 l3) 1
    try have m_6 := (zi_and_f (zi_shr l2 l3) 1).2.1 ⟨by omega, by omega⟩
    try have m_7 := (zi_and_f (zi_shr l2 l3) 1).2.2 ⟨by omega, by omega⟩
    refine k_M_has I ⟨by omega, by omega⟩ ⟨by omega, by omega⟩ (fun v1 b_1 b_2 => ?_)
    refine ⟨fun c5 => ?_, fun c5 => ?_⟩
    · exact hK40 _ ⟨by omega, by omega⟩ (by omega) (by exact zco_x b6 (by omega) (by have hp := zpc_16 b5; omega)) (by have hp := zpc_16 b5; omega)
    · refine ⟨⟨by omega, by omega⟩, ?_⟩
      have m_8 := zi_r_shl 1 l3
      try have m_9 := (zi_shl_f l3).2.1 ⟨by omega, by omega⟩
      first | have m_10 := (zi_shl_f l3).2.2.1 ⟨by omega, by omega⟩ | have m_11 := (zi_shl_f l3).2.2.2.1 ⟨by omega, by omega⟩ | have m_12 := (zi_shl_f l3).2.2.2.2.1 ⟨by omega, by omega⟩ | have m_13 := (zi_shl_f l3).2.2.2.2.2.1 ⟨by omega, by omega⟩ | have m_14 := (zi_shl_f l3).2.2.2.2.2.2 ⟨by omega, by omega⟩ | skip
      have m_15 := (zi_or_f l2 (zi_shl 1 l3)).2.2.2.2.1 ⟨by omega, by omega, by omega, by omega⟩
      have m_16 := zi_or_new (s := l2) (k := l3) ⟨by omega, by omega⟩ ⟨by omega, by omega⟩ (by omega)
      have m_17 := zk_latin I (i := l3)
      exact k_M_comingFrom_l7 I hK40 hQ n ⟨by omega, by omega⟩ ⟨by omega, by omega⟩ ⟨by omega, by omega⟩ (by omega) (by omega) (by first | exact zpc_st b5 (by omega) ⟨by omega, by omega⟩ ⟨by omega, by omega⟩ | exact zpc_z z16) (by first | exact zco_st b6 (by omega) (by have hp := zpc_16 b5; omega) | exact zco_i (by rw [z17_e]; omega)) (by omega)
set_option maxRecDepth 100000 in
set_option maxHeartbeats 4000000 in
theorem k_M_comingFrom {l1 : Int} {g : zi_M} {Q : Int → zi_M → Prop} (I : zk_I g) (p1 : 0 ≤ l1 ∧ l1 ≤ 15) (hQ : ∀ v : Int, (1 ≤ v ∧ v ≤ 65535) → (v = zco (fun i => i + g 243 i) z17 0 l1 0) → (1 ≤ v ∧ v ≤ 16) → Q v g) : w_M_comingFrom l1 g Q := by
  unfold w_M_comingFrom
  refine ⟨((65535 - 0 : Int).toNat + 1), k_M_comingFrom_l7 (x1 := l1) I (fun k6 b_18 b_19 b_20 b_21 => ?_) hQ ((65535 - 0 : Int).toNat + 1) ⟨by omega, by omega⟩ ⟨by omega, by omega⟩ ⟨by omega, by omega⟩ (by omega) (by omega) (by first | exact zpc_st b5 (by omega) ⟨by omega, by omega⟩ ⟨by omega, by omega⟩ | exact zpc_z z16) (by first | exact zco_st b6 (by omega) (by have hp := zpc_16 b5; omega) | exact zco_i (by rw [z17_e]; omega)) (by omega)⟩
  exact hQ _ ⟨by omega, by omega⟩ (by assumption) (by omega)
-- SpoutNewsModel.rest(II)I
set_option maxRecDepth 100000 in
set_option maxHeartbeats 4000000 in
theorem k_M_rest {l1 : Int} {l2 : Int} {g : zi_M} {Q : Int → zi_M → Prop} (I : zk_I g) (p1 : (-2147483648) ≤ l1 ∧ l1 ≤ 2147483647) (p2 : (-2147483648) ≤ l2 ∧ l2 ≤ 2147483647) (hQ : ∀ v : Int, (¬ l2 = 0 → v = Int.tmod l1 l2) → (l2 = 0 → v = l1) → Q v g) : w_M_rest l1 l2 g Q := by
  unfold w_M_rest
  refine ⟨⟨by omega, by omega⟩, ?_⟩
  refine ⟨fun c4 => ?_, fun c4 => ?_⟩
  · refine ⟨⟨by omega, by omega⟩, (by omega), ?_⟩
    have m_1 := zi_tmod_f l1 l2
    exact hQ _ (by intros; omega) (by intros; omega)
  · have m_2 := zi_tmod_f l1 l2
    exact hQ _ (by intros; omega) (by intros; omega)
-- SpoutNewsModel.common(II)I
set_option maxRecDepth 100000 in
set_option maxHeartbeats 4000000 in
theorem k_M_common_l5 {l1 : Int} {l2 : Int} {g : zi_M} (I : zk_I g) {x1 : Int} {x2 : Int} {K29 : Int → zi_M → Prop} {Q : Int → zi_M → Prop} (hK29 : ∀ (k3 : Int), ((-2147483648) ≤ k3 ∧ k3 ≤ 2147483647) → (¬ k3 = 0) → (1 ≤ x1 → 1 ≤ x2 → k3 = ((Nat.gcd x1.toNat x2.toNat : Nat) : Int)) → K29 k3 g) (hQ : ∀ v : Int, ((-2147483648) ≤ v ∧ v ≤ 2147483647) → (¬ v = 0) → (1 ≤ l1 → 1 ≤ l2 → v = ((Nat.gcd l1.toNat l2.toNat : Nat) : Int)) → Q v g) : ∀ (n : Nat) {l3 : Int} {l4 : Int}, ((-2147483648) ≤ l3 ∧ l3 ≤ 2147483647) → ((-2147483648) ≤ l4 ∧ l4 ≤ 2147483647) → (¬ l4 = 0 ∨ ¬ l3 = 0) → (zgc x1 x2 l3 l4) → max l4 (-l4) < (n : Int) → w_M_common_l5 K29 Q n l3 l4 g
  | 0, l3, l4, b0, b1, b2, b3, hm => by exfalso; omega
  | n + 1, l3, l4, b0, b1, b2, b3, hm => by
    unfold w_M_common_l5
    refine ⟨⟨by omega, by omega⟩, ?_⟩
    refine ⟨fun c5 => ?_, fun c5 => ?_⟩
    · exact hK29 _ ⟨by omega, by omega⟩ (by omega) (by exact zgc_x b3 (by omega))
    · have hz := zi_tmod_abs l3 l4 (by omega)
      have m_3 := zi_tmod_f (l3) (l4)
      refine k_M_rest I ⟨by omega, by omega⟩ ⟨by omega, by omega⟩ (fun v2 b_1 b_2 => ?_)
      exact k_M_common_l5 I hK29 hQ n ⟨by omega, by omega⟩ ⟨by omega, by omega⟩ (by omega) (by first | exact zgc_st b3 (by assumption) (by assumption) | exact zgc_0) (by omega)
set_option maxRecDepth 100000 in
set_option maxHeartbeats 4000000 in
theorem k_M_common {l1 : Int} {l2 : Int} {g : zi_M} {Q : Int → zi_M → Prop} (I : zk_I g) (p1 : (-2147483648) ≤ l1 ∧ l1 ≤ 2147483647) (p2 : 1 ≤ l2 ∧ l2 ≤ 65535) (hQ : ∀ v : Int, ((-2147483648) ≤ v ∧ v ≤ 2147483647) → (¬ v = 0) → (1 ≤ l1 → 1 ≤ l2 → v = ((Nat.gcd l1.toNat l2.toNat : Nat) : Int)) → Q v g) : w_M_common l1 l2 g Q := by
  unfold w_M_common
  refine ⟨((max l2 (-l2) : Int).toNat + 1), k_M_common_l5 (x1 := l1) (x2 := l2) I (fun k6 b_4 b_5 b_6 => ?_) hQ ((max l2 (-l2) : Int).toNat + 1) ⟨by omega, by omega⟩ ⟨by omega, by omega⟩ (by omega) (by first | exact zgc_st b3 (by assumption) (by assumption) | exact zgc_0) (by omega)⟩
  exact hQ _ ⟨by omega, by omega⟩ (by omega) (by assumption)
-- SpoutNewsModel.again(I)I
set_option maxRecDepth 100000 in
set_option maxHeartbeats 4000000 in
theorem k_M_again_l42 {l1 : Int} {K73 : Int → zi_M → Prop} {Q : Int → zi_M → Prop} {g0 : zi_M} (hK73 : ∀ (k2 : Int) (g : zi_M), zk_I g → zk_fr fr_M_again g0 g → ((-2147483648) ≤ k2 ∧ k2 ≤ 2147483647) → (k2 = zal (fun w => zco (fun i => i + g 243 i) z17 0 w 0) z16) → (zst (fun i => i + g 243 i) z16 = 65535) → K73 k2 g) (hQ : ∀ (v : Int) (g' : zi_M), zk_I g' → zk_fr fr_M_again g0 g' → ((-2147483648) ≤ v ∧ v ≤ 2147483647) → (l1 = -1 → zst (fun i => i + g0 243 i) z16 = 65535 → v = zal (fun w => zco (fun i => i + g0 243 i) z17 0 w 0) z16) → (l1 = -1 → ¬ zst (fun i => i + g0 243 i) z16 = 65535 → v = -1) → (0 ≤ l1 → l1 ≤ 15 → v = zco (fun i => i + g0 243 i) z17 0 l1 0) → (l1 < -1 ∨ 15 < l1 → v = -1) → Q v g') : ∀ (n : Nat) {l2 : Int} {l3 : Int} {g : zi_M}, zk_I g → zk_fr fr_M_again g0 g → ((-2147483648) ≤ l2 ∧ l2 ≤ 2147483647) → (0 ≤ l3 ∧ l3 ≤ 16) → (l2 = zal (fun w => zco (fun i => i + g 243 i) z17 0 w 0) l3.toNat) → (1 ≤ l2 ∧ l2.toNat ∣ 720720) → (zst (fun i => i + g 243 i) z16 = 65535) → 16 - l3 < (n : Int) → w_M_again_l42 K73 Q n l2 l3 g
  | 0, l2, l3, g, I, F, b0, b1, b2, b3, b4, hm => by exfalso; omega
  | n + 1, l2, l3, g, I, F, b0, b1, b2, b3, b4, hm => by
    unfold w_M_again_l42
    refine ⟨⟨by omega, by omega⟩, ?_⟩
    refine ⟨fun c22 => ?_, fun c22 => ?_⟩
    · exact hK73 _ _ I F ⟨by omega, by omega⟩ (by exact zal_e b2 (by rw [z16_e]; omega)) (by exact b4)
    · refine k_M_comingFrom I ⟨by omega, by omega⟩ (fun v10 b_10 b_11 b_12 => ?_)
      refine k_M_common I ⟨by omega, by omega⟩ ⟨by omega, by omega⟩ (fun v13 b_13 b_14 b_15 => ?_)
      refine ⟨⟨by omega, by omega⟩, ⟨by omega, by omega⟩, (by omega), ?_⟩
      refine k_M_comingFrom I ⟨by omega, by omega⟩ (fun v19 b_16 b_17 b_18 => ?_)
      have m_19 := zi_tdiv_f l2 v13
      have m_20 := zi_r_w ((Int.tdiv l2 v13) * v19)
      exact k_M_again_l42 hK73 hQ n I F ⟨by omega, by omega⟩ ⟨by omega, by omega⟩ (by first | exact zal_mst (by assumption) b2 b3 (by assumption) (by assumption) (by omega) (by omega) | exact zal_1) (by first | exact zal_msd (f := (fun w => zco (fun i => i + g 243 i) z17 0 w 0)) (i := l3) (by assumption) b3 (by assumption) (by assumption) (by omega) | exact ⟨by decide, by decide⟩) (by first | exact b4 | omega) (by omega)
set_option maxRecDepth 100000 in
set_option maxHeartbeats 4000000 in
theorem k_M_again {l1 : Int} {g : zi_M} {Q : Int → zi_M → Prop} (I : zk_I g) (p1 : (-2147483648) ≤ l1 ∧ l1 ≤ 2147483647) (hQ : ∀ (v : Int) (g' : zi_M), zk_I g' → zk_fr fr_M_again g g' → ((-2147483648) ≤ v ∧ v ≤ 2147483647) → (l1 = -1 → zst (fun i => i + g 243 i) z16 = 65535 → v = zal (fun w => zco (fun i => i + g 243 i) z17 0 w 0) z16) → (l1 = -1 → ¬ zst (fun i => i + g 243 i) z16 = 65535 → v = -1) → (0 ≤ l1 → l1 ≤ 15 → v = zco (fun i => i + g 243 i) z17 0 l1 0) → (l1 < -1 ∨ 15 < l1 → v = -1) → Q v g') : w_M_again l1 g Q := by
  unfold w_M_again
  intro g1 e_1
  have I_2 : zk_I g1 := by rw [e_1]; exact zk_upd (L := (-2147483648)) (H := 2147483647) rfl rfl I ⟨by omega, by omega⟩
  have F_3 : zk_fr fr_M_again g g1 := by rw [e_1]; exact zk_fu (zk_f0 _) ⟨rfl, rfl⟩
  refine k_M_isIn I_2 ⟨by omega, by omega⟩ ⟨by omega, by omega⟩ ⟨by omega, by omega⟩ (fun v2 b_4 b_5 b_6 => ?_)
  refine ⟨fun c31 => ?_, fun c31 => ?_⟩
  · refine ⟨⟨by omega, by omega⟩, ?_⟩
    refine ⟨fun c30 => ?_, fun c30 => ?_⟩
    · refine k_M_isOneToOne I_2 (fun v6 b_7 b_8 b_9 => ?_)
      refine ⟨fun c26 => ?_, fun c26 => ?_⟩
      · refine ⟨((16 - 0 : Int).toNat + 1), k_M_again_l42 (fun k23 g24 I_21 F_22 b_23 b_24 b_25 => ?_) hQ ((16 - 0 : Int).toNat + 1) I_2 F_3 ⟨by omega, by omega⟩ ⟨by omega, by omega⟩ (by first | exact zal_mst (by assumption) b2 b3 (by assumption) (by assumption) (by omega) (by omega) | exact zal_1) (by first | exact zal_msd (f := (fun w => zco (fun i => i + g 243 i) z17 0 w 0)) (i := l3) (by assumption) b3 (by assumption) (by assumption) (by omega) | exact ⟨by decide, by decide⟩) (by first | exact b4 | omega) (by omega)⟩
        exact hQ _ _ I_21 F_22 ⟨by omega, by omega⟩ (by intro hv; first | (exfalso; omega) | (rw [← zM_row (a := 243) (by assumption : zk_fr fr_M_again g g24) (by intro i; unfold fr_M_again; omega)]; intro h9; first | assumption | (exfalso; omega))) (by intro hv; first | (exfalso; omega) | (rw [← zM_row (a := 243) (by assumption : zk_fr fr_M_again g g24) (by intro i; unfold fr_M_again; omega)]; intro h9; first | rfl | exact absurd (by assumption) h9)) (by intro h0 h1; first | (exfalso; omega) | (rw [← zM_row (a := 243) (by assumption : zk_fr fr_M_again g g24) (by intro i; unfold fr_M_again; omega)]; assumption)) (by omega)
      · exact hQ _ _ I_2 F_3 ⟨by omega, by omega⟩ (by intro hv; first | (exfalso; omega) | (rw [← zM_row (a := 243) (by assumption : zk_fr fr_M_again g g1) (by intro i; unfold fr_M_again; omega)]; intro h9; first | assumption | (exfalso; omega))) (by intro hv; first | (exfalso; omega) | (rw [← zM_row (a := 243) (by assumption : zk_fr fr_M_again g g1) (by intro i; unfold fr_M_again; omega)]; intro h9; first | rfl | exact absurd (by assumption) h9)) (by intro h0 h1; first | (exfalso; omega) | (rw [← zM_row (a := 243) (by assumption : zk_fr fr_M_again g g1) (by intro i; unfold fr_M_again; omega)]; assumption)) (by omega)
    · refine k_M_comingFrom I_2 ⟨by omega, by omega⟩ (fun v27 b_26 b_27 b_28 => ?_)
      exact hQ _ _ I_2 F_3 ⟨by omega, by omega⟩ (by intro hv; first | (exfalso; omega) | (rw [← zM_row (a := 243) (by assumption : zk_fr fr_M_again g g1) (by intro i; unfold fr_M_again; omega)]; intro h9; first | assumption | (exfalso; omega))) (by intro hv; first | (exfalso; omega) | (rw [← zM_row (a := 243) (by assumption : zk_fr fr_M_again g g1) (by intro i; unfold fr_M_again; omega)]; intro h9; first | rfl | exact absurd (by assumption) h9)) (by intro h0 h1; first | (exfalso; omega) | (rw [← zM_row (a := 243) (by assumption : zk_fr fr_M_again g g1) (by intro i; unfold fr_M_again; omega)]; assumption)) (by omega)
  · exact hQ _ _ I_2 F_3 ⟨by omega, by omega⟩ (by intro hv; first | (exfalso; omega) | (rw [← zM_row (a := 243) (by assumption : zk_fr fr_M_again g g1) (by intro i; unfold fr_M_again; omega)]; intro h9; first | assumption | (exfalso; omega))) (by intro hv; first | (exfalso; omega) | (rw [← zM_row (a := 243) (by assumption : zk_fr fr_M_again g g1) (by intro i; unfold fr_M_again; omega)]; intro h9; first | rfl | exact absurd (by assumption) h9)) (by intro h0 h1; first | (exfalso; omega) | (rw [← zM_row (a := 243) (by assumption : zk_fr fr_M_again g g1) (by intro i; unfold fr_M_again; omega)]; assumption)) (by omega)
