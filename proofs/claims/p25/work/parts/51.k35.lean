-- by program (wip/gen/mkz.py)
-- SpoutNewsModel.waysWith(I)I
set_option maxRecDepth 100000 in
set_option maxHeartbeats 4000000 in
theorem k_M_waysWith_l2 {K30 : zi_M → Prop} {Q : Int → zi_M → Prop} {g0 : zi_M} (hK30 : ∀ (g : zi_M), zk_I g → zk_fr fr_M_waysWith g0 g → K30 g) (hQ : ∀ (v : Int) (g' : zi_M), zk_I g' → zk_fr fr_M_waysWith g0 g' → ((-2147483648) ≤ v ∧ v ≤ 2147483647) → Q v g') : ∀ (n : Nat) {l2 : Int} {g : zi_M}, zk_I g → zk_fr fr_M_waysWith g0 g → (0 ≤ l2 ∧ l2 ≤ 1024) → 1024 - l2 < (n : Int) → w_M_waysWith_l2 K30 Q n l2 g
  | 0, l2, g, I, F, b0, hm => by exfalso; omega
  | n + 1, l2, g, I, F, b0, hm => by
    unfold w_M_waysWith_l2
    refine ⟨⟨by omega, by omega⟩, ?_⟩
    refine ⟨fun c7 => ?_, fun c7 => ?_⟩
    · exact hK30 _ I F
    · refine ⟨fun c6 => ?_, fun c6 => ?_⟩
      · refine ⟨⟨by omega, by omega⟩, ?_⟩
        intro g3 e_1
        have I_2 : zk_I g3 := by rw [e_1]; exact zk_upd (L := (-2147483648)) (H := 2147483647) rfl rfl I ⟨by omega, by omega⟩
        have F_3 : zk_fr fr_M_waysWith g0 g3 := by rw [e_1]; exact zk_fu F rfl
        exact k_M_waysWith_l2 hK30 hQ n I_2 F_3 ⟨by omega, by omega⟩ (by omega)
      · refine ⟨⟨by omega, by omega⟩, ?_⟩
        intro g5 e_4
        have I_5 : zk_I g5 := by rw [e_4]; exact zk_upd (L := (-2147483648)) (H := 2147483647) rfl rfl I ⟨by omega, by omega⟩
        have F_6 : zk_fr fr_M_waysWith g0 g5 := by rw [e_4]; exact zk_fu F rfl
        exact k_M_waysWith_l2 hK30 hQ n I_5 F_6 ⟨by omega, by omega⟩ (by omega)
set_option maxRecDepth 100000 in
set_option maxHeartbeats 4000000 in
theorem k_M_waysWith_l73 {l3 : Int} {l4 : Int} {K118 : Int → zi_M → Prop} {Q : Int → zi_M → Prop} {g0 : zi_M} (q3 : 0 ≤ l3 ∧ l3 ≤ 1023) (q4 : 0 ≤ l4 ∧ l4 ≤ 1023) (hK118 : ∀ (k5 : Int) (g : zi_M), zk_I g → zk_fr fr_M_waysWith g0 g → ((-2147483648) ≤ k5 ∧ k5 ≤ 2147483647) → K118 k5 g) (hQ : ∀ (v : Int) (g' : zi_M), zk_I g' → zk_fr fr_M_waysWith g0 g' → ((-2147483648) ≤ v ∧ v ≤ 2147483647) → Q v g') : ∀ (n : Nat) {l5 : Int} {l6 : Int} {g : zi_M}, zk_I g → zk_fr fr_M_waysWith g0 g → ((-2147483648) ≤ l5 ∧ l5 ≤ 2147483647) → (0 ≤ l6 ∧ l6 ≤ 10) → 10 - l6 < (n : Int) → w_M_waysWith_l73 l3 l4 K118 Q n l5 l6 g
  | 0, l5, l6, g, I, F, b0, b1, hm => by exfalso; omega
  | n + 1, l5, l6, g, I, F, b0, b1, hm => by
    unfold w_M_waysWith_l73
    refine ⟨⟨by omega, by omega⟩, ?_⟩
    refine ⟨fun c23 => ?_, fun c23 => ?_⟩
    · exact hK118 _ _ I F ⟨by omega, by omega⟩
    · have m_28 := zi_r_and l4 l3
      try have m_29 := (zi_and_f l4 l3).2.1 ⟨by omega, by omega⟩
      try have m_30 := (zi_and_f l4 l3).2.2 ⟨by omega, by omega⟩
      have m_33 := zi_r_shr ((zi_and l4 l3)) (l6)
      try have m_34 := (zi_shr_f ((zi_and l4 l3)) (l6)).2 ⟨by omega, by omega⟩
      have m_35 := zi_r_and (zi_shr (zi_and l4 l3) l6) 1
      try have m_36 := (zi_and_f (zi_shr (zi_and l4 l3) l6) 1).2.1 ⟨by omega, by omega⟩
      try have m_37 := (zi_and_f (zi_shr (zi_and l4 l3) l6) 1).2.2 ⟨by omega, by omega⟩
      refine k_M_has I ⟨by omega, by omega⟩ ⟨by omega, by omega⟩ (fun v17 b_31 b_32 => ?_)
      refine ⟨fun c22 => ?_, fun c22 => ?_⟩
      · exact k_M_waysWith_l73 q3 q4 hK118 hQ n I F ⟨by omega, by omega⟩ ⟨by omega, by omega⟩ (by omega)
      · have m_38 := zi_r_shl 1 l6
        try have m_39 := (zi_shl_f l6).2.1 ⟨by omega, by omega⟩
        first | have m_40 := (zi_shl_f l6).2.2.1 ⟨by omega, by omega⟩ | have m_41 := (zi_shl_f l6).2.2.2.1 ⟨by omega, by omega⟩ | have m_42 := (zi_shl_f l6).2.2.2.2.1 ⟨by omega, by omega⟩ | have m_43 := (zi_shl_f l6).2.2.2.2.2.1 ⟨by omega, by omega⟩ | have m_44 := (zi_shl_f l6).2.2.2.2.2.2 ⟨by omega, by omega⟩ | skip
        first | have m_45 := (zi_xor_f (zi_shl 1 l6) (-1)).2.1 ⟨by omega, by omega, by omega, by omega⟩ | have m_45 := (zi_xor_f (zi_shl 1 l6) (-1)).2.2.1 ⟨by omega, by omega, by omega, by omega⟩ | have m_45 := (zi_xor_f (zi_shl 1 l6) (-1)).2.2.2 ⟨by omega, by omega, by omega, by omega⟩ | have m_45 := zi_r_xor (zi_shl 1 l6) (-1)
        have m_46 := zi_r_and l4 (zi_xor (zi_shl 1 l6) (-1))
        try have m_47 := (zi_and_f l4 (zi_xor (zi_shl 1 l6) (-1))).2.1 ⟨by omega, by omega⟩
        try have m_48 := (zi_and_f l4 (zi_xor (zi_shl 1 l6) (-1))).2.2 ⟨by omega, by omega⟩
        refine ⟨⟨by omega, by omega⟩, ?_⟩
        have m_49 : (-2147483648) ≤ (g 241 (zi_and l4 (zi_xor (zi_shl 1 l6) (-1)))) ∧ (g 241 (zi_and l4 (zi_xor (zi_shl 1 l6) (-1)))) ≤ 2147483647 := I.1 241 (zi_and l4 (zi_xor (zi_shl 1 l6) (-1)))
        have m_50 := zi_r_w (l5 + (g 241 (zi_and l4 (zi_xor (zi_shl 1 l6) (-1)))))
        intro y21 e_51
        exact k_M_waysWith_l73 q3 q4 hK118 hQ n I F ⟨by omega, by omega⟩ ⟨by omega, by omega⟩ (by omega)
set_option maxRecDepth 100000 in
set_option maxHeartbeats 4000000 in
theorem k_M_waysWith_l62 {l3 : Int} {K133 : zi_M → Prop} {Q : Int → zi_M → Prop} {g0 : zi_M} (q3 : 0 ≤ l3 ∧ l3 ≤ 1023) (hK133 : ∀ (g : zi_M), zk_I g → zk_fr fr_M_waysWith g0 g → K133 g) (hQ : ∀ (v : Int) (g' : zi_M), zk_I g' → zk_fr fr_M_waysWith g0 g' → ((-2147483648) ≤ v ∧ v ≤ 2147483647) → Q v g') : ∀ (n : Nat) {l4 : Int} {g : zi_M}, zk_I g → zk_fr fr_M_waysWith g0 g → ((-1) ≤ l4 ∧ l4 ≤ 1023) → l4 - (-1) < (n : Int) → w_M_waysWith_l62 l3 K133 Q n l4 g
  | 0, l4, g, I, F, b0, hm => by exfalso; omega
  | n + 1, l4, g, I, F, b0, hm => by
    unfold w_M_waysWith_l62
    refine ⟨⟨by omega, by omega⟩, ?_⟩
    refine ⟨fun c29 => ?_, fun c29 => ?_⟩
    · exact hK133 _ I F
    · refine ⟨((10 - 0 : Int).toNat + 1), k_M_waysWith_l73 (l3 := l3) (l4 := l4) ⟨by omega, by omega⟩ ⟨by omega, by omega⟩ (fun k24 g25 I_52 F_53 b_54 => ?_) hQ ((10 - 0 : Int).toNat + 1) I F ⟨by omega, by omega⟩ ⟨by omega, by omega⟩ (by omega)⟩
      refine ⟨⟨by omega, by omega⟩, ?_⟩
      intro g27 e_55
      have I_56 : zk_I g27 := by rw [e_55]; exact zk_upd (L := (-2147483648)) (H := 2147483647) rfl rfl I_52 ⟨by omega, by omega⟩
      have F_57 : zk_fr fr_M_waysWith g0 g27 := by rw [e_55]; exact zk_fu F_53 rfl
      exact k_M_waysWith_l62 q3 hK133 hQ n I_56 F_57 ⟨by omega, by omega⟩ (by omega)
set_option maxRecDepth 100000 in
set_option maxHeartbeats 4000000 in
theorem k_M_waysWith_l32 {l1 : Int} {K139 : zi_M → Prop} {Q : Int → zi_M → Prop} {g0 : zi_M} (q1 : (-1) ≤ l1 ∧ l1 ≤ 79) (hK139 : ∀ (g : zi_M), zk_I g → zk_fr fr_M_waysWith g0 g → K139 g) (hQ : ∀ (v : Int) (g' : zi_M), zk_I g' → zk_fr fr_M_waysWith g0 g' → ((-2147483648) ≤ v ∧ v ≤ 2147483647) → Q v g') : ∀ (n : Nat) {l2 : Int} {g : zi_M}, zk_I g → zk_fr fr_M_waysWith g0 g → (0 ≤ l2 ∧ l2 ≤ 8) → 8 - l2 < (n : Int) → w_M_waysWith_l32 l1 K139 Q n l2 g
  | 0, l2, g, I, F, b0, hm => by exfalso; omega
  | n + 1, l2, g, I, F, b0, hm => by
    unfold w_M_waysWith_l32
    refine ⟨⟨by omega, by omega⟩, ?_⟩
    refine ⟨fun c33 => ?_, fun c33 => ?_⟩
    · exact hK139 _ I F
    · refine ⟨⟨by omega, by omega⟩, ?_⟩
      have m_9 : 0 ≤ (g 239 l2) ∧ (g 239 l2) ≤ 1023 := I.1 239 l2
      refine ⟨⟨by omega, by omega⟩, ?_⟩
      refine ⟨fun c32 => ?_, fun c32 => ?_⟩
      · have m_13 : 0 ≤ (g 239 (l2)) ∧ (g 239 (l2)) ≤ 1023 := I.1 239 (l2)
        have m_14 := zi_tdiv_f (l1) 10
        have m_15 := zi_tdiv_c (l1) 10 (by decide)
        have m_16 := zi_tmod_f (l1) 10
        have m_17 := zi_tmod_c (l1) 10 (by decide)
        have m_18 := zi_r_shl 1 (Int.tmod l1 10)
        try have m_19 := (zi_shl_f (Int.tmod l1 10)).2.1 ⟨by omega, by omega⟩
        first | have m_20 := (zi_shl_f (Int.tmod l1 10)).2.2.1 ⟨by omega, by omega⟩ | have m_21 := (zi_shl_f (Int.tmod l1 10)).2.2.2.1 ⟨by omega, by omega⟩ | have m_22 := (zi_shl_f (Int.tmod l1 10)).2.2.2.2.1 ⟨by omega, by omega⟩ | have m_23 := (zi_shl_f (Int.tmod l1 10)).2.2.2.2.2.1 ⟨by omega, by omega⟩ | have m_24 := (zi_shl_f (Int.tmod l1 10)).2.2.2.2.2.2 ⟨by omega, by omega⟩ | skip
        have m_25 := zi_r_and (g 239 l2) (zi_shl 1 (Int.tmod l1 10))
        try have m_26 := (zi_and_f (g 239 l2) (zi_shl 1 (Int.tmod l1 10))).2.1 ⟨by omega, by omega⟩
        try have m_27 := (zi_and_f (g 239 l2) (zi_shl 1 (Int.tmod l1 10))).2.2 ⟨by omega, by omega⟩
        refine k_M_seatsOf I ⟨by omega, by omega⟩ ⟨by omega, by omega⟩ (fun v12 b_10 b_11 b_12 => ?_)
        refine ⟨((1023 - (-1) : Int).toNat + 1), k_M_waysWith_l62 (l3 := v12) ⟨by omega, by omega⟩ (fun g30 I_58 F_59 => ?_) hQ ((1023 - (-1) : Int).toNat + 1) I F ⟨by omega, by omega⟩ (by omega)⟩
        exact k_M_waysWith_l32 q1 hK139 hQ n I_58 F_59 ⟨by omega, by omega⟩ (by omega)
      · exact k_M_waysWith_l32 q1 hK139 hQ n I F ⟨by omega, by omega⟩ (by omega)
set_option maxRecDepth 100000 in
set_option maxHeartbeats 4000000 in
theorem k_M_waysWith_l143 {K165 : Int → zi_M → Prop} {Q : Int → zi_M → Prop} {g0 : zi_M} (hK165 : ∀ (k2 : Int) (g : zi_M), zk_I g → zk_fr fr_M_waysWith g0 g → ((-2147483648) ≤ k2 ∧ k2 ≤ 2147483647) → K165 k2 g) (hQ : ∀ (v : Int) (g' : zi_M), zk_I g' → zk_fr fr_M_waysWith g0 g' → ((-2147483648) ≤ v ∧ v ≤ 2147483647) → Q v g') : ∀ (n : Nat) {l2 : Int} {l3 : Int} {g : zi_M}, zk_I g → zk_fr fr_M_waysWith g0 g → ((-2147483648) ≤ l2 ∧ l2 ≤ 2147483647) → (0 ≤ l3 ∧ l3 ≤ 1024) → 1024 - l3 < (n : Int) → w_M_waysWith_l143 K165 Q n l2 l3 g
  | 0, l2, l3, g, I, F, b0, b1, hm => by exfalso; omega
  | n + 1, l2, l3, g, I, F, b0, b1, hm => by
    unfold w_M_waysWith_l143
    refine ⟨⟨by omega, by omega⟩, ?_⟩
    refine ⟨fun c37 => ?_, fun c37 => ?_⟩
    · exact hK165 _ _ I F ⟨by omega, by omega⟩
    · refine ⟨⟨by omega, by omega⟩, ?_⟩
      have m_62 : (-2147483648) ≤ (g 241 l3) ∧ (g 241 l3) ≤ 2147483647 := I.1 241 l3
      have m_63 := zi_r_w (l2 + (g 241 l3))
      exact k_M_waysWith_l143 hK165 hQ n I F ⟨by omega, by omega⟩ ⟨by omega, by omega⟩ (by omega)
set_option maxRecDepth 100000 in
set_option maxHeartbeats 4000000 in
theorem k_M_waysWith {l1 : Int} {g : zi_M} {Q : Int → zi_M → Prop} (I : zk_I g) (p1 : (-1) ≤ l1 ∧ l1 ≤ 79) (hQ : ∀ (v : Int) (g' : zi_M), zk_I g' → zk_fr fr_M_waysWith g g' → ((-2147483648) ≤ v ∧ v ≤ 2147483647) → Q v g') : w_M_waysWith l1 g Q := by
  unfold w_M_waysWith
  refine ⟨((1024 - 0 : Int).toNat + 1), k_M_waysWith_l2 (fun g8 I_7 F_8 => ?_) hQ ((1024 - 0 : Int).toNat + 1) I (zk_f0 _) ⟨by omega, by omega⟩ (by omega)⟩
  refine ⟨((8 - 0 : Int).toNat + 1), k_M_waysWith_l32 (l1 := l1) ⟨by omega, by omega⟩ (fun g34 I_60 F_61 => ?_) hQ ((8 - 0 : Int).toNat + 1) I_7 F_8 ⟨by omega, by omega⟩ (by omega)⟩
  refine ⟨((1024 - 0 : Int).toNat + 1), k_M_waysWith_l143 (fun k38 g39 I_64 F_65 b_66 => ?_) hQ ((1024 - 0 : Int).toNat + 1) I_60 F_61 ⟨by omega, by omega⟩ ⟨by omega, by omega⟩ (by omega)⟩
  exact hQ _ _ I_64 F_65 ⟨by omega, by omega⟩
-- SpoutNewsModel.isFirstTold(I)Z
set_option maxRecDepth 100000 in
set_option maxHeartbeats 4000000 in
theorem k_M_isFirstTold_l2 {g : zi_M} (I : zk_I g) {l1 : Int} {K22 : zi_M → Prop} {K30 : zi_M → Prop} {Q : Int → zi_M → Prop} (q1 : 0 ≤ l1 ∧ l1 ≤ 11) (hK22 : K22 g) (hK30 : K30 g) (hQ : ∀ v : Int, (0 ≤ v ∧ v ≤ 1) → Q v g) : ∀ (n : Nat) {l2 : Int}, (0 ≤ l2 ∧ l2 ≤ 11) → 11 - l2 < (n : Int) → w_M_isFirstTold_l2 l1 K22 K30 Q n l2 g
  | 0, l2, b0, hm => by exfalso; omega
  | n + 1, l2, b0, hm => by
    unfold w_M_isFirstTold_l2
    refine ⟨⟨by omega, by omega⟩, ⟨by omega, by omega⟩, ?_⟩
    refine ⟨fun c8 => ?_, fun c8 => ?_⟩
    · exact hK30
    · refine ⟨⟨by omega, by omega⟩, ?_⟩
      refine ⟨⟨by omega, by omega⟩, ?_⟩
      have m_1 : 0 ≤ (g 240 l2) ∧ (g 240 l2) ≤ 79 := I.1 240 l2
      have m_2 : 0 ≤ (g 240 l1) ∧ (g 240 l1) ≤ 79 := I.1 240 l1
      refine ⟨⟨by omega, by omega⟩, ⟨by omega, by omega⟩, ?_⟩
      refine ⟨fun c7 => ?_, fun c7 => ?_⟩
      · exact k_M_isFirstTold_l2 I q1 hK22 hK30 hQ n ⟨by omega, by omega⟩ (by omega)
      · exact hK22
set_option maxRecDepth 100000 in
set_option maxHeartbeats 4000000 in
theorem k_M_isFirstTold {l1 : Int} {g : zi_M} {Q : Int → zi_M → Prop} (I : zk_I g) (p1 : 0 ≤ l1 ∧ l1 ≤ 11) (hQ : ∀ v : Int, (0 ≤ v ∧ v ≤ 1) → Q v g) : w_M_isFirstTold l1 g Q := by
  unfold w_M_isFirstTold
  refine ⟨((11 - 0 : Int).toNat + 1), k_M_isFirstTold_l2 (l1 := l1) I ⟨by omega, by omega⟩ (?_) (?_) hQ ((11 - 0 : Int).toNat + 1) ⟨by omega, by omega⟩ (by omega)⟩
  · exact hQ _ ⟨by omega, by omega⟩
  · exact hQ _ ⟨by omega, by omega⟩
-- SpoutNewsModel.greater(II)I
set_option maxRecDepth 100000 in
set_option maxHeartbeats 4000000 in
theorem k_M_greater {l1 : Int} {l2 : Int} {g : zi_M} {Q : Int → zi_M → Prop} (I : zk_I g) (p1 : (-2147483648) ≤ l1 ∧ l1 ≤ 2147483647) (p2 : (-2147483648) ≤ l2 ∧ l2 ≤ 2147483647) (hQ : ∀ v : Int, (l1 ≤ l2 → v = l2) → (l2 < l1 → v = l1) → Q v g) : w_M_greater l1 l2 g Q := by
  unfold w_M_greater
  refine ⟨⟨by omega, by omega⟩, ⟨by omega, by omega⟩, ?_⟩
  refine ⟨fun c3 => ?_, fun c3 => ?_⟩
  · exact hQ _ (by intros; omega) (by intros; omega)
  · exact hQ _ (by intros; omega) (by intros; omega)
-- SpoutNewsModel.askedBest()I
set_option maxRecDepth 100000 in
set_option maxHeartbeats 4000000 in
theorem k_M_askedBest_l32 {l3 : Int} {K79 : Int → zi_M → Prop} {Q : Int → zi_M → Prop} {g0 : zi_M} (q3 : 0 ≤ l3 ∧ l3 ≤ 7) (hK79 : ∀ (k4 : Int) (g : zi_M), zk_I g → zk_fr fr_M_askedBest g0 g → ((-2147483648) ≤ k4 ∧ k4 ≤ 2147483647) → K79 k4 g) (hQ : ∀ (v : Int) (g' : zi_M), zk_I g' → zk_fr fr_M_askedBest g0 g' → ((-1) ≤ v ∧ v ≤ 7) → Q v g') : ∀ (n : Nat) {l4 : Int} {l5 : Int} {g : zi_M}, zk_I g → zk_fr fr_M_askedBest g0 g → ((-2147483648) ≤ l4 ∧ l4 ≤ 2147483647) → (0 ≤ l5 ∧ l5 ≤ 10) → 10 - l5 < (n : Int) → w_M_askedBest_l32 l3 K79 Q n l4 l5 g
  | 0, l4, l5, g, I, F, b0, b1, hm => by exfalso; omega
  | n + 1, l4, l5, g, I, F, b0, b1, hm => by
    unfold w_M_askedBest_l32
    refine ⟨⟨by omega, by omega⟩, ?_⟩
    refine ⟨fun c16 => ?_, fun c16 => ?_⟩
    · exact hK79 _ _ I F ⟨by omega, by omega⟩
    · refine ⟨⟨by omega, by omega⟩, ?_⟩
      have m_2 : 0 ≤ (g 239 l3) ∧ (g 239 l3) ≤ 1023 := I.1 239 l3
      have m_5 := zi_r_shr ((g 239 l3)) (l5)
      try have m_6 := (zi_shr_f ((g 239 l3)) (l5)).2 ⟨by omega, by omega⟩
      have m_7 := zi_r_and (zi_shr (g 239 l3) l5) 1
      try have m_8 := (zi_and_f (zi_shr (g 239 l3) l5) 1).2.1 ⟨by omega, by omega⟩
      try have m_9 := (zi_and_f (zi_shr (g 239 l3) l5) 1).2.2 ⟨by omega, by omega⟩
      refine k_M_has I ⟨by omega, by omega⟩ ⟨by omega, by omega⟩ (fun v6 b_3 b_4 => ?_)
      refine ⟨fun c15 => ?_, fun c15 => ?_⟩
      · exact k_M_askedBest_l32 q3 hK79 hQ n I F ⟨by omega, by omega⟩ ⟨by omega, by omega⟩ (by omega)
      · refine k_M_waysWith I ⟨by omega, by omega⟩ (fun v9 g10 I_11 F_12 b_10 => ?_)
        have F_13 : zk_fr fr_M_askedBest g0 g10 := zk_ft F F_12 (fun a i => (fun h => h))
        refine k_M_greater I_11 ⟨by omega, by omega⟩ ⟨by omega, by omega⟩ (fun v12 b_14 b_15 => ?_)
        exact k_M_askedBest_l32 q3 hK79 hQ n I_11 F_13 ⟨by omega, by omega⟩ ⟨by omega, by omega⟩ (by omega)
set_option maxRecDepth 100000 in
set_option maxHeartbeats 4000000 in
theorem k_M_askedBest_l8 {K105 : Int → zi_M → Prop} {Q : Int → zi_M → Prop} {g0 : zi_M} (hK105 : ∀ (k1 : Int) (g : zi_M), zk_I g → zk_fr fr_M_askedBest g0 g → ((-1) ≤ k1 ∧ k1 ≤ 7) → K105 k1 g) (hQ : ∀ (v : Int) (g' : zi_M), zk_I g' → zk_fr fr_M_askedBest g0 g' → ((-1) ≤ v ∧ v ≤ 7) → Q v g') : ∀ (n : Nat) {l1 : Int} {l2 : Int} {l3 : Int} {g : zi_M}, zk_I g → zk_fr fr_M_askedBest g0 g → ((-1) ≤ l1 ∧ l1 ≤ 7) → ((-2147483648) ≤ l2 ∧ l2 ≤ 2147483647) → (0 ≤ l3 ∧ l3 ≤ 8) → 8 - l3 < (n : Int) → w_M_askedBest_l8 K105 Q n l1 l2 l3 g
  | 0, l1, l2, l3, g, I, F, b0, b1, b2, hm => by exfalso; omega
  | n + 1, l1, l2, l3, g, I, F, b0, b1, b2, hm => by
    unfold w_M_askedBest_l8
    refine ⟨⟨by omega, by omega⟩, ?_⟩
    refine ⟨fun c30 => ?_, fun c30 => ?_⟩
    · exact hK105 _ _ I F ⟨by omega, by omega⟩
    · refine ⟨⟨by omega, by omega⟩, ?_⟩
      have m_1 : 0 ≤ (g 239 l3) ∧ (g 239 l3) ≤ 1023 := I.1 239 l3
      refine ⟨⟨by omega, by omega⟩, ?_⟩
      refine ⟨fun c29 => ?_, fun c29 => ?_⟩
      · refine ⟨((10 - 0 : Int).toNat + 1), k_M_askedBest_l32 (l3 := l3) ⟨by omega, by omega⟩ (fun k17 g18 I_16 F_17 b_18 => ?_) hQ ((10 - 0 : Int).toNat + 1) I F ⟨by omega, by omega⟩ ⟨by omega, by omega⟩ (by omega)⟩
        refine ⟨⟨by omega, by omega⟩, ⟨by omega, by omega⟩, ?_⟩
        refine ⟨fun c27 => ?_, fun c27 => ?_⟩
        · refine k_M_lesser I_16 ⟨by omega, by omega⟩ ⟨by omega, by omega⟩ (fun v21 b_19 b_20 => ?_)
          exact k_M_askedBest_l8 hK105 hQ n I_16 F_17 ⟨by omega, by omega⟩ ⟨by omega, by omega⟩ ⟨by omega, by omega⟩ (by omega)
        · refine k_M_lesser I_16 ⟨by omega, by omega⟩ ⟨by omega, by omega⟩ (fun v24 b_21 b_22 => ?_)
          exact k_M_askedBest_l8 hK105 hQ n I_16 F_17 ⟨by omega, by omega⟩ ⟨by omega, by omega⟩ ⟨by omega, by omega⟩ (by omega)
      · exact k_M_askedBest_l8 hK105 hQ n I F ⟨by omega, by omega⟩ ⟨by omega, by omega⟩ ⟨by omega, by omega⟩ (by omega)
set_option maxRecDepth 100000 in
set_option maxHeartbeats 4000000 in
theorem k_M_askedBest {g : zi_M} {Q : Int → zi_M → Prop} (I : zk_I g) (hQ : ∀ (v : Int) (g' : zi_M), zk_I g' → zk_fr fr_M_askedBest g g' → ((-1) ≤ v ∧ v ≤ 7) → Q v g') : w_M_askedBest g Q := by
  unfold w_M_askedBest
  refine ⟨((8 - 0 : Int).toNat + 1), k_M_askedBest_l8 (fun k31 g32 I_23 F_24 b_25 => ?_) hQ ((8 - 0 : Int).toNat + 1) I (zk_f0 _) ⟨by omega, by omega⟩ ⟨by omega, by omega⟩ ⟨by omega, by omega⟩ (by omega)⟩
  exact hQ _ _ I_23 F_24 ⟨by omega, by omega⟩
-- SpoutNewsModel.ways(I)I
set_option maxRecDepth 100000 in
set_option maxHeartbeats 4000000 in
theorem k_M_ways_l44 {l2 : Int} {K91 : Int → zi_M → Prop} {Q : Int → zi_M → Prop} {g0 : zi_M} (q2 : (-2147483648) ≤ l2 ∧ l2 ≤ 2147483647) (hK91 : ∀ (k3 : Int) (g : zi_M), zk_I g → zk_fr fr_M_ways g0 g → (0 ≤ k3) → K91 k3 g) (hQ : ∀ (v : Int) (g' : zi_M), zk_I g' → zk_fr fr_M_ways g0 g' → ((-2147483648) ≤ v) → Q v g') : ∀ (n : Nat) {l3 : Int} {l4 : Int} {g : zi_M}, zk_I g → zk_fr fr_M_ways g0 g → (0 ≤ l3) → (0 ≤ l4 ∧ l4 ≤ 12) → 12 - l4 < (n : Int) → w_M_ways_l44 l2 K91 Q n l3 l4 g
  | 0, l3, l4, g, I, F, b0, b1, hm => by exfalso; omega
  | n + 1, l3, l4, g, I, F, b0, b1, hm => by
    unfold w_M_ways_l44
    have m_11 : 0 ≤ (g 214 46) ∧ (g 214 46) ≤ 12 := I.1 214 46
    refine ⟨⟨by omega, by omega⟩, ⟨by omega, by omega⟩, ?_⟩
    refine ⟨fun c23 => ?_, fun c23 => ?_⟩
    · exact hK91 _ _ I F (by omega)
    · refine ⟨⟨by omega, by omega⟩, ?_⟩
      refine ⟨fun c22 => ?_, fun c22 => ?_⟩
      · exact hK91 _ _ I F (by omega)
      · refine k_M_isFirstTold I ⟨by omega, by omega⟩ (fun v12 b_12 => ?_)
        refine ⟨fun c21 => ?_, fun c21 => ?_⟩
        · exact k_M_ways_l44 q2 hK91 hQ n I F (by omega) ⟨by omega, by omega⟩ (by omega)
        · refine ⟨⟨by omega, by omega⟩, ?_⟩
          have m_13 : 0 ≤ (g 240 l4) ∧ (g 240 l4) ≤ 79 := I.1 240 l4
          refine k_M_waysWith I ⟨by omega, by omega⟩ (fun v16 g17 I_15 F_16 b_14 => ?_)
          have F_17 : zk_fr fr_M_ways g0 g17 := zk_ft F F_16 (fun a i => (fun h => (Or.inl h)))
          refine ⟨⟨by omega, by omega⟩, ?_⟩
          refine ⟨fun c20 => ?_, fun c20 => ?_⟩
          · exact k_M_ways_l44 q2 hK91 hQ n I_15 F_17 (by omega) ⟨by omega, by omega⟩ (by omega)
          · exact k_M_ways_l44 q2 hK91 hQ n I_15 F_17 (by omega) ⟨by omega, by omega⟩ (by omega)
set_option maxRecDepth 100000 in
set_option maxHeartbeats 4000000 in
theorem k_M_ways {l1 : Int} {g : zi_M} {Q : Int → zi_M → Prop} (I : zk_I g) (p1 : (-2147483648) ≤ l1 ∧ l1 ≤ 2147483647) (hQ : ∀ (v : Int) (g' : zi_M), zk_I g' → zk_fr fr_M_ways g g' → ((-2147483648) ≤ v) → Q v g') : w_M_ways l1 g Q := by
  unfold w_M_ways
  intro g1 e_1
  have I_2 : zk_I g1 := by rw [e_1]; exact zk_upd (L := (-2147483648)) (H := 2147483647) rfl rfl I ⟨by omega, by omega⟩
  have F_3 : zk_fr fr_M_ways g g1 := by rw [e_1]; exact zk_fu (zk_f0 _) (Or.inr ⟨rfl, rfl⟩)
  refine k_M_isIn I_2 ⟨by omega, by omega⟩ ⟨by omega, by omega⟩ ⟨by omega, by omega⟩ (fun v2 b_4 b_5 b_6 => ?_)
  refine ⟨fun c32 => ?_, fun c32 => ?_⟩
  · refine ⟨⟨by omega, by omega⟩, ?_⟩
    refine ⟨fun c31 => ?_, fun c31 => ?_⟩
    · refine k_M_waysWith I_2 ⟨by omega, by omega⟩ (fun v6 g7 I_8 F_9 b_7 => ?_)
      have F_10 : zk_fr fr_M_ways g g7 := zk_ft F_3 F_9 (fun a i => (fun h => (Or.inl h)))
      refine ⟨fun c27 => ?_, fun c27 => ?_⟩
      · refine ⟨((12 - 0 : Int).toNat + 1), k_M_ways_l44 (l2 := v6) ⟨by omega, by omega⟩ (fun k24 g25 I_18 F_19 b_20 => ?_) hQ ((12 - 0 : Int).toNat + 1) I_8 F_10 (by omega) ⟨by omega, by omega⟩ (by omega)⟩
        exact hQ _ _ I_18 F_19 (by omega)
      · exact hQ _ _ I_8 F_10 (by omega)
    · refine k_M_askedBest I_2 (fun v28 g29 I_22 F_23 b_21 => ?_)
      have F_24 : zk_fr fr_M_ways g g29 := zk_ft F_3 F_23 (fun a i => (fun h => (Or.inl h)))
      exact hQ _ _ I_22 F_24 (by omega)
  · exact hQ _ _ I_2 F_3 (by omega)
-- SpoutNews.quarrel(II)I
set_option maxRecDepth 100000 in
set_option maxHeartbeats 4000000 in
theorem k_S_quarrel {l1 : Int} {l2 : Int} {g : zi_M} {Q : Int → zi_M → Prop} (I : zk_I g) (p1 : (-2147483648) ≤ l1 ∧ l1 ≤ 2147483647) (p2 : (-2147483648) ≤ l2 ∧ l2 ≤ 2147483647) (hQ : ∀ (v : Int) (g' : zi_M), zk_I g' → zk_fr fr_S_quarrel g g' → ((-1) ≤ v ∧ v ≤ 14) → (l1 = -1 → v = 0 ∧ g' 36 5 = 0) → (¬ l1 = -1 → 0 ≤ l1 ∧ l1 ≤ 9 ∧ 0 ≤ l2 ∧ l2 ≤ 9 ∧ ¬ l1 = l2 ∧ g 36 5 < 14 → v = g 36 5 + 1 ∧ g' 36 5 = g 36 5 + 1) → (¬ l1 = -1 → ¬ (0 ≤ l1 ∧ l1 ≤ 9 ∧ 0 ≤ l2 ∧ l2 ≤ 9 ∧ ¬ l1 = l2 ∧ g 36 5 < 14) → v = -1 ∧ g' 36 5 = g 36 5) → Q v g') : w_S_quarrel l1 l2 g Q := by
  unfold w_S_quarrel
  refine ⟨⟨by omega, by omega⟩, ?_⟩
  refine ⟨fun c16 => ?_, fun c16 => ?_⟩
  · refine ⟨fun c14 => ?_, fun c14 => ?_⟩
    · have m_1 : 0 ≤ (g 36 5) ∧ (g 36 5) ≤ 14 := I.1 36 5
      exact hQ _ _ I (zk_f0 _) ⟨by omega, by omega⟩ (by omega) (by omega) (by omega)
    · refine ⟨fun c13 => ?_, fun c13 => ?_⟩
      · have m_2 : 0 ≤ (g 36 5) ∧ (g 36 5) ≤ 14 := I.1 36 5
        exact hQ _ _ I (zk_f0 _) ⟨by omega, by omega⟩ (by omega) (by omega) (by omega)
      · refine ⟨⟨by omega, by omega⟩, ?_⟩
        refine ⟨fun c12 => ?_, fun c12 => ?_⟩
        · have m_3 : 0 ≤ (g 36 5) ∧ (g 36 5) ≤ 14 := I.1 36 5
          exact hQ _ _ I (zk_f0 _) ⟨by omega, by omega⟩ (by omega) (by omega) (by omega)
        · refine ⟨fun c11 => ?_, fun c11 => ?_⟩
          · have m_4 : 0 ≤ (g 36 5) ∧ (g 36 5) ≤ 14 := I.1 36 5
            exact hQ _ _ I (zk_f0 _) ⟨by omega, by omega⟩ (by omega) (by omega) (by omega)
          · refine ⟨fun c10 => ?_, fun c10 => ?_⟩
            · have m_5 : 0 ≤ (g 36 5) ∧ (g 36 5) ≤ 14 := I.1 36 5
              exact hQ _ _ I (zk_f0 _) ⟨by omega, by omega⟩ (by omega) (by omega) (by omega)
            · have m_6 : 0 ≤ (g 36 5) ∧ (g 36 5) ≤ 14 := I.1 36 5
              refine ⟨⟨by omega, by omega⟩, ?_⟩
              refine ⟨fun c9 => ?_, fun c9 => ?_⟩
              · refine ⟨⟨by omega, by omega⟩, ?_⟩
                intro g5 e_7
                have I_8 : zk_I g5 := by rw [e_7]; exact zk_upd (L := 0) (H := 9) rfl rfl I ⟨by omega, by omega⟩
                have F_9 : zk_fr fr_S_quarrel g g5 := by rw [e_7]; exact zk_fu (zk_f0 _) (Or.inl rfl)
                have m_13 : 0 ≤ (g5 36 5) ∧ (g5 36 5) ≤ 14 := I_8.1 36 5
                have m_14 : g5 36 5 = g 36 5 := by rw [e_7]; exact zi_u_ne (by decide)
                refine ⟨⟨by omega, by omega⟩, ?_⟩
                intro g7 e_10
                have I_11 : zk_I g7 := by rw [e_10]; exact zk_upd (L := 0) (H := 9) rfl rfl I_8 ⟨by omega, by omega⟩
                have F_12 : zk_fr fr_S_quarrel g g7 := by rw [e_10]; exact zk_fu F_9 (Or.inr (Or.inl rfl))
                have m_18 : 0 ≤ (g7 36 5) ∧ (g7 36 5) ≤ 14 := I_11.1 36 5
                have m_19 : g7 36 5 = g5 36 5 := by rw [e_10]; exact zi_u_ne (by decide)
                intro g8 e_15
                have I_16 : zk_I g8 := by rw [e_15]; exact zk_upd (L := 0) (H := 14) rfl rfl I_11 ⟨by omega, by omega⟩
                have F_17 : zk_fr fr_S_quarrel g g8 := by rw [e_15]; exact zk_fu F_12 (Or.inr (Or.inr ⟨rfl, rfl⟩))
                have m_20 : 0 ≤ (g8 36 5) ∧ (g8 36 5) ≤ 14 := I_16.1 36 5
                have m_21 : g8 36 5 = (g7 36 5) + 1 := by rw [e_15]; exact zi_u_eq
                exact hQ _ _ I_16 F_17 ⟨by omega, by omega⟩ (by omega) (by omega) (by omega)
              · exact hQ _ _ I (zk_f0 _) ⟨by omega, by omega⟩ (by omega) (by omega) (by omega)
  · intro g15 e_22
    have I_23 : zk_I g15 := by rw [e_22]; exact zk_upd (L := 0) (H := 14) rfl rfl I ⟨by omega, by omega⟩
    have F_24 : zk_fr fr_S_quarrel g g15 := by rw [e_22]; exact zk_fu (zk_f0 _) (Or.inr (Or.inr ⟨rfl, rfl⟩))
    have m_25 : 0 ≤ (g15 36 5) ∧ (g15 36 5) ≤ 14 := I_23.1 36 5
    have m_26 : g15 36 5 = 0 := by rw [e_22]; exact zi_u_eq
    exact hQ _ _ I_23 F_24 ⟨by omega, by omega⟩ (by omega) (by omega) (by omega)
-- SpoutNewsModel.quarrel(II)I
set_option maxRecDepth 100000 in
set_option maxHeartbeats 4000000 in
theorem k_M_quarrel_l17 {l1 : Int} {l2 : Int} {K36 : zi_M → Prop} {Q : Int → zi_M → Prop} {g0 : zi_M} (hK36 : ∀ (g : zi_M), zk_I g → zk_fr fr_M_quarrel g0 g → (g 214 50 = 0) → K36 g) (hQ : ∀ (v : Int) (g' : zi_M), zk_I g' → zk_fr fr_M_quarrel g0 g' → ((-1) ≤ v ∧ v ≤ 14) → (l1 = -1 → v = 0 ∧ g' 214 50 = 0) → (¬ l1 = -1 → 0 ≤ l1 ∧ l1 ≤ 9 ∧ 0 ≤ l2 ∧ l2 ≤ 9 ∧ ¬ l1 = l2 ∧ g0 214 50 < 14 → v = g0 214 50 + 1 ∧ g' 214 50 = g0 214 50 + 1) → (¬ l1 = -1 → ¬ (0 ≤ l1 ∧ l1 ≤ 9 ∧ 0 ≤ l2 ∧ l2 ≤ 9 ∧ ¬ l1 = l2 ∧ g0 214 50 < 14) → v = -1 ∧ g' 214 50 = g0 214 50) → Q v g') : ∀ (n : Nat) {l3 : Int} {g : zi_M}, zk_I g → zk_fr fr_M_quarrel g0 g → (0 ≤ l3 ∧ l3 ≤ 10) → (g 214 50 = 0) → 10 - l3 < (n : Int) → w_M_quarrel_l17 K36 Q n l3 g
  | 0, l3, g, I, F, b0, b1, hm => by exfalso; omega
  | n + 1, l3, g, I, F, b0, b1, hm => by
    unfold w_M_quarrel_l17
    refine ⟨⟨by omega, by omega⟩, ?_⟩
    refine ⟨fun c24 => ?_, fun c24 => ?_⟩
    · have m_64 : 0 ≤ (g 214 50) ∧ (g 214 50) ≤ 14 := I.1 214 50
      exact hK36 _ I F (by omega)
    · refine ⟨⟨by omega, by omega⟩, ?_⟩
      intro g23 e_65
      have I_66 : zk_I g23 := by rw [e_65]; exact zk_upd (L := 0) (H := 1023) rfl rfl I ⟨by omega, by omega⟩
      have F_67 : zk_fr fr_M_quarrel g0 g23 := by rw [e_65]; exact zk_fu F (Or.inl rfl)
      have m_68 : 0 ≤ (g23 214 50) ∧ (g23 214 50) ≤ 14 := I_66.1 214 50
      have m_69 : g23 214 50 = g 214 50 := by rw [e_65]; exact zi_u_ne (by decide)
      have m_70 : 0 ≤ (g 214 50) ∧ (g 214 50) ≤ 14 := I.1 214 50
      exact k_M_quarrel_l17 hK36 hQ n I_66 F_67 ⟨by omega, by omega⟩ (by omega) (by omega)
set_option maxRecDepth 100000 in
set_option maxHeartbeats 4000000 in
theorem k_M_quarrel {l1 : Int} {l2 : Int} {g : zi_M} {Q : Int → zi_M → Prop} (I : zk_I g) (p1 : (-2147483648) ≤ l1 ∧ l1 ≤ 2147483647) (p2 : (-2147483648) ≤ l2 ∧ l2 ≤ 2147483647) (hQ : ∀ (v : Int) (g' : zi_M), zk_I g' → zk_fr fr_M_quarrel g g' → ((-1) ≤ v ∧ v ≤ 14) → (l1 = -1 → v = 0 ∧ g' 214 50 = 0) → (¬ l1 = -1 → 0 ≤ l1 ∧ l1 ≤ 9 ∧ 0 ≤ l2 ∧ l2 ≤ 9 ∧ ¬ l1 = l2 ∧ g 214 50 < 14 → v = g 214 50 + 1 ∧ g' 214 50 = g 214 50 + 1) → (¬ l1 = -1 → ¬ (0 ≤ l1 ∧ l1 ≤ 9 ∧ 0 ≤ l2 ∧ l2 ≤ 9 ∧ ¬ l1 = l2 ∧ g 214 50 < 14) → v = -1 ∧ g' 214 50 = g 214 50) → Q v g') : w_M_quarrel l1 l2 g Q := by
  unfold w_M_quarrel
  intro g1 e_1
  have I_2 : zk_I g1 := by rw [e_1]; exact zk_upd (L := (-2147483648)) (H := 2147483647) rfl rfl I ⟨by omega, by omega⟩
  have F_3 : zk_fr fr_M_quarrel g g1 := by rw [e_1]; exact zk_fu (zk_f0 _) (Or.inr (Or.inl ⟨rfl, rfl⟩))
  refine ⟨⟨by omega, by omega⟩, ?_⟩
  refine ⟨fun c27 => ?_, fun c27 => ?_⟩
  · refine k_M_isIn I_2 ⟨by omega, by omega⟩ ⟨by omega, by omega⟩ ⟨by omega, by omega⟩ (fun v3 b_4 b_5 b_6 => ?_)
    refine ⟨fun c19 => ?_, fun c19 => ?_⟩
    · have m_7 : 0 ≤ (g1 214 50) ∧ (g1 214 50) ≤ 14 := I_2.1 214 50
      have m_8 : g1 214 50 = g 214 50 := by rw [e_1]; exact zi_u_ni (by decide)
      have m_9 : 0 ≤ (g 214 50) ∧ (g 214 50) ≤ 14 := I.1 214 50
      exact hQ _ _ I_2 F_3 ⟨by omega, by omega⟩ (by omega) (by omega) (by omega)
    · refine k_M_isIn I_2 ⟨by omega, by omega⟩ ⟨by omega, by omega⟩ ⟨by omega, by omega⟩ (fun v6 b_10 b_11 b_12 => ?_)
      refine ⟨fun c18 => ?_, fun c18 => ?_⟩
      · have m_13 : 0 ≤ (g1 214 50) ∧ (g1 214 50) ≤ 14 := I_2.1 214 50
        have m_14 : g1 214 50 = g 214 50 := by rw [e_1]; exact zi_u_ni (by decide)
        have m_15 : 0 ≤ (g 214 50) ∧ (g 214 50) ≤ 14 := I.1 214 50
        exact hQ _ _ I_2 F_3 ⟨by omega, by omega⟩ (by omega) (by omega) (by omega)
      · refine ⟨⟨by omega, by omega⟩, ?_⟩
        refine ⟨fun c17 => ?_, fun c17 => ?_⟩
        · have m_16 : 0 ≤ (g1 214 50) ∧ (g1 214 50) ≤ 14 := I_2.1 214 50
          have m_17 : g1 214 50 = g 214 50 := by rw [e_1]; exact zi_u_ni (by decide)
          have m_18 : 0 ≤ (g 214 50) ∧ (g 214 50) ≤ 14 := I.1 214 50
          exact hQ _ _ I_2 F_3 ⟨by omega, by omega⟩ (by omega) (by omega) (by omega)
        · have m_19 : 0 ≤ (g1 214 50) ∧ (g1 214 50) ≤ 14 := I_2.1 214 50
          have m_20 : g1 214 50 = g 214 50 := by rw [e_1]; exact zi_u_ni (by decide)
          have m_21 : 0 ≤ (g 214 50) ∧ (g 214 50) ≤ 14 := I.1 214 50
          refine ⟨⟨by omega, by omega⟩, ?_⟩
          refine ⟨fun c16 => ?_, fun c16 => ?_⟩
          · refine ⟨⟨by omega, by omega⟩, ?_⟩
            have m_25 : 0 ≤ (g1 242 l1) ∧ (g1 242 l1) ≤ 1023 := I_2.1 242 l1
            have m_26 : g1 242 l1 = g 242 l1 := by rw [e_1]; exact zi_u_ne (by decide)
            have m_27 : 0 ≤ (g 242 l1) ∧ (g 242 l1) ≤ 1023 := I.1 242 l1
            have m_28 := zi_r_shl 1 l2
            try have m_29 := (zi_shl_f l2).2.1 ⟨by omega, by omega⟩
            first | have m_30 := (zi_shl_f l2).2.2.1 ⟨by omega, by omega⟩ | have m_31 := (zi_shl_f l2).2.2.2.1 ⟨by omega, by omega⟩ | have m_32 := (zi_shl_f l2).2.2.2.2.1 ⟨by omega, by omega⟩ | have m_33 := (zi_shl_f l2).2.2.2.2.2.1 ⟨by omega, by omega⟩ | have m_34 := (zi_shl_f l2).2.2.2.2.2.2 ⟨by omega, by omega⟩ | skip
            first | have m_35 := (zi_or_f (g1 242 l1) (zi_shl 1 l2)).2.1 ⟨by omega, by omega, by omega, by omega⟩ | have m_35 := (zi_or_f (g1 242 l1) (zi_shl 1 l2)).2.2.1 ⟨by omega, by omega, by omega, by omega⟩ | have m_35 := (zi_or_f (g1 242 l1) (zi_shl 1 l2)).2.2.2.1 ⟨by omega, by omega, by omega, by omega⟩ | have m_35 := (zi_or_f (g1 242 l1) (zi_shl 1 l2)).2.2.2.2.1 ⟨by omega, by omega, by omega, by omega⟩ | have m_35 := (zi_or_f (g1 242 l1) (zi_shl 1 l2)).2.2.2.2.2 ⟨by omega, by omega, by omega, by omega⟩ | have m_35 := zi_r_or (g1 242 l1) (zi_shl 1 l2)
            intro g12 e_22
            have I_23 : zk_I g12 := by rw [e_22]; exact zk_upd (L := 0) (H := 1023) rfl rfl I_2 ⟨by omega, by omega⟩
            have F_24 : zk_fr fr_M_quarrel g g12 := by rw [e_22]; exact zk_fu F_3 (Or.inl rfl)
            refine ⟨⟨by omega, by omega⟩, ?_⟩
            have m_39 : 0 ≤ (g12 242 l2) ∧ (g12 242 l2) ≤ 1023 := I_23.1 242 l2
            have m_40 : 0 ≤ (g1 242 l2) ∧ (g1 242 l2) ≤ 1023 := I_2.1 242 l2
            have m_41 : g1 242 l2 = g 242 l2 := by rw [e_1]; exact zi_u_ne (by decide)
            have m_42 : 0 ≤ (g 242 l2) ∧ (g 242 l2) ≤ 1023 := I.1 242 l2
            have m_43 : (l2 = l1 → g12 242 l2 = zi_or (g1 242 l1) (zi_shl 1 l2)) ∧ (¬ l2 = l1 → g12 242 l2 = g1 242 l2) := by rw [e_22]; exact zi_u_if
            have m_44 := zi_r_shl 1 l1
            try have m_45 := (zi_shl_f l1).2.1 ⟨by omega, by omega⟩
            first | have m_46 := (zi_shl_f l1).2.2.1 ⟨by omega, by omega⟩ | have m_47 := (zi_shl_f l1).2.2.2.1 ⟨by omega, by omega⟩ | have m_48 := (zi_shl_f l1).2.2.2.2.1 ⟨by omega, by omega⟩ | have m_49 := (zi_shl_f l1).2.2.2.2.2.1 ⟨by omega, by omega⟩ | have m_50 := (zi_shl_f l1).2.2.2.2.2.2 ⟨by omega, by omega⟩ | skip
            first | have m_51 := (zi_or_f (g12 242 l2) (zi_shl 1 l1)).2.1 ⟨by omega, by omega, by omega, by omega⟩ | have m_51 := (zi_or_f (g12 242 l2) (zi_shl 1 l1)).2.2.1 ⟨by omega, by omega, by omega, by omega⟩ | have m_51 := (zi_or_f (g12 242 l2) (zi_shl 1 l1)).2.2.2.1 ⟨by omega, by omega, by omega, by omega⟩ | have m_51 := (zi_or_f (g12 242 l2) (zi_shl 1 l1)).2.2.2.2.1 ⟨by omega, by omega, by omega, by omega⟩ | have m_51 := (zi_or_f (g12 242 l2) (zi_shl 1 l1)).2.2.2.2.2 ⟨by omega, by omega, by omega, by omega⟩ | have m_51 := zi_r_or (g12 242 l2) (zi_shl 1 l1)
            intro g14 e_36
            have I_37 : zk_I g14 := by rw [e_36]; exact zk_upd (L := 0) (H := 1023) rfl rfl I_23 ⟨by omega, by omega⟩
            have F_38 : zk_fr fr_M_quarrel g g14 := by rw [e_36]; exact zk_fu F_24 (Or.inl rfl)
            have m_55 : 0 ≤ (g14 214 50) ∧ (g14 214 50) ≤ 14 := I_37.1 214 50
            have m_56 : g14 214 50 = g12 214 50 := by rw [e_36]; exact zi_u_ne (by decide)
            have m_57 : 0 ≤ (g12 214 50) ∧ (g12 214 50) ≤ 14 := I_23.1 214 50
            have m_58 : g12 214 50 = g1 214 50 := by rw [e_22]; exact zi_u_ne (by decide)
            intro g15 e_52
            have I_53 : zk_I g15 := by rw [e_52]; exact zk_upd (L := 0) (H := 14) rfl rfl I_37 ⟨by omega, by omega⟩
            have F_54 : zk_fr fr_M_quarrel g g15 := by rw [e_52]; exact zk_fu F_38 (Or.inr (Or.inr ⟨rfl, rfl⟩))
            have m_59 : 0 ≤ (g15 214 50) ∧ (g15 214 50) ≤ 14 := I_53.1 214 50
            have m_60 : g15 214 50 = (g14 214 50) + 1 := by rw [e_52]; exact zi_u_eq
            exact hQ _ _ I_53 F_54 ⟨by omega, by omega⟩ (by omega) (by omega) (by omega)
          · exact hQ _ _ I_2 F_3 ⟨by omega, by omega⟩ (by omega) (by omega) (by omega)
  · intro g20 e_61
    have I_62 : zk_I g20 := by rw [e_61]; exact zk_upd (L := 0) (H := 14) rfl rfl I_2 ⟨by omega, by omega⟩
    have F_63 : zk_fr fr_M_quarrel g g20 := by rw [e_61]; exact zk_fu F_3 (Or.inr (Or.inr ⟨rfl, rfl⟩))
    have m_75 : 0 ≤ (g20 214 50) ∧ (g20 214 50) ≤ 14 := I_62.1 214 50
    have m_76 : g20 214 50 = 0 := by rw [e_61]; exact zi_u_eq
    refine ⟨((10 - 0 : Int).toNat + 1), k_M_quarrel_l17 (fun g25 I_71 F_72 b_73 => ?_) hQ ((10 - 0 : Int).toNat + 1) I_62 F_63 ⟨by omega, by omega⟩ (by omega) (by omega)⟩
    have m_74 : 0 ≤ (g25 214 50) ∧ (g25 214 50) ≤ 14 := I_71.1 214 50
    exact hQ _ _ I_71 F_72 ⟨by omega, by omega⟩ (by omega) (by omega) (by omega)
