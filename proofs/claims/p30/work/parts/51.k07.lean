-- by program (wip/gen/mkz.py)
-- SpoutNews$LawReader.push(I)V
def fr_LawReader_push (a : Nat) (i : Int) : Prop := a = 213 ∨ (a = 212 ∧ i = 1)
set_option maxRecDepth 100000 in
set_option maxHeartbeats 400000 in
theorem k_LawReader_push {l1 : Int} {g : zi_M} {Q : Int → zi_M → Prop} (I : zk_I g) (p1 : (-1) ≤ l1 ∧ l1 ≤ 9999) (hQ : ∀ g' : zi_M, zk_I g' → zk_fr fr_LawReader_push g g' → Q 0 g') : w_LawReader_push l1 g Q := by
  unfold w_LawReader_push
  have m_1 : 0 ≤ (g 212 1) ∧ (g 212 1) ≤ 40 := I 212 1
  refine ⟨⟨by omega, by omega⟩, ?_⟩
  refine ⟨fun c5 => ?_, fun c5 => ?_⟩
  · exact hQ _ I (zk_f0 _)
  · refine ⟨⟨by omega, by omega⟩, ?_⟩
    intro g3 e_2
    have I_3 : zk_I g3 := by rw [e_2]; exact zk_upd (L := (-2147483648)) (H := 2147483647) rfl rfl I ⟨by omega, by omega⟩
    have F_4 : zk_fr fr_LawReader_push g g3 := by rw [e_2]; exact zk_fu (zk_f0 _) (by unfold fr_LawReader_push; omega)
    have m_8 : 0 ≤ (g3 212 1) ∧ (g3 212 1) ≤ 40 := I_3 212 1
    have m_9 : g3 212 1 = g 212 1 := by rw [e_2]; exact zi_u_ne (by decide)
    intro g4 e_5
    have I_6 : zk_I g4 := by rw [e_5]; exact zk_upd (L := 0) (H := 40) rfl rfl I_3 ⟨by omega, by omega⟩
    have F_7 : zk_fr fr_LawReader_push g g4 := by rw [e_5]; exact zk_fu F_4 (by unfold fr_LawReader_push; omega)
    exact hQ _ I_6 F_7
-- SpoutNews$LawReader.openAll(LSpoutNews$Tokens;)Z
def fr_LawReader_openAll (a : Nat) (i : Int) : Prop := a = 213 ∨ (a = 191 ∧ i = 4) ∨ (a = 191 ∧ i = 5) ∨ (a = 191 ∧ i = 6) ∨ (a = 212 ∧ i = 1) ∨ (a = 212 ∧ i = 2) ∨ (a = 212 ∧ i = 3)
set_option maxRecDepth 100000 in
set_option maxHeartbeats 400000 in
theorem k_LawReader_openAll_b70 {l2 : Int} {l3 : Int} {H : Int → zi_M → Prop} {K29 : zi_M → Prop} {K40 : zi_M → Prop} {K94 : zi_M → Prop} {Q : Int → zi_M → Prop} {g : zi_M} {g0 : zi_M} (I : zk_I g) (F : zk_fr fr_LawReader_openAll g0 g) (p2 : 0 ≤ l2 ∧ l2 ≤ 8) (p3 : 0 ≤ l3 ∧ l3 ≤ 1) (M : Int) (hM : 9 - l2 ≤ M) (hH : ∀ (m2 : Int) (g : zi_M), zk_I g → zk_fr fr_LawReader_openAll g0 g → (0 ≤ m2 ∧ m2 ≤ 9) → 9 - m2 < M → H m2 g) (hK29 : ∀ (g : zi_M), zk_I g → zk_fr fr_LawReader_openAll g0 g → K29 g) (hK40 : ∀ (g : zi_M), zk_I g → zk_fr fr_LawReader_openAll g0 g → K40 g) (hK94 : ∀ (g : zi_M), zk_I g → zk_fr fr_LawReader_openAll g0 g → K94 g) (hQ : ∀ (v : Int) (g' : zi_M), zk_I g' → zk_fr fr_LawReader_openAll g0 g' → (0 ≤ v ∧ v ≤ 1) → Q v g') : w_LawReader_openAll_b70 l2 l3 g H K29 K40 K94 Q := by
  unfold w_LawReader_openAll_b70
  refine ⟨⟨by omega, by omega⟩, ?_⟩
  refine ⟨fun c21 => ?_, fun c21 => ?_⟩
  · refine k_LawReader_push I ⟨by omega, by omega⟩ (fun g10 I_13 F_14 => ?_)
    have F_15 : zk_fr fr_LawReader_openAll g0 g10 := zk_ft F F_14 (by intro a i h; unfold fr_LawReader_push at h; unfold fr_LawReader_openAll; omega)
    refine k_Tokens_step I_13 (fun g13 I_16 F_17 => ?_)
    have F_18 : zk_fr fr_LawReader_openAll g0 g13 := zk_ft F_15 F_17 (by intro a i h; unfold fr_Tokens_step at h; unfold fr_LawReader_openAll; omega)
    exact hH _ _ I_16 F_18 ⟨by omega, by omega⟩ (by omega)
  · refine k_LawReader_push I ⟨by omega, by omega⟩ (fun g16 I_19 F_20 => ?_)
    have F_21 : zk_fr fr_LawReader_openAll g0 g16 := zk_ft F F_20 (by intro a i h; unfold fr_LawReader_push at h; unfold fr_LawReader_openAll; omega)
    refine k_Tokens_step I_19 (fun g19 I_22 F_23 => ?_)
    have F_24 : zk_fr fr_LawReader_openAll g0 g19 := zk_ft F_21 F_23 (by intro a i h; unfold fr_Tokens_step at h; unfold fr_LawReader_openAll; omega)
    exact hH _ _ I_22 F_24 ⟨by omega, by omega⟩ (by omega)
set_option maxRecDepth 100000 in
set_option maxHeartbeats 400000 in
theorem k_LawReader_openAll_b31 {l2 : Int} {l3 : Int} {H : Int → zi_M → Prop} {K29 : zi_M → Prop} {K40 : zi_M → Prop} {K94 : zi_M → Prop} {Q : Int → zi_M → Prop} {g : zi_M} {g0 : zi_M} (I : zk_I g) (F : zk_fr fr_LawReader_openAll g0 g) (p2 : 0 ≤ l2 ∧ l2 ≤ 8) (p3 : 0 ≤ l3 ∧ l3 ≤ 1) (M : Int) (hM : 9 - l2 ≤ M) (hH : ∀ (m2 : Int) (g : zi_M), zk_I g → zk_fr fr_LawReader_openAll g0 g → (0 ≤ m2 ∧ m2 ≤ 9) → 9 - m2 < M → H m2 g) (hK29 : ∀ (g : zi_M), zk_I g → zk_fr fr_LawReader_openAll g0 g → K29 g) (hK40 : ∀ (g : zi_M), zk_I g → zk_fr fr_LawReader_openAll g0 g → K40 g) (hK94 : ∀ (g : zi_M), zk_I g → zk_fr fr_LawReader_openAll g0 g → K94 g) (hQ : ∀ (v : Int) (g' : zi_M), zk_I g' → zk_fr fr_LawReader_openAll g0 g' → (0 ≤ v ∧ v ≤ 1) → Q v g') : w_LawReader_openAll_b31 l2 l3 g H K29 K40 K94 Q := by
  unfold w_LawReader_openAll_b31
  have m_9 : 0 ≤ (g 212 2) ∧ (g 212 2) ≤ 8 := I 212 2
  refine ⟨⟨by omega, by omega⟩, ?_⟩
  refine ⟨fun c24 => ?_, fun c24 => ?_⟩
  · intro g6 e_10
    have I_11 : zk_I g6 := by rw [e_10]; exact zk_upd (L := 0) (H := 8) rfl rfl I ⟨by omega, by omega⟩
    have F_12 : zk_fr fr_LawReader_openAll g0 g6 := by rw [e_10]; exact zk_fu F (by unfold fr_LawReader_openAll; omega)
    refine ⟨⟨by omega, by omega⟩, ?_⟩
    refine ⟨fun c23 => ?_, fun c23 => ?_⟩
    · exact k_LawReader_openAll_b70 I_11 F_12 ⟨by omega, by omega⟩ ⟨by omega, by omega⟩ M (by omega) hH hK29 hK40 hK94 hQ
    · have m_28 : 0 ≤ (g6 212 3) ∧ (g6 212 3) ≤ 8 := I_11 212 3
      have m_29 : g6 212 3 = g 212 3 := by rw [e_10]; exact zi_u_ni (by decide)
      have m_30 : 0 ≤ (g 212 3) ∧ (g 212 3) ≤ 8 := I 212 3
      intro g22 e_25
      have I_26 : zk_I g22 := by rw [e_25]; exact zk_upd (L := 0) (H := 8) rfl rfl I_11 ⟨by omega, by omega⟩
      have F_27 : zk_fr fr_LawReader_openAll g0 g22 := by rw [e_25]; exact zk_fu F_12 (by unfold fr_LawReader_openAll; omega)
      exact k_LawReader_openAll_b70 I_26 F_27 ⟨by omega, by omega⟩ ⟨by omega, by omega⟩ M (by omega) hH hK29 hK40 hK94 hQ
  · exact hK40 _ I F
set_option maxRecDepth 100000 in
set_option maxHeartbeats 400000 in
theorem k_LawReader_openAll_l2 {K29 : zi_M → Prop} {K40 : zi_M → Prop} {K94 : zi_M → Prop} {Q : Int → zi_M → Prop} {g0 : zi_M} (hK29 : ∀ (g : zi_M), zk_I g → zk_fr fr_LawReader_openAll g0 g → K29 g) (hK40 : ∀ (g : zi_M), zk_I g → zk_fr fr_LawReader_openAll g0 g → K40 g) (hK94 : ∀ (g : zi_M), zk_I g → zk_fr fr_LawReader_openAll g0 g → K94 g) (hQ : ∀ (v : Int) (g' : zi_M), zk_I g' → zk_fr fr_LawReader_openAll g0 g' → (0 ≤ v ∧ v ≤ 1) → Q v g') : ∀ (n : Nat) {l2 : Int} {g : zi_M}, zk_I g → zk_fr fr_LawReader_openAll g0 g → (0 ≤ l2 ∧ l2 ≤ 9) → 9 - l2 < (n : Int) → w_LawReader_openAll_l2 K29 K40 K94 Q n l2 g
  | 0, l2, g, I, F, b0, hm => by exfalso; omega
  | n + 1, l2, g, I, F, b0, hm => by
    unfold w_LawReader_openAll_l2
    refine ⟨⟨by omega, by omega⟩, ?_⟩
    refine ⟨fun c31 => ?_, fun c31 => ?_⟩
    · exact hK94 _ I F
    · have m_5 : 0 ≤ (g 191 4) ∧ (g 191 4) ≤ 401 := I 191 4
      have m_6 : 0 ≤ (g 191 3) ∧ (g 191 3) ≤ 401 := I 191 3
      have m_7 : 0 ≤ (g 192 (g 191 4)) ∧ (g 192 (g 191 4)) ≤ 4 := I 192 (g 191 4)
      have m_8 : (-1) ≤ (g 193 (g 191 4)) ∧ (g 193 (g 191 4)) ≤ 9999 := I 193 (g 191 4)
      refine k_Tokens_isAt I ⟨by omega, by omega⟩ ⟨by omega, by omega⟩ (fun v2 b_1 b_2 b_3 b_4 => ?_)
      refine ⟨fun c30 => ?_, fun c30 => ?_⟩
      · exact k_LawReader_openAll_b31 I F ⟨by omega, by omega⟩ ⟨by omega, by omega⟩ (n : Int) (by omega) (fun _ _ I F b0 hm => k_LawReader_openAll_l2 hK29 hK40 hK94 hQ n I F b0 hm) hK29 hK40 hK94 hQ
      · refine k_Tokens_keyword I (fun v25 b_31 b_32 b_33 => ?_)
        refine ⟨⟨by omega, by omega⟩, ?_⟩
        refine ⟨fun c29 => ?_, fun c29 => ?_⟩
        · exact k_LawReader_openAll_b31 I F ⟨by omega, by omega⟩ ⟨by omega, by omega⟩ (n : Int) (by omega) (fun _ _ I F b0 hm => k_LawReader_openAll_l2 hK29 hK40 hK94 hQ n I F b0 hm) hK29 hK40 hK94 hQ
        · exact hK29 _ I F
set_option maxRecDepth 100000 in
set_option maxHeartbeats 400000 in
theorem k_LawReader_openAll {g : zi_M} {Q : Int → zi_M → Prop} (I : zk_I g) (hQ : ∀ (v : Int) (g' : zi_M), zk_I g' → zk_fr fr_LawReader_openAll g g' → (0 ≤ v ∧ v ≤ 1) → Q v g') : w_LawReader_openAll g Q := by
  unfold w_LawReader_openAll
  refine ⟨((9 - 0).toNat + 1), k_LawReader_openAll_l2 (fun g32 I_34 F_35 => ?_) (fun g33 I_36 F_37 => ?_) (fun g37 I_42 F_43 => ?_) hQ ((9 - 0).toNat + 1) I (zk_f0 _) ⟨by omega, by omega⟩ (by omega)⟩
  · exact hQ _ _ I_34 F_35 ⟨by omega, by omega⟩
  · refine k_Tokens_refuse I_36 ⟨by omega, by omega⟩ (fun v34 g35 I_39 F_40 b_38 => ?_)
    have F_41 : zk_fr fr_LawReader_openAll g g35 := zk_ft F_37 F_40 (by intro a i h; unfold fr_Tokens_refuse at h; unfold fr_LawReader_openAll; omega)
    exact hQ _ _ I_39 F_41 ⟨by omega, by omega⟩
  · exact hQ _ _ I_42 F_43 ⟨by omega, by omega⟩
-- SpoutNews$LawReader.comparison(LSpoutNews$Tokens;LSpoutNews$Law;)Z
def fr_LawReader_comparison (a : Nat) (i : Int) : Prop := a = 197 ∨ a = 198 ∨ (a = 191 ∧ i = 4) ∨ (a = 191 ∧ i = 5) ∨ (a = 191 ∧ i = 6) ∨ (a = 196 ∧ i = 2)
set_option maxRecDepth 100000 in
set_option maxHeartbeats 400000 in
theorem k_LawReader_comparison_b57 {s0 : Int} {Q : Int → zi_M → Prop} {g : zi_M} {g0 : zi_M} (I : zk_I g) (F : zk_fr fr_LawReader_comparison g0 g) (ps0 : (-1) ≤ s0 ∧ s0 ≤ 8) (hQ : ∀ (v : Int) (g' : zi_M), zk_I g' → zk_fr fr_LawReader_comparison g0 g' → (0 ≤ v ∧ v ≤ 1) → Q v g') : w_LawReader_comparison_b57 s0 g Q := by
  unfold w_LawReader_comparison_b57
  refine ⟨⟨by omega, by omega⟩, ?_⟩
  refine ⟨fun c27 => ?_, fun c27 => ?_⟩
  · refine k_Tokens_step I (fun g15 I_27 F_28 => ?_)
    have F_29 : zk_fr fr_LawReader_comparison g0 g15 := zk_ft F F_28 (by intro a i h; unfold fr_Tokens_step at h; unfold fr_LawReader_comparison; omega)
    refine k_LawReader_sum I_27 (fun v17 g18 I_31 F_32 b_30 => ?_)
    have F_33 : zk_fr fr_LawReader_comparison g0 g18 := zk_ft F_29 F_32 (by intro a i h; unfold fr_LawReader_sum at h; unfold fr_LawReader_comparison; omega)
    refine ⟨fun c23 => ?_, fun c23 => ?_⟩
    · refine k_Law_add I_31 ⟨by omega, by omega⟩ ⟨by omega, by omega⟩ (fun g21 I_34 F_35 => ?_)
      have F_36 : zk_fr fr_LawReader_comparison g0 g21 := zk_ft F_33 F_35 (by intro a i h; unfold fr_Law_add at h; unfold fr_LawReader_comparison; omega)
      exact hQ _ _ I_34 F_36 ⟨by omega, by omega⟩
    · exact hQ _ _ I_31 F_33 ⟨by omega, by omega⟩
  · refine k_Tokens_refuse I ⟨by omega, by omega⟩ (fun v24 g25 I_38 F_39 b_37 => ?_)
    have F_40 : zk_fr fr_LawReader_comparison g0 g25 := zk_ft F F_39 (by intro a i h; unfold fr_Tokens_refuse at h; unfold fr_LawReader_comparison; omega)
    exact hQ _ _ I_38 F_40 ⟨by omega, by omega⟩
set_option maxRecDepth 100000 in
set_option maxHeartbeats 400000 in
theorem k_LawReader_comparison {g : zi_M} {Q : Int → zi_M → Prop} (I : zk_I g) (hQ : ∀ (v : Int) (g' : zi_M), zk_I g' → zk_fr fr_LawReader_comparison g g' → (0 ≤ v ∧ v ≤ 1) → Q v g') : w_LawReader_comparison g Q := by
  unfold w_LawReader_comparison
  refine k_LawReader_sum I (fun v1 g2 I_2 F_3 b_1 => ?_)
  have F_4 : zk_fr fr_LawReader_comparison g g2 := zk_ft (zk_f0 _) F_3 (by intro a i h; unfold fr_LawReader_sum at h; unfold fr_LawReader_comparison; omega)
  refine ⟨fun c31 => ?_, fun c31 => ?_⟩
  · have m_9 : 0 ≤ (g2 191 4) ∧ (g2 191 4) ≤ 401 := I_2 191 4
    have m_10 : 0 ≤ (g2 191 3) ∧ (g2 191 3) ≤ 401 := I_2 191 3
    have m_11 : g2 191 3 = g 191 3 := F_3 _ _ (by unfold fr_LawReader_sum; omega)
    have m_12 : 0 ≤ (g 191 3) ∧ (g 191 3) ≤ 401 := I 191 3
    have m_13 : 0 ≤ (g2 192 (g2 191 4)) ∧ (g2 192 (g2 191 4)) ≤ 4 := I_2 192 (g2 191 4)
    have m_14 : g2 192 (g2 191 4) = g 192 (g2 191 4) := F_3 _ _ (by unfold fr_LawReader_sum; omega)
    have m_15 : 0 ≤ (g 192 (g2 191 4)) ∧ (g 192 (g2 191 4)) ≤ 4 := I 192 (g2 191 4)
    have m_16 : (-1) ≤ (g2 193 (g2 191 4)) ∧ (g2 193 (g2 191 4)) ≤ 9999 := I_2 193 (g2 191 4)
    have m_17 : g2 193 (g2 191 4) = g 193 (g2 191 4) := F_3 _ _ (by unfold fr_LawReader_sum; omega)
    have m_18 : (-1) ≤ (g 193 (g2 191 4)) ∧ (g 193 (g2 191 4)) ≤ 9999 := I 193 (g2 191 4)
    refine k_Tokens_isAt I_2 ⟨by omega, by omega⟩ ⟨by omega, by omega⟩ (fun v4 b_5 b_6 b_7 b_8 => ?_)
    refine ⟨fun c30 => ?_, fun c30 => ?_⟩
    · refine k_Tokens_isAt I_2 ⟨by omega, by omega⟩ ⟨by omega, by omega⟩ (fun v7 b_19 b_20 b_21 b_22 => ?_)
      refine ⟨fun c29 => ?_, fun c29 => ?_⟩
      · refine k_Tokens_isAt I_2 ⟨by omega, by omega⟩ ⟨by omega, by omega⟩ (fun v10 b_23 b_24 b_25 b_26 => ?_)
        refine ⟨fun c28 => ?_, fun c28 => ?_⟩
        · exact k_LawReader_comparison_b57 I_2 F_4 ⟨by omega, by omega⟩ hQ
        · exact k_LawReader_comparison_b57 I_2 F_4 ⟨by omega, by omega⟩ hQ
      · exact k_LawReader_comparison_b57 I_2 F_4 ⟨by omega, by omega⟩ hQ
    · exact k_LawReader_comparison_b57 I_2 F_4 ⟨by omega, by omega⟩ hQ
  · exact hQ _ _ I_2 F_4 ⟨by omega, by omega⟩
-- SpoutNews$LawReader.settleNots(LSpoutNews$Law;)V
def fr_LawReader_settleNots (a : Nat) (i : Int) : Prop := a = 197 ∨ a = 198 ∨ (a = 196 ∧ i = 2) ∨ (a = 212 ∧ i = 1) ∨ (a = 212 ∧ i = 2)
set_option maxRecDepth 100000 in
set_option maxHeartbeats 400000 in
theorem k_LawReader_settleNots_l2 {K64 : zi_M → Prop} {Q : Int → zi_M → Prop} {g0 : zi_M} (hK64 : ∀ (g : zi_M), zk_I g → zk_fr fr_LawReader_settleNots g0 g → K64 g) (hQ : ∀ g' : zi_M, zk_I g' → zk_fr fr_LawReader_settleNots g0 g' → Q 0 g') : ∀ (n : Nat) {l2 : Int} {g : zi_M}, zk_I g → zk_fr fr_LawReader_settleNots g0 g → (0 ≤ l2 ∧ l2 ≤ 8) → 8 - l2 < (n : Int) → w_LawReader_settleNots_l2 K64 Q n l2 g
  | 0, l2, g, I, F, b0, hm => by exfalso; omega
  | n + 1, l2, g, I, F, b0, hm => by
    unfold w_LawReader_settleNots_l2
    refine ⟨⟨by omega, by omega⟩, ?_⟩
    refine ⟨fun c12 => ?_, fun c12 => ?_⟩
    · exact hK64 _ I F
    · have m_1 : 0 ≤ (g 212 1) ∧ (g 212 1) ≤ 40 := I 212 1
      refine ⟨⟨by omega, by omega⟩, ?_⟩
      refine ⟨fun c11 => ?_, fun c11 => ?_⟩
      · exact hK64 _ I F
      · refine ⟨⟨by omega, by omega⟩, ?_⟩
        have m_2 : (-2147483648) ≤ (g 213 ((g 212 1) - 1)) ∧ (g 213 ((g 212 1) - 1)) ≤ 2147483647 := I 213 ((g 212 1) - 1)
        refine ⟨⟨by omega, by omega⟩, ?_⟩
        refine ⟨fun c10 => ?_, fun c10 => ?_⟩
        · exact hK64 _ I F
        · refine k_Law_add I ⟨by omega, by omega⟩ ⟨by omega, by omega⟩ (fun g6 I_3 F_4 => ?_)
          have F_5 : zk_fr fr_LawReader_settleNots g0 g6 := zk_ft F F_4 (by intro a i h; unfold fr_Law_add at h; unfold fr_LawReader_settleNots; omega)
          have m_9 : 0 ≤ (g6 212 1) ∧ (g6 212 1) ≤ 40 := I_3 212 1
          have m_10 : g6 212 1 = g 212 1 := F_4 _ _ (by unfold fr_Law_add; omega)
          intro g8 e_6
          have I_7 : zk_I g8 := by rw [e_6]; exact zk_upd (L := 0) (H := 40) rfl rfl I_3 ⟨by omega, by omega⟩
          have F_8 : zk_fr fr_LawReader_settleNots g0 g8 := by rw [e_6]; exact zk_fu F_5 (by unfold fr_LawReader_settleNots; omega)
          have m_14 : 0 ≤ (g8 212 2) ∧ (g8 212 2) ≤ 8 := I_7 212 2
          have m_15 : g8 212 2 = g6 212 2 := by rw [e_6]; exact zi_u_ni (by decide)
          have m_16 : 0 ≤ (g6 212 2) ∧ (g6 212 2) ≤ 8 := I_3 212 2
          have m_17 : g6 212 2 = g 212 2 := F_4 _ _ (by unfold fr_Law_add; omega)
          have m_18 : 0 ≤ (g 212 2) ∧ (g 212 2) ≤ 8 := I 212 2
          intro g9 e_11
          have I_12 : zk_I g9 := by rw [e_11]; exact zk_upd (L := 0) (H := 8) rfl rfl I_7 ⟨by omega, by omega⟩
          have F_13 : zk_fr fr_LawReader_settleNots g0 g9 := by rw [e_11]; exact zk_fu F_8 (by unfold fr_LawReader_settleNots; omega)
          exact k_LawReader_settleNots_l2 hK64 hQ n I_12 F_13 ⟨by omega, by omega⟩ (by omega)
set_option maxRecDepth 100000 in
set_option maxHeartbeats 400000 in
theorem k_LawReader_settleNots {g : zi_M} {Q : Int → zi_M → Prop} (I : zk_I g) (hQ : ∀ g' : zi_M, zk_I g' → zk_fr fr_LawReader_settleNots g g' → Q 0 g') : w_LawReader_settleNots g Q := by
  unfold w_LawReader_settleNots
  refine ⟨((8 - 0).toNat + 1), k_LawReader_settleNots_l2 (fun g13 I_19 F_20 => ?_) hQ ((8 - 0).toNat + 1) I (zk_f0 _) ⟨by omega, by omega⟩ (by omega)⟩
  exact hQ _ I_19 F_20
-- SpoutNews$LawReader.settleBinary(LSpoutNews$Law;I)V
def fr_LawReader_settleBinary (a : Nat) (i : Int) : Prop := a = 197 ∨ a = 198 ∨ (a = 196 ∧ i = 2) ∨ (a = 212 ∧ i = 1)
set_option maxRecDepth 100000 in
set_option maxHeartbeats 400000 in
theorem k_LawReader_settleBinary_b48 {l2 : Int} {l3 : Int} {l4 : Int} {H : Int → zi_M → Prop} {K45 : zi_M → Prop} {K82 : zi_M → Prop} {Q : Int → zi_M → Prop} {g : zi_M} {g0 : zi_M} (I : zk_I g) (F : zk_fr fr_LawReader_settleBinary g0 g) (p2 : (-1) ≤ l2 ∧ l2 ≤ 9999) (p3 : 0 ≤ l3 ∧ l3 ≤ 39) (p4 : 4 ≤ l4 ∧ l4 ≤ 5) (M : Int) (hM : 40 - l3 ≤ M) (hH : ∀ (m3 : Int) (g : zi_M), zk_I g → zk_fr fr_LawReader_settleBinary g0 g → (0 ≤ m3 ∧ m3 ≤ 40) → 40 - m3 < M → H m3 g) (hK45 : ∀ (g : zi_M), zk_I g → zk_fr fr_LawReader_settleBinary g0 g → K45 g) (hK82 : ∀ (g : zi_M), zk_I g → zk_fr fr_LawReader_settleBinary g0 g → K82 g) (hQ : ∀ g' : zi_M, zk_I g' → zk_fr fr_LawReader_settleBinary g0 g' → Q 0 g') : w_LawReader_settleBinary_b48 l2 l3 l4 g H K45 K82 Q := by
  unfold w_LawReader_settleBinary_b48
  refine ⟨⟨by omega, by omega⟩, ?_⟩
  refine ⟨fun c14 => ?_, fun c14 => ?_⟩
  · refine k_Law_add I ⟨by omega, by omega⟩ ⟨by omega, by omega⟩ (fun g7 I_3 F_4 => ?_)
    have F_5 : zk_fr fr_LawReader_settleBinary g0 g7 := zk_ft F F_4 (by intro a i h; unfold fr_Law_add at h; unfold fr_LawReader_settleBinary; omega)
    have m_9 : 0 ≤ (g7 212 1) ∧ (g7 212 1) ≤ 40 := I_3 212 1
    have m_10 : g7 212 1 = g 212 1 := F_4 _ _ (by unfold fr_Law_add; omega)
    have m_11 : 0 ≤ (g 212 1) ∧ (g 212 1) ≤ 40 := I 212 1
    intro g9 e_6
    have I_7 : zk_I g9 := by rw [e_6]; exact zk_upd (L := 0) (H := 40) rfl rfl I_3 ⟨by omega, by omega⟩
    have F_8 : zk_fr fr_LawReader_settleBinary g0 g9 := by rw [e_6]; exact zk_fu F_5 (by unfold fr_LawReader_settleBinary; omega)
    exact hH _ _ I_7 F_8 ⟨by omega, by omega⟩ (by omega)
  · refine k_Law_add I ⟨by omega, by omega⟩ ⟨by omega, by omega⟩ (fun g11 I_12 F_13 => ?_)
    have F_14 : zk_fr fr_LawReader_settleBinary g0 g11 := zk_ft F F_13 (by intro a i h; unfold fr_Law_add at h; unfold fr_LawReader_settleBinary; omega)
    have m_18 : 0 ≤ (g11 212 1) ∧ (g11 212 1) ≤ 40 := I_12 212 1
    have m_19 : g11 212 1 = g 212 1 := F_13 _ _ (by unfold fr_Law_add; omega)
    have m_20 : 0 ≤ (g 212 1) ∧ (g 212 1) ≤ 40 := I 212 1
    intro g13 e_15
    have I_16 : zk_I g13 := by rw [e_15]; exact zk_upd (L := 0) (H := 40) rfl rfl I_12 ⟨by omega, by omega⟩
    have F_17 : zk_fr fr_LawReader_settleBinary g0 g13 := by rw [e_15]; exact zk_fu F_14 (by unfold fr_LawReader_settleBinary; omega)
    exact hH _ _ I_16 F_17 ⟨by omega, by omega⟩ (by omega)
set_option maxRecDepth 100000 in
set_option maxHeartbeats 400000 in
theorem k_LawReader_settleBinary_l2 {l2 : Int} {K45 : zi_M → Prop} {K82 : zi_M → Prop} {Q : Int → zi_M → Prop} {g0 : zi_M} (q2 : (-1) ≤ l2 ∧ l2 ≤ 9999) (hK45 : ∀ (g : zi_M), zk_I g → zk_fr fr_LawReader_settleBinary g0 g → K45 g) (hK82 : ∀ (g : zi_M), zk_I g → zk_fr fr_LawReader_settleBinary g0 g → K82 g) (hQ : ∀ g' : zi_M, zk_I g' → zk_fr fr_LawReader_settleBinary g0 g' → Q 0 g') : ∀ (n : Nat) {l3 : Int} {g : zi_M}, zk_I g → zk_fr fr_LawReader_settleBinary g0 g → (0 ≤ l3 ∧ l3 ≤ 40) → 40 - l3 < (n : Int) → w_LawReader_settleBinary_l2 l2 K45 K82 Q n l3 g
  | 0, l3, g, I, F, b0, hm => by exfalso; omega
  | n + 1, l3, g, I, F, b0, hm => by
    unfold w_LawReader_settleBinary_l2
    refine ⟨⟨by omega, by omega⟩, ?_⟩
    refine ⟨fun c20 => ?_, fun c20 => ?_⟩
    · exact hK82 _ I F
    · have m_1 : 0 ≤ (g 212 1) ∧ (g 212 1) ≤ 40 := I 212 1
      refine ⟨⟨by omega, by omega⟩, ?_⟩
      refine ⟨fun c19 => ?_, fun c19 => ?_⟩
      · exact hK82 _ I F
      · refine ⟨⟨by omega, by omega⟩, ?_⟩
        have m_2 : (-2147483648) ≤ (g 213 ((g 212 1) - 1)) ∧ (g 213 ((g 212 1) - 1)) ≤ 2147483647 := I 213 ((g 212 1) - 1)
        refine ⟨⟨by omega, by omega⟩, ?_⟩
        refine ⟨fun c18 => ?_, fun c18 => ?_⟩
        · exact k_LawReader_settleBinary_b48 I F ⟨by omega, by omega⟩ ⟨by omega, by omega⟩ ⟨by omega, by omega⟩ (n : Int) (by omega) (fun _ _ I F b0 hm => k_LawReader_settleBinary_l2 q2 hK45 hK82 hQ n I F b0 hm) hK45 hK82 hQ
        · refine ⟨fun c17 => ?_, fun c17 => ?_⟩
          · exact hK82 _ I F
          · refine ⟨⟨by omega, by omega⟩, ?_⟩
            refine ⟨fun c16 => ?_, fun c16 => ?_⟩
            · exact k_LawReader_settleBinary_b48 I F ⟨by omega, by omega⟩ ⟨by omega, by omega⟩ ⟨by omega, by omega⟩ (n : Int) (by omega) (fun _ _ I F b0 hm => k_LawReader_settleBinary_l2 q2 hK45 hK82 hQ n I F b0 hm) hK45 hK82 hQ
            · exact hK45 _ I F
set_option maxRecDepth 100000 in
set_option maxHeartbeats 400000 in
theorem k_LawReader_settleBinary {l2 : Int} {g : zi_M} {Q : Int → zi_M → Prop} (I : zk_I g) (p2 : (-1) ≤ l2 ∧ l2 ≤ 9999) (hQ : ∀ g' : zi_M, zk_I g' → zk_fr fr_LawReader_settleBinary g g' → Q 0 g') : w_LawReader_settleBinary l2 g Q := by
  unfold w_LawReader_settleBinary
  refine ⟨((40 - 0).toNat + 1), k_LawReader_settleBinary_l2 (l2 := l2) ⟨by omega, by omega⟩ (fun g21 I_21 F_22 => ?_) (fun g22 I_23 F_24 => ?_) hQ ((40 - 0).toNat + 1) I (zk_f0 _) ⟨by omega, by omega⟩ (by omega)⟩
  · exact hQ _ I_21 F_22
  · exact hQ _ I_23 F_24
-- SpoutNews$LawReader.closeAll(LSpoutNews$Tokens;LSpoutNews$Law;)V
def fr_LawReader_closeAll (a : Nat) (i : Int) : Prop := a = 197 ∨ a = 198 ∨ (a = 191 ∧ i = 4) ∨ (a = 196 ∧ i = 2) ∨ (a = 212 ∧ i = 1) ∨ (a = 212 ∧ i = 2) ∨ (a = 212 ∧ i = 3)
set_option maxRecDepth 100000 in
set_option maxHeartbeats 400000 in
theorem k_LawReader_closeAll_l7 {K81 : zi_M → Prop} {Q : Int → zi_M → Prop} {g0 : zi_M} (hK81 : ∀ (g : zi_M), zk_I g → zk_fr fr_LawReader_closeAll g0 g → K81 g) (hQ : ∀ g' : zi_M, zk_I g' → zk_fr fr_LawReader_closeAll g0 g' → Q 0 g') : ∀ (n : Nat) {l3 : Int} {g : zi_M}, zk_I g → zk_fr fr_LawReader_closeAll g0 g → (0 ≤ l3 ∧ l3 ≤ 8) → 8 - l3 < (n : Int) → w_LawReader_closeAll_l7 K81 Q n l3 g
  | 0, l3, g, I, F, b0, hm => by exfalso; omega
  | n + 1, l3, g, I, F, b0, hm => by
    unfold w_LawReader_closeAll_l7
    refine ⟨⟨by omega, by omega⟩, ?_⟩
    refine ⟨fun c23 => ?_, fun c23 => ?_⟩
    · exact hK81 _ I F
    · have m_4 : 0 ≤ (g 212 3) ∧ (g 212 3) ≤ 8 := I 212 3
      refine ⟨⟨by omega, by omega⟩, ?_⟩
      refine ⟨fun c22 => ?_, fun c22 => ?_⟩
      · exact hK81 _ I F
      · have m_9 : 0 ≤ (g 191 4) ∧ (g 191 4) ≤ 401 := I 191 4
        have m_10 : 0 ≤ (g 191 3) ∧ (g 191 3) ≤ 401 := I 191 3
        have m_11 : 0 ≤ (g 192 (g 191 4)) ∧ (g 192 (g 191 4)) ≤ 4 := I 192 (g 191 4)
        have m_12 : (-1) ≤ (g 193 (g 191 4)) ∧ (g 193 (g 191 4)) ≤ 9999 := I 193 (g 191 4)
        refine k_Tokens_isAt I ⟨by omega, by omega⟩ ⟨by omega, by omega⟩ (fun v6 b_5 b_6 b_7 b_8 => ?_)
        refine ⟨fun c21 => ?_, fun c21 => ?_⟩
        · exact hK81 _ I F
        · refine k_LawReader_settleBinary I ⟨by omega, by omega⟩ (fun g10 I_13 F_14 => ?_)
          have F_15 : zk_fr fr_LawReader_closeAll g0 g10 := zk_ft F F_14 (by intro a i h; unfold fr_LawReader_settleBinary at h; unfold fr_LawReader_closeAll; omega)
          have m_19 : 0 ≤ (g10 212 1) ∧ (g10 212 1) ≤ 40 := I_13 212 1
          intro g12 e_16
          have I_17 : zk_I g12 := by rw [e_16]; exact zk_upd (L := 0) (H := 40) rfl rfl I_13 ⟨by omega, by omega⟩
          have F_18 : zk_fr fr_LawReader_closeAll g0 g12 := by rw [e_16]; exact zk_fu F_15 (by unfold fr_LawReader_closeAll; omega)
          have m_23 : 0 ≤ (g12 212 3) ∧ (g12 212 3) ≤ 8 := I_17 212 3
          have m_24 : g12 212 3 = g10 212 3 := by rw [e_16]; exact zi_u_ni (by decide)
          have m_25 : 0 ≤ (g10 212 3) ∧ (g10 212 3) ≤ 8 := I_13 212 3
          have m_26 : g10 212 3 = g 212 3 := F_14 _ _ (by unfold fr_LawReader_settleBinary; omega)
          intro g13 e_20
          have I_21 : zk_I g13 := by rw [e_20]; exact zk_upd (L := 0) (H := 8) rfl rfl I_17 ⟨by omega, by omega⟩
          have F_22 : zk_fr fr_LawReader_closeAll g0 g13 := by rw [e_20]; exact zk_fu F_18 (by unfold fr_LawReader_closeAll; omega)
          have m_30 : 0 ≤ (g13 212 2) ∧ (g13 212 2) ≤ 8 := I_21 212 2
          have m_31 : g13 212 2 = g12 212 2 := by rw [e_20]; exact zi_u_ni (by decide)
          have m_32 : 0 ≤ (g12 212 2) ∧ (g12 212 2) ≤ 8 := I_17 212 2
          have m_33 : g12 212 2 = g10 212 2 := by rw [e_16]; exact zi_u_ni (by decide)
          have m_34 : 0 ≤ (g10 212 2) ∧ (g10 212 2) ≤ 8 := I_13 212 2
          have m_35 : g10 212 2 = g 212 2 := F_14 _ _ (by unfold fr_LawReader_settleBinary; omega)
          have m_36 : 0 ≤ (g 212 2) ∧ (g 212 2) ≤ 8 := I 212 2
          intro g14 e_27
          have I_28 : zk_I g14 := by rw [e_27]; exact zk_upd (L := 0) (H := 8) rfl rfl I_21 ⟨by omega, by omega⟩
          have F_29 : zk_fr fr_LawReader_closeAll g0 g14 := by rw [e_27]; exact zk_fu F_22 (by unfold fr_LawReader_closeAll; omega)
          refine k_Tokens_step I_28 (fun g16 I_37 F_38 => ?_)
          have F_39 : zk_fr fr_LawReader_closeAll g0 g16 := zk_ft F_29 F_38 (by intro a i h; unfold fr_Tokens_step at h; unfold fr_LawReader_closeAll; omega)
          refine k_LawReader_settleNots I_37 (fun g19 I_40 F_41 => ?_)
          have F_42 : zk_fr fr_LawReader_closeAll g0 g19 := zk_ft F_39 F_41 (by intro a i h; unfold fr_LawReader_settleNots at h; unfold fr_LawReader_closeAll; omega)
          exact k_LawReader_closeAll_l7 hK81 hQ n I_40 F_42 ⟨by omega, by omega⟩ (by omega)
set_option maxRecDepth 100000 in
set_option maxHeartbeats 400000 in
theorem k_LawReader_closeAll {g : zi_M} {Q : Int → zi_M → Prop} (I : zk_I g) (hQ : ∀ g' : zi_M, zk_I g' → zk_fr fr_LawReader_closeAll g g' → Q 0 g') : w_LawReader_closeAll g Q := by
  unfold w_LawReader_closeAll
  refine k_LawReader_settleNots I (fun g2 I_1 F_2 => ?_)
  have F_3 : zk_fr fr_LawReader_closeAll g g2 := zk_ft (zk_f0 _) F_2 (by intro a i h; unfold fr_LawReader_settleNots at h; unfold fr_LawReader_closeAll; omega)
  refine ⟨((8 - 0).toNat + 1), k_LawReader_closeAll_l7 (fun g24 I_43 F_44 => ?_) hQ ((8 - 0).toNat + 1) I_1 F_3 ⟨by omega, by omega⟩ (by omega)⟩
  exact hQ _ I_43 F_44
-- SpoutNews$LawReader.conditions(LSpoutNews$Tokens;LSpoutNews$Law;)Z
def fr_LawReader_conditions (a : Nat) (i : Int) : Prop := a = 197 ∨ a = 198 ∨ a = 213 ∨ (a = 191 ∧ i = 4) ∨ (a = 191 ∧ i = 5) ∨ (a = 191 ∧ i = 6) ∨ (a = 196 ∧ i = 2) ∨ (a = 212 ∧ i = 1) ∨ (a = 212 ∧ i = 2) ∨ (a = 212 ∧ i = 3)
set_option maxRecDepth 100000 in
set_option maxHeartbeats 400000 in
theorem k_LawReader_conditions_b68 {l3 : Int} {H : Int → zi_M → Prop} {K41 : zi_M → Prop} {K65 : zi_M → Prop} {K97 : zi_M → Prop} {Q : Int → zi_M → Prop} {g : zi_M} {g0 : zi_M} (I : zk_I g) (F : zk_fr fr_LawReader_conditions g0 g) (p3 : 0 ≤ l3 ∧ l3 ≤ 400) (M : Int) (hM : 401 - l3 ≤ M) (hH : ∀ (m3 : Int) (g : zi_M), zk_I g → zk_fr fr_LawReader_conditions g0 g → (0 ≤ m3 ∧ m3 ≤ 401) → 401 - m3 < M → H m3 g) (hK41 : ∀ (g : zi_M), zk_I g → zk_fr fr_LawReader_conditions g0 g → K41 g) (hK65 : ∀ (g : zi_M), zk_I g → zk_fr fr_LawReader_conditions g0 g → K65 g) (hK97 : ∀ (g : zi_M), zk_I g → zk_fr fr_LawReader_conditions g0 g → K97 g) (hQ : ∀ (v : Int) (g' : zi_M), zk_I g' → zk_fr fr_LawReader_conditions g0 g' → (0 ≤ v ∧ v ≤ 1) → Q v g') : w_LawReader_conditions_b68 l3 g H K41 K65 K97 Q := by
  unfold w_LawReader_conditions_b68
  have m_49 : 0 ≤ (g 191 4) ∧ (g 191 4) ≤ 401 := I 191 4
  have m_50 : 0 ≤ (g 191 3) ∧ (g 191 3) ≤ 401 := I 191 3
  have m_51 : 0 ≤ (g 192 (g 191 4)) ∧ (g 192 (g 191 4)) ≤ 4 := I 192 (g 191 4)
  have m_52 : (-1) ≤ (g 193 (g 191 4)) ∧ (g 193 (g 191 4)) ≤ 9999 := I 193 (g 191 4)
  refine k_Tokens_keyword I (fun v18 b_46 b_47 b_48 => ?_)
  refine k_LawReader_settleBinary I ⟨by omega, by omega⟩ (fun g22 I_53 F_54 => ?_)
  have F_55 : zk_fr fr_LawReader_conditions g0 g22 := zk_ft F F_54 (by intro a i h; unfold fr_LawReader_settleBinary at h; unfold fr_LawReader_conditions; omega)
  refine k_LawReader_push I_53 ⟨by omega, by omega⟩ (fun g25 I_56 F_57 => ?_)
  have F_58 : zk_fr fr_LawReader_conditions g0 g25 := zk_ft F_55 F_57 (by intro a i h; unfold fr_LawReader_push at h; unfold fr_LawReader_conditions; omega)
  refine k_Tokens_step I_56 (fun g28 I_59 F_60 => ?_)
  have F_61 : zk_fr fr_LawReader_conditions g0 g28 := zk_ft F_58 F_60 (by intro a i h; unfold fr_Tokens_step at h; unfold fr_LawReader_conditions; omega)
  exact hH _ _ I_59 F_61 ⟨by omega, by omega⟩ (by omega)
set_option maxRecDepth 100000 in
set_option maxHeartbeats 400000 in
theorem k_LawReader_conditions_l17 {K41 : zi_M → Prop} {K65 : zi_M → Prop} {K97 : zi_M → Prop} {Q : Int → zi_M → Prop} {g0 : zi_M} (hK41 : ∀ (g : zi_M), zk_I g → zk_fr fr_LawReader_conditions g0 g → K41 g) (hK65 : ∀ (g : zi_M), zk_I g → zk_fr fr_LawReader_conditions g0 g → K65 g) (hK97 : ∀ (g : zi_M), zk_I g → zk_fr fr_LawReader_conditions g0 g → K97 g) (hQ : ∀ (v : Int) (g' : zi_M), zk_I g' → zk_fr fr_LawReader_conditions g0 g' → (0 ≤ v ∧ v ≤ 1) → Q v g') : ∀ (n : Nat) {l3 : Int} {g : zi_M}, zk_I g → zk_fr fr_LawReader_conditions g0 g → (0 ≤ l3 ∧ l3 ≤ 401) → 401 - l3 < (n : Int) → w_LawReader_conditions_l17 K41 K65 K97 Q n l3 g
  | 0, l3, g, I, F, b0, hm => by exfalso; omega
  | n + 1, l3, g, I, F, b0, hm => by
    unfold w_LawReader_conditions_l17
    refine ⟨⟨by omega, by omega⟩, ?_⟩
    refine ⟨fun c38 => ?_, fun c38 => ?_⟩
    · exact hK97 _ I F
    · refine k_LawReader_openAll I (fun v5 g6 I_11 F_12 b_10 => ?_)
      have F_13 : zk_fr fr_LawReader_conditions g0 g6 := zk_ft F F_12 (by intro a i h; unfold fr_LawReader_openAll at h; unfold fr_LawReader_conditions; omega)
      refine ⟨fun c37 => ?_, fun c37 => ?_⟩
      · exact hK41 _ I_11 F_13
      · refine k_LawReader_comparison I_11 (fun v8 g9 I_15 F_16 b_14 => ?_)
        have F_17 : zk_fr fr_LawReader_conditions g0 g9 := zk_ft F_13 F_16 (by intro a i h; unfold fr_LawReader_comparison at h; unfold fr_LawReader_conditions; omega)
        refine ⟨fun c36 => ?_, fun c36 => ?_⟩
        · refine k_LawReader_closeAll I_15 (fun g12 I_18 F_19 => ?_)
          have F_20 : zk_fr fr_LawReader_conditions g0 g12 := zk_ft F_17 F_19 (by intro a i h; unfold fr_LawReader_closeAll at h; unfold fr_LawReader_conditions; omega)
          have m_24 : 0 ≤ (g12 191 4) ∧ (g12 191 4) ≤ 401 := I_18 191 4
          have m_25 : 0 ≤ (g12 191 3) ∧ (g12 191 3) ≤ 401 := I_18 191 3
          have m_26 : g12 191 3 = g9 191 3 := F_19 _ _ (by unfold fr_LawReader_closeAll; omega)
          have m_27 : 0 ≤ (g9 191 3) ∧ (g9 191 3) ≤ 401 := I_15 191 3
          have m_28 : g9 191 3 = g6 191 3 := F_16 _ _ (by unfold fr_LawReader_comparison; omega)
          have m_29 : 0 ≤ (g6 191 3) ∧ (g6 191 3) ≤ 401 := I_11 191 3
          have m_30 : g6 191 3 = g 191 3 := F_12 _ _ (by unfold fr_LawReader_openAll; omega)
          have m_31 : 0 ≤ (g 191 3) ∧ (g 191 3) ≤ 401 := I 191 3
          have m_32 : 0 ≤ (g12 192 (g12 191 4)) ∧ (g12 192 (g12 191 4)) ≤ 4 := I_18 192 (g12 191 4)
          have m_33 : g12 192 (g12 191 4) = g9 192 (g12 191 4) := F_19 _ _ (by unfold fr_LawReader_closeAll; omega)
          have m_34 : 0 ≤ (g9 192 (g12 191 4)) ∧ (g9 192 (g12 191 4)) ≤ 4 := I_15 192 (g12 191 4)
          have m_35 : g9 192 (g12 191 4) = g6 192 (g12 191 4) := F_16 _ _ (by unfold fr_LawReader_comparison; omega)
          have m_36 : 0 ≤ (g6 192 (g12 191 4)) ∧ (g6 192 (g12 191 4)) ≤ 4 := I_11 192 (g12 191 4)
          have m_37 : g6 192 (g12 191 4) = g 192 (g12 191 4) := F_12 _ _ (by unfold fr_LawReader_openAll; omega)
          have m_38 : 0 ≤ (g 192 (g12 191 4)) ∧ (g 192 (g12 191 4)) ≤ 4 := I 192 (g12 191 4)
          have m_39 : (-1) ≤ (g12 193 (g12 191 4)) ∧ (g12 193 (g12 191 4)) ≤ 9999 := I_18 193 (g12 191 4)
          have m_40 : g12 193 (g12 191 4) = g9 193 (g12 191 4) := F_19 _ _ (by unfold fr_LawReader_closeAll; omega)
          have m_41 : (-1) ≤ (g9 193 (g12 191 4)) ∧ (g9 193 (g12 191 4)) ≤ 9999 := I_15 193 (g12 191 4)
          have m_42 : g9 193 (g12 191 4) = g6 193 (g12 191 4) := F_16 _ _ (by unfold fr_LawReader_comparison; omega)
          have m_43 : (-1) ≤ (g6 193 (g12 191 4)) ∧ (g6 193 (g12 191 4)) ≤ 9999 := I_11 193 (g12 191 4)
          have m_44 : g6 193 (g12 191 4) = g 193 (g12 191 4) := F_12 _ _ (by unfold fr_LawReader_openAll; omega)
          have m_45 : (-1) ≤ (g 193 (g12 191 4)) ∧ (g 193 (g12 191 4)) ≤ 9999 := I 193 (g12 191 4)
          refine k_Tokens_keyword I_18 (fun v14 b_21 b_22 b_23 => ?_)
          refine ⟨⟨by omega, by omega⟩, ?_⟩
          refine ⟨fun c35 => ?_, fun c35 => ?_⟩
          · exact k_LawReader_conditions_b68 I_18 F_20 ⟨by omega, by omega⟩ (n : Int) (by omega) (fun _ _ I F b0 hm => k_LawReader_conditions_l17 hK41 hK65 hK97 hQ n I F b0 hm) hK41 hK65 hK97 hQ
          · refine k_Tokens_keyword I_18 (fun v30 b_62 b_63 b_64 => ?_)
            refine ⟨⟨by omega, by omega⟩, ?_⟩
            refine ⟨fun c34 => ?_, fun c34 => ?_⟩
            · exact k_LawReader_conditions_b68 I_18 F_20 ⟨by omega, by omega⟩ (n : Int) (by omega) (fun _ _ I F b0 hm => k_LawReader_conditions_l17 hK41 hK65 hK97 hQ n I F b0 hm) hK41 hK65 hK97 hQ
            · exact hK65 _ I_18 F_20
        · exact hK41 _ I_15 F_17
set_option maxRecDepth 100000 in
set_option maxHeartbeats 400000 in
theorem k_LawReader_conditions_b97 {Q : Int → zi_M → Prop} {g : zi_M} {g0 : zi_M} (I : zk_I g) (F : zk_fr fr_LawReader_conditions g0 g) (hQ : ∀ (v : Int) (g' : zi_M), zk_I g' → zk_fr fr_LawReader_conditions g0 g' → (0 ≤ v ∧ v ≤ 1) → Q v g') : w_LawReader_conditions_b97 g Q := by
  unfold w_LawReader_conditions_b97
  have m_69 : 0 ≤ (g 212 3) ∧ (g 212 3) ≤ 8 := I 212 3
  refine ⟨⟨by omega, by omega⟩, ?_⟩
  refine ⟨fun c48 => ?_, fun c48 => ?_⟩
  · refine k_LawReader_settleBinary I ⟨by omega, by omega⟩ (fun g43 I_70 F_71 => ?_)
    have F_72 : zk_fr fr_LawReader_conditions g0 g43 := zk_ft F F_71 (by intro a i h; unfold fr_LawReader_settleBinary at h; unfold fr_LawReader_conditions; omega)
    exact hQ _ _ I_70 F_72 ⟨by omega, by omega⟩
  · refine k_Tokens_refuse I ⟨by omega, by omega⟩ (fun v45 g46 I_74 F_75 b_73 => ?_)
    have F_76 : zk_fr fr_LawReader_conditions g0 g46 := zk_ft F F_75 (by intro a i h; unfold fr_Tokens_refuse at h; unfold fr_LawReader_conditions; omega)
    exact hQ _ _ I_74 F_76 ⟨by omega, by omega⟩
set_option maxRecDepth 100000 in
set_option maxHeartbeats 400000 in
theorem k_LawReader_conditions {g : zi_M} {Q : Int → zi_M → Prop} (I : zk_I g) (hQ : ∀ (v : Int) (g' : zi_M), zk_I g' → zk_fr fr_LawReader_conditions g g' → (0 ≤ v ∧ v ≤ 1) → Q v g') : w_LawReader_conditions g Q := by
  unfold w_LawReader_conditions
  intro g1 e_1
  have I_2 : zk_I g1 := by rw [e_1]; exact zk_upd (L := 0) (H := 40) rfl rfl I ⟨by omega, by omega⟩
  have F_3 : zk_fr fr_LawReader_conditions g g1 := by rw [e_1]; exact zk_fu (zk_f0 _) (by unfold fr_LawReader_conditions; omega)
  intro g2 e_4
  have I_5 : zk_I g2 := by rw [e_4]; exact zk_upd (L := 0) (H := 8) rfl rfl I_2 ⟨by omega, by omega⟩
  have F_6 : zk_fr fr_LawReader_conditions g g2 := by rw [e_4]; exact zk_fu F_3 (by unfold fr_LawReader_conditions; omega)
  intro g3 e_7
  have I_8 : zk_I g3 := by rw [e_7]; exact zk_upd (L := 0) (H := 8) rfl rfl I_5 ⟨by omega, by omega⟩
  have F_9 : zk_fr fr_LawReader_conditions g g3 := by rw [e_7]; exact zk_fu F_6 (by unfold fr_LawReader_conditions; omega)
  refine ⟨((401 - 0).toNat + 1), k_LawReader_conditions_l17 (fun g39 I_65 F_66 => ?_) (fun g40 I_67 F_68 => ?_) (fun g49 I_77 F_78 => ?_) hQ ((401 - 0).toNat + 1) I_8 F_9 ⟨by omega, by omega⟩ (by omega)⟩
  · exact hQ _ _ I_65 F_66 ⟨by omega, by omega⟩
  · exact k_LawReader_conditions_b97 I_67 F_68 hQ
  · exact k_LawReader_conditions_b97 I_77 F_78 hQ
