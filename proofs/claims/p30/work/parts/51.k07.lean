-- by program (wip/gen/mkz.py)
-- SpoutNews$LawReader.openAll(LSpoutNews$Tokens;)Z
def fr_LawReader_openAll (a : Nat) (i : Int) : Prop := a = 213 ∨ (a = 191 ∧ i = 4) ∨ (a = 191 ∧ i = 5) ∨ (a = 191 ∧ i = 6) ∨ (a = 212 ∧ i = 1) ∨ (a = 212 ∧ i = 2) ∨ (a = 212 ∧ i = 3)
set_option maxRecDepth 100000 in
set_option maxHeartbeats 400000 in
theorem k_LawReader_openAll {g : zi_M} {Q : Int → zi_M → Prop} (I : zk_I g) (hQ : ∀ (v : Int) (g' : zi_M), zk_I g' → zk_fr fr_LawReader_openAll g g' → (0 ≤ v ∧ v ≤ 1) → Q v g') : w_LawReader_openAll g Q := by
  sorry
-- SpoutNews$LawReader.comparison(LSpoutNews$Tokens;LSpoutNews$Law;)Z
def fr_LawReader_comparison (a : Nat) (i : Int) : Prop := a = 197 ∨ a = 198 ∨ (a = 191 ∧ i = 4) ∨ (a = 191 ∧ i = 5) ∨ (a = 191 ∧ i = 6) ∨ (a = 196 ∧ i = 2)
set_option maxRecDepth 100000 in
set_option maxHeartbeats 400000 in
theorem k_LawReader_comparison_b57 {s0 : Int} {Q : Int → zi_M → Prop} {g : zi_M} {g0 : zi_M} (I : zk_I g) (F : zk_fr fr_LawReader_comparison g0 g) (ps0 : (-1) ≤ s0 ∧ s0 ≤ 8) (hQ : ∀ (v : Int) (g' : zi_M), zk_I g' → zk_fr fr_LawReader_comparison g0 g' → (0 ≤ v ∧ v ≤ 1) → Q v g') : w_LawReader_comparison_b57 s0 g Q := by
  unfold w_LawReader_comparison_b57
  refine ⟨⟨by omega, by omega⟩, ?_⟩
  refine ⟨fun c27 => ?_, fun c27 => ?_⟩
  · refine k_Tokens_step I (fun g15 I_27 F_28 => ?_)
    have F_29 : zk_fr fr_LawReader_comparison g0 g15 := zk_ft F F_28 (fun a i => (fun h => (Or.inr (Or.inr (Or.inl h)))))
    refine k_LawReader_sum I_27 (fun v17 g18 I_31 F_32 b_30 => ?_)
    have F_33 : zk_fr fr_LawReader_comparison g0 g18 := zk_ft F_29 F_32 (fun a i => (fun h => Or.elim h (fun h => (Or.inl h)) (fun h => Or.elim h (fun h => (Or.inr (Or.inl h))) (fun h => Or.elim h (fun h => (Or.inr (Or.inr (Or.inl h)))) (fun h => Or.elim h (fun h => (Or.inr (Or.inr (Or.inr (Or.inl h))))) (fun h => Or.elim h (fun h => (Or.inr (Or.inr (Or.inr (Or.inr (Or.inl h)))))) (fun h => (Or.inr (Or.inr (Or.inr (Or.inr (Or.inr h))))))))))))
    refine ⟨fun c23 => ?_, fun c23 => ?_⟩
    · refine k_Law_add I_31 ⟨by omega, by omega⟩ ⟨by omega, by omega⟩ (fun g21 I_34 F_35 => ?_)
      have F_36 : zk_fr fr_LawReader_comparison g0 g21 := zk_ft F_33 F_35 (fun a i => (fun h => Or.elim h (fun h => (Or.inl h)) (fun h => Or.elim h (fun h => (Or.inr (Or.inl h))) (fun h => (Or.inr (Or.inr (Or.inr (Or.inr (Or.inr h)))))))))
      exact hQ _ _ I_34 F_36 ⟨by omega, by omega⟩
    · exact hQ _ _ I_31 F_33 ⟨by omega, by omega⟩
  · refine k_Tokens_refuse I ⟨by omega, by omega⟩ (fun v24 g25 I_38 F_39 b_37 => ?_)
    have F_40 : zk_fr fr_LawReader_comparison g0 g25 := zk_ft F F_39 (fun a i => (fun h => Or.elim h (fun h => (Or.inr (Or.inr (Or.inr (Or.inl h))))) (fun h => (Or.inr (Or.inr (Or.inr (Or.inr (Or.inl h))))))))
    exact hQ _ _ I_38 F_40 ⟨by omega, by omega⟩
set_option maxRecDepth 100000 in
set_option maxHeartbeats 400000 in
theorem k_LawReader_comparison {g : zi_M} {Q : Int → zi_M → Prop} (I : zk_I g) (hQ : ∀ (v : Int) (g' : zi_M), zk_I g' → zk_fr fr_LawReader_comparison g g' → (0 ≤ v ∧ v ≤ 1) → Q v g') : w_LawReader_comparison g Q := by
  unfold w_LawReader_comparison
  refine k_LawReader_sum I (fun v1 g2 I_2 F_3 b_1 => ?_)
  have F_4 : zk_fr fr_LawReader_comparison g g2 := zk_ft (zk_f0 _) F_3 (fun a i => (fun h => Or.elim h (fun h => (Or.inl h)) (fun h => Or.elim h (fun h => (Or.inr (Or.inl h))) (fun h => Or.elim h (fun h => (Or.inr (Or.inr (Or.inl h)))) (fun h => Or.elim h (fun h => (Or.inr (Or.inr (Or.inr (Or.inl h))))) (fun h => Or.elim h (fun h => (Or.inr (Or.inr (Or.inr (Or.inr (Or.inl h)))))) (fun h => (Or.inr (Or.inr (Or.inr (Or.inr (Or.inr h))))))))))))
  refine ⟨fun c31 => ?_, fun c31 => ?_⟩
  · have m_9 : 0 ≤ (g2 191 4) ∧ (g2 191 4) ≤ 401 := I_2 191 4
    have m_10 : 0 ≤ (g2 191 3) ∧ (g2 191 3) ≤ 401 := I_2 191 3
    have m_11 : g2 191 3 = g 191 3 := F_3 _ _ (by unfold fr_LawReader_sum; omega)
    have m_12 : 0 ≤ (g 191 3) ∧ (g 191 3) ≤ 401 := I 191 3
    have m_13 : 0 ≤ (g2 192 (g2 191 4)) ∧ (g2 192 (g2 191 4)) ≤ 4 := I_2 192 (g2 191 4)
    have m_14 : g2 192 (g2 191 4) = g 192 (g2 191 4) := F_3 _ _ (by unfold fr_LawReader_sum; omega)
    have m_15 : 0 ≤ (g 192 (g2 191 4)) ∧ (g 192 (g2 191 4)) ≤ 4 := I 192 (g2 191 4)
    have m_16 : (-1) ≤ (g2 193 (g2 191 4)) ∧ (g2 193 (g2 191 4)) ≤ 9999 := I_2 193 (g2 191 4)
    have m_17 : g2 193 (g2 191 4) = g 193 (g2 191 4) := F_3 _ _ (by unfold fr_LawReader_sum; omega)
    have m_18 : (-1) ≤ (g 193 (g2 191 4)) ∧ (g 193 (g2 191 4)) ≤ 9999 := I 193 (g2 191 4)
    refine k_Tokens_isAt I_2 ⟨by omega, by omega⟩ ⟨by omega, by omega⟩ (fun v4 b_5 b_6 b_7 b_8 => ?_)
    refine ⟨fun c30 => ?_, fun c30 => ?_⟩
    · refine k_Tokens_isAt I_2 ⟨by omega, by omega⟩ ⟨by omega, by omega⟩ (fun v7 b_19 b_20 b_21 b_22 => ?_)
      refine ⟨fun c29 => ?_, fun c29 => ?_⟩
      · refine k_Tokens_isAt I_2 ⟨by omega, by omega⟩ ⟨by omega, by omega⟩ (fun v10 b_23 b_24 b_25 b_26 => ?_)
        refine ⟨fun c28 => ?_, fun c28 => ?_⟩
        · exact k_LawReader_comparison_b57 I_2 F_4 ⟨by omega, by omega⟩ hQ
        · exact k_LawReader_comparison_b57 I_2 F_4 ⟨by omega, by omega⟩ hQ
      · exact k_LawReader_comparison_b57 I_2 F_4 ⟨by omega, by omega⟩ hQ
    · exact k_LawReader_comparison_b57 I_2 F_4 ⟨by omega, by omega⟩ hQ
  · exact hQ _ _ I_2 F_4 ⟨by omega, by omega⟩
-- SpoutNews$LawReader.settleNots(LSpoutNews$Law;)V
def fr_LawReader_settleNots (a : Nat) (i : Int) : Prop := a = 197 ∨ a = 198 ∨ (a = 196 ∧ i = 2) ∨ (a = 212 ∧ i = 1) ∨ (a = 212 ∧ i = 2)
set_option maxRecDepth 100000 in
set_option maxHeartbeats 400000 in
theorem k_LawReader_settleNots {g : zi_M} {Q : Int → zi_M → Prop} (I : zk_I g) (hQ : ∀ g' : zi_M, zk_I g' → zk_fr fr_LawReader_settleNots g g' → Q 0 g') : w_LawReader_settleNots g Q := by
  sorry
-- SpoutNews$LawReader.settleBinary(LSpoutNews$Law;I)V
def fr_LawReader_settleBinary (a : Nat) (i : Int) : Prop := a = 197 ∨ a = 198 ∨ (a = 196 ∧ i = 2) ∨ (a = 212 ∧ i = 1)
set_option maxRecDepth 100000 in
set_option maxHeartbeats 400000 in
theorem k_LawReader_settleBinary {l2 : Int} {g : zi_M} {Q : Int → zi_M → Prop} (I : zk_I g) (p2 : (-1) ≤ l2 ∧ l2 ≤ 9999) (hQ : ∀ g' : zi_M, zk_I g' → zk_fr fr_LawReader_settleBinary g g' → Q 0 g') : w_LawReader_settleBinary l2 g Q := by
  sorry
-- SpoutNews$LawReader.closeAll(LSpoutNews$Tokens;LSpoutNews$Law;)V
def fr_LawReader_closeAll (a : Nat) (i : Int) : Prop := a = 197 ∨ a = 198 ∨ (a = 191 ∧ i = 4) ∨ (a = 196 ∧ i = 2) ∨ (a = 212 ∧ i = 1) ∨ (a = 212 ∧ i = 2) ∨ (a = 212 ∧ i = 3)
set_option maxRecDepth 100000 in
set_option maxHeartbeats 400000 in
theorem k_LawReader_closeAll {g : zi_M} {Q : Int → zi_M → Prop} (I : zk_I g) (hQ : ∀ g' : zi_M, zk_I g' → zk_fr fr_LawReader_closeAll g g' → Q 0 g') : w_LawReader_closeAll g Q := by
  sorry
-- SpoutNews$LawReader.conditions(LSpoutNews$Tokens;LSpoutNews$Law;)Z
def fr_LawReader_conditions (a : Nat) (i : Int) : Prop := a = 197 ∨ a = 198 ∨ a = 213 ∨ (a = 191 ∧ i = 4) ∨ (a = 191 ∧ i = 5) ∨ (a = 191 ∧ i = 6) ∨ (a = 196 ∧ i = 2) ∨ (a = 212 ∧ i = 1) ∨ (a = 212 ∧ i = 2) ∨ (a = 212 ∧ i = 3)
set_option maxRecDepth 100000 in
set_option maxHeartbeats 400000 in
theorem k_LawReader_conditions_b68 {l3 : Int} {H : Int → zi_M → Prop} {K41 : zi_M → Prop} {K65 : zi_M → Prop} {K97 : zi_M → Prop} {Q : Int → zi_M → Prop} {g : zi_M} {g0 : zi_M} (I : zk_I g) (F : zk_fr fr_LawReader_conditions g0 g) (p3 : 0 ≤ l3 ∧ l3 ≤ 400) (M : Int) (hM : 401 - l3 ≤ M) (hH : ∀ (m3 : Int) (g : zi_M), zk_I g → zk_fr fr_LawReader_conditions g0 g → (0 ≤ m3 ∧ m3 ≤ 401) → 401 - m3 < M → H m3 g) (hK41 : ∀ (g : zi_M), zk_I g → zk_fr fr_LawReader_conditions g0 g → K41 g) (hK65 : ∀ (g : zi_M), zk_I g → zk_fr fr_LawReader_conditions g0 g → K65 g) (hK97 : ∀ (g : zi_M), zk_I g → zk_fr fr_LawReader_conditions g0 g → K97 g) (hQ : ∀ (v : Int) (g' : zi_M), zk_I g' → zk_fr fr_LawReader_conditions g0 g' → (0 ≤ v ∧ v ≤ 1) → Q v g') : w_LawReader_conditions_b68 l3 g H K41 K65 K97 Q := by
  unfold w_LawReader_conditions_b68
  have m_49 : 0 ≤ (g 191 4) ∧ (g 191 4) ≤ 401 := I 191 4
  have m_50 : 0 ≤ (g 191 3) ∧ (g 191 3) ≤ 401 := I 191 3
  have m_51 : 0 ≤ (g 192 (g 191 4)) ∧ (g 192 (g 191 4)) ≤ 4 := I 192 (g 191 4)
  have m_52 : (-1) ≤ (g 193 (g 191 4)) ∧ (g 193 (g 191 4)) ≤ 9999 := I 193 (g 191 4)
  refine k_Tokens_keyword I (fun v18 b_46 b_47 b_48 => ?_)
  refine k_LawReader_settleBinary I ⟨by omega, by omega⟩ (fun g22 I_53 F_54 => ?_)
  have F_55 : zk_fr fr_LawReader_conditions g0 g22 := zk_ft F F_54 (fun a i => (fun h => Or.elim h (fun h => (Or.inl h)) (fun h => Or.elim h (fun h => (Or.inr (Or.inl h))) (fun h => Or.elim h (fun h => (Or.inr (Or.inr (Or.inr (Or.inr (Or.inr (Or.inr (Or.inl h)))))))) (fun h => (Or.inr (Or.inr (Or.inr (Or.inr (Or.inr (Or.inr (Or.inr (Or.inl h)))))))))))))
  refine k_LawReader_push I_53 ⟨by omega, by omega⟩ (fun g25 I_56 F_57 => ?_)
  have F_58 : zk_fr fr_LawReader_conditions g0 g25 := zk_ft F_55 F_57 (fun a i => (fun h => Or.elim h (fun h => (Or.inr (Or.inr (Or.inl h)))) (fun h => (Or.inr (Or.inr (Or.inr (Or.inr (Or.inr (Or.inr (Or.inr (Or.inl h)))))))))))
  refine k_Tokens_step I_56 (fun g28 I_59 F_60 => ?_)
  have F_61 : zk_fr fr_LawReader_conditions g0 g28 := zk_ft F_58 F_60 (fun a i => (fun h => (Or.inr (Or.inr (Or.inr (Or.inl h))))))
  exact hH _ _ I_59 F_61 ⟨by omega, by omega⟩ (by omega)
set_option maxRecDepth 100000 in
set_option maxHeartbeats 400000 in
theorem k_LawReader_conditions_l17 {K41 : zi_M → Prop} {K65 : zi_M → Prop} {K97 : zi_M → Prop} {Q : Int → zi_M → Prop} {g0 : zi_M} (hK41 : ∀ (g : zi_M), zk_I g → zk_fr fr_LawReader_conditions g0 g → K41 g) (hK65 : ∀ (g : zi_M), zk_I g → zk_fr fr_LawReader_conditions g0 g → K65 g) (hK97 : ∀ (g : zi_M), zk_I g → zk_fr fr_LawReader_conditions g0 g → K97 g) (hQ : ∀ (v : Int) (g' : zi_M), zk_I g' → zk_fr fr_LawReader_conditions g0 g' → (0 ≤ v ∧ v ≤ 1) → Q v g') : ∀ (n : Nat) {l3 : Int} {g : zi_M}, zk_I g → zk_fr fr_LawReader_conditions g0 g → (0 ≤ l3 ∧ l3 ≤ 401) → 401 - l3 < (n : Int) → w_LawReader_conditions_l17 K41 K65 K97 Q n l3 g
  | 0, l3, g, I, F, b0, hm => by exfalso; omega
  | n + 1, l3, g, I, F, b0, hm => by
    unfold w_LawReader_conditions_l17
    refine ⟨⟨by omega, by omega⟩, ?_⟩
    refine ⟨fun c38 => ?_, fun c38 => ?_⟩
    · exact hK97 _ I F
    · refine k_LawReader_openAll I (fun v5 g6 I_11 F_12 b_10 => ?_)
      have F_13 : zk_fr fr_LawReader_conditions g0 g6 := zk_ft F F_12 (fun a i => (fun h => Or.elim h (fun h => (Or.inr (Or.inr (Or.inl h)))) (fun h => Or.elim h (fun h => (Or.inr (Or.inr (Or.inr (Or.inl h))))) (fun h => Or.elim h (fun h => (Or.inr (Or.inr (Or.inr (Or.inr (Or.inl h)))))) (fun h => Or.elim h (fun h => (Or.inr (Or.inr (Or.inr (Or.inr (Or.inr (Or.inl h))))))) (fun h => Or.elim h (fun h => (Or.inr (Or.inr (Or.inr (Or.inr (Or.inr (Or.inr (Or.inr (Or.inl h))))))))) (fun h => Or.elim h (fun h => (Or.inr (Or.inr (Or.inr (Or.inr (Or.inr (Or.inr (Or.inr (Or.inr (Or.inl h)))))))))) (fun h => (Or.inr (Or.inr (Or.inr (Or.inr (Or.inr (Or.inr (Or.inr (Or.inr (Or.inr h)))))))))))))))))
      refine ⟨fun c37 => ?_, fun c37 => ?_⟩
      · exact hK41 _ I_11 F_13
      · refine k_LawReader_comparison I_11 (fun v8 g9 I_15 F_16 b_14 => ?_)
        have F_17 : zk_fr fr_LawReader_conditions g0 g9 := zk_ft F_13 F_16 (fun a i => (fun h => Or.elim h (fun h => (Or.inl h)) (fun h => Or.elim h (fun h => (Or.inr (Or.inl h))) (fun h => Or.elim h (fun h => (Or.inr (Or.inr (Or.inr (Or.inl h))))) (fun h => Or.elim h (fun h => (Or.inr (Or.inr (Or.inr (Or.inr (Or.inl h)))))) (fun h => Or.elim h (fun h => (Or.inr (Or.inr (Or.inr (Or.inr (Or.inr (Or.inl h))))))) (fun h => (Or.inr (Or.inr (Or.inr (Or.inr (Or.inr (Or.inr (Or.inl h))))))))))))))
        refine ⟨fun c36 => ?_, fun c36 => ?_⟩
        · refine k_LawReader_closeAll I_15 (fun g12 I_18 F_19 => ?_)
          have F_20 : zk_fr fr_LawReader_conditions g0 g12 := zk_ft F_17 F_19 (fun a i => (fun h => Or.elim h (fun h => (Or.inl h)) (fun h => Or.elim h (fun h => (Or.inr (Or.inl h))) (fun h => Or.elim h (fun h => (Or.inr (Or.inr (Or.inr (Or.inl h))))) (fun h => Or.elim h (fun h => (Or.inr (Or.inr (Or.inr (Or.inr (Or.inr (Or.inr (Or.inl h)))))))) (fun h => Or.elim h (fun h => (Or.inr (Or.inr (Or.inr (Or.inr (Or.inr (Or.inr (Or.inr (Or.inl h))))))))) (fun h => Or.elim h (fun h => (Or.inr (Or.inr (Or.inr (Or.inr (Or.inr (Or.inr (Or.inr (Or.inr (Or.inl h)))))))))) (fun h => (Or.inr (Or.inr (Or.inr (Or.inr (Or.inr (Or.inr (Or.inr (Or.inr (Or.inr h)))))))))))))))))
          have m_24 : 0 ≤ (g12 191 4) ∧ (g12 191 4) ≤ 401 := I_18 191 4
          have m_25 : 0 ≤ (g12 191 3) ∧ (g12 191 3) ≤ 401 := I_18 191 3
          have m_26 : g12 191 3 = g9 191 3 := F_19 _ _ (by unfold fr_LawReader_closeAll; omega)
          have m_27 : 0 ≤ (g9 191 3) ∧ (g9 191 3) ≤ 401 := I_15 191 3
          have m_28 : g9 191 3 = g6 191 3 := F_16 _ _ (by unfold fr_LawReader_comparison; omega)
          have m_29 : 0 ≤ (g6 191 3) ∧ (g6 191 3) ≤ 401 := I_11 191 3
          have m_30 : g6 191 3 = g 191 3 := F_12 _ _ (by unfold fr_LawReader_openAll; omega)
          have m_31 : 0 ≤ (g 191 3) ∧ (g 191 3) ≤ 401 := I 191 3
          have m_32 : 0 ≤ (g12 192 (g12 191 4)) ∧ (g12 192 (g12 191 4)) ≤ 4 := I_18 192 (g12 191 4)
          have m_33 : g12 192 (g12 191 4) = g9 192 (g12 191 4) := F_19 _ _ (by unfold fr_LawReader_closeAll; omega)
          have m_34 : 0 ≤ (g9 192 (g12 191 4)) ∧ (g9 192 (g12 191 4)) ≤ 4 := I_15 192 (g12 191 4)
          have m_35 : g9 192 (g12 191 4) = g6 192 (g12 191 4) := F_16 _ _ (by unfold fr_LawReader_comparison; omega)
          have m_36 : 0 ≤ (g6 192 (g12 191 4)) ∧ (g6 192 (g12 191 4)) ≤ 4 := I_11 192 (g12 191 4)
          have m_37 : g6 192 (g12 191 4) = g 192 (g12 191 4) := F_12 _ _ (by unfold fr_LawReader_openAll; omega)
          have m_38 : 0 ≤ (g 192 (g12 191 4)) ∧ (g 192 (g12 191 4)) ≤ 4 := I 192 (g12 191 4)
          have m_39 : (-1) ≤ (g12 193 (g12 191 4)) ∧ (g12 193 (g12 191 4)) ≤ 9999 := I_18 193 (g12 191 4)
          have m_40 : g12 193 (g12 191 4) = g9 193 (g12 191 4) := F_19 _ _ (by unfold fr_LawReader_closeAll; omega)
          have m_41 : (-1) ≤ (g9 193 (g12 191 4)) ∧ (g9 193 (g12 191 4)) ≤ 9999 := I_15 193 (g12 191 4)
          have m_42 : g9 193 (g12 191 4) = g6 193 (g12 191 4) := F_16 _ _ (by unfold fr_LawReader_comparison; omega)
          have m_43 : (-1) ≤ (g6 193 (g12 191 4)) ∧ (g6 193 (g12 191 4)) ≤ 9999 := I_11 193 (g12 191 4)
          have m_44 : g6 193 (g12 191 4) = g 193 (g12 191 4) := F_12 _ _ (by unfold fr_LawReader_openAll; omega)
          have m_45 : (-1) ≤ (g 193 (g12 191 4)) ∧ (g 193 (g12 191 4)) ≤ 9999 := I 193 (g12 191 4)
          refine k_Tokens_keyword I_18 (fun v14 b_21 b_22 b_23 => ?_)
          refine ⟨⟨by omega, by omega⟩, ?_⟩
          refine ⟨fun c35 => ?_, fun c35 => ?_⟩
          · exact k_LawReader_conditions_b68 I_18 F_20 ⟨by omega, by omega⟩ (n : Int) (by omega) (fun _ _ I F b0 hm => k_LawReader_conditions_l17 hK41 hK65 hK97 hQ n I F b0 hm) hK41 hK65 hK97 hQ
          · refine k_Tokens_keyword I_18 (fun v30 b_62 b_63 b_64 => ?_)
            refine ⟨⟨by omega, by omega⟩, ?_⟩
            refine ⟨fun c34 => ?_, fun c34 => ?_⟩
            · exact k_LawReader_conditions_b68 I_18 F_20 ⟨by omega, by omega⟩ (n : Int) (by omega) (fun _ _ I F b0 hm => k_LawReader_conditions_l17 hK41 hK65 hK97 hQ n I F b0 hm) hK41 hK65 hK97 hQ
            · exact hK65 _ I_18 F_20
        · exact hK41 _ I_15 F_17
set_option maxRecDepth 100000 in
set_option maxHeartbeats 400000 in
theorem k_LawReader_conditions_b97 {Q : Int → zi_M → Prop} {g : zi_M} {g0 : zi_M} (I : zk_I g) (F : zk_fr fr_LawReader_conditions g0 g) (hQ : ∀ (v : Int) (g' : zi_M), zk_I g' → zk_fr fr_LawReader_conditions g0 g' → (0 ≤ v ∧ v ≤ 1) → Q v g') : w_LawReader_conditions_b97 g Q := by
  unfold w_LawReader_conditions_b97
  have m_69 : 0 ≤ (g 212 3) ∧ (g 212 3) ≤ 8 := I 212 3
  refine ⟨⟨by omega, by omega⟩, ?_⟩
  refine ⟨fun c48 => ?_, fun c48 => ?_⟩
  · refine k_LawReader_settleBinary I ⟨by omega, by omega⟩ (fun g43 I_70 F_71 => ?_)
    have F_72 : zk_fr fr_LawReader_conditions g0 g43 := zk_ft F F_71 (fun a i => (fun h => Or.elim h (fun h => (Or.inl h)) (fun h => Or.elim h (fun h => (Or.inr (Or.inl h))) (fun h => Or.elim h (fun h => (Or.inr (Or.inr (Or.inr (Or.inr (Or.inr (Or.inr (Or.inl h)))))))) (fun h => (Or.inr (Or.inr (Or.inr (Or.inr (Or.inr (Or.inr (Or.inr (Or.inl h)))))))))))))
    exact hQ _ _ I_70 F_72 ⟨by omega, by omega⟩
  · refine k_Tokens_refuse I ⟨by omega, by omega⟩ (fun v45 g46 I_74 F_75 b_73 => ?_)
    have F_76 : zk_fr fr_LawReader_conditions g0 g46 := zk_ft F F_75 (fun a i => (fun h => Or.elim h (fun h => (Or.inr (Or.inr (Or.inr (Or.inr (Or.inl h)))))) (fun h => (Or.inr (Or.inr (Or.inr (Or.inr (Or.inr (Or.inl h)))))))))
    exact hQ _ _ I_74 F_76 ⟨by omega, by omega⟩
set_option maxRecDepth 100000 in
set_option maxHeartbeats 400000 in
theorem k_LawReader_conditions {g : zi_M} {Q : Int → zi_M → Prop} (I : zk_I g) (hQ : ∀ (v : Int) (g' : zi_M), zk_I g' → zk_fr fr_LawReader_conditions g g' → (0 ≤ v ∧ v ≤ 1) → Q v g') : w_LawReader_conditions g Q := by
  unfold w_LawReader_conditions
  intro g1 e_1
  have I_2 : zk_I g1 := by rw [e_1]; exact zk_upd (L := 0) (H := 40) rfl rfl I ⟨by omega, by omega⟩
  have F_3 : zk_fr fr_LawReader_conditions g g1 := by rw [e_1]; exact zk_fu (zk_f0 _) (Or.inr (Or.inr (Or.inr (Or.inr (Or.inr (Or.inr (Or.inr (Or.inl ⟨rfl, rfl⟩))))))))
  intro g2 e_4
  have I_5 : zk_I g2 := by rw [e_4]; exact zk_upd (L := 0) (H := 8) rfl rfl I_2 ⟨by omega, by omega⟩
  have F_6 : zk_fr fr_LawReader_conditions g g2 := by rw [e_4]; exact zk_fu F_3 (Or.inr (Or.inr (Or.inr (Or.inr (Or.inr (Or.inr (Or.inr (Or.inr (Or.inl ⟨rfl, rfl⟩)))))))))
  intro g3 e_7
  have I_8 : zk_I g3 := by rw [e_7]; exact zk_upd (L := 0) (H := 8) rfl rfl I_5 ⟨by omega, by omega⟩
  have F_9 : zk_fr fr_LawReader_conditions g g3 := by rw [e_7]; exact zk_fu F_6 (Or.inr (Or.inr (Or.inr (Or.inr (Or.inr (Or.inr (Or.inr (Or.inr (Or.inr ⟨rfl, rfl⟩)))))))))
  refine ⟨((401 - 0 : Int).toNat + 1), k_LawReader_conditions_l17 (fun g39 I_65 F_66 => ?_) (fun g40 I_67 F_68 => ?_) (fun g49 I_77 F_78 => ?_) hQ ((401 - 0 : Int).toNat + 1) I_8 F_9 ⟨by omega, by omega⟩ (by omega)⟩
  · exact hQ _ _ I_65 F_66 ⟨by omega, by omega⟩
  · exact k_LawReader_conditions_b97 I_67 F_68 hQ
  · exact k_LawReader_conditions_b97 I_77 F_78 hQ
-- SpoutNews$LawReader.readLaw(LSpoutNews$Tokens;LSpoutNews$Law;)Z
def fr_LawReader_readLaw (a : Nat) (i : Int) : Prop := a = 197 ∨ a = 198 ∨ a = 199 ∨ a = 200 ∨ a = 201 ∨ a = 202 ∨ a = 213 ∨ (a = 191 ∧ i = 4) ∨ (a = 191 ∧ i = 5) ∨ (a = 191 ∧ i = 6) ∨ (a = 196 ∧ i = 2) ∨ (a = 196 ∧ i = 7) ∨ (a = 212 ∧ i = 1) ∨ (a = 212 ∧ i = 2) ∨ (a = 212 ∧ i = 3)
set_option maxRecDepth 100000 in
set_option maxHeartbeats 400000 in
theorem k_LawReader_readLaw_b98 {l3 : Int} {l4 : Int} {l5 : Int} {l6 : Int} {H : Int → zi_M → Prop} {K36 : zi_M → Prop} {K67 : zi_M → Prop} {K96 : zi_M → Prop} {K108 : zi_M → Prop} {K126 : zi_M → Prop} {Q : Int → zi_M → Prop} {g : zi_M} {g0 : zi_M} (I : zk_I g) (F : zk_fr fr_LawReader_readLaw g0 g) (p3 : 0 ≤ l3 ∧ l3 ≤ 16) (p4 : 0 ≤ l4 ∧ l4 ≤ 2) (p5 : 0 ≤ l5 ∧ l5 ≤ 400) (p6 : 0 ≤ l6 ∧ l6 ≤ 400) (M : Int) (hM : 17 - l3 ≤ M) (hH : ∀ (m3 : Int) (g : zi_M), zk_I g → zk_fr fr_LawReader_readLaw g0 g → (0 ≤ m3 ∧ m3 ≤ 17) → 17 - m3 < M → H m3 g) (hK36 : ∀ (g : zi_M), zk_I g → zk_fr fr_LawReader_readLaw g0 g → K36 g) (hK67 : ∀ (g : zi_M), zk_I g → zk_fr fr_LawReader_readLaw g0 g → K67 g) (hK96 : ∀ (g : zi_M), zk_I g → zk_fr fr_LawReader_readLaw g0 g → K96 g) (hK108 : ∀ (g : zi_M), zk_I g → zk_fr fr_LawReader_readLaw g0 g → K108 g) (hK126 : ∀ (g : zi_M), zk_I g → zk_fr fr_LawReader_readLaw g0 g → K126 g) (hQ : ∀ (v : Int) (g' : zi_M), zk_I g' → zk_fr fr_LawReader_readLaw g0 g' → (0 ≤ v ∧ v ≤ 1) → Q v g') : w_LawReader_readLaw_b98 l3 l4 l5 l6 g H K36 K67 K96 K108 K126 Q := by
  unfold w_LawReader_readLaw_b98
  refine k_Tokens_take I ⟨by omega, by omega⟩ ⟨by omega, by omega⟩ (fun v22 g23 I_41 F_42 b_40 => ?_)
  have F_43 : zk_fr fr_LawReader_readLaw g0 g23 := zk_ft F F_42 (fun a i => (fun h => Or.elim h (fun h => (Or.inr (Or.inr (Or.inr (Or.inr (Or.inr (Or.inr (Or.inr (Or.inl h))))))))) (fun h => Or.elim h (fun h => (Or.inr (Or.inr (Or.inr (Or.inr (Or.inr (Or.inr (Or.inr (Or.inr (Or.inl h)))))))))) (fun h => (Or.inr (Or.inr (Or.inr (Or.inr (Or.inr (Or.inr (Or.inr (Or.inr (Or.inr (Or.inl h))))))))))))))
  refine ⟨fun c28 => ?_, fun c28 => ?_⟩
  · refine k_Law_addLine I_41 ⟨by omega, by omega⟩ ⟨by omega, by omega⟩ ⟨by omega, by omega⟩ (fun g26 I_44 F_45 => ?_)
    have F_46 : zk_fr fr_LawReader_readLaw g0 g26 := zk_ft F_43 F_45 (fun a i => (fun h => Or.elim h (fun h => (Or.inr (Or.inr (Or.inl h)))) (fun h => Or.elim h (fun h => (Or.inr (Or.inr (Or.inr (Or.inl h))))) (fun h => Or.elim h (fun h => (Or.inr (Or.inr (Or.inr (Or.inr (Or.inl h)))))) (fun h => Or.elim h (fun h => (Or.inr (Or.inr (Or.inr (Or.inr (Or.inr (Or.inl h))))))) (fun h => (Or.inr (Or.inr (Or.inr (Or.inr (Or.inr (Or.inr (Or.inr (Or.inr (Or.inr (Or.inr (Or.inr (Or.inl h))))))))))))))))))
    exact hH _ _ I_44 F_46 ⟨by omega, by omega⟩ (by omega)
  · exact hK108 _ I_41 F_43
set_option maxRecDepth 100000 in
set_option maxHeartbeats 400000 in
theorem k_LawReader_readLaw_l6 {K36 : zi_M → Prop} {K67 : zi_M → Prop} {K96 : zi_M → Prop} {K108 : zi_M → Prop} {K126 : zi_M → Prop} {Q : Int → zi_M → Prop} {g0 : zi_M} (hK36 : ∀ (g : zi_M), zk_I g → zk_fr fr_LawReader_readLaw g0 g → K36 g) (hK67 : ∀ (g : zi_M), zk_I g → zk_fr fr_LawReader_readLaw g0 g → K67 g) (hK96 : ∀ (g : zi_M), zk_I g → zk_fr fr_LawReader_readLaw g0 g → K96 g) (hK108 : ∀ (g : zi_M), zk_I g → zk_fr fr_LawReader_readLaw g0 g → K108 g) (hK126 : ∀ (g : zi_M), zk_I g → zk_fr fr_LawReader_readLaw g0 g → K126 g) (hQ : ∀ (v : Int) (g' : zi_M), zk_I g' → zk_fr fr_LawReader_readLaw g0 g' → (0 ≤ v ∧ v ≤ 1) → Q v g') : ∀ (n : Nat) {l3 : Int} {g : zi_M}, zk_I g → zk_fr fr_LawReader_readLaw g0 g → (0 ≤ l3 ∧ l3 ≤ 17) → 17 - l3 < (n : Int) → w_LawReader_readLaw_l6 K36 K67 K96 K108 K126 Q n l3 g
  | 0, l3, g, I, F, b0, hm => by exfalso; omega
  | n + 1, l3, g, I, F, b0, hm => by
    unfold w_LawReader_readLaw_l6
    refine ⟨⟨by omega, by omega⟩, ?_⟩
    refine ⟨fun c42 => ?_, fun c42 => ?_⟩
    · exact hK126 _ I F
    · have m_7 : 0 ≤ (g 191 4) ∧ (g 191 4) ≤ 401 := I 191 4
      have m_8 : 0 ≤ (g 191 3) ∧ (g 191 3) ≤ 401 := I 191 3
      have m_9 : 0 ≤ (g 192 (g 191 4)) ∧ (g 192 (g 191 4)) ≤ 4 := I 192 (g 191 4)
      refine k_Tokens_isAtEnd I (fun v5 b_4 b_5 b_6 => ?_)
      refine ⟨fun c41 => ?_, fun c41 => ?_⟩
      · exact hK126 _ I F
      · have m_13 : (-1) ≤ (g 193 (g 191 4)) ∧ (g 193 (g 191 4)) ≤ 9999 := I 193 (g 191 4)
        refine k_Tokens_keyword I (fun v8 b_10 b_11 b_12 => ?_)
        refine ⟨⟨by omega, by omega⟩, ?_⟩
        refine ⟨fun c40 => ?_, fun c40 => ?_⟩
        · exact hK36 _ I F
        · refine ⟨fun c39 => ?_, fun c39 => ?_⟩
          · refine k_Tokens_takeLineStart I ⟨by omega, by omega⟩ (by omega) (fun v12 g13 I_15 F_16 b_14 => ?_)
            have F_17 : zk_fr fr_LawReader_readLaw g0 g13 := zk_ft F F_16 (fun a i => (fun h => Or.elim h (fun h => (Or.inr (Or.inr (Or.inr (Or.inr (Or.inr (Or.inr (Or.inr (Or.inl h))))))))) (fun h => Or.elim h (fun h => (Or.inr (Or.inr (Or.inr (Or.inr (Or.inr (Or.inr (Or.inr (Or.inr (Or.inl h)))))))))) (fun h => (Or.inr (Or.inr (Or.inr (Or.inr (Or.inr (Or.inr (Or.inr (Or.inr (Or.inr (Or.inl h))))))))))))))
            refine ⟨fun c38 => ?_, fun c38 => ?_⟩
            · exact hK67 _ I_15 F_17
            · refine k_LawReader_sum I_15 (fun v15 g16 I_19 F_20 b_18 => ?_)
              have F_21 : zk_fr fr_LawReader_readLaw g0 g16 := zk_ft F_17 F_20 (fun a i => (fun h => Or.elim h (fun h => (Or.inl h)) (fun h => Or.elim h (fun h => (Or.inr (Or.inl h))) (fun h => Or.elim h (fun h => (Or.inr (Or.inr (Or.inr (Or.inr (Or.inr (Or.inr (Or.inr (Or.inl h))))))))) (fun h => Or.elim h (fun h => (Or.inr (Or.inr (Or.inr (Or.inr (Or.inr (Or.inr (Or.inr (Or.inr (Or.inl h)))))))))) (fun h => Or.elim h (fun h => (Or.inr (Or.inr (Or.inr (Or.inr (Or.inr (Or.inr (Or.inr (Or.inr (Or.inr (Or.inl h))))))))))) (fun h => (Or.inr (Or.inr (Or.inr (Or.inr (Or.inr (Or.inr (Or.inr (Or.inr (Or.inr (Or.inr (Or.inl h))))))))))))))))))
              refine ⟨fun c37 => ?_, fun c37 => ?_⟩
              · have m_25 : 0 ≤ (g16 191 4) ∧ (g16 191 4) ≤ 401 := I_19 191 4
                have m_26 : 0 ≤ (g16 191 3) ∧ (g16 191 3) ≤ 401 := I_19 191 3
                have m_27 : g16 191 3 = g13 191 3 := F_20 _ _ (by unfold fr_LawReader_sum; omega)
                have m_28 : 0 ≤ (g13 191 3) ∧ (g13 191 3) ≤ 401 := I_15 191 3
                have m_29 : g13 191 3 = g 191 3 := F_16 _ _ (by unfold fr_Tokens_takeLineStart; omega)
                have m_30 : 0 ≤ (g16 192 (g16 191 4)) ∧ (g16 192 (g16 191 4)) ≤ 4 := I_19 192 (g16 191 4)
                have m_31 : g16 192 (g16 191 4) = g13 192 (g16 191 4) := F_20 _ _ (by unfold fr_LawReader_sum; omega)
                have m_32 : 0 ≤ (g13 192 (g16 191 4)) ∧ (g13 192 (g16 191 4)) ≤ 4 := I_15 192 (g16 191 4)
                have m_33 : g13 192 (g16 191 4) = g 192 (g16 191 4) := F_16 _ _ (by unfold fr_Tokens_takeLineStart; omega)
                have m_34 : 0 ≤ (g 192 (g16 191 4)) ∧ (g 192 (g16 191 4)) ≤ 4 := I 192 (g16 191 4)
                have m_35 : (-1) ≤ (g16 193 (g16 191 4)) ∧ (g16 193 (g16 191 4)) ≤ 9999 := I_19 193 (g16 191 4)
                have m_36 : g16 193 (g16 191 4) = g13 193 (g16 191 4) := F_20 _ _ (by unfold fr_LawReader_sum; omega)
                have m_37 : (-1) ≤ (g13 193 (g16 191 4)) ∧ (g13 193 (g16 191 4)) ≤ 9999 := I_15 193 (g16 191 4)
                have m_38 : g13 193 (g16 191 4) = g 193 (g16 191 4) := F_16 _ _ (by unfold fr_Tokens_takeLineStart; omega)
                have m_39 : (-1) ≤ (g 193 (g16 191 4)) ∧ (g 193 (g16 191 4)) ≤ 9999 := I 193 (g16 191 4)
                refine k_Tokens_keyword I_19 (fun v18 b_22 b_23 b_24 => ?_)
                refine ⟨⟨by omega, by omega⟩, ?_⟩
                refine ⟨fun c36 => ?_, fun c36 => ?_⟩
                · have m_47 : 0 ≤ (g 196 2) ∧ (g 196 2) ≤ 400 := I 196 2
                  have m_48 : 0 ≤ (g16 196 2) ∧ (g16 196 2) ≤ 400 := I_19 196 2
                  exact k_LawReader_readLaw_b98 I_19 F_21 ⟨by omega, by omega⟩ ⟨by omega, by omega⟩ ⟨by omega, by omega⟩ ⟨by omega, by omega⟩ (n : Int) (by omega) (fun _ _ I F b0 hm => k_LawReader_readLaw_l6 hK36 hK67 hK96 hK108 hK126 hQ n I F b0 hm) hK36 hK67 hK96 hK108 hK126 hQ
                · refine k_Tokens_step I_19 (fun g30 I_49 F_50 => ?_)
                  have F_51 : zk_fr fr_LawReader_readLaw g0 g30 := zk_ft F_21 F_50 (fun a i => (fun h => (Or.inr (Or.inr (Or.inr (Or.inr (Or.inr (Or.inr (Or.inr (Or.inl h))))))))))
                  refine k_LawReader_conditions I_49 (fun v32 g33 I_53 F_54 b_52 => ?_)
                  have F_55 : zk_fr fr_LawReader_readLaw g0 g33 := zk_ft F_51 F_54 (fun a i => (fun h => Or.elim h (fun h => (Or.inl h)) (fun h => Or.elim h (fun h => (Or.inr (Or.inl h))) (fun h => Or.elim h (fun h => (Or.inr (Or.inr (Or.inr (Or.inr (Or.inr (Or.inr (Or.inl h)))))))) (fun h => Or.elim h (fun h => (Or.inr (Or.inr (Or.inr (Or.inr (Or.inr (Or.inr (Or.inr (Or.inl h))))))))) (fun h => Or.elim h (fun h => (Or.inr (Or.inr (Or.inr (Or.inr (Or.inr (Or.inr (Or.inr (Or.inr (Or.inl h)))))))))) (fun h => Or.elim h (fun h => (Or.inr (Or.inr (Or.inr (Or.inr (Or.inr (Or.inr (Or.inr (Or.inr (Or.inr (Or.inl h))))))))))) (fun h => Or.elim h (fun h => (Or.inr (Or.inr (Or.inr (Or.inr (Or.inr (Or.inr (Or.inr (Or.inr (Or.inr (Or.inr (Or.inl h)))))))))))) (fun h => Or.elim h (fun h => (Or.inr (Or.inr (Or.inr (Or.inr (Or.inr (Or.inr (Or.inr (Or.inr (Or.inr (Or.inr (Or.inr (Or.inr (Or.inl h)))))))))))))) (fun h => Or.elim h (fun h => (Or.inr (Or.inr (Or.inr (Or.inr (Or.inr (Or.inr (Or.inr (Or.inr (Or.inr (Or.inr (Or.inr (Or.inr (Or.inr (Or.inl h))))))))))))))) (fun h => (Or.inr (Or.inr (Or.inr (Or.inr (Or.inr (Or.inr (Or.inr (Or.inr (Or.inr (Or.inr (Or.inr (Or.inr (Or.inr (Or.inr h)))))))))))))))))))))))))
                  refine ⟨fun c35 => ?_, fun c35 => ?_⟩
                  · have m_56 : 0 ≤ (g 196 2) ∧ (g 196 2) ≤ 400 := I 196 2
                    have m_57 : 0 ≤ (g16 196 2) ∧ (g16 196 2) ≤ 400 := I_19 196 2
                    exact k_LawReader_readLaw_b98 I_53 F_55 ⟨by omega, by omega⟩ ⟨by omega, by omega⟩ ⟨by omega, by omega⟩ ⟨by omega, by omega⟩ (n : Int) (by omega) (fun _ _ I F b0 hm => k_LawReader_readLaw_l6 hK36 hK67 hK96 hK108 hK126 hQ n I F b0 hm) hK36 hK67 hK96 hK108 hK126 hQ
                  · exact hK96 _ I_53 F_55
              · exact hK67 _ I_19 F_21
          · exact hK36 _ I F
set_option maxRecDepth 100000 in
set_option maxHeartbeats 400000 in
theorem k_LawReader_readLaw {g : zi_M} {Q : Int → zi_M → Prop} (I : zk_I g) (hQ : ∀ (v : Int) (g' : zi_M), zk_I g' → zk_fr fr_LawReader_readLaw g g' → (0 ≤ v ∧ v ≤ 1) → Q v g') : w_LawReader_readLaw g Q := by
  unfold w_LawReader_readLaw
  refine k_Law_clear I (fun g2 I_1 F_2 => ?_)
  have F_3 : zk_fr fr_LawReader_readLaw g g2 := zk_ft (zk_f0 _) F_2 (fun a i => (fun h => Or.elim h (fun h => (Or.inr (Or.inr (Or.inr (Or.inr (Or.inr (Or.inr (Or.inr (Or.inr (Or.inr (Or.inr (Or.inl h)))))))))))) (fun h => (Or.inr (Or.inr (Or.inr (Or.inr (Or.inr (Or.inr (Or.inr (Or.inr (Or.inr (Or.inr (Or.inr (Or.inl h)))))))))))))))
  refine ⟨((17 - 0 : Int).toNat + 1), k_LawReader_readLaw_l6 (fun g43 I_58 F_59 => ?_) (fun g47 I_64 F_65 => ?_) (fun g48 I_66 F_67 => ?_) (fun g49 I_68 F_69 => ?_) (fun g50 I_70 F_71 => ?_) hQ ((17 - 0 : Int).toNat + 1) I_1 F_3 ⟨by omega, by omega⟩ (by omega)⟩
  · refine k_Tokens_refuse I_58 ⟨by omega, by omega⟩ (fun v44 g45 I_61 F_62 b_60 => ?_)
    have F_63 : zk_fr fr_LawReader_readLaw g g45 := zk_ft F_59 F_62 (fun a i => (fun h => Or.elim h (fun h => (Or.inr (Or.inr (Or.inr (Or.inr (Or.inr (Or.inr (Or.inr (Or.inr (Or.inl h)))))))))) (fun h => (Or.inr (Or.inr (Or.inr (Or.inr (Or.inr (Or.inr (Or.inr (Or.inr (Or.inr (Or.inl h)))))))))))))
    exact hQ _ _ I_61 F_63 ⟨by omega, by omega⟩
  · exact hQ _ _ I_64 F_65 ⟨by omega, by omega⟩
  · exact hQ _ _ I_66 F_67 ⟨by omega, by omega⟩
  · exact hQ _ _ I_68 F_69 ⟨by omega, by omega⟩
  · exact hQ _ _ I_70 F_71 ⟨by omega, by omega⟩
-- SpoutNews$Law.copyFrom(LSpoutNews$Law;)V
def fr_Law_copyFrom (r0 : Nat) (r1 : Nat) (a : Nat) (i : Int) : Prop := a = r0 + 1 ∨ a = r0 + 2 ∨ a = r0 + 3 ∨ a = r0 + 4 ∨ a = r0 + 5 ∨ a = r0 + 6 ∨ (a = r0 ∧ i = 2) ∨ (a = r0 ∧ i = 7)
set_option maxRecDepth 100000 in
set_option maxHeartbeats 400000 in
theorem k_Law_copyFrom {r0 : Nat} (hr0 : zs_sh r0 = some (3, 10)) {r1 : Nat} (hr1 : zs_sh r1 = some (3, 10)) {g : zi_M} {Q : Int → zi_M → Prop} (I : zk_I g) (hQ : ∀ g' : zi_M, zk_I g' → zk_fr (fr_Law_copyFrom r0 r1) g g' → Q 0 g') : w_Law_copyFrom r0 r1 g Q := by
  sorry
