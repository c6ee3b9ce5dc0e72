-- by program (wip/gen/mkz.py)
-- SpoutNews$Tokens.isAtEnd()Z
set_option maxRecDepth 100000 in
set_option maxHeartbeats 400000 in
theorem k_Tokens_isAtEnd {g : zi_M} {Q : Int → zi_M → Prop} (I : zk_I g) (hQ : ∀ v : Int, ((g 191 3) ≤ (g 191 4) → v = 1) → ((g 191 4) < (g 191 3) → ¬ (g 192 (g 191 4)) = 4 → v = 0) → ((g 191 4) < (g 191 3) → (g 192 (g 191 4)) = 4 → v = 1) → Q v g) : w_Tokens_isAtEnd g Q := by
  unfold w_Tokens_isAtEnd
  have m_1 : 0 ≤ (g 191 4) ∧ (g 191 4) ≤ 401 := I 191 4
  have m_2 : 0 ≤ (g 191 3) ∧ (g 191 3) ≤ 401 := I 191 3
  refine ⟨⟨by omega, by omega⟩, ⟨by omega, by omega⟩, ?_⟩
  refine ⟨fun c6 => ?_, fun c6 => ?_⟩
  · have m_3 : 0 ≤ (g 192 (g 191 4)) ∧ (g 192 (g 191 4)) ≤ 4 := I 192 (g 191 4)
    exact hQ _ (by intros; omega) (by intros; omega) (by intros; omega)
  · refine ⟨⟨by omega, by omega⟩, ?_⟩
    have m_4 : 0 ≤ (g 192 (g 191 4)) ∧ (g 192 (g 191 4)) ≤ 4 := I 192 (g 191 4)
    refine ⟨⟨by omega, by omega⟩, ?_⟩
    refine ⟨fun c5 => ?_, fun c5 => ?_⟩
    · exact hQ _ (by intros; omega) (by intros; omega) (by intros; omega)
    · exact hQ _ (by intros; omega) (by intros; omega) (by intros; omega)
-- SpoutNews$Tokens.keyword()I
set_option maxRecDepth 100000 in
set_option maxHeartbeats 400000 in
theorem k_Tokens_keyword {g : zi_M} {Q : Int → zi_M → Prop} (I : zk_I g) (hQ : ∀ v : Int, ((g 191 3) ≤ (g 191 4) → v = (-1)) → ((g 191 4) < (g 191 3) → ¬ (g 192 (g 191 4)) = 2 → v = (-1)) → ((g 191 4) < (g 191 3) → (g 192 (g 191 4)) = 2 → v = g 193 (g 191 4)) → Q v g) : w_Tokens_keyword g Q := by
  unfold w_Tokens_keyword
  have m_1 : 0 ≤ (g 191 4) ∧ (g 191 4) ≤ 401 := I 191 4
  have m_2 : 0 ≤ (g 191 3) ∧ (g 191 3) ≤ 401 := I 191 3
  refine ⟨⟨by omega, by omega⟩, ⟨by omega, by omega⟩, ?_⟩
  refine ⟨fun c6 => ?_, fun c6 => ?_⟩
  · have m_3 : 0 ≤ (g 192 (g 191 4)) ∧ (g 192 (g 191 4)) ≤ 4 := I 192 (g 191 4)
    have m_4 : (-1) ≤ (g 193 (g 191 4)) ∧ (g 193 (g 191 4)) ≤ 9999 := I 193 (g 191 4)
    exact hQ _ (by intros; omega) (by intros; omega) (by intros; omega)
  · refine ⟨⟨by omega, by omega⟩, ?_⟩
    have m_5 : 0 ≤ (g 192 (g 191 4)) ∧ (g 192 (g 191 4)) ≤ 4 := I 192 (g 191 4)
    refine ⟨⟨by omega, by omega⟩, ?_⟩
    refine ⟨fun c5 => ?_, fun c5 => ?_⟩
    · have m_6 : (-1) ≤ (g 193 (g 191 4)) ∧ (g 193 (g 191 4)) ≤ 9999 := I 193 (g 191 4)
      exact hQ _ (by intros; omega) (by intros; omega) (by intros; omega)
    · have m_7 : (-1) ≤ (g 193 (g 191 4)) ∧ (g 193 (g 191 4)) ≤ 9999 := I 193 (g 191 4)
      exact hQ _ (by intros; omega) (by intros; omega) (by intros; omega)
-- SpoutNews$Tokens.isAt(II)Z
set_option maxRecDepth 100000 in
set_option maxHeartbeats 400000 in
theorem k_Tokens_isAt {l1 : Int} {l2 : Int} {g : zi_M} {Q : Int → zi_M → Prop} (I : zk_I g) (p1 : 2 ≤ l1 ∧ l1 ≤ 3) (p2 : 0 ≤ l2 ∧ l2 ≤ 62) (hQ : ∀ v : Int, ((g 191 3) ≤ (g 191 4) → v = 0) → ((g 191 4) < (g 191 3) → ¬ (g 192 (g 191 4)) = l1 → v = 0) → ((g 191 4) < (g 191 3) → (g 192 (g 191 4)) = l1 → ¬ (g 193 (g 191 4)) = l2 → v = 0) → ((g 191 4) < (g 191 3) → (g 192 (g 191 4)) = l1 → (g 193 (g 191 4)) = l2 → v = 1) → Q v g) : w_Tokens_isAt l1 l2 g Q := by
  unfold w_Tokens_isAt
  have m_1 : 0 ≤ (g 191 4) ∧ (g 191 4) ≤ 401 := I 191 4
  have m_2 : 0 ≤ (g 191 3) ∧ (g 191 3) ≤ 401 := I 191 3
  refine ⟨⟨by omega, by omega⟩, ⟨by omega, by omega⟩, ?_⟩
  refine ⟨fun c10 => ?_, fun c10 => ?_⟩
  · have m_3 : 0 ≤ (g 192 (g 191 4)) ∧ (g 192 (g 191 4)) ≤ 4 := I 192 (g 191 4)
    have m_4 : (-1) ≤ (g 193 (g 191 4)) ∧ (g 193 (g 191 4)) ≤ 9999 := I 193 (g 191 4)
    exact hQ _ (by intros; omega) (by intros; omega) (by intros; omega) (by intros; omega)
  · refine ⟨⟨by omega, by omega⟩, ?_⟩
    have m_5 : 0 ≤ (g 192 (g 191 4)) ∧ (g 192 (g 191 4)) ≤ 4 := I 192 (g 191 4)
    refine ⟨⟨by omega, by omega⟩, ⟨by omega, by omega⟩, ?_⟩
    refine ⟨fun c9 => ?_, fun c9 => ?_⟩
    · have m_6 : (-1) ≤ (g 193 (g 191 4)) ∧ (g 193 (g 191 4)) ≤ 9999 := I 193 (g 191 4)
      exact hQ _ (by intros; omega) (by intros; omega) (by intros; omega) (by intros; omega)
    · have m_7 : (-1) ≤ (g 193 (g 191 4)) ∧ (g 193 (g 191 4)) ≤ 9999 := I 193 (g 191 4)
      refine ⟨⟨by omega, by omega⟩, ⟨by omega, by omega⟩, ?_⟩
      refine ⟨fun c8 => ?_, fun c8 => ?_⟩
      · exact hQ _ (by intros; omega) (by intros; omega) (by intros; omega) (by intros; omega)
      · exact hQ _ (by intros; omega) (by intros; omega) (by intros; omega) (by intros; omega)
-- SpoutNews$Tokens.step()V
def fr_Tokens_step (a : Nat) (i : Int) : Prop := (a = 191 ∧ i = 4)
set_option maxRecDepth 100000 in
set_option maxHeartbeats 400000 in
theorem k_Tokens_step {g : zi_M} {Q : Int → zi_M → Prop} (I : zk_I g) (hQ : ∀ g' : zi_M, zk_I g' → zk_fr fr_Tokens_step g g' → Q 0 g') : w_Tokens_step g Q := by
  unfold w_Tokens_step
  have m_1 : 0 ≤ (g 191 4) ∧ (g 191 4) ≤ 401 := I 191 4
  have m_2 : 0 ≤ (g 191 3) ∧ (g 191 3) ≤ 401 := I 191 3
  refine ⟨⟨by omega, by omega⟩, ⟨by omega, by omega⟩, ?_⟩
  refine ⟨fun c4 => ?_, fun c4 => ?_⟩
  · exact hQ _ I (zk_f0 _)
  · intro g3 e_3
    have I_4 : zk_I g3 := by rw [e_3]; exact zk_upd (L := 0) (H := 401) rfl rfl I ⟨by omega, by omega⟩
    have F_5 : zk_fr fr_Tokens_step g g3 := by rw [e_3]; exact zk_fu (zk_f0 _) ⟨rfl, rfl⟩
    exact hQ _ I_4 F_5
-- SpoutNews$Tokens.refuse(I)Z
def fr_Tokens_refuse (a : Nat) (i : Int) : Prop := (a = 191 ∧ i = 5) ∨ (a = 191 ∧ i = 6)
set_option maxRecDepth 100000 in
set_option maxHeartbeats 400000 in
theorem k_Tokens_refuse {l1 : Int} {g : zi_M} {Q : Int → zi_M → Prop} (I : zk_I g) (p1 : 1 ≤ l1 ∧ l1 ≤ 3) (hQ : ∀ (v : Int) (g' : zi_M), zk_I g' → zk_fr fr_Tokens_refuse g g' → (0 ≤ v ∧ v ≤ 0) → Q v g') : w_Tokens_refuse l1 g Q := by
  unfold w_Tokens_refuse
  intro g1 e_1
  have I_2 : zk_I g1 := by rw [e_1]; exact zk_upd (L := 0) (H := 3) rfl rfl I ⟨by omega, by omega⟩
  have F_3 : zk_fr fr_Tokens_refuse g g1 := by rw [e_1]; exact zk_fu (zk_f0 _) (Or.inl ⟨rfl, rfl⟩)
  have m_4 : 0 ≤ (g1 191 4) ∧ (g1 191 4) ≤ 401 := I_2 191 4
  have m_5 : g1 191 4 = g 191 4 := by rw [e_1]; exact zi_u_ni (by decide)
  have m_6 : 0 ≤ (g 191 4) ∧ (g 191 4) ≤ 401 := I 191 4
  have m_7 : 0 ≤ (g1 191 3) ∧ (g1 191 3) ≤ 401 := I_2 191 3
  have m_8 : g1 191 3 = g 191 3 := by rw [e_1]; exact zi_u_ni (by decide)
  have m_9 : 0 ≤ (g 191 3) ∧ (g 191 3) ≤ 401 := I 191 3
  refine ⟨⟨by omega, by omega⟩, ⟨by omega, by omega⟩, ?_⟩
  refine ⟨fun c7 => ?_, fun c7 => ?_⟩
  · intro g4 e_10
    have I_11 : zk_I g4 := by rw [e_10]; exact zk_upd (L := (-1)) (H := 400) rfl rfl I_2 ⟨by omega, by omega⟩
    have F_12 : zk_fr fr_Tokens_refuse g g4 := by rw [e_10]; exact zk_fu F_3 (Or.inr ⟨rfl, rfl⟩)
    exact hQ _ _ I_11 F_12 ⟨by omega, by omega⟩
  · refine ⟨⟨by omega, by omega⟩, ?_⟩
    have m_16 : 0 ≤ (g1 194 (g1 191 4)) ∧ (g1 194 (g1 191 4)) ≤ 400 := I_2 194 (g1 191 4)
    have m_17 : g1 194 (g1 191 4) = g 194 (g1 191 4) := by rw [e_1]; exact zi_u_ne (by decide)
    have m_18 : 0 ≤ (g 194 (g1 191 4)) ∧ (g 194 (g1 191 4)) ≤ 400 := I 194 (g1 191 4)
    intro g6 e_13
    have I_14 : zk_I g6 := by rw [e_13]; exact zk_upd (L := (-1)) (H := 400) rfl rfl I_2 ⟨by omega, by omega⟩
    have F_15 : zk_fr fr_Tokens_refuse g g6 := by rw [e_13]; exact zk_fu F_3 (Or.inr ⟨rfl, rfl⟩)
    exact hQ _ _ I_14 F_15 ⟨by omega, by omega⟩
-- SpoutNews$Tokens.take(II)Z
def fr_Tokens_take (a : Nat) (i : Int) : Prop := (a = 191 ∧ i = 4) ∨ (a = 191 ∧ i = 5) ∨ (a = 191 ∧ i = 6)
set_option maxRecDepth 100000 in
set_option maxHeartbeats 400000 in
theorem k_Tokens_take {l1 : Int} {l2 : Int} {g : zi_M} {Q : Int → zi_M → Prop} (I : zk_I g) (p1 : 2 ≤ l1 ∧ l1 ≤ 3) (p2 : 0 ≤ l2 ∧ l2 ≤ 59) (hQ : ∀ (v : Int) (g' : zi_M), zk_I g' → zk_fr fr_Tokens_take g g' → (0 ≤ v ∧ v ≤ 1) → Q v g') : w_Tokens_take l1 l2 g Q := by
  unfold w_Tokens_take
  have m_5 : 0 ≤ (g 191 4) ∧ (g 191 4) ≤ 401 := I 191 4
  have m_6 : 0 ≤ (g 191 3) ∧ (g 191 3) ≤ 401 := I 191 3
  have m_7 : 0 ≤ (g 192 (g 191 4)) ∧ (g 192 (g 191 4)) ≤ 4 := I 192 (g 191 4)
  have m_8 : (-1) ≤ (g 193 (g 191 4)) ∧ (g 193 (g 191 4)) ≤ 9999 := I 193 (g 191 4)
  refine k_Tokens_isAt I ⟨by omega, by omega⟩ ⟨by omega, by omega⟩ (fun v1 b_1 b_2 b_3 b_4 => ?_)
  refine ⟨fun c10 => ?_, fun c10 => ?_⟩
  · refine k_Tokens_step I (fun g5 I_9 F_10 => ?_)
    have F_11 : zk_fr fr_Tokens_take g g5 := zk_ft (zk_f0 _) F_10 (fun a i => (fun h => (Or.inl h)))
    exact hQ _ _ I_9 F_11 ⟨by omega, by omega⟩
  · refine k_Tokens_refuse I ⟨by omega, by omega⟩ (fun v7 g8 I_13 F_14 b_12 => ?_)
    have F_15 : zk_fr fr_Tokens_take g g8 := zk_ft (zk_f0 _) F_14 (fun a i => (fun h => Or.elim h (fun h => (Or.inr (Or.inl h))) (fun h => (Or.inr (Or.inr h)))))
    exact hQ _ _ I_13 F_15 ⟨by omega, by omega⟩
-- SpoutNews$Tokens.takeLineStart(II)Z
def fr_Tokens_takeLineStart (a : Nat) (i : Int) : Prop := (a = 191 ∧ i = 4) ∨ (a = 191 ∧ i = 5) ∨ (a = 191 ∧ i = 6)
set_option maxRecDepth 100000 in
set_option maxHeartbeats 400000 in
theorem k_Tokens_takeLineStart {l1 : Int} {l2 : Int} {g : zi_M} {Q : Int → zi_M → Prop} (I : zk_I g) (p1 : 0 ≤ l1 ∧ l1 ≤ 7) (p2 : 0 ≤ l2) (hQ : ∀ (v : Int) (g' : zi_M), zk_I g' → zk_fr fr_Tokens_takeLineStart g g' → (0 ≤ v ∧ v ≤ 1) → Q v g') : w_Tokens_takeLineStart l1 l2 g Q := by
  sorry
-- SpoutNews$Tokens.number()I
set_option maxRecDepth 100000 in
set_option maxHeartbeats 400000 in
theorem k_Tokens_number {g : zi_M} {Q : Int → zi_M → Prop} (I : zk_I g) (hQ : ∀ v : Int, ((g 191 3) ≤ (g 191 4) → v = (-1)) → ((g 191 4) < (g 191 3) → ¬ (g 192 (g 191 4)) = 1 → v = (-1)) → ((g 191 4) < (g 191 3) → (g 192 (g 191 4)) = 1 → v = g 193 (g 191 4)) → Q v g) : w_Tokens_number g Q := by
  unfold w_Tokens_number
  have m_1 : 0 ≤ (g 191 4) ∧ (g 191 4) ≤ 401 := I 191 4
  have m_2 : 0 ≤ (g 191 3) ∧ (g 191 3) ≤ 401 := I 191 3
  refine ⟨⟨by omega, by omega⟩, ⟨by omega, by omega⟩, ?_⟩
  refine ⟨fun c6 => ?_, fun c6 => ?_⟩
  · have m_3 : 0 ≤ (g 192 (g 191 4)) ∧ (g 192 (g 191 4)) ≤ 4 := I 192 (g 191 4)
    have m_4 : (-1) ≤ (g 193 (g 191 4)) ∧ (g 193 (g 191 4)) ≤ 9999 := I 193 (g 191 4)
    exact hQ _ (by intros; omega) (by intros; omega) (by intros; omega)
  · refine ⟨⟨by omega, by omega⟩, ?_⟩
    have m_5 : 0 ≤ (g 192 (g 191 4)) ∧ (g 192 (g 191 4)) ≤ 4 := I 192 (g 191 4)
    refine ⟨⟨by omega, by omega⟩, ?_⟩
    refine ⟨fun c5 => ?_, fun c5 => ?_⟩
    · have m_6 : (-1) ≤ (g 193 (g 191 4)) ∧ (g 193 (g 191 4)) ≤ 9999 := I 193 (g 191 4)
      exact hQ _ (by intros; omega) (by intros; omega) (by intros; omega)
    · have m_7 : (-1) ≤ (g 193 (g 191 4)) ∧ (g 193 (g 191 4)) ≤ 9999 := I 193 (g 191 4)
      exact hQ _ (by intros; omega) (by intros; omega) (by intros; omega)
-- SpoutNews$Law.add(II)V
def fr_Law_add (a : Nat) (i : Int) : Prop := a = 197 ∨ a = 198 ∨ (a = 196 ∧ i = 2)
set_option maxRecDepth 100000 in
set_option maxHeartbeats 400000 in
theorem k_Law_add {l1 : Int} {l2 : Int} {g : zi_M} {Q : Int → zi_M → Prop} (I : zk_I g) (p1 : 0 ≤ l1 ∧ l1 ≤ 11) (p2 : (-8) ≤ l2 ∧ l2 ≤ 9999) (hQ : ∀ g' : zi_M, zk_I g' → zk_fr fr_Law_add g g' → Q 0 g') : w_Law_add l1 l2 g Q := by
  sorry
-- SpoutNews$LawReader.unit(LSpoutNews$Tokens;LSpoutNews$Law;)Z
def fr_LawReader_unit (a : Nat) (i : Int) : Prop := a = 197 ∨ a = 198 ∨ (a = 191 ∧ i = 4) ∨ (a = 191 ∧ i = 5) ∨ (a = 191 ∧ i = 6) ∨ (a = 196 ∧ i = 2)
set_option maxRecDepth 100000 in
set_option maxHeartbeats 400000 in
theorem k_LawReader_unit {g : zi_M} {Q : Int → zi_M → Prop} (I : zk_I g) (hQ : ∀ (v : Int) (g' : zi_M), zk_I g' → zk_fr fr_LawReader_unit g g' → (0 ≤ v ∧ v ≤ 1) → Q v g') : w_LawReader_unit g Q := by
  unfold w_LawReader_unit
  have m_4 : 0 ≤ (g 191 4) ∧ (g 191 4) ≤ 401 := I 191 4
  have m_5 : 0 ≤ (g 191 3) ∧ (g 191 3) ≤ 401 := I 191 3
  have m_6 : 0 ≤ (g 192 (g 191 4)) ∧ (g 192 (g 191 4)) ≤ 4 := I 192 (g 191 4)
  have m_7 : (-1) ≤ (g 193 (g 191 4)) ∧ (g 193 (g 191 4)) ≤ 9999 := I 193 (g 191 4)
  refine k_Tokens_number I (fun v1 b_1 b_2 b_3 => ?_)
  refine ⟨⟨by omega, by omega⟩, ?_⟩
  refine ⟨fun c31 => ?_, fun c31 => ?_⟩
  · refine k_Tokens_keyword I (fun v5 b_8 b_9 b_10 => ?_)
    refine ⟨⟨by omega, by omega⟩, ?_⟩
    refine ⟨fun c21 => ?_, fun c21 => ?_⟩
    · refine k_Tokens_refuse I ⟨by omega, by omega⟩ (fun v9 g10 I_12 F_13 b_11 => ?_)
      have F_14 : zk_fr fr_LawReader_unit g g10 := zk_ft (zk_f0 _) F_13 (fun a i => (fun h => Or.elim h (fun h => (Or.inr (Or.inr (Or.inr (Or.inl h))))) (fun h => (Or.inr (Or.inr (Or.inr (Or.inr (Or.inl h))))))))
      exact hQ _ _ I_12 F_14 ⟨by omega, by omega⟩
    · refine k_Tokens_keyword I (fun v12 b_15 b_16 b_17 => ?_)
      refine k_Law_add I ⟨by omega, by omega⟩ ⟨by omega, by omega⟩ (fun g16 I_18 F_19 => ?_)
      have F_20 : zk_fr fr_LawReader_unit g g16 := zk_ft (zk_f0 _) F_19 (fun a i => (fun h => Or.elim h (fun h => (Or.inl h)) (fun h => Or.elim h (fun h => (Or.inr (Or.inl h))) (fun h => (Or.inr (Or.inr (Or.inr (Or.inr (Or.inr h)))))))))
      refine k_Tokens_step I_18 (fun g19 I_21 F_22 => ?_)
      have F_23 : zk_fr fr_LawReader_unit g g19 := zk_ft F_20 F_22 (fun a i => (fun h => (Or.inr (Or.inr (Or.inl h)))))
      exact hQ _ _ I_21 F_23 ⟨by omega, by omega⟩
  · refine k_Tokens_number I (fun v22 b_24 b_25 b_26 => ?_)
    refine k_Law_add I ⟨by omega, by omega⟩ ⟨by omega, by omega⟩ (fun g26 I_27 F_28 => ?_)
    have F_29 : zk_fr fr_LawReader_unit g g26 := zk_ft (zk_f0 _) F_28 (fun a i => (fun h => Or.elim h (fun h => (Or.inl h)) (fun h => Or.elim h (fun h => (Or.inr (Or.inl h))) (fun h => (Or.inr (Or.inr (Or.inr (Or.inr (Or.inr h)))))))))
    refine k_Tokens_step I_27 (fun g29 I_30 F_31 => ?_)
    have F_32 : zk_fr fr_LawReader_unit g g29 := zk_ft F_29 F_31 (fun a i => (fun h => (Or.inr (Or.inr (Or.inl h)))))
    exact hQ _ _ I_30 F_32 ⟨by omega, by omega⟩
-- SpoutNews$LawReader.addLate(LSpoutNews$Law;I)V
def fr_LawReader_addLate (a : Nat) (i : Int) : Prop := a = 197 ∨ a = 198 ∨ (a = 196 ∧ i = 2)
set_option maxRecDepth 100000 in
set_option maxHeartbeats 400000 in
theorem k_LawReader_addLate {l2 : Int} {g : zi_M} {Q : Int → zi_M → Prop} (I : zk_I g) (p2 : (-1) ≤ l2 ∧ l2 ≤ 3) (hQ : ∀ g' : zi_M, zk_I g' → zk_fr fr_LawReader_addLate g g' → Q 0 g') : w_LawReader_addLate l2 g Q := by
  unfold w_LawReader_addLate
  refine ⟨⟨by omega, by omega⟩, ?_⟩
  refine ⟨fun c5 => ?_, fun c5 => ?_⟩
  · exact hQ _ I (zk_f0 _)
  · refine k_Law_add I ⟨by omega, by omega⟩ ⟨by omega, by omega⟩ (fun g3 I_1 F_2 => ?_)
    have F_3 : zk_fr fr_LawReader_addLate g g3 := zk_ft (zk_f0 _) F_2 (fun a i => (fun h => Or.elim h (fun h => (Or.inl h)) (fun h => Or.elim h (fun h => (Or.inr (Or.inl h))) (fun h => (Or.inr (Or.inr h))))))
    exact hQ _ I_1 F_3
-- SpoutNews$LawReader.part(LSpoutNews$Tokens;LSpoutNews$Law;)Z
def fr_LawReader_part (a : Nat) (i : Int) : Prop := a = 197 ∨ a = 198 ∨ (a = 191 ∧ i = 4) ∨ (a = 191 ∧ i = 5) ∨ (a = 191 ∧ i = 6) ∨ (a = 196 ∧ i = 2)
set_option maxRecDepth 100000 in
set_option maxHeartbeats 400000 in
theorem k_LawReader_part {g : zi_M} {Q : Int → zi_M → Prop} (I : zk_I g) (hQ : ∀ (v : Int) (g' : zi_M), zk_I g' → zk_fr fr_LawReader_part g g' → (0 ≤ v ∧ v ≤ 1) → Q v g') : w_LawReader_part g Q := by
  unfold w_LawReader_part
  have m_4 : 0 ≤ (g 191 4) ∧ (g 191 4) ≤ 401 := I 191 4
  have m_5 : 0 ≤ (g 191 3) ∧ (g 191 3) ≤ 401 := I 191 3
  have m_6 : 0 ≤ (g 192 (g 191 4)) ∧ (g 192 (g 191 4)) ≤ 4 := I 192 (g 191 4)
  have m_7 : (-1) ≤ (g 193 (g 191 4)) ∧ (g 193 (g 191 4)) ≤ 9999 := I 193 (g 191 4)
  refine k_Tokens_number I (fun v1 b_1 b_2 b_3 => ?_)
  refine ⟨⟨by omega, by omega⟩, ?_⟩
  refine ⟨fun c18 => ?_, fun c18 => ?_⟩
  · refine k_Law_add I ⟨by omega, by omega⟩ ⟨by omega, by omega⟩ (fun g6 I_8 F_9 => ?_)
    have F_10 : zk_fr fr_LawReader_part g g6 := zk_ft (zk_f0 _) F_9 (fun a i => (fun h => Or.elim h (fun h => (Or.inl h)) (fun h => Or.elim h (fun h => (Or.inr (Or.inl h))) (fun h => (Or.inr (Or.inr (Or.inr (Or.inr (Or.inr h)))))))))
    refine k_Tokens_step I_8 (fun g9 I_11 F_12 => ?_)
    have F_13 : zk_fr fr_LawReader_part g g9 := zk_ft F_10 F_12 (fun a i => (fun h => (Or.inr (Or.inr (Or.inl h)))))
    exact hQ _ _ I_11 F_13 ⟨by omega, by omega⟩
  · refine ⟨fun c17 => ?_, fun c17 => ?_⟩
    · refine k_Tokens_refuse I ⟨by omega, by omega⟩ (fun v11 g12 I_15 F_16 b_14 => ?_)
      have F_17 : zk_fr fr_LawReader_part g g12 := zk_ft (zk_f0 _) F_16 (fun a i => (fun h => Or.elim h (fun h => (Or.inr (Or.inr (Or.inr (Or.inl h))))) (fun h => (Or.inr (Or.inr (Or.inr (Or.inr (Or.inl h))))))))
      exact hQ _ _ I_15 F_17 ⟨by omega, by omega⟩
    · refine k_Tokens_refuse I ⟨by omega, by omega⟩ (fun v14 g15 I_19 F_20 b_18 => ?_)
      have F_21 : zk_fr fr_LawReader_part g g15 := zk_ft (zk_f0 _) F_20 (fun a i => (fun h => Or.elim h (fun h => (Or.inr (Or.inr (Or.inr (Or.inl h))))) (fun h => (Or.inr (Or.inr (Or.inr (Or.inr (Or.inl h))))))))
      exact hQ _ _ I_19 F_21 ⟨by omega, by omega⟩
-- SpoutNews$LawReader.sum(LSpoutNews$Tokens;LSpoutNews$Law;)Z
def fr_LawReader_sum (a : Nat) (i : Int) : Prop := a = 197 ∨ a = 198 ∨ (a = 191 ∧ i = 4) ∨ (a = 191 ∧ i = 5) ∨ (a = 191 ∧ i = 6) ∨ (a = 196 ∧ i = 2)
set_option maxRecDepth 100000 in
set_option maxHeartbeats 400000 in
theorem k_LawReader_sum_b99 {l4 : Int} {l5 : Int} {H : Int → Int → Int → zi_M → Prop} {K140 : Int → Int → zi_M → Prop} {Q : Int → zi_M → Prop} {g : zi_M} {g0 : zi_M} (I : zk_I g) (F : zk_fr fr_LawReader_sum g0 g) (p4 : (-1) ≤ l4 ∧ l4 ≤ 3) (p5 : 0 ≤ l5 ∧ l5 ≤ 399) (M : Int) (hM : 400 - l5 ≤ M) (hH : ∀ (m3 : Int) (m4 : Int) (m5 : Int) (g : zi_M), zk_I g → zk_fr fr_LawReader_sum g0 g → (0 ≤ m3 ∧ m3 ≤ 1) → ((-1) ≤ m4 ∧ m4 ≤ 3) → (0 ≤ m5 ∧ m5 ≤ 400) → 400 - m5 < M → H m3 m4 m5 g) (hK140 : ∀ (k3 : Int) (k4 : Int) (g : zi_M), zk_I g → zk_fr fr_LawReader_sum g0 g → (0 ≤ k3 ∧ k3 ≤ 1) → ((-1) ≤ k4 ∧ k4 ≤ 3) → K140 k3 k4 g) (hQ : ∀ (v : Int) (g' : zi_M), zk_I g' → zk_fr fr_LawReader_sum g0 g' → (0 ≤ v ∧ v ≤ 1) → Q v g') : w_LawReader_sum_b99 l4 l5 g H K140 Q := by
  unfold w_LawReader_sum_b99
  refine k_LawReader_addLate I ⟨by omega, by omega⟩ (fun g16 I_21 F_22 => ?_)
  have F_23 : zk_fr fr_LawReader_sum g0 g16 := zk_ft F F_22 (fun a i => (fun h => Or.elim h (fun h => (Or.inl h)) (fun h => Or.elim h (fun h => (Or.inr (Or.inl h))) (fun h => (Or.inr (Or.inr (Or.inr (Or.inr (Or.inr h)))))))))
  have m_28 : 0 ≤ (g16 191 4) ∧ (g16 191 4) ≤ 401 := I_21 191 4
  have m_29 : g16 191 4 = g 191 4 := F_22 _ _ (by unfold fr_LawReader_addLate; omega)
  have m_30 : 0 ≤ (g 191 4) ∧ (g 191 4) ≤ 401 := I 191 4
  have m_31 : 0 ≤ (g16 191 3) ∧ (g16 191 3) ≤ 401 := I_21 191 3
  have m_32 : g16 191 3 = g 191 3 := F_22 _ _ (by unfold fr_LawReader_addLate; omega)
  have m_33 : 0 ≤ (g 191 3) ∧ (g 191 3) ≤ 401 := I 191 3
  have m_34 : 0 ≤ (g16 192 (g16 191 4)) ∧ (g16 192 (g16 191 4)) ≤ 4 := I_21 192 (g16 191 4)
  have m_35 : g16 192 (g16 191 4) = g 192 (g16 191 4) := F_22 _ _ (by unfold fr_LawReader_addLate; omega)
  have m_36 : 0 ≤ (g 192 (g16 191 4)) ∧ (g 192 (g16 191 4)) ≤ 4 := I 192 (g16 191 4)
  have m_37 : (-1) ≤ (g16 193 (g16 191 4)) ∧ (g16 193 (g16 191 4)) ≤ 9999 := I_21 193 (g16 191 4)
  have m_38 : g16 193 (g16 191 4) = g 193 (g16 191 4) := F_22 _ _ (by unfold fr_LawReader_addLate; omega)
  have m_39 : (-1) ≤ (g 193 (g16 191 4)) ∧ (g 193 (g16 191 4)) ≤ 9999 := I 193 (g16 191 4)
  refine k_Tokens_isAt I_21 ⟨by omega, by omega⟩ ⟨by omega, by omega⟩ (fun v18 b_24 b_25 b_26 b_27 => ?_)
  refine ⟨fun c33 => ?_, fun c33 => ?_⟩
  · refine k_Tokens_step I_21 (fun g22 I_40 F_41 => ?_)
    have F_42 : zk_fr fr_LawReader_sum g0 g22 := zk_ft F_23 F_41 (fun a i => (fun h => (Or.inr (Or.inr (Or.inl h)))))
    refine k_LawReader_unit I_40 (fun v24 g25 I_44 F_45 b_43 => ?_)
    have F_46 : zk_fr fr_LawReader_sum g0 g25 := zk_ft F_42 F_45 (fun a i => (fun h => Or.elim h (fun h => (Or.inl h)) (fun h => Or.elim h (fun h => (Or.inr (Or.inl h))) (fun h => Or.elim h (fun h => (Or.inr (Or.inr (Or.inl h)))) (fun h => Or.elim h (fun h => (Or.inr (Or.inr (Or.inr (Or.inl h))))) (fun h => Or.elim h (fun h => (Or.inr (Or.inr (Or.inr (Or.inr (Or.inl h)))))) (fun h => (Or.inr (Or.inr (Or.inr (Or.inr (Or.inr h))))))))))))
    exact hH _ _ _ _ I_44 F_46 ⟨by omega, by omega⟩ ⟨by omega, by omega⟩ ⟨by omega, by omega⟩ (by omega)
  · refine k_Tokens_step I_21 (fun g28 I_47 F_48 => ?_)
    have F_49 : zk_fr fr_LawReader_sum g0 g28 := zk_ft F_23 F_48 (fun a i => (fun h => (Or.inr (Or.inr (Or.inl h)))))
    refine k_LawReader_unit I_47 (fun v30 g31 I_51 F_52 b_50 => ?_)
    have F_53 : zk_fr fr_LawReader_sum g0 g31 := zk_ft F_49 F_52 (fun a i => (fun h => Or.elim h (fun h => (Or.inl h)) (fun h => Or.elim h (fun h => (Or.inr (Or.inl h))) (fun h => Or.elim h (fun h => (Or.inr (Or.inr (Or.inl h)))) (fun h => Or.elim h (fun h => (Or.inr (Or.inr (Or.inr (Or.inl h))))) (fun h => Or.elim h (fun h => (Or.inr (Or.inr (Or.inr (Or.inr (Or.inl h)))))) (fun h => (Or.inr (Or.inr (Or.inr (Or.inr (Or.inr h))))))))))))
    exact hH _ _ _ _ I_51 F_53 ⟨by omega, by omega⟩ ⟨by omega, by omega⟩ ⟨by omega, by omega⟩ (by omega)
set_option maxRecDepth 100000 in
set_option maxHeartbeats 400000 in
theorem k_LawReader_sum_l13 {K140 : Int → Int → zi_M → Prop} {Q : Int → zi_M → Prop} {g0 : zi_M} (hK140 : ∀ (k3 : Int) (k4 : Int) (g : zi_M), zk_I g → zk_fr fr_LawReader_sum g0 g → (0 ≤ k3 ∧ k3 ≤ 1) → ((-1) ≤ k4 ∧ k4 ≤ 3) → K140 k3 k4 g) (hQ : ∀ (v : Int) (g' : zi_M), zk_I g' → zk_fr fr_LawReader_sum g0 g' → (0 ≤ v ∧ v ≤ 1) → Q v g') : ∀ (n : Nat) {l3 : Int} {l4 : Int} {l5 : Int} {g : zi_M}, zk_I g → zk_fr fr_LawReader_sum g0 g → (0 ≤ l3 ∧ l3 ≤ 1) → ((-1) ≤ l4 ∧ l4 ≤ 3) → (0 ≤ l5 ∧ l5 ≤ 400) → 400 - l5 < (n : Int) → w_LawReader_sum_l13 K140 Q n l3 l4 l5 g
  | 0, l3, l4, l5, g, I, F, b0, b1, b2, hm => by exfalso; omega
  | n + 1, l3, l4, l5, g, I, F, b0, b1, b2, hm => by
    unfold w_LawReader_sum_l13
    refine ⟨⟨by omega, by omega⟩, ?_⟩
    refine ⟨fun c57 => ?_, fun c57 => ?_⟩
    · exact hK140 _ _ _ I F ⟨by omega, by omega⟩ ⟨by omega, by omega⟩
    · refine ⟨⟨by omega, by omega⟩, ?_⟩
      refine ⟨fun c56 => ?_, fun c56 => ?_⟩
      · exact hK140 _ _ _ I F ⟨by omega, by omega⟩ ⟨by omega, by omega⟩
      · have m_9 : 0 ≤ (g 191 4) ∧ (g 191 4) ≤ 401 := I 191 4
        have m_10 : 0 ≤ (g 191 3) ∧ (g 191 3) ≤ 401 := I 191 3
        have m_11 : 0 ≤ (g 192 (g 191 4)) ∧ (g 192 (g 191 4)) ≤ 4 := I 192 (g 191 4)
        have m_12 : (-1) ≤ (g 193 (g 191 4)) ∧ (g 193 (g 191 4)) ≤ 9999 := I 193 (g 191 4)
        refine k_Tokens_isAt I ⟨by omega, by omega⟩ ⟨by omega, by omega⟩ (fun v6 b_5 b_6 b_7 b_8 => ?_)
        refine ⟨fun c55 => ?_, fun c55 => ?_⟩
        · refine k_Tokens_isAt I ⟨by omega, by omega⟩ ⟨by omega, by omega⟩ (fun v9 b_13 b_14 b_15 b_16 => ?_)
          refine ⟨fun c45 => ?_, fun c45 => ?_⟩
          · refine k_Tokens_isAt I ⟨by omega, by omega⟩ ⟨by omega, by omega⟩ (fun v12 b_17 b_18 b_19 b_20 => ?_)
            refine ⟨fun c38 => ?_, fun c38 => ?_⟩
            · exact k_LawReader_sum_b99 I F ⟨by omega, by omega⟩ ⟨by omega, by omega⟩ (n : Int) (by omega) (fun _ _ _ _ I F b0 b1 b2 hm => k_LawReader_sum_l13 hK140 hQ n I F b0 b1 b2 hm) hK140 hQ
            · refine k_Tokens_isAt I ⟨by omega, by omega⟩ ⟨by omega, by omega⟩ (fun v34 b_54 b_55 b_56 b_57 => ?_)
              refine ⟨fun c37 => ?_, fun c37 => ?_⟩
              · exact hK140 _ _ _ I F ⟨by omega, by omega⟩ ⟨by omega, by omega⟩
              · exact k_LawReader_sum_b99 I F ⟨by omega, by omega⟩ ⟨by omega, by omega⟩ (n : Int) (by omega) (fun _ _ _ _ I F b0 b1 b2 hm => k_LawReader_sum_l13 hK140 hQ n I F b0 b1 b2 hm) hK140 hQ
          · refine k_Tokens_step I (fun g40 I_58 F_59 => ?_)
            have F_60 : zk_fr fr_LawReader_sum g0 g40 := zk_ft F F_59 (fun a i => (fun h => (Or.inr (Or.inr (Or.inl h)))))
            refine k_LawReader_part I_58 (fun v42 g43 I_62 F_63 b_61 => ?_)
            have F_64 : zk_fr fr_LawReader_sum g0 g43 := zk_ft F_60 F_63 (fun a i => (fun h => Or.elim h (fun h => (Or.inl h)) (fun h => Or.elim h (fun h => (Or.inr (Or.inl h))) (fun h => Or.elim h (fun h => (Or.inr (Or.inr (Or.inl h)))) (fun h => Or.elim h (fun h => (Or.inr (Or.inr (Or.inr (Or.inl h))))) (fun h => Or.elim h (fun h => (Or.inr (Or.inr (Or.inr (Or.inr (Or.inl h)))))) (fun h => (Or.inr (Or.inr (Or.inr (Or.inr (Or.inr h))))))))))))
            exact k_LawReader_sum_l13 hK140 hQ n I_62 F_64 ⟨by omega, by omega⟩ ⟨by omega, by omega⟩ ⟨by omega, by omega⟩ (by omega)
        · refine k_Tokens_step I (fun g47 I_65 F_66 => ?_)
          have F_67 : zk_fr fr_LawReader_sum g0 g47 := zk_ft F F_66 (fun a i => (fun h => (Or.inr (Or.inr (Or.inl h)))))
          refine k_LawReader_unit I_65 (fun v49 g50 I_69 F_70 b_68 => ?_)
          have F_71 : zk_fr fr_LawReader_sum g0 g50 := zk_ft F_67 F_70 (fun a i => (fun h => Or.elim h (fun h => (Or.inl h)) (fun h => Or.elim h (fun h => (Or.inr (Or.inl h))) (fun h => Or.elim h (fun h => (Or.inr (Or.inr (Or.inl h)))) (fun h => Or.elim h (fun h => (Or.inr (Or.inr (Or.inr (Or.inl h))))) (fun h => Or.elim h (fun h => (Or.inr (Or.inr (Or.inr (Or.inr (Or.inl h)))))) (fun h => (Or.inr (Or.inr (Or.inr (Or.inr (Or.inr h))))))))))))
          refine k_Law_add I_69 ⟨by omega, by omega⟩ ⟨by omega, by omega⟩ (fun g53 I_72 F_73 => ?_)
          have F_74 : zk_fr fr_LawReader_sum g0 g53 := zk_ft F_71 F_73 (fun a i => (fun h => Or.elim h (fun h => (Or.inl h)) (fun h => Or.elim h (fun h => (Or.inr (Or.inl h))) (fun h => (Or.inr (Or.inr (Or.inr (Or.inr (Or.inr h)))))))))
          exact k_LawReader_sum_l13 hK140 hQ n I_72 F_74 ⟨by omega, by omega⟩ ⟨by omega, by omega⟩ ⟨by omega, by omega⟩ (by omega)
set_option maxRecDepth 100000 in
set_option maxHeartbeats 400000 in
theorem k_LawReader_sum {g : zi_M} {Q : Int → zi_M → Prop} (I : zk_I g) (hQ : ∀ (v : Int) (g' : zi_M), zk_I g' → zk_fr fr_LawReader_sum g g' → (0 ≤ v ∧ v ≤ 1) → Q v g') : w_LawReader_sum g Q := by
  unfold w_LawReader_sum
  refine k_LawReader_unit I (fun v1 g2 I_2 F_3 b_1 => ?_)
  have F_4 : zk_fr fr_LawReader_sum g g2 := zk_ft (zk_f0 _) F_3 (fun a i => (fun h => Or.elim h (fun h => (Or.inl h)) (fun h => Or.elim h (fun h => (Or.inr (Or.inl h))) (fun h => Or.elim h (fun h => (Or.inr (Or.inr (Or.inl h)))) (fun h => Or.elim h (fun h => (Or.inr (Or.inr (Or.inr (Or.inl h))))) (fun h => Or.elim h (fun h => (Or.inr (Or.inr (Or.inr (Or.inr (Or.inl h)))))) (fun h => (Or.inr (Or.inr (Or.inr (Or.inr (Or.inr h))))))))))))
  refine ⟨((400 - 0 : Int).toNat + 1), k_LawReader_sum_l13 (fun k58 k59 g60 I_75 F_76 b_77 b_78 => ?_) hQ ((400 - 0 : Int).toNat + 1) I_2 F_4 ⟨by omega, by omega⟩ ⟨by omega, by omega⟩ ⟨by omega, by omega⟩ (by omega)⟩
  refine k_LawReader_addLate I_75 ⟨by omega, by omega⟩ (fun g62 I_79 F_80 => ?_)
  have F_81 : zk_fr fr_LawReader_sum g g62 := zk_ft F_76 F_80 (fun a i => (fun h => Or.elim h (fun h => (Or.inl h)) (fun h => Or.elim h (fun h => (Or.inr (Or.inl h))) (fun h => (Or.inr (Or.inr (Or.inr (Or.inr (Or.inr h)))))))))
  refine ⟨(by omega), ?_⟩
  exact hQ _ _ I_79 F_81 ⟨by omega, by omega⟩
-- SpoutNews$Law.addLine(III)V
def fr_Law_addLine (a : Nat) (i : Int) : Prop := a = 199 ∨ a = 200 ∨ a = 201 ∨ a = 202 ∨ (a = 196 ∧ i = 7)
set_option maxRecDepth 100000 in
set_option maxHeartbeats 400000 in
theorem k_Law_addLine {l1 : Int} {l2 : Int} {l3 : Int} {g : zi_M} {Q : Int → zi_M → Prop} (I : zk_I g) (p1 : 0 ≤ l1 ∧ l1 ≤ 2) (p2 : 0 ≤ l2 ∧ l2 ≤ 400) (p3 : 0 ≤ l3 ∧ l3 ≤ 400) (hQ : ∀ g' : zi_M, zk_I g' → zk_fr fr_Law_addLine g g' → Q 0 g') : w_Law_addLine l1 l2 l3 g Q := by
  unfold w_Law_addLine
  have m_1 : 0 ≤ (g 196 7) ∧ (g 196 7) ≤ 16 := I 196 7
  refine ⟨⟨by omega, by omega⟩, ?_⟩
  refine ⟨fun c11 => ?_, fun c11 => ?_⟩
  · exact hQ _ I (zk_f0 _)
  · refine ⟨⟨by omega, by omega⟩, ?_⟩
    intro g3 e_2
    have I_3 : zk_I g3 := by rw [e_2]; exact zk_upd (L := (-2147483648)) (H := 2147483647) rfl rfl I ⟨by omega, by omega⟩
    have F_4 : zk_fr fr_Law_addLine g g3 := by rw [e_2]; exact zk_fu (zk_f0 _) (Or.inl rfl)
    have m_8 : 0 ≤ (g3 196 7) ∧ (g3 196 7) ≤ 16 := I_3 196 7
    have m_9 : g3 196 7 = g 196 7 := by rw [e_2]; exact zi_u_ne (by decide)
    refine ⟨⟨by omega, by omega⟩, ?_⟩
    intro g5 e_5
    have I_6 : zk_I g5 := by rw [e_5]; exact zk_upd (L := 0) (H := 400) rfl rfl I_3 ⟨by omega, by omega⟩
    have F_7 : zk_fr fr_Law_addLine g g5 := by rw [e_5]; exact zk_fu F_4 (Or.inr (Or.inl rfl))
    have m_13 : 0 ≤ (g5 196 7) ∧ (g5 196 7) ≤ 16 := I_6 196 7
    have m_14 : g5 196 7 = g3 196 7 := by rw [e_5]; exact zi_u_ne (by decide)
    refine ⟨⟨by omega, by omega⟩, ?_⟩
    intro g7 e_10
    have I_11 : zk_I g7 := by rw [e_10]; exact zk_upd (L := 0) (H := 400) rfl rfl I_6 ⟨by omega, by omega⟩
    have F_12 : zk_fr fr_Law_addLine g g7 := by rw [e_10]; exact zk_fu F_7 (Or.inr (Or.inr (Or.inl rfl)))
    have m_18 : 0 ≤ (g7 196 7) ∧ (g7 196 7) ≤ 16 := I_11 196 7
    have m_19 : g7 196 7 = g5 196 7 := by rw [e_10]; exact zi_u_ne (by decide)
    refine ⟨⟨by omega, by omega⟩, ?_⟩
    have m_20 : 0 ≤ (g7 196 2) ∧ (g7 196 2) ≤ 400 := I_11 196 2
    have m_21 : g7 196 2 = g5 196 2 := by rw [e_10]; exact zi_u_ne (by decide)
    have m_22 : 0 ≤ (g5 196 2) ∧ (g5 196 2) ≤ 400 := I_6 196 2
    have m_23 : g5 196 2 = g3 196 2 := by rw [e_5]; exact zi_u_ne (by decide)
    have m_24 : 0 ≤ (g3 196 2) ∧ (g3 196 2) ≤ 400 := I_3 196 2
    have m_25 : g3 196 2 = g 196 2 := by rw [e_2]; exact zi_u_ne (by decide)
    have m_26 : 0 ≤ (g 196 2) ∧ (g 196 2) ≤ 400 := I 196 2
    intro g9 e_15
    have I_16 : zk_I g9 := by rw [e_15]; exact zk_upd (L := 0) (H := 400) rfl rfl I_11 ⟨by omega, by omega⟩
    have F_17 : zk_fr fr_Law_addLine g g9 := by rw [e_15]; exact zk_fu F_12 (Or.inr (Or.inr (Or.inr (Or.inl rfl))))
    have m_30 : 0 ≤ (g9 196 7) ∧ (g9 196 7) ≤ 16 := I_16 196 7
    have m_31 : g9 196 7 = g7 196 7 := by rw [e_15]; exact zi_u_ne (by decide)
    intro g10 e_27
    have I_28 : zk_I g10 := by rw [e_27]; exact zk_upd (L := 0) (H := 16) rfl rfl I_16 ⟨by omega, by omega⟩
    have F_29 : zk_fr fr_Law_addLine g g10 := by rw [e_27]; exact zk_fu F_17 (Or.inr (Or.inr (Or.inr (Or.inr ⟨rfl, rfl⟩))))
    exact hQ _ I_28 F_29
-- SpoutNews$LawReader.push(I)V
def fr_LawReader_push (a : Nat) (i : Int) : Prop := a = 213 ∨ (a = 212 ∧ i = 1)
set_option maxRecDepth 100000 in
set_option maxHeartbeats 400000 in
theorem k_LawReader_push {l1 : Int} {g : zi_M} {Q : Int → zi_M → Prop} (I : zk_I g) (p1 : (-1) ≤ l1 ∧ l1 ≤ 9999) (hQ : ∀ g' : zi_M, zk_I g' → zk_fr fr_LawReader_push g g' → Q 0 g') : w_LawReader_push l1 g Q := by
  unfold w_LawReader_push
  have m_1 : 0 ≤ (g 212 1) ∧ (g 212 1) ≤ 40 := I 212 1
  refine ⟨⟨by omega, by omega⟩, ?_⟩
  refine ⟨fun c5 => ?_, fun c5 => ?_⟩
  · exact hQ _ I (zk_f0 _)
  · refine ⟨⟨by omega, by omega⟩, ?_⟩
    intro g3 e_2
    have I_3 : zk_I g3 := by rw [e_2]; exact zk_upd (L := (-2147483648)) (H := 2147483647) rfl rfl I ⟨by omega, by omega⟩
    have F_4 : zk_fr fr_LawReader_push g g3 := by rw [e_2]; exact zk_fu (zk_f0 _) (Or.inl rfl)
    have m_8 : 0 ≤ (g3 212 1) ∧ (g3 212 1) ≤ 40 := I_3 212 1
    have m_9 : g3 212 1 = g 212 1 := by rw [e_2]; exact zi_u_ne (by decide)
    intro g4 e_5
    have I_6 : zk_I g4 := by rw [e_5]; exact zk_upd (L := 0) (H := 40) rfl rfl I_3 ⟨by omega, by omega⟩
    have F_7 : zk_fr fr_LawReader_push g g4 := by rw [e_5]; exact zk_fu F_4 (Or.inr ⟨rfl, rfl⟩)
    exact hQ _ I_6 F_7
