-- by program (wip/gen/mkz.py)
-- SpoutNews$Law.clear()V
noncomputable def fr_Law_clear (a : Nat) (i : Int) : Prop := (a = 196 ∧ i = 2) ∨ (a = 196 ∧ i = 7)
set_option maxRecDepth 100000 in
set_option maxHeartbeats 4000000 in
theorem k_Law_clear {g : zi_M} {Q : Int → zi_M → Prop} (I : zk_I g) (hQ : ∀ g' : zi_M, zk_I g' → zk_fr fr_Law_clear g g' → Q 0 g') : w_Law_clear g Q := by
  unfold w_Law_clear
  intro g1 e_1
  have I_2 : zk_I g1 := by rw [e_1]; exact zk_upd (L := 0) (H := 400) rfl rfl I ⟨by omega, by omega⟩
  have F_3 : zk_fr fr_Law_clear g g1 := by rw [e_1]; exact zk_fu (zk_f0 _) (Or.inl ⟨rfl, rfl⟩)
  intro g2 e_4
  have I_5 : zk_I g2 := by rw [e_4]; exact zk_upd (L := 0) (H := 16) rfl rfl I_2 ⟨by omega, by omega⟩
  have F_6 : zk_fr fr_Law_clear g g2 := by rw [e_4]; exact zk_fu F_3 (Or.inr ⟨rfl, rfl⟩)
  exact hQ _ I_5 F_6
-- SpoutNews$Tokens.isAtEnd()Z
set_option maxRecDepth 100000 in
set_option maxHeartbeats 4000000 in
theorem k_Tokens_isAtEnd {g : zi_M} {Q : Int → zi_M → Prop} (I : zk_I g) (hQ : ∀ v : Int, ((g 191 3) ≤ (g 191 4) → v = 1) → ((g 191 4) < (g 191 3) → ¬ (g 192 (g 191 4)) = 4 → v = 0) → ((g 191 4) < (g 191 3) → (g 192 (g 191 4)) = 4 → v = 1) → Q v g) : w_Tokens_isAtEnd g Q := by
  unfold w_Tokens_isAtEnd
  have m_1 : 0 ≤ (g 191 4) ∧ (g 191 4) ≤ 401 := I.1 191 4
  have m_2 : 0 ≤ (g 191 3) ∧ (g 191 3) ≤ 401 := I.1 191 3
  refine ⟨⟨by omega, by omega⟩, ⟨by omega, by omega⟩, ?_⟩
  refine ⟨fun c6 => ?_, fun c6 => ?_⟩
  · have m_3 : 0 ≤ (g 192 (g 191 4)) ∧ (g 192 (g 191 4)) ≤ 4 := I.1 192 (g 191 4)
    exact hQ _ (by intros; omega) (by intros; omega) (by intros; omega)
  · refine ⟨⟨by omega, by omega⟩, ?_⟩
    have m_4 : 0 ≤ (g 192 (g 191 4)) ∧ (g 192 (g 191 4)) ≤ 4 := I.1 192 (g 191 4)
    refine ⟨⟨by omega, by omega⟩, ?_⟩
    refine ⟨fun c5 => ?_, fun c5 => ?_⟩
    · exact hQ _ (by intros; omega) (by intros; omega) (by intros; omega)
    · exact hQ _ (by intros; omega) (by intros; omega) (by intros; omega)
-- SpoutNews$Tokens.keyword()I
set_option maxRecDepth 100000 in
set_option maxHeartbeats 4000000 in
theorem k_Tokens_keyword {g : zi_M} {Q : Int → zi_M → Prop} (I : zk_I g) (hQ : ∀ v : Int, ((g 191 3) ≤ (g 191 4) → v = (-1)) → ((g 191 4) < (g 191 3) → ¬ (g 192 (g 191 4)) = 2 → v = (-1)) → ((g 191 4) < (g 191 3) → (g 192 (g 191 4)) = 2 → v = g 193 (g 191 4)) → Q v g) : w_Tokens_keyword g Q := by
  unfold w_Tokens_keyword
  have m_1 : 0 ≤ (g 191 4) ∧ (g 191 4) ≤ 401 := I.1 191 4
  have m_2 : 0 ≤ (g 191 3) ∧ (g 191 3) ≤ 401 := I.1 191 3
  refine ⟨⟨by omega, by omega⟩, ⟨by omega, by omega⟩, ?_⟩
  refine ⟨fun c6 => ?_, fun c6 => ?_⟩
  · have m_3 : 0 ≤ (g 192 (g 191 4)) ∧ (g 192 (g 191 4)) ≤ 4 := I.1 192 (g 191 4)
    have m_4 : (-1) ≤ (g 193 (g 191 4)) ∧ (g 193 (g 191 4)) ≤ 9999 := I.1 193 (g 191 4)
    exact hQ _ (by intros; omega) (by intros; omega) (by intros; omega)
  · refine ⟨⟨by omega, by omega⟩, ?_⟩
    have m_5 : 0 ≤ (g 192 (g 191 4)) ∧ (g 192 (g 191 4)) ≤ 4 := I.1 192 (g 191 4)
    refine ⟨⟨by omega, by omega⟩, ?_⟩
    refine ⟨fun c5 => ?_, fun c5 => ?_⟩
    · have m_6 : (-1) ≤ (g 193 (g 191 4)) ∧ (g 193 (g 191 4)) ≤ 9999 := I.1 193 (g 191 4)
      exact hQ _ (by intros; omega) (by intros; omega) (by intros; omega)
    · have m_7 : (-1) ≤ (g 193 (g 191 4)) ∧ (g 193 (g 191 4)) ≤ 9999 := I.1 193 (g 191 4)
      exact hQ _ (by intros; omega) (by intros; omega) (by intros; omega)
-- SpoutNews$Tokens.isAt(II)Z
set_option maxRecDepth 100000 in
set_option maxHeartbeats 4000000 in
theorem k_Tokens_isAt {l1 : Int} {l2 : Int} {g : zi_M} {Q : Int → zi_M → Prop} (I : zk_I g) (p1 : 2 ≤ l1 ∧ l1 ≤ 3) (p2 : 0 ≤ l2 ∧ l2 ≤ 62) (hQ : ∀ v : Int, ((g 191 3) ≤ (g 191 4) → v = 0) → ((g 191 4) < (g 191 3) → ¬ (g 192 (g 191 4)) = l1 → v = 0) → ((g 191 4) < (g 191 3) → (g 192 (g 191 4)) = l1 → ¬ (g 193 (g 191 4)) = l2 → v = 0) → ((g 191 4) < (g 191 3) → (g 192 (g 191 4)) = l1 → (g 193 (g 191 4)) = l2 → v = 1) → Q v g) : w_Tokens_isAt l1 l2 g Q := by
  unfold w_Tokens_isAt
  have m_1 : 0 ≤ (g 191 4) ∧ (g 191 4) ≤ 401 := I.1 191 4
  have m_2 : 0 ≤ (g 191 3) ∧ (g 191 3) ≤ 401 := I.1 191 3
  refine ⟨⟨by omega, by omega⟩, ⟨by omega, by omega⟩, ?_⟩
  refine ⟨fun c10 => ?_, fun c10 => ?_⟩
  · have m_3 : 0 ≤ (g 192 (g 191 4)) ∧ (g 192 (g 191 4)) ≤ 4 := I.1 192 (g 191 4)
    have m_4 : (-1) ≤ (g 193 (g 191 4)) ∧ (g 193 (g 191 4)) ≤ 9999 := I.1 193 (g 191 4)
    exact hQ _ (by intros; omega) (by intros; omega) (by intros; omega) (by intros; omega)
  · refine ⟨⟨by omega, by omega⟩, ?_⟩
    have m_5 : 0 ≤ (g 192 (g 191 4)) ∧ (g 192 (g 191 4)) ≤ 4 := I.1 192 (g 191 4)
    refine ⟨⟨by omega, by omega⟩, ⟨by omega, by omega⟩, ?_⟩
    refine ⟨fun c9 => ?_, fun c9 => ?_⟩
    · have m_6 : (-1) ≤ (g 193 (g 191 4)) ∧ (g 193 (g 191 4)) ≤ 9999 := I.1 193 (g 191 4)
      exact hQ _ (by intros; omega) (by intros; omega) (by intros; omega) (by intros; omega)
    · have m_7 : (-1) ≤ (g 193 (g 191 4)) ∧ (g 193 (g 191 4)) ≤ 9999 := I.1 193 (g 191 4)
      refine ⟨⟨by omega, by omega⟩, ⟨by omega, by omega⟩, ?_⟩
      refine ⟨fun c8 => ?_, fun c8 => ?_⟩
      · exact hQ _ (by intros; omega) (by intros; omega) (by intros; omega) (by intros; omega)
      · exact hQ _ (by intros; omega) (by intros; omega) (by intros; omega) (by intros; omega)
-- SpoutNews$Tokens.step()V
noncomputable def fr_Tokens_step (a : Nat) (i : Int) : Prop := (a = 191 ∧ i = 4)
set_option maxRecDepth 100000 in
set_option maxHeartbeats 4000000 in
theorem k_Tokens_step {g : zi_M} {Q : Int → zi_M → Prop} (I : zk_I g) (hQ : ∀ g' : zi_M, zk_I g' → zk_fr fr_Tokens_step g g' → Q 0 g') : w_Tokens_step g Q := by
  unfold w_Tokens_step
  have m_1 : 0 ≤ (g 191 4) ∧ (g 191 4) ≤ 401 := I.1 191 4
  have m_2 : 0 ≤ (g 191 3) ∧ (g 191 3) ≤ 401 := I.1 191 3
  refine ⟨⟨by omega, by omega⟩, ⟨by omega, by omega⟩, ?_⟩
  refine ⟨fun c4 => ?_, fun c4 => ?_⟩
  · exact hQ _ I (zk_f0 _)
  · intro g3 e_3
    have I_4 : zk_I g3 := by rw [e_3]; exact zk_upd (L := 0) (H := 401) rfl rfl I ⟨by omega, by omega⟩
    have F_5 : zk_fr fr_Tokens_step g g3 := by rw [e_3]; exact zk_fu (zk_f0 _) ⟨rfl, rfl⟩
    exact hQ _ I_4 F_5
-- SpoutNews$Tokens.refuse(I)Z
noncomputable def fr_Tokens_refuse (a : Nat) (i : Int) : Prop := (a = 191 ∧ i = 5) ∨ (a = 191 ∧ i = 6)
set_option maxRecDepth 100000 in
set_option maxHeartbeats 4000000 in
theorem k_Tokens_refuse {l1 : Int} {g : zi_M} {Q : Int → zi_M → Prop} (I : zk_I g) (p1 : 1 ≤ l1 ∧ l1 ≤ 3) (hQ : ∀ (v : Int) (g' : zi_M), zk_I g' → zk_fr fr_Tokens_refuse g g' → (0 ≤ v ∧ v ≤ 0) → Q v g') : w_Tokens_refuse l1 g Q := by
  unfold w_Tokens_refuse
  intro g1 e_1
  have I_2 : zk_I g1 := by rw [e_1]; exact zk_upd (L := 0) (H := 3) rfl rfl I ⟨by omega, by omega⟩
  have F_3 : zk_fr fr_Tokens_refuse g g1 := by rw [e_1]; exact zk_fu (zk_f0 _) (Or.inl ⟨rfl, rfl⟩)
  have m_4 : 0 ≤ (g1 191 4) ∧ (g1 191 4) ≤ 401 := I_2.1 191 4
  have m_5 : g1 191 4 = g 191 4 := by rw [e_1]; exact zi_u_ni (by decide)
  have m_6 : 0 ≤ (g 191 4) ∧ (g 191 4) ≤ 401 := I.1 191 4
  have m_7 : 0 ≤ (g1 191 3) ∧ (g1 191 3) ≤ 401 := I_2.1 191 3
  have m_8 : g1 191 3 = g 191 3 := by rw [e_1]; exact zi_u_ni (by decide)
  have m_9 : 0 ≤ (g 191 3) ∧ (g 191 3) ≤ 401 := I.1 191 3
  refine ⟨⟨by omega, by omega⟩, ⟨by omega, by omega⟩, ?_⟩
  refine ⟨fun c7 => ?_, fun c7 => ?_⟩
  · intro g4 e_10
    have I_11 : zk_I g4 := by rw [e_10]; exact zk_upd (L := (-1)) (H := 400) rfl rfl I_2 ⟨by omega, by omega⟩
    have F_12 : zk_fr fr_Tokens_refuse g g4 := by rw [e_10]; exact zk_fu F_3 (Or.inr ⟨rfl, rfl⟩)
    exact hQ _ _ I_11 F_12 ⟨by omega, by omega⟩
  · refine ⟨⟨by omega, by omega⟩, ?_⟩
    have m_16 : 0 ≤ (g1 194 (g1 191 4)) ∧ (g1 194 (g1 191 4)) ≤ 400 := I_2.1 194 (g1 191 4)
    have m_17 : g1 194 (g1 191 4) = g 194 (g1 191 4) := by rw [e_1]; exact zi_u_ne (by decide)
    have m_18 : 0 ≤ (g 194 (g1 191 4)) ∧ (g 194 (g1 191 4)) ≤ 400 := I.1 194 (g1 191 4)
    intro g6 e_13
    have I_14 : zk_I g6 := by rw [e_13]; exact zk_upd (L := (-1)) (H := 400) rfl rfl I_2 ⟨by omega, by omega⟩
    have F_15 : zk_fr fr_Tokens_refuse g g6 := by rw [e_13]; exact zk_fu F_3 (Or.inr ⟨rfl, rfl⟩)
    exact hQ _ _ I_14 F_15 ⟨by omega, by omega⟩
-- SpoutNews$Tokens.take(II)Z
noncomputable def fr_Tokens_take (a : Nat) (i : Int) : Prop := (a = 191 ∧ i = 4) ∨ (a = 191 ∧ i = 5) ∨ (a = 191 ∧ i = 6)
set_option maxRecDepth 100000 in
set_option maxHeartbeats 4000000 in
theorem k_Tokens_take {l1 : Int} {l2 : Int} {g : zi_M} {Q : Int → zi_M → Prop} (I : zk_I g) (p1 : 2 ≤ l1 ∧ l1 ≤ 3) (p2 : 0 ≤ l2 ∧ l2 ≤ 59) (hQ : ∀ (v : Int) (g' : zi_M), zk_I g' → zk_fr fr_Tokens_take g g' → (0 ≤ v ∧ v ≤ 1) → Q v g') : w_Tokens_take l1 l2 g Q := by
  unfold w_Tokens_take
  have m_5 : 0 ≤ (g 191 4) ∧ (g 191 4) ≤ 401 := I.1 191 4
  have m_6 : 0 ≤ (g 191 3) ∧ (g 191 3) ≤ 401 := I.1 191 3
  have m_7 : 0 ≤ (g 192 (g 191 4)) ∧ (g 192 (g 191 4)) ≤ 4 := I.1 192 (g 191 4)
  have m_8 : (-1) ≤ (g 193 (g 191 4)) ∧ (g 193 (g 191 4)) ≤ 9999 := I.1 193 (g 191 4)
  refine k_Tokens_isAt I ⟨by omega, by omega⟩ ⟨by omega, by omega⟩ (fun v1 b_1 b_2 b_3 b_4 => ?_)
  refine ⟨fun c10 => ?_, fun c10 => ?_⟩
  · refine k_Tokens_step I (fun g5 I_9 F_10 => ?_)
    have F_11 : zk_fr fr_Tokens_take g g5 := zk_ft (zk_f0 _) F_10 (fun a i => (fun h => (Or.inl h)))
    exact hQ _ _ I_9 F_11 ⟨by omega, by omega⟩
  · refine k_Tokens_refuse I ⟨by omega, by omega⟩ (fun v7 g8 I_13 F_14 b_12 => ?_)
    have F_15 : zk_fr fr_Tokens_take g g8 := zk_ft (zk_f0 _) F_14 (fun a i => (fun h => Or.elim h (fun h => (Or.inr (Or.inl h))) (fun h => (Or.inr (Or.inr h)))))
    exact hQ _ _ I_13 F_15 ⟨by omega, by omega⟩
-- SpoutNews$Tokens.takeLineStart(II)Z
noncomputable def fr_Tokens_takeLineStart (a : Nat) (i : Int) : Prop := (a = 191 ∧ i = 4) ∨ (a = 191 ∧ i = 5) ∨ (a = 191 ∧ i = 6)
set_option maxRecDepth 100000 in
set_option maxHeartbeats 4000000 in
theorem k_Tokens_takeLineStart {l1 : Int} {l2 : Int} {g : zi_M} {Q : Int → zi_M → Prop} (I : zk_I g) (p1 : 0 ≤ l1 ∧ l1 ≤ 7) (p2 : 0 ≤ l2 ∧ l2 ≤ 17) (hQ : ∀ (v : Int) (g' : zi_M), zk_I g' → zk_fr fr_Tokens_takeLineStart g g' → (0 ≤ v ∧ v ≤ 1) → Q v g') : w_Tokens_takeLineStart l1 l2 g Q := by
  unfold w_Tokens_takeLineStart
  have m_5 : 0 ≤ (g 191 4) ∧ (g 191 4) ≤ 401 := I.1 191 4
  have m_6 : 0 ≤ (g 191 3) ∧ (g 191 3) ≤ 401 := I.1 191 3
  have m_7 : 0 ≤ (g 192 (g 191 4)) ∧ (g 192 (g 191 4)) ≤ 4 := I.1 192 (g 191 4)
  have m_8 : (-1) ≤ (g 193 (g 191 4)) ∧ (g 193 (g 191 4)) ≤ 9999 := I.1 193 (g 191 4)
  refine k_Tokens_isAt I ⟨by omega, by omega⟩ ⟨by omega, by omega⟩ (fun v1 b_1 b_2 b_3 b_4 => ?_)
  refine ⟨fun c15 => ?_, fun c15 => ?_⟩
  · refine k_Tokens_take I ⟨by omega, by omega⟩ ⟨by omega, by omega⟩ (fun v4 g5 I_10 F_11 b_9 => ?_)
    have F_12 : zk_fr fr_Tokens_takeLineStart g g5 := zk_ft (zk_f0 _) F_11 (fun a i => (fun h => Or.elim h (fun h => (Or.inl h)) (fun h => Or.elim h (fun h => (Or.inr (Or.inl h))) (fun h => (Or.inr (Or.inr h))))))
    exact hQ _ _ I_10 F_12 ⟨by omega, by omega⟩
  · refine ⟨⟨by omega, by omega⟩, ?_⟩
    refine ⟨fun c14 => ?_, fun c14 => ?_⟩
    · refine k_Tokens_take I ⟨by omega, by omega⟩ ⟨by omega, by omega⟩ (fun v8 g9 I_14 F_15 b_13 => ?_)
      have F_16 : zk_fr fr_Tokens_takeLineStart g g9 := zk_ft (zk_f0 _) F_15 (fun a i => (fun h => Or.elim h (fun h => (Or.inl h)) (fun h => Or.elim h (fun h => (Or.inr (Or.inl h))) (fun h => (Or.inr (Or.inr h))))))
      exact hQ _ _ I_14 F_16 ⟨by omega, by omega⟩
    · refine k_Tokens_refuse I ⟨by omega, by omega⟩ (fun v11 g12 I_18 F_19 b_17 => ?_)
      have F_20 : zk_fr fr_Tokens_takeLineStart g g12 := zk_ft (zk_f0 _) F_19 (fun a i => (fun h => Or.elim h (fun h => (Or.inr (Or.inl h))) (fun h => (Or.inr (Or.inr h)))))
      exact hQ _ _ I_18 F_20 ⟨by omega, by omega⟩
-- SpoutNews$Tokens.number()I
set_option maxRecDepth 100000 in
set_option maxHeartbeats 4000000 in
theorem k_Tokens_number {g : zi_M} {Q : Int → zi_M → Prop} (I : zk_I g) (hQ : ∀ v : Int, ((g 191 3) ≤ (g 191 4) → v = (-1)) → ((g 191 4) < (g 191 3) → ¬ (g 192 (g 191 4)) = 1 → v = (-1)) → ((g 191 4) < (g 191 3) → (g 192 (g 191 4)) = 1 → v = g 193 (g 191 4)) → Q v g) : w_Tokens_number g Q := by
  unfold w_Tokens_number
  have m_1 : 0 ≤ (g 191 4) ∧ (g 191 4) ≤ 401 := I.1 191 4
  have m_2 : 0 ≤ (g 191 3) ∧ (g 191 3) ≤ 401 := I.1 191 3
  refine ⟨⟨by omega, by omega⟩, ⟨by omega, by omega⟩, ?_⟩
  refine ⟨fun c6 => ?_, fun c6 => ?_⟩
  · have m_3 : 0 ≤ (g 192 (g 191 4)) ∧ (g 192 (g 191 4)) ≤ 4 := I.1 192 (g 191 4)
    have m_4 : (-1) ≤ (g 193 (g 191 4)) ∧ (g 193 (g 191 4)) ≤ 9999 := I.1 193 (g 191 4)
    exact hQ _ (by intros; omega) (by intros; omega) (by intros; omega)
  · refine ⟨⟨by omega, by omega⟩, ?_⟩
    have m_5 : 0 ≤ (g 192 (g 191 4)) ∧ (g 192 (g 191 4)) ≤ 4 := I.1 192 (g 191 4)
    refine ⟨⟨by omega, by omega⟩, ?_⟩
    refine ⟨fun c5 => ?_, fun c5 => ?_⟩
    · have m_6 : (-1) ≤ (g 193 (g 191 4)) ∧ (g 193 (g 191 4)) ≤ 9999 := I.1 193 (g 191 4)
      exact hQ _ (by intros; omega) (by intros; omega) (by intros; omega)
    · have m_7 : (-1) ≤ (g 193 (g 191 4)) ∧ (g 193 (g 191 4)) ≤ 9999 := I.1 193 (g 191 4)
      exact hQ _ (by intros; omega) (by intros; omega) (by intros; omega)
-- SpoutNews$Law.add(II)V
noncomputable def fr_Law_add (a : Nat) (i : Int) : Prop := a = 197 ∨ a = 198 ∨ (a = 196 ∧ i = 2)
set_option maxRecDepth 100000 in
set_option maxHeartbeats 4000000 in
theorem k_Law_add {l1 : Int} {l2 : Int} {g : zi_M} {Q : Int → zi_M → Prop} (I : zk_I g) (p1 : 0 ≤ l1 ∧ l1 ≤ 11) (p2 : 0 ≤ l2 ∧ l2 ≤ 9999) (hQ : ∀ g' : zi_M, zk_I g' → zk_fr fr_Law_add g g' → Q 0 g') : w_Law_add l1 l2 g Q := by
  unfold w_Law_add
  have m_1 : 0 ≤ (g 196 2) ∧ (g 196 2) ≤ 400 := I.1 196 2
  refine ⟨⟨by omega, by omega⟩, ?_⟩
  refine ⟨fun c7 => ?_, fun c7 => ?_⟩
  · exact hQ _ I (zk_f0 _)
  · refine ⟨⟨by omega, by omega⟩, ?_⟩
    intro g3 e_2
    have I_3 : zk_I g3 := by rw [e_2]; exact zk_upd (L := (-2147483648)) (H := 2147483647) rfl rfl I ⟨by omega, by omega⟩
    have F_4 : zk_fr fr_Law_add g g3 := by rw [e_2]; exact zk_fu (zk_f0 _) (Or.inl rfl)
    have m_8 : 0 ≤ (g3 196 2) ∧ (g3 196 2) ≤ 400 := I_3.1 196 2
    have m_9 : g3 196 2 = g 196 2 := by rw [e_2]; exact zi_u_ne (by decide)
    refine ⟨⟨by omega, by omega⟩, ?_⟩
    intro g5 e_5
    have I_6 : zk_I g5 := by rw [e_5]; exact zk_upd (L := 0) (H := 9999) rfl rfl I_3 ⟨by omega, by omega⟩
    have F_7 : zk_fr fr_Law_add g g5 := by rw [e_5]; exact zk_fu F_4 (Or.inr (Or.inl rfl))
    have m_13 : 0 ≤ (g5 196 2) ∧ (g5 196 2) ≤ 400 := I_6.1 196 2
    have m_14 : g5 196 2 = g3 196 2 := by rw [e_5]; exact zi_u_ne (by decide)
    intro g6 e_10
    have I_11 : zk_I g6 := by rw [e_10]; exact zk_upd (L := 0) (H := 400) rfl rfl I_6 ⟨by omega, by omega⟩
    have F_12 : zk_fr fr_Law_add g g6 := by rw [e_10]; exact zk_fu F_7 (Or.inr (Or.inr ⟨rfl, rfl⟩))
    exact hQ _ I_11 F_12
-- SpoutNews$LawReader.unit(LSpoutNews$Tokens;LSpoutNews$Law;)Z
noncomputable def fr_LawReader_unit (a : Nat) (i : Int) : Prop := a = 197 ∨ a = 198 ∨ (a = 191 ∧ i = 4) ∨ (a = 191 ∧ i = 5) ∨ (a = 191 ∧ i = 6) ∨ (a = 196 ∧ i = 2)
set_option maxRecDepth 100000 in
set_option maxHeartbeats 4000000 in
theorem k_LawReader_unit {g : zi_M} {Q : Int → zi_M → Prop} (I : zk_I g) (hQ : ∀ (v : Int) (g' : zi_M), zk_I g' → zk_fr fr_LawReader_unit g g' → (0 ≤ v ∧ v ≤ 1) → Q v g') : w_LawReader_unit g Q := by
  unfold w_LawReader_unit
  have m_4 : 0 ≤ (g 191 4) ∧ (g 191 4) ≤ 401 := I.1 191 4
  have m_5 : 0 ≤ (g 191 3) ∧ (g 191 3) ≤ 401 := I.1 191 3
  have m_6 : 0 ≤ (g 192 (g 191 4)) ∧ (g 192 (g 191 4)) ≤ 4 := I.1 192 (g 191 4)
  have m_7 : (-1) ≤ (g 193 (g 191 4)) ∧ (g 193 (g 191 4)) ≤ 9999 := I.1 193 (g 191 4)
  refine k_Tokens_number I (fun v1 b_1 b_2 b_3 => ?_)
  refine ⟨⟨by omega, by omega⟩, ?_⟩
  refine ⟨fun c31 => ?_, fun c31 => ?_⟩
  · refine k_Tokens_keyword I (fun v5 b_8 b_9 b_10 => ?_)
    refine ⟨⟨by omega, by omega⟩, ?_⟩
    refine ⟨fun c21 => ?_, fun c21 => ?_⟩
    · refine k_Tokens_refuse I ⟨by omega, by omega⟩ (fun v9 g10 I_12 F_13 b_11 => ?_)
      have F_14 : zk_fr fr_LawReader_unit g g10 := zk_ft (zk_f0 _) F_13 (fun a i => (fun h => Or.elim h (fun h => (Or.inr (Or.inr (Or.inr (Or.inl h))))) (fun h => (Or.inr (Or.inr (Or.inr (Or.inr (Or.inl h))))))))
      exact hQ _ _ I_12 F_14 ⟨by omega, by omega⟩
    · refine k_Tokens_keyword I (fun v12 b_15 b_16 b_17 => ?_)
      refine k_Law_add I ⟨by omega, by omega⟩ ⟨by omega, by omega⟩ (fun g16 I_18 F_19 => ?_)
      have F_20 : zk_fr fr_LawReader_unit g g16 := zk_ft (zk_f0 _) F_19 (fun a i => (fun h => Or.elim h (fun h => (Or.inl h)) (fun h => Or.elim h (fun h => (Or.inr (Or.inl h))) (fun h => (Or.inr (Or.inr (Or.inr (Or.inr (Or.inr h)))))))))
      refine k_Tokens_step I_18 (fun g19 I_21 F_22 => ?_)
      have F_23 : zk_fr fr_LawReader_unit g g19 := zk_ft F_20 F_22 (fun a i => (fun h => (Or.inr (Or.inr (Or.inl h)))))
      exact hQ _ _ I_21 F_23 ⟨by omega, by omega⟩
  · refine k_Tokens_number I (fun v22 b_24 b_25 b_26 => ?_)
    refine k_Law_add I ⟨by omega, by omega⟩ ⟨by omega, by omega⟩ (fun g26 I_27 F_28 => ?_)
    have F_29 : zk_fr fr_LawReader_unit g g26 := zk_ft (zk_f0 _) F_28 (fun a i => (fun h => Or.elim h (fun h => (Or.inl h)) (fun h => Or.elim h (fun h => (Or.inr (Or.inl h))) (fun h => (Or.inr (Or.inr (Or.inr (Or.inr (Or.inr h)))))))))
    refine k_Tokens_step I_27 (fun g29 I_30 F_31 => ?_)
    have F_32 : zk_fr fr_LawReader_unit g g29 := zk_ft F_29 F_31 (fun a i => (fun h => (Or.inr (Or.inr (Or.inl h)))))
    exact hQ _ _ I_30 F_32 ⟨by omega, by omega⟩
-- SpoutNews$LawReader.addLate(LSpoutNews$Law;I)V
noncomputable def fr_LawReader_addLate (a : Nat) (i : Int) : Prop := a = 197 ∨ a = 198 ∨ (a = 196 ∧ i = 2)
set_option maxRecDepth 100000 in
set_option maxHeartbeats 4000000 in
theorem k_LawReader_addLate {l2 : Int} {g : zi_M} {Q : Int → zi_M → Prop} (I : zk_I g) (p2 : (-1) ≤ l2 ∧ l2 ≤ 3) (hQ : ∀ g' : zi_M, zk_I g' → zk_fr fr_LawReader_addLate g g' → Q 0 g') : w_LawReader_addLate l2 g Q := by
  unfold w_LawReader_addLate
  refine ⟨⟨by omega, by omega⟩, ?_⟩
  refine ⟨fun c5 => ?_, fun c5 => ?_⟩
  · exact hQ _ I (zk_f0 _)
  · refine k_Law_add I ⟨by omega, by omega⟩ ⟨by omega, by omega⟩ (fun g3 I_1 F_2 => ?_)
    have F_3 : zk_fr fr_LawReader_addLate g g3 := zk_ft (zk_f0 _) F_2 (fun a i => (fun h => Or.elim h (fun h => (Or.inl h)) (fun h => Or.elim h (fun h => (Or.inr (Or.inl h))) (fun h => (Or.inr (Or.inr h))))))
    exact hQ _ I_1 F_3
-- SpoutNews$LawReader.part(LSpoutNews$Tokens;LSpoutNews$Law;)Z
noncomputable def fr_LawReader_part (a : Nat) (i : Int) : Prop := a = 197 ∨ a = 198 ∨ (a = 191 ∧ i = 4) ∨ (a = 191 ∧ i = 5) ∨ (a = 191 ∧ i = 6) ∨ (a = 196 ∧ i = 2)
set_option maxRecDepth 100000 in
set_option maxHeartbeats 4000000 in
theorem k_LawReader_part {g : zi_M} {Q : Int → zi_M → Prop} (I : zk_I g) (hQ : ∀ (v : Int) (g' : zi_M), zk_I g' → zk_fr fr_LawReader_part g g' → (0 ≤ v ∧ v ≤ 1) → Q v g') : w_LawReader_part g Q := by
  unfold w_LawReader_part
  have m_4 : 0 ≤ (g 191 4) ∧ (g 191 4) ≤ 401 := I.1 191 4
  have m_5 : 0 ≤ (g 191 3) ∧ (g 191 3) ≤ 401 := I.1 191 3
  have m_6 : 0 ≤ (g 192 (g 191 4)) ∧ (g 192 (g 191 4)) ≤ 4 := I.1 192 (g 191 4)
  have m_7 : (-1) ≤ (g 193 (g 191 4)) ∧ (g 193 (g 191 4)) ≤ 9999 := I.1 193 (g 191 4)
  refine k_Tokens_number I (fun v1 b_1 b_2 b_3 => ?_)
  refine ⟨⟨by omega, by omega⟩, ?_⟩
  refine ⟨fun c18 => ?_, fun c18 => ?_⟩
  · refine k_Law_add I ⟨by omega, by omega⟩ ⟨by omega, by omega⟩ (fun g6 I_8 F_9 => ?_)
    have F_10 : zk_fr fr_LawReader_part g g6 := zk_ft (zk_f0 _) F_9 (fun a i => (fun h => Or.elim h (fun h => (Or.inl h)) (fun h => Or.elim h (fun h => (Or.inr (Or.inl h))) (fun h => (Or.inr (Or.inr (Or.inr (Or.inr (Or.inr h)))))))))
    refine k_Tokens_step I_8 (fun g9 I_11 F_12 => ?_)
    have F_13 : zk_fr fr_LawReader_part g g9 := zk_ft F_10 F_12 (fun a i => (fun h => (Or.inr (Or.inr (Or.inl h)))))
    exact hQ _ _ I_11 F_13 ⟨by omega, by omega⟩
  · refine ⟨fun c17 => ?_, fun c17 => ?_⟩
    · refine k_Tokens_refuse I ⟨by omega, by omega⟩ (fun v11 g12 I_15 F_16 b_14 => ?_)
      have F_17 : zk_fr fr_LawReader_part g g12 := zk_ft (zk_f0 _) F_16 (fun a i => (fun h => Or.elim h (fun h => (Or.inr (Or.inr (Or.inr (Or.inl h))))) (fun h => (Or.inr (Or.inr (Or.inr (Or.inr (Or.inl h))))))))
      exact hQ _ _ I_15 F_17 ⟨by omega, by omega⟩
    · refine k_Tokens_refuse I ⟨by omega, by omega⟩ (fun v14 g15 I_19 F_20 b_18 => ?_)
      have F_21 : zk_fr fr_LawReader_part g g15 := zk_ft (zk_f0 _) F_20 (fun a i => (fun h => Or.elim h (fun h => (Or.inr (Or.inr (Or.inr (Or.inl h))))) (fun h => (Or.inr (Or.inr (Or.inr (Or.inr (Or.inl h))))))))
      exact hQ _ _ I_19 F_21 ⟨by omega, by omega⟩
-- SpoutNews$LawReader.sum(LSpoutNews$Tokens;LSpoutNews$Law;)Z
noncomputable def fr_LawReader_sum (a : Nat) (i : Int) : Prop := a = 197 ∨ a = 198 ∨ (a = 191 ∧ i = 4) ∨ (a = 191 ∧ i = 5) ∨ (a = 191 ∧ i = 6) ∨ (a = 196 ∧ i = 2)
set_option maxRecDepth 100000 in
set_option maxHeartbeats 4000000 in
theorem k_LawReader_sum_b99 {l4 : Int} {l5 : Int} {H : Int → Int → Int → zi_M → Prop} {K140 : Int → Int → zi_M → Prop} {Q : Int → zi_M → Prop} {g : zi_M} {g0 : zi_M} (I : zk_I g) (F : zk_fr fr_LawReader_sum g0 g) (p4 : (-1) ≤ l4 ∧ l4 ≤ 3) (p5 : 0 ≤ l5 ∧ l5 ≤ 399) (M : Int) (hM : 400 - l5 ≤ M) (hH : ∀ (m3 : Int) (m4 : Int) (m5 : Int) (g : zi_M), zk_I g → zk_fr fr_LawReader_sum g0 g → (0 ≤ m3 ∧ m3 ≤ 1) → ((-1) ≤ m4 ∧ m4 ≤ 3) → (0 ≤ m5 ∧ m5 ≤ 400) → 400 - m5 < M → H m3 m4 m5 g) (hK140 : ∀ (k3 : Int) (k4 : Int) (g : zi_M), zk_I g → zk_fr fr_LawReader_sum g0 g → (0 ≤ k3 ∧ k3 ≤ 1) → ((-1) ≤ k4 ∧ k4 ≤ 3) → K140 k3 k4 g) (hQ : ∀ (v : Int) (g' : zi_M), zk_I g' → zk_fr fr_LawReader_sum g0 g' → (0 ≤ v ∧ v ≤ 1) → Q v g') : w_LawReader_sum_b99 l4 l5 g H K140 Q := by
  unfold w_LawReader_sum_b99
  refine k_LawReader_addLate I ⟨by omega, by omega⟩ (fun g16 I_21 F_22 => ?_)
  have F_23 : zk_fr fr_LawReader_sum g0 g16 := zk_ft F F_22 (fun a i => (fun h => Or.elim h (fun h => (Or.inl h)) (fun h => Or.elim h (fun h => (Or.inr (Or.inl h))) (fun h => (Or.inr (Or.inr (Or.inr (Or.inr (Or.inr h)))))))))
  have m_28 : 0 ≤ (g16 191 4) ∧ (g16 191 4) ≤ 401 := I_21.1 191 4
  have m_29 : g16 191 4 = g 191 4 := F_22 _ _ (by unfold fr_LawReader_addLate; omega)
  have m_30 : 0 ≤ (g 191 4) ∧ (g 191 4) ≤ 401 := I.1 191 4
  have m_31 : 0 ≤ (g16 191 3) ∧ (g16 191 3) ≤ 401 := I_21.1 191 3
  have m_32 : g16 191 3 = g 191 3 := F_22 _ _ (by unfold fr_LawReader_addLate; omega)
  have m_33 : 0 ≤ (g 191 3) ∧ (g 191 3) ≤ 401 := I.1 191 3
  have m_34 : 0 ≤ (g16 192 (g16 191 4)) ∧ (g16 192 (g16 191 4)) ≤ 4 := I_21.1 192 (g16 191 4)
  have m_35 : g16 192 (g16 191 4) = g 192 (g16 191 4) := F_22 _ _ (by unfold fr_LawReader_addLate; omega)
  have m_36 : 0 ≤ (g 192 (g16 191 4)) ∧ (g 192 (g16 191 4)) ≤ 4 := I.1 192 (g16 191 4)
  have m_37 : (-1) ≤ (g16 193 (g16 191 4)) ∧ (g16 193 (g16 191 4)) ≤ 9999 := I_21.1 193 (g16 191 4)
  have m_38 : g16 193 (g16 191 4) = g 193 (g16 191 4) := F_22 _ _ (by unfold fr_LawReader_addLate; omega)
  have m_39 : (-1) ≤ (g 193 (g16 191 4)) ∧ (g 193 (g16 191 4)) ≤ 9999 := I.1 193 (g16 191 4)
  refine k_Tokens_isAt I_21 ⟨by omega, by omega⟩ ⟨by omega, by omega⟩ (fun v18 b_24 b_25 b_26 b_27 => ?_)
  refine ⟨fun c33 => ?_, fun c33 => ?_⟩
  · refine k_Tokens_step I_21 (fun g22 I_40 F_41 => ?_)
    have F_42 : zk_fr fr_LawReader_sum g0 g22 := zk_ft F_23 F_41 (fun a i => (fun h => (Or.inr (Or.inr (Or.inl h)))))
    refine k_LawReader_unit I_40 (fun v24 g25 I_44 F_45 b_43 => ?_)
    have F_46 : zk_fr fr_LawReader_sum g0 g25 := zk_ft F_42 F_45 (fun a i => (fun h => Or.elim h (fun h => (Or.inl h)) (fun h => Or.elim h (fun h => (Or.inr (Or.inl h))) (fun h => Or.elim h (fun h => (Or.inr (Or.inr (Or.inl h)))) (fun h => Or.elim h (fun h => (Or.inr (Or.inr (Or.inr (Or.inl h))))) (fun h => Or.elim h (fun h => (Or.inr (Or.inr (Or.inr (Or.inr (Or.inl h)))))) (fun h => (Or.inr (Or.inr (Or.inr (Or.inr (Or.inr h))))))))))))
    exact hH _ _ _ _ I_44 F_46 ⟨by omega, by omega⟩ ⟨by omega, by omega⟩ ⟨by omega, by omega⟩ (by omega)
  · refine k_Tokens_step I_21 (fun g28 I_47 F_48 => ?_)
    have F_49 : zk_fr fr_LawReader_sum g0 g28 := zk_ft F_23 F_48 (fun a i => (fun h => (Or.inr (Or.inr (Or.inl h)))))
    refine k_LawReader_unit I_47 (fun v30 g31 I_51 F_52 b_50 => ?_)
    have F_53 : zk_fr fr_LawReader_sum g0 g31 := zk_ft F_49 F_52 (fun a i => (fun h => Or.elim h (fun h => (Or.inl h)) (fun h => Or.elim h (fun h => (Or.inr (Or.inl h))) (fun h => Or.elim h (fun h => (Or.inr (Or.inr (Or.inl h)))) (fun h => Or.elim h (fun h => (Or.inr (Or.inr (Or.inr (Or.inl h))))) (fun h => Or.elim h (fun h => (Or.inr (Or.inr (Or.inr (Or.inr (Or.inl h)))))) (fun h => (Or.inr (Or.inr (Or.inr (Or.inr (Or.inr h))))))))))))
    exact hH _ _ _ _ I_51 F_53 ⟨by omega, by omega⟩ ⟨by omega, by omega⟩ ⟨by omega, by omega⟩ (by omega)
set_option maxRecDepth 100000 in
set_option maxHeartbeats 4000000 in
theorem k_LawReader_sum_l13 {K140 : Int → Int → zi_M → Prop} {Q : Int → zi_M → Prop} {g0 : zi_M} (hK140 : ∀ (k3 : Int) (k4 : Int) (g : zi_M), zk_I g → zk_fr fr_LawReader_sum g0 g → (0 ≤ k3 ∧ k3 ≤ 1) → ((-1) ≤ k4 ∧ k4 ≤ 3) → K140 k3 k4 g) (hQ : ∀ (v : Int) (g' : zi_M), zk_I g' → zk_fr fr_LawReader_sum g0 g' → (0 ≤ v ∧ v ≤ 1) → Q v g') : ∀ (n : Nat) {l3 : Int} {l4 : Int} {l5 : Int} {g : zi_M}, zk_I g → zk_fr fr_LawReader_sum g0 g → (0 ≤ l3 ∧ l3 ≤ 1) → ((-1) ≤ l4 ∧ l4 ≤ 3) → (0 ≤ l5 ∧ l5 ≤ 400) → 400 - l5 < (n : Int) → w_LawReader_sum_l13 K140 Q n l3 l4 l5 g
  | 0, l3, l4, l5, g, I, F, b0, b1, b2, hm => by exfalso; omega
  | n + 1, l3, l4, l5, g, I, F, b0, b1, b2, hm => by
    unfold w_LawReader_sum_l13
    refine ⟨⟨by omega, by omega⟩, ?_⟩
    refine ⟨fun c57 => ?_, fun c57 => ?_⟩
    · exact hK140 _ _ _ I F ⟨by omega, by omega⟩ ⟨by omega, by omega⟩
    · refine ⟨⟨by omega, by omega⟩, ?_⟩
      refine ⟨fun c56 => ?_, fun c56 => ?_⟩
      · exact hK140 _ _ _ I F ⟨by omega, by omega⟩ ⟨by omega, by omega⟩
      · have m_9 : 0 ≤ (g 191 4) ∧ (g 191 4) ≤ 401 := I.1 191 4
        have m_10 : 0 ≤ (g 191 3) ∧ (g 191 3) ≤ 401 := I.1 191 3
        have m_11 : 0 ≤ (g 192 (g 191 4)) ∧ (g 192 (g 191 4)) ≤ 4 := I.1 192 (g 191 4)
        have m_12 : (-1) ≤ (g 193 (g 191 4)) ∧ (g 193 (g 191 4)) ≤ 9999 := I.1 193 (g 191 4)
        refine k_Tokens_isAt I ⟨by omega, by omega⟩ ⟨by omega, by omega⟩ (fun v6 b_5 b_6 b_7 b_8 => ?_)
        refine ⟨fun c55 => ?_, fun c55 => ?_⟩
        · refine k_Tokens_isAt I ⟨by omega, by omega⟩ ⟨by omega, by omega⟩ (fun v9 b_13 b_14 b_15 b_16 => ?_)
          refine ⟨fun c45 => ?_, fun c45 => ?_⟩
          · refine k_Tokens_isAt I ⟨by omega, by omega⟩ ⟨by omega, by omega⟩ (fun v12 b_17 b_18 b_19 b_20 => ?_)
            refine ⟨fun c38 => ?_, fun c38 => ?_⟩
            · exact k_LawReader_sum_b99 I F ⟨by omega, by omega⟩ ⟨by omega, by omega⟩ (n : Int) (by omega) (fun _ _ _ _ I F b0 b1 b2 hm => k_LawReader_sum_l13 hK140 hQ n I F b0 b1 b2 hm) hK140 hQ
            · refine k_Tokens_isAt I ⟨by omega, by omega⟩ ⟨by omega, by omega⟩ (fun v34 b_54 b_55 b_56 b_57 => ?_)
              refine ⟨fun c37 => ?_, fun c37 => ?_⟩
              · exact hK140 _ _ _ I F ⟨by omega, by omega⟩ ⟨by omega, by omega⟩
              · exact k_LawReader_sum_b99 I F ⟨by omega, by omega⟩ ⟨by omega, by omega⟩ (n : Int) (by omega) (fun _ _ _ _ I F b0 b1 b2 hm => k_LawReader_sum_l13 hK140 hQ n I F b0 b1 b2 hm) hK140 hQ
          · refine k_Tokens_step I (fun g40 I_58 F_59 => ?_)
            have F_60 : zk_fr fr_LawReader_sum g0 g40 := zk_ft F F_59 (fun a i => (fun h => (Or.inr (Or.inr (Or.inl h)))))
            refine k_LawReader_part I_58 (fun v42 g43 I_62 F_63 b_61 => ?_)
            have F_64 : zk_fr fr_LawReader_sum g0 g43 := zk_ft F_60 F_63 (fun a i => (fun h => Or.elim h (fun h => (Or.inl h)) (fun h => Or.elim h (fun h => (Or.inr (Or.inl h))) (fun h => Or.elim h (fun h => (Or.inr (Or.inr (Or.inl h)))) (fun h => Or.elim h (fun h => (Or.inr (Or.inr (Or.inr (Or.inl h))))) (fun h => Or.elim h (fun h => (Or.inr (Or.inr (Or.inr (Or.inr (Or.inl h)))))) (fun h => (Or.inr (Or.inr (Or.inr (Or.inr (Or.inr h))))))))))))
            exact k_LawReader_sum_l13 hK140 hQ n I_62 F_64 ⟨by omega, by omega⟩ ⟨by omega, by omega⟩ ⟨by omega, by omega⟩ (by omega)
        · refine k_Tokens_step I (fun g47 I_65 F_66 => ?_)
          have F_67 : zk_fr fr_LawReader_sum g0 g47 := zk_ft F F_66 (fun a i => (fun h => (Or.inr (Or.inr (Or.inl h)))))
          refine k_LawReader_unit I_65 (fun v49 g50 I_69 F_70 b_68 => ?_)
          have F_71 : zk_fr fr_LawReader_sum g0 g50 := zk_ft F_67 F_70 (fun a i => (fun h => Or.elim h (fun h => (Or.inl h)) (fun h => Or.elim h (fun h => (Or.inr (Or.inl h))) (fun h => Or.elim h (fun h => (Or.inr (Or.inr (Or.inl h)))) (fun h => Or.elim h (fun h => (Or.inr (Or.inr (Or.inr (Or.inl h))))) (fun h => Or.elim h (fun h => (Or.inr (Or.inr (Or.inr (Or.inr (Or.inl h)))))) (fun h => (Or.inr (Or.inr (Or.inr (Or.inr (Or.inr h))))))))))))
          refine k_Law_add I_69 ⟨by omega, by omega⟩ ⟨by omega, by omega⟩ (fun g53 I_72 F_73 => ?_)
          have F_74 : zk_fr fr_LawReader_sum g0 g53 := zk_ft F_71 F_73 (fun a i => (fun h => Or.elim h (fun h => (Or.inl h)) (fun h => Or.elim h (fun h => (Or.inr (Or.inl h))) (fun h => (Or.inr (Or.inr (Or.inr (Or.inr (Or.inr h)))))))))
          exact k_LawReader_sum_l13 hK140 hQ n I_72 F_74 ⟨by omega, by omega⟩ ⟨by omega, by omega⟩ ⟨by omega, by omega⟩ (by omega)
set_option maxRecDepth 100000 in
set_option maxHeartbeats 4000000 in
theorem k_LawReader_sum {g : zi_M} {Q : Int → zi_M → Prop} (I : zk_I g) (hQ : ∀ (v : Int) (g' : zi_M), zk_I g' → zk_fr fr_LawReader_sum g g' → (0 ≤ v ∧ v ≤ 1) → Q v g') : w_LawReader_sum g Q := by
  unfold w_LawReader_sum
  refine k_LawReader_unit I (fun v1 g2 I_2 F_3 b_1 => ?_)
  have F_4 : zk_fr fr_LawReader_sum g g2 := zk_ft (zk_f0 _) F_3 (fun a i => (fun h => Or.elim h (fun h => (Or.inl h)) (fun h => Or.elim h (fun h => (Or.inr (Or.inl h))) (fun h => Or.elim h (fun h => (Or.inr (Or.inr (Or.inl h)))) (fun h => Or.elim h (fun h => (Or.inr (Or.inr (Or.inr (Or.inl h))))) (fun h => Or.elim h (fun h => (Or.inr (Or.inr (Or.inr (Or.inr (Or.inl h)))))) (fun h => (Or.inr (Or.inr (Or.inr (Or.inr (Or.inr h))))))))))))
  refine ⟨((400 - 0 : Int).toNat + 1), k_LawReader_sum_l13 (fun k58 k59 g60 I_75 F_76 b_77 b_78 => ?_) hQ ((400 - 0 : Int).toNat + 1) I_2 F_4 ⟨by omega, by omega⟩ ⟨by omega, by omega⟩ ⟨by omega, by omega⟩ (by omega)⟩
  refine k_LawReader_addLate I_75 ⟨by omega, by omega⟩ (fun g62 I_79 F_80 => ?_)
  have F_81 : zk_fr fr_LawReader_sum g g62 := zk_ft F_76 F_80 (fun a i => (fun h => Or.elim h (fun h => (Or.inl h)) (fun h => Or.elim h (fun h => (Or.inr (Or.inl h))) (fun h => (Or.inr (Or.inr (Or.inr (Or.inr (Or.inr h)))))))))
  refine ⟨(by omega), ?_⟩
  exact hQ _ _ I_79 F_81 ⟨by omega, by omega⟩
-- SpoutNews$Law.addLine(III)V
noncomputable def fr_Law_addLine (a : Nat) (i : Int) : Prop := a = 199 ∨ a = 200 ∨ a = 201 ∨ a = 202 ∨ (a = 196 ∧ i = 7)
set_option maxRecDepth 100000 in
set_option maxHeartbeats 4000000 in
theorem k_Law_addLine {l1 : Int} {l2 : Int} {l3 : Int} {g : zi_M} {Q : Int → zi_M → Prop} (I : zk_I g) (p1 : 0 ≤ l1 ∧ l1 ≤ 2) (p2 : 0 ≤ l2 ∧ l2 ≤ 400) (p3 : 0 ≤ l3 ∧ l3 ≤ 400) (hQ : ∀ g' : zi_M, zk_I g' → zk_fr fr_Law_addLine g g' → Q 0 g') : w_Law_addLine l1 l2 l3 g Q := by
  unfold w_Law_addLine
  have m_1 : 0 ≤ (g 196 7) ∧ (g 196 7) ≤ 16 := I.1 196 7
  refine ⟨⟨by omega, by omega⟩, ?_⟩
  refine ⟨fun c11 => ?_, fun c11 => ?_⟩
  · exact hQ _ I (zk_f0 _)
  · refine ⟨⟨by omega, by omega⟩, ?_⟩
    intro g3 e_2
    have I_3 : zk_I g3 := by rw [e_2]; exact zk_upd (L := (-2147483648)) (H := 2147483647) rfl rfl I ⟨by omega, by omega⟩
    have F_4 : zk_fr fr_Law_addLine g g3 := by rw [e_2]; exact zk_fu (zk_f0 _) (Or.inl rfl)
    have m_8 : 0 ≤ (g3 196 7) ∧ (g3 196 7) ≤ 16 := I_3.1 196 7
    have m_9 : g3 196 7 = g 196 7 := by rw [e_2]; exact zi_u_ne (by decide)
    refine ⟨⟨by omega, by omega⟩, ?_⟩
    intro g5 e_5
    have I_6 : zk_I g5 := by rw [e_5]; exact zk_upd (L := 0) (H := 400) rfl rfl I_3 ⟨by omega, by omega⟩
    have F_7 : zk_fr fr_Law_addLine g g5 := by rw [e_5]; exact zk_fu F_4 (Or.inr (Or.inl rfl))
    have m_13 : 0 ≤ (g5 196 7) ∧ (g5 196 7) ≤ 16 := I_6.1 196 7
    have m_14 : g5 196 7 = g3 196 7 := by rw [e_5]; exact zi_u_ne (by decide)
    refine ⟨⟨by omega, by omega⟩, ?_⟩
    intro g7 e_10
    have I_11 : zk_I g7 := by rw [e_10]; exact zk_upd (L := 0) (H := 400) rfl rfl I_6 ⟨by omega, by omega⟩
    have F_12 : zk_fr fr_Law_addLine g g7 := by rw [e_10]; exact zk_fu F_7 (Or.inr (Or.inr (Or.inl rfl)))
    have m_18 : 0 ≤ (g7 196 7) ∧ (g7 196 7) ≤ 16 := I_11.1 196 7
    have m_19 : g7 196 7 = g5 196 7 := by rw [e_10]; exact zi_u_ne (by decide)
    refine ⟨⟨by omega, by omega⟩, ?_⟩
    have m_20 : 0 ≤ (g7 196 2) ∧ (g7 196 2) ≤ 400 := I_11.1 196 2
    have m_21 : g7 196 2 = g5 196 2 := by rw [e_10]; exact zi_u_ne (by decide)
    have m_22 : 0 ≤ (g5 196 2) ∧ (g5 196 2) ≤ 400 := I_6.1 196 2
    have m_23 : g5 196 2 = g3 196 2 := by rw [e_5]; exact zi_u_ne (by decide)
    have m_24 : 0 ≤ (g3 196 2) ∧ (g3 196 2) ≤ 400 := I_3.1 196 2
    have m_25 : g3 196 2 = g 196 2 := by rw [e_2]; exact zi_u_ne (by decide)
    have m_26 : 0 ≤ (g 196 2) ∧ (g 196 2) ≤ 400 := I.1 196 2
    intro g9 e_15
    have I_16 : zk_I g9 := by rw [e_15]; exact zk_upd (L := 0) (H := 400) rfl rfl I_11 ⟨by omega, by omega⟩
    have F_17 : zk_fr fr_Law_addLine g g9 := by rw [e_15]; exact zk_fu F_12 (Or.inr (Or.inr (Or.inr (Or.inl rfl))))
    have m_30 : 0 ≤ (g9 196 7) ∧ (g9 196 7) ≤ 16 := I_16.1 196 7
    have m_31 : g9 196 7 = g7 196 7 := by rw [e_15]; exact zi_u_ne (by decide)
    intro g10 e_27
    have I_28 : zk_I g10 := by rw [e_27]; exact zk_upd (L := 0) (H := 16) rfl rfl I_16 ⟨by omega, by omega⟩
    have F_29 : zk_fr fr_Law_addLine g g10 := by rw [e_27]; exact zk_fu F_17 (Or.inr (Or.inr (Or.inr (Or.inr ⟨rfl, rfl⟩))))
    exact hQ _ I_28 F_29
-- SpoutNews$LawReader.push(I)V
noncomputable def fr_LawReader_push (a : Nat) (i : Int) : Prop := a = 213 ∨ (a = 212 ∧ i = 1)
theorem k_LawReader_push {l1 : Int} {g : zi_M} {Q : Int → zi_M → Prop} (I : zk_I g) (p1 : (-1) ≤ l1 ∧ l1 ≤ 9999) (hQ : ∀ g' : zi_M, zk_I g' → zk_fr fr_LawReader_push g g' → (g 212 1 < 40 → g' 212 1 = g 212 1 + 1 ∧ g' 213 (g 212 1) = l1 ∧ ∀ i : Int, ¬ i = g 212 1 → g' 213 i = g 213 i) → Q 0 g') : w_LawReader_push l1 g Q := by
  unfold w_LawReader_push
  have h0 : 0 ≤ g 212 1 := (I.1 212 1).1
  have h1 : g 212 1 ≤ 40 := (I.1 212 1).2
  refine ⟨zk_rng I _ _, fun h => hQ g I (zk_f0 _) (fun q => by omega), fun h => ⟨⟨h0, h⟩, ?_⟩⟩
  intro g3 e3 g4 e4
  have I3 : zk_I g3 := by rw [e3]; exact zk_upd (L := -2147483648) (H := 2147483647) rfl rfl I ⟨by omega, by omega⟩
  have a1 : g3 212 1 = g 212 1 := by rw [e3]; exact zi_u_ne (by decide)
  have I4 : zk_I g4 := by rw [e4]; exact zk_upd (L := 0) (H := 40) rfl rfl I3 ⟨by omega, by omega⟩
  refine hQ g4 I4 ?_ (fun _ => ⟨?_, ?_, ?_⟩)
  · rw [e4, e3]; exact zk_fu (zk_fu (zk_f0 _) (Or.inl rfl)) (Or.inr ⟨rfl, rfl⟩)
  · rw [e4, zi_u_eq, a1]
  · rw [e4, zi_u_ne (by decide), e3, zi_u_eq]
  · intro i hi
    rw [e4, zi_u_ne (by decide), e3, zi_u_ni hi]

-- SpoutNews$LawReader.openAll(LSpoutNews$Tokens;)Z
noncomputable def fr_LawReader_openAll (a : Nat) (i : Int) : Prop := a = 213 ∨ (a = 191 ∧ i = 4) ∨ (a = 191 ∧ i = 5) ∨ (a = 191 ∧ i = 6) ∨ (a = 212 ∧ i = 1) ∨ (a = 212 ∧ i = 2) ∨ (a = 212 ∧ i = 3)
theorem k_LawReader_openAll_l2 {g0 : zi_M} {K29 K40 K94 : zi_M → Prop} {Q : Int → zi_M → Prop} (hK29 : ∀ g P, zk_I g → zk_fr fr_LawReader_openAll g0 g → zB P g → K29 g) (hK40 : ∀ g, zk_I g → zk_fr fr_LawReader_openAll g0 g → K40 g) (hK94 : ∀ g P, zk_I g → zk_fr fr_LawReader_openAll g0 g → zB P g → K94 g) :
    ∀ (n : Nat) (l2 : Int) (P : List Int) (g : zi_M), zk_I g → zk_fr fr_LawReader_openAll g0 g → zB P g → 0 ≤ l2 → l2 ≤ 9 → 9 - l2 < (n : Int) → w_LawReader_openAll_l2 K29 K40 K94 Q n l2 g
  | 0, l2, P, g, I, F, h, h0, h1, hm => by exfalso; omega
  | n + 1, l2, P, g, I, F, h, h0, h1, hm => by
    have b0 : 0 ≤ g 212 2 := (I.1 212 2).1
    have p0 : 0 ≤ g 212 3 := (I.1 212 3).1
    have ln := h.len I
    have q := h.q1
    have b31 : ∀ v : Int, (v = 0 ∨ v = 1) → l2 ≤ 8 → w_LawReader_openAll_b31 l2 v g (w_LawReader_openAll_l2 K29 K40 K94 Q n) K29 K40 K94 Q := by
      intro v hv hl
      unfold w_LawReader_openAll_b31
      refine ⟨zk_rng I _ _, fun h8 => ?_, fun _ => hK40 g I F⟩
      intro g6 e6
      have I6 : zk_I g6 := by rw [e6]; exact zk_upd (L := 0) (H := 8) rfl rfl I ⟨by omega, by omega⟩
      have F6 : zk_fr fr_LawReader_openAll g0 g6 := by rw [e6]; exact zk_fu F (Or.inr (Or.inr (Or.inr (Or.inr (Or.inr (Or.inl ⟨rfl, rfl⟩))))))
      have fin : ∀ (x : Int) (g' : zi_M), (x = 6 ∨ x = 0) → zk_I g' → zk_fr fr_LawReader_openAll g0 g' → g' 212 1 = g 212 1 → g' 212 2 = g 212 2 + 1 → g' 212 3 = g 212 3 + (if x = 0 ∨ x = 0 then 1 else 0) → (∀ i, g' 213 i = g 213 i) → w_LawReader_push x g' (fun _ g10 => w_Tokens_step g10 (fun _ g13 => w_LawReader_openAll_l2 K29 K40 K94 Q n (l2 + 1) g13)) := by
        intro x g' hx I' F' a1 a2 a3 a4
        refine k_LawReader_push I' ⟨by omega, by omega⟩ (fun g10 I10 F10 hp => ?_)
        obtain ⟨w1, w2, w3⟩ := hp (by omega)
        have z10 : zB (x :: P) g10 := by
          refine h.u ⟨h.ok, by omega⟩ (by rw [w1, a1]) (by rw [← a1]; exact w2) (fun i hi => by rw [w3 i (by omega), a4]) ?_ ?_
          · rw [F10 _ _ (by unfold fr_LawReader_push; omega), a2, if_pos hx]
          · rw [F10 _ _ (by unfold fr_LawReader_push; omega), a3]
        have G10 : zk_fr fr_LawReader_openAll g0 g10 := zk_ft F' F10 (fun a i h => h.elim Or.inl (fun h => Or.inr (Or.inr (Or.inr (Or.inr (Or.inl h))))))
        refine k_Tokens_step I10 (fun g13 I13 F13 => ?_)
        refine k_LawReader_openAll_l2 hK29 hK40 hK94 n (l2 + 1) (x :: P) g13 I13 (zk_ft G10 F13 (fun a i h => Or.inr (Or.inl h))) (z10.c ?_ ?_ ?_ (fun i => ?_)) (by omega) (by omega) (by omega) <;> exact F13 _ _ (by unfold fr_Tokens_step; omega)
      have c1 : g6 212 1 = g 212 1 := by rw [e6]; exact zi_u_ni (by decide)
      have c2 : g6 212 2 = g 212 2 + 1 := by rw [e6, zi_u_eq]
      have c3 : g6 212 3 = g 212 3 := by rw [e6]; exact zi_u_ni (by decide)
      have c4 : ∀ i, g6 213 i = g 213 i := fun i => by rw [e6]; exact zi_u_ne (by decide)
      refine ⟨⟨by omega, by omega⟩, fun ez => ?_, fun nz => ?_⟩
      · unfold w_LawReader_openAll_b70
        exact ⟨⟨by omega, by omega⟩, fun _ => fin 6 g6 (Or.inl rfl) I6 F6 c1 c2 (by rw [c3, if_neg (by decide)]; omega) c4, fun n => absurd ez n⟩
      · intro g22 e22
        have pl : zl_of 0 0 P ≤ P.length := zl_ofl 0 0 P
        have po : zl_of 0 0 P ≤ zl_of 6 0 P := zl_of_le P
        have h3 := h.pr
        have h2 := h.op
        have I22 : zk_I g22 := by rw [e22]; exact zk_upd (L := 0) (H := 8) rfl rfl I6 ⟨by omega, by omega⟩
        have F22 : zk_fr fr_LawReader_openAll g0 g22 := by rw [e22]; exact zk_fu F6 (Or.inr (Or.inr (Or.inr (Or.inr (Or.inr (Or.inr ⟨rfl, rfl⟩))))))
        unfold w_LawReader_openAll_b70
        exact ⟨⟨by omega, by omega⟩, fun e => absurd e nz, fun _ => fin 0 g22 (Or.inr rfl) I22 F22 (by rw [e22, zi_u_ni (by decide)]; exact c1) (by rw [e22, zi_u_ni (by decide)]; exact c2) (by rw [e22, zi_u_eq, c3, if_pos (Or.inl rfl)]) (fun i => by rw [e22, zi_u_ne (by decide)]; exact c4 i)⟩
    unfold w_LawReader_openAll_l2
    refine ⟨⟨by omega, by omega⟩, fun _ => hK94 g P I F h, fun hl => ?_⟩
    refine k_Tokens_isAt I ⟨by decide, by decide⟩ ⟨by decide, by decide⟩ (fun v2 d1 d2 d3 d4 => ?_)
    have hv2 : v2 = 0 ∨ v2 = 1 := by omega
    refine ⟨fun _ => b31 v2 hv2 hl, fun _ => ?_⟩
    have r := I.1 193 (g 191 4)
    have r1 : -1 ≤ g 193 (g 191 4) := r.1
    have r2 : g 193 (g 191 4) ≤ 9999 := r.2
    refine k_Tokens_keyword I (fun v25 f1 f2 f3 => ⟨⟨by omega, by omega⟩, fun _ => b31 v2 hv2 hl, fun _ => hK29 g P I F h⟩)
theorem k_LawReader_openAll {g : zi_M} {Q : Int → zi_M → Prop} (I : zk_I g) (px0 : ∃ P, zB P g) (hQ : ∀ (v : Int) (g' : zi_M), zk_I g' → zk_fr fr_LawReader_openAll g g' → (0 ≤ v ∧ v ≤ 1) → (¬ v = 0 → ∃ P, zB P g') → Q v g') : w_LawReader_openAll g Q := by
  unfold w_LawReader_openAll
  obtain ⟨P, hP⟩ := px0
  refine ⟨10, k_LawReader_openAll_l2 (g0 := g) (fun g' P' I' F' z => hQ _ _ I' F' ⟨by decide, by decide⟩ (fun _ => ⟨_, z⟩)) (fun g' I' F' => ?_) (fun g' P' I' F' z => hQ _ _ I' F' ⟨by decide, by decide⟩ (fun _ => ⟨_, z⟩)) 10 0 P g I (zk_f0 _) hP (by omega) (by omega) (by omega)⟩
  refine k_Tokens_refuse I' ⟨by decide, by decide⟩ (fun v g'' I'' F'' hv => hQ _ _ I'' (zk_ft F' F'' (fun a i h => ?_)) ⟨by omega, by omega⟩ (fun n => by omega))
  unfold fr_Tokens_refuse at h
  unfold fr_LawReader_openAll
  rcases h with h | h <;> simp [h]

-- SpoutNews$LawReader.comparison(LSpoutNews$Tokens;LSpoutNews$Law;)Z
noncomputable def fr_LawReader_comparison (a : Nat) (i : Int) : Prop := a = 197 ∨ a = 198 ∨ (a = 191 ∧ i = 4) ∨ (a = 191 ∧ i = 5) ∨ (a = 191 ∧ i = 6) ∨ (a = 196 ∧ i = 2)
set_option maxRecDepth 100000 in
set_option maxHeartbeats 4000000 in
theorem k_LawReader_comparison_b57 {s0 : Int} {Q : Int → zi_M → Prop} {g : zi_M} {g0 : zi_M} (I : zk_I g) (F : zk_fr fr_LawReader_comparison g0 g) (ps0 : (-1) ≤ s0 ∧ s0 ≤ 8) (hQ : ∀ (v : Int) (g' : zi_M), zk_I g' → zk_fr fr_LawReader_comparison g0 g' → (0 ≤ v ∧ v ≤ 1) → Q v g') : w_LawReader_comparison_b57 s0 g Q := by
  unfold w_LawReader_comparison_b57
  refine ⟨⟨by omega, by omega⟩, ?_⟩
  refine ⟨fun c27 => ?_, fun c27 => ?_⟩
  · refine k_Tokens_step I (fun g15 I_27 F_28 => ?_)
    have F_29 : zk_fr fr_LawReader_comparison g0 g15 := zk_ft F F_28 (fun a i => (fun h => (Or.inr (Or.inr (Or.inl h)))))
    refine k_LawReader_sum I_27 (fun v17 g18 I_31 F_32 b_30 => ?_)
    have F_33 : zk_fr fr_LawReader_comparison g0 g18 := zk_ft F_29 F_32 (fun a i => (fun h => Or.elim h (fun h => (Or.inl h)) (fun h => Or.elim h (fun h => (Or.inr (Or.inl h))) (fun h => Or.elim h (fun h => (Or.inr (Or.inr (Or.inl h)))) (fun h => Or.elim h (fun h => (Or.inr (Or.inr (Or.inr (Or.inl h))))) (fun h => Or.elim h (fun h => (Or.inr (Or.inr (Or.inr (Or.inr (Or.inl h)))))) (fun h => (Or.inr (Or.inr (Or.inr (Or.inr (Or.inr h))))))))))))
    refine ⟨fun c23 => ?_, fun c23 => ?_⟩
    · refine k_Law_add I_31 ⟨by omega, by omega⟩ ⟨by omega, by omega⟩ (fun g21 I_34 F_35 => ?_)
      have F_36 : zk_fr fr_LawReader_comparison g0 g21 := zk_ft F_33 F_35 (fun a i => (fun h => Or.elim h (fun h => (Or.inl h)) (fun h => Or.elim h (fun h => (Or.inr (Or.inl h))) (fun h => (Or.inr (Or.inr (Or.inr (Or.inr (Or.inr h)))))))))
      exact hQ _ _ I_34 F_36 ⟨by omega, by omega⟩
    · exact hQ _ _ I_31 F_33 ⟨by omega, by omega⟩
  · refine k_Tokens_refuse I ⟨by omega, by omega⟩ (fun v24 g25 I_38 F_39 b_37 => ?_)
    have F_40 : zk_fr fr_LawReader_comparison g0 g25 := zk_ft F F_39 (fun a i => (fun h => Or.elim h (fun h => (Or.inr (Or.inr (Or.inr (Or.inl h))))) (fun h => (Or.inr (Or.inr (Or.inr (Or.inr (Or.inl h))))))))
    exact hQ _ _ I_38 F_40 ⟨by omega, by omega⟩
set_option maxRecDepth 100000 in
set_option maxHeartbeats 4000000 in
theorem k_LawReader_comparison {g : zi_M} {Q : Int → zi_M → Prop} (I : zk_I g) (hQ : ∀ (v : Int) (g' : zi_M), zk_I g' → zk_fr fr_LawReader_comparison g g' → (0 ≤ v ∧ v ≤ 1) → Q v g') : w_LawReader_comparison g Q := by
  unfold w_LawReader_comparison
  refine k_LawReader_sum I (fun v1 g2 I_2 F_3 b_1 => ?_)
  have F_4 : zk_fr fr_LawReader_comparison g g2 := zk_ft (zk_f0 _) F_3 (fun a i => (fun h => Or.elim h (fun h => (Or.inl h)) (fun h => Or.elim h (fun h => (Or.inr (Or.inl h))) (fun h => Or.elim h (fun h => (Or.inr (Or.inr (Or.inl h)))) (fun h => Or.elim h (fun h => (Or.inr (Or.inr (Or.inr (Or.inl h))))) (fun h => Or.elim h (fun h => (Or.inr (Or.inr (Or.inr (Or.inr (Or.inl h)))))) (fun h => (Or.inr (Or.inr (Or.inr (Or.inr (Or.inr h))))))))))))
  refine ⟨fun c31 => ?_, fun c31 => ?_⟩
  · have m_9 : 0 ≤ (g2 191 4) ∧ (g2 191 4) ≤ 401 := I_2.1 191 4
    have m_10 : 0 ≤ (g2 191 3) ∧ (g2 191 3) ≤ 401 := I_2.1 191 3
    have m_11 : g2 191 3 = g 191 3 := F_3 _ _ (by unfold fr_LawReader_sum; omega)
    have m_12 : 0 ≤ (g 191 3) ∧ (g 191 3) ≤ 401 := I.1 191 3
    have m_13 : 0 ≤ (g2 192 (g2 191 4)) ∧ (g2 192 (g2 191 4)) ≤ 4 := I_2.1 192 (g2 191 4)
    have m_14 : g2 192 (g2 191 4) = g 192 (g2 191 4) := F_3 _ _ (by unfold fr_LawReader_sum; omega)
    have m_15 : 0 ≤ (g 192 (g2 191 4)) ∧ (g 192 (g2 191 4)) ≤ 4 := I.1 192 (g2 191 4)
    have m_16 : (-1) ≤ (g2 193 (g2 191 4)) ∧ (g2 193 (g2 191 4)) ≤ 9999 := I_2.1 193 (g2 191 4)
    have m_17 : g2 193 (g2 191 4) = g 193 (g2 191 4) := F_3 _ _ (by unfold fr_LawReader_sum; omega)
    have m_18 : (-1) ≤ (g 193 (g2 191 4)) ∧ (g 193 (g2 191 4)) ≤ 9999 := I.1 193 (g2 191 4)
    refine k_Tokens_isAt I_2 ⟨by omega, by omega⟩ ⟨by omega, by omega⟩ (fun v4 b_5 b_6 b_7 b_8 => ?_)
    refine ⟨fun c30 => ?_, fun c30 => ?_⟩
    · refine k_Tokens_isAt I_2 ⟨by omega, by omega⟩ ⟨by omega, by omega⟩ (fun v7 b_19 b_20 b_21 b_22 => ?_)
      refine ⟨fun c29 => ?_, fun c29 => ?_⟩
      · refine k_Tokens_isAt I_2 ⟨by omega, by omega⟩ ⟨by omega, by omega⟩ (fun v10 b_23 b_24 b_25 b_26 => ?_)
        refine ⟨fun c28 => ?_, fun c28 => ?_⟩
        · exact k_LawReader_comparison_b57 I_2 F_4 ⟨by omega, by omega⟩ hQ
        · exact k_LawReader_comparison_b57 I_2 F_4 ⟨by omega, by omega⟩ hQ
      · exact k_LawReader_comparison_b57 I_2 F_4 ⟨by omega, by omega⟩ hQ
    · exact k_LawReader_comparison_b57 I_2 F_4 ⟨by omega, by omega⟩ hQ
  · exact hQ _ _ I_2 F_4 ⟨by omega, by omega⟩
-- SpoutNews$LawReader.settleNots(LSpoutNews$Law;)V
noncomputable def fr_LawReader_settleNots (a : Nat) (i : Int) : Prop := a = 197 ∨ a = 198 ∨ (a = 196 ∧ i = 2) ∨ (a = 212 ∧ i = 1) ∨ (a = 212 ∧ i = 2)
theorem k_LawReader_settleNots_l2 {g0 : zi_M} {K : zi_M → Prop} {Q : Int → zi_M → Prop} {P0 : List Int} (hK : ∀ g, zk_I g → zk_fr fr_LawReader_settleNots g0 g → zB (zl_drop 6 P0) g → K g) :
    ∀ (P : List Int) (n : Nat) (l2 : Int) (g : zi_M), zk_I g → zk_fr fr_LawReader_settleNots g0 g → zB P g → zl_drop 6 P = zl_drop 6 P0 → 0 ≤ l2 → l2 + g 212 2 ≤ 8 → P.length < n → w_LawReader_settleNots_l2 K Q n l2 g
  | P, 0, l2, g, I, F, h, e, h0, h1, hm => absurd hm (Nat.not_lt_zero _)
  | [], n + 1, l2, g, I, F, h, e, h0, h1, hm => by
    have q : g 212 1 = 0 := h.q1
    have b2 : 0 ≤ g 212 2 := (I.1 212 2).1
    unfold w_LawReader_settleNots_l2
    have hk := hK g I F (by rw [← e]; exact h)
    exact ⟨⟨by omega, by omega⟩, fun _ => hk, fun _ => ⟨zk_rng I _ _, fun _ => hk, fun n => by omega⟩⟩
  | x :: t, n + 1, l2, g, I, F, h, e, h0, h1, hm => by
    have q := h.q1
    rw [List.length_cons] at q hm
    have b2 : 0 ≤ g 212 2 := (I.1 212 2).1
    have b1 : g 212 1 ≤ 40 := (I.1 212 1).2
    have ei : g 212 1 - 1 = (t.length : Int) := by omega
    have hx : g 213 (g 212 1 - 1) = x := by rw [ei]; exact h.ql.1
    have ho : g 212 2 = zl_of 6 0 t + (if x = 6 ∨ x = 0 then 1 else 0) := h.op
    have o0 := zl_of0 6 0 t
    unfold w_LawReader_settleNots_l2
    by_cases e6 : x = 6
    · rw [if_pos (Or.inl e6)] at ho
      refine ⟨⟨by omega, by omega⟩, fun q => by omega, fun _ => ⟨zk_rng I _ _, fun q => by omega, fun _ => ⟨⟨by omega, by omega⟩, zk_rng I _ _, fun q => absurd (hx.trans e6) q, fun _ => ?_⟩⟩⟩
      refine k_Law_add I ⟨by decide, by decide⟩ ⟨by decide, by decide⟩ (fun g6 I6 F6 => ?_)
      intro g8 e8 g9 e9
      have c1 : g6 212 1 = g 212 1 := F6 _ _ (by unfold fr_Law_add; omega)
      have c2 : g6 212 2 = g 212 2 := F6 _ _ (by unfold fr_Law_add; omega)
      have c3 : g6 212 3 = g 212 3 := F6 _ _ (by unfold fr_Law_add; omega)
      have z6 := h.c c1 c2 c3 (fun i => F6 _ _ (by unfold fr_Law_add; omega))
      rw [e6] at z6
      have z9 := z6.n e8 e9
      have d2 : g8 212 2 = g6 212 2 := by rw [e8]; exact zi_u_ni (by decide)
      have d9 : g9 212 2 = g 212 2 - 1 := by rw [e9, zi_u_eq, d2, c2]
      have b8 : g 212 2 ≤ 8 := (I.1 212 2).2
      have I8 : zk_I g8 := by rw [e8]; exact zk_upd (L := 0) (H := 40) rfl rfl I6 ⟨by omega, by omega⟩
      have I9 : zk_I g9 := by rw [e9]; exact zk_upd (L := 0) (H := 8) rfl rfl I8 ⟨by omega, by omega⟩
      have F6' : zk_fr fr_LawReader_settleNots g0 g6 := zk_ft F F6 (fun a i h => h.elim Or.inl (fun h => Or.inr (h.elim Or.inl (fun h => Or.inr (Or.inl h)))))
      refine k_LawReader_settleNots_l2 hK t n (l2 + 1) g9 I9 ?_ z9 ?_ (by omega) (by omega) (by omega)
      · rw [e9, e8]; exact zk_fu (zk_fu F6' (Or.inr (Or.inr (Or.inr (Or.inl ⟨rfl, rfl⟩))))) (Or.inr (Or.inr (Or.inr (Or.inr ⟨rfl, rfl⟩))))
      · rw [← e, e6]
        show _ = (if (6 : Int) = 6 then zl_drop 6 t else _)
        rw [if_pos rfl]
    · have hk := hK g I F (by rw [← e]; show zB (if x = 6 then _ else _) g; rw [if_neg e6]; exact h)
      exact ⟨⟨by omega, by omega⟩, fun _ => hk, fun _ => ⟨zk_rng I _ _, fun _ => hk, fun _ => ⟨⟨by omega, by omega⟩, zk_rng I _ _, fun _ => hk, fun q => absurd (hx.symm.trans q) e6⟩⟩⟩
theorem k_LawReader_settleNots {g : zi_M} {Q : Int → zi_M → Prop} (I : zk_I g) (px0 : ∃ P, zB P g) (hQ : ∀ g' : zi_M, zk_I g' → zk_fr fr_LawReader_settleNots g g' → (∃ P, zB P g' ∧ zl_top P ≠ 6) → Q 0 g') : w_LawReader_settleNots g Q := by
  unfold w_LawReader_settleNots
  obtain ⟨P, hP⟩ := px0
  have b8 : g 212 2 ≤ 8 := (I.1 212 2).2
  exact ⟨P.length + 1, k_LawReader_settleNots_l2 (g0 := g) (P0 := P) (fun g' I' F' z => hQ g' I' F' ⟨_, z, zl_dropt 6 (by decide) P⟩) P (P.length + 1) 0 g I (zk_f0 _) hP rfl (by omega) (by omega) (Nat.lt_succ_self _)⟩

-- SpoutNews$LawReader.settleBinary(LSpoutNews$Law;I)V
noncomputable def fr_LawReader_settleBinary (a : Nat) (i : Int) : Prop := a = 197 ∨ a = 198 ∨ (a = 196 ∧ i = 2) ∨ (a = 212 ∧ i = 1)
theorem k_LawReader_settleBinary_l2 {g0 : zi_M} {l2 : Int} {K45 K82 : zi_M → Prop} {Q : Int → zi_M → Prop} (q2 : l2 = 4 ∨ l2 = 5) (hK : ∀ g P, zk_I g → zk_fr fr_LawReader_settleBinary g0 g → zB P g → zl_top P ≠ 6 → zl_top P ≠ 5 → (l2 = 4 → zl_top P ≠ 4) → K45 g ∧ K82 g) :
    ∀ (P : List Int) (n : Nat) (l3 : Int) (g : zi_M), zk_I g → zk_fr fr_LawReader_settleBinary g0 g → zB P g → zl_top P ≠ 6 → 0 ≤ l3 → l3 + g 212 1 ≤ 40 → P.length < n → w_LawReader_settleBinary_l2 l2 K45 K82 Q n l3 g
  | P, 0, l3, g, I, F, h, ht, h0, h1, hm => absurd hm (Nat.not_lt_zero _)
  | [], n + 1, l3, g, I, F, h, ht, h0, h1, hm => by
    have q : g 212 1 = 0 := h.q1
    have hk := (hK g [] I F h (show (0 : Int) ≠ 6 by decide) (show (0 : Int) ≠ 5 by decide) (fun _ => (show (0 : Int) ≠ 4 by decide))).2
    unfold w_LawReader_settleBinary_l2
    exact ⟨⟨by omega, by omega⟩, fun _ => hk, fun _ => ⟨zk_rng I _ _, fun _ => hk, fun n => by omega⟩⟩
  | x :: t, n + 1, l3, g, I, F, h, ht, h0, h1, hm => by
    have q := h.q1
    rw [List.length_cons] at q hm
    have b1 : g 212 1 ≤ 40 := (I.1 212 1).2
    have ei : g 212 1 - 1 = (t.length : Int) := by omega
    have hx : g 213 (g 212 1 - 1) = x := by rw [ei]; exact h.ql.1
    have b48 : x = 4 ∨ x = 5 → w_LawReader_settleBinary_b48 l2 l3 (g 213 (g 212 1 - 1)) g (w_LawReader_settleBinary_l2 l2 K45 K82 Q n) K45 K82 Q := by
      intro hx2
      have tt : zl_top t ≠ 6 := by
        rcases h.ok.2 with q | q | q | q
        · omega
        · omega
        · exact q.2.1
        · exact q.2.1
      have go : ∀ w : Int, 0 ≤ w ∧ w ≤ 11 → w_Law_add w 0 g (fun _ g7 => (∀ g9, g9 = zi_u g7 212 1 ((g7 212 1) - 1) → w_LawReader_settleBinary_l2 l2 K45 K82 Q n (l3 + 1) g9)) := by
        intro w hw
        refine k_Law_add I hw ⟨by decide, by decide⟩ (fun g6 I6 F6 => ?_)
        intro g9 e9
        have c1 : g6 212 1 = g 212 1 := F6 _ _ (by unfold fr_Law_add; omega)
        have c2 : g6 212 2 = g 212 2 := F6 _ _ (by unfold fr_Law_add; omega)
        have c3 : g6 212 3 = g 212 3 := F6 _ _ (by unfold fr_Law_add; omega)
        have z6 := h.c c1 c2 c3 (fun i => F6 _ _ (by unfold fr_Law_add; omega))
        have z9 := z6.b hx2 e9
        have d1 : g9 212 1 = g 212 1 - 1 := by rw [e9, zi_u_eq, c1]
        have I9 : zk_I g9 := by rw [e9]; exact zk_upd (L := 0) (H := 40) rfl rfl I6 ⟨by omega, by omega⟩
        have F6' : zk_fr fr_LawReader_settleBinary g0 g6 := zk_ft F F6 (fun a i h => h.elim Or.inl (fun h => Or.inr (h.elim Or.inl (fun h => Or.inr (Or.inl h)))))
        exact k_LawReader_settleBinary_l2 q2 hK t n (l3 + 1) g9 I9 (by rw [e9]; exact zk_fu F6' (Or.inr (Or.inr (Or.inr ⟨rfl, rfl⟩)))) z9 tt (by omega) (by omega) (by omega)
      unfold w_LawReader_settleBinary_b48
      exact ⟨zk_rng I _ _, fun _ => go 11 ⟨by decide, by decide⟩, fun _ => go 10 ⟨by decide, by decide⟩⟩
    unfold w_LawReader_settleBinary_l2
    refine ⟨⟨by omega, by omega⟩, fun q => by omega, fun _ => ⟨zk_rng I _ _, fun q => by omega, fun _ => ⟨⟨by omega, by omega⟩, zk_rng I _ _, fun e5 => b48 (by omega), fun n5 => ⟨fun n4 => ?_, fun e4 => ⟨⟨by omega, by omega⟩, fun el => b48 (by omega), fun nl => ?_⟩⟩⟩⟩⟩
    · rw [hx] at n5 n4
      exact (hK g _ I F h ht n5 (fun _ => n4)).2
    · rw [hx] at n5
      exact (hK g _ I F h ht n5 (fun q => absurd q nl)).1
theorem k_LawReader_settleBinary {l2 : Int} {g : zi_M} {Q : Int → zi_M → Prop} (I : zk_I g) (p2 : (-1) ≤ l2 ∧ l2 ≤ 9999) (px0 : l2 = 4 ∨ l2 = 5) (px1 : ∃ P, zB P g ∧ zl_top P ≠ 6) (hQ : ∀ g' : zi_M, zk_I g' → zk_fr fr_LawReader_settleBinary g g' → (∃ P, zB P g' ∧ zl_top P ≠ 6 ∧ zl_top P ≠ 5 ∧ (l2 = 4 → zl_top P ≠ 4)) → Q 0 g') : w_LawReader_settleBinary l2 g Q := by
  unfold w_LawReader_settleBinary
  obtain ⟨P, hP, ht⟩ := px1
  have b1 : g 212 1 ≤ 40 := (I.1 212 1).2
  exact ⟨P.length + 1, k_LawReader_settleBinary_l2 (g0 := g) px0 (fun g' P' I' F' z t1 t2 t3 => ⟨hQ g' I' F' ⟨_, z, t1, t2, t3⟩, hQ g' I' F' ⟨_, z, t1, t2, t3⟩⟩) P (P.length + 1) 0 g I (zk_f0 _) hP ht (by omega) (by omega) (Nat.lt_succ_self _)⟩

-- SpoutNews$LawReader.closeAll(LSpoutNews$Tokens;LSpoutNews$Law;)V
noncomputable def fr_LawReader_closeAll (a : Nat) (i : Int) : Prop := a = 197 ∨ a = 198 ∨ (a = 191 ∧ i = 4) ∨ (a = 196 ∧ i = 2) ∨ (a = 212 ∧ i = 1) ∨ (a = 212 ∧ i = 2) ∨ (a = 212 ∧ i = 3)
theorem k_LawReader_closeAll_l7 {g0 : zi_M} {K : zi_M → Prop} {Q : Int → zi_M → Prop} (hK : ∀ g P, zk_I g → zk_fr fr_LawReader_closeAll g0 g → zB P g → zl_top P ≠ 6 → K g) :
    ∀ (n : Nat) (l3 : Int) (P : List Int) (g : zi_M), zk_I g → zk_fr fr_LawReader_closeAll g0 g → zB P g → zl_top P ≠ 6 → 0 ≤ l3 → l3 ≤ 8 → 8 - l3 < (n : Int) → w_LawReader_closeAll_l7 K Q n l3 g
  | 0, l3, P, g, I, F, h, ht, h0, h1, hm => by exfalso; omega
  | n + 1, l3, P, g, I, F, h, ht, h0, h1, hm => by
    have hk := hK g P I F h ht
    unfold w_LawReader_closeAll_l7
    refine ⟨⟨by omega, by omega⟩, fun _ => hk, fun _ => ⟨zk_rng I _ _, fun _ => hk, fun hp => ?_⟩⟩
    refine k_Tokens_isAt I ⟨by decide, by decide⟩ ⟨by decide, by decide⟩ (fun v6 d1 d2 d3 d4 => ⟨fun _ => hk, fun _ => ?_⟩)
    refine k_LawReader_settleBinary I ⟨by decide, by decide⟩ (Or.inl rfl) ⟨P, h, ht⟩ (fun g10 I10 F10 hz => ?_)
    obtain ⟨P2, z2, t6, t5, t4⟩ := hz
    have t4 := t4 rfl
    have c3 : g10 212 3 = g 212 3 := F10 _ _ (by unfold fr_LawReader_settleBinary; omega)
    have pr := z2.pr
    have hP : ∃ t, P2 = 0 :: t := by
      cases P2 with
      | nil => rw [c3] at pr; have : g 212 3 = 0 := pr; omega
      | cons x t =>
        have hx : x ≠ 6 ∧ x ≠ 5 ∧ x ≠ 4 := ⟨t6, t5, t4⟩
        rcases z2.ok.2 with q | q | q | q
        · exact absurd q hx.1
        · exact ⟨t, by rw [q]⟩
        · exact absurd q.1 hx.2.1
        · exact absurd q.1 hx.2.2
    obtain ⟨t, et⟩ := hP
    rw [et] at z2
    intro g12 e12 g13 e13 g14 e14
    have z14 := z2.p e12 e13 e14
    have q1 := z2.q1
    rw [List.length_cons] at q1
    have o : g10 212 2 = zl_of 6 0 t + 1 := z2.op
    have p : g10 212 3 = zl_of 0 0 t + 1 := z2.pr
    have o0 := zl_of0 6 0 t
    have p0 := zl_of0 0 0 t
    have r1 : g10 212 1 ≤ 40 := (I10.1 212 1).2
    have r2 : g10 212 2 ≤ 8 := (I10.1 212 2).2
    have r3 : g10 212 3 ≤ 8 := (I10.1 212 3).2
    have a3 : g12 212 3 = g10 212 3 := by rw [e12]; exact zi_u_ni (by decide)
    have a2 : g13 212 2 = g10 212 2 := by rw [e13, zi_u_ni (by decide), e12]; exact zi_u_ni (by decide)
    have I12 : zk_I g12 := by rw [e12]; exact zk_upd (L := 0) (H := 40) rfl rfl I10 ⟨by omega, by omega⟩
    have I13 : zk_I g13 := by rw [e13]; exact zk_upd (L := 0) (H := 8) rfl rfl I12 ⟨by omega, by omega⟩
    have I14 : zk_I g14 := by rw [e14]; exact zk_upd (L := 0) (H := 8) rfl rfl I13 ⟨by omega, by omega⟩
    have G10 : zk_fr fr_LawReader_closeAll g0 g10 := zk_ft F F10 (fun a i h => h.elim Or.inl (fun h => Or.inr (h.elim Or.inl (fun h => Or.inr (Or.inr (h.elim Or.inl (fun h => Or.inr (Or.inl h))))))))
    have G14 : zk_fr fr_LawReader_closeAll g0 g14 := by
      rw [e14, e13, e12]
      exact zk_fu (zk_fu (zk_fu G10 (Or.inr (Or.inr (Or.inr (Or.inr (Or.inl ⟨rfl, rfl⟩)))))) (Or.inr (Or.inr (Or.inr (Or.inr (Or.inr (Or.inr ⟨rfl, rfl⟩))))))) (Or.inr (Or.inr (Or.inr (Or.inr (Or.inr (Or.inl ⟨rfl, rfl⟩))))))
    refine k_Tokens_step I14 (fun g16 I16 F16 => ?_)
    have z16 : zB t g16 := z14.c (F16 _ _ (by unfold fr_Tokens_step; omega)) (F16 _ _ (by unfold fr_Tokens_step; omega)) (F16 _ _ (by unfold fr_Tokens_step; omega)) (fun i => F16 _ _ (by unfold fr_Tokens_step; omega))
    have G16 : zk_fr fr_LawReader_closeAll g0 g16 := zk_ft G14 F16 (fun a i h => Or.inr (Or.inr (Or.inl h)))
    refine k_LawReader_settleNots I16 ⟨t, z16⟩ (fun g19 I19 F19 hz => ?_)
    obtain ⟨P3, z19, t19⟩ := hz
    exact k_LawReader_closeAll_l7 hK n (l3 + 1) P3 g19 I19 (zk_ft G16 F19 (fun a i h => h.elim Or.inl (fun h => Or.inr (h.elim Or.inl (fun h => Or.inr (Or.inr (h.elim Or.inl (fun h => Or.inr (h.elim Or.inl (fun h => Or.inr (Or.inl h)))))))))) ) z19 t19 (by omega) (by omega) (by omega)
theorem k_LawReader_closeAll {g : zi_M} {Q : Int → zi_M → Prop} (I : zk_I g) (px0 : ∃ P, zB P g) (hQ : ∀ g' : zi_M, zk_I g' → zk_fr fr_LawReader_closeAll g g' → (∃ P, zB P g' ∧ zl_top P ≠ 6) → Q 0 g') : w_LawReader_closeAll g Q := by
  unfold w_LawReader_closeAll
  refine k_LawReader_settleNots I px0 (fun g2 I2 F2 hz => ?_)
  obtain ⟨P, z, t⟩ := hz
  have G2 : zk_fr fr_LawReader_closeAll g g2 := zk_ft (zk_f0 _) F2 (fun a i h => h.elim Or.inl (fun h => Or.inr (h.elim Or.inl (fun h => Or.inr (Or.inr (h.elim Or.inl (fun h => Or.inr (h.elim Or.inl (fun h => Or.inr (Or.inl h)))))))))) 
  exact ⟨9, k_LawReader_closeAll_l7 (fun g' P' I' F' z' t' => hQ g' I' F' ⟨_, z', t'⟩) 9 0 P g2 I2 G2 z t (by omega) (by omega) (by omega)⟩

-- SpoutNews$LawReader.conditions(LSpoutNews$Tokens;LSpoutNews$Law;)Z
noncomputable def fr_LawReader_conditions (a : Nat) (i : Int) : Prop := a = 197 ∨ a = 198 ∨ a = 213 ∨ (a = 191 ∧ i = 4) ∨ (a = 191 ∧ i = 5) ∨ (a = 191 ∧ i = 6) ∨ (a = 196 ∧ i = 2) ∨ (a = 212 ∧ i = 1) ∨ (a = 212 ∧ i = 2) ∨ (a = 212 ∧ i = 3)
theorem k_LawReader_conditions_l17 {g0 : zi_M} {K41 K65 K97 : zi_M → Prop} {Q : Int → zi_M → Prop} (hK41 : ∀ g, zk_I g → zk_fr fr_LawReader_conditions g0 g → K41 g) (hK65 : ∀ g P, zk_I g → zk_fr fr_LawReader_conditions g0 g → zB P g → zl_top P ≠ 6 → K65 g) (hK97 : ∀ g P, zk_I g → zk_fr fr_LawReader_conditions g0 g → zB P g → zl_top P ≠ 6 → K97 g) :
    ∀ (n : Nat) (l3 : Int) (P : List Int) (g : zi_M), zk_I g → zk_fr fr_LawReader_conditions g0 g → zB P g → zl_top P ≠ 6 → 0 ≤ l3 → l3 ≤ 401 → 401 - l3 < (n : Int) → w_LawReader_conditions_l17 K41 K65 K97 Q n l3 g
  | 0, l3, P, g, I, F, h, ht, h0, h1, hm => by exfalso; omega
  | n + 1, l3, P, g, I, F, h, ht, h0, h1, hm => by
    unfold w_LawReader_conditions_l17
    refine ⟨⟨by omega, by omega⟩, fun _ => hK97 g P I F h ht, fun hl => ?_⟩
    have OC : ∀ a i, fr_LawReader_openAll a i → fr_LawReader_conditions a i := by
      intro a i h
      unfold fr_LawReader_openAll at h
      unfold fr_LawReader_conditions
      rcases h with h | h | h | h | h | h | h <;> simp [h]
    have CC : ∀ a i, fr_LawReader_comparison a i → fr_LawReader_conditions a i := by
      intro a i h
      unfold fr_LawReader_comparison at h
      unfold fr_LawReader_conditions
      rcases h with h | h | h | h | h | h <;> simp [h]
    have LC : ∀ a i, fr_LawReader_closeAll a i → fr_LawReader_conditions a i := by
      intro a i h
      unfold fr_LawReader_closeAll at h
      unfold fr_LawReader_conditions
      rcases h with h | h | h | h | h | h | h <;> simp [h]
    have BC : ∀ a i, fr_LawReader_settleBinary a i → fr_LawReader_conditions a i := by
      intro a i h
      unfold fr_LawReader_settleBinary at h
      unfold fr_LawReader_conditions
      rcases h with h | h | h | h <;> simp [h]
    have UC : ∀ a i, fr_LawReader_push a i → fr_LawReader_conditions a i := by
      intro a i h
      unfold fr_LawReader_push at h
      unfold fr_LawReader_conditions
      rcases h with h | h <;> simp [h]
    have SC : ∀ a i, fr_Tokens_step a i → fr_LawReader_conditions a i := by
      intro a i h
      unfold fr_Tokens_step at h
      unfold fr_LawReader_conditions
      simp [h]
    refine k_LawReader_openAll I ⟨P, h⟩ (fun v5 g6 I6 F6 hv5 hz => ⟨fun _ => hK41 g6 I6 (zk_ft F F6 OC), fun n5 => ?_⟩)
    obtain ⟨P6, z6⟩ := hz n5
    have G6 := zk_ft F F6 OC
    refine k_LawReader_comparison I6 (fun v8 g9 I9 F9 hv8 => ⟨fun n8 => ?_, fun _ => hK41 g9 I9 (zk_ft G6 F9 CC)⟩)
    have z9 : zB P6 g9 := z6.c (F9 _ _ (by unfold fr_LawReader_comparison; omega)) (F9 _ _ (by unfold fr_LawReader_comparison; omega)) (F9 _ _ (by unfold fr_LawReader_comparison; omega)) (fun i => F9 _ _ (by unfold fr_LawReader_comparison; omega))
    have G9 := zk_ft G6 F9 CC
    refine k_LawReader_closeAll I9 ⟨P6, z9⟩ (fun g12 I12 F12 hz => ?_)
    obtain ⟨P12, z12, t12⟩ := hz
    have G12 := zk_ft G9 F12 LC
    have r := I12.1 193 (g12 191 4)
    have r1 : -1 ≤ g12 193 (g12 191 4) := r.1
    have r2 : g12 193 (g12 191 4) ≤ 9999 := r.2
    have b68 : (g12 191 4 < g12 191 3 ∧ g12 192 (g12 191 4) = 2 ∧ (g12 193 (g12 191 4) = 4 ∨ g12 193 (g12 191 4) = 5)) → w_LawReader_conditions_b68 l3 g12 (w_LawReader_conditions_l17 K41 K65 K97 Q n) K41 K65 K97 Q := by
      intro hk
      unfold w_LawReader_conditions_b68
      refine k_Tokens_keyword I12 (fun v18 d1 d2 d3 => ?_)
      have hv := d3 hk.1 hk.2.1
      refine k_LawReader_settleBinary I12 ⟨by omega, by omega⟩ (by omega) ⟨P12, z12, t12⟩ (fun g22 I22 F22 hz => ?_)
      obtain ⟨P22, z22, t6, t5, t4⟩ := hz
      have G22 := zk_ft G12 F22 BC
      have ln := z22.len I22
      have q1 := z22.q1
      refine k_LawReader_push I22 ⟨by omega, by omega⟩ (fun g25 I25 F25 hp => ?_)
      obtain ⟨w1, w2, w3⟩ := hp (by omega)
      have z25 : zB (v18 :: P22) g25 := by
        refine z22.u ⟨z22.ok, ?_⟩ w1 w2 w3 ?_ ?_
        · by_cases e : v18 = 5
          · exact Or.inr (Or.inr (Or.inl ⟨e, t6, t5⟩))
          · exact Or.inr (Or.inr (Or.inr ⟨by omega, t6, t5, t4 (by omega)⟩))
        · rw [F25 _ _ (by unfold fr_LawReader_push; omega), if_neg (by omega)]; omega
        · rw [F25 _ _ (by unfold fr_LawReader_push; omega), if_neg (by omega)]; omega
      have G25 := zk_ft G22 F25 UC
      refine k_Tokens_step I25 (fun g28 I28 F28 => ?_)
      refine k_LawReader_conditions_l17 hK41 hK65 hK97 n (l3 + 1) (v18 :: P22) g28 I28 (zk_ft G25 F28 SC) (z25.c ?_ ?_ ?_ (fun i => ?_)) (show v18 ≠ 6 by omega) (by omega) (by omega) (by omega) <;> exact F28 _ _ (by unfold fr_Tokens_step; omega)
    refine k_Tokens_keyword I12 (fun v14 d1 d2 d3 => ⟨⟨by omega, by omega⟩, fun e5 => b68 (by omega), fun n5 => ?_⟩)
    refine k_Tokens_keyword I12 (fun v30 f1 f2 f3 => ⟨⟨by omega, by omega⟩, fun e4 => b68 (by omega), fun _ => hK65 g12 P12 I12 G12 z12 t12⟩)
theorem k_LawReader_conditions {g : zi_M} {Q : Int → zi_M → Prop} (I : zk_I g) (hQ : ∀ (v : Int) (g' : zi_M), zk_I g' → zk_fr fr_LawReader_conditions g g' → (0 ≤ v ∧ v ≤ 1) → Q v g') : w_LawReader_conditions g Q := by
  unfold w_LawReader_conditions
  intro g1 e1 g2 e2 g3 e3
  have I1 : zk_I g1 := by rw [e1]; exact zk_upd (L := 0) (H := 40) rfl rfl I ⟨by decide, by decide⟩
  have I2 : zk_I g2 := by rw [e2]; exact zk_upd (L := 0) (H := 8) rfl rfl I1 ⟨by decide, by decide⟩
  have I3 : zk_I g3 := by rw [e3]; exact zk_upd (L := 0) (H := 8) rfl rfl I2 ⟨by decide, by decide⟩
  have w : ∀ k : Int, k = 1 ∨ k = 2 ∨ k = 3 → fr_LawReader_conditions 212 k := by
    intro k hk
    unfold fr_LawReader_conditions
    rcases hk with h | h | h <;> simp [h]
  have F3 : zk_fr fr_LawReader_conditions g g3 := by
    rw [e3, e2, e1]
    exact zk_fu (zk_fu (zk_fu (zk_f0 _) (w 1 (Or.inl rfl))) (w 2 (Or.inr (Or.inl rfl)))) (w 3 (Or.inr (Or.inr rfl)))
  have z3 : zB [] g3 := ⟨by rw [e3, zi_u_ni (by decide), e2, zi_u_ni (by decide), e1, zi_u_eq]; rfl, trivial, trivial, by rw [e3, zi_u_ni (by decide), e2, zi_u_eq]; rfl, by rw [e3, zi_u_eq]; rfl⟩
  have b97 : ∀ g' P, zk_I g' → zk_fr fr_LawReader_conditions g g' → zB P g' → zl_top P ≠ 6 → w_LawReader_conditions_b97 g' Q := by
    intro g' P I' F' z' t'
    unfold w_LawReader_conditions_b97
    refine ⟨zk_rng I' _ _, fun _ => ?_, fun _ => ?_⟩
    · refine k_LawReader_settleBinary I' ⟨by decide, by decide⟩ (Or.inl rfl) ⟨P, z', t'⟩ (fun g'' I'' F'' _ => hQ _ _ I'' (zk_ft F' F'' (fun a i h => ?_)) ⟨by decide, by decide⟩)
      unfold fr_LawReader_settleBinary at h
      unfold fr_LawReader_conditions
      rcases h with h | h | h | h <;> simp [h]
    · refine k_Tokens_refuse I' ⟨by decide, by decide⟩ (fun v g'' I'' F'' hv => hQ _ _ I'' (zk_ft F' F'' (fun a i h => ?_)) ⟨by omega, by omega⟩)
      unfold fr_Tokens_refuse at h
      unfold fr_LawReader_conditions
      rcases h with h | h <;> simp [h]
  exact ⟨402, k_LawReader_conditions_l17 (fun g' I' F' => hQ _ _ I' F' ⟨by decide, by decide⟩) (fun g' P I' F' z' t' => b97 g' P I' F' z' t') (fun g' P I' F' z' t' => b97 g' P I' F' z' t') 402 0 [] g3 I3 F3 z3 (show (0 : Int) ≠ 6 by decide) (by omega) (by omega) (by omega)⟩

