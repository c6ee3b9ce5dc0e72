-- by program (wip/gen/mkz.py)
-- SpoutNews$Past.forget()V
def fr_Past_forget (a : Nat) (i : Int) : Prop := (a = 91 ∧ i = 1)
set_option maxRecDepth 100000 in
set_option maxHeartbeats 400000 in
theorem k_Past_forget {g : zi_M} {Q : Int → zi_M → Prop} (I : zk_I g) (hQ : ∀ g' : zi_M, zk_I g' → zk_fr fr_Past_forget g g' → Q 0 g') : w_Past_forget g Q := by
  unfold w_Past_forget
  intro g1 e_1
  have I_2 : zk_I g1 := by rw [e_1]; exact zk_upd (L := 0) (H := 6) rfl rfl I ⟨by omega, by omega⟩
  have F_3 : zk_fr fr_Past_forget g g1 := by rw [e_1]; exact zk_fu (zk_f0 _) ⟨rfl, rfl⟩
  exact hQ _ I_2 F_3
-- SpoutNews.state(I)I
def fr_S_state (a : Nat) (i : Int) : Prop := (a = 2 ∧ i = 18) ∨ (a = 91 ∧ i = 1)
set_option maxRecDepth 100000 in
set_option maxHeartbeats 400000 in
theorem k_S_state {l1 : Int} {g : zi_M} {Q : Int → zi_M → Prop} (I : zk_I g) (p1 : (-2147483648) ≤ l1 ∧ l1 ≤ 2147483647) (hQ : ∀ (v : Int) (g' : zi_M), zk_I g' → zk_fr fr_S_state g g' → ((-2147483648) ≤ v ∧ v ≤ 2147483647) → Q v g') : w_S_state l1 g Q := by
  unfold w_S_state
  intro g1 e_1
  have I_2 : zk_I g1 := by rw [e_1]; exact zk_upd (L := (-2147483648)) (H := 2147483647) rfl rfl I ⟨by omega, by omega⟩
  have F_3 : zk_fr fr_S_state g g1 := by rw [e_1]; exact zk_fu (zk_f0 _) (Or.inl ⟨rfl, rfl⟩)
  refine k_Past_forget I_2 (fun g3 I_4 F_5 => ?_)
  have F_6 : zk_fr fr_S_state g g3 := zk_ft F_3 F_5 (fun a i => (fun h => (Or.inr h)))
  have m_7 : (-2147483648) ≤ (g 2 18) ∧ (g 2 18) ≤ 2147483647 := I.1 2 18
  exact hQ _ _ I_4 F_6 ⟨by omega, by omega⟩
-- SpoutNewsModel.state(I)I
def fr_M_state (a : Nat) (i : Int) : Prop := (a = 214 ∧ i = 0) ∨ (a = 214 ∧ i = 3) ∨ (a = 215 ∧ 1 ≤ i ∧ i < 2)
set_option maxRecDepth 100000 in
set_option maxHeartbeats 400000 in
theorem k_M_state {l1 : Int} {g : zi_M} {Q : Int → zi_M → Prop} (I : zk_I g) (p1 : (-2147483648) ≤ l1 ∧ l1 ≤ 2147483647) (hQ : ∀ (v : Int) (g' : zi_M), zk_I g' → zk_fr fr_M_state g g' → ((-2147483648) ≤ v ∧ v ≤ 2147483647) → Q v g') : w_M_state l1 g Q := by
  unfold w_M_state
  intro g1 e_1
  have I_2 : zk_I g1 := by rw [e_1]; exact zk_upd (L := (-2147483648)) (H := 2147483647) rfl rfl I ⟨by omega, by omega⟩
  have F_3 : zk_fr fr_M_state g g1 := by rw [e_1]; exact zk_fu (zk_f0 _) (Or.inl ⟨rfl, rfl⟩)
  intro g2 e_4
  have I_5 : zk_I g2 := by rw [e_4]; exact zk_upd (zk_nl0 (i := 1) (by omega)).1 (zk_nl0 (i := 1) (by omega)).2 I_2 ⟨by omega, by omega⟩
  have F_6 : zk_fr fr_M_state g g2 := by rw [e_4]; exact zk_fu F_3 (Or.inr (Or.inr ⟨rfl, by omega, by omega⟩))
  intro g3 e_7
  have I_8 : zk_I g3 := by rw [e_7]; exact zk_upd (L := 0) (H := 6) rfl rfl I_5 ⟨by omega, by omega⟩
  have F_9 : zk_fr fr_M_state g g3 := by rw [e_7]; exact zk_fu F_6 (Or.inr (Or.inl ⟨rfl, rfl⟩))
  have m_10 := zk_rng I_2 215 1
  have m_11 : g1 215 1 = g 215 1 := by rw [e_1]; exact zi_u_ne (by decide)
  have m_12 := zk_rng I 215 1
  exact hQ _ _ I_8 F_9 ⟨by omega, by omega⟩
-- SpoutNews$World.addSpout(III)I
def fr_World_addSpout (a : Nat) (i : Int) : Prop := a = 3 ∨ a = 4 ∨ a = 5 ∨ a = 6 ∨ a = 7 ∨ a = 8 ∨ (a = 2 ∧ i = 8)
set_option maxRecDepth 100000 in
set_option maxHeartbeats 400000 in
theorem k_World_addSpout {l1 : Int} {l2 : Int} {l3 : Int} {g : zi_M} {Q : Int → zi_M → Prop} (I : zk_I g) (p1 : 0 ≤ l1 ∧ l1 ≤ 5) (p2 : 0 ≤ l2 ∧ l2 ≤ 3) (p3 : 0 ≤ l3 ∧ l3 ≤ 99) (hQ : ∀ (v : Int) (g' : zi_M), zk_I g' → zk_fr fr_World_addSpout g g' → ((-1) ≤ v ∧ v ≤ 9) → Q v g') : w_World_addSpout l1 l2 l3 g Q := by
  unfold w_World_addSpout
  have m_1 : 0 ≤ (g 2 8) ∧ (g 2 8) ≤ 10 := I.1 2 8
  refine ⟨⟨by omega, by omega⟩, ?_⟩
  refine ⟨fun c10 => ?_, fun c10 => ?_⟩
  · refine ⟨⟨by omega, by omega⟩, ?_⟩
    intro g3 e_2
    have I_3 : zk_I g3 := by rw [e_2]; exact zk_upd (L := 0) (H := 5) rfl rfl I ⟨by omega, by omega⟩
    have F_4 : zk_fr fr_World_addSpout g g3 := by rw [e_2]; exact zk_fu (zk_f0 _) (Or.inl rfl)
    intro g4 e_5
    have I_6 : zk_I g4 := by rw [e_5]; exact zk_upd (L := 0) (H := 3) rfl rfl I_3 ⟨by omega, by omega⟩
    have F_7 : zk_fr fr_World_addSpout g g4 := by rw [e_5]; exact zk_fu F_4 (Or.inr (Or.inl rfl))
    intro g5 e_8
    have I_9 : zk_I g5 := by rw [e_8]; exact zk_upd (L := 0) (H := 99) rfl rfl I_6 ⟨by omega, by omega⟩
    have F_10 : zk_fr fr_World_addSpout g g5 := by rw [e_8]; exact zk_fu F_7 (Or.inr (Or.inr (Or.inl rfl)))
    intro g6 e_11
    have I_12 : zk_I g6 := by rw [e_11]; exact zk_upd (L := 0) (H := 2) rfl rfl I_9 ⟨by omega, by omega⟩
    have F_13 : zk_fr fr_World_addSpout g g6 := by rw [e_11]; exact zk_fu F_10 (Or.inr (Or.inr (Or.inr (Or.inl rfl))))
    intro g7 e_14
    have I_15 : zk_I g7 := by rw [e_14]; exact zk_upd (L := 0) (H := 999) rfl rfl I_12 ⟨by omega, by omega⟩
    have F_16 : zk_fr fr_World_addSpout g g7 := by rw [e_14]; exact zk_fu F_13 (Or.inr (Or.inr (Or.inr (Or.inr (Or.inl rfl)))))
    intro g8 e_17
    have I_18 : zk_I g8 := by rw [e_17]; exact zk_upd (L := 0) (H := 20) rfl rfl I_15 ⟨by omega, by omega⟩
    have F_19 : zk_fr fr_World_addSpout g g8 := by rw [e_17]; exact zk_fu F_16 (Or.inr (Or.inr (Or.inr (Or.inr (Or.inr (Or.inl rfl))))))
    intro g9 e_20
    have I_21 : zk_I g9 := by rw [e_20]; exact zk_upd (L := 0) (H := 10) rfl rfl I_18 ⟨by omega, by omega⟩
    have F_22 : zk_fr fr_World_addSpout g g9 := by rw [e_20]; exact zk_fu F_19 (Or.inr (Or.inr (Or.inr (Or.inr (Or.inr (Or.inr ⟨rfl, rfl⟩))))))
    exact hQ _ _ I_21 F_22 ⟨by omega, by omega⟩
  · exact hQ _ _ I (zk_f0 _) ⟨by omega, by omega⟩
-- SpoutNews.spout(III)I
def fr_S_spout (a : Nat) (i : Int) : Prop := a = 3 ∨ a = 4 ∨ a = 5 ∨ a = 6 ∨ a = 7 ∨ a = 8 ∨ (a = 2 ∧ i = 8) ∨ (a = 91 ∧ i = 1)
set_option maxRecDepth 100000 in
set_option maxHeartbeats 400000 in
theorem k_S_spout {l1 : Int} {l2 : Int} {l3 : Int} {g : zi_M} {Q : Int → zi_M → Prop} (I : zk_I g) (p1 : (-2147483648) ≤ l1 ∧ l1 ≤ 2147483647) (p2 : (-2147483648) ≤ l2 ∧ l2 ≤ 2147483647) (p3 : (-2147483648) ≤ l3 ∧ l3 ≤ 2147483647) (hQ : ∀ (v : Int) (g' : zi_M), zk_I g' → zk_fr fr_S_spout g g' → ((-1) ≤ v ∧ v ≤ 9) → Q v g') : w_S_spout l1 l2 l3 g Q := by
  unfold w_S_spout
  refine ⟨⟨by omega, by omega⟩, ?_⟩
  refine ⟨fun c17 => ?_, fun c17 => ?_⟩
  · exact hQ _ _ I (zk_f0 _) ⟨by omega, by omega⟩
  · refine ⟨fun c16 => ?_, fun c16 => ?_⟩
    · exact hQ _ _ I (zk_f0 _) ⟨by omega, by omega⟩
    · refine ⟨⟨by omega, by omega⟩, ?_⟩
      refine ⟨fun c15 => ?_, fun c15 => ?_⟩
      · exact hQ _ _ I (zk_f0 _) ⟨by omega, by omega⟩
      · refine ⟨fun c14 => ?_, fun c14 => ?_⟩
        · exact hQ _ _ I (zk_f0 _) ⟨by omega, by omega⟩
        · refine ⟨⟨by omega, by omega⟩, ?_⟩
          refine ⟨fun c13 => ?_, fun c13 => ?_⟩
          · exact hQ _ _ I (zk_f0 _) ⟨by omega, by omega⟩
          · refine ⟨fun c12 => ?_, fun c12 => ?_⟩
            · have m_1 : 0 ≤ (g 2 8) ∧ (g 2 8) ≤ 10 := I.1 2 8
              refine ⟨⟨by omega, by omega⟩, ?_⟩
              refine ⟨fun c11 => ?_, fun c11 => ?_⟩
              · refine k_Past_forget I (fun g6 I_2 F_3 => ?_)
                have F_4 : zk_fr fr_S_spout g g6 := zk_ft (zk_f0 _) F_3 (fun a i => (fun h => (Or.inr (Or.inr (Or.inr (Or.inr (Or.inr (Or.inr (Or.inr h)))))))))
                refine k_World_addSpout I_2 ⟨by omega, by omega⟩ ⟨by omega, by omega⟩ ⟨by omega, by omega⟩ (fun v8 g9 I_6 F_7 b_5 => ?_)
                have F_8 : zk_fr fr_S_spout g g9 := zk_ft F_4 F_7 (fun a i => (fun h => Or.elim h (fun h => (Or.inl h)) (fun h => Or.elim h (fun h => (Or.inr (Or.inl h))) (fun h => Or.elim h (fun h => (Or.inr (Or.inr (Or.inl h)))) (fun h => Or.elim h (fun h => (Or.inr (Or.inr (Or.inr (Or.inl h))))) (fun h => Or.elim h (fun h => (Or.inr (Or.inr (Or.inr (Or.inr (Or.inl h)))))) (fun h => Or.elim h (fun h => (Or.inr (Or.inr (Or.inr (Or.inr (Or.inr (Or.inl h))))))) (fun h => (Or.inr (Or.inr (Or.inr (Or.inr (Or.inr (Or.inr (Or.inl h)))))))))))))))
                exact hQ _ _ I_6 F_8 ⟨by omega, by omega⟩
              · exact hQ _ _ I (zk_f0 _) ⟨by omega, by omega⟩
            · exact hQ _ _ I (zk_f0 _) ⟨by omega, by omega⟩
-- SpoutNewsModel.isIn(III)Z
set_option maxRecDepth 100000 in
set_option maxHeartbeats 400000 in
theorem k_M_isIn {l1 : Int} {l2 : Int} {l3 : Int} {g : zi_M} {Q : Int → zi_M → Prop} (I : zk_I g) (p1 : (-2147483648) ≤ l1 ∧ l1 ≤ 2147483647) (p2 : (-2147483648) ≤ l2 ∧ l2 ≤ 2147483647) (p3 : (-2147483648) ≤ l3 ∧ l3 ≤ 2147483647) (hQ : ∀ v : Int, (l1 < l2 → v = 0) → (l2 ≤ l1 → l3 < l1 → v = 0) → (l2 ≤ l1 → l1 ≤ l3 → v = 1) → Q v g) : w_M_isIn l1 l2 l3 g Q := by
  unfold w_M_isIn
  refine ⟨⟨by omega, by omega⟩, ⟨by omega, by omega⟩, ?_⟩
  refine ⟨fun c5 => ?_, fun c5 => ?_⟩
  · exact hQ _ (by intros; omega) (by intros; omega) (by intros; omega)
  · refine ⟨⟨by omega, by omega⟩, ?_⟩
    refine ⟨fun c4 => ?_, fun c4 => ?_⟩
    · exact hQ _ (by intros; omega) (by intros; omega) (by intros; omega)
    · exact hQ _ (by intros; omega) (by intros; omega) (by intros; omega)
-- SpoutNewsModel.spout(III)I
def fr_M_spout (a : Nat) (i : Int) : Prop := a = 218 ∨ a = 219 ∨ a = 220 ∨ (a = 214 ∧ i = 0) ∨ (a = 214 ∧ i = 3) ∨ (a = 214 ∧ i = 6) ∨ (a = 215 ∧ 16 ≤ i ∧ i < 26) ∨ (a = 215 ∧ 26 ≤ i ∧ i < 36) ∨ (a = 215 ∧ 6 ≤ i ∧ i < 16)
set_option maxRecDepth 100000 in
set_option maxHeartbeats 400000 in
theorem k_M_spout {l1 : Int} {l2 : Int} {l3 : Int} {g : zi_M} {Q : Int → zi_M → Prop} (I : zk_I g) (p1 : (-2147483648) ≤ l1 ∧ l1 ≤ 2147483647) (p2 : (-2147483648) ≤ l2 ∧ l2 ≤ 2147483647) (p3 : (-2147483648) ≤ l3 ∧ l3 ≤ 2147483647) (hQ : ∀ (v : Int) (g' : zi_M), zk_I g' → zk_fr fr_M_spout g g' → ((-1) ≤ v ∧ v ≤ 9) → Q v g') : w_M_spout l1 l2 l3 g Q := by
  unfold w_M_spout
  intro g1 e_1
  have I_2 : zk_I g1 := by rw [e_1]; exact zk_upd (L := (-2147483648)) (H := 2147483647) rfl rfl I ⟨by omega, by omega⟩
  have F_3 : zk_fr fr_M_spout g g1 := by rw [e_1]; exact zk_fu (zk_f0 _) (Or.inr (Or.inr (Or.inr (Or.inl ⟨rfl, rfl⟩))))
  refine k_M_isIn I_2 ⟨by omega, by omega⟩ ⟨by omega, by omega⟩ ⟨by omega, by omega⟩ (fun v2 b_4 b_5 b_6 => ?_)
  refine ⟨fun c29 => ?_, fun c29 => ?_⟩
  · exact hQ _ _ I_2 F_3 ⟨by omega, by omega⟩
  · refine k_M_isIn I_2 ⟨by omega, by omega⟩ ⟨by omega, by omega⟩ ⟨by omega, by omega⟩ (fun v5 b_7 b_8 b_9 => ?_)
    refine ⟨fun c28 => ?_, fun c28 => ?_⟩
    · exact hQ _ _ I_2 F_3 ⟨by omega, by omega⟩
    · refine k_M_isIn I_2 ⟨by omega, by omega⟩ ⟨by omega, by omega⟩ ⟨by omega, by omega⟩ (fun v8 b_10 b_11 b_12 => ?_)
      refine ⟨fun c27 => ?_, fun c27 => ?_⟩
      · exact hQ _ _ I_2 F_3 ⟨by omega, by omega⟩
      · have m_13 : 0 ≤ (g1 214 6) ∧ (g1 214 6) ≤ 10 := I_2.1 214 6
        have m_14 : g1 214 6 = g 214 6 := by rw [e_1]; exact zi_u_ni (by decide)
        have m_15 : 0 ≤ (g 214 6) ∧ (g 214 6) ≤ 10 := I.1 214 6
        refine ⟨⟨by omega, by omega⟩, ?_⟩
        refine ⟨fun c26 => ?_, fun c26 => ?_⟩
        · refine ⟨⟨by omega, by omega⟩, ?_⟩
          intro g13 e_16
          have I_17 : zk_I g13 := by rw [e_16]; exact zk_upd (L := 0) (H := 5) rfl rfl I_2 ⟨by omega, by omega⟩
          have F_18 : zk_fr fr_M_spout g g13 := by rw [e_16]; exact zk_fu F_3 (Or.inl rfl)
          have m_22 : 0 ≤ (g13 214 6) ∧ (g13 214 6) ≤ 10 := I_17.1 214 6
          have m_23 : g13 214 6 = g1 214 6 := by rw [e_16]; exact zi_u_ne (by decide)
          refine ⟨⟨by omega, by omega⟩, ?_⟩
          intro g15 e_19
          have I_20 : zk_I g15 := by rw [e_19]; exact zk_upd (L := 0) (H := 3) rfl rfl I_17 ⟨by omega, by omega⟩
          have F_21 : zk_fr fr_M_spout g g15 := by rw [e_19]; exact zk_fu F_18 (Or.inr (Or.inl rfl))
          have m_27 : 0 ≤ (g15 214 6) ∧ (g15 214 6) ≤ 10 := I_20.1 214 6
          have m_28 : g15 214 6 = g13 214 6 := by rw [e_19]; exact zi_u_ne (by decide)
          refine ⟨⟨by omega, by omega⟩, ?_⟩
          intro g17 e_24
          have I_25 : zk_I g17 := by rw [e_24]; exact zk_upd (L := 0) (H := 99) rfl rfl I_20 ⟨by omega, by omega⟩
          have F_26 : zk_fr fr_M_spout g g17 := by rw [e_24]; exact zk_fu F_21 (Or.inr (Or.inr (Or.inl rfl)))
          have m_32 : 0 ≤ (g17 214 6) ∧ (g17 214 6) ≤ 10 := I_25.1 214 6
          have m_33 : g17 214 6 = g15 214 6 := by rw [e_24]; exact zi_u_ne (by decide)
          refine ⟨⟨by omega, by omega⟩, ?_⟩
          intro g19 e_29
          have I_30 : zk_I g19 := by rw [e_29]; exact zk_upd (zk_nl6 (i := 6 + (g17 214 6)) (by omega)).1 (zk_nl6 (i := 6 + (g17 214 6)) (by omega)).2 I_25 ⟨by omega, by omega⟩
          have F_31 : zk_fr fr_M_spout g g19 := by rw [e_29]; exact zk_fu F_26 (Or.inr (Or.inr (Or.inr (Or.inr (Or.inr (Or.inr (Or.inr (Or.inr ⟨rfl, by omega, by omega⟩))))))))
          have m_37 : 0 ≤ (g19 214 6) ∧ (g19 214 6) ≤ 10 := I_30.1 214 6
          have m_38 : g19 214 6 = g17 214 6 := by rw [e_29]; exact zi_u_ne (by decide)
          refine ⟨⟨by omega, by omega⟩, ?_⟩
          intro g21 e_34
          have I_35 : zk_I g21 := by rw [e_34]; exact zk_upd (zk_nl16 (i := 16 + (g19 214 6)) (by omega)).1 (zk_nl16 (i := 16 + (g19 214 6)) (by omega)).2 I_30 ⟨by omega, by omega⟩
          have F_36 : zk_fr fr_M_spout g g21 := by rw [e_34]; exact zk_fu F_31 (Or.inr (Or.inr (Or.inr (Or.inr (Or.inr (Or.inr (Or.inl ⟨rfl, by omega, by omega⟩)))))))
          have m_42 : 0 ≤ (g21 214 6) ∧ (g21 214 6) ≤ 10 := I_35.1 214 6
          have m_43 : g21 214 6 = g19 214 6 := by rw [e_34]; exact zi_u_ne (by decide)
          refine ⟨⟨by omega, by omega⟩, ?_⟩
          intro g23 e_39
          have I_40 : zk_I g23 := by rw [e_39]; exact zk_upd (zk_nl26 (i := 26 + (g21 214 6)) (by omega)).1 (zk_nl26 (i := 26 + (g21 214 6)) (by omega)).2 I_35 ⟨by omega, by omega⟩
          have F_41 : zk_fr fr_M_spout g g23 := by rw [e_39]; exact zk_fu F_36 (Or.inr (Or.inr (Or.inr (Or.inr (Or.inr (Or.inr (Or.inr (Or.inl ⟨rfl, by omega, by omega⟩))))))))
          have m_47 : 0 ≤ (g23 214 6) ∧ (g23 214 6) ≤ 10 := I_40.1 214 6
          have m_48 : g23 214 6 = g21 214 6 := by rw [e_39]; exact zi_u_ne (by decide)
          intro g24 e_44
          have I_45 : zk_I g24 := by rw [e_44]; exact zk_upd (L := 0) (H := 10) rfl rfl I_40 ⟨by omega, by omega⟩
          have F_46 : zk_fr fr_M_spout g g24 := by rw [e_44]; exact zk_fu F_41 (Or.inr (Or.inr (Or.inr (Or.inr (Or.inr (Or.inl ⟨rfl, rfl⟩))))))
          intro g25 e_49
          have I_50 : zk_I g25 := by rw [e_49]; exact zk_upd (L := 0) (H := 6) rfl rfl I_45 ⟨by omega, by omega⟩
          have F_51 : zk_fr fr_M_spout g g25 := by rw [e_49]; exact zk_fu F_46 (Or.inr (Or.inr (Or.inr (Or.inr (Or.inl ⟨rfl, rfl⟩)))))
          have m_52 : 0 ≤ (g25 214 6) ∧ (g25 214 6) ≤ 10 := I_50.1 214 6
          have m_53 : g25 214 6 = g24 214 6 := by rw [e_49]; exact zi_u_ni (by decide)
          have m_54 : 0 ≤ (g24 214 6) ∧ (g24 214 6) ≤ 10 := I_45.1 214 6
          have m_55 : g24 214 6 = (g23 214 6) + 1 := by rw [e_44]; exact zi_u_eq
          exact hQ _ _ I_50 F_51 ⟨by omega, by omega⟩
        · exact hQ _ _ I_2 F_3 ⟨by omega, by omega⟩
-- SpoutNews.isWordSet(I)Z
set_option maxRecDepth 100000 in
set_option maxHeartbeats 400000 in
theorem k_S_isWordSet {l0 : Int} {g : zi_M} {Q : Int → zi_M → Prop} (I : zk_I g) (p0 : (-2147483648) ≤ l0 ∧ l0 ≤ 2147483647) (hQ : ∀ v : Int, (l0 < 0 → v = 0) → (0 ≤ l0 → 65536 ≤ l0 → v = 0) → (0 ≤ l0 → l0 < 65536 → v = 1) → Q v g) : w_S_isWordSet l0 g Q := by
  unfold w_S_isWordSet
  refine ⟨⟨by omega, by omega⟩, ?_⟩
  refine ⟨fun c3 => ?_, fun c3 => ?_⟩
  · exact hQ _ (by intros; omega) (by intros; omega) (by intros; omega)
  · refine ⟨fun c2 => ?_, fun c2 => ?_⟩
    · exact hQ _ (by intros; omega) (by intros; omega) (by intros; omega)
    · exact hQ _ (by intros; omega) (by intros; omega) (by intros; omega)
-- SpoutNews$World.addSitter(I)I
def fr_World_addSitter (a : Nat) (i : Int) : Prop := a = 10 ∨ a = 11 ∨ (a = 2 ∧ i = 11)
set_option maxRecDepth 100000 in
set_option maxHeartbeats 400000 in
theorem k_World_addSitter {l1 : Int} {g : zi_M} {Q : Int → zi_M → Prop} (I : zk_I g) (p1 : (-2147483648) ≤ l1 ∧ l1 ≤ 2147483647) (hQ : ∀ (v : Int) (g' : zi_M), zk_I g' → zk_fr fr_World_addSitter g g' → ((-1) ≤ v ∧ v ≤ 7) → Q v g') : w_World_addSitter l1 g Q := by
  unfold w_World_addSitter
  have m_1 : 0 ≤ (g 2 11) ∧ (g 2 11) ≤ 8 := I.1 2 11
  refine ⟨⟨by omega, by omega⟩, ?_⟩
  refine ⟨fun c6 => ?_, fun c6 => ?_⟩
  · refine ⟨⟨by omega, by omega⟩, ?_⟩
    intro g3 e_2
    have I_3 : zk_I g3 := by rw [e_2]; exact zk_upd (L := (-2147483648)) (H := 2147483647) rfl rfl I ⟨by omega, by omega⟩
    have F_4 : zk_fr fr_World_addSitter g g3 := by rw [e_2]; exact zk_fu (zk_f0 _) (Or.inl rfl)
    intro g4 e_5
    have I_6 : zk_I g4 := by rw [e_5]; exact zk_upd (L := (-1)) (H := 9) rfl rfl I_3 ⟨by omega, by omega⟩
    have F_7 : zk_fr fr_World_addSitter g g4 := by rw [e_5]; exact zk_fu F_4 (Or.inr (Or.inl rfl))
    intro g5 e_8
    have I_9 : zk_I g5 := by rw [e_8]; exact zk_upd (L := 0) (H := 8) rfl rfl I_6 ⟨by omega, by omega⟩
    have F_10 : zk_fr fr_World_addSitter g g5 := by rw [e_8]; exact zk_fu F_7 (Or.inr (Or.inr ⟨rfl, rfl⟩))
    exact hQ _ _ I_9 F_10 ⟨by omega, by omega⟩
  · exact hQ _ _ I (zk_f0 _) ⟨by omega, by omega⟩
-- SpoutNews.sitter(I)I
def fr_S_sitter (a : Nat) (i : Int) : Prop := a = 10 ∨ a = 11 ∨ (a = 2 ∧ i = 11) ∨ (a = 91 ∧ i = 1)
set_option maxRecDepth 100000 in
set_option maxHeartbeats 400000 in
theorem k_S_sitter {l1 : Int} {g : zi_M} {Q : Int → zi_M → Prop} (I : zk_I g) (p1 : (-2147483648) ≤ l1 ∧ l1 ≤ 2147483647) (hQ : ∀ (v : Int) (g' : zi_M), zk_I g' → zk_fr fr_S_sitter g g' → ((-1) ≤ v ∧ v ≤ 7) → Q v g') : w_S_sitter l1 g Q := by
  unfold w_S_sitter
  refine k_S_isWordSet I ⟨by omega, by omega⟩ (fun v1 b_1 b_2 b_3 => ?_)
  refine ⟨fun c12 => ?_, fun c12 => ?_⟩
  · exact hQ _ _ I (zk_f0 _) ⟨by omega, by omega⟩
  · have m_4 : 0 ≤ (g 2 11) ∧ (g 2 11) ≤ 8 := I.1 2 11
    refine ⟨⟨by omega, by omega⟩, ?_⟩
    refine ⟨fun c11 => ?_, fun c11 => ?_⟩
    · refine k_Past_forget I (fun g6 I_5 F_6 => ?_)
      have F_7 : zk_fr fr_S_sitter g g6 := zk_ft (zk_f0 _) F_6 (fun a i => (fun h => (Or.inr (Or.inr (Or.inr h)))))
      refine k_World_addSitter I_5 ⟨by omega, by omega⟩ (fun v8 g9 I_9 F_10 b_8 => ?_)
      have F_11 : zk_fr fr_S_sitter g g9 := zk_ft F_7 F_10 (fun a i => (fun h => Or.elim h (fun h => (Or.inl h)) (fun h => Or.elim h (fun h => (Or.inr (Or.inl h))) (fun h => (Or.inr (Or.inr (Or.inl h)))))))
      exact hQ _ _ I_9 F_11 ⟨by omega, by omega⟩
    · exact hQ _ _ I (zk_f0 _) ⟨by omega, by omega⟩
-- SpoutNewsModel.sitter(I)I
def fr_M_sitter (a : Nat) (i : Int) : Prop := (a = 214 ∧ i = 0) ∨ (a = 214 ∧ i = 3) ∨ (a = 214 ∧ i = 7) ∨ (a = 215 ∧ 236 ≤ i ∧ i < 244) ∨ (a = 215 ∧ 244 ≤ i ∧ i < 252)
set_option maxRecDepth 100000 in
set_option maxHeartbeats 400000 in
theorem k_M_sitter {l1 : Int} {g : zi_M} {Q : Int → zi_M → Prop} (I : zk_I g) (p1 : (-2147483648) ≤ l1 ∧ l1 ≤ 2147483647) (hQ : ∀ (v : Int) (g' : zi_M), zk_I g' → zk_fr fr_M_sitter g g' → ((-1) ≤ v ∧ v ≤ 7) → Q v g') : w_M_sitter l1 g Q := by
  unfold w_M_sitter
  intro g1 e_1
  have I_2 : zk_I g1 := by rw [e_1]; exact zk_upd (L := (-2147483648)) (H := 2147483647) rfl rfl I ⟨by omega, by omega⟩
  have F_3 : zk_fr fr_M_sitter g g1 := by rw [e_1]; exact zk_fu (zk_f0 _) (Or.inl ⟨rfl, rfl⟩)
  refine k_M_isIn I_2 ⟨by omega, by omega⟩ ⟨by omega, by omega⟩ ⟨by omega, by omega⟩ (fun v2 b_4 b_5 b_6 => ?_)
  refine ⟨fun c13 => ?_, fun c13 => ?_⟩
  · exact hQ _ _ I_2 F_3 ⟨by omega, by omega⟩
  · have m_7 : 0 ≤ (g1 214 7) ∧ (g1 214 7) ≤ 8 := I_2.1 214 7
    have m_8 : g1 214 7 = g 214 7 := by rw [e_1]; exact zi_u_ni (by decide)
    have m_9 : 0 ≤ (g 214 7) ∧ (g 214 7) ≤ 8 := I.1 214 7
    refine ⟨⟨by omega, by omega⟩, ?_⟩
    refine ⟨fun c12 => ?_, fun c12 => ?_⟩
    · refine ⟨⟨by omega, by omega⟩, ?_⟩
      intro g7 e_10
      have I_11 : zk_I g7 := by rw [e_10]; exact zk_upd (zk_nl236 (i := 236 + (g1 214 7)) (by omega)).1 (zk_nl236 (i := 236 + (g1 214 7)) (by omega)).2 I_2 ⟨by omega, by omega⟩
      have F_12 : zk_fr fr_M_sitter g g7 := by rw [e_10]; exact zk_fu F_3 (Or.inr (Or.inr (Or.inr (Or.inl ⟨rfl, by omega, by omega⟩))))
      have m_16 : 0 ≤ (g7 214 7) ∧ (g7 214 7) ≤ 8 := I_11.1 214 7
      have m_17 : g7 214 7 = g1 214 7 := by rw [e_10]; exact zi_u_ne (by decide)
      refine ⟨⟨by omega, by omega⟩, ?_⟩
      intro g9 e_13
      have I_14 : zk_I g9 := by rw [e_13]; exact zk_upd (zk_nl244 (i := 244 + (g7 214 7)) (by omega)).1 (zk_nl244 (i := 244 + (g7 214 7)) (by omega)).2 I_11 ⟨by omega, by omega⟩
      have F_15 : zk_fr fr_M_sitter g g9 := by rw [e_13]; exact zk_fu F_12 (Or.inr (Or.inr (Or.inr (Or.inr ⟨rfl, by omega, by omega⟩))))
      have m_21 : 0 ≤ (g9 214 7) ∧ (g9 214 7) ≤ 8 := I_14.1 214 7
      have m_22 : g9 214 7 = g7 214 7 := by rw [e_13]; exact zi_u_ne (by decide)
      intro g10 e_18
      have I_19 : zk_I g10 := by rw [e_18]; exact zk_upd (L := 0) (H := 8) rfl rfl I_14 ⟨by omega, by omega⟩
      have F_20 : zk_fr fr_M_sitter g g10 := by rw [e_18]; exact zk_fu F_15 (Or.inr (Or.inr (Or.inl ⟨rfl, rfl⟩)))
      intro g11 e_23
      have I_24 : zk_I g11 := by rw [e_23]; exact zk_upd (L := 0) (H := 6) rfl rfl I_19 ⟨by omega, by omega⟩
      have F_25 : zk_fr fr_M_sitter g g11 := by rw [e_23]; exact zk_fu F_20 (Or.inr (Or.inl ⟨rfl, rfl⟩))
      have m_26 : 0 ≤ (g11 214 7) ∧ (g11 214 7) ≤ 8 := I_24.1 214 7
      have m_27 : g11 214 7 = g10 214 7 := by rw [e_23]; exact zi_u_ni (by decide)
      have m_28 : 0 ≤ (g10 214 7) ∧ (g10 214 7) ≤ 8 := I_19.1 214 7
      have m_29 : g10 214 7 = (g9 214 7) + 1 := by rw [e_18]; exact zi_u_eq
      exact hQ _ _ I_24 F_25 ⟨by omega, by omega⟩
    · exact hQ _ _ I_2 F_3 ⟨by omega, by omega⟩
-- SpoutNews$World.isSpout(I)Z
set_option maxRecDepth 100000 in
set_option maxHeartbeats 400000 in
theorem k_World_isSpout {r0 : Nat} (hr0 : zs_sh r0 = some (10, 20)) {l1 : Int} {g : zi_M} {Q : Int → zi_M → Prop} (I : zk_I g) (p1 : (-2147483648) ≤ l1 ∧ l1 ≤ 2147483647) (hQ : ∀ v : Int, (l1 < 0 → v = 0) → (0 ≤ l1 → (g r0 8) ≤ l1 → v = 0) → (0 ≤ l1 → l1 < (g r0 8) → v = 1) → Q v g) : w_World_isSpout r0 l1 g Q := by
  unfold w_World_isSpout
  refine ⟨⟨by omega, by omega⟩, ?_⟩
  refine ⟨fun c4 => ?_, fun c4 => ?_⟩
  · have m_1 := zk_c10_8 hr0 I
    exact hQ _ (by intros; omega) (by intros; omega) (by intros; omega)
  · have m_2 := zk_c10_8 hr0 I
    refine ⟨⟨by omega, by omega⟩, ?_⟩
    refine ⟨fun c3 => ?_, fun c3 => ?_⟩
    · exact hQ _ (by intros; omega) (by intros; omega) (by intros; omega)
    · exact hQ _ (by intros; omega) (by intros; omega) (by intros; omega)
-- SpoutNews$World.isSitter(I)Z
set_option maxRecDepth 100000 in
set_option maxHeartbeats 400000 in
theorem k_World_isSitter {l1 : Int} {g : zi_M} {Q : Int → zi_M → Prop} (I : zk_I g) (p1 : (-2147483648) ≤ l1 ∧ l1 ≤ 2147483647) (hQ : ∀ v : Int, (l1 < 0 → v = 0) → (0 ≤ l1 → (g 2 11) ≤ l1 → v = 0) → (0 ≤ l1 → l1 < (g 2 11) → v = 1) → Q v g) : w_World_isSitter l1 g Q := by
  unfold w_World_isSitter
  refine ⟨⟨by omega, by omega⟩, ?_⟩
  refine ⟨fun c4 => ?_, fun c4 => ?_⟩
  · have m_1 : 0 ≤ (g 2 11) ∧ (g 2 11) ≤ 8 := I.1 2 11
    exact hQ _ (by intros; omega) (by intros; omega) (by intros; omega)
  · have m_2 : 0 ≤ (g 2 11) ∧ (g 2 11) ≤ 8 := I.1 2 11
    refine ⟨⟨by omega, by omega⟩, ?_⟩
    refine ⟨fun c3 => ?_, fun c3 => ?_⟩
    · exact hQ _ (by intros; omega) (by intros; omega) (by intros; omega)
    · exact hQ _ (by intros; omega) (by intros; omega) (by intros; omega)
-- SpoutNews.set(III)Z
def fr_S_set (a : Nat) (i : Int) : Prop := a = 10 ∨ a = 5 ∨ a = 7 ∨ (a = 2 ∧ i = 14) ∨ (a = 91 ∧ i = 1)
set_option maxRecDepth 100000 in
set_option maxHeartbeats 400000 in
theorem k_S_set_b163 {l1 : Int} {l2 : Int} {l3 : Int} {l5 : Int} {Q : Int → zi_M → Prop} {g : zi_M} {g0 : zi_M} (I : zk_I g) (F : zk_fr fr_S_set g0 g) (p1 : (-2147483648) ≤ l1 ∧ l1 ≤ 2147483647) (p2 : (-2147483648) ≤ l2 ∧ l2 ≤ 2147483647) (p3 : (-2147483648) ≤ l3 ∧ l3 ≤ 2147483647) (p5 : 0 ≤ l5 ∧ l5 ≤ 1) (ix0 : ¬ l5 = 0 ∧ (l1 = 0) → 0 ≤ l3 ∧ l3 ≤ 9) (ix1 : ¬ l5 = 0 ∧ (l1 = 1) → 0 ≤ l2 ∧ l2 ≤ 9 ∧ 0 ≤ l3 ∧ l3 ≤ 99) (ix2 : ¬ l5 = 0 ∧ (l1 = 2) → 0 ≤ l2 ∧ l2 ≤ 9 ∧ 0 ≤ l3 ∧ l3 ≤ 999) (ix3 : ¬ l5 = 0 ∧ (l1 < 0 ∨ 2 < l1) → 0 ≤ l2 ∧ l2 ≤ 7 ∧ 0 ≤ l3 ∧ l3 ≤ 65535) (hQ : ∀ (v : Int) (g' : zi_M), zk_I g' → zk_fr fr_S_set g0 g' → (0 ≤ v ∧ v ≤ 1) → Q v g') : w_S_set_b163 l1 l2 l3 l5 g Q := by
  unfold w_S_set_b163
  refine ⟨⟨by omega, by omega⟩, ?_⟩
  refine ⟨fun c17 => ?_, fun c17 => ?_⟩
  · refine k_Past_forget I (fun g6 I_1 F_2 => ?_)
    have F_3 : zk_fr fr_S_set g0 g6 := zk_ft F F_2 (fun a i => (fun h => (Or.inr (Or.inr (Or.inr (Or.inr h))))))
    refine ⟨⟨by omega, by omega⟩, ?_⟩
    refine ⟨fun c9 => ?_, fun c9 => ?_, fun c9 => ?_, fun c9 => ?_⟩
    · refine ⟨⟨by omega, by omega⟩, ?_⟩
      intro g11 e_4
      have I_5 : zk_I g11 := by rw [e_4]; exact zk_upd (L := (-2147483648)) (H := 2147483647) rfl rfl I_1 ⟨by omega, by omega⟩
      have F_6 : zk_fr fr_S_set g0 g11 := by rw [e_4]; exact zk_fu F_3 (Or.inl rfl)
      exact hQ _ _ I_5 F_6 ⟨by omega, by omega⟩
    · intro g12 e_7
      have I_8 : zk_I g12 := by rw [e_7]; exact zk_upd (L := 0) (H := 9) rfl rfl I_1 ⟨by omega, by omega⟩
      have F_9 : zk_fr fr_S_set g0 g12 := by rw [e_7]; exact zk_fu F_3 (Or.inr (Or.inr (Or.inr (Or.inl ⟨rfl, rfl⟩))))
      exact hQ _ _ I_8 F_9 ⟨by omega, by omega⟩
    · refine ⟨⟨by omega, by omega⟩, ?_⟩
      intro g14 e_10
      have I_11 : zk_I g14 := by rw [e_10]; exact zk_upd (L := 0) (H := 99) rfl rfl I_1 ⟨by omega, by omega⟩
      have F_12 : zk_fr fr_S_set g0 g14 := by rw [e_10]; exact zk_fu F_3 (Or.inr (Or.inl rfl))
      exact hQ _ _ I_11 F_12 ⟨by omega, by omega⟩
    · refine ⟨⟨by omega, by omega⟩, ?_⟩
      intro g16 e_13
      have I_14 : zk_I g16 := by rw [e_13]; exact zk_upd (L := 0) (H := 999) rfl rfl I_1 ⟨by omega, by omega⟩
      have F_15 : zk_fr fr_S_set g0 g16 := by rw [e_13]; exact zk_fu F_3 (Or.inr (Or.inr (Or.inl rfl)))
      exact hQ _ _ I_14 F_15 ⟨by omega, by omega⟩
  · exact hQ _ _ I F ⟨by omega, by omega⟩
set_option maxRecDepth 100000 in
set_option maxHeartbeats 400000 in
theorem k_S_set_b18 {l1 : Int} {l2 : Int} {l3 : Int} {s0 : Int} {Q : Int → zi_M → Prop} {g : zi_M} {g0 : zi_M} (I : zk_I g) (F : zk_fr fr_S_set g0 g) (p1 : (-2147483648) ≤ l1 ∧ l1 ≤ 2147483647) (p2 : (-2147483648) ≤ l2 ∧ l2 ≤ 2147483647) (p3 : (-2147483648) ≤ l3 ∧ l3 ≤ 2147483647) (ix0 : ¬ s0 = 0 → 0 ≤ l3) (ps0 : 0 ≤ s0 ∧ s0 ≤ 1) (hQ : ∀ (v : Int) (g' : zi_M), zk_I g' → zk_fr fr_S_set g0 g' → (0 ≤ v ∧ v ≤ 1) → Q v g') : w_S_set_b18 l1 l2 l3 s0 g Q := by
  unfold w_S_set_b18
  refine ⟨⟨by omega, by omega⟩, ?_⟩
  refine ⟨fun c3 => ?_, fun c3 => ?_, fun c3 => ?_, fun c3 => ?_, fun c3 => ?_⟩
  · exact k_S_set_b163 I F ⟨by omega, by omega⟩ ⟨by omega, by omega⟩ ⟨by omega, by omega⟩ ⟨by omega, by omega⟩ (by omega) (by omega) (by omega) (by omega) hQ
  · refine ⟨⟨by omega, by omega⟩, ?_⟩
    refine ⟨fun c21 => ?_, fun c21 => ?_⟩
    · exact k_S_set_b163 I F ⟨by omega, by omega⟩ ⟨by omega, by omega⟩ ⟨by omega, by omega⟩ ⟨by omega, by omega⟩ (by omega) (by omega) (by omega) (by omega) hQ
    · refine ⟨⟨by omega, by omega⟩, ?_⟩
      refine ⟨fun c20 => ?_, fun c20 => ?_⟩
      · exact k_S_set_b163 I F ⟨by omega, by omega⟩ ⟨by omega, by omega⟩ ⟨by omega, by omega⟩ ⟨by omega, by omega⟩ (by omega) (by omega) (by omega) (by omega) hQ
      · exact k_S_set_b163 I F ⟨by omega, by omega⟩ ⟨by omega, by omega⟩ ⟨by omega, by omega⟩ ⟨by omega, by omega⟩ (by omega) (by omega) (by omega) (by omega) hQ
  · refine ⟨⟨by omega, by omega⟩, ?_⟩
    refine ⟨fun c29 => ?_, fun c29 => ?_⟩
    · exact k_S_set_b163 I F ⟨by omega, by omega⟩ ⟨by omega, by omega⟩ ⟨by omega, by omega⟩ ⟨by omega, by omega⟩ (by omega) (by omega) (by omega) (by omega) hQ
    · have m_19 : 0 ≤ (g 2 8) ∧ (g 2 8) ≤ 10 := I.1 2 8
      refine k_World_isSpout rfl I ⟨by omega, by omega⟩ (fun v23 b_16 b_17 b_18 => ?_)
      try simp only [Nat.reduceAdd] at b_16 b_17 b_18
      refine ⟨fun c28 => ?_, fun c28 => ?_⟩
      · exact k_S_set_b163 I F ⟨by omega, by omega⟩ ⟨by omega, by omega⟩ ⟨by omega, by omega⟩ ⟨by omega, by omega⟩ (by omega) (by omega) (by omega) (by omega) hQ
      · refine ⟨⟨by omega, by omega⟩, ?_⟩
        refine ⟨fun c27 => ?_, fun c27 => ?_⟩
        · exact k_S_set_b163 I F ⟨by omega, by omega⟩ ⟨by omega, by omega⟩ ⟨by omega, by omega⟩ ⟨by omega, by omega⟩ (by omega) (by omega) (by omega) (by omega) hQ
        · exact k_S_set_b163 I F ⟨by omega, by omega⟩ ⟨by omega, by omega⟩ ⟨by omega, by omega⟩ ⟨by omega, by omega⟩ (by omega) (by omega) (by omega) (by omega) hQ
  · refine ⟨⟨by omega, by omega⟩, ?_⟩
    refine ⟨fun c37 => ?_, fun c37 => ?_⟩
    · exact k_S_set_b163 I F ⟨by omega, by omega⟩ ⟨by omega, by omega⟩ ⟨by omega, by omega⟩ ⟨by omega, by omega⟩ (by omega) (by omega) (by omega) (by omega) hQ
    · have m_23 : 0 ≤ (g 2 8) ∧ (g 2 8) ≤ 10 := I.1 2 8
      refine k_World_isSpout rfl I ⟨by omega, by omega⟩ (fun v31 b_20 b_21 b_22 => ?_)
      try simp only [Nat.reduceAdd] at b_20 b_21 b_22
      refine ⟨fun c36 => ?_, fun c36 => ?_⟩
      · exact k_S_set_b163 I F ⟨by omega, by omega⟩ ⟨by omega, by omega⟩ ⟨by omega, by omega⟩ ⟨by omega, by omega⟩ (by omega) (by omega) (by omega) (by omega) hQ
      · refine ⟨⟨by omega, by omega⟩, ?_⟩
        refine ⟨fun c35 => ?_, fun c35 => ?_⟩
        · exact k_S_set_b163 I F ⟨by omega, by omega⟩ ⟨by omega, by omega⟩ ⟨by omega, by omega⟩ ⟨by omega, by omega⟩ (by omega) (by omega) (by omega) (by omega) hQ
        · exact k_S_set_b163 I F ⟨by omega, by omega⟩ ⟨by omega, by omega⟩ ⟨by omega, by omega⟩ ⟨by omega, by omega⟩ (by omega) (by omega) (by omega) (by omega) hQ
  · have m_27 : 0 ≤ (g 2 11) ∧ (g 2 11) ≤ 8 := I.1 2 11
    refine k_World_isSitter I ⟨by omega, by omega⟩ (fun v38 b_24 b_25 b_26 => ?_)
    refine ⟨fun c45 => ?_, fun c45 => ?_⟩
    · exact k_S_set_b163 I F ⟨by omega, by omega⟩ ⟨by omega, by omega⟩ ⟨by omega, by omega⟩ ⟨by omega, by omega⟩ (by omega) (by omega) (by omega) (by omega) hQ
    · refine k_S_isWordSet I ⟨by omega, by omega⟩ (fun v41 b_28 b_29 b_30 => ?_)
      refine ⟨fun c44 => ?_, fun c44 => ?_⟩
      · exact k_S_set_b163 I F ⟨by omega, by omega⟩ ⟨by omega, by omega⟩ ⟨by omega, by omega⟩ ⟨by omega, by omega⟩ (by omega) (by omega) (by omega) (by omega) hQ
      · exact k_S_set_b163 I F ⟨by omega, by omega⟩ ⟨by omega, by omega⟩ ⟨by omega, by omega⟩ ⟨by omega, by omega⟩ (by omega) (by omega) (by omega) (by omega) hQ
set_option maxRecDepth 100000 in
set_option maxHeartbeats 400000 in
theorem k_S_set {l1 : Int} {l2 : Int} {l3 : Int} {g : zi_M} {Q : Int → zi_M → Prop} (I : zk_I g) (p1 : (-2147483648) ≤ l1 ∧ l1 ≤ 2147483647) (p2 : (-2147483648) ≤ l2 ∧ l2 ≤ 2147483647) (p3 : (-2147483648) ≤ l3 ∧ l3 ≤ 2147483647) (hQ : ∀ (v : Int) (g' : zi_M), zk_I g' → zk_fr fr_S_set g g' → (0 ≤ v ∧ v ≤ 1) → Q v g') : w_S_set l1 l2 l3 g Q := by
  unfold w_S_set
  refine ⟨⟨by omega, by omega⟩, ?_⟩
  refine ⟨fun c46 => ?_, fun c46 => ?_⟩
  · exact k_S_set_b18 I (zk_f0 _) ⟨by omega, by omega⟩ ⟨by omega, by omega⟩ ⟨by omega, by omega⟩ (by omega) ⟨by omega, by omega⟩ hQ
  · exact k_S_set_b18 I (zk_f0 _) ⟨by omega, by omega⟩ ⟨by omega, by omega⟩ ⟨by omega, by omega⟩ (by omega) ⟨by omega, by omega⟩ hQ
-- SpoutNewsModel.isSpout(I)Z
set_option maxRecDepth 100000 in
set_option maxHeartbeats 400000 in
theorem k_M_isSpout {l1 : Int} {g : zi_M} {Q : Int → zi_M → Prop} (I : zk_I g) (p1 : (-2147483648) ≤ l1 ∧ l1 ≤ 2147483647) (hQ : ∀ v : Int, (l1 < 0 → v = 0) → (0 ≤ l1 → (g 214 6) ≤ l1 → v = 0) → (0 ≤ l1 → l1 < (g 214 6) → v = 1) → Q v g) : w_M_isSpout l1 g Q := by
  unfold w_M_isSpout
  refine ⟨⟨by omega, by omega⟩, ?_⟩
  refine ⟨fun c4 => ?_, fun c4 => ?_⟩
  · have m_1 : 0 ≤ (g 214 6) ∧ (g 214 6) ≤ 10 := I.1 214 6
    exact hQ _ (by intros; omega) (by intros; omega) (by intros; omega)
  · have m_2 : 0 ≤ (g 214 6) ∧ (g 214 6) ≤ 10 := I.1 214 6
    refine ⟨⟨by omega, by omega⟩, ?_⟩
    refine ⟨fun c3 => ?_, fun c3 => ?_⟩
    · exact hQ _ (by intros; omega) (by intros; omega) (by intros; omega)
    · exact hQ _ (by intros; omega) (by intros; omega) (by intros; omega)
-- SpoutNewsModel.isSitter(I)Z
set_option maxRecDepth 100000 in
set_option maxHeartbeats 400000 in
theorem k_M_isSitter {l1 : Int} {g : zi_M} {Q : Int → zi_M → Prop} (I : zk_I g) (p1 : (-2147483648) ≤ l1 ∧ l1 ≤ 2147483647) (hQ : ∀ v : Int, (l1 < 0 → v = 0) → (0 ≤ l1 → (g 214 7) ≤ l1 → v = 0) → (0 ≤ l1 → l1 < (g 214 7) → v = 1) → Q v g) : w_M_isSitter l1 g Q := by
  unfold w_M_isSitter
  refine ⟨⟨by omega, by omega⟩, ?_⟩
  refine ⟨fun c4 => ?_, fun c4 => ?_⟩
  · have m_1 : 0 ≤ (g 214 7) ∧ (g 214 7) ≤ 8 := I.1 214 7
    exact hQ _ (by intros; omega) (by intros; omega) (by intros; omega)
  · have m_2 : 0 ≤ (g 214 7) ∧ (g 214 7) ≤ 8 := I.1 214 7
    refine ⟨⟨by omega, by omega⟩, ?_⟩
    refine ⟨fun c3 => ?_, fun c3 => ?_⟩
    · exact hQ _ (by intros; omega) (by intros; omega) (by intros; omega)
    · exact hQ _ (by intros; omega) (by intros; omega) (by intros; omega)
-- SpoutNewsModel.canSet(III)Z
set_option maxRecDepth 100000 in
set_option maxHeartbeats 400000 in
theorem k_M_canSet {l1 : Int} {l2 : Int} {l3 : Int} {g : zi_M} {Q : Int → zi_M → Prop} (I : zk_I g) (p1 : (-2147483648) ≤ l1 ∧ l1 ≤ 2147483647) (p2 : (-2147483648) ≤ l2 ∧ l2 ≤ 2147483647) (p3 : (-2147483648) ≤ l3 ∧ l3 ≤ 2147483647) (hQ : ∀ v : Int, (0 ≤ v ∧ v ≤ 1) → (¬ v = 0 ∧ (l1 = 0) → 0 ≤ l3 ∧ l3 ≤ 9) → (¬ v = 0 ∧ (l1 = 1) → 0 ≤ l2 ∧ l2 ≤ 9 ∧ 0 ≤ l3 ∧ l3 ≤ 99) → (¬ v = 0 ∧ (l1 = 2) → 0 ≤ l2 ∧ l2 ≤ 9 ∧ 0 ≤ l3 ∧ l3 ≤ 999) → (¬ v = 0 ∧ (l1 < 0 ∨ 2 < l1) → 0 ≤ l2 ∧ l2 ≤ 7 ∧ 0 ≤ l3 ∧ l3 ≤ 65535) → Q v g) : w_M_canSet l1 l2 l3 g Q := by
  unfold w_M_canSet
  refine ⟨⟨by omega, by omega⟩, ?_⟩
  refine ⟨fun c31 => ?_, fun c31 => ?_⟩
  · refine ⟨fun c27 => ?_, fun c27 => ?_⟩
    · refine k_M_isIn I ⟨by omega, by omega⟩ ⟨by omega, by omega⟩ ⟨by omega, by omega⟩ (fun v2 b_1 b_2 b_3 => ?_)
      refine ⟨fun c18 => ?_, fun c18 => ?_⟩
      · exact hQ _ ⟨by omega, by omega⟩ (by omega) (by omega) (by omega) (by omega)
      · have m_7 : 0 ≤ (g 214 6) ∧ (g 214 6) ≤ 10 := I.1 214 6
        refine k_M_isSpout I ⟨by omega, by omega⟩ (fun v5 b_4 b_5 b_6 => ?_)
        refine ⟨fun c17 => ?_, fun c17 => ?_⟩
        · exact hQ _ ⟨by omega, by omega⟩ (by omega) (by omega) (by omega) (by omega)
        · refine ⟨fun c16 => ?_, fun c16 => ?_⟩
          · refine k_M_isIn I ⟨by omega, by omega⟩ ⟨by omega, by omega⟩ ⟨by omega, by omega⟩ (fun v8 b_8 b_9 b_10 => ?_)
            refine ⟨fun c11 => ?_, fun c11 => ?_⟩
            · exact hQ _ ⟨by omega, by omega⟩ (by omega) (by omega) (by omega) (by omega)
            · exact hQ _ ⟨by omega, by omega⟩ (by omega) (by omega) (by omega) (by omega)
          · refine k_M_isIn I ⟨by omega, by omega⟩ ⟨by omega, by omega⟩ ⟨by omega, by omega⟩ (fun v12 b_11 b_12 b_13 => ?_)
            refine ⟨fun c15 => ?_, fun c15 => ?_⟩
            · exact hQ _ ⟨by omega, by omega⟩ (by omega) (by omega) (by omega) (by omega)
            · exact hQ _ ⟨by omega, by omega⟩ (by omega) (by omega) (by omega) (by omega)
    · have m_17 : 0 ≤ (g 214 7) ∧ (g 214 7) ≤ 8 := I.1 214 7
      refine k_M_isSitter I ⟨by omega, by omega⟩ (fun v19 b_14 b_15 b_16 => ?_)
      refine ⟨fun c26 => ?_, fun c26 => ?_⟩
      · exact hQ _ ⟨by omega, by omega⟩ (by omega) (by omega) (by omega) (by omega)
      · refine k_M_isIn I ⟨by omega, by omega⟩ ⟨by omega, by omega⟩ ⟨by omega, by omega⟩ (fun v22 b_18 b_19 b_20 => ?_)
        refine ⟨fun c25 => ?_, fun c25 => ?_⟩
        · exact hQ _ ⟨by omega, by omega⟩ (by omega) (by omega) (by omega) (by omega)
        · exact hQ _ ⟨by omega, by omega⟩ (by omega) (by omega) (by omega) (by omega)
  · refine k_M_isIn I ⟨by omega, by omega⟩ ⟨by omega, by omega⟩ ⟨by omega, by omega⟩ (fun v28 b_21 b_22 b_23 => ?_)
    exact hQ _ ⟨by omega, by omega⟩ (by omega) (by omega) (by omega) (by omega)
-- SpoutNewsModel.set(III)Z
def fr_M_set (a : Nat) (i : Int) : Prop := a = 220 ∨ (a = 214 ∧ i = 0) ∨ (a = 214 ∧ i = 3) ∨ (a = 215 ∧ 16 ≤ i ∧ i < 26) ∨ (a = 215 ∧ 236 ≤ i ∧ i < 244) ∨ (a = 215 ∧ 3 ≤ i ∧ i < 4)
set_option maxRecDepth 100000 in
set_option maxHeartbeats 400000 in
theorem k_M_set_b55 {l1 : Int} {l2 : Int} {l3 : Int} {Q : Int → zi_M → Prop} {g : zi_M} {g0 : zi_M} (I : zk_I g) (F : zk_fr fr_M_set g0 g) (p1 : (-2147483648) ≤ l1 ∧ l1 ≤ 2147483647) (p2 : (-2147483648) ≤ l2 ∧ l2 ≤ 2147483647) (p3 : (-2147483648) ≤ l3 ∧ l3 ≤ 2147483647) (ix0 : (l1 = 0) → 0 ≤ l3 ∧ l3 ≤ 9) (ix1 : (l1 = 1) → 0 ≤ l2 ∧ l2 ≤ 9 ∧ 0 ≤ l3 ∧ l3 ≤ 99) (ix2 : (l1 = 2) → 0 ≤ l2 ∧ l2 ≤ 9 ∧ 0 ≤ l3 ∧ l3 ≤ 999) (ix3 : (l1 < 0 ∨ 2 < l1) → 0 ≤ l2 ∧ l2 ≤ 7 ∧ 0 ≤ l3 ∧ l3 ≤ 65535) (hQ : ∀ (v : Int) (g' : zi_M), zk_I g' → zk_fr fr_M_set g0 g' → (0 ≤ v ∧ v ≤ 1) → Q v g') : w_M_set_b55 l1 l2 l3 g Q := by
  unfold w_M_set_b55
  refine ⟨⟨by omega, by omega⟩, ?_⟩
  refine ⟨fun c13 => ?_, fun c13 => ?_⟩
  · intro g9 e_9
    have I_10 : zk_I g9 := by rw [e_9]; exact zk_upd (L := 0) (H := 6) rfl rfl I ⟨by omega, by omega⟩
    have F_11 : zk_fr fr_M_set g0 g9 := by rw [e_9]; exact zk_fu F (Or.inr (Or.inr (Or.inl ⟨rfl, rfl⟩)))
    exact hQ _ _ I_10 F_11 ⟨by omega, by omega⟩
  · refine ⟨⟨by omega, by omega⟩, ?_⟩
    intro g11 e_12
    have I_13 : zk_I g11 := by rw [e_12]; exact zk_upd (zk_nl236 (i := 236 + l2) (by omega)).1 (zk_nl236 (i := 236 + l2) (by omega)).2 I ⟨by omega, by omega⟩
    have F_14 : zk_fr fr_M_set g0 g11 := by rw [e_12]; exact zk_fu F (Or.inr (Or.inr (Or.inr (Or.inr (Or.inl ⟨rfl, by omega, by omega⟩)))))
    intro g12 e_15
    have I_16 : zk_I g12 := by rw [e_15]; exact zk_upd (L := 0) (H := 6) rfl rfl I_13 ⟨by omega, by omega⟩
    have F_17 : zk_fr fr_M_set g0 g12 := by rw [e_15]; exact zk_fu F_14 (Or.inr (Or.inr (Or.inl ⟨rfl, rfl⟩)))
    exact hQ _ _ I_16 F_17 ⟨by omega, by omega⟩
set_option maxRecDepth 100000 in
set_option maxHeartbeats 400000 in
theorem k_M_set_b40 {l1 : Int} {l2 : Int} {l3 : Int} {Q : Int → zi_M → Prop} {g : zi_M} {g0 : zi_M} (I : zk_I g) (F : zk_fr fr_M_set g0 g) (p1 : (-2147483648) ≤ l1 ∧ l1 ≤ 2147483647) (p2 : (-2147483648) ≤ l2 ∧ l2 ≤ 2147483647) (p3 : (-2147483648) ≤ l3 ∧ l3 ≤ 2147483647) (ix0 : (l1 = 0) → 0 ≤ l3 ∧ l3 ≤ 9) (ix1 : (l1 = 1) → 0 ≤ l2 ∧ l2 ≤ 9 ∧ 0 ≤ l3 ∧ l3 ≤ 99) (ix2 : (l1 = 2) → 0 ≤ l2 ∧ l2 ≤ 9 ∧ 0 ≤ l3 ∧ l3 ≤ 999) (ix3 : (l1 < 0 ∨ 2 < l1) → 0 ≤ l2 ∧ l2 ≤ 7 ∧ 0 ≤ l3 ∧ l3 ≤ 65535) (hQ : ∀ (v : Int) (g' : zi_M), zk_I g' → zk_fr fr_M_set g0 g' → (0 ≤ v ∧ v ≤ 1) → Q v g') : w_M_set_b40 l1 l2 l3 g Q := by
  unfold w_M_set_b40
  refine ⟨⟨by omega, by omega⟩, ?_⟩
  refine ⟨fun c16 => ?_, fun c16 => ?_⟩
  · exact k_M_set_b55 I F ⟨by omega, by omega⟩ ⟨by omega, by omega⟩ ⟨by omega, by omega⟩ (by omega) (by omega) (by omega) (by omega) hQ
  · refine ⟨⟨by omega, by omega⟩, ?_⟩
    intro g15 e_18
    have I_19 : zk_I g15 := by rw [e_18]; exact zk_upd (zk_nl16 (i := 16 + l2) (by omega)).1 (zk_nl16 (i := 16 + l2) (by omega)).2 I ⟨by omega, by omega⟩
    have F_20 : zk_fr fr_M_set g0 g15 := by rw [e_18]; exact zk_fu F (Or.inr (Or.inr (Or.inr (Or.inl ⟨rfl, by omega, by omega⟩))))
    exact k_M_set_b55 I_19 F_20 ⟨by omega, by omega⟩ ⟨by omega, by omega⟩ ⟨by omega, by omega⟩ (by omega) (by omega) (by omega) (by omega) hQ
set_option maxRecDepth 100000 in
set_option maxHeartbeats 400000 in
theorem k_M_set_b28 {l1 : Int} {l2 : Int} {l3 : Int} {Q : Int → zi_M → Prop} {g : zi_M} {g0 : zi_M} (I : zk_I g) (F : zk_fr fr_M_set g0 g) (p1 : (-2147483648) ≤ l1 ∧ l1 ≤ 2147483647) (p2 : (-2147483648) ≤ l2 ∧ l2 ≤ 2147483647) (p3 : (-2147483648) ≤ l3 ∧ l3 ≤ 2147483647) (ix0 : (l1 = 0) → 0 ≤ l3 ∧ l3 ≤ 9) (ix1 : (l1 = 1) → 0 ≤ l2 ∧ l2 ≤ 9 ∧ 0 ≤ l3 ∧ l3 ≤ 99) (ix2 : (l1 = 2) → 0 ≤ l2 ∧ l2 ≤ 9 ∧ 0 ≤ l3 ∧ l3 ≤ 999) (ix3 : (l1 < 0 ∨ 2 < l1) → 0 ≤ l2 ∧ l2 ≤ 7 ∧ 0 ≤ l3 ∧ l3 ≤ 65535) (hQ : ∀ (v : Int) (g' : zi_M), zk_I g' → zk_fr fr_M_set g0 g' → (0 ≤ v ∧ v ≤ 1) → Q v g') : w_M_set_b28 l1 l2 l3 g Q := by
  unfold w_M_set_b28
  refine ⟨⟨by omega, by omega⟩, ?_⟩
  refine ⟨fun c19 => ?_, fun c19 => ?_⟩
  · exact k_M_set_b40 I F ⟨by omega, by omega⟩ ⟨by omega, by omega⟩ ⟨by omega, by omega⟩ (by omega) (by omega) (by omega) (by omega) hQ
  · refine ⟨⟨by omega, by omega⟩, ?_⟩
    intro g18 e_21
    have I_22 : zk_I g18 := by rw [e_21]; exact zk_upd (L := 0) (H := 99) rfl rfl I ⟨by omega, by omega⟩
    have F_23 : zk_fr fr_M_set g0 g18 := by rw [e_21]; exact zk_fu F (Or.inl rfl)
    exact k_M_set_b40 I_22 F_23 ⟨by omega, by omega⟩ ⟨by omega, by omega⟩ ⟨by omega, by omega⟩ (by omega) (by omega) (by omega) (by omega) hQ
set_option maxRecDepth 100000 in
set_option maxHeartbeats 400000 in
theorem k_M_set {l1 : Int} {l2 : Int} {l3 : Int} {g : zi_M} {Q : Int → zi_M → Prop} (I : zk_I g) (p1 : (-2147483648) ≤ l1 ∧ l1 ≤ 2147483647) (p2 : (-2147483648) ≤ l2 ∧ l2 ≤ 2147483647) (p3 : (-2147483648) ≤ l3 ∧ l3 ≤ 2147483647) (hQ : ∀ (v : Int) (g' : zi_M), zk_I g' → zk_fr fr_M_set g g' → (0 ≤ v ∧ v ≤ 1) → Q v g') : w_M_set l1 l2 l3 g Q := by
  unfold w_M_set
  intro g1 e_1
  have I_2 : zk_I g1 := by rw [e_1]; exact zk_upd (L := (-2147483648)) (H := 2147483647) rfl rfl I ⟨by omega, by omega⟩
  have F_3 : zk_fr fr_M_set g g1 := by rw [e_1]; exact zk_fu (zk_f0 _) (Or.inr (Or.inl ⟨rfl, rfl⟩))
  refine k_M_canSet I_2 ⟨by omega, by omega⟩ ⟨by omega, by omega⟩ ⟨by omega, by omega⟩ (fun v2 b_4 b_5 b_6 b_7 b_8 => ?_)
  refine ⟨fun c22 => ?_, fun c22 => ?_⟩
  · refine ⟨⟨by omega, by omega⟩, ?_⟩
    refine ⟨fun c21 => ?_, fun c21 => ?_⟩
    · exact k_M_set_b28 I_2 F_3 ⟨by omega, by omega⟩ ⟨by omega, by omega⟩ ⟨by omega, by omega⟩ (by omega) (by omega) (by omega) (by omega) hQ
    · intro g20 e_24
      have I_25 : zk_I g20 := by rw [e_24]; exact zk_upd (zk_nl3 (i := 3) (by omega)).1 (zk_nl3 (i := 3) (by omega)).2 I_2 ⟨by omega, by omega⟩
      have F_26 : zk_fr fr_M_set g g20 := by rw [e_24]; exact zk_fu F_3 (Or.inr (Or.inr (Or.inr (Or.inr (Or.inr ⟨rfl, by omega, by omega⟩)))))
      exact k_M_set_b28 I_25 F_26 ⟨by omega, by omega⟩ ⟨by omega, by omega⟩ ⟨by omega, by omega⟩ (by omega) (by omega) (by omega) (by omega) hQ
  · exact hQ _ _ I_2 F_3 ⟨by omega, by omega⟩
-- SpoutNews$World.countOfWho(I)I
set_option maxRecDepth 100000 in
set_option maxHeartbeats 400000 in
theorem k_World_countOfWho {r0 : Nat} (hr0 : zs_sh r0 = some (10, 20)) {l1 : Int} {g : zi_M} {Q : Int → zi_M → Prop} (I : zk_I g) (p1 : (-2147483648) ≤ l1 ∧ l1 ≤ 2147483647) (hQ : ∀ v : Int, ((l1 = 0 ∨ l1 = 1 ∨ l1 = 6) → v = g r0 11) → ((l1 = 2 ∨ l1 = 7) → v = 6) → ((l1 = 3 ∨ l1 = 4 ∨ l1 = 5) → v = g r0 8) → (¬ l1 = 0 → ¬ l1 = 1 → ¬ l1 = 2 → ¬ l1 = 3 → ¬ l1 = 4 → ¬ l1 = 5 → ¬ l1 = 6 → ¬ l1 = 7 → v = 0) → Q v g) : w_World_countOfWho r0 l1 g Q := by
  unfold w_World_countOfWho
  refine ⟨⟨by omega, by omega⟩, ?_⟩
  refine ⟨fun c2 => ?_, fun c2 => ?_, fun c2 => ?_, fun c2 => ?_, fun c2 => ?_, fun c2 => ?_, fun c2 => ?_, fun c2 => ?_, fun c2 => ?_⟩
  · have m_1 := zk_c10_11 hr0 I
    have m_2 := zk_c10_8 hr0 I
    exact hQ _ (by intros; omega) (by intros; omega) (by intros; omega) (by intros; omega)
  · have m_3 := zk_c10_11 hr0 I
    have m_4 := zk_c10_8 hr0 I
    exact hQ _ (by intros; omega) (by intros; omega) (by intros; omega) (by intros; omega)
  · have m_5 := zk_c10_11 hr0 I
    have m_6 := zk_c10_8 hr0 I
    exact hQ _ (by intros; omega) (by intros; omega) (by intros; omega) (by intros; omega)
  · have m_7 := zk_c10_11 hr0 I
    have m_8 := zk_c10_8 hr0 I
    exact hQ _ (by intros; omega) (by intros; omega) (by intros; omega) (by intros; omega)
  · have m_9 := zk_c10_8 hr0 I
    have m_10 := zk_c10_11 hr0 I
    exact hQ _ (by intros; omega) (by intros; omega) (by intros; omega) (by intros; omega)
  · have m_11 := zk_c10_8 hr0 I
    have m_12 := zk_c10_11 hr0 I
    exact hQ _ (by intros; omega) (by intros; omega) (by intros; omega) (by intros; omega)
  · have m_13 := zk_c10_8 hr0 I
    have m_14 := zk_c10_11 hr0 I
    exact hQ _ (by intros; omega) (by intros; omega) (by intros; omega) (by intros; omega)
  · have m_15 := zk_c10_11 hr0 I
    have m_16 := zk_c10_8 hr0 I
    exact hQ _ (by intros; omega) (by intros; omega) (by intros; omega) (by intros; omega)
  · have m_17 := zk_c10_11 hr0 I
    have m_18 := zk_c10_8 hr0 I
    exact hQ _ (by intros; omega) (by intros; omega) (by intros; omega) (by intros; omega)
-- SpoutNews$World.countOfWhat(I)I
set_option maxRecDepth 100000 in
set_option maxHeartbeats 400000 in
theorem k_World_countOfWhat {r0 : Nat} (hr0 : zs_sh r0 = some (10, 20)) {l1 : Int} {g : zi_M} {Q : Int → zi_M → Prop} (I : zk_I g) (p1 : (-2147483648) ≤ l1 ∧ l1 ≤ 2147483647) (hQ : ∀ v : Int, ((l1 = 0 ∨ l1 = 2) → v = g r0 8) → ((l1 = 6) → v = 16) → (¬ l1 = 0 → ¬ l1 = 2 → ¬ l1 = 6 → v = (-1)) → Q v g) : w_World_countOfWhat r0 l1 g Q := by
  unfold w_World_countOfWhat
  refine ⟨⟨by omega, by omega⟩, ?_⟩
  refine ⟨fun c2_0 c2_1 c2_2 => ?_, fun c2 => ?_, fun c2 => ?_, fun c2 => ?_⟩
  · have m_1 := zk_c10_8 hr0 I
    exact hQ _ (by intros; omega) (by intros; omega) (by intros; omega)
  · have m_2 := zk_c10_8 hr0 I
    exact hQ _ (by intros; omega) (by intros; omega) (by intros; omega)
  · have m_3 := zk_c10_8 hr0 I
    exact hQ _ (by intros; omega) (by intros; omega) (by intros; omega)
  · have m_4 := zk_c10_8 hr0 I
    exact hQ _ (by intros; omega) (by intros; omega) (by intros; omega)
-- SpoutNews$World.canDo(III)Z
set_option maxRecDepth 100000 in
set_option maxHeartbeats 400000 in
theorem k_World_canDo {r0 : Nat} (hr0 : zs_sh r0 = some (10, 20)) {l1 : Int} {l2 : Int} {l3 : Int} {g : zi_M} {Q : Int → zi_M → Prop} (I : zk_I g) (p1 : (-2147483648) ≤ l1 ∧ l1 ≤ 2147483647) (p2 : (-2147483648) ≤ l2 ∧ l2 ≤ 2147483647) (p3 : (-2147483648) ≤ l3 ∧ l3 ≤ 2147483647) (hQ : ∀ v : Int, (0 ≤ v ∧ v ≤ 1) → (¬ v = 0 ∧ (l1 = 0) → 0 ≤ l2 ∧ l2 ≤ 7 ∧ 0 ≤ l3 ∧ l3 ≤ 9) → (¬ v = 0 ∧ (l1 = 1) → 0 ≤ l2 ∧ l2 ≤ 7) → (¬ v = 0 ∧ (l1 = 2) → 0 ≤ l2 ∧ l2 < 6 ∧ 0 ≤ l3 ∧ l3 ≤ 9) → (¬ v = 0 ∧ (3 ≤ l1 ∧ l1 ≤ 5) → 0 ≤ l2 ∧ l2 ≤ 9) → (¬ v = 0 ∧ (l1 = 6) → 0 ≤ l2 ∧ l2 ≤ 7 ∧ 0 ≤ l3 ∧ l3 < 16) → (¬ v = 0 ∧ (l1 < 0 ∨ 6 < l1) → 0 ≤ l2 ∧ l2 < 6) → Q v g) : w_World_canDo r0 l1 l2 l3 g Q := by
  unfold w_World_canDo
  refine ⟨⟨by omega, by omega⟩, ?_⟩
  refine ⟨fun c15 => ?_, fun c15 => ?_⟩
  · exact hQ _ ⟨by omega, by omega⟩ (by omega) (by omega) (by omega) (by omega) (by omega) (by omega)
  · have m_5 := zk_c10_11 hr0 I
    have m_6 := zk_c10_8 hr0 I
    refine k_World_countOfWho hr0 I ⟨by omega, by omega⟩ (fun v2 b_1 b_2 b_3 b_4 => ?_)
    try simp only [Nat.reduceAdd] at b_1 b_2 b_3 b_4
    refine ⟨⟨by omega, by omega⟩, ?_⟩
    refine ⟨fun c14 => ?_, fun c14 => ?_⟩
    · refine k_World_countOfWhat hr0 I ⟨by omega, by omega⟩ (fun v6 b_7 b_8 b_9 => ?_)
      try simp only [Nat.reduceAdd] at b_7 b_8 b_9
      refine ⟨⟨by omega, by omega⟩, ?_⟩
      refine ⟨fun c13 => ?_, fun c13 => ?_⟩
      · exact hQ _ ⟨by omega, by omega⟩ (by omega) (by omega) (by omega) (by omega) (by omega) (by omega)
      · refine ⟨⟨by omega, by omega⟩, ?_⟩
        refine ⟨fun c12 => ?_, fun c12 => ?_⟩
        · exact hQ _ ⟨by omega, by omega⟩ (by omega) (by omega) (by omega) (by omega) (by omega) (by omega)
        · refine ⟨fun c11 => ?_, fun c11 => ?_⟩
          · exact hQ _ ⟨by omega, by omega⟩ (by omega) (by omega) (by omega) (by omega) (by omega) (by omega)
          · exact hQ _ ⟨by omega, by omega⟩ (by omega) (by omega) (by omega) (by omega) (by omega) (by omega)
    · exact hQ _ ⟨by omega, by omega⟩ (by omega) (by omega) (by omega) (by omega) (by omega) (by omega)
-- SpoutNews$World.copyFrom(LSpoutNews$World;)V
def fr_World_copyFrom (r0 : Nat) (r1 : Nat) (a : Nat) (i : Int) : Prop := a = r0 + 1 ∨ a = r0 + 10 ∨ a = r0 + 11 ∨ a = r0 + 2 ∨ a = r0 + 3 ∨ a = r0 + 4 ∨ a = r0 + 5 ∨ a = r0 + 6 ∨ a = r0 + 7 ∨ a = r0 + 8 ∨ a = r0 + 9 ∨ (a = r0 ∧ i = 11) ∨ (a = r0 ∧ i = 14) ∨ (a = r0 ∧ i = 15) ∨ (a = r0 ∧ i = 16) ∨ (a = r0 ∧ i = 17) ∨ (a = r0 ∧ i = 18) ∨ (a = r0 ∧ i = 19) ∨ (a = r0 ∧ i = 8)
set_option maxRecDepth 100000 in
set_option maxHeartbeats 400000 in
theorem k_World_copyFrom {r0 : Nat} (hr0 : zs_sh r0 = some (10, 20)) {r1 : Nat} (hr1 : zs_sh r1 = some (10, 20)) {g : zi_M} {Q : Int → zi_M → Prop} (I : zk_I g) (hQ : ∀ g' : zi_M, zk_I g' → zk_fr (fr_World_copyFrom r0 r1) g g' → Q 0 g') : w_World_copyFrom r0 r1 g Q := by
  unfold w_World_copyFrom
  intro g2 e_1
  have I_2 : zk_I g2 := by rw [e_1]; exact zk_cp (L := 0) (H := 5) (fun i => zk_la10_1 hr1 (i := i)) (fun i => zk_la10_1 hr0 (i := i)) I (zj_a10_1 hr0)
  have F_3 : zk_fr (fr_World_copyFrom r0 r1) g g2 := by rw [e_1]; exact zk_fc (zk_f0 _) (fun i => (Or.inl rfl))
  intro g4 e_4
  have I_5 : zk_I g4 := by rw [e_4]; exact zk_cp (L := 0) (H := 3) (fun i => zk_la10_2 hr1 (i := i)) (fun i => zk_la10_2 hr0 (i := i)) I_2 (zj_a10_2 hr0)
  have F_6 : zk_fr (fr_World_copyFrom r0 r1) g g4 := by rw [e_4]; exact zk_fc F_3 (fun i => (Or.inr (Or.inr (Or.inr (Or.inl rfl)))))
  intro g6 e_7
  have I_8 : zk_I g6 := by rw [e_7]; exact zk_cp (L := 0) (H := 99) (fun i => zk_la10_3 hr1 (i := i)) (fun i => zk_la10_3 hr0 (i := i)) I_5 (zj_a10_3 hr0)
  have F_9 : zk_fr (fr_World_copyFrom r0 r1) g g6 := by rw [e_7]; exact zk_fc F_6 (fun i => (Or.inr (Or.inr (Or.inr (Or.inr (Or.inl rfl))))))
  intro g8 e_10
  have I_11 : zk_I g8 := by rw [e_10]; exact zk_cp (L := 0) (H := 2) (fun i => zk_la10_4 hr1 (i := i)) (fun i => zk_la10_4 hr0 (i := i)) I_8 (zj_a10_4 hr0)
  have F_12 : zk_fr (fr_World_copyFrom r0 r1) g g8 := by rw [e_10]; exact zk_fc F_9 (fun i => (Or.inr (Or.inr (Or.inr (Or.inr (Or.inr (Or.inl rfl)))))))
  intro g10 e_13
  have I_14 : zk_I g10 := by rw [e_13]; exact zk_cp (L := 0) (H := 999) (fun i => zk_la10_5 hr1 (i := i)) (fun i => zk_la10_5 hr0 (i := i)) I_11 (zj_a10_5 hr0)
  have F_15 : zk_fr (fr_World_copyFrom r0 r1) g g10 := by rw [e_13]; exact zk_fc F_12 (fun i => (Or.inr (Or.inr (Or.inr (Or.inr (Or.inr (Or.inr (Or.inl rfl))))))))
  intro g12 e_16
  have I_17 : zk_I g12 := by rw [e_16]; exact zk_cp (L := 0) (H := 20) (fun i => zk_la10_6 hr1 (i := i)) (fun i => zk_la10_6 hr0 (i := i)) I_14 (zj_a10_6 hr0)
  have F_18 : zk_fr (fr_World_copyFrom r0 r1) g g12 := by rw [e_16]; exact zk_fc F_15 (fun i => (Or.inr (Or.inr (Or.inr (Or.inr (Or.inr (Or.inr (Or.inr (Or.inl rfl)))))))))
  intro g14 e_19
  have I_20 : zk_I g14 := by rw [e_19]; exact zk_cp (L := 0) (H := 15) (fun i => zk_la10_7 hr1 (i := i)) (fun i => zk_la10_7 hr0 (i := i)) I_17 (zj_a10_7 hr0)
  have F_21 : zk_fr (fr_World_copyFrom r0 r1) g g14 := by rw [e_19]; exact zk_fc F_18 (fun i => (Or.inr (Or.inr (Or.inr (Or.inr (Or.inr (Or.inr (Or.inr (Or.inr (Or.inl rfl))))))))))
  have m_25 := zk_c10_8 hr1 I_20
  intro g15 e_22
  have I_23 : zk_I g15 := by rw [e_22]; exact zk_upd (zk_lc10_8 hr0).1 (zk_lc10_8 hr0).2 I_20 ⟨by omega, by omega⟩ (zj_w10 hr0)
  have F_24 : zk_fr (fr_World_copyFrom r0 r1) g g15 := by rw [e_22]; exact zk_fu F_21 (Or.inr (Or.inr (Or.inr (Or.inr (Or.inr (Or.inr (Or.inr (Or.inr (Or.inr (Or.inr (Or.inr (Or.inr (Or.inr (Or.inr (Or.inr (Or.inr (Or.inr (Or.inr ⟨rfl, rfl⟩))))))))))))))))))
  intro g17 e_26
  have I_27 : zk_I g17 := by rw [e_26]; exact zk_cp (L := (-2147483648)) (H := 2147483647) (fun i => zk_la10_8 hr1 (i := i)) (fun i => zk_la10_8 hr0 (i := i)) I_23 (zj_a10_8 hr0)
  have F_28 : zk_fr (fr_World_copyFrom r0 r1) g g17 := by rw [e_26]; exact zk_fc F_24 (fun i => (Or.inr (Or.inr (Or.inr (Or.inr (Or.inr (Or.inr (Or.inr (Or.inr (Or.inr (Or.inl rfl)))))))))))
  intro g19 e_29
  have I_30 : zk_I g19 := by rw [e_29]; exact zk_cp (L := (-1)) (H := 9) (fun i => zk_la10_9 hr1 (i := i)) (fun i => zk_la10_9 hr0 (i := i)) I_27 (zj_a10_9 hr0)
  have F_31 : zk_fr (fr_World_copyFrom r0 r1) g g19 := by rw [e_29]; exact zk_fc F_28 (fun i => (Or.inr (Or.inr (Or.inr (Or.inr (Or.inr (Or.inr (Or.inr (Or.inr (Or.inr (Or.inr (Or.inl rfl))))))))))))
  have m_35 := zk_c10_11 hr1 I_30
  intro g20 e_32
  have I_33 : zk_I g20 := by rw [e_32]; exact zk_upd (zk_lc10_11 hr0).1 (zk_lc10_11 hr0).2 I_30 ⟨by omega, by omega⟩ (zj_w10 hr0)
  have F_34 : zk_fr (fr_World_copyFrom r0 r1) g g20 := by rw [e_32]; exact zk_fu F_31 (Or.inr (Or.inr (Or.inr (Or.inr (Or.inr (Or.inr (Or.inr (Or.inr (Or.inr (Or.inr (Or.inr (Or.inl ⟨rfl, rfl⟩))))))))))))
  intro g22 e_36
  have I_37 : zk_I g22 := by rw [e_36]; exact zk_cp (L := (-1)) (H := 9) (fun i => zk_la10_10 hr1 (i := i)) (fun i => zk_la10_10 hr0 (i := i)) I_33 (zj_a10_10 hr0)
  have F_38 : zk_fr (fr_World_copyFrom r0 r1) g g22 := by rw [e_36]; exact zk_fc F_34 (fun i => (Or.inr (Or.inl rfl)))
  intro g24 e_39
  have I_40 : zk_I g24 := by rw [e_39]; exact zk_cp (L := (-2147483648)) (H := 2147483647) (fun i => zk_la10_11 hr1 (i := i)) (fun i => zk_la10_11 hr0 (i := i)) I_37 (zj_a10_11 hr0)
  have F_41 : zk_fr (fr_World_copyFrom r0 r1) g g24 := by rw [e_39]; exact zk_fc F_38 (fun i => (Or.inr (Or.inr (Or.inl rfl))))
  have m_45 := zk_c10_14 hr1 I_40
  intro g25 e_42
  have I_43 : zk_I g25 := by rw [e_42]; exact zk_upd (zk_lc10_14 hr0).1 (zk_lc10_14 hr0).2 I_40 ⟨by omega, by omega⟩ (zj_w10 hr0)
  have F_44 : zk_fr (fr_World_copyFrom r0 r1) g g25 := by rw [e_42]; exact zk_fu F_41 (Or.inr (Or.inr (Or.inr (Or.inr (Or.inr (Or.inr (Or.inr (Or.inr (Or.inr (Or.inr (Or.inr (Or.inr (Or.inl ⟨rfl, rfl⟩)))))))))))))
  have m_49 := zk_c10_15 hr1 I_43
  intro g26 e_46
  have I_47 : zk_I g26 := by rw [e_46]; exact zk_upd (zk_lc10_15 hr0).1 (zk_lc10_15 hr0).2 I_43 ⟨by omega, by omega⟩ (zj_w10 hr0)
  have F_48 : zk_fr (fr_World_copyFrom r0 r1) g g26 := by rw [e_46]; exact zk_fu F_44 (Or.inr (Or.inr (Or.inr (Or.inr (Or.inr (Or.inr (Or.inr (Or.inr (Or.inr (Or.inr (Or.inr (Or.inr (Or.inr (Or.inl ⟨rfl, rfl⟩))))))))))))))
  have m_53 := zk_c10_16 hr1 I_47
  intro g27 e_50
  have I_51 : zk_I g27 := by rw [e_50]; exact zk_upd (zk_lc10_16 hr0).1 (zk_lc10_16 hr0).2 I_47 ⟨by omega, by omega⟩ (zj_w10 hr0)
  have F_52 : zk_fr (fr_World_copyFrom r0 r1) g g27 := by rw [e_50]; exact zk_fu F_48 (Or.inr (Or.inr (Or.inr (Or.inr (Or.inr (Or.inr (Or.inr (Or.inr (Or.inr (Or.inr (Or.inr (Or.inr (Or.inr (Or.inr (Or.inl ⟨rfl, rfl⟩)))))))))))))))
  have m_57 := zk_c10_17 hr1 I_51
  intro g28 e_54
  have I_55 : zk_I g28 := by rw [e_54]; exact zk_upd (zk_lc10_17 hr0).1 (zk_lc10_17 hr0).2 I_51 ⟨by omega, by omega⟩ (zj_w10 hr0)
  have F_56 : zk_fr (fr_World_copyFrom r0 r1) g g28 := by rw [e_54]; exact zk_fu F_52 (Or.inr (Or.inr (Or.inr (Or.inr (Or.inr (Or.inr (Or.inr (Or.inr (Or.inr (Or.inr (Or.inr (Or.inr (Or.inr (Or.inr (Or.inr (Or.inl ⟨rfl, rfl⟩))))))))))))))))
  have m_61 := zk_c10_18 hr1 I_55
  intro g29 e_58
  have I_59 : zk_I g29 := by rw [e_58]; exact zk_upd (zk_lc10_18 hr0).1 (zk_lc10_18 hr0).2 I_55 ⟨by omega, by omega⟩ (zj_w10 hr0)
  have F_60 : zk_fr (fr_World_copyFrom r0 r1) g g29 := by rw [e_58]; exact zk_fu F_56 (Or.inr (Or.inr (Or.inr (Or.inr (Or.inr (Or.inr (Or.inr (Or.inr (Or.inr (Or.inr (Or.inr (Or.inr (Or.inr (Or.inr (Or.inr (Or.inr (Or.inl ⟨rfl, rfl⟩)))))))))))))))))
  have m_65 := zk_c10_19 hr1 I_59
  intro g30 e_62
  have I_63 : zk_I g30 := by rw [e_62]; exact zk_upd (zk_lc10_19 hr0).1 (zk_lc10_19 hr0).2 I_59 ⟨by omega, by omega⟩ (zj_w10 hr0)
  have F_64 : zk_fr (fr_World_copyFrom r0 r1) g g30 := by rw [e_62]; exact zk_fu F_60 (Or.inr (Or.inr (Or.inr (Or.inr (Or.inr (Or.inr (Or.inr (Or.inr (Or.inr (Or.inr (Or.inr (Or.inr (Or.inr (Or.inr (Or.inr (Or.inr (Or.inr (Or.inl ⟨rfl, rfl⟩))))))))))))))))))
  exact hQ _ I_63 F_64
-- SpoutNews$Past.keep(LSpoutNews$World;)V
def fr_Past_keep (a : Nat) (i : Int) : Prop := (a = 91 ∧ i = 1) ∨ (a = 91 ∧ i = 2) ∨ (93 ≤ a ∧ a ≤ 164)
set_option maxRecDepth 100000 in
set_option maxHeartbeats 400000 in
theorem k_Past_keep {g : zi_M} {Q : Int → zi_M → Prop} (I : zk_I g) (hQ : ∀ g' : zi_M, zk_I g' → zk_fr fr_Past_keep g g' → Q 0 g') : w_Past_keep g Q := by
  unfold w_Past_keep
  have m_1 : 0 ≤ (g 91 2) ∧ (g 91 2) ≤ 5 := I.1 91 2
  refine ⟨⟨by omega, by omega⟩, ?_⟩
  refine k_World_copyFrom (zs_ring ⟨by omega, by omega⟩).2 rfl I (fun g3 I_2 F_3 => ?_)
  have F_4 : zk_fr fr_Past_keep g g3 := zk_ft (zk_f0 _) F_3 (fun a i => (fun h => Or.elim h (fun h => (Or.inr (Or.inr ⟨by omega, by omega⟩))) (fun h => Or.elim h (fun h => (Or.inr (Or.inr ⟨by omega, by omega⟩))) (fun h => Or.elim h (fun h => (Or.inr (Or.inr ⟨by omega, by omega⟩))) (fun h => Or.elim h (fun h => (Or.inr (Or.inr ⟨by omega, by omega⟩))) (fun h => Or.elim h (fun h => (Or.inr (Or.inr ⟨by omega, by omega⟩))) (fun h => Or.elim h (fun h => (Or.inr (Or.inr ⟨by omega, by omega⟩))) (fun h => Or.elim h (fun h => (Or.inr (Or.inr ⟨by omega, by omega⟩))) (fun h => Or.elim h (fun h => (Or.inr (Or.inr ⟨by omega, by omega⟩))) (fun h => Or.elim h (fun h => (Or.inr (Or.inr ⟨by omega, by omega⟩))) (fun h => Or.elim h (fun h => (Or.inr (Or.inr ⟨by omega, by omega⟩))) (fun h => Or.elim h (fun h => (Or.inr (Or.inr ⟨by omega, by omega⟩))) (fun h => Or.elim h (fun h => (Or.inr (Or.inr ⟨by omega, by omega⟩))) (fun h => Or.elim h (fun h => (Or.inr (Or.inr ⟨by omega, by omega⟩))) (fun h => Or.elim h (fun h => (Or.inr (Or.inr ⟨by omega, by omega⟩))) (fun h => Or.elim h (fun h => (Or.inr (Or.inr ⟨by omega, by omega⟩))) (fun h => Or.elim h (fun h => (Or.inr (Or.inr ⟨by omega, by omega⟩))) (fun h => Or.elim h (fun h => (Or.inr (Or.inr ⟨by omega, by omega⟩))) (fun h => Or.elim h (fun h => (Or.inr (Or.inr ⟨by omega, by omega⟩))) (fun h => (Or.inr (Or.inr ⟨by omega, by omega⟩))))))))))))))))))))))
  have m_5 : 0 ≤ (g3 91 2) ∧ (g3 91 2) ≤ 5 := I_2.1 91 2
  have m_6 : g3 91 2 = g 91 2 := F_3 _ _ (by unfold fr_World_copyFrom; omega)
  refine ⟨⟨by omega, by omega⟩, ?_⟩
  have m_10 := zi_tmod_f ((g3 91 2) + 1) 6
  have m_11 := zi_tmod_c ((g3 91 2) + 1) 6 (by decide)
  intro g6 e_7
  have I_8 : zk_I g6 := by rw [e_7]; exact zk_upd (L := 0) (H := 5) rfl rfl I_2 ⟨by omega, by omega⟩
  have F_9 : zk_fr fr_Past_keep g g6 := by rw [e_7]; exact zk_fu F_4 (Or.inr (Or.inl ⟨rfl, rfl⟩))
  have m_12 : 0 ≤ (g6 91 1) ∧ (g6 91 1) ≤ 6 := I_8.1 91 1
  have m_13 : g6 91 1 = g3 91 1 := by rw [e_7]; exact zi_u_ni (by decide)
  have m_14 : 0 ≤ (g3 91 1) ∧ (g3 91 1) ≤ 6 := I_2.1 91 1
  have m_15 : g3 91 1 = g 91 1 := F_3 _ _ (by unfold fr_World_copyFrom; omega)
  have m_16 : 0 ≤ (g 91 1) ∧ (g 91 1) ≤ 6 := I.1 91 1
  refine ⟨⟨by omega, by omega⟩, ?_⟩
  intro g8 e_17
  have I_18 : zk_I g8 := by rw [e_17]; exact zk_upd (L := 0) (H := 6) rfl rfl I_8 ⟨by omega, by omega⟩
  have F_19 : zk_fr fr_Past_keep g g8 := by rw [e_17]; exact zk_fu F_9 (Or.inl ⟨rfl, rfl⟩)
  exact hQ _ I_18 F_19
-- SpoutNews$World.carryOut(III)V
def fr_World_carryOut (r0 : Nat) (a : Nat) (i : Int) : Prop := a = r0 + 10 ∨ a = r0 + 11 ∨ a = r0 + 4 ∨ a = r0 + 8 ∨ a = r0 + 9
set_option maxRecDepth 100000 in
set_option maxHeartbeats 400000 in
theorem k_World_carryOut {r0 : Nat} (hr0 : zs_sh r0 = some (10, 20)) {l1 : Int} {l2 : Int} {l3 : Int} {g : zi_M} {Q : Int → zi_M → Prop} (I : zk_I g) (p1 : (-2147483648) ≤ l1 ∧ l1 ≤ 2147483647) (p2 : (-2147483648) ≤ l2 ∧ l2 ≤ 2147483647) (p3 : (-2147483648) ≤ l3 ∧ l3 ≤ 2147483647) (hQ : ∀ g' : zi_M, zk_I g' → zk_fr (fr_World_carryOut r0) g g' → Q 0 g') : w_World_carryOut r0 l1 l2 l3 g Q := by
  unfold w_World_carryOut
  refine k_World_canDo hr0 I ⟨by omega, by omega⟩ ⟨by omega, by omega⟩ ⟨by omega, by omega⟩ (fun v1 b_1 b_2 b_3 b_4 b_5 b_6 b_7 => ?_)
  refine ⟨fun c22 => ?_, fun c22 => ?_⟩
  · refine ⟨⟨by omega, by omega⟩, ?_⟩
    refine ⟨fun c5 => ?_, fun c5 => ?_, fun c5 => ?_, fun c5 => ?_, fun c5 => ?_, fun c5 => ?_, fun c5 => ?_, fun c5 => ?_⟩
    · refine ⟨⟨by omega, by omega⟩, ?_⟩
      intro g7 e_8
      have I_9 : zk_I g7 := by rw [e_8]; exact zk_upd (zk_la10_11 hr0).1 (zk_la10_11 hr0).2 I ⟨by omega, by omega⟩ (zj_a10_11 hr0)
      have F_10 : zk_fr (fr_World_carryOut r0) g g7 := by rw [e_8]; exact zk_fu (zk_f0 _) (Or.inr (Or.inl rfl))
      exact hQ _ I_9 F_10
    · refine ⟨⟨by omega, by omega⟩, ?_⟩
      intro g9 e_11
      have I_12 : zk_I g9 := by rw [e_11]; exact zk_upd (zk_la10_9 hr0).1 (zk_la10_9 hr0).2 I ⟨by omega, by omega⟩ (zj_a10_9 hr0)
      have F_13 : zk_fr (fr_World_carryOut r0) g g9 := by rw [e_11]; exact zk_fu (zk_f0 _) (Or.inr (Or.inr (Or.inr (Or.inr rfl))))
      exact hQ _ I_12 F_13
    · refine ⟨⟨by omega, by omega⟩, ?_⟩
      intro g11 e_14
      have I_15 : zk_I g11 := by rw [e_14]; exact zk_upd (zk_la10_9 hr0).1 (zk_la10_9 hr0).2 I ⟨by omega, by omega⟩ (zj_a10_9 hr0)
      have F_16 : zk_fr (fr_World_carryOut r0) g g11 := by rw [e_14]; exact zk_fu (zk_f0 _) (Or.inr (Or.inr (Or.inr (Or.inr rfl))))
      exact hQ _ I_15 F_16
    · refine ⟨⟨by omega, by omega⟩, ?_⟩
      intro g13 e_17
      have I_18 : zk_I g13 := by rw [e_17]; exact zk_upd (zk_la10_10 hr0).1 (zk_la10_10 hr0).2 I ⟨by omega, by omega⟩ (zj_a10_10 hr0)
      have F_19 : zk_fr (fr_World_carryOut r0) g g13 := by rw [e_17]; exact zk_fu (zk_f0 _) (Or.inl rfl)
      exact hQ _ I_18 F_19
    · refine ⟨⟨by omega, by omega⟩, ?_⟩
      intro g15 e_20
      have I_21 : zk_I g15 := by rw [e_20]; exact zk_upd (zk_la10_4 hr0).1 (zk_la10_4 hr0).2 I ⟨by omega, by omega⟩ (zj_a10_4 hr0)
      have F_22 : zk_fr (fr_World_carryOut r0) g g15 := by rw [e_20]; exact zk_fu (zk_f0 _) (Or.inr (Or.inr (Or.inl rfl)))
      exact hQ _ I_21 F_22
    · refine ⟨⟨by omega, by omega⟩, ?_⟩
      intro g17 e_23
      have I_24 : zk_I g17 := by rw [e_23]; exact zk_upd (zk_la10_4 hr0).1 (zk_la10_4 hr0).2 I ⟨by omega, by omega⟩ (zj_a10_4 hr0)
      have F_25 : zk_fr (fr_World_carryOut r0) g g17 := by rw [e_23]; exact zk_fu (zk_f0 _) (Or.inr (Or.inr (Or.inl rfl)))
      exact hQ _ I_24 F_25
    · refine ⟨⟨by omega, by omega⟩, ?_⟩
      intro g19 e_26
      have I_27 : zk_I g19 := by rw [e_26]; exact zk_upd (zk_la10_4 hr0).1 (zk_la10_4 hr0).2 I ⟨by omega, by omega⟩ (zj_a10_4 hr0)
      have F_28 : zk_fr (fr_World_carryOut r0) g g19 := by rw [e_26]; exact zk_fu (zk_f0 _) (Or.inr (Or.inr (Or.inl rfl)))
      exact hQ _ I_27 F_28
    · refine ⟨⟨by omega, by omega⟩, ?_⟩
      have m_32 := zk_a10_8 hr0 I l2
      have m_33 := zi_r_shl 1 l3
      try have m_34 := (zi_shl_f l3).2.1 ⟨by omega, by omega⟩
      first | have m_35 := (zi_shl_f l3).2.2.1 ⟨by omega, by omega⟩ | have m_36 := (zi_shl_f l3).2.2.2.1 ⟨by omega, by omega⟩ | have m_37 := (zi_shl_f l3).2.2.2.2.1 ⟨by omega, by omega⟩ | have m_38 := (zi_shl_f l3).2.2.2.2.2.1 ⟨by omega, by omega⟩ | have m_39 := (zi_shl_f l3).2.2.2.2.2.2 ⟨by omega, by omega⟩ | skip
      first | have m_40 := (zi_or_f (g (r0 + 8) l2) (zi_shl 1 l3)).2.1 ⟨by omega, by omega, by omega, by omega⟩ | have m_40 := (zi_or_f (g (r0 + 8) l2) (zi_shl 1 l3)).2.2.1 ⟨by omega, by omega, by omega, by omega⟩ | have m_40 := (zi_or_f (g (r0 + 8) l2) (zi_shl 1 l3)).2.2.2.1 ⟨by omega, by omega, by omega, by omega⟩ | have m_40 := (zi_or_f (g (r0 + 8) l2) (zi_shl 1 l3)).2.2.2.2.1 ⟨by omega, by omega, by omega, by omega⟩ | have m_40 := (zi_or_f (g (r0 + 8) l2) (zi_shl 1 l3)).2.2.2.2.2 ⟨by omega, by omega, by omega, by omega⟩ | have m_40 := zi_r_or (g (r0 + 8) l2) (zi_shl 1 l3)
      intro g21 e_29
      have I_30 : zk_I g21 := by rw [e_29]; exact zk_upd (zk_la10_8 hr0).1 (zk_la10_8 hr0).2 I ⟨by omega, by omega⟩ (zj_a10_8 hr0)
      have F_31 : zk_fr (fr_World_carryOut r0) g g21 := by rw [e_29]; exact zk_fu (zk_f0 _) (Or.inr (Or.inr (Or.inr (Or.inl rfl))))
      exact hQ _ I_30 F_31
  · exact hQ _ I (zk_f0 _)
