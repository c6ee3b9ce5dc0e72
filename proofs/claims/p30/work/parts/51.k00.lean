-- by program (wip/gen/mkz.py)
-- SpoutNews$Past.forget()V
def fr_Past_forget (a : Nat) (i : Int) : Prop := (a = 91 ∧ i = 1)
set_option maxRecDepth 100000 in
set_option maxHeartbeats 400000 in
theorem k_Past_forget {g : zi_M} {Q : Int → zi_M → Prop} (I : zk_I g) (hQ : ∀ g' : zi_M, zk_I g' → zk_fr fr_Past_forget g g' → Q 0 g') : w_Past_forget g Q := by
  unfold w_Past_forget
  intro g1 e_1
  have I_2 : zk_I g1 := by rw [e_1]; exact zk_upd (L := 0) (H := 6) rfl rfl I ⟨by omega, by omega⟩
  have F_3 : zk_fr fr_Past_forget g g1 := by rw [e_1]; exact zk_fu (zk_f0 _) ⟨rfl, rfl⟩
  exact hQ _ I_2 F_3
-- SpoutNews.state(I)I
def fr_S_state (a : Nat) (i : Int) : Prop := (a = 2 ∧ i = 18) ∨ (a = 91 ∧ i = 1)
set_option maxRecDepth 100000 in
set_option maxHeartbeats 400000 in
theorem k_S_state {l1 : Int} {g : zi_M} {Q : Int → zi_M → Prop} (I : zk_I g) (p1 : (-2147483648) ≤ l1 ∧ l1 ≤ 2147483647) (hQ : ∀ (v : Int) (g' : zi_M), zk_I g' → zk_fr fr_S_state g g' → ((-2147483648) ≤ v ∧ v ≤ 2147483647) → Q v g') : w_S_state l1 g Q := by
  unfold w_S_state
  intro g1 e_1
  have I_2 : zk_I g1 := by rw [e_1]; exact zk_upd (L := (-2147483648)) (H := 2147483647) rfl rfl I ⟨by omega, by omega⟩
  have F_3 : zk_fr fr_S_state g g1 := by rw [e_1]; exact zk_fu (zk_f0 _) (Or.inl ⟨rfl, rfl⟩)
  refine k_Past_forget I_2 (fun g3 I_4 F_5 => ?_)
  have F_6 : zk_fr fr_S_state g g3 := zk_ft F_3 F_5 (fun a i => (fun h => (Or.inr h)))
  have m_7 : (-2147483648) ≤ (g 2 18) ∧ (g 2 18) ≤ 2147483647 := I 2 18
  exact hQ _ _ I_4 F_6 ⟨by omega, by omega⟩
-- SpoutNewsModel.state(I)I
def fr_M_state (a : Nat) (i : Int) : Prop := a = 215 ∨ (a = 214 ∧ i = 0) ∨ (a = 214 ∧ i = 3)
set_option maxRecDepth 100000 in
set_option maxHeartbeats 400000 in
theorem k_M_state {l1 : Int} {g : zi_M} {Q : Int → zi_M → Prop} (I : zk_I g) (p1 : (-2147483648) ≤ l1 ∧ l1 ≤ 2147483647) (hQ : ∀ (v : Int) (g' : zi_M), zk_I g' → zk_fr fr_M_state g g' → ((-2147483648) ≤ v ∧ v ≤ 2147483647) → Q v g') : w_M_state l1 g Q := by
  unfold w_M_state
  intro g1 e_1
  have I_2 : zk_I g1 := by rw [e_1]; exact zk_upd (L := (-2147483648)) (H := 2147483647) rfl rfl I ⟨by omega, by omega⟩
  have F_3 : zk_fr fr_M_state g g1 := by rw [e_1]; exact zk_fu (zk_f0 _) (Or.inr (Or.inl ⟨rfl, rfl⟩))
  intro g2 e_4
  have I_5 : zk_I g2 := by rw [e_4]; exact zk_upd (zk_nl0 (i := 1) (by omega)).1 (zk_nl0 (i := 1) (by omega)).2 I_2 ⟨by omega, by omega⟩
  have F_6 : zk_fr fr_M_state g g2 := by rw [e_4]; exact zk_fu F_3 (Or.inl rfl)
  intro g3 e_7
  have I_8 : zk_I g3 := by rw [e_7]; exact zk_upd (L := 0) (H := 6) rfl rfl I_5 ⟨by omega, by omega⟩
  have F_9 : zk_fr fr_M_state g g3 := by rw [e_7]; exact zk_fu F_6 (Or.inr (Or.inr ⟨rfl, rfl⟩))
  have m_10 := zk_rng I_2 215 1
  have m_11 : g1 215 1 = g 215 1 := by rw [e_1]; exact zi_u_ne (by decide)
  have m_12 := zk_rng I 215 1
  exact hQ _ _ I_8 F_9 ⟨by omega, by omega⟩
-- SpoutNews$World.addSpout(III)I
def fr_World_addSpout (a : Nat) (i : Int) : Prop := a = 3 ∨ a = 4 ∨ a = 5 ∨ a = 6 ∨ a = 7 ∨ a = 8 ∨ (a = 2 ∧ i = 8)
set_option maxRecDepth 100000 in
set_option maxHeartbeats 400000 in
theorem k_World_addSpout {l1 : Int} {l2 : Int} {l3 : Int} {g : zi_M} {Q : Int → zi_M → Prop} (I : zk_I g) (p1 : 0 ≤ l1 ∧ l1 ≤ 5) (p2 : 0 ≤ l2 ∧ l2 ≤ 3) (p3 : 0 ≤ l3 ∧ l3 ≤ 99) (hQ : ∀ (v : Int) (g' : zi_M), zk_I g' → zk_fr fr_World_addSpout g g' → ((-1) ≤ v ∧ v ≤ 9) → Q v g') : w_World_addSpout l1 l2 l3 g Q := by
  unfold w_World_addSpout
  have m_1 : 0 ≤ (g 2 8) ∧ (g 2 8) ≤ 10 := I 2 8
  refine ⟨⟨by omega, by omega⟩, ?_⟩
  refine ⟨fun c10 => ?_, fun c10 => ?_⟩
  · refine ⟨⟨by omega, by omega⟩, ?_⟩
    intro g3 e_2
    have I_3 : zk_I g3 := by rw [e_2]; exact zk_upd (L := 0) (H := 5) rfl rfl I ⟨by omega, by omega⟩
    have F_4 : zk_fr fr_World_addSpout g g3 := by rw [e_2]; exact zk_fu (zk_f0 _) (Or.inl rfl)
    intro g4 e_5
    have I_6 : zk_I g4 := by rw [e_5]; exact zk_upd (L := 0) (H := 3) rfl rfl I_3 ⟨by omega, by omega⟩
    have F_7 : zk_fr fr_World_addSpout g g4 := by rw [e_5]; exact zk_fu F_4 (Or.inr (Or.inl rfl))
    intro g5 e_8
    have I_9 : zk_I g5 := by rw [e_8]; exact zk_upd (L := 0) (H := 99) rfl rfl I_6 ⟨by omega, by omega⟩
    have F_10 : zk_fr fr_World_addSpout g g5 := by rw [e_8]; exact zk_fu F_7 (Or.inr (Or.inr (Or.inl rfl)))
    intro g6 e_11
    have I_12 : zk_I g6 := by rw [e_11]; exact zk_upd (L := 0) (H := 2) rfl rfl I_9 ⟨by omega, by omega⟩
    have F_13 : zk_fr fr_World_addSpout g g6 := by rw [e_11]; exact zk_fu F_10 (Or.inr (Or.inr (Or.inr (Or.inl rfl))))
    intro g7 e_14
    have I_15 : zk_I g7 := by rw [e_14]; exact zk_upd (L := 0) (H := 999) rfl rfl I_12 ⟨by omega, by omega⟩
    have F_16 : zk_fr fr_World_addSpout g g7 := by rw [e_14]; exact zk_fu F_13 (Or.inr (Or.inr (Or.inr (Or.inr (Or.inl rfl)))))
    intro g8 e_17
    have I_18 : zk_I g8 := by rw [e_17]; exact zk_upd (L := 0) (H := 20) rfl rfl I_15 ⟨by omega, by omega⟩
    have F_19 : zk_fr fr_World_addSpout g g8 := by rw [e_17]; exact zk_fu F_16 (Or.inr (Or.inr (Or.inr (Or.inr (Or.inr (Or.inl rfl))))))
    intro g9 e_20
    have I_21 : zk_I g9 := by rw [e_20]; exact zk_upd (L := 0) (H := 10) rfl rfl I_18 ⟨by omega, by omega⟩
    have F_22 : zk_fr fr_World_addSpout g g9 := by rw [e_20]; exact zk_fu F_19 (Or.inr (Or.inr (Or.inr (Or.inr (Or.inr (Or.inr ⟨rfl, rfl⟩))))))
    exact hQ _ _ I_21 F_22 ⟨by omega, by omega⟩
  · exact hQ _ _ I (zk_f0 _) ⟨by omega, by omega⟩
-- SpoutNews.spout(III)I
def fr_S_spout (a : Nat) (i : Int) : Prop := a = 3 ∨ a = 4 ∨ a = 5 ∨ a = 6 ∨ a = 7 ∨ a = 8 ∨ (a = 2 ∧ i = 8) ∨ (a = 91 ∧ i = 1)
set_option maxRecDepth 100000 in
set_option maxHeartbeats 400000 in
theorem k_S_spout {l1 : Int} {l2 : Int} {l3 : Int} {g : zi_M} {Q : Int → zi_M → Prop} (I : zk_I g) (p1 : (-2147483648) ≤ l1 ∧ l1 ≤ 2147483647) (p2 : (-2147483648) ≤ l2 ∧ l2 ≤ 2147483647) (p3 : (-2147483648) ≤ l3 ∧ l3 ≤ 2147483647) (hQ : ∀ (v : Int) (g' : zi_M), zk_I g' → zk_fr fr_S_spout g g' → ((-1) ≤ v ∧ v ≤ 9) → Q v g') : w_S_spout l1 l2 l3 g Q := by
  unfold w_S_spout
  refine ⟨⟨by omega, by omega⟩, ?_⟩
  refine ⟨fun c17 => ?_, fun c17 => ?_⟩
  · exact hQ _ _ I (zk_f0 _) ⟨by omega, by omega⟩
  · refine ⟨fun c16 => ?_, fun c16 => ?_⟩
    · exact hQ _ _ I (zk_f0 _) ⟨by omega, by omega⟩
    · refine ⟨⟨by omega, by omega⟩, ?_⟩
      refine ⟨fun c15 => ?_, fun c15 => ?_⟩
      · exact hQ _ _ I (zk_f0 _) ⟨by omega, by omega⟩
      · refine ⟨fun c14 => ?_, fun c14 => ?_⟩
        · exact hQ _ _ I (zk_f0 _) ⟨by omega, by omega⟩
        · refine ⟨⟨by omega, by omega⟩, ?_⟩
          refine ⟨fun c13 => ?_, fun c13 => ?_⟩
          · exact hQ _ _ I (zk_f0 _) ⟨by omega, by omega⟩
          · refine ⟨fun c12 => ?_, fun c12 => ?_⟩
            · have m_1 : 0 ≤ (g 2 8) ∧ (g 2 8) ≤ 10 := I 2 8
              refine ⟨⟨by omega, by omega⟩, ?_⟩
              refine ⟨fun c11 => ?_, fun c11 => ?_⟩
              · refine k_Past_forget I (fun g6 I_2 F_3 => ?_)
                have F_4 : zk_fr fr_S_spout g g6 := zk_ft (zk_f0 _) F_3 (fun a i => (fun h => (Or.inr (Or.inr (Or.inr (Or.inr (Or.inr (Or.inr (Or.inr h)))))))))
                refine k_World_addSpout I_2 ⟨by omega, by omega⟩ ⟨by omega, by omega⟩ ⟨by omega, by omega⟩ (fun v8 g9 I_6 F_7 b_5 => ?_)
                have F_8 : zk_fr fr_S_spout g g9 := zk_ft F_4 F_7 (fun a i => (fun h => Or.elim h (fun h => (Or.inl h)) (fun h => Or.elim h (fun h => (Or.inr (Or.inl h))) (fun h => Or.elim h (fun h => (Or.inr (Or.inr (Or.inl h)))) (fun h => Or.elim h (fun h => (Or.inr (Or.inr (Or.inr (Or.inl h))))) (fun h => Or.elim h (fun h => (Or.inr (Or.inr (Or.inr (Or.inr (Or.inl h)))))) (fun h => Or.elim h (fun h => (Or.inr (Or.inr (Or.inr (Or.inr (Or.inr (Or.inl h))))))) (fun h => (Or.inr (Or.inr (Or.inr (Or.inr (Or.inr (Or.inr (Or.inl h)))))))))))))))
                exact hQ _ _ I_6 F_8 ⟨by omega, by omega⟩
              · exact hQ _ _ I (zk_f0 _) ⟨by omega, by omega⟩
            · exact hQ _ _ I (zk_f0 _) ⟨by omega, by omega⟩
-- SpoutNewsModel.isIn(III)Z
set_option maxRecDepth 100000 in
set_option maxHeartbeats 400000 in
theorem k_M_isIn {l1 : Int} {l2 : Int} {l3 : Int} {g : zi_M} {Q : Int → zi_M → Prop} (I : zk_I g) (p1 : (-2147483648) ≤ l1 ∧ l1 ≤ 2147483647) (p2 : (-2147483648) ≤ l2 ∧ l2 ≤ 2147483647) (p3 : (-2147483648) ≤ l3 ∧ l3 ≤ 2147483647) (hQ : ∀ v : Int, (l1 < l2 → v = 0) → (l2 ≤ l1 → l3 < l1 → v = 0) → (l2 ≤ l1 → l1 ≤ l3 → v = 1) → Q v g) : w_M_isIn l1 l2 l3 g Q := by
  unfold w_M_isIn
  refine ⟨⟨by omega, by omega⟩, ⟨by omega, by omega⟩, ?_⟩
  refine ⟨fun c5 => ?_, fun c5 => ?_⟩
  · exact hQ _ (by intros; omega) (by intros; omega) (by intros; omega)
  · refine ⟨⟨by omega, by omega⟩, ?_⟩
    refine ⟨fun c4 => ?_, fun c4 => ?_⟩
    · exact hQ _ (by intros; omega) (by intros; omega) (by intros; omega)
    · exact hQ _ (by intros; omega) (by intros; omega) (by intros; omega)
-- SpoutNewsModel.spout(III)I
def fr_M_spout (a : Nat) (i : Int) : Prop := a = 215 ∨ a = 218 ∨ a = 219 ∨ a = 220 ∨ (a = 214 ∧ i = 0) ∨ (a = 214 ∧ i = 3) ∨ (a = 214 ∧ i = 6)
set_option maxRecDepth 100000 in
set_option maxHeartbeats 400000 in
theorem k_M_spout {l1 : Int} {l2 : Int} {l3 : Int} {g : zi_M} {Q : Int → zi_M → Prop} (I : zk_I g) (p1 : (-2147483648) ≤ l1 ∧ l1 ≤ 2147483647) (p2 : (-2147483648) ≤ l2 ∧ l2 ≤ 2147483647) (p3 : (-2147483648) ≤ l3 ∧ l3 ≤ 2147483647) (hQ : ∀ (v : Int) (g' : zi_M), zk_I g' → zk_fr fr_M_spout g g' → ((-1) ≤ v ∧ v ≤ 9) → Q v g') : w_M_spout l1 l2 l3 g Q := by
  unfold w_M_spout
  intro g1 e_1
  have I_2 : zk_I g1 := by rw [e_1]; exact zk_upd (L := (-2147483648)) (H := 2147483647) rfl rfl I ⟨by omega, by omega⟩
  have F_3 : zk_fr fr_M_spout g g1 := by rw [e_1]; exact zk_fu (zk_f0 _) (Or.inr (Or.inr (Or.inr (Or.inr (Or.inl ⟨rfl, rfl⟩)))))
  refine k_M_isIn I_2 ⟨by omega, by omega⟩ ⟨by omega, by omega⟩ ⟨by omega, by omega⟩ (fun v2 b_4 b_5 b_6 => ?_)
  refine ⟨fun c29 => ?_, fun c29 => ?_⟩
  · exact hQ _ _ I_2 F_3 ⟨by omega, by omega⟩
  · refine k_M_isIn I_2 ⟨by omega, by omega⟩ ⟨by omega, by omega⟩ ⟨by omega, by omega⟩ (fun v5 b_7 b_8 b_9 => ?_)
    refine ⟨fun c28 => ?_, fun c28 => ?_⟩
    · exact hQ _ _ I_2 F_3 ⟨by omega, by omega⟩
    · refine k_M_isIn I_2 ⟨by omega, by omega⟩ ⟨by omega, by omega⟩ ⟨by omega, by omega⟩ (fun v8 b_10 b_11 b_12 => ?_)
      refine ⟨fun c27 => ?_, fun c27 => ?_⟩
      · exact hQ _ _ I_2 F_3 ⟨by omega, by omega⟩
      · have m_13 : 0 ≤ (g1 214 6) ∧ (g1 214 6) ≤ 10 := I_2 214 6
        have m_14 : g1 214 6 = g 214 6 := by rw [e_1]; exact zi_u_ni (by decide)
        have m_15 : 0 ≤ (g 214 6) ∧ (g 214 6) ≤ 10 := I 214 6
        refine ⟨⟨by omega, by omega⟩, ?_⟩
        refine ⟨fun c26 => ?_, fun c26 => ?_⟩
        · refine ⟨⟨by omega, by omega⟩, ?_⟩
          intro g13 e_16
          have I_17 : zk_I g13 := by rw [e_16]; exact zk_upd (L := 0) (H := 5) rfl rfl I_2 ⟨by omega, by omega⟩
          have F_18 : zk_fr fr_M_spout g g13 := by rw [e_16]; exact zk_fu F_3 (Or.inr (Or.inl rfl))
          have m_22 : 0 ≤ (g13 214 6) ∧ (g13 214 6) ≤ 10 := I_17 214 6
          have m_23 : g13 214 6 = g1 214 6 := by rw [e_16]; exact zi_u_ne (by decide)
          refine ⟨⟨by omega, by omega⟩, ?_⟩
          intro g15 e_19
          have I_20 : zk_I g15 := by rw [e_19]; exact zk_upd (L := 0) (H := 3) rfl rfl I_17 ⟨by omega, by omega⟩
          have F_21 : zk_fr fr_M_spout g g15 := by rw [e_19]; exact zk_fu F_18 (Or.inr (Or.inr (Or.inl rfl)))
          have m_27 : 0 ≤ (g15 214 6) ∧ (g15 214 6) ≤ 10 := I_20 214 6
          have m_28 : g15 214 6 = g13 214 6 := by rw [e_19]; exact zi_u_ne (by decide)
          refine ⟨⟨by omega, by omega⟩, ?_⟩
          intro g17 e_24
          have I_25 : zk_I g17 := by rw [e_24]; exact zk_upd (L := 0) (H := 99) rfl rfl I_20 ⟨by omega, by omega⟩
          have F_26 : zk_fr fr_M_spout g g17 := by rw [e_24]; exact zk_fu F_21 (Or.inr (Or.inr (Or.inr (Or.inl rfl))))
          have m_32 : 0 ≤ (g17 214 6) ∧ (g17 214 6) ≤ 10 := I_25 214 6
          have m_33 : g17 214 6 = g15 214 6 := by rw [e_24]; exact zi_u_ne (by decide)
          refine ⟨⟨by omega, by omega⟩, ?_⟩
          intro g19 e_29
          have I_30 : zk_I g19 := by rw [e_29]; exact zk_upd (zk_nl6 (i := 6 + (g17 214 6)) (by omega)).1 (zk_nl6 (i := 6 + (g17 214 6)) (by omega)).2 I_25 ⟨by omega, by omega⟩
          have F_31 : zk_fr fr_M_spout g g19 := by rw [e_29]; exact zk_fu F_26 (Or.inl rfl)
          have m_37 : 0 ≤ (g19 214 6) ∧ (g19 214 6) ≤ 10 := I_30 214 6
          have m_38 : g19 214 6 = g17 214 6 := by rw [e_29]; exact zi_u_ne (by decide)
          refine ⟨⟨by omega, by omega⟩, ?_⟩
          intro g21 e_34
          have I_35 : zk_I g21 := by rw [e_34]; exact zk_upd (zk_nl16 (i := 16 + (g19 214 6)) (by omega)).1 (zk_nl16 (i := 16 + (g19 214 6)) (by omega)).2 I_30 ⟨by omega, by omega⟩
          have F_36 : zk_fr fr_M_spout g g21 := by rw [e_34]; exact zk_fu F_31 (Or.inl rfl)
          have m_42 : 0 ≤ (g21 214 6) ∧ (g21 214 6) ≤ 10 := I_35 214 6
          have m_43 : g21 214 6 = g19 214 6 := by rw [e_34]; exact zi_u_ne (by decide)
          refine ⟨⟨by omega, by omega⟩, ?_⟩
          intro g23 e_39
          have I_40 : zk_I g23 := by rw [e_39]; exact zk_upd (zk_nl26 (i := 26 + (g21 214 6)) (by omega)).1 (zk_nl26 (i := 26 + (g21 214 6)) (by omega)).2 I_35 ⟨by omega, by omega⟩
          have F_41 : zk_fr fr_M_spout g g23 := by rw [e_39]; exact zk_fu F_36 (Or.inl rfl)
          have m_47 : 0 ≤ (g23 214 6) ∧ (g23 214 6) ≤ 10 := I_40 214 6
          have m_48 : g23 214 6 = g21 214 6 := by rw [e_39]; exact zi_u_ne (by decide)
          intro g24 e_44
          have I_45 : zk_I g24 := by rw [e_44]; exact zk_upd (L := 0) (H := 10) rfl rfl I_40 ⟨by omega, by omega⟩
          have F_46 : zk_fr fr_M_spout g g24 := by rw [e_44]; exact zk_fu F_41 (Or.inr (Or.inr (Or.inr (Or.inr (Or.inr (Or.inr ⟨rfl, rfl⟩))))))
          intro g25 e_49
          have I_50 : zk_I g25 := by rw [e_49]; exact zk_upd (L := 0) (H := 6) rfl rfl I_45 ⟨by omega, by omega⟩
          have F_51 : zk_fr fr_M_spout g g25 := by rw [e_49]; exact zk_fu F_46 (Or.inr (Or.inr (Or.inr (Or.inr (Or.inr (Or.inl ⟨rfl, rfl⟩))))))
          have m_52 : 0 ≤ (g25 214 6) ∧ (g25 214 6) ≤ 10 := I_50 214 6
          have m_53 : g25 214 6 = g24 214 6 := by rw [e_49]; exact zi_u_ni (by decide)
          have m_54 : 0 ≤ (g24 214 6) ∧ (g24 214 6) ≤ 10 := I_45 214 6
          have m_55 : g24 214 6 = (g23 214 6) + 1 := by rw [e_44]; exact zi_u_eq
          exact hQ _ _ I_50 F_51 ⟨by omega, by omega⟩
        · exact hQ _ _ I_2 F_3 ⟨by omega, by omega⟩
-- SpoutNews.isWordSet(I)Z
set_option maxRecDepth 100000 in
set_option maxHeartbeats 400000 in
theorem k_S_isWordSet {l0 : Int} {g : zi_M} {Q : Int → zi_M → Prop} (I : zk_I g) (p0 : (-2147483648) ≤ l0 ∧ l0 ≤ 2147483647) (hQ : ∀ v : Int, (l0 < 0 → v = 0) → (0 ≤ l0 → 65536 ≤ l0 → v = 0) → (0 ≤ l0 → l0 < 65536 → v = 1) → Q v g) : w_S_isWordSet l0 g Q := by
  unfold w_S_isWordSet
  refine ⟨⟨by omega, by omega⟩, ?_⟩
  refine ⟨fun c3 => ?_, fun c3 => ?_⟩
  · exact hQ _ (by intros; omega) (by intros; omega) (by intros; omega)
  · refine ⟨fun c2 => ?_, fun c2 => ?_⟩
    · exact hQ _ (by intros; omega) (by intros; omega) (by intros; omega)
    · exact hQ _ (by intros; omega) (by intros; omega) (by intros; omega)
-- SpoutNews$World.addSitter(I)I
def fr_World_addSitter (a : Nat) (i : Int) : Prop := a = 10 ∨ a = 11 ∨ (a = 2 ∧ i = 11)
set_option maxRecDepth 100000 in
set_option maxHeartbeats 400000 in
theorem k_World_addSitter {l1 : Int} {g : zi_M} {Q : Int → zi_M → Prop} (I : zk_I g) (p1 : (-2147483648) ≤ l1 ∧ l1 ≤ 2147483647) (hQ : ∀ (v : Int) (g' : zi_M), zk_I g' → zk_fr fr_World_addSitter g g' → ((-1) ≤ v ∧ v ≤ 7) → Q v g') : w_World_addSitter l1 g Q := by
  unfold w_World_addSitter
  have m_1 : 0 ≤ (g 2 11) ∧ (g 2 11) ≤ 8 := I 2 11
  refine ⟨⟨by omega, by omega⟩, ?_⟩
  refine ⟨fun c6 => ?_, fun c6 => ?_⟩
  · refine ⟨⟨by omega, by omega⟩, ?_⟩
    intro g3 e_2
    have I_3 : zk_I g3 := by rw [e_2]; exact zk_upd (L := (-2147483648)) (H := 2147483647) rfl rfl I ⟨by omega, by omega⟩
    have F_4 : zk_fr fr_World_addSitter g g3 := by rw [e_2]; exact zk_fu (zk_f0 _) (Or.inl rfl)
    intro g4 e_5
    have I_6 : zk_I g4 := by rw [e_5]; exact zk_upd (L := (-1)) (H := 9) rfl rfl I_3 ⟨by omega, by omega⟩
    have F_7 : zk_fr fr_World_addSitter g g4 := by rw [e_5]; exact zk_fu F_4 (Or.inr (Or.inl rfl))
    intro g5 e_8
    have I_9 : zk_I g5 := by rw [e_8]; exact zk_upd (L := 0) (H := 8) rfl rfl I_6 ⟨by omega, by omega⟩
    have F_10 : zk_fr fr_World_addSitter g g5 := by rw [e_8]; exact zk_fu F_7 (Or.inr (Or.inr ⟨rfl, rfl⟩))
    exact hQ _ _ I_9 F_10 ⟨by omega, by omega⟩
  · exact hQ _ _ I (zk_f0 _) ⟨by omega, by omega⟩
-- SpoutNews.sitter(I)I
def fr_S_sitter (a : Nat) (i : Int) : Prop := a = 10 ∨ a = 11 ∨ (a = 2 ∧ i = 11) ∨ (a = 91 ∧ i = 1)
set_option maxRecDepth 100000 in
set_option maxHeartbeats 400000 in
theorem k_S_sitter {l1 : Int} {g : zi_M} {Q : Int → zi_M → Prop} (I : zk_I g) (p1 : (-2147483648) ≤ l1 ∧ l1 ≤ 2147483647) (hQ : ∀ (v : Int) (g' : zi_M), zk_I g' → zk_fr fr_S_sitter g g' → ((-1) ≤ v ∧ v ≤ 7) → Q v g') : w_S_sitter l1 g Q := by
  unfold w_S_sitter
  refine k_S_isWordSet I ⟨by omega, by omega⟩ (fun v1 b_1 b_2 b_3 => ?_)
  refine ⟨fun c12 => ?_, fun c12 => ?_⟩
  · exact hQ _ _ I (zk_f0 _) ⟨by omega, by omega⟩
  · have m_4 : 0 ≤ (g 2 11) ∧ (g 2 11) ≤ 8 := I 2 11
    refine ⟨⟨by omega, by omega⟩, ?_⟩
    refine ⟨fun c11 => ?_, fun c11 => ?_⟩
    · refine k_Past_forget I (fun g6 I_5 F_6 => ?_)
      have F_7 : zk_fr fr_S_sitter g g6 := zk_ft (zk_f0 _) F_6 (fun a i => (fun h => (Or.inr (Or.inr (Or.inr h)))))
      refine k_World_addSitter I_5 ⟨by omega, by omega⟩ (fun v8 g9 I_9 F_10 b_8 => ?_)
      have F_11 : zk_fr fr_S_sitter g g9 := zk_ft F_7 F_10 (fun a i => (fun h => Or.elim h (fun h => (Or.inl h)) (fun h => Or.elim h (fun h => (Or.inr (Or.inl h))) (fun h => (Or.inr (Or.inr (Or.inl h)))))))
      exact hQ _ _ I_9 F_11 ⟨by omega, by omega⟩
    · exact hQ _ _ I (zk_f0 _) ⟨by omega, by omega⟩
-- SpoutNewsModel.sitter(I)I
def fr_M_sitter (a : Nat) (i : Int) : Prop := a = 215 ∨ (a = 214 ∧ i = 0) ∨ (a = 214 ∧ i = 3) ∨ (a = 214 ∧ i = 7)
set_option maxRecDepth 100000 in
set_option maxHeartbeats 400000 in
theorem k_M_sitter {l1 : Int} {g : zi_M} {Q : Int → zi_M → Prop} (I : zk_I g) (p1 : (-2147483648) ≤ l1 ∧ l1 ≤ 2147483647) (hQ : ∀ (v : Int) (g' : zi_M), zk_I g' → zk_fr fr_M_sitter g g' → ((-1) ≤ v ∧ v ≤ 7) → Q v g') : w_M_sitter l1 g Q := by
  unfold w_M_sitter
  intro g1 e_1
  have I_2 : zk_I g1 := by rw [e_1]; exact zk_upd (L := (-2147483648)) (H := 2147483647) rfl rfl I ⟨by omega, by omega⟩
  have F_3 : zk_fr fr_M_sitter g g1 := by rw [e_1]; exact zk_fu (zk_f0 _) (Or.inr (Or.inl ⟨rfl, rfl⟩))
  refine k_M_isIn I_2 ⟨by omega, by omega⟩ ⟨by omega, by omega⟩ ⟨by omega, by omega⟩ (fun v2 b_4 b_5 b_6 => ?_)
  refine ⟨fun c13 => ?_, fun c13 => ?_⟩
  · exact hQ _ _ I_2 F_3 ⟨by omega, by omega⟩
  · have m_7 : 0 ≤ (g1 214 7) ∧ (g1 214 7) ≤ 8 := I_2 214 7
    have m_8 : g1 214 7 = g 214 7 := by rw [e_1]; exact zi_u_ni (by decide)
    have m_9 : 0 ≤ (g 214 7) ∧ (g 214 7) ≤ 8 := I 214 7
    refine ⟨⟨by omega, by omega⟩, ?_⟩
    refine ⟨fun c12 => ?_, fun c12 => ?_⟩
    · refine ⟨⟨by omega, by omega⟩, ?_⟩
      intro g7 e_10
      have I_11 : zk_I g7 := by rw [e_10]; exact zk_upd (zk_nl236 (i := 236 + (g1 214 7)) (by omega)).1 (zk_nl236 (i := 236 + (g1 214 7)) (by omega)).2 I_2 ⟨by omega, by omega⟩
      have F_12 : zk_fr fr_M_sitter g g7 := by rw [e_10]; exact zk_fu F_3 (Or.inl rfl)
      have m_16 : 0 ≤ (g7 214 7) ∧ (g7 214 7) ≤ 8 := I_11 214 7
      have m_17 : g7 214 7 = g1 214 7 := by rw [e_10]; exact zi_u_ne (by decide)
      refine ⟨⟨by omega, by omega⟩, ?_⟩
      intro g9 e_13
      have I_14 : zk_I g9 := by rw [e_13]; exact zk_upd (zk_nl244 (i := 244 + (g7 214 7)) (by omega)).1 (zk_nl244 (i := 244 + (g7 214 7)) (by omega)).2 I_11 ⟨by omega, by omega⟩
      have F_15 : zk_fr fr_M_sitter g g9 := by rw [e_13]; exact zk_fu F_12 (Or.inl rfl)
      have m_21 : 0 ≤ (g9 214 7) ∧ (g9 214 7) ≤ 8 := I_14 214 7
      have m_22 : g9 214 7 = g7 214 7 := by rw [e_13]; exact zi_u_ne (by decide)
      intro g10 e_18
      have I_19 : zk_I g10 := by rw [e_18]; exact zk_upd (L := 0) (H := 8) rfl rfl I_14 ⟨by omega, by omega⟩
      have F_20 : zk_fr fr_M_sitter g g10 := by rw [e_18]; exact zk_fu F_15 (Or.inr (Or.inr (Or.inr ⟨rfl, rfl⟩)))
      intro g11 e_23
      have I_24 : zk_I g11 := by rw [e_23]; exact zk_upd (L := 0) (H := 6) rfl rfl I_19 ⟨by omega, by omega⟩
      have F_25 : zk_fr fr_M_sitter g g11 := by rw [e_23]; exact zk_fu F_20 (Or.inr (Or.inr (Or.inl ⟨rfl, rfl⟩)))
      have m_26 : 0 ≤ (g11 214 7) ∧ (g11 214 7) ≤ 8 := I_24 214 7
      have m_27 : g11 214 7 = g10 214 7 := by rw [e_23]; exact zi_u_ni (by decide)
      have m_28 : 0 ≤ (g10 214 7) ∧ (g10 214 7) ≤ 8 := I_19 214 7
      have m_29 : g10 214 7 = (g9 214 7) + 1 := by rw [e_18]; exact zi_u_eq
      exact hQ _ _ I_24 F_25 ⟨by omega, by omega⟩
    · exact hQ _ _ I_2 F_3 ⟨by omega, by omega⟩
-- SpoutNews$World.isSpout(I)Z
set_option maxRecDepth 100000 in
set_option maxHeartbeats 400000 in
theorem k_World_isSpout {r0 : Nat} (hr0 : zs_sh r0 = some (10, 20)) {l1 : Int} {g : zi_M} {Q : Int → zi_M → Prop} (I : zk_I g) (p1 : (-2147483648) ≤ l1 ∧ l1 ≤ 2147483647) (hQ : ∀ v : Int, (l1 < 0 → v = 0) → (0 ≤ l1 → (g r0 8) ≤ l1 → v = 0) → (0 ≤ l1 → l1 < (g r0 8) → v = 1) → Q v g) : w_World_isSpout r0 l1 g Q := by
  unfold w_World_isSpout
  refine ⟨⟨by omega, by omega⟩, ?_⟩
  refine ⟨fun c4 => ?_, fun c4 => ?_⟩
  · have m_1 := zk_c10_8 hr0 I
    exact hQ _ (by intros; omega) (by intros; omega) (by intros; omega)
  · have m_2 := zk_c10_8 hr0 I
    refine ⟨⟨by omega, by omega⟩, ?_⟩
    refine ⟨fun c3 => ?_, fun c3 => ?_⟩
    · exact hQ _ (by intros; omega) (by intros; omega) (by intros; omega)
    · exact hQ _ (by intros; omega) (by intros; omega) (by intros; omega)
-- SpoutNews$World.isSitter(I)Z
set_option maxRecDepth 100000 in
set_option maxHeartbeats 400000 in
theorem k_World_isSitter {l1 : Int} {g : zi_M} {Q : Int → zi_M → Prop} (I : zk_I g) (p1 : (-2147483648) ≤ l1 ∧ l1 ≤ 2147483647) (hQ : ∀ v : Int, (l1 < 0 → v = 0) → (0 ≤ l1 → (g 2 11) ≤ l1 → v = 0) → (0 ≤ l1 → l1 < (g 2 11) → v = 1) → Q v g) : w_World_isSitter l1 g Q := by
  unfold w_World_isSitter
  refine ⟨⟨by omega, by omega⟩, ?_⟩
  refine ⟨fun c4 => ?_, fun c4 => ?_⟩
  · have m_1 : 0 ≤ (g 2 11) ∧ (g 2 11) ≤ 8 := I 2 11
    exact hQ _ (by intros; omega) (by intros; omega) (by intros; omega)
  · have m_2 : 0 ≤ (g 2 11) ∧ (g 2 11) ≤ 8 := I 2 11
    refine ⟨⟨by omega, by omega⟩, ?_⟩
    refine ⟨fun c3 => ?_, fun c3 => ?_⟩
    · exact hQ _ (by intros; omega) (by intros; omega) (by intros; omega)
    · exact hQ _ (by intros; omega) (by intros; omega) (by intros; omega)
-- SpoutNews.set(III)Z
def fr_S_set (a : Nat) (i : Int) : Prop := a = 10 ∨ a = 5 ∨ a = 7 ∨ (a = 2 ∧ i = 14) ∨ (a = 91 ∧ i = 1)
set_option maxRecDepth 100000 in
set_option maxHeartbeats 400000 in
theorem k_S_set_b163 {l1 : Int} {l2 : Int} {l3 : Int} {l5 : Int} {Q : Int → zi_M → Prop} {g : zi_M} {g0 : zi_M} (I : zk_I g) (F : zk_fr fr_S_set g0 g) (p1 : (-2147483648) ≤ l1 ∧ l1 ≤ 2147483647) (p2 : (-2147483648) ≤ l2 ∧ l2 ≤ 2147483647) (p3 : (-2147483648) ≤ l3 ∧ l3 ≤ 2147483647) (p5 : 0 ≤ l5 ∧ l5 ≤ 1) (ix0 : ¬ l5 = 0 ∧ (l1 = 0) → 0 ≤ l3 ∧ l3 ≤ 9) (ix1 : ¬ l5 = 0 ∧ (l1 = 1) → 0 ≤ l2 ∧ l2 ≤ 9 ∧ 0 ≤ l3 ∧ l3 ≤ 99) (ix2 : ¬ l5 = 0 ∧ (l1 = 2) → 0 ≤ l2 ∧ l2 ≤ 9 ∧ 0 ≤ l3 ∧ l3 ≤ 999) (ix3 : ¬ l5 = 0 ∧ (l1 < 0 ∨ 2 < l1) → 0 ≤ l2 ∧ l2 ≤ 7 ∧ 0 ≤ l3 ∧ l3 ≤ 65535) (hQ : ∀ (v : Int) (g' : zi_M), zk_I g' → zk_fr fr_S_set g0 g' → (0 ≤ v ∧ v ≤ 1) → Q v g') : w_S_set_b163 l1 l2 l3 l5 g Q := by
  unfold w_S_set_b163
  refine ⟨⟨by omega, by omega⟩, ?_⟩
  refine ⟨fun c17 => ?_, fun c17 => ?_⟩
  · refine k_Past_forget I (fun g6 I_1 F_2 => ?_)
    have F_3 : zk_fr fr_S_set g0 g6 := zk_ft F F_2 (fun a i => (fun h => (Or.inr (Or.inr (Or.inr (Or.inr h))))))
    refine ⟨⟨by omega, by omega⟩, ?_⟩
    refine ⟨fun c9 => ?_, fun c9 => ?_, fun c9 => ?_, fun c9 => ?_⟩
    · refine ⟨⟨by omega, by omega⟩, ?_⟩
      intro g11 e_4
      have I_5 : zk_I g11 := by rw [e_4]; exact zk_upd (L := (-2147483648)) (H := 2147483647) rfl rfl I_1 ⟨by omega, by omega⟩
      have F_6 : zk_fr fr_S_set g0 g11 := by rw [e_4]; exact zk_fu F_3 (Or.inl rfl)
      exact hQ _ _ I_5 F_6 ⟨by omega, by omega⟩
    · intro g12 e_7
      have I_8 : zk_I g12 := by rw [e_7]; exact zk_upd (L := 0) (H := 9) rfl rfl I_1 ⟨by omega, by omega⟩
      have F_9 : zk_fr fr_S_set g0 g12 := by rw [e_7]; exact zk_fu F_3 (Or.inr (Or.inr (Or.inr (Or.inl ⟨rfl, rfl⟩))))
      exact hQ _ _ I_8 F_9 ⟨by omega, by omega⟩
    · refine ⟨⟨by omega, by omega⟩, ?_⟩
      intro g14 e_10
      have I_11 : zk_I g14 := by rw [e_10]; exact zk_upd (L := 0) (H := 99) rfl rfl I_1 ⟨by omega, by omega⟩
      have F_12 : zk_fr fr_S_set g0 g14 := by rw [e_10]; exact zk_fu F_3 (Or.inr (Or.inl rfl))
      exact hQ _ _ I_11 F_12 ⟨by omega, by omega⟩
    · refine ⟨⟨by omega, by omega⟩, ?_⟩
      intro g16 e_13
      have I_14 : zk_I g16 := by rw [e_13]; exact zk_upd (L := 0) (H := 999) rfl rfl I_1 ⟨by omega, by omega⟩
      have F_15 : zk_fr fr_S_set g0 g16 := by rw [e_13]; exact zk_fu F_3 (Or.inr (Or.inr (Or.inl rfl)))
      exact hQ _ _ I_14 F_15 ⟨by omega, by omega⟩
  · exact hQ _ _ I F ⟨by omega, by omega⟩
set_option maxRecDepth 100000 in
set_option maxHeartbeats 400000 in
theorem k_S_set_b18 {l1 : Int} {l2 : Int} {l3 : Int} {s0 : Int} {Q : Int → zi_M → Prop} {g : zi_M} {g0 : zi_M} (I : zk_I g) (F : zk_fr fr_S_set g0 g) (p1 : (-2147483648) ≤ l1 ∧ l1 ≤ 2147483647) (p2 : (-2147483648) ≤ l2 ∧ l2 ≤ 2147483647) (p3 : (-2147483648) ≤ l3 ∧ l3 ≤ 2147483647) (ix0 : ¬ s0 = 0 → 0 ≤ l3) (ps0 : 0 ≤ s0 ∧ s0 ≤ 1) (hQ : ∀ (v : Int) (g' : zi_M), zk_I g' → zk_fr fr_S_set g0 g' → (0 ≤ v ∧ v ≤ 1) → Q v g') : w_S_set_b18 l1 l2 l3 s0 g Q := by
  unfold w_S_set_b18
  refine ⟨⟨by omega, by omega⟩, ?_⟩
  refine ⟨fun c3 => ?_, fun c3 => ?_, fun c3 => ?_, fun c3 => ?_, fun c3 => ?_⟩
  · exact k_S_set_b163 I F ⟨by omega, by omega⟩ ⟨by omega, by omega⟩ ⟨by omega, by omega⟩ ⟨by omega, by omega⟩ (by omega) (by omega) (by omega) (by omega) hQ
  · refine ⟨⟨by omega, by omega⟩, ?_⟩
    refine ⟨fun c21 => ?_, fun c21 => ?_⟩
    · exact k_S_set_b163 I F ⟨by omega, by omega⟩ ⟨by omega, by omega⟩ ⟨by omega, by omega⟩ ⟨by omega, by omega⟩ (by omega) (by omega) (by omega) (by omega) hQ
    · refine ⟨⟨by omega, by omega⟩, ?_⟩
      refine ⟨fun c20 => ?_, fun c20 => ?_⟩
      · exact k_S_set_b163 I F ⟨by omega, by omega⟩ ⟨by omega, by omega⟩ ⟨by omega, by omega⟩ ⟨by omega, by omega⟩ (by omega) (by omega) (by omega) (by omega) hQ
      · exact k_S_set_b163 I F ⟨by omega, by omega⟩ ⟨by omega, by omega⟩ ⟨by omega, by omega⟩ ⟨by omega, by omega⟩ (by omega) (by omega) (by omega) (by omega) hQ
  · refine ⟨⟨by omega, by omega⟩, ?_⟩
    refine ⟨fun c29 => ?_, fun c29 => ?_⟩
    · exact k_S_set_b163 I F ⟨by omega, by omega⟩ ⟨by omega, by omega⟩ ⟨by omega, by omega⟩ ⟨by omega, by omega⟩ (by omega) (by omega) (by omega) (by omega) hQ
    · have m_19 : 0 ≤ (g 2 8) ∧ (g 2 8) ≤ 10 := I 2 8
      refine k_World_isSpout rfl I ⟨by omega, by omega⟩ (fun v23 b_16 b_17 b_18 => ?_)
      refine ⟨fun c28 => ?_, fun c28 => ?_⟩
      · exact k_S_set_b163 I F ⟨by omega, by omega⟩ ⟨by omega, by omega⟩ ⟨by omega, by omega⟩ ⟨by omega, by omega⟩ (by omega) (by omega) (by omega) (by omega) hQ
      · refine ⟨⟨by omega, by omega⟩, ?_⟩
        refine ⟨fun c27 => ?_, fun c27 => ?_⟩
        · exact k_S_set_b163 I F ⟨by omega, by omega⟩ ⟨by omega, by omega⟩ ⟨by omega, by omega⟩ ⟨by omega, by omega⟩ (by omega) (by omega) (by omega) (by omega) hQ
        · exact k_S_set_b163 I F ⟨by omega, by omega⟩ ⟨by omega, by omega⟩ ⟨by omega, by omega⟩ ⟨by omega, by omega⟩ (by omega) (by omega) (by omega) (by omega) hQ
  · refine ⟨⟨by omega, by omega⟩, ?_⟩
    refine ⟨fun c37 => ?_, fun c37 => ?_⟩
    · exact k_S_set_b163 I F ⟨by omega, by omega⟩ ⟨by omega, by omega⟩ ⟨by omega, by omega⟩ ⟨by omega, by omega⟩ (by omega) (by omega) (by omega) (by omega) hQ
    · have m_23 : 0 ≤ (g 2 8) ∧ (g 2 8) ≤ 10 := I 2 8
      refine k_World_isSpout rfl I ⟨by omega, by omega⟩ (fun v31 b_20 b_21 b_22 => ?_)
      refine ⟨fun c36 => ?_, fun c36 => ?_⟩
      · exact k_S_set_b163 I F ⟨by omega, by omega⟩ ⟨by omega, by omega⟩ ⟨by omega, by omega⟩ ⟨by omega, by omega⟩ (by omega) (by omega) (by omega) (by omega) hQ
      · refine ⟨⟨by omega, by omega⟩, ?_⟩
        refine ⟨fun c35 => ?_, fun c35 => ?_⟩
        · exact k_S_set_b163 I F ⟨by omega, by omega⟩ ⟨by omega, by omega⟩ ⟨by omega, by omega⟩ ⟨by omega, by omega⟩ (by omega) (by omega) (by omega) (by omega) hQ
        · exact k_S_set_b163 I F ⟨by omega, by omega⟩ ⟨by omega, by omega⟩ ⟨by omega, by omega⟩ ⟨by omega, by omega⟩ (by omega) (by omega) (by omega) (by omega) hQ
  · have m_27 : 0 ≤ (g 2 11) ∧ (g 2 11) ≤ 8 := I 2 11
    refine k_World_isSitter I ⟨by omega, by omega⟩ (fun v38 b_24 b_25 b_26 => ?_)
    refine ⟨fun c45 => ?_, fun c45 => ?_⟩
    · exact k_S_set_b163 I F ⟨by omega, by omega⟩ ⟨by omega, by omega⟩ ⟨by omega, by omega⟩ ⟨by omega, by omega⟩ (by omega) (by omega) (by omega) (by omega) hQ
    · refine k_S_isWordSet I ⟨by omega, by omega⟩ (fun v41 b_28 b_29 b_30 => ?_)
      refine ⟨fun c44 => ?_, fun c44 => ?_⟩
      · exact k_S_set_b163 I F ⟨by omega, by omega⟩ ⟨by omega, by omega⟩ ⟨by omega, by omega⟩ ⟨by omega, by omega⟩ (by omega) (by omega) (by omega) (by omega) hQ
      · exact k_S_set_b163 I F ⟨by omega, by omega⟩ ⟨by omega, by omega⟩ ⟨by omega, by omega⟩ ⟨by omega, by omega⟩ (by omega) (by omega) (by omega) (by omega) hQ
set_option maxRecDepth 100000 in
set_option maxHeartbeats 400000 in
theorem k_S_set {l1 : Int} {l2 : Int} {l3 : Int} {g : zi_M} {Q : Int → zi_M → Prop} (I : zk_I g) (p1 : (-2147483648) ≤ l1 ∧ l1 ≤ 2147483647) (p2 : (-2147483648) ≤ l2 ∧ l2 ≤ 2147483647) (p3 : (-2147483648) ≤ l3 ∧ l3 ≤ 2147483647) (hQ : ∀ (v : Int) (g' : zi_M), zk_I g' → zk_fr fr_S_set g g' → (0 ≤ v ∧ v ≤ 1) → Q v g') : w_S_set l1 l2 l3 g Q := by
  unfold w_S_set
  refine ⟨⟨by omega, by omega⟩, ?_⟩
  refine ⟨fun c46 => ?_, fun c46 => ?_⟩
  · exact k_S_set_b18 I (zk_f0 _) ⟨by omega, by omega⟩ ⟨by omega, by omega⟩ ⟨by omega, by omega⟩ (by omega) ⟨by omega, by omega⟩ hQ
  · exact k_S_set_b18 I (zk_f0 _) ⟨by omega, by omega⟩ ⟨by omega, by omega⟩ ⟨by omega, by omega⟩ (by omega) ⟨by omega, by omega⟩ hQ
