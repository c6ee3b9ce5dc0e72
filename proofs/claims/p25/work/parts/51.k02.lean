-- by program (wip/gen/mkz.py)
-- SpoutNews.sitter(I)I
set_option maxRecDepth 100000 in
set_option maxHeartbeats 4000000 in
theorem k_S_sitter {l1 : Int} {g : zi_M} {Q : Int → zi_M → Prop} (I : zk_I g) (p1 : (-2147483648) ≤ l1 ∧ l1 ≤ 2147483647) (hQ : ∀ (v : Int) (g' : zi_M), zk_I g' → zk_fr fr_S_sitter g g' → ((-1) ≤ v ∧ v ≤ 7) → (0 ≤ l1 ∧ l1 ≤ 65535 ∧ g 2 11 < 8 → v = g 2 11 ∧ g' 2 11 = g 2 11 + 1) → (¬ (0 ≤ l1 ∧ l1 ≤ 65535 ∧ g 2 11 < 8) → v = -1 ∧ g' 2 11 = g 2 11) → (¬ v = -1 → g' 91 1 = 0) → (v = -1 → g' = g) → (∀ k : Int, 0 ≤ k ∧ k < 8 → (¬ v = -1 ∧ k = g 2 11 → g' 10 k = l1) ∧ (¬ (¬ v = -1 ∧ k = g 2 11) → g' 10 k = g 10 k)) → (∀ k : Int, 0 ≤ k ∧ k < 8 → (¬ v = -1 ∧ k = g 2 11 → g' 11 k = (-1)) ∧ (¬ (¬ v = -1 ∧ k = g 2 11) → g' 11 k = g 11 k)) → Q v g') : w_S_sitter l1 g Q := by
  unfold w_S_sitter
  refine k_S_isWordSet I ⟨by omega, by omega⟩ (fun v1 b_1 b_2 b_3 => ?_)
  refine ⟨fun c12 => ?_, fun c12 => ?_⟩
  · have m_4 : 0 ≤ (g 2 11) ∧ (g 2 11) ≤ 8 := I.1 2 11
    have m_5 : 0 ≤ (g 91 1) ∧ (g 91 1) ≤ 6 := I.1 91 1
    have z_7 : ∀ k : Int, 0 ≤ k ∧ k < 8 → (¬ ((-1) : Int) = -1 ∧ k = g 2 11 → g 10 k = l1) ∧ (¬ (¬ ((-1) : Int) = -1 ∧ k = g 2 11) → g 10 k = g 10 k) := by
      intro k hk
      have m_6 : (-2147483648) ≤ (g 10 k) ∧ (g 10 k) ≤ 2147483647 := I.1 10 k
      omega
    have z_9 : ∀ k : Int, 0 ≤ k ∧ k < 8 → (¬ ((-1) : Int) = -1 ∧ k = g 2 11 → g 11 k = (-1)) ∧ (¬ (¬ ((-1) : Int) = -1 ∧ k = g 2 11) → g 11 k = g 11 k) := by
      intro k hk
      have m_8 : (-1) ≤ (g 11 k) ∧ (g 11 k) ≤ 9 := I.1 11 k
      omega
    exact hQ _ _ I (zk_f0 _) ⟨by omega, by omega⟩ (by omega) (by omega) (by omega) (by intro hv; first | rfl | assumption | (exfalso; omega)) z_7 z_9
  · have m_10 : 0 ≤ (g 2 11) ∧ (g 2 11) ≤ 8 := I.1 2 11
    refine ⟨⟨by omega, by omega⟩, ?_⟩
    refine ⟨fun c11 => ?_, fun c11 => ?_⟩
    · refine k_Past_forget I (fun g6 I_12 F_13 b_11 => ?_)
      have F_14 : zk_fr fr_S_sitter g g6 := zk_ft (zk_f0 _) F_13 (fun a i => (fun h => (Or.inr (Or.inr (Or.inr h)))))
      have m_15 : 0 ≤ (g6 2 11) ∧ (g6 2 11) ≤ 8 := I_12.1 2 11
      have m_16 : g6 2 11 = g 2 11 := F_13 _ _ (by unfold fr_Past_forget; omega)
      refine k_World_addSitter I_12 ⟨by omega, by omega⟩ (fun v8 g9 I_21 F_22 b_17 b_18 b_19 b_20 => ?_)
      have F_23 : zk_fr fr_S_sitter g g9 := zk_ft F_14 F_22 (fun a i => (fun h => Or.elim h (fun h => (Or.inl h)) (fun h => Or.elim h (fun h => (Or.inr (Or.inl h))) (fun h => (Or.inr (Or.inr (Or.inl h)))))))
      have m_24 : 0 ≤ (g9 2 11) ∧ (g9 2 11) ≤ 8 := I_21.1 2 11
      have m_25 : 0 ≤ (g9 91 1) ∧ (g9 91 1) ≤ 6 := I_21.1 91 1
      have m_26 : g9 91 1 = g6 91 1 := F_22 _ _ (by unfold fr_World_addSitter; omega)
      have m_27 : 0 ≤ (g6 91 1) ∧ (g6 91 1) ≤ 6 := I_12.1 91 1
      have z_33 : ∀ k : Int, 0 ≤ k ∧ k < 8 → (¬ (v8 : Int) = -1 ∧ k = g 2 11 → g9 10 k = l1) ∧ (¬ (¬ (v8 : Int) = -1 ∧ k = g 2 11) → g9 10 k = g 10 k) := by
        intro k hk
        have m_28 : (-2147483648) ≤ (g9 10 k) ∧ (g9 10 k) ≤ 2147483647 := I_21.1 10 k
        have m_29 := b_19 k hk
        have m_30 : (-2147483648) ≤ (g6 10 k) ∧ (g6 10 k) ≤ 2147483647 := I_12.1 10 k
        have m_31 : g6 10 k = g 10 k := F_13 _ _ (by unfold fr_Past_forget; omega)
        have m_32 : (-2147483648) ≤ (g 10 k) ∧ (g 10 k) ≤ 2147483647 := I.1 10 k
        omega
      have z_39 : ∀ k : Int, 0 ≤ k ∧ k < 8 → (¬ (v8 : Int) = -1 ∧ k = g 2 11 → g9 11 k = (-1)) ∧ (¬ (¬ (v8 : Int) = -1 ∧ k = g 2 11) → g9 11 k = g 11 k) := by
        intro k hk
        have m_34 : (-1) ≤ (g9 11 k) ∧ (g9 11 k) ≤ 9 := I_21.1 11 k
        have m_35 := b_20 k hk
        have m_36 : (-1) ≤ (g6 11 k) ∧ (g6 11 k) ≤ 9 := I_12.1 11 k
        have m_37 : g6 11 k = g 11 k := F_13 _ _ (by unfold fr_Past_forget; omega)
        have m_38 : (-1) ≤ (g 11 k) ∧ (g 11 k) ≤ 9 := I.1 11 k
        omega
      exact hQ _ _ I_21 F_23 ⟨by omega, by omega⟩ (by omega) (by omega) (by omega) (by intro hv; first | rfl | assumption | (exfalso; omega)) z_33 z_39
    · have m_40 : 0 ≤ (g 91 1) ∧ (g 91 1) ≤ 6 := I.1 91 1
      have z_42 : ∀ k : Int, 0 ≤ k ∧ k < 8 → (¬ ((-1) : Int) = -1 ∧ k = g 2 11 → g 10 k = l1) ∧ (¬ (¬ ((-1) : Int) = -1 ∧ k = g 2 11) → g 10 k = g 10 k) := by
        intro k hk
        have m_41 : (-2147483648) ≤ (g 10 k) ∧ (g 10 k) ≤ 2147483647 := I.1 10 k
        omega
      have z_44 : ∀ k : Int, 0 ≤ k ∧ k < 8 → (¬ ((-1) : Int) = -1 ∧ k = g 2 11 → g 11 k = (-1)) ∧ (¬ (¬ ((-1) : Int) = -1 ∧ k = g 2 11) → g 11 k = g 11 k) := by
        intro k hk
        have m_43 : (-1) ≤ (g 11 k) ∧ (g 11 k) ≤ 9 := I.1 11 k
        omega
      exact hQ _ _ I (zk_f0 _) ⟨by omega, by omega⟩ (by omega) (by omega) (by omega) (by intro hv; first | rfl | assumption | (exfalso; omega)) z_42 z_44
-- SpoutNewsModel.sitter(I)I
set_option maxRecDepth 100000 in
set_option maxHeartbeats 4000000 in
theorem k_M_sitter {l1 : Int} {g : zi_M} {Q : Int → zi_M → Prop} (I : zk_I g) (p1 : (-2147483648) ≤ l1 ∧ l1 ≤ 2147483647) (hQ : ∀ (v : Int) (g' : zi_M), zk_I g' → zk_fr fr_M_sitter g g' → ((-1) ≤ v ∧ v ≤ 7) → (0 ≤ l1 ∧ l1 ≤ 65535 ∧ g 214 7 < 8 → v = g 214 7 ∧ g' 214 7 = g 214 7 + 1) → (¬ (0 ≤ l1 ∧ l1 ≤ 65535 ∧ g 214 7 < 8) → v = -1 ∧ g' 214 7 = g 214 7) → (∀ k : Int, 0 ≤ k ∧ k < 264 → (¬ v = -1 ∧ k = 236 + g 214 7 → g' 215 k = l1) ∧ (¬ v = -1 ∧ k = 244 + g 214 7 → g' 215 k = 0) ∧ (¬ (¬ v = -1 ∧ (k = 236 + g 214 7 ∨ k = 244 + g 214 7)) → g' 215 k = g 215 k)) → (¬ v = -1 → g' 214 3 = 0) → (v = -1 → g' 214 3 = g 214 3) → Q v g') : w_M_sitter l1 g Q := by
  unfold w_M_sitter
  intro g1 e_1
  have I_2 : zk_I g1 := by rw [e_1]; exact zk_upd (L := (-2147483648)) (H := 2147483647) rfl rfl I ⟨by omega, by omega⟩
  have F_3 : zk_fr fr_M_sitter g g1 := by rw [e_1]; exact zk_fu (zk_f0 _) (Or.inl ⟨rfl, rfl⟩)
  refine k_M_isIn I_2 ⟨by omega, by omega⟩ ⟨by omega, by omega⟩ ⟨by omega, by omega⟩ (fun v2 b_4 b_5 b_6 => ?_)
  refine ⟨fun c13 => ?_, fun c13 => ?_⟩
  · have m_7 : 0 ≤ (g1 214 7) ∧ (g1 214 7) ≤ 8 := I_2.1 214 7
    have m_8 : g1 214 7 = g 214 7 := by rw [e_1]; exact zi_u_ni (by decide)
    have m_9 : 0 ≤ (g 214 7) ∧ (g 214 7) ≤ 8 := I.1 214 7
    have z_13 : ∀ k : Int, 0 ≤ k ∧ k < 264 → (¬ ((-1) : Int) = -1 ∧ k = 236 + g 214 7 → g1 215 k = l1) ∧ (¬ ((-1) : Int) = -1 ∧ k = 244 + g 214 7 → g1 215 k = 0) ∧ (¬ (¬ ((-1) : Int) = -1 ∧ (k = 236 + g 214 7 ∨ k = 244 + g 214 7)) → g1 215 k = g 215 k) := by
      intro k hk
      have m_10 := zk_rng I_2 215 k
      have m_11 : g1 215 k = g 215 k := by rw [e_1]; exact zi_u_ne (by decide)
      have m_12 := zk_rng I 215 k
      omega
    have m_14 : 0 ≤ (g1 214 3) ∧ (g1 214 3) ≤ 6 := I_2.1 214 3
    have m_15 : g1 214 3 = g 214 3 := by rw [e_1]; exact zi_u_ni (by decide)
    have m_16 : 0 ≤ (g 214 3) ∧ (g 214 3) ≤ 6 := I.1 214 3
    exact hQ _ _ I_2 F_3 ⟨by omega, by omega⟩ (by omega) (by omega) z_13 (by omega) (by omega)
  · have m_17 : 0 ≤ (g1 214 7) ∧ (g1 214 7) ≤ 8 := I_2.1 214 7
    have m_18 : g1 214 7 = g 214 7 := by rw [e_1]; exact zi_u_ni (by decide)
    have m_19 : 0 ≤ (g 214 7) ∧ (g 214 7) ≤ 8 := I.1 214 7
    refine ⟨⟨by omega, by omega⟩, ?_⟩
    refine ⟨fun c12 => ?_, fun c12 => ?_⟩
    · refine ⟨⟨by omega, by omega⟩, ?_⟩
      intro g7 e_20
      have I_21 : zk_I g7 := by rw [e_20]; exact zk_upd (zk_nl236 (i := 236 + (g1 214 7)) (by omega)).1 (zk_nl236 (i := 236 + (g1 214 7)) (by omega)).2 I_2 ⟨by omega, by omega⟩
      have F_22 : zk_fr fr_M_sitter g g7 := by rw [e_20]; exact zk_fu F_3 (Or.inr (Or.inr (Or.inr (Or.inl ⟨rfl, by omega, by omega⟩))))
      have m_26 : 0 ≤ (g7 214 7) ∧ (g7 214 7) ≤ 8 := I_21.1 214 7
      have m_27 : g7 214 7 = g1 214 7 := by rw [e_20]; exact zi_u_ne (by decide)
      refine ⟨⟨by omega, by omega⟩, ?_⟩
      intro g9 e_23
      have I_24 : zk_I g9 := by rw [e_23]; exact zk_upd (zk_nl244 (i := 244 + (g7 214 7)) (by omega)).1 (zk_nl244 (i := 244 + (g7 214 7)) (by omega)).2 I_21 ⟨by omega, by omega⟩
      have F_25 : zk_fr fr_M_sitter g g9 := by rw [e_23]; exact zk_fu F_22 (Or.inr (Or.inr (Or.inr (Or.inr ⟨rfl, by omega, by omega⟩))))
      have m_31 : 0 ≤ (g9 214 7) ∧ (g9 214 7) ≤ 8 := I_24.1 214 7
      have m_32 : g9 214 7 = g7 214 7 := by rw [e_23]; exact zi_u_ne (by decide)
      intro g10 e_28
      have I_29 : zk_I g10 := by rw [e_28]; exact zk_upd (L := 0) (H := 8) rfl rfl I_24 ⟨by omega, by omega⟩
      have F_30 : zk_fr fr_M_sitter g g10 := by rw [e_28]; exact zk_fu F_25 (Or.inr (Or.inr (Or.inl ⟨rfl, rfl⟩)))
      intro g11 e_33
      have I_34 : zk_I g11 := by rw [e_33]; exact zk_upd (L := 0) (H := 6) rfl rfl I_29 ⟨by omega, by omega⟩
      have F_35 : zk_fr fr_M_sitter g g11 := by rw [e_33]; exact zk_fu F_30 (Or.inr (Or.inl ⟨rfl, rfl⟩))
      have m_36 : 0 ≤ (g11 214 7) ∧ (g11 214 7) ≤ 8 := I_34.1 214 7
      have m_37 : g11 214 7 = g10 214 7 := by rw [e_33]; exact zi_u_ni (by decide)
      have m_38 : 0 ≤ (g10 214 7) ∧ (g10 214 7) ≤ 8 := I_29.1 214 7
      have m_39 : g10 214 7 = (g9 214 7) + 1 := by rw [e_28]; exact zi_u_eq
      have z_51 : ∀ k : Int, 0 ≤ k ∧ k < 264 → (¬ ((g11 214 7) - 1 : Int) = -1 ∧ k = 236 + g 214 7 → g11 215 k = l1) ∧ (¬ ((g11 214 7) - 1 : Int) = -1 ∧ k = 244 + g 214 7 → g11 215 k = 0) ∧ (¬ (¬ ((g11 214 7) - 1 : Int) = -1 ∧ (k = 236 + g 214 7 ∨ k = 244 + g 214 7)) → g11 215 k = g 215 k) := by
        intro k hk
        have m_40 := zk_rng I_34 215 k
        have m_41 : g11 215 k = g10 215 k := by rw [e_33]; exact zi_u_ne (by decide)
        have m_42 := zk_rng I_29 215 k
        have m_43 : g10 215 k = g9 215 k := by rw [e_28]; exact zi_u_ne (by decide)
        have m_44 := zk_rng I_24 215 k
        have m_45 := zk_rng I_21 215 k
        have m_46 := zk_rng I_2 215 k
        have m_47 : g1 215 k = g 215 k := by rw [e_1]; exact zi_u_ne (by decide)
        have m_48 := zk_rng I 215 k
        have m_49 : (k = 236 + (g1 214 7) → g7 215 k = l1) ∧ (¬ k = 236 + (g1 214 7) → g7 215 k = g1 215 k) := by rw [e_20]; exact zi_u_if
        have m_50 : (k = 244 + (g7 214 7) → g9 215 k = 0) ∧ (¬ k = 244 + (g7 214 7) → g9 215 k = g7 215 k) := by rw [e_23]; exact zi_u_if
        omega
      have m_52 : 0 ≤ (g11 214 3) ∧ (g11 214 3) ≤ 6 := I_34.1 214 3
      have m_53 : g11 214 3 = 0 := by rw [e_33]; exact zi_u_eq
      exact hQ _ _ I_34 F_35 ⟨by omega, by omega⟩ (by omega) (by omega) z_51 (by omega) (by omega)
    · have z_57 : ∀ k : Int, 0 ≤ k ∧ k < 264 → (¬ ((-1) : Int) = -1 ∧ k = 236 + g 214 7 → g1 215 k = l1) ∧ (¬ ((-1) : Int) = -1 ∧ k = 244 + g 214 7 → g1 215 k = 0) ∧ (¬ (¬ ((-1) : Int) = -1 ∧ (k = 236 + g 214 7 ∨ k = 244 + g 214 7)) → g1 215 k = g 215 k) := by
        intro k hk
        have m_54 := zk_rng I_2 215 k
        have m_55 : g1 215 k = g 215 k := by rw [e_1]; exact zi_u_ne (by decide)
        have m_56 := zk_rng I 215 k
        omega
      have m_58 : 0 ≤ (g1 214 3) ∧ (g1 214 3) ≤ 6 := I_2.1 214 3
      have m_59 : g1 214 3 = g 214 3 := by rw [e_1]; exact zi_u_ni (by decide)
      have m_60 : 0 ≤ (g 214 3) ∧ (g 214 3) ≤ 6 := I.1 214 3
      exact hQ _ _ I_2 F_3 ⟨by omega, by omega⟩ (by omega) (by omega) z_57 (by omega) (by omega)
-- SpoutNews$World.isSpout(I)Z
set_option maxRecDepth 100000 in
set_option maxHeartbeats 4000000 in
theorem k_World_isSpout {r0 : Nat} (hr0 : zs_sh r0 = some (10, 20)) {l1 : Int} {g : zi_M} {Q : Int → zi_M → Prop} (I : zk_I g) (p1 : (-2147483648) ≤ l1 ∧ l1 ≤ 2147483647) (hQ : ∀ v : Int, (l1 < 0 → v = 0) → (0 ≤ l1 → (g r0 8) ≤ l1 → v = 0) → (0 ≤ l1 → l1 < (g r0 8) → v = 1) → Q v g) : w_World_isSpout r0 l1 g Q := by
  unfold w_World_isSpout
  refine ⟨⟨by omega, by omega⟩, ?_⟩
  refine ⟨fun c4 => ?_, fun c4 => ?_⟩
  · have m_1 := zk_c10_8 hr0 I
    exact hQ _ (by intros; omega) (by intros; omega) (by intros; omega)
  · have m_2 := zk_c10_8 hr0 I
    refine ⟨⟨by omega, by omega⟩, ?_⟩
    refine ⟨fun c3 => ?_, fun c3 => ?_⟩
    · exact hQ _ (by intros; omega) (by intros; omega) (by intros; omega)
    · exact hQ _ (by intros; omega) (by intros; omega) (by intros; omega)
-- SpoutNews$World.isSitter(I)Z
set_option maxRecDepth 100000 in
set_option maxHeartbeats 4000000 in
theorem k_World_isSitter {l1 : Int} {g : zi_M} {Q : Int → zi_M → Prop} (I : zk_I g) (p1 : (-2147483648) ≤ l1 ∧ l1 ≤ 2147483647) (hQ : ∀ v : Int, (l1 < 0 → v = 0) → (0 ≤ l1 → (g 2 11) ≤ l1 → v = 0) → (0 ≤ l1 → l1 < (g 2 11) → v = 1) → Q v g) : w_World_isSitter l1 g Q := by
  unfold w_World_isSitter
  refine ⟨⟨by omega, by omega⟩, ?_⟩
  refine ⟨fun c4 => ?_, fun c4 => ?_⟩
  · have m_1 : 0 ≤ (g 2 11) ∧ (g 2 11) ≤ 8 := I.1 2 11
    exact hQ _ (by intros; omega) (by intros; omega) (by intros; omega)
  · have m_2 : 0 ≤ (g 2 11) ∧ (g 2 11) ≤ 8 := I.1 2 11
    refine ⟨⟨by omega, by omega⟩, ?_⟩
    refine ⟨fun c3 => ?_, fun c3 => ?_⟩
    · exact hQ _ (by intros; omega) (by intros; omega) (by intros; omega)
    · exact hQ _ (by intros; omega) (by intros; omega) (by intros; omega)
-- SpoutNews.set(III)Z
set_option maxRecDepth 100000 in
set_option maxHeartbeats 4000000 in
theorem k_S_set_b163 {l1 : Int} {l2 : Int} {l3 : Int} {l5 : Int} {Q : Int → zi_M → Prop} {g : zi_M} {g0 : zi_M} (I : zk_I g) (F : zk_fr fr_S_set g0 g) (p1 : (-2147483648) ≤ l1 ∧ l1 ≤ 2147483647) (p2 : (-2147483648) ≤ l2 ∧ l2 ≤ 2147483647) (p3 : (-2147483648) ≤ l3 ∧ l3 ≤ 2147483647) (p5 : 0 ≤ l5 ∧ l5 ≤ 1) (ix0 : ¬ l5 = 0 ∧ (l1 = 0) → 0 ≤ l3 ∧ l3 ≤ 9) (ix1 : ¬ l5 = 0 ∧ (l1 = 1) → 0 ≤ l2 ∧ l2 ≤ 9 ∧ 0 ≤ l3 ∧ l3 ≤ 99) (ix2 : ¬ l5 = 0 ∧ (l1 = 2) → 0 ≤ l2 ∧ l2 ≤ 9 ∧ 0 ≤ l3 ∧ l3 ≤ 999) (ix3 : ¬ l5 = 0 ∧ (l1 < 0 ∨ 2 < l1) → 0 ≤ l2 ∧ l2 ≤ 7 ∧ 0 ≤ l3 ∧ l3 ≤ 65535) (ix4 : ¬ l5 = 0 → zPs (g0 2 8) (g0 2 11) l1 l2 l3) (ix5 : l5 = 0 → ¬ zPs (g0 2 8) (g0 2 11) l1 l2 l3) (ix6 : g = g0) (ix7 : g 2 8 = g0 2 8) (ix8 : g 2 11 = g0 2 11) (ix9 : ∀ k : Int, g 5 k = g0 5 k) (ix10 : ∀ k : Int, g 7 k = g0 7 k) (ix11 : ∀ k : Int, g 10 k = g0 10 k) (ix12 : g 2 14 = g0 2 14) (ix13 : ¬ l5 = 0 → 0 ≤ l1 ∧ l1 ≤ 3) (hQ : ∀ (v : Int) (g' : zi_M), zk_I g' → zk_fr fr_S_set g0 g' → (0 ≤ v ∧ v ≤ 1) → (zPs (g0 2 8) (g0 2 11) l1 l2 l3 → v = 1) → (¬ zPs (g0 2 8) (g0 2 11) l1 l2 l3 → v = 0) → (¬ v = 0 → g' 91 1 = 0) → (v = 0 → g' = g0) → (∀ k : Int, 0 ≤ k ∧ k < 10 → (¬ v = 0 ∧ l1 = 1 ∧ k = l2 → g' 5 k = l3) ∧ (¬ (¬ v = 0 ∧ l1 = 1 ∧ k = l2) → g' 5 k = g0 5 k)) → (∀ k : Int, 0 ≤ k ∧ k < 10 → (¬ v = 0 ∧ l1 = 2 ∧ k = l2 → g' 7 k = l3) ∧ (¬ (¬ v = 0 ∧ l1 = 2 ∧ k = l2) → g' 7 k = g0 7 k)) → (∀ k : Int, 0 ≤ k ∧ k < 8 → (¬ v = 0 ∧ l1 = 3 ∧ k = l2 → g' 10 k = l3) ∧ (¬ (¬ v = 0 ∧ l1 = 3 ∧ k = l2) → g' 10 k = g0 10 k)) → ((¬ v = 0 ∧ l1 = 0 → g' 2 14 = l3) ∧ (¬ (¬ v = 0 ∧ l1 = 0) → g' 2 14 = g0 2 14)) → Q v g') : w_S_set_b163 l1 l2 l3 l5 g Q := by
  unfold w_S_set_b163
  refine ⟨⟨by omega, by omega⟩, ?_⟩
  refine ⟨fun c17 => ?_, fun c17 => ?_⟩
  · refine k_Past_forget I (fun g6 I_2 F_3 b_1 => ?_)
    have F_4 : zk_fr fr_S_set g0 g6 := zk_ft F F_3 (fun a i => (fun h => (Or.inr (Or.inr (Or.inr (Or.inr h))))))
    refine ⟨⟨by omega, by omega⟩, ?_⟩
    refine ⟨fun c9 => ?_, fun c9 => ?_, fun c9 => ?_, fun c9 => ?_⟩
    · refine ⟨⟨by omega, by omega⟩, ?_⟩
      intro g11 e_5
      have I_6 : zk_I g11 := by rw [e_5]; exact zk_upd (L := (-2147483648)) (H := 2147483647) rfl rfl I_2 ⟨by omega, by omega⟩
      have F_7 : zk_fr fr_S_set g0 g11 := by rw [e_5]; exact zk_fu F_4 (Or.inl rfl)
      have m_8 : 0 ≤ (g11 91 1) ∧ (g11 91 1) ≤ 6 := I_6.1 91 1
      have m_9 : g11 91 1 = g6 91 1 := by rw [e_5]; exact zi_u_ne (by decide)
      have m_10 : 0 ≤ (g6 91 1) ∧ (g6 91 1) ≤ 6 := I_2.1 91 1
      have z_17 : ∀ k : Int, 0 ≤ k ∧ k < 10 → (¬ (1 : Int) = 0 ∧ l1 = 1 ∧ k = l2 → g11 5 k = l3) ∧ (¬ (¬ (1 : Int) = 0 ∧ l1 = 1 ∧ k = l2) → g11 5 k = g0 5 k) := by
        intro k hk
        have m_11 : 0 ≤ (g11 5 k) ∧ (g11 5 k) ≤ 99 := I_6.1 5 k
        have m_12 : g11 5 k = g6 5 k := by rw [e_5]; exact zi_u_ne (by decide)
        have m_13 : 0 ≤ (g6 5 k) ∧ (g6 5 k) ≤ 99 := I_2.1 5 k
        have m_14 : g6 5 k = g 5 k := F_3 _ _ (by unfold fr_Past_forget; omega)
        have m_15 : 0 ≤ (g 5 k) ∧ (g 5 k) ≤ 99 := I.1 5 k
        have m_16 := ix9 k
        omega
      have z_24 : ∀ k : Int, 0 ≤ k ∧ k < 10 → (¬ (1 : Int) = 0 ∧ l1 = 2 ∧ k = l2 → g11 7 k = l3) ∧ (¬ (¬ (1 : Int) = 0 ∧ l1 = 2 ∧ k = l2) → g11 7 k = g0 7 k) := by
        intro k hk
        have m_18 : 0 ≤ (g11 7 k) ∧ (g11 7 k) ≤ 999 := I_6.1 7 k
        have m_19 : g11 7 k = g6 7 k := by rw [e_5]; exact zi_u_ne (by decide)
        have m_20 : 0 ≤ (g6 7 k) ∧ (g6 7 k) ≤ 999 := I_2.1 7 k
        have m_21 : g6 7 k = g 7 k := F_3 _ _ (by unfold fr_Past_forget; omega)
        have m_22 : 0 ≤ (g 7 k) ∧ (g 7 k) ≤ 999 := I.1 7 k
        have m_23 := ix10 k
        omega
      have z_31 : ∀ k : Int, 0 ≤ k ∧ k < 8 → (¬ (1 : Int) = 0 ∧ l1 = 3 ∧ k = l2 → g11 10 k = l3) ∧ (¬ (¬ (1 : Int) = 0 ∧ l1 = 3 ∧ k = l2) → g11 10 k = g0 10 k) := by
        intro k hk
        have m_25 : (-2147483648) ≤ (g11 10 k) ∧ (g11 10 k) ≤ 2147483647 := I_6.1 10 k
        have m_26 : (-2147483648) ≤ (g6 10 k) ∧ (g6 10 k) ≤ 2147483647 := I_2.1 10 k
        have m_27 : g6 10 k = g 10 k := F_3 _ _ (by unfold fr_Past_forget; omega)
        have m_28 : (-2147483648) ≤ (g 10 k) ∧ (g 10 k) ≤ 2147483647 := I.1 10 k
        have m_29 : (k = l2 → g11 10 k = l3) ∧ (¬ k = l2 → g11 10 k = g6 10 k) := by rw [e_5]; exact zi_u_if
        have m_30 := ix11 k
        omega
      have m_32 : 0 ≤ (g11 2 14) ∧ (g11 2 14) ≤ 9 := I_6.1 2 14
      have m_33 : g11 2 14 = g6 2 14 := by rw [e_5]; exact zi_u_ne (by decide)
      have m_34 : 0 ≤ (g6 2 14) ∧ (g6 2 14) ≤ 9 := I_2.1 2 14
      have m_35 : g6 2 14 = g 2 14 := F_3 _ _ (by unfold fr_Past_forget; omega)
      have m_36 : 0 ≤ (g 2 14) ∧ (g 2 14) ≤ 9 := I.1 2 14
      exact hQ _ _ I_6 F_7 ⟨by omega, by omega⟩ (by intro hv; first | rfl | exact zPs_n (by assumption) (by omega) hv | exact zPs_y (by assumption) (by omega) hv) (by intro hv; first | rfl | exact zPs_n (by assumption) (by omega) hv | exact zPs_y (by assumption) (by omega) hv) (by omega) (by intro hv; first | rfl | assumption | (exfalso; omega)) z_17 z_24 z_31 (by omega)
    · intro g12 e_37
      have I_38 : zk_I g12 := by rw [e_37]; exact zk_upd (L := 0) (H := 9) rfl rfl I_2 ⟨by omega, by omega⟩
      have F_39 : zk_fr fr_S_set g0 g12 := by rw [e_37]; exact zk_fu F_4 (Or.inr (Or.inr (Or.inr (Or.inl ⟨rfl, rfl⟩))))
      have m_40 : 0 ≤ (g12 91 1) ∧ (g12 91 1) ≤ 6 := I_38.1 91 1
      have m_41 : g12 91 1 = g6 91 1 := by rw [e_37]; exact zi_u_ne (by decide)
      have m_42 : 0 ≤ (g6 91 1) ∧ (g6 91 1) ≤ 6 := I_2.1 91 1
      have z_49 : ∀ k : Int, 0 ≤ k ∧ k < 10 → (¬ (1 : Int) = 0 ∧ l1 = 1 ∧ k = l2 → g12 5 k = l3) ∧ (¬ (¬ (1 : Int) = 0 ∧ l1 = 1 ∧ k = l2) → g12 5 k = g0 5 k) := by
        intro k hk
        have m_43 : 0 ≤ (g12 5 k) ∧ (g12 5 k) ≤ 99 := I_38.1 5 k
        have m_44 : g12 5 k = g6 5 k := by rw [e_37]; exact zi_u_ne (by decide)
        have m_45 : 0 ≤ (g6 5 k) ∧ (g6 5 k) ≤ 99 := I_2.1 5 k
        have m_46 : g6 5 k = g 5 k := F_3 _ _ (by unfold fr_Past_forget; omega)
        have m_47 : 0 ≤ (g 5 k) ∧ (g 5 k) ≤ 99 := I.1 5 k
        have m_48 := ix9 k
        omega
      have z_56 : ∀ k : Int, 0 ≤ k ∧ k < 10 → (¬ (1 : Int) = 0 ∧ l1 = 2 ∧ k = l2 → g12 7 k = l3) ∧ (¬ (¬ (1 : Int) = 0 ∧ l1 = 2 ∧ k = l2) → g12 7 k = g0 7 k) := by
        intro k hk
        have m_50 : 0 ≤ (g12 7 k) ∧ (g12 7 k) ≤ 999 := I_38.1 7 k
        have m_51 : g12 7 k = g6 7 k := by rw [e_37]; exact zi_u_ne (by decide)
        have m_52 : 0 ≤ (g6 7 k) ∧ (g6 7 k) ≤ 999 := I_2.1 7 k
        have m_53 : g6 7 k = g 7 k := F_3 _ _ (by unfold fr_Past_forget; omega)
        have m_54 : 0 ≤ (g 7 k) ∧ (g 7 k) ≤ 999 := I.1 7 k
        have m_55 := ix10 k
        omega
      have z_63 : ∀ k : Int, 0 ≤ k ∧ k < 8 → (¬ (1 : Int) = 0 ∧ l1 = 3 ∧ k = l2 → g12 10 k = l3) ∧ (¬ (¬ (1 : Int) = 0 ∧ l1 = 3 ∧ k = l2) → g12 10 k = g0 10 k) := by
        intro k hk
        have m_57 : (-2147483648) ≤ (g12 10 k) ∧ (g12 10 k) ≤ 2147483647 := I_38.1 10 k
        have m_58 : g12 10 k = g6 10 k := by rw [e_37]; exact zi_u_ne (by decide)
        have m_59 : (-2147483648) ≤ (g6 10 k) ∧ (g6 10 k) ≤ 2147483647 := I_2.1 10 k
        have m_60 : g6 10 k = g 10 k := F_3 _ _ (by unfold fr_Past_forget; omega)
        have m_61 : (-2147483648) ≤ (g 10 k) ∧ (g 10 k) ≤ 2147483647 := I.1 10 k
        have m_62 := ix11 k
        omega
      have m_64 : 0 ≤ (g12 2 14) ∧ (g12 2 14) ≤ 9 := I_38.1 2 14
      have m_65 : g12 2 14 = l3 := by rw [e_37]; exact zi_u_eq
      exact hQ _ _ I_38 F_39 ⟨by omega, by omega⟩ (by intro hv; first | rfl | exact zPs_n (by assumption) (by omega) hv | exact zPs_y (by assumption) (by omega) hv) (by intro hv; first | rfl | exact zPs_n (by assumption) (by omega) hv | exact zPs_y (by assumption) (by omega) hv) (by omega) (by intro hv; first | rfl | assumption | (exfalso; omega)) z_49 z_56 z_63 (by omega)
    · refine ⟨⟨by omega, by omega⟩, ?_⟩
      intro g14 e_66
      have I_67 : zk_I g14 := by rw [e_66]; exact zk_upd (L := 0) (H := 99) rfl rfl I_2 ⟨by omega, by omega⟩
      have F_68 : zk_fr fr_S_set g0 g14 := by rw [e_66]; exact zk_fu F_4 (Or.inr (Or.inl rfl))
      have m_69 : 0 ≤ (g14 91 1) ∧ (g14 91 1) ≤ 6 := I_67.1 91 1
      have m_70 : g14 91 1 = g6 91 1 := by rw [e_66]; exact zi_u_ne (by decide)
      have m_71 : 0 ≤ (g6 91 1) ∧ (g6 91 1) ≤ 6 := I_2.1 91 1
      have z_78 : ∀ k : Int, 0 ≤ k ∧ k < 10 → (¬ (1 : Int) = 0 ∧ l1 = 1 ∧ k = l2 → g14 5 k = l3) ∧ (¬ (¬ (1 : Int) = 0 ∧ l1 = 1 ∧ k = l2) → g14 5 k = g0 5 k) := by
        intro k hk
        have m_72 : 0 ≤ (g14 5 k) ∧ (g14 5 k) ≤ 99 := I_67.1 5 k
        have m_73 : 0 ≤ (g6 5 k) ∧ (g6 5 k) ≤ 99 := I_2.1 5 k
        have m_74 : g6 5 k = g 5 k := F_3 _ _ (by unfold fr_Past_forget; omega)
        have m_75 : 0 ≤ (g 5 k) ∧ (g 5 k) ≤ 99 := I.1 5 k
        have m_76 : (k = l2 → g14 5 k = l3) ∧ (¬ k = l2 → g14 5 k = g6 5 k) := by rw [e_66]; exact zi_u_if
        have m_77 := ix9 k
        omega
      have z_85 : ∀ k : Int, 0 ≤ k ∧ k < 10 → (¬ (1 : Int) = 0 ∧ l1 = 2 ∧ k = l2 → g14 7 k = l3) ∧ (¬ (¬ (1 : Int) = 0 ∧ l1 = 2 ∧ k = l2) → g14 7 k = g0 7 k) := by
        intro k hk
        have m_79 : 0 ≤ (g14 7 k) ∧ (g14 7 k) ≤ 999 := I_67.1 7 k
        have m_80 : g14 7 k = g6 7 k := by rw [e_66]; exact zi_u_ne (by decide)
        have m_81 : 0 ≤ (g6 7 k) ∧ (g6 7 k) ≤ 999 := I_2.1 7 k
        have m_82 : g6 7 k = g 7 k := F_3 _ _ (by unfold fr_Past_forget; omega)
        have m_83 : 0 ≤ (g 7 k) ∧ (g 7 k) ≤ 999 := I.1 7 k
        have m_84 := ix10 k
        omega
      have z_92 : ∀ k : Int, 0 ≤ k ∧ k < 8 → (¬ (1 : Int) = 0 ∧ l1 = 3 ∧ k = l2 → g14 10 k = l3) ∧ (¬ (¬ (1 : Int) = 0 ∧ l1 = 3 ∧ k = l2) → g14 10 k = g0 10 k) := by
        intro k hk
        have m_86 : (-2147483648) ≤ (g14 10 k) ∧ (g14 10 k) ≤ 2147483647 := I_67.1 10 k
        have m_87 : g14 10 k = g6 10 k := by rw [e_66]; exact zi_u_ne (by decide)
        have m_88 : (-2147483648) ≤ (g6 10 k) ∧ (g6 10 k) ≤ 2147483647 := I_2.1 10 k
        have m_89 : g6 10 k = g 10 k := F_3 _ _ (by unfold fr_Past_forget; omega)
        have m_90 : (-2147483648) ≤ (g 10 k) ∧ (g 10 k) ≤ 2147483647 := I.1 10 k
        have m_91 := ix11 k
        omega
      have m_93 : 0 ≤ (g14 2 14) ∧ (g14 2 14) ≤ 9 := I_67.1 2 14
      have m_94 : g14 2 14 = g6 2 14 := by rw [e_66]; exact zi_u_ne (by decide)
      have m_95 : 0 ≤ (g6 2 14) ∧ (g6 2 14) ≤ 9 := I_2.1 2 14
      have m_96 : g6 2 14 = g 2 14 := F_3 _ _ (by unfold fr_Past_forget; omega)
      have m_97 : 0 ≤ (g 2 14) ∧ (g 2 14) ≤ 9 := I.1 2 14
      exact hQ _ _ I_67 F_68 ⟨by omega, by omega⟩ (by intro hv; first | rfl | exact zPs_n (by assumption) (by omega) hv | exact zPs_y (by assumption) (by omega) hv) (by intro hv; first | rfl | exact zPs_n (by assumption) (by omega) hv | exact zPs_y (by assumption) (by omega) hv) (by omega) (by intro hv; first | rfl | assumption | (exfalso; omega)) z_78 z_85 z_92 (by omega)
    · refine ⟨⟨by omega, by omega⟩, ?_⟩
      intro g16 e_98
      have I_99 : zk_I g16 := by rw [e_98]; exact zk_upd (L := 0) (H := 999) rfl rfl I_2 ⟨by omega, by omega⟩
      have F_100 : zk_fr fr_S_set g0 g16 := by rw [e_98]; exact zk_fu F_4 (Or.inr (Or.inr (Or.inl rfl)))
      have m_101 : 0 ≤ (g16 91 1) ∧ (g16 91 1) ≤ 6 := I_99.1 91 1
      have m_102 : g16 91 1 = g6 91 1 := by rw [e_98]; exact zi_u_ne (by decide)
      have m_103 : 0 ≤ (g6 91 1) ∧ (g6 91 1) ≤ 6 := I_2.1 91 1
      have z_110 : ∀ k : Int, 0 ≤ k ∧ k < 10 → (¬ (1 : Int) = 0 ∧ l1 = 1 ∧ k = l2 → g16 5 k = l3) ∧ (¬ (¬ (1 : Int) = 0 ∧ l1 = 1 ∧ k = l2) → g16 5 k = g0 5 k) := by
        intro k hk
        have m_104 : 0 ≤ (g16 5 k) ∧ (g16 5 k) ≤ 99 := I_99.1 5 k
        have m_105 : g16 5 k = g6 5 k := by rw [e_98]; exact zi_u_ne (by decide)
        have m_106 : 0 ≤ (g6 5 k) ∧ (g6 5 k) ≤ 99 := I_2.1 5 k
        have m_107 : g6 5 k = g 5 k := F_3 _ _ (by unfold fr_Past_forget; omega)
        have m_108 : 0 ≤ (g 5 k) ∧ (g 5 k) ≤ 99 := I.1 5 k
        have m_109 := ix9 k
        omega
      have z_117 : ∀ k : Int, 0 ≤ k ∧ k < 10 → (¬ (1 : Int) = 0 ∧ l1 = 2 ∧ k = l2 → g16 7 k = l3) ∧ (¬ (¬ (1 : Int) = 0 ∧ l1 = 2 ∧ k = l2) → g16 7 k = g0 7 k) := by
        intro k hk
        have m_111 : 0 ≤ (g16 7 k) ∧ (g16 7 k) ≤ 999 := I_99.1 7 k
        have m_112 : 0 ≤ (g6 7 k) ∧ (g6 7 k) ≤ 999 := I_2.1 7 k
        have m_113 : g6 7 k = g 7 k := F_3 _ _ (by unfold fr_Past_forget; omega)
        have m_114 : 0 ≤ (g 7 k) ∧ (g 7 k) ≤ 999 := I.1 7 k
        have m_115 : (k = l2 → g16 7 k = l3) ∧ (¬ k = l2 → g16 7 k = g6 7 k) := by rw [e_98]; exact zi_u_if
        have m_116 := ix10 k
        omega
      have z_124 : ∀ k : Int, 0 ≤ k ∧ k < 8 → (¬ (1 : Int) = 0 ∧ l1 = 3 ∧ k = l2 → g16 10 k = l3) ∧ (¬ (¬ (1 : Int) = 0 ∧ l1 = 3 ∧ k = l2) → g16 10 k = g0 10 k) := by
        intro k hk
        have m_118 : (-2147483648) ≤ (g16 10 k) ∧ (g16 10 k) ≤ 2147483647 := I_99.1 10 k
        have m_119 : g16 10 k = g6 10 k := by rw [e_98]; exact zi_u_ne (by decide)
        have m_120 : (-2147483648) ≤ (g6 10 k) ∧ (g6 10 k) ≤ 2147483647 := I_2.1 10 k
        have m_121 : g6 10 k = g 10 k := F_3 _ _ (by unfold fr_Past_forget; omega)
        have m_122 : (-2147483648) ≤ (g 10 k) ∧ (g 10 k) ≤ 2147483647 := I.1 10 k
        have m_123 := ix11 k
        omega
      have m_125 : 0 ≤ (g16 2 14) ∧ (g16 2 14) ≤ 9 := I_99.1 2 14
      have m_126 : g16 2 14 = g6 2 14 := by rw [e_98]; exact zi_u_ne (by decide)
      have m_127 : 0 ≤ (g6 2 14) ∧ (g6 2 14) ≤ 9 := I_2.1 2 14
      have m_128 : g6 2 14 = g 2 14 := F_3 _ _ (by unfold fr_Past_forget; omega)
      have m_129 : 0 ≤ (g 2 14) ∧ (g 2 14) ≤ 9 := I.1 2 14
      exact hQ _ _ I_99 F_100 ⟨by omega, by omega⟩ (by intro hv; first | rfl | exact zPs_n (by assumption) (by omega) hv | exact zPs_y (by assumption) (by omega) hv) (by intro hv; first | rfl | exact zPs_n (by assumption) (by omega) hv | exact zPs_y (by assumption) (by omega) hv) (by omega) (by intro hv; first | rfl | assumption | (exfalso; omega)) z_110 z_117 z_124 (by omega)
  · have m_130 : 0 ≤ (g 91 1) ∧ (g 91 1) ≤ 6 := I.1 91 1
    have z_133 : ∀ k : Int, 0 ≤ k ∧ k < 10 → (¬ (0 : Int) = 0 ∧ l1 = 1 ∧ k = l2 → g 5 k = l3) ∧ (¬ (¬ (0 : Int) = 0 ∧ l1 = 1 ∧ k = l2) → g 5 k = g0 5 k) := by
      intro k hk
      have m_131 : 0 ≤ (g 5 k) ∧ (g 5 k) ≤ 99 := I.1 5 k
      have m_132 := ix9 k
      omega
    have z_136 : ∀ k : Int, 0 ≤ k ∧ k < 10 → (¬ (0 : Int) = 0 ∧ l1 = 2 ∧ k = l2 → g 7 k = l3) ∧ (¬ (¬ (0 : Int) = 0 ∧ l1 = 2 ∧ k = l2) → g 7 k = g0 7 k) := by
      intro k hk
      have m_134 : 0 ≤ (g 7 k) ∧ (g 7 k) ≤ 999 := I.1 7 k
      have m_135 := ix10 k
      omega
    have z_139 : ∀ k : Int, 0 ≤ k ∧ k < 8 → (¬ (0 : Int) = 0 ∧ l1 = 3 ∧ k = l2 → g 10 k = l3) ∧ (¬ (¬ (0 : Int) = 0 ∧ l1 = 3 ∧ k = l2) → g 10 k = g0 10 k) := by
      intro k hk
      have m_137 : (-2147483648) ≤ (g 10 k) ∧ (g 10 k) ≤ 2147483647 := I.1 10 k
      have m_138 := ix11 k
      omega
    have m_140 : 0 ≤ (g 2 14) ∧ (g 2 14) ≤ 9 := I.1 2 14
    exact hQ _ _ I F ⟨by omega, by omega⟩ (by intro hv; first | rfl | exact zPs_n (by assumption) (by omega) hv | exact zPs_y (by assumption) (by omega) hv) (by intro hv; first | rfl | exact zPs_n (by assumption) (by omega) hv | exact zPs_y (by assumption) (by omega) hv) (by omega) (by intro hv; first | rfl | assumption | (exfalso; omega)) z_133 z_136 z_139 (by omega)
set_option maxRecDepth 100000 in
set_option maxHeartbeats 4000000 in
theorem k_S_set_b18 {l1 : Int} {l2 : Int} {l3 : Int} {s0 : Int} {Q : Int → zi_M → Prop} {g : zi_M} {g0 : zi_M} (I : zk_I g) (F : zk_fr fr_S_set g0 g) (p1 : (-2147483648) ≤ l1 ∧ l1 ≤ 2147483647) (p2 : (-2147483648) ≤ l2 ∧ l2 ≤ 2147483647) (p3 : (-2147483648) ≤ l3 ∧ l3 ≤ 2147483647) (ix0 : ¬ s0 = 0 → 0 ≤ l3) (ix1 : s0 = 0 → l3 < 0) (ix2 : g = g0) (ix3 : g 2 8 = g0 2 8) (ix4 : g 2 11 = g0 2 11) (ix5 : ∀ k : Int, g 5 k = g0 5 k) (ix6 : ∀ k : Int, g 7 k = g0 7 k) (ix7 : ∀ k : Int, g 10 k = g0 10 k) (ix8 : g 2 14 = g0 2 14) (ps0 : 0 ≤ s0 ∧ s0 ≤ 1) (hQ : ∀ (v : Int) (g' : zi_M), zk_I g' → zk_fr fr_S_set g0 g' → (0 ≤ v ∧ v ≤ 1) → (zPs (g0 2 8) (g0 2 11) l1 l2 l3 → v = 1) → (¬ zPs (g0 2 8) (g0 2 11) l1 l2 l3 → v = 0) → (¬ v = 0 → g' 91 1 = 0) → (v = 0 → g' = g0) → (∀ k : Int, 0 ≤ k ∧ k < 10 → (¬ v = 0 ∧ l1 = 1 ∧ k = l2 → g' 5 k = l3) ∧ (¬ (¬ v = 0 ∧ l1 = 1 ∧ k = l2) → g' 5 k = g0 5 k)) → (∀ k : Int, 0 ≤ k ∧ k < 10 → (¬ v = 0 ∧ l1 = 2 ∧ k = l2 → g' 7 k = l3) ∧ (¬ (¬ v = 0 ∧ l1 = 2 ∧ k = l2) → g' 7 k = g0 7 k)) → (∀ k : Int, 0 ≤ k ∧ k < 8 → (¬ v = 0 ∧ l1 = 3 ∧ k = l2 → g' 10 k = l3) ∧ (¬ (¬ v = 0 ∧ l1 = 3 ∧ k = l2) → g' 10 k = g0 10 k)) → ((¬ v = 0 ∧ l1 = 0 → g' 2 14 = l3) ∧ (¬ (¬ v = 0 ∧ l1 = 0) → g' 2 14 = g0 2 14)) → Q v g') : w_S_set_b18 l1 l2 l3 s0 g Q := by
  unfold w_S_set_b18
  refine ⟨⟨by omega, by omega⟩, ?_⟩
  refine ⟨fun c3 => ?_, fun c3 => ?_, fun c3 => ?_, fun c3 => ?_, fun c3 => ?_⟩
  · have m_141 : 0 ≤ (g 2 8) ∧ (g 2 8) ≤ 10 := I.1 2 8
    have m_142 : 0 ≤ (g 2 11) ∧ (g 2 11) ≤ 8 := I.1 2 11
    have m_143 : 0 ≤ (g 2 14) ∧ (g 2 14) ≤ 9 := I.1 2 14
    exact k_S_set_b163 I F ⟨by omega, by omega⟩ ⟨by omega, by omega⟩ ⟨by omega, by omega⟩ ⟨by omega, by omega⟩ (by omega) (by omega) (by omega) (by omega) (by intro hv; unfold zPs; omega) (by intro hv; unfold zPs; omega) (by first | rfl | assumption) (by omega) (by omega) (by first | assumption | (intro k; rfl)) (by first | assumption | (intro k; rfl)) (by first | assumption | (intro k; rfl)) (by omega) (by omega) hQ
  · refine ⟨⟨by omega, by omega⟩, ?_⟩
    refine ⟨fun c21 => ?_, fun c21 => ?_⟩
    · have m_144 : 0 ≤ (g 2 8) ∧ (g 2 8) ≤ 10 := I.1 2 8
      have m_145 : 0 ≤ (g 2 11) ∧ (g 2 11) ≤ 8 := I.1 2 11
      have m_146 : 0 ≤ (g 2 14) ∧ (g 2 14) ≤ 9 := I.1 2 14
      exact k_S_set_b163 I F ⟨by omega, by omega⟩ ⟨by omega, by omega⟩ ⟨by omega, by omega⟩ ⟨by omega, by omega⟩ (by omega) (by omega) (by omega) (by omega) (by intro hv; unfold zPs; omega) (by intro hv; unfold zPs; omega) (by first | rfl | assumption) (by omega) (by omega) (by first | assumption | (intro k; rfl)) (by first | assumption | (intro k; rfl)) (by first | assumption | (intro k; rfl)) (by omega) (by omega) hQ
    · refine ⟨⟨by omega, by omega⟩, ?_⟩
      refine ⟨fun c20 => ?_, fun c20 => ?_⟩
      · have m_147 : 0 ≤ (g 2 8) ∧ (g 2 8) ≤ 10 := I.1 2 8
        have m_148 : 0 ≤ (g 2 11) ∧ (g 2 11) ≤ 8 := I.1 2 11
        have m_149 : 0 ≤ (g 2 14) ∧ (g 2 14) ≤ 9 := I.1 2 14
        exact k_S_set_b163 I F ⟨by omega, by omega⟩ ⟨by omega, by omega⟩ ⟨by omega, by omega⟩ ⟨by omega, by omega⟩ (by omega) (by omega) (by omega) (by omega) (by intro hv; unfold zPs; omega) (by intro hv; unfold zPs; omega) (by first | rfl | assumption) (by omega) (by omega) (by first | assumption | (intro k; rfl)) (by first | assumption | (intro k; rfl)) (by first | assumption | (intro k; rfl)) (by omega) (by omega) hQ
      · have m_150 : 0 ≤ (g 2 8) ∧ (g 2 8) ≤ 10 := I.1 2 8
        have m_151 : 0 ≤ (g 2 11) ∧ (g 2 11) ≤ 8 := I.1 2 11
        have m_152 : 0 ≤ (g 2 14) ∧ (g 2 14) ≤ 9 := I.1 2 14
        exact k_S_set_b163 I F ⟨by omega, by omega⟩ ⟨by omega, by omega⟩ ⟨by omega, by omega⟩ ⟨by omega, by omega⟩ (by omega) (by omega) (by omega) (by omega) (by intro hv; unfold zPs; omega) (by intro hv; unfold zPs; omega) (by first | rfl | assumption) (by omega) (by omega) (by first | assumption | (intro k; rfl)) (by first | assumption | (intro k; rfl)) (by first | assumption | (intro k; rfl)) (by omega) (by omega) hQ
  · refine ⟨⟨by omega, by omega⟩, ?_⟩
    refine ⟨fun c29 => ?_, fun c29 => ?_⟩
    · have m_153 : 0 ≤ (g 2 8) ∧ (g 2 8) ≤ 10 := I.1 2 8
      have m_154 : 0 ≤ (g 2 11) ∧ (g 2 11) ≤ 8 := I.1 2 11
      have m_155 : 0 ≤ (g 2 14) ∧ (g 2 14) ≤ 9 := I.1 2 14
      exact k_S_set_b163 I F ⟨by omega, by omega⟩ ⟨by omega, by omega⟩ ⟨by omega, by omega⟩ ⟨by omega, by omega⟩ (by omega) (by omega) (by omega) (by omega) (by intro hv; unfold zPs; omega) (by intro hv; unfold zPs; omega) (by first | rfl | assumption) (by omega) (by omega) (by first | assumption | (intro k; rfl)) (by first | assumption | (intro k; rfl)) (by first | assumption | (intro k; rfl)) (by omega) (by omega) hQ
    · have m_159 : 0 ≤ (g 2 8) ∧ (g 2 8) ≤ 10 := I.1 2 8
      refine k_World_isSpout rfl I ⟨by omega, by omega⟩ (fun v23 b_156 b_157 b_158 => ?_)
      try simp only [Nat.reduceAdd] at b_156 b_157 b_158
      refine ⟨fun c28 => ?_, fun c28 => ?_⟩
      · have m_160 : 0 ≤ (g 2 11) ∧ (g 2 11) ≤ 8 := I.1 2 11
        have m_161 : 0 ≤ (g 2 14) ∧ (g 2 14) ≤ 9 := I.1 2 14
        exact k_S_set_b163 I F ⟨by omega, by omega⟩ ⟨by omega, by omega⟩ ⟨by omega, by omega⟩ ⟨by omega, by omega⟩ (by omega) (by omega) (by omega) (by omega) (by intro hv; unfold zPs; omega) (by intro hv; unfold zPs; omega) (by first | rfl | assumption) (by omega) (by omega) (by first | assumption | (intro k; rfl)) (by first | assumption | (intro k; rfl)) (by first | assumption | (intro k; rfl)) (by omega) (by omega) hQ
      · refine ⟨⟨by omega, by omega⟩, ?_⟩
        refine ⟨fun c27 => ?_, fun c27 => ?_⟩
        · have m_162 : 0 ≤ (g 2 11) ∧ (g 2 11) ≤ 8 := I.1 2 11
          have m_163 : 0 ≤ (g 2 14) ∧ (g 2 14) ≤ 9 := I.1 2 14
          exact k_S_set_b163 I F ⟨by omega, by omega⟩ ⟨by omega, by omega⟩ ⟨by omega, by omega⟩ ⟨by omega, by omega⟩ (by omega) (by omega) (by omega) (by omega) (by intro hv; unfold zPs; omega) (by intro hv; unfold zPs; omega) (by first | rfl | assumption) (by omega) (by omega) (by first | assumption | (intro k; rfl)) (by first | assumption | (intro k; rfl)) (by first | assumption | (intro k; rfl)) (by omega) (by omega) hQ
        · have m_164 : 0 ≤ (g 2 11) ∧ (g 2 11) ≤ 8 := I.1 2 11
          have m_165 : 0 ≤ (g 2 14) ∧ (g 2 14) ≤ 9 := I.1 2 14
          exact k_S_set_b163 I F ⟨by omega, by omega⟩ ⟨by omega, by omega⟩ ⟨by omega, by omega⟩ ⟨by omega, by omega⟩ (by omega) (by omega) (by omega) (by omega) (by intro hv; unfold zPs; omega) (by intro hv; unfold zPs; omega) (by first | rfl | assumption) (by omega) (by omega) (by first | assumption | (intro k; rfl)) (by first | assumption | (intro k; rfl)) (by first | assumption | (intro k; rfl)) (by omega) (by omega) hQ
  · refine ⟨⟨by omega, by omega⟩, ?_⟩
    refine ⟨fun c37 => ?_, fun c37 => ?_⟩
    · have m_166 : 0 ≤ (g 2 8) ∧ (g 2 8) ≤ 10 := I.1 2 8
      have m_167 : 0 ≤ (g 2 11) ∧ (g 2 11) ≤ 8 := I.1 2 11
      have m_168 : 0 ≤ (g 2 14) ∧ (g 2 14) ≤ 9 := I.1 2 14
      exact k_S_set_b163 I F ⟨by omega, by omega⟩ ⟨by omega, by omega⟩ ⟨by omega, by omega⟩ ⟨by omega, by omega⟩ (by omega) (by omega) (by omega) (by omega) (by intro hv; unfold zPs; omega) (by intro hv; unfold zPs; omega) (by first | rfl | assumption) (by omega) (by omega) (by first | assumption | (intro k; rfl)) (by first | assumption | (intro k; rfl)) (by first | assumption | (intro k; rfl)) (by omega) (by omega) hQ
    · have m_172 : 0 ≤ (g 2 8) ∧ (g 2 8) ≤ 10 := I.1 2 8
      refine k_World_isSpout rfl I ⟨by omega, by omega⟩ (fun v31 b_169 b_170 b_171 => ?_)
      try simp only [Nat.reduceAdd] at b_169 b_170 b_171
      refine ⟨fun c36 => ?_, fun c36 => ?_⟩
      · have m_173 : 0 ≤ (g 2 11) ∧ (g 2 11) ≤ 8 := I.1 2 11
        have m_174 : 0 ≤ (g 2 14) ∧ (g 2 14) ≤ 9 := I.1 2 14
        exact k_S_set_b163 I F ⟨by omega, by omega⟩ ⟨by omega, by omega⟩ ⟨by omega, by omega⟩ ⟨by omega, by omega⟩ (by omega) (by omega) (by omega) (by omega) (by intro hv; unfold zPs; omega) (by intro hv; unfold zPs; omega) (by first | rfl | assumption) (by omega) (by omega) (by first | assumption | (intro k; rfl)) (by first | assumption | (intro k; rfl)) (by first | assumption | (intro k; rfl)) (by omega) (by omega) hQ
      · refine ⟨⟨by omega, by omega⟩, ?_⟩
        refine ⟨fun c35 => ?_, fun c35 => ?_⟩
        · have m_175 : 0 ≤ (g 2 11) ∧ (g 2 11) ≤ 8 := I.1 2 11
          have m_176 : 0 ≤ (g 2 14) ∧ (g 2 14) ≤ 9 := I.1 2 14
          exact k_S_set_b163 I F ⟨by omega, by omega⟩ ⟨by omega, by omega⟩ ⟨by omega, by omega⟩ ⟨by omega, by omega⟩ (by omega) (by omega) (by omega) (by omega) (by intro hv; unfold zPs; omega) (by intro hv; unfold zPs; omega) (by first | rfl | assumption) (by omega) (by omega) (by first | assumption | (intro k; rfl)) (by first | assumption | (intro k; rfl)) (by first | assumption | (intro k; rfl)) (by omega) (by omega) hQ
        · have m_177 : 0 ≤ (g 2 11) ∧ (g 2 11) ≤ 8 := I.1 2 11
          have m_178 : 0 ≤ (g 2 14) ∧ (g 2 14) ≤ 9 := I.1 2 14
          exact k_S_set_b163 I F ⟨by omega, by omega⟩ ⟨by omega, by omega⟩ ⟨by omega, by omega⟩ ⟨by omega, by omega⟩ (by omega) (by omega) (by omega) (by omega) (by intro hv; unfold zPs; omega) (by intro hv; unfold zPs; omega) (by first | rfl | assumption) (by omega) (by omega) (by first | assumption | (intro k; rfl)) (by first | assumption | (intro k; rfl)) (by first | assumption | (intro k; rfl)) (by omega) (by omega) hQ
  · have m_182 : 0 ≤ (g 2 11) ∧ (g 2 11) ≤ 8 := I.1 2 11
    refine k_World_isSitter I ⟨by omega, by omega⟩ (fun v38 b_179 b_180 b_181 => ?_)
    refine ⟨fun c45 => ?_, fun c45 => ?_⟩
    · have m_183 : 0 ≤ (g 2 8) ∧ (g 2 8) ≤ 10 := I.1 2 8
      have m_184 : 0 ≤ (g 2 14) ∧ (g 2 14) ≤ 9 := I.1 2 14
      exact k_S_set_b163 I F ⟨by omega, by omega⟩ ⟨by omega, by omega⟩ ⟨by omega, by omega⟩ ⟨by omega, by omega⟩ (by omega) (by omega) (by omega) (by omega) (by intro hv; unfold zPs; omega) (by intro hv; unfold zPs; omega) (by first | rfl | assumption) (by omega) (by omega) (by first | assumption | (intro k; rfl)) (by first | assumption | (intro k; rfl)) (by first | assumption | (intro k; rfl)) (by omega) (by omega) hQ
    · refine k_S_isWordSet I ⟨by omega, by omega⟩ (fun v41 b_185 b_186 b_187 => ?_)
      refine ⟨fun c44 => ?_, fun c44 => ?_⟩
      · have m_188 : 0 ≤ (g 2 8) ∧ (g 2 8) ≤ 10 := I.1 2 8
        have m_189 : 0 ≤ (g 2 14) ∧ (g 2 14) ≤ 9 := I.1 2 14
        exact k_S_set_b163 I F ⟨by omega, by omega⟩ ⟨by omega, by omega⟩ ⟨by omega, by omega⟩ ⟨by omega, by omega⟩ (by omega) (by omega) (by omega) (by omega) (by intro hv; unfold zPs; omega) (by intro hv; unfold zPs; omega) (by first | rfl | assumption) (by omega) (by omega) (by first | assumption | (intro k; rfl)) (by first | assumption | (intro k; rfl)) (by first | assumption | (intro k; rfl)) (by omega) (by omega) hQ
      · have m_190 : 0 ≤ (g 2 8) ∧ (g 2 8) ≤ 10 := I.1 2 8
        have m_191 : 0 ≤ (g 2 14) ∧ (g 2 14) ≤ 9 := I.1 2 14
        exact k_S_set_b163 I F ⟨by omega, by omega⟩ ⟨by omega, by omega⟩ ⟨by omega, by omega⟩ ⟨by omega, by omega⟩ (by omega) (by omega) (by omega) (by omega) (by intro hv; unfold zPs; omega) (by intro hv; unfold zPs; omega) (by first | rfl | assumption) (by omega) (by omega) (by first | assumption | (intro k; rfl)) (by first | assumption | (intro k; rfl)) (by first | assumption | (intro k; rfl)) (by omega) (by omega) hQ
set_option maxRecDepth 100000 in
set_option maxHeartbeats 4000000 in
theorem k_S_set {l1 : Int} {l2 : Int} {l3 : Int} {g : zi_M} {Q : Int → zi_M → Prop} (I : zk_I g) (p1 : (-2147483648) ≤ l1 ∧ l1 ≤ 2147483647) (p2 : (-2147483648) ≤ l2 ∧ l2 ≤ 2147483647) (p3 : (-2147483648) ≤ l3 ∧ l3 ≤ 2147483647) (hQ : ∀ (v : Int) (g' : zi_M), zk_I g' → zk_fr fr_S_set g g' → (0 ≤ v ∧ v ≤ 1) → (zPs (g 2 8) (g 2 11) l1 l2 l3 → v = 1) → (¬ zPs (g 2 8) (g 2 11) l1 l2 l3 → v = 0) → (¬ v = 0 → g' 91 1 = 0) → (v = 0 → g' = g) → (∀ k : Int, 0 ≤ k ∧ k < 10 → (¬ v = 0 ∧ l1 = 1 ∧ k = l2 → g' 5 k = l3) ∧ (¬ (¬ v = 0 ∧ l1 = 1 ∧ k = l2) → g' 5 k = g 5 k)) → (∀ k : Int, 0 ≤ k ∧ k < 10 → (¬ v = 0 ∧ l1 = 2 ∧ k = l2 → g' 7 k = l3) ∧ (¬ (¬ v = 0 ∧ l1 = 2 ∧ k = l2) → g' 7 k = g 7 k)) → (∀ k : Int, 0 ≤ k ∧ k < 8 → (¬ v = 0 ∧ l1 = 3 ∧ k = l2 → g' 10 k = l3) ∧ (¬ (¬ v = 0 ∧ l1 = 3 ∧ k = l2) → g' 10 k = g 10 k)) → ((¬ v = 0 ∧ l1 = 0 → g' 2 14 = l3) ∧ (¬ (¬ v = 0 ∧ l1 = 0) → g' 2 14 = g 2 14)) → Q v g') : w_S_set l1 l2 l3 g Q := by
  unfold w_S_set
  refine ⟨⟨by omega, by omega⟩, ?_⟩
  refine ⟨fun c46 => ?_, fun c46 => ?_⟩
  · have m_192 : 0 ≤ (g 2 8) ∧ (g 2 8) ≤ 10 := I.1 2 8
    have m_193 : 0 ≤ (g 2 11) ∧ (g 2 11) ≤ 8 := I.1 2 11
    have m_194 : 0 ≤ (g 2 14) ∧ (g 2 14) ≤ 9 := I.1 2 14
    exact k_S_set_b18 I (zk_f0 _) ⟨by omega, by omega⟩ ⟨by omega, by omega⟩ ⟨by omega, by omega⟩ (by omega) (by omega) (by rfl) (by omega) (by omega) (by first | assumption | (intro k; rfl)) (by first | assumption | (intro k; rfl)) (by first | assumption | (intro k; rfl)) (by omega) ⟨by omega, by omega⟩ hQ
  · have m_195 : 0 ≤ (g 2 8) ∧ (g 2 8) ≤ 10 := I.1 2 8
    have m_196 : 0 ≤ (g 2 11) ∧ (g 2 11) ≤ 8 := I.1 2 11
    have m_197 : 0 ≤ (g 2 14) ∧ (g 2 14) ≤ 9 := I.1 2 14
    exact k_S_set_b18 I (zk_f0 _) ⟨by omega, by omega⟩ ⟨by omega, by omega⟩ ⟨by omega, by omega⟩ (by omega) (by omega) (by rfl) (by omega) (by omega) (by first | assumption | (intro k; rfl)) (by first | assumption | (intro k; rfl)) (by first | assumption | (intro k; rfl)) (by omega) ⟨by omega, by omega⟩ hQ
