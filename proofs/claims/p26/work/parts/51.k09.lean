-- by program (wip/gen/mkz.py)
-- SpoutNewsModel.kindOfDeed()I
set_option maxRecDepth 100000 in
set_option maxHeartbeats 4000000 in
theorem k_M_kindOfDeed {g : zi_M} {Q : Int → zi_M → Prop} (I : zk_I g) (px0 : zt3 g) (hQ : ∀ v : Int, ((-1) ≤ v ∧ v ≤ 6) → Q v g) : w_M_kindOfDeed g Q := by
  unfold w_M_kindOfDeed
  have m_4 : 0 ≤ (g 214 16) ∧ (g 214 16) ≤ 4 := I.1 214 16
  have m_5 : (-1) ≤ (g 214 17) ∧ (g 214 17) ≤ 100000 := I.1 214 17
  refine k_M_isWord I ⟨by omega, by omega⟩ (fun v1 b_1 b_2 b_3 => ?_)
  refine ⟨fun c10 => ?_, fun c10 => ?_⟩
  · refine ⟨⟨by omega, by omega⟩, ?_⟩
    refine ⟨fun c9 => ?_, fun c9 => ?_⟩
    · exact hQ _ ⟨by omega, by omega⟩
    · refine k_M_isIn I ⟨by omega, by omega⟩ ⟨by omega, by omega⟩ ⟨by omega, by omega⟩ (fun v5 b_6 b_7 b_8 => ?_)
      refine ⟨fun c8 => ?_, fun c8 => ?_⟩
      · exact hQ _ ⟨by omega, by omega⟩
      · exact hQ _ ⟨by omega, by omega⟩
  · exact hQ _ ⟨by omega, by omega⟩
-- SpoutNewsModel.mostFor(I)I
set_option maxRecDepth 100000 in
set_option maxHeartbeats 4000000 in
theorem k_M_mostFor {l1 : Int} {g : zi_M} {Q : Int → zi_M → Prop} (I : zk_I g) (p1 : 0 ≤ l1 ∧ l1 ≤ 6) (hQ : ∀ v : Int, (¬ l1 = 2 → l1 < 3 → v = (g 214 7) - 1) → (¬ l1 = 2 → 3 ≤ l1 → 5 < l1 → v = (g 214 7) - 1) → (¬ l1 = 2 → 3 ≤ l1 → l1 ≤ 5 → v = (g 214 6) - 1) → (l1 = 2 → v = 5) → Q v g) : w_M_mostFor l1 g Q := by
  unfold w_M_mostFor
  refine ⟨⟨by omega, by omega⟩, ?_⟩
  refine ⟨fun c4 => ?_, fun c4 => ?_⟩
  · refine ⟨fun c3 => ?_, fun c3 => ?_⟩
    · have m_1 : 0 ≤ (g 214 7) ∧ (g 214 7) ≤ 8 := I.1 214 7
      have m_2 : 0 ≤ (g 214 6) ∧ (g 214 6) ≤ 10 := I.1 214 6
      exact hQ _ (by intros; omega) (by intros; omega) (by intros; omega) (by intros; omega)
    · refine ⟨fun c2 => ?_, fun c2 => ?_⟩
      · have m_3 : 0 ≤ (g 214 7) ∧ (g 214 7) ≤ 8 := I.1 214 7
        have m_4 : 0 ≤ (g 214 6) ∧ (g 214 6) ≤ 10 := I.1 214 6
        exact hQ _ (by intros; omega) (by intros; omega) (by intros; omega) (by intros; omega)
      · have m_5 : 0 ≤ (g 214 6) ∧ (g 214 6) ≤ 10 := I.1 214 6
        have m_6 : 0 ≤ (g 214 7) ∧ (g 214 7) ≤ 8 := I.1 214 7
        exact hQ _ (by intros; omega) (by intros; omega) (by intros; omega) (by intros; omega)
  · have m_7 : 0 ≤ (g 214 7) ∧ (g 214 7) ≤ 8 := I.1 214 7
    have m_8 : 0 ≤ (g 214 6) ∧ (g 214 6) ≤ 10 := I.1 214 6
    exact hQ _ (by intros; omega) (by intros; omega) (by intros; omega) (by intros; omega)
-- SpoutNewsModel.readMark(I)I
noncomputable def fr_M_readMark (a : Nat) (i : Int) : Prop := (a = 214 ∧ i = 14) ∨ (a = 214 ∧ i = 15) ∨ (a = 214 ∧ i = 16) ∨ (a = 214 ∧ i = 17) ∨ (a = 214 ∧ i = 31) ∨ (a = 214 ∧ i = 32)
set_option maxRecDepth 100000 in
set_option maxHeartbeats 4000000 in
theorem k_M_readMark {l1 : Int} {g : zi_M} {Q : Int → zi_M → Prop} (I : zk_I g) (p1 : 59 ≤ l1 ∧ l1 ≤ 59) (px0 : g 214 14 ≤ g 214 13) (px1 : g 214 15 ≤ g 214 14) (px2 : zt3 g) (hQ : ∀ (v : Int) (g' : zi_M), zk_I g' → zk_fr fr_M_readMark g g' → ((-1) ≤ v ∧ v ≤ 0) → (g' 214 14 ≤ g' 214 13) → (g' 214 15 ≤ g' 214 14) → (zt3 g') → (g 214 15 ≤ g' 214 15) → Q v g') : w_M_readMark l1 g Q := by
  unfold w_M_readMark
  have m_4 : 0 ≤ (g 214 16) ∧ (g 214 16) ≤ 4 := I.1 214 16
  have m_5 : (-1) ≤ (g 214 17) ∧ (g 214 17) ≤ 100000 := I.1 214 17
  refine k_M_isSign I ⟨by omega, by omega⟩ (fun v1 b_1 b_2 b_3 => ?_)
  refine ⟨fun c10 => ?_, fun c10 => ?_⟩
  · have m_6 : 0 ≤ (g 214 14) ∧ (g 214 14) ≤ 400 := I.1 214 14
    have m_7 : 0 ≤ (g 214 13) ∧ (g 214 13) ≤ 400 := I.1 214 13
    refine k_M_reads I (by omega) (fun g5 I_12 F_13 b_8 b_9 b_10 b_11 => ?_)
    have F_14 : zk_fr fr_M_readMark g g5 := zk_ft (zk_f0 _) F_13 (fun a i => (fun h => Or.elim h (fun h => (Or.inl h)) (fun h => Or.elim h (fun h => (Or.inr (Or.inl h))) (fun h => Or.elim h (fun h => (Or.inr (Or.inr (Or.inl h)))) (fun h => (Or.inr (Or.inr (Or.inr (Or.inl h)))))))))
    have m_15 : 0 ≤ (g5 214 14) ∧ (g5 214 14) ≤ 400 := I_12.1 214 14
    have m_16 : 0 ≤ (g5 214 13) ∧ (g5 214 13) ≤ 400 := I_12.1 214 13
    have m_17 : g5 214 13 = g 214 13 := F_13 _ _ (by unfold fr_M_reads; omega)
    have m_18 : 0 ≤ (g5 214 15) ∧ (g5 214 15) ≤ 400 := I_12.1 214 15
    exact hQ _ _ I_12 F_14 ⟨by omega, by omega⟩ (by omega) (by omega) (by repeat first | assumption | refine zt3_u (by assumption) (by decide) ?_ | refine (by assumption : zt3 _ → zt3 _) ?_) (by omega)
  · refine k_M_errs I ⟨by omega, by omega⟩ (fun v7 g8 I_21 F_22 b_19 b_20 => ?_)
    have F_23 : zk_fr fr_M_readMark g g8 := zk_ft (zk_f0 _) F_22 (fun a i => (fun h => Or.elim h (fun h => (Or.inr (Or.inr (Or.inr (Or.inr (Or.inl h)))))) (fun h => (Or.inr (Or.inr (Or.inr (Or.inr (Or.inr h))))))))
    have m_24 : 0 ≤ (g8 214 14) ∧ (g8 214 14) ≤ 400 := I_21.1 214 14
    have m_25 : g8 214 14 = g 214 14 := F_22 _ _ (by unfold fr_M_errs; omega)
    have m_26 : 0 ≤ (g 214 14) ∧ (g 214 14) ≤ 400 := I.1 214 14
    have m_27 : 0 ≤ (g8 214 13) ∧ (g8 214 13) ≤ 400 := I_21.1 214 13
    have m_28 : g8 214 13 = g 214 13 := F_22 _ _ (by unfold fr_M_errs; omega)
    have m_29 : 0 ≤ (g 214 13) ∧ (g 214 13) ≤ 400 := I.1 214 13
    have m_30 : 0 ≤ (g8 214 15) ∧ (g8 214 15) ≤ 400 := I_21.1 214 15
    have m_31 : g8 214 15 = g 214 15 := F_22 _ _ (by unfold fr_M_errs; omega)
    have m_32 : 0 ≤ (g 214 15) ∧ (g 214 15) ≤ 400 := I.1 214 15
    exact hQ _ _ I_21 F_23 ⟨by omega, by omega⟩ (by omega) (by omega) (by repeat first | assumption | refine zt3_u (by assumption) (by decide) ?_ | refine (by assumption : zt3 _ → zt3 _) ?_) (by omega)
-- SpoutNewsModel.readDeed(I)I
noncomputable def fr_M_readDeed (a : Nat) (i : Int) : Prop := a = 234 ∨ (a = 214 ∧ i = 14) ∨ (a = 214 ∧ i = 15) ∨ (a = 214 ∧ i = 16) ∨ (a = 214 ∧ i = 17) ∨ (a = 214 ∧ i = 31) ∨ (a = 214 ∧ i = 32)
set_option maxRecDepth 100000 in
set_option maxHeartbeats 4000000 in
theorem k_M_readDeed {l1 : Int} {g : zi_M} {Q : Int → zi_M → Prop} (I : zk_I g) (p1 : 64 ≤ l1 ∧ l1 ≤ 124) (px0 : g 214 14 ≤ g 214 13) (px1 : g 214 15 ≤ g 214 14) (px2 : zt3 g) (hQ : ∀ (v : Int) (g' : zi_M), zk_I g' → zk_fr fr_M_readDeed g g' → ((-1) ≤ v ∧ v ≤ 0) → (g' 214 14 ≤ g' 214 13) → (g' 214 15 ≤ g' 214 14) → (zt3 g') → (g 214 15 ≤ g' 214 15) → (¬ v = -1 → zj_deed (g' 234 (l1 + 1)) (g' 234 (l1 + 2)) (g' 234 (l1 + 3))) → (∀ i : Int, i < l1 → g' 234 i = g 234 i) → Q v g') : w_M_readDeed l1 g Q := by
  unfold w_M_readDeed
  have m_1 : 0 ≤ (g 214 14) ∧ (g 214 14) ≤ 400 := I.1 214 14
  have m_2 : 0 ≤ (g 214 13) ∧ (g 214 13) ≤ 400 := I.1 214 13
  have m_3 : 0 ≤ (g 214 15) ∧ (g 214 15) ≤ 400 := I.1 214 15
  refine k_M_readTold I ⟨by omega, by omega⟩ ⟨by omega, by omega⟩ ⟨by omega, by omega⟩ (by omega) (by omega) (by repeat first | assumption | refine zt3_u (by assumption) (by decide) ?_ | refine (by assumption : zt3 _ → zt3 _) ?_) (fun v1 g2 I_10 F_11 b_4 b_5 b_6 b_7 b_8 b_9 => ?_)
  have F_12 : zk_fr fr_M_readDeed g g2 := zk_ft (zk_f0 _) F_11 (fun a i => (fun h => Or.elim h (fun h => (Or.inr (Or.inl h))) (fun h => Or.elim h (fun h => (Or.inr (Or.inr (Or.inl h)))) (fun h => Or.elim h (fun h => (Or.inr (Or.inr (Or.inr (Or.inl h))))) (fun h => Or.elim h (fun h => (Or.inr (Or.inr (Or.inr (Or.inr (Or.inl h)))))) (fun h => Or.elim h (fun h => (Or.inr (Or.inr (Or.inr (Or.inr (Or.inr (Or.inl h))))))) (fun h => (Or.inr (Or.inr (Or.inr (Or.inr (Or.inr (Or.inr h)))))))))))))
  refine ⟨⟨by omega, by omega⟩, ?_⟩
  intro g5 e_13
  have I_14 : zk_I g5 := by rw [e_13]; exact zk_u234 I_10 (by omega) ⟨by omega, by omega⟩
  have F_15 : zk_fr fr_M_readDeed g g5 := by rw [e_13]; exact zk_fu F_12 (Or.inl rfl)
  have m_16 : (-2147483648) ≤ (g5 234 l1) ∧ (g5 234 l1) ≤ 2147483647 := I_14.1 234 l1
  have m_17 : g5 234 l1 = v1 := by rw [e_13]; exact zi_u_eq
  refine ⟨⟨by omega, by omega⟩, ?_⟩
  refine ⟨fun c70 => ?_, fun c70 => ?_⟩
  · refine k_M_kindOfDeed I_14 (by repeat first | assumption | refine zt3_u (by assumption) (by decide) ?_ | refine (by assumption : zt3 _ → zt3 _) ?_) (fun v7 b_18 => ?_)
    refine ⟨⟨by omega, by omega⟩, ?_⟩
    refine ⟨fun c69 => ?_, fun c69 => ?_⟩
    · have m_19 : 0 ≤ (g5 214 14) ∧ (g5 214 14) ≤ 400 := I_14.1 214 14
      have m_20 : g5 214 14 = g2 214 14 := by rw [e_13]; exact zi_u_ne (by decide)
      have m_21 : 0 ≤ (g2 214 14) ∧ (g2 214 14) ≤ 400 := I_10.1 214 14
      have m_22 : 0 ≤ (g5 214 13) ∧ (g5 214 13) ≤ 400 := I_14.1 214 13
      have m_23 : g5 214 13 = g2 214 13 := by rw [e_13]; exact zi_u_ne (by decide)
      have m_24 : 0 ≤ (g2 214 13) ∧ (g2 214 13) ≤ 400 := I_10.1 214 13
      have m_25 : g2 214 13 = g 214 13 := F_11 _ _ (by unfold fr_M_readTold; omega)
      refine k_M_reads I_14 (by omega) (fun g12 I_30 F_31 b_26 b_27 b_28 b_29 => ?_)
      have F_32 : zk_fr fr_M_readDeed g g12 := zk_ft F_15 F_31 (fun a i => (fun h => Or.elim h (fun h => (Or.inr (Or.inl h))) (fun h => Or.elim h (fun h => (Or.inr (Or.inr (Or.inl h)))) (fun h => Or.elim h (fun h => (Or.inr (Or.inr (Or.inr (Or.inl h))))) (fun h => (Or.inr (Or.inr (Or.inr (Or.inr (Or.inl h))))))))))
      refine ⟨⟨by omega, by omega⟩, ?_⟩
      intro g15 e_33
      have I_34 : zk_I g15 := by rw [e_33]; exact zk_u234 I_30 (by omega) ⟨by omega, by omega⟩
      have F_35 : zk_fr fr_M_readDeed g g15 := by rw [e_33]; exact zk_fu F_32 (Or.inl rfl)
      have m_40 : 0 ≤ (g15 214 7) ∧ (g15 214 7) ≤ 8 := I_34.1 214 7
      have m_41 : g15 214 7 = g12 214 7 := by rw [e_33]; exact zi_u_ne (by decide)
      have m_42 : 0 ≤ (g12 214 7) ∧ (g12 214 7) ≤ 8 := I_30.1 214 7
      have m_43 : g12 214 7 = g5 214 7 := F_31 _ _ (by unfold fr_M_reads; omega)
      have m_44 : 0 ≤ (g5 214 7) ∧ (g5 214 7) ≤ 8 := I_14.1 214 7
      have m_45 : g5 214 7 = g2 214 7 := by rw [e_13]; exact zi_u_ne (by decide)
      have m_46 : 0 ≤ (g2 214 7) ∧ (g2 214 7) ≤ 8 := I_10.1 214 7
      have m_47 : g2 214 7 = g 214 7 := F_11 _ _ (by unfold fr_M_readTold; omega)
      have m_48 : 0 ≤ (g 214 7) ∧ (g 214 7) ≤ 8 := I.1 214 7
      have m_49 : 0 ≤ (g15 214 6) ∧ (g15 214 6) ≤ 10 := I_34.1 214 6
      have m_50 : g15 214 6 = g12 214 6 := by rw [e_33]; exact zi_u_ne (by decide)
      have m_51 : 0 ≤ (g12 214 6) ∧ (g12 214 6) ≤ 10 := I_30.1 214 6
      have m_52 : g12 214 6 = g5 214 6 := F_31 _ _ (by unfold fr_M_reads; omega)
      have m_53 : 0 ≤ (g5 214 6) ∧ (g5 214 6) ≤ 10 := I_14.1 214 6
      have m_54 : g5 214 6 = g2 214 6 := by rw [e_13]; exact zi_u_ne (by decide)
      have m_55 : 0 ≤ (g2 214 6) ∧ (g2 214 6) ≤ 10 := I_10.1 214 6
      have m_56 : g2 214 6 = g 214 6 := F_11 _ _ (by unfold fr_M_readTold; omega)
      have m_57 : 0 ≤ (g 214 6) ∧ (g 214 6) ≤ 10 := I.1 214 6
      refine k_M_mostFor I_34 ⟨by omega, by omega⟩ (fun v16 b_36 b_37 b_38 b_39 => ?_)
      have m_58 : 0 ≤ (g15 214 14) ∧ (g15 214 14) ≤ 400 := I_34.1 214 14
      have m_59 : g15 214 14 = g12 214 14 := by rw [e_33]; exact zi_u_ne (by decide)
      have m_60 : 0 ≤ (g12 214 14) ∧ (g12 214 14) ≤ 400 := I_30.1 214 14
      have m_61 : 0 ≤ (g15 214 13) ∧ (g15 214 13) ≤ 400 := I_34.1 214 13
      have m_62 : g15 214 13 = g12 214 13 := by rw [e_33]; exact zi_u_ne (by decide)
      have m_63 : 0 ≤ (g12 214 13) ∧ (g12 214 13) ≤ 400 := I_30.1 214 13
      have m_64 : g12 214 13 = g5 214 13 := F_31 _ _ (by unfold fr_M_reads; omega)
      have m_65 : 0 ≤ (g15 214 15) ∧ (g15 214 15) ≤ 400 := I_34.1 214 15
      have m_66 : g15 214 15 = g12 214 15 := by rw [e_33]; exact zi_u_ne (by decide)
      have m_67 : 0 ≤ (g12 214 15) ∧ (g12 214 15) ≤ 400 := I_30.1 214 15
      refine k_M_readNumber I_34 ⟨by omega, by omega⟩ ⟨by omega, by omega⟩ (by omega) (by omega) (by repeat first | assumption | refine zt3_u (by assumption) (by decide) ?_ | refine (by assumption : zt3 _ → zt3 _) ?_) (fun v19 g20 I_74 F_75 b_68 b_69 b_70 b_71 b_72 b_73 => ?_)
      have F_76 : zk_fr fr_M_readDeed g g20 := zk_ft F_35 F_75 (fun a i => (fun h => Or.elim h (fun h => (Or.inr (Or.inl h))) (fun h => Or.elim h (fun h => (Or.inr (Or.inr (Or.inl h)))) (fun h => Or.elim h (fun h => (Or.inr (Or.inr (Or.inr (Or.inl h))))) (fun h => Or.elim h (fun h => (Or.inr (Or.inr (Or.inr (Or.inr (Or.inl h)))))) (fun h => Or.elim h (fun h => (Or.inr (Or.inr (Or.inr (Or.inr (Or.inr (Or.inl h))))))) (fun h => (Or.inr (Or.inr (Or.inr (Or.inr (Or.inr (Or.inr h)))))))))))))
      refine ⟨⟨by omega, by omega⟩, ?_⟩
      intro g23 e_77
      have I_78 : zk_I g23 := by rw [e_77]; exact zk_u234 I_74 (by omega) ⟨by omega, by omega⟩
      have F_79 : zk_fr fr_M_readDeed g g23 := by rw [e_77]; exact zk_fu F_76 (Or.inl rfl)
      have m_80 : (-2147483648) ≤ (g23 234 (l1 + 2)) ∧ (g23 234 (l1 + 2)) ≤ 2147483647 := I_78.1 234 (l1 + 2)
      have m_81 : g23 234 (l1 + 2) = v19 := by rw [e_77]; exact zi_u_eq
      refine ⟨⟨by omega, by omega⟩, ?_⟩
      refine ⟨fun c65 => ?_, fun c65 => ?_⟩
      · refine ⟨fun c64 => ?_, fun c64 => ?_⟩
        · have m_82 : 0 ≤ (g23 214 6) ∧ (g23 214 6) ≤ 10 := I_78.1 214 6
          have m_83 : g23 214 6 = g20 214 6 := by rw [e_77]; exact zi_u_ne (by decide)
          have m_84 : 0 ≤ (g20 214 6) ∧ (g20 214 6) ≤ 10 := I_74.1 214 6
          have m_85 : g20 214 6 = g15 214 6 := F_75 _ _ (by unfold fr_M_readNumber; omega)
          have m_86 : 0 ≤ (g23 214 14) ∧ (g23 214 14) ≤ 400 := I_78.1 214 14
          have m_87 : g23 214 14 = g20 214 14 := by rw [e_77]; exact zi_u_ne (by decide)
          have m_88 : 0 ≤ (g20 214 14) ∧ (g20 214 14) ≤ 400 := I_74.1 214 14
          have m_89 : 0 ≤ (g23 214 13) ∧ (g23 214 13) ≤ 400 := I_78.1 214 13
          have m_90 : g23 214 13 = g20 214 13 := by rw [e_77]; exact zi_u_ne (by decide)
          have m_91 : 0 ≤ (g20 214 13) ∧ (g20 214 13) ≤ 400 := I_74.1 214 13
          have m_92 : g20 214 13 = g15 214 13 := F_75 _ _ (by unfold fr_M_readNumber; omega)
          have m_93 : 0 ≤ (g23 214 15) ∧ (g23 214 15) ≤ 400 := I_78.1 214 15
          have m_94 : g23 214 15 = g20 214 15 := by rw [e_77]; exact zi_u_ne (by decide)
          have m_95 : 0 ≤ (g20 214 15) ∧ (g20 214 15) ≤ 400 := I_74.1 214 15
          refine k_M_readTold I_78 ⟨by omega, by omega⟩ ⟨by omega, by omega⟩ ⟨by omega, by omega⟩ (by omega) (by omega) (by repeat first | assumption | refine zt3_u (by assumption) (by decide) ?_ | refine (by assumption : zt3 _ → zt3 _) ?_) (fun v25 g26 I_102 F_103 b_96 b_97 b_98 b_99 b_100 b_101 => ?_)
          have F_104 : zk_fr fr_M_readDeed g g26 := zk_ft F_79 F_103 (fun a i => (fun h => Or.elim h (fun h => (Or.inr (Or.inl h))) (fun h => Or.elim h (fun h => (Or.inr (Or.inr (Or.inl h)))) (fun h => Or.elim h (fun h => (Or.inr (Or.inr (Or.inr (Or.inl h))))) (fun h => Or.elim h (fun h => (Or.inr (Or.inr (Or.inr (Or.inr (Or.inl h)))))) (fun h => Or.elim h (fun h => (Or.inr (Or.inr (Or.inr (Or.inr (Or.inr (Or.inl h))))))) (fun h => (Or.inr (Or.inr (Or.inr (Or.inr (Or.inr (Or.inr h)))))))))))))
          refine ⟨⟨by omega, by omega⟩, ?_⟩
          intro g29 e_105
          have I_106 : zk_I g29 := by rw [e_105]; exact zk_u234 I_102 (by omega) ⟨by omega, by omega⟩
          have F_107 : zk_fr fr_M_readDeed g g29 := by rw [e_105]; exact zk_fu F_104 (Or.inl rfl)
          have m_108 : (-2147483648) ≤ (g29 234 (l1 + 3)) ∧ (g29 234 (l1 + 3)) ≤ 2147483647 := I_106.1 234 (l1 + 3)
          have m_109 : g29 234 (l1 + 3) = v25 := by rw [e_105]; exact zi_u_eq
          refine ⟨⟨by omega, by omega⟩, ?_⟩
          refine ⟨fun c34 => ?_, fun c34 => ?_⟩
          · have m_110 : 0 ≤ (g29 214 14) ∧ (g29 214 14) ≤ 400 := I_106.1 214 14
            have m_111 : g29 214 14 = g26 214 14 := by rw [e_105]; exact zi_u_ne (by decide)
            have m_112 : 0 ≤ (g26 214 14) ∧ (g26 214 14) ≤ 400 := I_102.1 214 14
            have m_113 : 0 ≤ (g29 214 13) ∧ (g29 214 13) ≤ 400 := I_106.1 214 13
            have m_114 : g29 214 13 = g26 214 13 := by rw [e_105]; exact zi_u_ne (by decide)
            have m_115 : 0 ≤ (g26 214 13) ∧ (g26 214 13) ≤ 400 := I_102.1 214 13
            have m_116 : g26 214 13 = g23 214 13 := F_103 _ _ (by unfold fr_M_readTold; omega)
            have m_117 : 0 ≤ (g29 214 15) ∧ (g29 214 15) ≤ 400 := I_106.1 214 15
            have m_118 : g29 214 15 = g26 214 15 := by rw [e_105]; exact zi_u_ne (by decide)
            have m_119 : 0 ≤ (g26 214 15) ∧ (g26 214 15) ≤ 400 := I_102.1 214 15
            refine k_M_readMark I_106 ⟨by omega, by omega⟩ (by omega) (by omega) (by repeat first | assumption | refine zt3_u (by assumption) (by decide) ?_ | refine (by assumption : zt3 _ → zt3 _) ?_) (fun v31 g32 I_125 F_126 b_120 b_121 b_122 b_123 b_124 => ?_)
            have F_127 : zk_fr fr_M_readDeed g g32 := zk_ft F_107 F_126 (fun a i => (fun h => Or.elim h (fun h => (Or.inr (Or.inl h))) (fun h => Or.elim h (fun h => (Or.inr (Or.inr (Or.inl h)))) (fun h => Or.elim h (fun h => (Or.inr (Or.inr (Or.inr (Or.inl h))))) (fun h => Or.elim h (fun h => (Or.inr (Or.inr (Or.inr (Or.inr (Or.inl h)))))) (fun h => Or.elim h (fun h => (Or.inr (Or.inr (Or.inr (Or.inr (Or.inr (Or.inl h))))))) (fun h => (Or.inr (Or.inr (Or.inr (Or.inr (Or.inr (Or.inr h)))))))))))))
            have m_128 : 0 ≤ (g32 214 14) ∧ (g32 214 14) ≤ 400 := I_125.1 214 14
            have m_129 : 0 ≤ (g32 214 13) ∧ (g32 214 13) ≤ 400 := I_125.1 214 13
            have m_130 : g32 214 13 = g29 214 13 := F_126 _ _ (by unfold fr_M_readMark; omega)
            have m_131 : 0 ≤ (g32 214 15) ∧ (g32 214 15) ≤ 400 := I_125.1 214 15
            have m_132 : (-2147483648) ≤ (g32 234 (l1 + 1)) ∧ (g32 234 (l1 + 1)) ≤ 2147483647 := I_125.1 234 (l1 + 1)
            have m_133 : g32 234 (l1 + 1) = g29 234 (l1 + 1) := F_126 _ _ (by unfold fr_M_readMark; omega)
            have m_134 : (-2147483648) ≤ (g29 234 (l1 + 1)) ∧ (g29 234 (l1 + 1)) ≤ 2147483647 := I_106.1 234 (l1 + 1)
            have m_135 : (-2147483648) ≤ (g26 234 (l1 + 1)) ∧ (g26 234 (l1 + 1)) ≤ 2147483647 := I_102.1 234 (l1 + 1)
            have m_136 : g26 234 (l1 + 1) = g23 234 (l1 + 1) := F_103 _ _ (by unfold fr_M_readTold; omega)
            have m_137 : (-2147483648) ≤ (g23 234 (l1 + 1)) ∧ (g23 234 (l1 + 1)) ≤ 2147483647 := I_78.1 234 (l1 + 1)
            have m_138 : (-2147483648) ≤ (g20 234 (l1 + 1)) ∧ (g20 234 (l1 + 1)) ≤ 2147483647 := I_74.1 234 (l1 + 1)
            have m_139 : g20 234 (l1 + 1) = g15 234 (l1 + 1) := F_75 _ _ (by unfold fr_M_readNumber; omega)
            have m_140 : (-2147483648) ≤ (g15 234 (l1 + 1)) ∧ (g15 234 (l1 + 1)) ≤ 2147483647 := I_34.1 234 (l1 + 1)
            have m_141 : g15 234 (l1 + 1) = v7 := by rw [e_33]; exact zi_u_eq
            have m_142 : (l1 + 1 = l1 + 2 → g23 234 (l1 + 1) = v19) ∧ (¬ l1 + 1 = l1 + 2 → g23 234 (l1 + 1) = g20 234 (l1 + 1)) := by rw [e_77]; exact zi_u_if
            have m_143 : (l1 + 1 = l1 + 3 → g29 234 (l1 + 1) = v25) ∧ (¬ l1 + 1 = l1 + 3 → g29 234 (l1 + 1) = g26 234 (l1 + 1)) := by rw [e_105]; exact zi_u_if
            have m_144 : (-2147483648) ≤ (g32 234 (l1 + 2)) ∧ (g32 234 (l1 + 2)) ≤ 2147483647 := I_125.1 234 (l1 + 2)
            have m_145 : g32 234 (l1 + 2) = g29 234 (l1 + 2) := F_126 _ _ (by unfold fr_M_readMark; omega)
            have m_146 : (-2147483648) ≤ (g29 234 (l1 + 2)) ∧ (g29 234 (l1 + 2)) ≤ 2147483647 := I_106.1 234 (l1 + 2)
            have m_147 : (-2147483648) ≤ (g26 234 (l1 + 2)) ∧ (g26 234 (l1 + 2)) ≤ 2147483647 := I_102.1 234 (l1 + 2)
            have m_148 : g26 234 (l1 + 2) = g23 234 (l1 + 2) := F_103 _ _ (by unfold fr_M_readTold; omega)
            have m_149 : (l1 + 2 = l1 + 3 → g29 234 (l1 + 2) = v25) ∧ (¬ l1 + 2 = l1 + 3 → g29 234 (l1 + 2) = g26 234 (l1 + 2)) := by rw [e_105]; exact zi_u_if
            have m_150 : (-2147483648) ≤ (g32 234 (l1 + 3)) ∧ (g32 234 (l1 + 3)) ≤ 2147483647 := I_125.1 234 (l1 + 3)
            have m_151 : g32 234 (l1 + 3) = g29 234 (l1 + 3) := F_126 _ _ (by unfold fr_M_readMark; omega)
            have z_171 : ∀ i : Int, i < l1 → g32 234 i = g 234 i := by
              intro i hi
              have m_152 : (-2147483648) ≤ (g32 234 i) ∧ (g32 234 i) ≤ 2147483647 := I_125.1 234 i
              have m_153 : g32 234 i = g29 234 i := F_126 _ _ (by unfold fr_M_readMark; omega)
              have m_154 : (-2147483648) ≤ (g29 234 i) ∧ (g29 234 i) ≤ 2147483647 := I_106.1 234 i
              have m_155 : (-2147483648) ≤ (g26 234 i) ∧ (g26 234 i) ≤ 2147483647 := I_102.1 234 i
              have m_156 : g26 234 i = g23 234 i := F_103 _ _ (by unfold fr_M_readTold; omega)
              have m_157 : (-2147483648) ≤ (g23 234 i) ∧ (g23 234 i) ≤ 2147483647 := I_78.1 234 i
              have m_158 : (-2147483648) ≤ (g20 234 i) ∧ (g20 234 i) ≤ 2147483647 := I_74.1 234 i
              have m_159 : g20 234 i = g15 234 i := F_75 _ _ (by unfold fr_M_readNumber; omega)
              have m_160 : (-2147483648) ≤ (g15 234 i) ∧ (g15 234 i) ≤ 2147483647 := I_34.1 234 i
              have m_161 : (-2147483648) ≤ (g12 234 i) ∧ (g12 234 i) ≤ 2147483647 := I_30.1 234 i
              have m_162 : g12 234 i = g5 234 i := F_31 _ _ (by unfold fr_M_reads; omega)
              have m_163 : (-2147483648) ≤ (g5 234 i) ∧ (g5 234 i) ≤ 2147483647 := I_14.1 234 i
              have m_164 : (-2147483648) ≤ (g2 234 i) ∧ (g2 234 i) ≤ 2147483647 := I_10.1 234 i
              have m_165 : g2 234 i = g 234 i := F_11 _ _ (by unfold fr_M_readTold; omega)
              have m_166 : (-2147483648) ≤ (g 234 i) ∧ (g 234 i) ≤ 2147483647 := I.1 234 i
              have m_167 : (i = l1 → g5 234 i = v1) ∧ (¬ i = l1 → g5 234 i = g2 234 i) := by rw [e_13]; exact zi_u_if
              have m_168 : (i = l1 + 1 → g15 234 i = v7) ∧ (¬ i = l1 + 1 → g15 234 i = g12 234 i) := by rw [e_33]; exact zi_u_if
              have m_169 : (i = l1 + 2 → g23 234 i = v19) ∧ (¬ i = l1 + 2 → g23 234 i = g20 234 i) := by rw [e_77]; exact zi_u_if
              have m_170 : (i = l1 + 3 → g29 234 i = v25) ∧ (¬ i = l1 + 3 → g29 234 i = g26 234 i) := by rw [e_105]; exact zi_u_if
              omega
            exact hQ _ _ I_125 F_127 ⟨by omega, by omega⟩ (by omega) (by omega) (by repeat first | assumption | refine zt3_u (by assumption) (by decide) ?_ | refine (by assumption : zt3 _ → zt3 _) ?_) (by omega) (by intro hv; unfold zj_deed; omega) z_171
          · have m_172 : 0 ≤ (g29 214 14) ∧ (g29 214 14) ≤ 400 := I_106.1 214 14
            have m_173 : g29 214 14 = g26 214 14 := by rw [e_105]; exact zi_u_ne (by decide)
            have m_174 : 0 ≤ (g26 214 14) ∧ (g26 214 14) ≤ 400 := I_102.1 214 14
            have m_175 : 0 ≤ (g29 214 13) ∧ (g29 214 13) ≤ 400 := I_106.1 214 13
            have m_176 : g29 214 13 = g26 214 13 := by rw [e_105]; exact zi_u_ne (by decide)
            have m_177 : 0 ≤ (g26 214 13) ∧ (g26 214 13) ≤ 400 := I_102.1 214 13
            have m_178 : g26 214 13 = g23 214 13 := F_103 _ _ (by unfold fr_M_readTold; omega)
            have m_179 : 0 ≤ (g29 214 15) ∧ (g29 214 15) ≤ 400 := I_106.1 214 15
            have m_180 : g29 214 15 = g26 214 15 := by rw [e_105]; exact zi_u_ne (by decide)
            have m_181 : 0 ≤ (g26 214 15) ∧ (g26 214 15) ≤ 400 := I_102.1 214 15
            have m_182 : (-2147483648) ≤ (g29 234 (l1 + 1)) ∧ (g29 234 (l1 + 1)) ≤ 2147483647 := I_106.1 234 (l1 + 1)
            have m_183 : (-2147483648) ≤ (g26 234 (l1 + 1)) ∧ (g26 234 (l1 + 1)) ≤ 2147483647 := I_102.1 234 (l1 + 1)
            have m_184 : g26 234 (l1 + 1) = g23 234 (l1 + 1) := F_103 _ _ (by unfold fr_M_readTold; omega)
            have m_185 : (-2147483648) ≤ (g23 234 (l1 + 1)) ∧ (g23 234 (l1 + 1)) ≤ 2147483647 := I_78.1 234 (l1 + 1)
            have m_186 : (-2147483648) ≤ (g20 234 (l1 + 1)) ∧ (g20 234 (l1 + 1)) ≤ 2147483647 := I_74.1 234 (l1 + 1)
            have m_187 : g20 234 (l1 + 1) = g15 234 (l1 + 1) := F_75 _ _ (by unfold fr_M_readNumber; omega)
            have m_188 : (-2147483648) ≤ (g15 234 (l1 + 1)) ∧ (g15 234 (l1 + 1)) ≤ 2147483647 := I_34.1 234 (l1 + 1)
            have m_189 : g15 234 (l1 + 1) = v7 := by rw [e_33]; exact zi_u_eq
            have m_190 : (l1 + 1 = l1 + 2 → g23 234 (l1 + 1) = v19) ∧ (¬ l1 + 1 = l1 + 2 → g23 234 (l1 + 1) = g20 234 (l1 + 1)) := by rw [e_77]; exact zi_u_if
            have m_191 : (l1 + 1 = l1 + 3 → g29 234 (l1 + 1) = v25) ∧ (¬ l1 + 1 = l1 + 3 → g29 234 (l1 + 1) = g26 234 (l1 + 1)) := by rw [e_105]; exact zi_u_if
            have m_192 : (-2147483648) ≤ (g29 234 (l1 + 2)) ∧ (g29 234 (l1 + 2)) ≤ 2147483647 := I_106.1 234 (l1 + 2)
            have m_193 : (-2147483648) ≤ (g26 234 (l1 + 2)) ∧ (g26 234 (l1 + 2)) ≤ 2147483647 := I_102.1 234 (l1 + 2)
            have m_194 : g26 234 (l1 + 2) = g23 234 (l1 + 2) := F_103 _ _ (by unfold fr_M_readTold; omega)
            have m_195 : (l1 + 2 = l1 + 3 → g29 234 (l1 + 2) = v25) ∧ (¬ l1 + 2 = l1 + 3 → g29 234 (l1 + 2) = g26 234 (l1 + 2)) := by rw [e_105]; exact zi_u_if
            have z_213 : ∀ i : Int, i < l1 → g29 234 i = g 234 i := by
              intro i hi
              have m_196 : (-2147483648) ≤ (g29 234 i) ∧ (g29 234 i) ≤ 2147483647 := I_106.1 234 i
              have m_197 : (-2147483648) ≤ (g26 234 i) ∧ (g26 234 i) ≤ 2147483647 := I_102.1 234 i
              have m_198 : g26 234 i = g23 234 i := F_103 _ _ (by unfold fr_M_readTold; omega)
              have m_199 : (-2147483648) ≤ (g23 234 i) ∧ (g23 234 i) ≤ 2147483647 := I_78.1 234 i
              have m_200 : (-2147483648) ≤ (g20 234 i) ∧ (g20 234 i) ≤ 2147483647 := I_74.1 234 i
              have m_201 : g20 234 i = g15 234 i := F_75 _ _ (by unfold fr_M_readNumber; omega)
              have m_202 : (-2147483648) ≤ (g15 234 i) ∧ (g15 234 i) ≤ 2147483647 := I_34.1 234 i
              have m_203 : (-2147483648) ≤ (g12 234 i) ∧ (g12 234 i) ≤ 2147483647 := I_30.1 234 i
              have m_204 : g12 234 i = g5 234 i := F_31 _ _ (by unfold fr_M_reads; omega)
              have m_205 : (-2147483648) ≤ (g5 234 i) ∧ (g5 234 i) ≤ 2147483647 := I_14.1 234 i
              have m_206 : (-2147483648) ≤ (g2 234 i) ∧ (g2 234 i) ≤ 2147483647 := I_10.1 234 i
              have m_207 : g2 234 i = g 234 i := F_11 _ _ (by unfold fr_M_readTold; omega)
              have m_208 : (-2147483648) ≤ (g 234 i) ∧ (g 234 i) ≤ 2147483647 := I.1 234 i
              have m_209 : (i = l1 → g5 234 i = v1) ∧ (¬ i = l1 → g5 234 i = g2 234 i) := by rw [e_13]; exact zi_u_if
              have m_210 : (i = l1 + 1 → g15 234 i = v7) ∧ (¬ i = l1 + 1 → g15 234 i = g12 234 i) := by rw [e_33]; exact zi_u_if
              have m_211 : (i = l1 + 2 → g23 234 i = v19) ∧ (¬ i = l1 + 2 → g23 234 i = g20 234 i) := by rw [e_77]; exact zi_u_if
              have m_212 : (i = l1 + 3 → g29 234 i = v25) ∧ (¬ i = l1 + 3 → g29 234 i = g26 234 i) := by rw [e_105]; exact zi_u_if
              omega
            exact hQ _ _ I_106 F_107 ⟨by omega, by omega⟩ (by omega) (by omega) (by repeat first | assumption | refine zt3_u (by assumption) (by decide) ?_ | refine (by assumption : zt3 _ → zt3 _) ?_) (by omega) (by intro hv; unfold zj_deed; omega) z_213
        · refine ⟨fun c63 => ?_, fun c63 => ?_⟩
          · refine ⟨fun c52 => ?_, fun c52 => ?_⟩
            · refine ⟨⟨by omega, by omega⟩, ?_⟩
              intro g36 e_214
              have I_215 : zk_I g36 := by rw [e_214]; exact zk_u234 I_78 (by omega) ⟨by omega, by omega⟩
              have F_216 : zk_fr fr_M_readDeed g g36 := by rw [e_214]; exact zk_fu F_79 (Or.inl rfl)
              have m_217 : (-2147483648) ≤ (g36 234 (l1 + 3)) ∧ (g36 234 (l1 + 3)) ≤ 2147483647 := I_215.1 234 (l1 + 3)
              have m_218 : g36 234 (l1 + 3) = 0 := by rw [e_214]; exact zi_u_eq
              refine ⟨⟨by omega, by omega⟩, ?_⟩
              refine ⟨fun c41 => ?_, fun c41 => ?_⟩
              · have m_219 : 0 ≤ (g36 214 14) ∧ (g36 214 14) ≤ 400 := I_215.1 214 14
                have m_220 : g36 214 14 = g23 214 14 := by rw [e_214]; exact zi_u_ne (by decide)
                have m_221 : 0 ≤ (g23 214 14) ∧ (g23 214 14) ≤ 400 := I_78.1 214 14
                have m_222 : g23 214 14 = g20 214 14 := by rw [e_77]; exact zi_u_ne (by decide)
                have m_223 : 0 ≤ (g20 214 14) ∧ (g20 214 14) ≤ 400 := I_74.1 214 14
                have m_224 : 0 ≤ (g36 214 13) ∧ (g36 214 13) ≤ 400 := I_215.1 214 13
                have m_225 : g36 214 13 = g23 214 13 := by rw [e_214]; exact zi_u_ne (by decide)
                have m_226 : 0 ≤ (g23 214 13) ∧ (g23 214 13) ≤ 400 := I_78.1 214 13
                have m_227 : g23 214 13 = g20 214 13 := by rw [e_77]; exact zi_u_ne (by decide)
                have m_228 : 0 ≤ (g20 214 13) ∧ (g20 214 13) ≤ 400 := I_74.1 214 13
                have m_229 : g20 214 13 = g15 214 13 := F_75 _ _ (by unfold fr_M_readNumber; omega)
                have m_230 : 0 ≤ (g36 214 15) ∧ (g36 214 15) ≤ 400 := I_215.1 214 15
                have m_231 : g36 214 15 = g23 214 15 := by rw [e_214]; exact zi_u_ne (by decide)
                have m_232 : 0 ≤ (g23 214 15) ∧ (g23 214 15) ≤ 400 := I_78.1 214 15
                have m_233 : g23 214 15 = g20 214 15 := by rw [e_77]; exact zi_u_ne (by decide)
                have m_234 : 0 ≤ (g20 214 15) ∧ (g20 214 15) ≤ 400 := I_74.1 214 15
                refine k_M_readMark I_215 ⟨by omega, by omega⟩ (by omega) (by omega) (by repeat first | assumption | refine zt3_u (by assumption) (by decide) ?_ | refine (by assumption : zt3 _ → zt3 _) ?_) (fun v38 g39 I_240 F_241 b_235 b_236 b_237 b_238 b_239 => ?_)
                have F_242 : zk_fr fr_M_readDeed g g39 := zk_ft F_216 F_241 (fun a i => (fun h => Or.elim h (fun h => (Or.inr (Or.inl h))) (fun h => Or.elim h (fun h => (Or.inr (Or.inr (Or.inl h)))) (fun h => Or.elim h (fun h => (Or.inr (Or.inr (Or.inr (Or.inl h))))) (fun h => Or.elim h (fun h => (Or.inr (Or.inr (Or.inr (Or.inr (Or.inl h)))))) (fun h => Or.elim h (fun h => (Or.inr (Or.inr (Or.inr (Or.inr (Or.inr (Or.inl h))))))) (fun h => (Or.inr (Or.inr (Or.inr (Or.inr (Or.inr (Or.inr h)))))))))))))
                have m_243 : 0 ≤ (g39 214 14) ∧ (g39 214 14) ≤ 400 := I_240.1 214 14
                have m_244 : 0 ≤ (g39 214 13) ∧ (g39 214 13) ≤ 400 := I_240.1 214 13
                have m_245 : g39 214 13 = g36 214 13 := F_241 _ _ (by unfold fr_M_readMark; omega)
                have m_246 : 0 ≤ (g39 214 15) ∧ (g39 214 15) ≤ 400 := I_240.1 214 15
                have m_247 : (-2147483648) ≤ (g39 234 (l1 + 1)) ∧ (g39 234 (l1 + 1)) ≤ 2147483647 := I_240.1 234 (l1 + 1)
                have m_248 : g39 234 (l1 + 1) = g36 234 (l1 + 1) := F_241 _ _ (by unfold fr_M_readMark; omega)
                have m_249 : (-2147483648) ≤ (g36 234 (l1 + 1)) ∧ (g36 234 (l1 + 1)) ≤ 2147483647 := I_215.1 234 (l1 + 1)
                have m_250 : (-2147483648) ≤ (g23 234 (l1 + 1)) ∧ (g23 234 (l1 + 1)) ≤ 2147483647 := I_78.1 234 (l1 + 1)
                have m_251 : (-2147483648) ≤ (g20 234 (l1 + 1)) ∧ (g20 234 (l1 + 1)) ≤ 2147483647 := I_74.1 234 (l1 + 1)
                have m_252 : g20 234 (l1 + 1) = g15 234 (l1 + 1) := F_75 _ _ (by unfold fr_M_readNumber; omega)
                have m_253 : (-2147483648) ≤ (g15 234 (l1 + 1)) ∧ (g15 234 (l1 + 1)) ≤ 2147483647 := I_34.1 234 (l1 + 1)
                have m_254 : g15 234 (l1 + 1) = v7 := by rw [e_33]; exact zi_u_eq
                have m_255 : (l1 + 1 = l1 + 2 → g23 234 (l1 + 1) = v19) ∧ (¬ l1 + 1 = l1 + 2 → g23 234 (l1 + 1) = g20 234 (l1 + 1)) := by rw [e_77]; exact zi_u_if
                have m_256 : (l1 + 1 = l1 + 3 → g36 234 (l1 + 1) = 0) ∧ (¬ l1 + 1 = l1 + 3 → g36 234 (l1 + 1) = g23 234 (l1 + 1)) := by rw [e_214]; exact zi_u_if
                have m_257 : (-2147483648) ≤ (g39 234 (l1 + 2)) ∧ (g39 234 (l1 + 2)) ≤ 2147483647 := I_240.1 234 (l1 + 2)
                have m_258 : g39 234 (l1 + 2) = g36 234 (l1 + 2) := F_241 _ _ (by unfold fr_M_readMark; omega)
                have m_259 : (-2147483648) ≤ (g36 234 (l1 + 2)) ∧ (g36 234 (l1 + 2)) ≤ 2147483647 := I_215.1 234 (l1 + 2)
                have m_260 : (l1 + 2 = l1 + 3 → g36 234 (l1 + 2) = 0) ∧ (¬ l1 + 2 = l1 + 3 → g36 234 (l1 + 2) = g23 234 (l1 + 2)) := by rw [e_214]; exact zi_u_if
                have m_261 : (-2147483648) ≤ (g39 234 (l1 + 3)) ∧ (g39 234 (l1 + 3)) ≤ 2147483647 := I_240.1 234 (l1 + 3)
                have m_262 : g39 234 (l1 + 3) = g36 234 (l1 + 3) := F_241 _ _ (by unfold fr_M_readMark; omega)
                have z_280 : ∀ i : Int, i < l1 → g39 234 i = g 234 i := by
                  intro i hi
                  have m_263 : (-2147483648) ≤ (g39 234 i) ∧ (g39 234 i) ≤ 2147483647 := I_240.1 234 i
                  have m_264 : g39 234 i = g36 234 i := F_241 _ _ (by unfold fr_M_readMark; omega)
                  have m_265 : (-2147483648) ≤ (g36 234 i) ∧ (g36 234 i) ≤ 2147483647 := I_215.1 234 i
                  have m_266 : (-2147483648) ≤ (g23 234 i) ∧ (g23 234 i) ≤ 2147483647 := I_78.1 234 i
                  have m_267 : (-2147483648) ≤ (g20 234 i) ∧ (g20 234 i) ≤ 2147483647 := I_74.1 234 i
                  have m_268 : g20 234 i = g15 234 i := F_75 _ _ (by unfold fr_M_readNumber; omega)
                  have m_269 : (-2147483648) ≤ (g15 234 i) ∧ (g15 234 i) ≤ 2147483647 := I_34.1 234 i
                  have m_270 : (-2147483648) ≤ (g12 234 i) ∧ (g12 234 i) ≤ 2147483647 := I_30.1 234 i
                  have m_271 : g12 234 i = g5 234 i := F_31 _ _ (by unfold fr_M_reads; omega)
                  have m_272 : (-2147483648) ≤ (g5 234 i) ∧ (g5 234 i) ≤ 2147483647 := I_14.1 234 i
                  have m_273 : (-2147483648) ≤ (g2 234 i) ∧ (g2 234 i) ≤ 2147483647 := I_10.1 234 i
                  have m_274 : g2 234 i = g 234 i := F_11 _ _ (by unfold fr_M_readTold; omega)
                  have m_275 : (-2147483648) ≤ (g 234 i) ∧ (g 234 i) ≤ 2147483647 := I.1 234 i
                  have m_276 : (i = l1 → g5 234 i = v1) ∧ (¬ i = l1 → g5 234 i = g2 234 i) := by rw [e_13]; exact zi_u_if
                  have m_277 : (i = l1 + 1 → g15 234 i = v7) ∧ (¬ i = l1 + 1 → g15 234 i = g12 234 i) := by rw [e_33]; exact zi_u_if
                  have m_278 : (i = l1 + 2 → g23 234 i = v19) ∧ (¬ i = l1 + 2 → g23 234 i = g20 234 i) := by rw [e_77]; exact zi_u_if
                  have m_279 : (i = l1 + 3 → g36 234 i = 0) ∧ (¬ i = l1 + 3 → g36 234 i = g23 234 i) := by rw [e_214]; exact zi_u_if
                  omega
                exact hQ _ _ I_240 F_242 ⟨by omega, by omega⟩ (by omega) (by omega) (by repeat first | assumption | refine zt3_u (by assumption) (by decide) ?_ | refine (by assumption : zt3 _ → zt3 _) ?_) (by omega) (by intro hv; unfold zj_deed; omega) z_280
              · have m_281 : 0 ≤ (g36 214 14) ∧ (g36 214 14) ≤ 400 := I_215.1 214 14
                have m_282 : g36 214 14 = g23 214 14 := by rw [e_214]; exact zi_u_ne (by decide)
                have m_283 : 0 ≤ (g23 214 14) ∧ (g23 214 14) ≤ 400 := I_78.1 214 14
                have m_284 : g23 214 14 = g20 214 14 := by rw [e_77]; exact zi_u_ne (by decide)
                have m_285 : 0 ≤ (g20 214 14) ∧ (g20 214 14) ≤ 400 := I_74.1 214 14
                have m_286 : 0 ≤ (g36 214 13) ∧ (g36 214 13) ≤ 400 := I_215.1 214 13
                have m_287 : g36 214 13 = g23 214 13 := by rw [e_214]; exact zi_u_ne (by decide)
                have m_288 : 0 ≤ (g23 214 13) ∧ (g23 214 13) ≤ 400 := I_78.1 214 13
                have m_289 : g23 214 13 = g20 214 13 := by rw [e_77]; exact zi_u_ne (by decide)
                have m_290 : 0 ≤ (g20 214 13) ∧ (g20 214 13) ≤ 400 := I_74.1 214 13
                have m_291 : g20 214 13 = g15 214 13 := F_75 _ _ (by unfold fr_M_readNumber; omega)
                have m_292 : 0 ≤ (g36 214 15) ∧ (g36 214 15) ≤ 400 := I_215.1 214 15
                have m_293 : g36 214 15 = g23 214 15 := by rw [e_214]; exact zi_u_ne (by decide)
                have m_294 : 0 ≤ (g23 214 15) ∧ (g23 214 15) ≤ 400 := I_78.1 214 15
                have m_295 : g23 214 15 = g20 214 15 := by rw [e_77]; exact zi_u_ne (by decide)
                have m_296 : 0 ≤ (g20 214 15) ∧ (g20 214 15) ≤ 400 := I_74.1 214 15
                have m_297 : (-2147483648) ≤ (g36 234 (l1 + 1)) ∧ (g36 234 (l1 + 1)) ≤ 2147483647 := I_215.1 234 (l1 + 1)
                have m_298 : (-2147483648) ≤ (g23 234 (l1 + 1)) ∧ (g23 234 (l1 + 1)) ≤ 2147483647 := I_78.1 234 (l1 + 1)
                have m_299 : (-2147483648) ≤ (g20 234 (l1 + 1)) ∧ (g20 234 (l1 + 1)) ≤ 2147483647 := I_74.1 234 (l1 + 1)
                have m_300 : g20 234 (l1 + 1) = g15 234 (l1 + 1) := F_75 _ _ (by unfold fr_M_readNumber; omega)
                have m_301 : (-2147483648) ≤ (g15 234 (l1 + 1)) ∧ (g15 234 (l1 + 1)) ≤ 2147483647 := I_34.1 234 (l1 + 1)
                have m_302 : g15 234 (l1 + 1) = v7 := by rw [e_33]; exact zi_u_eq
                have m_303 : (l1 + 1 = l1 + 2 → g23 234 (l1 + 1) = v19) ∧ (¬ l1 + 1 = l1 + 2 → g23 234 (l1 + 1) = g20 234 (l1 + 1)) := by rw [e_77]; exact zi_u_if
                have m_304 : (l1 + 1 = l1 + 3 → g36 234 (l1 + 1) = 0) ∧ (¬ l1 + 1 = l1 + 3 → g36 234 (l1 + 1) = g23 234 (l1 + 1)) := by rw [e_214]; exact zi_u_if
                have m_305 : (-2147483648) ≤ (g36 234 (l1 + 2)) ∧ (g36 234 (l1 + 2)) ≤ 2147483647 := I_215.1 234 (l1 + 2)
                have m_306 : (l1 + 2 = l1 + 3 → g36 234 (l1 + 2) = 0) ∧ (¬ l1 + 2 = l1 + 3 → g36 234 (l1 + 2) = g23 234 (l1 + 2)) := by rw [e_214]; exact zi_u_if
                have z_322 : ∀ i : Int, i < l1 → g36 234 i = g 234 i := by
                  intro i hi
                  have m_307 : (-2147483648) ≤ (g36 234 i) ∧ (g36 234 i) ≤ 2147483647 := I_215.1 234 i
                  have m_308 : (-2147483648) ≤ (g23 234 i) ∧ (g23 234 i) ≤ 2147483647 := I_78.1 234 i
                  have m_309 : (-2147483648) ≤ (g20 234 i) ∧ (g20 234 i) ≤ 2147483647 := I_74.1 234 i
                  have m_310 : g20 234 i = g15 234 i := F_75 _ _ (by unfold fr_M_readNumber; omega)
                  have m_311 : (-2147483648) ≤ (g15 234 i) ∧ (g15 234 i) ≤ 2147483647 := I_34.1 234 i
                  have m_312 : (-2147483648) ≤ (g12 234 i) ∧ (g12 234 i) ≤ 2147483647 := I_30.1 234 i
                  have m_313 : g12 234 i = g5 234 i := F_31 _ _ (by unfold fr_M_reads; omega)
                  have m_314 : (-2147483648) ≤ (g5 234 i) ∧ (g5 234 i) ≤ 2147483647 := I_14.1 234 i
                  have m_315 : (-2147483648) ≤ (g2 234 i) ∧ (g2 234 i) ≤ 2147483647 := I_10.1 234 i
                  have m_316 : g2 234 i = g 234 i := F_11 _ _ (by unfold fr_M_readTold; omega)
                  have m_317 : (-2147483648) ≤ (g 234 i) ∧ (g 234 i) ≤ 2147483647 := I.1 234 i
                  have m_318 : (i = l1 → g5 234 i = v1) ∧ (¬ i = l1 → g5 234 i = g2 234 i) := by rw [e_13]; exact zi_u_if
                  have m_319 : (i = l1 + 1 → g15 234 i = v7) ∧ (¬ i = l1 + 1 → g15 234 i = g12 234 i) := by rw [e_33]; exact zi_u_if
                  have m_320 : (i = l1 + 2 → g23 234 i = v19) ∧ (¬ i = l1 + 2 → g23 234 i = g20 234 i) := by rw [e_77]; exact zi_u_if
                  have m_321 : (i = l1 + 3 → g36 234 i = 0) ∧ (¬ i = l1 + 3 → g36 234 i = g23 234 i) := by rw [e_214]; exact zi_u_if
                  omega
                exact hQ _ _ I_215 F_216 ⟨by omega, by omega⟩ (by omega) (by omega) (by repeat first | assumption | refine zt3_u (by assumption) (by decide) ?_ | refine (by assumption : zt3 _ → zt3 _) ?_) (by omega) (by intro hv; unfold zj_deed; omega) z_322
            · have m_323 : 0 ≤ (g23 214 14) ∧ (g23 214 14) ≤ 400 := I_78.1 214 14
              have m_324 : g23 214 14 = g20 214 14 := by rw [e_77]; exact zi_u_ne (by decide)
              have m_325 : 0 ≤ (g20 214 14) ∧ (g20 214 14) ≤ 400 := I_74.1 214 14
              have m_326 : 0 ≤ (g23 214 13) ∧ (g23 214 13) ≤ 400 := I_78.1 214 13
              have m_327 : g23 214 13 = g20 214 13 := by rw [e_77]; exact zi_u_ne (by decide)
              have m_328 : 0 ≤ (g20 214 13) ∧ (g20 214 13) ≤ 400 := I_74.1 214 13
              have m_329 : g20 214 13 = g15 214 13 := F_75 _ _ (by unfold fr_M_readNumber; omega)
              have m_330 : 0 ≤ (g23 214 15) ∧ (g23 214 15) ≤ 400 := I_78.1 214 15
              have m_331 : g23 214 15 = g20 214 15 := by rw [e_77]; exact zi_u_ne (by decide)
              have m_332 : 0 ≤ (g20 214 15) ∧ (g20 214 15) ≤ 400 := I_74.1 214 15
              refine k_M_readNumber I_78 ⟨by omega, by omega⟩ ⟨by omega, by omega⟩ (by omega) (by omega) (by repeat first | assumption | refine zt3_u (by assumption) (by decide) ?_ | refine (by assumption : zt3 _ → zt3 _) ?_) (fun v42 g43 I_339 F_340 b_333 b_334 b_335 b_336 b_337 b_338 => ?_)
              have F_341 : zk_fr fr_M_readDeed g g43 := zk_ft F_79 F_340 (fun a i => (fun h => Or.elim h (fun h => (Or.inr (Or.inl h))) (fun h => Or.elim h (fun h => (Or.inr (Or.inr (Or.inl h)))) (fun h => Or.elim h (fun h => (Or.inr (Or.inr (Or.inr (Or.inl h))))) (fun h => Or.elim h (fun h => (Or.inr (Or.inr (Or.inr (Or.inr (Or.inl h)))))) (fun h => Or.elim h (fun h => (Or.inr (Or.inr (Or.inr (Or.inr (Or.inr (Or.inl h))))))) (fun h => (Or.inr (Or.inr (Or.inr (Or.inr (Or.inr (Or.inr h)))))))))))))
              refine ⟨⟨by omega, by omega⟩, ?_⟩
              intro g46 e_342
              have I_343 : zk_I g46 := by rw [e_342]; exact zk_u234 I_339 (by omega) ⟨by omega, by omega⟩
              have F_344 : zk_fr fr_M_readDeed g g46 := by rw [e_342]; exact zk_fu F_341 (Or.inl rfl)
              have m_345 : (-2147483648) ≤ (g46 234 (l1 + 3)) ∧ (g46 234 (l1 + 3)) ≤ 2147483647 := I_343.1 234 (l1 + 3)
              have m_346 : g46 234 (l1 + 3) = v42 := by rw [e_342]; exact zi_u_eq
              refine ⟨⟨by omega, by omega⟩, ?_⟩
              refine ⟨fun c51 => ?_, fun c51 => ?_⟩
              · have m_347 : 0 ≤ (g46 214 14) ∧ (g46 214 14) ≤ 400 := I_343.1 214 14
                have m_348 : g46 214 14 = g43 214 14 := by rw [e_342]; exact zi_u_ne (by decide)
                have m_349 : 0 ≤ (g43 214 14) ∧ (g43 214 14) ≤ 400 := I_339.1 214 14
                have m_350 : 0 ≤ (g46 214 13) ∧ (g46 214 13) ≤ 400 := I_343.1 214 13
                have m_351 : g46 214 13 = g43 214 13 := by rw [e_342]; exact zi_u_ne (by decide)
                have m_352 : 0 ≤ (g43 214 13) ∧ (g43 214 13) ≤ 400 := I_339.1 214 13
                have m_353 : g43 214 13 = g23 214 13 := F_340 _ _ (by unfold fr_M_readNumber; omega)
                have m_354 : 0 ≤ (g46 214 15) ∧ (g46 214 15) ≤ 400 := I_343.1 214 15
                have m_355 : g46 214 15 = g43 214 15 := by rw [e_342]; exact zi_u_ne (by decide)
                have m_356 : 0 ≤ (g43 214 15) ∧ (g43 214 15) ≤ 400 := I_339.1 214 15
                refine k_M_readMark I_343 ⟨by omega, by omega⟩ (by omega) (by omega) (by repeat first | assumption | refine zt3_u (by assumption) (by decide) ?_ | refine (by assumption : zt3 _ → zt3 _) ?_) (fun v48 g49 I_362 F_363 b_357 b_358 b_359 b_360 b_361 => ?_)
                have F_364 : zk_fr fr_M_readDeed g g49 := zk_ft F_344 F_363 (fun a i => (fun h => Or.elim h (fun h => (Or.inr (Or.inl h))) (fun h => Or.elim h (fun h => (Or.inr (Or.inr (Or.inl h)))) (fun h => Or.elim h (fun h => (Or.inr (Or.inr (Or.inr (Or.inl h))))) (fun h => Or.elim h (fun h => (Or.inr (Or.inr (Or.inr (Or.inr (Or.inl h)))))) (fun h => Or.elim h (fun h => (Or.inr (Or.inr (Or.inr (Or.inr (Or.inr (Or.inl h))))))) (fun h => (Or.inr (Or.inr (Or.inr (Or.inr (Or.inr (Or.inr h)))))))))))))
                have m_365 : 0 ≤ (g49 214 14) ∧ (g49 214 14) ≤ 400 := I_362.1 214 14
                have m_366 : 0 ≤ (g49 214 13) ∧ (g49 214 13) ≤ 400 := I_362.1 214 13
                have m_367 : g49 214 13 = g46 214 13 := F_363 _ _ (by unfold fr_M_readMark; omega)
                have m_368 : 0 ≤ (g49 214 15) ∧ (g49 214 15) ≤ 400 := I_362.1 214 15
                have m_369 : (-2147483648) ≤ (g49 234 (l1 + 1)) ∧ (g49 234 (l1 + 1)) ≤ 2147483647 := I_362.1 234 (l1 + 1)
                have m_370 : g49 234 (l1 + 1) = g46 234 (l1 + 1) := F_363 _ _ (by unfold fr_M_readMark; omega)
                have m_371 : (-2147483648) ≤ (g46 234 (l1 + 1)) ∧ (g46 234 (l1 + 1)) ≤ 2147483647 := I_343.1 234 (l1 + 1)
                have m_372 : (-2147483648) ≤ (g43 234 (l1 + 1)) ∧ (g43 234 (l1 + 1)) ≤ 2147483647 := I_339.1 234 (l1 + 1)
                have m_373 : g43 234 (l1 + 1) = g23 234 (l1 + 1) := F_340 _ _ (by unfold fr_M_readNumber; omega)
                have m_374 : (-2147483648) ≤ (g23 234 (l1 + 1)) ∧ (g23 234 (l1 + 1)) ≤ 2147483647 := I_78.1 234 (l1 + 1)
                have m_375 : (-2147483648) ≤ (g20 234 (l1 + 1)) ∧ (g20 234 (l1 + 1)) ≤ 2147483647 := I_74.1 234 (l1 + 1)
                have m_376 : g20 234 (l1 + 1) = g15 234 (l1 + 1) := F_75 _ _ (by unfold fr_M_readNumber; omega)
                have m_377 : (-2147483648) ≤ (g15 234 (l1 + 1)) ∧ (g15 234 (l1 + 1)) ≤ 2147483647 := I_34.1 234 (l1 + 1)
                have m_378 : g15 234 (l1 + 1) = v7 := by rw [e_33]; exact zi_u_eq
                have m_379 : (l1 + 1 = l1 + 2 → g23 234 (l1 + 1) = v19) ∧ (¬ l1 + 1 = l1 + 2 → g23 234 (l1 + 1) = g20 234 (l1 + 1)) := by rw [e_77]; exact zi_u_if
                have m_380 : (l1 + 1 = l1 + 3 → g46 234 (l1 + 1) = v42) ∧ (¬ l1 + 1 = l1 + 3 → g46 234 (l1 + 1) = g43 234 (l1 + 1)) := by rw [e_342]; exact zi_u_if
                have m_381 : (-2147483648) ≤ (g49 234 (l1 + 2)) ∧ (g49 234 (l1 + 2)) ≤ 2147483647 := I_362.1 234 (l1 + 2)
                have m_382 : g49 234 (l1 + 2) = g46 234 (l1 + 2) := F_363 _ _ (by unfold fr_M_readMark; omega)
                have m_383 : (-2147483648) ≤ (g46 234 (l1 + 2)) ∧ (g46 234 (l1 + 2)) ≤ 2147483647 := I_343.1 234 (l1 + 2)
                have m_384 : (-2147483648) ≤ (g43 234 (l1 + 2)) ∧ (g43 234 (l1 + 2)) ≤ 2147483647 := I_339.1 234 (l1 + 2)
                have m_385 : g43 234 (l1 + 2) = g23 234 (l1 + 2) := F_340 _ _ (by unfold fr_M_readNumber; omega)
                have m_386 : (l1 + 2 = l1 + 3 → g46 234 (l1 + 2) = v42) ∧ (¬ l1 + 2 = l1 + 3 → g46 234 (l1 + 2) = g43 234 (l1 + 2)) := by rw [e_342]; exact zi_u_if
                have m_387 : (-2147483648) ≤ (g49 234 (l1 + 3)) ∧ (g49 234 (l1 + 3)) ≤ 2147483647 := I_362.1 234 (l1 + 3)
                have m_388 : g49 234 (l1 + 3) = g46 234 (l1 + 3) := F_363 _ _ (by unfold fr_M_readMark; omega)
                have z_408 : ∀ i : Int, i < l1 → g49 234 i = g 234 i := by
                  intro i hi
                  have m_389 : (-2147483648) ≤ (g49 234 i) ∧ (g49 234 i) ≤ 2147483647 := I_362.1 234 i
                  have m_390 : g49 234 i = g46 234 i := F_363 _ _ (by unfold fr_M_readMark; omega)
                  have m_391 : (-2147483648) ≤ (g46 234 i) ∧ (g46 234 i) ≤ 2147483647 := I_343.1 234 i
                  have m_392 : (-2147483648) ≤ (g43 234 i) ∧ (g43 234 i) ≤ 2147483647 := I_339.1 234 i
                  have m_393 : g43 234 i = g23 234 i := F_340 _ _ (by unfold fr_M_readNumber; omega)
                  have m_394 : (-2147483648) ≤ (g23 234 i) ∧ (g23 234 i) ≤ 2147483647 := I_78.1 234 i
                  have m_395 : (-2147483648) ≤ (g20 234 i) ∧ (g20 234 i) ≤ 2147483647 := I_74.1 234 i
                  have m_396 : g20 234 i = g15 234 i := F_75 _ _ (by unfold fr_M_readNumber; omega)
                  have m_397 : (-2147483648) ≤ (g15 234 i) ∧ (g15 234 i) ≤ 2147483647 := I_34.1 234 i
                  have m_398 : (-2147483648) ≤ (g12 234 i) ∧ (g12 234 i) ≤ 2147483647 := I_30.1 234 i
                  have m_399 : g12 234 i = g5 234 i := F_31 _ _ (by unfold fr_M_reads; omega)
                  have m_400 : (-2147483648) ≤ (g5 234 i) ∧ (g5 234 i) ≤ 2147483647 := I_14.1 234 i
                  have m_401 : (-2147483648) ≤ (g2 234 i) ∧ (g2 234 i) ≤ 2147483647 := I_10.1 234 i
                  have m_402 : g2 234 i = g 234 i := F_11 _ _ (by unfold fr_M_readTold; omega)
                  have m_403 : (-2147483648) ≤ (g 234 i) ∧ (g 234 i) ≤ 2147483647 := I.1 234 i
                  have m_404 : (i = l1 → g5 234 i = v1) ∧ (¬ i = l1 → g5 234 i = g2 234 i) := by rw [e_13]; exact zi_u_if
                  have m_405 : (i = l1 + 1 → g15 234 i = v7) ∧ (¬ i = l1 + 1 → g15 234 i = g12 234 i) := by rw [e_33]; exact zi_u_if
                  have m_406 : (i = l1 + 2 → g23 234 i = v19) ∧ (¬ i = l1 + 2 → g23 234 i = g20 234 i) := by rw [e_77]; exact zi_u_if
                  have m_407 : (i = l1 + 3 → g46 234 i = v42) ∧ (¬ i = l1 + 3 → g46 234 i = g43 234 i) := by rw [e_342]; exact zi_u_if
                  omega
                exact hQ _ _ I_362 F_364 ⟨by omega, by omega⟩ (by omega) (by omega) (by repeat first | assumption | refine zt3_u (by assumption) (by decide) ?_ | refine (by assumption : zt3 _ → zt3 _) ?_) (by omega) (by intro hv; unfold zj_deed; omega) z_408
              · have m_409 : 0 ≤ (g46 214 14) ∧ (g46 214 14) ≤ 400 := I_343.1 214 14
                have m_410 : g46 214 14 = g43 214 14 := by rw [e_342]; exact zi_u_ne (by decide)
                have m_411 : 0 ≤ (g43 214 14) ∧ (g43 214 14) ≤ 400 := I_339.1 214 14
                have m_412 : 0 ≤ (g46 214 13) ∧ (g46 214 13) ≤ 400 := I_343.1 214 13
                have m_413 : g46 214 13 = g43 214 13 := by rw [e_342]; exact zi_u_ne (by decide)
                have m_414 : 0 ≤ (g43 214 13) ∧ (g43 214 13) ≤ 400 := I_339.1 214 13
                have m_415 : g43 214 13 = g23 214 13 := F_340 _ _ (by unfold fr_M_readNumber; omega)
                have m_416 : 0 ≤ (g46 214 15) ∧ (g46 214 15) ≤ 400 := I_343.1 214 15
                have m_417 : g46 214 15 = g43 214 15 := by rw [e_342]; exact zi_u_ne (by decide)
                have m_418 : 0 ≤ (g43 214 15) ∧ (g43 214 15) ≤ 400 := I_339.1 214 15
                have m_419 : (-2147483648) ≤ (g46 234 (l1 + 1)) ∧ (g46 234 (l1 + 1)) ≤ 2147483647 := I_343.1 234 (l1 + 1)
                have m_420 : (-2147483648) ≤ (g43 234 (l1 + 1)) ∧ (g43 234 (l1 + 1)) ≤ 2147483647 := I_339.1 234 (l1 + 1)
                have m_421 : g43 234 (l1 + 1) = g23 234 (l1 + 1) := F_340 _ _ (by unfold fr_M_readNumber; omega)
                have m_422 : (-2147483648) ≤ (g23 234 (l1 + 1)) ∧ (g23 234 (l1 + 1)) ≤ 2147483647 := I_78.1 234 (l1 + 1)
                have m_423 : (-2147483648) ≤ (g20 234 (l1 + 1)) ∧ (g20 234 (l1 + 1)) ≤ 2147483647 := I_74.1 234 (l1 + 1)
                have m_424 : g20 234 (l1 + 1) = g15 234 (l1 + 1) := F_75 _ _ (by unfold fr_M_readNumber; omega)
                have m_425 : (-2147483648) ≤ (g15 234 (l1 + 1)) ∧ (g15 234 (l1 + 1)) ≤ 2147483647 := I_34.1 234 (l1 + 1)
                have m_426 : g15 234 (l1 + 1) = v7 := by rw [e_33]; exact zi_u_eq
                have m_427 : (l1 + 1 = l1 + 2 → g23 234 (l1 + 1) = v19) ∧ (¬ l1 + 1 = l1 + 2 → g23 234 (l1 + 1) = g20 234 (l1 + 1)) := by rw [e_77]; exact zi_u_if
                have m_428 : (l1 + 1 = l1 + 3 → g46 234 (l1 + 1) = v42) ∧ (¬ l1 + 1 = l1 + 3 → g46 234 (l1 + 1) = g43 234 (l1 + 1)) := by rw [e_342]; exact zi_u_if
                have m_429 : (-2147483648) ≤ (g46 234 (l1 + 2)) ∧ (g46 234 (l1 + 2)) ≤ 2147483647 := I_343.1 234 (l1 + 2)
                have m_430 : (-2147483648) ≤ (g43 234 (l1 + 2)) ∧ (g43 234 (l1 + 2)) ≤ 2147483647 := I_339.1 234 (l1 + 2)
                have m_431 : g43 234 (l1 + 2) = g23 234 (l1 + 2) := F_340 _ _ (by unfold fr_M_readNumber; omega)
                have m_432 : (l1 + 2 = l1 + 3 → g46 234 (l1 + 2) = v42) ∧ (¬ l1 + 2 = l1 + 3 → g46 234 (l1 + 2) = g43 234 (l1 + 2)) := by rw [e_342]; exact zi_u_if
                have z_450 : ∀ i : Int, i < l1 → g46 234 i = g 234 i := by
                  intro i hi
                  have m_433 : (-2147483648) ≤ (g46 234 i) ∧ (g46 234 i) ≤ 2147483647 := I_343.1 234 i
                  have m_434 : (-2147483648) ≤ (g43 234 i) ∧ (g43 234 i) ≤ 2147483647 := I_339.1 234 i
                  have m_435 : g43 234 i = g23 234 i := F_340 _ _ (by unfold fr_M_readNumber; omega)
                  have m_436 : (-2147483648) ≤ (g23 234 i) ∧ (g23 234 i) ≤ 2147483647 := I_78.1 234 i
                  have m_437 : (-2147483648) ≤ (g20 234 i) ∧ (g20 234 i) ≤ 2147483647 := I_74.1 234 i
                  have m_438 : g20 234 i = g15 234 i := F_75 _ _ (by unfold fr_M_readNumber; omega)
                  have m_439 : (-2147483648) ≤ (g15 234 i) ∧ (g15 234 i) ≤ 2147483647 := I_34.1 234 i
                  have m_440 : (-2147483648) ≤ (g12 234 i) ∧ (g12 234 i) ≤ 2147483647 := I_30.1 234 i
                  have m_441 : g12 234 i = g5 234 i := F_31 _ _ (by unfold fr_M_reads; omega)
                  have m_442 : (-2147483648) ≤ (g5 234 i) ∧ (g5 234 i) ≤ 2147483647 := I_14.1 234 i
                  have m_443 : (-2147483648) ≤ (g2 234 i) ∧ (g2 234 i) ≤ 2147483647 := I_10.1 234 i
                  have m_444 : g2 234 i = g 234 i := F_11 _ _ (by unfold fr_M_readTold; omega)
                  have m_445 : (-2147483648) ≤ (g 234 i) ∧ (g 234 i) ≤ 2147483647 := I.1 234 i
                  have m_446 : (i = l1 → g5 234 i = v1) ∧ (¬ i = l1 → g5 234 i = g2 234 i) := by rw [e_13]; exact zi_u_if
                  have m_447 : (i = l1 + 1 → g15 234 i = v7) ∧ (¬ i = l1 + 1 → g15 234 i = g12 234 i) := by rw [e_33]; exact zi_u_if
                  have m_448 : (i = l1 + 2 → g23 234 i = v19) ∧ (¬ i = l1 + 2 → g23 234 i = g20 234 i) := by rw [e_77]; exact zi_u_if
                  have m_449 : (i = l1 + 3 → g46 234 i = v42) ∧ (¬ i = l1 + 3 → g46 234 i = g43 234 i) := by rw [e_342]; exact zi_u_if
                  omega
                exact hQ _ _ I_343 F_344 ⟨by omega, by omega⟩ (by omega) (by omega) (by repeat first | assumption | refine zt3_u (by assumption) (by decide) ?_ | refine (by assumption : zt3 _ → zt3 _) ?_) (by omega) (by intro hv; unfold zj_deed; omega) z_450
          · have m_451 : 0 ≤ (g23 214 6) ∧ (g23 214 6) ≤ 10 := I_78.1 214 6
            have m_452 : g23 214 6 = g20 214 6 := by rw [e_77]; exact zi_u_ne (by decide)
            have m_453 : 0 ≤ (g20 214 6) ∧ (g20 214 6) ≤ 10 := I_74.1 214 6
            have m_454 : g20 214 6 = g15 214 6 := F_75 _ _ (by unfold fr_M_readNumber; omega)
            have m_455 : 0 ≤ (g23 214 14) ∧ (g23 214 14) ≤ 400 := I_78.1 214 14
            have m_456 : g23 214 14 = g20 214 14 := by rw [e_77]; exact zi_u_ne (by decide)
            have m_457 : 0 ≤ (g20 214 14) ∧ (g20 214 14) ≤ 400 := I_74.1 214 14
            have m_458 : 0 ≤ (g23 214 13) ∧ (g23 214 13) ≤ 400 := I_78.1 214 13
            have m_459 : g23 214 13 = g20 214 13 := by rw [e_77]; exact zi_u_ne (by decide)
            have m_460 : 0 ≤ (g20 214 13) ∧ (g20 214 13) ≤ 400 := I_74.1 214 13
            have m_461 : g20 214 13 = g15 214 13 := F_75 _ _ (by unfold fr_M_readNumber; omega)
            have m_462 : 0 ≤ (g23 214 15) ∧ (g23 214 15) ≤ 400 := I_78.1 214 15
            have m_463 : g23 214 15 = g20 214 15 := by rw [e_77]; exact zi_u_ne (by decide)
            have m_464 : 0 ≤ (g20 214 15) ∧ (g20 214 15) ≤ 400 := I_74.1 214 15
            refine k_M_readTold I_78 ⟨by omega, by omega⟩ ⟨by omega, by omega⟩ ⟨by omega, by omega⟩ (by omega) (by omega) (by repeat first | assumption | refine zt3_u (by assumption) (by decide) ?_ | refine (by assumption : zt3 _ → zt3 _) ?_) (fun v53 g54 I_471 F_472 b_465 b_466 b_467 b_468 b_469 b_470 => ?_)
            have F_473 : zk_fr fr_M_readDeed g g54 := zk_ft F_79 F_472 (fun a i => (fun h => Or.elim h (fun h => (Or.inr (Or.inl h))) (fun h => Or.elim h (fun h => (Or.inr (Or.inr (Or.inl h)))) (fun h => Or.elim h (fun h => (Or.inr (Or.inr (Or.inr (Or.inl h))))) (fun h => Or.elim h (fun h => (Or.inr (Or.inr (Or.inr (Or.inr (Or.inl h)))))) (fun h => Or.elim h (fun h => (Or.inr (Or.inr (Or.inr (Or.inr (Or.inr (Or.inl h))))))) (fun h => (Or.inr (Or.inr (Or.inr (Or.inr (Or.inr (Or.inr h)))))))))))))
            refine ⟨⟨by omega, by omega⟩, ?_⟩
            intro g57 e_474
            have I_475 : zk_I g57 := by rw [e_474]; exact zk_u234 I_471 (by omega) ⟨by omega, by omega⟩
            have F_476 : zk_fr fr_M_readDeed g g57 := by rw [e_474]; exact zk_fu F_473 (Or.inl rfl)
            have m_477 : (-2147483648) ≤ (g57 234 (l1 + 3)) ∧ (g57 234 (l1 + 3)) ≤ 2147483647 := I_475.1 234 (l1 + 3)
            have m_478 : g57 234 (l1 + 3) = v53 := by rw [e_474]; exact zi_u_eq
            refine ⟨⟨by omega, by omega⟩, ?_⟩
            refine ⟨fun c62 => ?_, fun c62 => ?_⟩
            · have m_479 : 0 ≤ (g57 214 14) ∧ (g57 214 14) ≤ 400 := I_475.1 214 14
              have m_480 : g57 214 14 = g54 214 14 := by rw [e_474]; exact zi_u_ne (by decide)
              have m_481 : 0 ≤ (g54 214 14) ∧ (g54 214 14) ≤ 400 := I_471.1 214 14
              have m_482 : 0 ≤ (g57 214 13) ∧ (g57 214 13) ≤ 400 := I_475.1 214 13
              have m_483 : g57 214 13 = g54 214 13 := by rw [e_474]; exact zi_u_ne (by decide)
              have m_484 : 0 ≤ (g54 214 13) ∧ (g54 214 13) ≤ 400 := I_471.1 214 13
              have m_485 : g54 214 13 = g23 214 13 := F_472 _ _ (by unfold fr_M_readTold; omega)
              have m_486 : 0 ≤ (g57 214 15) ∧ (g57 214 15) ≤ 400 := I_475.1 214 15
              have m_487 : g57 214 15 = g54 214 15 := by rw [e_474]; exact zi_u_ne (by decide)
              have m_488 : 0 ≤ (g54 214 15) ∧ (g54 214 15) ≤ 400 := I_471.1 214 15
              refine k_M_readMark I_475 ⟨by omega, by omega⟩ (by omega) (by omega) (by repeat first | assumption | refine zt3_u (by assumption) (by decide) ?_ | refine (by assumption : zt3 _ → zt3 _) ?_) (fun v59 g60 I_494 F_495 b_489 b_490 b_491 b_492 b_493 => ?_)
              have F_496 : zk_fr fr_M_readDeed g g60 := zk_ft F_476 F_495 (fun a i => (fun h => Or.elim h (fun h => (Or.inr (Or.inl h))) (fun h => Or.elim h (fun h => (Or.inr (Or.inr (Or.inl h)))) (fun h => Or.elim h (fun h => (Or.inr (Or.inr (Or.inr (Or.inl h))))) (fun h => Or.elim h (fun h => (Or.inr (Or.inr (Or.inr (Or.inr (Or.inl h)))))) (fun h => Or.elim h (fun h => (Or.inr (Or.inr (Or.inr (Or.inr (Or.inr (Or.inl h))))))) (fun h => (Or.inr (Or.inr (Or.inr (Or.inr (Or.inr (Or.inr h)))))))))))))
              have m_497 : 0 ≤ (g60 214 14) ∧ (g60 214 14) ≤ 400 := I_494.1 214 14
              have m_498 : 0 ≤ (g60 214 13) ∧ (g60 214 13) ≤ 400 := I_494.1 214 13
              have m_499 : g60 214 13 = g57 214 13 := F_495 _ _ (by unfold fr_M_readMark; omega)
              have m_500 : 0 ≤ (g60 214 15) ∧ (g60 214 15) ≤ 400 := I_494.1 214 15
              have m_501 : (-2147483648) ≤ (g60 234 (l1 + 1)) ∧ (g60 234 (l1 + 1)) ≤ 2147483647 := I_494.1 234 (l1 + 1)
              have m_502 : g60 234 (l1 + 1) = g57 234 (l1 + 1) := F_495 _ _ (by unfold fr_M_readMark; omega)
              have m_503 : (-2147483648) ≤ (g57 234 (l1 + 1)) ∧ (g57 234 (l1 + 1)) ≤ 2147483647 := I_475.1 234 (l1 + 1)
              have m_504 : (-2147483648) ≤ (g54 234 (l1 + 1)) ∧ (g54 234 (l1 + 1)) ≤ 2147483647 := I_471.1 234 (l1 + 1)
              have m_505 : g54 234 (l1 + 1) = g23 234 (l1 + 1) := F_472 _ _ (by unfold fr_M_readTold; omega)
              have m_506 : (-2147483648) ≤ (g23 234 (l1 + 1)) ∧ (g23 234 (l1 + 1)) ≤ 2147483647 := I_78.1 234 (l1 + 1)
              have m_507 : (-2147483648) ≤ (g20 234 (l1 + 1)) ∧ (g20 234 (l1 + 1)) ≤ 2147483647 := I_74.1 234 (l1 + 1)
              have m_508 : g20 234 (l1 + 1) = g15 234 (l1 + 1) := F_75 _ _ (by unfold fr_M_readNumber; omega)
              have m_509 : (-2147483648) ≤ (g15 234 (l1 + 1)) ∧ (g15 234 (l1 + 1)) ≤ 2147483647 := I_34.1 234 (l1 + 1)
              have m_510 : g15 234 (l1 + 1) = v7 := by rw [e_33]; exact zi_u_eq
              have m_511 : (l1 + 1 = l1 + 2 → g23 234 (l1 + 1) = v19) ∧ (¬ l1 + 1 = l1 + 2 → g23 234 (l1 + 1) = g20 234 (l1 + 1)) := by rw [e_77]; exact zi_u_if
              have m_512 : (l1 + 1 = l1 + 3 → g57 234 (l1 + 1) = v53) ∧ (¬ l1 + 1 = l1 + 3 → g57 234 (l1 + 1) = g54 234 (l1 + 1)) := by rw [e_474]; exact zi_u_if
              have m_513 : (-2147483648) ≤ (g60 234 (l1 + 2)) ∧ (g60 234 (l1 + 2)) ≤ 2147483647 := I_494.1 234 (l1 + 2)
              have m_514 : g60 234 (l1 + 2) = g57 234 (l1 + 2) := F_495 _ _ (by unfold fr_M_readMark; omega)
              have m_515 : (-2147483648) ≤ (g57 234 (l1 + 2)) ∧ (g57 234 (l1 + 2)) ≤ 2147483647 := I_475.1 234 (l1 + 2)
              have m_516 : (-2147483648) ≤ (g54 234 (l1 + 2)) ∧ (g54 234 (l1 + 2)) ≤ 2147483647 := I_471.1 234 (l1 + 2)
              have m_517 : g54 234 (l1 + 2) = g23 234 (l1 + 2) := F_472 _ _ (by unfold fr_M_readTold; omega)
              have m_518 : (l1 + 2 = l1 + 3 → g57 234 (l1 + 2) = v53) ∧ (¬ l1 + 2 = l1 + 3 → g57 234 (l1 + 2) = g54 234 (l1 + 2)) := by rw [e_474]; exact zi_u_if
              have m_519 : (-2147483648) ≤ (g60 234 (l1 + 3)) ∧ (g60 234 (l1 + 3)) ≤ 2147483647 := I_494.1 234 (l1 + 3)
              have m_520 : g60 234 (l1 + 3) = g57 234 (l1 + 3) := F_495 _ _ (by unfold fr_M_readMark; omega)
              have z_540 : ∀ i : Int, i < l1 → g60 234 i = g 234 i := by
                intro i hi
                have m_521 : (-2147483648) ≤ (g60 234 i) ∧ (g60 234 i) ≤ 2147483647 := I_494.1 234 i
                have m_522 : g60 234 i = g57 234 i := F_495 _ _ (by unfold fr_M_readMark; omega)
                have m_523 : (-2147483648) ≤ (g57 234 i) ∧ (g57 234 i) ≤ 2147483647 := I_475.1 234 i
                have m_524 : (-2147483648) ≤ (g54 234 i) ∧ (g54 234 i) ≤ 2147483647 := I_471.1 234 i
                have m_525 : g54 234 i = g23 234 i := F_472 _ _ (by unfold fr_M_readTold; omega)
                have m_526 : (-2147483648) ≤ (g23 234 i) ∧ (g23 234 i) ≤ 2147483647 := I_78.1 234 i
                have m_527 : (-2147483648) ≤ (g20 234 i) ∧ (g20 234 i) ≤ 2147483647 := I_74.1 234 i
                have m_528 : g20 234 i = g15 234 i := F_75 _ _ (by unfold fr_M_readNumber; omega)
                have m_529 : (-2147483648) ≤ (g15 234 i) ∧ (g15 234 i) ≤ 2147483647 := I_34.1 234 i
                have m_530 : (-2147483648) ≤ (g12 234 i) ∧ (g12 234 i) ≤ 2147483647 := I_30.1 234 i
                have m_531 : g12 234 i = g5 234 i := F_31 _ _ (by unfold fr_M_reads; omega)
                have m_532 : (-2147483648) ≤ (g5 234 i) ∧ (g5 234 i) ≤ 2147483647 := I_14.1 234 i
                have m_533 : (-2147483648) ≤ (g2 234 i) ∧ (g2 234 i) ≤ 2147483647 := I_10.1 234 i
                have m_534 : g2 234 i = g 234 i := F_11 _ _ (by unfold fr_M_readTold; omega)
                have m_535 : (-2147483648) ≤ (g 234 i) ∧ (g 234 i) ≤ 2147483647 := I.1 234 i
                have m_536 : (i = l1 → g5 234 i = v1) ∧ (¬ i = l1 → g5 234 i = g2 234 i) := by rw [e_13]; exact zi_u_if
                have m_537 : (i = l1 + 1 → g15 234 i = v7) ∧ (¬ i = l1 + 1 → g15 234 i = g12 234 i) := by rw [e_33]; exact zi_u_if
                have m_538 : (i = l1 + 2 → g23 234 i = v19) ∧ (¬ i = l1 + 2 → g23 234 i = g20 234 i) := by rw [e_77]; exact zi_u_if
                have m_539 : (i = l1 + 3 → g57 234 i = v53) ∧ (¬ i = l1 + 3 → g57 234 i = g54 234 i) := by rw [e_474]; exact zi_u_if
                omega
              exact hQ _ _ I_494 F_496 ⟨by omega, by omega⟩ (by omega) (by omega) (by repeat first | assumption | refine zt3_u (by assumption) (by decide) ?_ | refine (by assumption : zt3 _ → zt3 _) ?_) (by omega) (by intro hv; unfold zj_deed; omega) z_540
            · have m_541 : 0 ≤ (g57 214 14) ∧ (g57 214 14) ≤ 400 := I_475.1 214 14
              have m_542 : g57 214 14 = g54 214 14 := by rw [e_474]; exact zi_u_ne (by decide)
              have m_543 : 0 ≤ (g54 214 14) ∧ (g54 214 14) ≤ 400 := I_471.1 214 14
              have m_544 : 0 ≤ (g57 214 13) ∧ (g57 214 13) ≤ 400 := I_475.1 214 13
              have m_545 : g57 214 13 = g54 214 13 := by rw [e_474]; exact zi_u_ne (by decide)
              have m_546 : 0 ≤ (g54 214 13) ∧ (g54 214 13) ≤ 400 := I_471.1 214 13
              have m_547 : g54 214 13 = g23 214 13 := F_472 _ _ (by unfold fr_M_readTold; omega)
              have m_548 : 0 ≤ (g57 214 15) ∧ (g57 214 15) ≤ 400 := I_475.1 214 15
              have m_549 : g57 214 15 = g54 214 15 := by rw [e_474]; exact zi_u_ne (by decide)
              have m_550 : 0 ≤ (g54 214 15) ∧ (g54 214 15) ≤ 400 := I_471.1 214 15
              have m_551 : (-2147483648) ≤ (g57 234 (l1 + 1)) ∧ (g57 234 (l1 + 1)) ≤ 2147483647 := I_475.1 234 (l1 + 1)
              have m_552 : (-2147483648) ≤ (g54 234 (l1 + 1)) ∧ (g54 234 (l1 + 1)) ≤ 2147483647 := I_471.1 234 (l1 + 1)
              have m_553 : g54 234 (l1 + 1) = g23 234 (l1 + 1) := F_472 _ _ (by unfold fr_M_readTold; omega)
              have m_554 : (-2147483648) ≤ (g23 234 (l1 + 1)) ∧ (g23 234 (l1 + 1)) ≤ 2147483647 := I_78.1 234 (l1 + 1)
              have m_555 : (-2147483648) ≤ (g20 234 (l1 + 1)) ∧ (g20 234 (l1 + 1)) ≤ 2147483647 := I_74.1 234 (l1 + 1)
              have m_556 : g20 234 (l1 + 1) = g15 234 (l1 + 1) := F_75 _ _ (by unfold fr_M_readNumber; omega)
              have m_557 : (-2147483648) ≤ (g15 234 (l1 + 1)) ∧ (g15 234 (l1 + 1)) ≤ 2147483647 := I_34.1 234 (l1 + 1)
              have m_558 : g15 234 (l1 + 1) = v7 := by rw [e_33]; exact zi_u_eq
              have m_559 : (l1 + 1 = l1 + 2 → g23 234 (l1 + 1) = v19) ∧ (¬ l1 + 1 = l1 + 2 → g23 234 (l1 + 1) = g20 234 (l1 + 1)) := by rw [e_77]; exact zi_u_if
              have m_560 : (l1 + 1 = l1 + 3 → g57 234 (l1 + 1) = v53) ∧ (¬ l1 + 1 = l1 + 3 → g57 234 (l1 + 1) = g54 234 (l1 + 1)) := by rw [e_474]; exact zi_u_if
              have m_561 : (-2147483648) ≤ (g57 234 (l1 + 2)) ∧ (g57 234 (l1 + 2)) ≤ 2147483647 := I_475.1 234 (l1 + 2)
              have m_562 : (-2147483648) ≤ (g54 234 (l1 + 2)) ∧ (g54 234 (l1 + 2)) ≤ 2147483647 := I_471.1 234 (l1 + 2)
              have m_563 : g54 234 (l1 + 2) = g23 234 (l1 + 2) := F_472 _ _ (by unfold fr_M_readTold; omega)
              have m_564 : (l1 + 2 = l1 + 3 → g57 234 (l1 + 2) = v53) ∧ (¬ l1 + 2 = l1 + 3 → g57 234 (l1 + 2) = g54 234 (l1 + 2)) := by rw [e_474]; exact zi_u_if
              have z_582 : ∀ i : Int, i < l1 → g57 234 i = g 234 i := by
                intro i hi
                have m_565 : (-2147483648) ≤ (g57 234 i) ∧ (g57 234 i) ≤ 2147483647 := I_475.1 234 i
                have m_566 : (-2147483648) ≤ (g54 234 i) ∧ (g54 234 i) ≤ 2147483647 := I_471.1 234 i
                have m_567 : g54 234 i = g23 234 i := F_472 _ _ (by unfold fr_M_readTold; omega)
                have m_568 : (-2147483648) ≤ (g23 234 i) ∧ (g23 234 i) ≤ 2147483647 := I_78.1 234 i
                have m_569 : (-2147483648) ≤ (g20 234 i) ∧ (g20 234 i) ≤ 2147483647 := I_74.1 234 i
                have m_570 : g20 234 i = g15 234 i := F_75 _ _ (by unfold fr_M_readNumber; omega)
                have m_571 : (-2147483648) ≤ (g15 234 i) ∧ (g15 234 i) ≤ 2147483647 := I_34.1 234 i
                have m_572 : (-2147483648) ≤ (g12 234 i) ∧ (g12 234 i) ≤ 2147483647 := I_30.1 234 i
                have m_573 : g12 234 i = g5 234 i := F_31 _ _ (by unfold fr_M_reads; omega)
                have m_574 : (-2147483648) ≤ (g5 234 i) ∧ (g5 234 i) ≤ 2147483647 := I_14.1 234 i
                have m_575 : (-2147483648) ≤ (g2 234 i) ∧ (g2 234 i) ≤ 2147483647 := I_10.1 234 i
                have m_576 : g2 234 i = g 234 i := F_11 _ _ (by unfold fr_M_readTold; omega)
                have m_577 : (-2147483648) ≤ (g 234 i) ∧ (g 234 i) ≤ 2147483647 := I.1 234 i
                have m_578 : (i = l1 → g5 234 i = v1) ∧ (¬ i = l1 → g5 234 i = g2 234 i) := by rw [e_13]; exact zi_u_if
                have m_579 : (i = l1 + 1 → g15 234 i = v7) ∧ (¬ i = l1 + 1 → g15 234 i = g12 234 i) := by rw [e_33]; exact zi_u_if
                have m_580 : (i = l1 + 2 → g23 234 i = v19) ∧ (¬ i = l1 + 2 → g23 234 i = g20 234 i) := by rw [e_77]; exact zi_u_if
                have m_581 : (i = l1 + 3 → g57 234 i = v53) ∧ (¬ i = l1 + 3 → g57 234 i = g54 234 i) := by rw [e_474]; exact zi_u_if
                omega
              exact hQ _ _ I_475 F_476 ⟨by omega, by omega⟩ (by omega) (by omega) (by repeat first | assumption | refine zt3_u (by assumption) (by decide) ?_ | refine (by assumption : zt3 _ → zt3 _) ?_) (by omega) (by intro hv; unfold zj_deed; omega) z_582
      · have m_583 : 0 ≤ (g23 214 14) ∧ (g23 214 14) ≤ 400 := I_78.1 214 14
        have m_584 : g23 214 14 = g20 214 14 := by rw [e_77]; exact zi_u_ne (by decide)
        have m_585 : 0 ≤ (g20 214 14) ∧ (g20 214 14) ≤ 400 := I_74.1 214 14
        have m_586 : 0 ≤ (g23 214 13) ∧ (g23 214 13) ≤ 400 := I_78.1 214 13
        have m_587 : g23 214 13 = g20 214 13 := by rw [e_77]; exact zi_u_ne (by decide)
        have m_588 : 0 ≤ (g20 214 13) ∧ (g20 214 13) ≤ 400 := I_74.1 214 13
        have m_589 : g20 214 13 = g15 214 13 := F_75 _ _ (by unfold fr_M_readNumber; omega)
        have m_590 : 0 ≤ (g23 214 15) ∧ (g23 214 15) ≤ 400 := I_78.1 214 15
        have m_591 : g23 214 15 = g20 214 15 := by rw [e_77]; exact zi_u_ne (by decide)
        have m_592 : 0 ≤ (g20 214 15) ∧ (g20 214 15) ≤ 400 := I_74.1 214 15
        have m_593 : (-2147483648) ≤ (g23 234 (l1 + 1)) ∧ (g23 234 (l1 + 1)) ≤ 2147483647 := I_78.1 234 (l1 + 1)
        have m_594 : (-2147483648) ≤ (g20 234 (l1 + 1)) ∧ (g20 234 (l1 + 1)) ≤ 2147483647 := I_74.1 234 (l1 + 1)
        have m_595 : g20 234 (l1 + 1) = g15 234 (l1 + 1) := F_75 _ _ (by unfold fr_M_readNumber; omega)
        have m_596 : (-2147483648) ≤ (g15 234 (l1 + 1)) ∧ (g15 234 (l1 + 1)) ≤ 2147483647 := I_34.1 234 (l1 + 1)
        have m_597 : g15 234 (l1 + 1) = v7 := by rw [e_33]; exact zi_u_eq
        have m_598 : (l1 + 1 = l1 + 2 → g23 234 (l1 + 1) = v19) ∧ (¬ l1 + 1 = l1 + 2 → g23 234 (l1 + 1) = g20 234 (l1 + 1)) := by rw [e_77]; exact zi_u_if
        have m_599 : (-2147483648) ≤ (g23 234 (l1 + 3)) ∧ (g23 234 (l1 + 3)) ≤ 2147483647 := I_78.1 234 (l1 + 3)
        have m_600 : (-2147483648) ≤ (g20 234 (l1 + 3)) ∧ (g20 234 (l1 + 3)) ≤ 2147483647 := I_74.1 234 (l1 + 3)
        have m_601 : g20 234 (l1 + 3) = g15 234 (l1 + 3) := F_75 _ _ (by unfold fr_M_readNumber; omega)
        have m_602 : (-2147483648) ≤ (g15 234 (l1 + 3)) ∧ (g15 234 (l1 + 3)) ≤ 2147483647 := I_34.1 234 (l1 + 3)
        have m_603 : (-2147483648) ≤ (g12 234 (l1 + 3)) ∧ (g12 234 (l1 + 3)) ≤ 2147483647 := I_30.1 234 (l1 + 3)
        have m_604 : g12 234 (l1 + 3) = g5 234 (l1 + 3) := F_31 _ _ (by unfold fr_M_reads; omega)
        have m_605 : (-2147483648) ≤ (g5 234 (l1 + 3)) ∧ (g5 234 (l1 + 3)) ≤ 2147483647 := I_14.1 234 (l1 + 3)
        have m_606 : (-2147483648) ≤ (g2 234 (l1 + 3)) ∧ (g2 234 (l1 + 3)) ≤ 2147483647 := I_10.1 234 (l1 + 3)
        have m_607 : g2 234 (l1 + 3) = g 234 (l1 + 3) := F_11 _ _ (by unfold fr_M_readTold; omega)
        have m_608 : (-2147483648) ≤ (g 234 (l1 + 3)) ∧ (g 234 (l1 + 3)) ≤ 2147483647 := I.1 234 (l1 + 3)
        have m_609 : (l1 + 3 = l1 → g5 234 (l1 + 3) = v1) ∧ (¬ l1 + 3 = l1 → g5 234 (l1 + 3) = g2 234 (l1 + 3)) := by rw [e_13]; exact zi_u_if
        have m_610 : (l1 + 3 = l1 + 1 → g15 234 (l1 + 3) = v7) ∧ (¬ l1 + 3 = l1 + 1 → g15 234 (l1 + 3) = g12 234 (l1 + 3)) := by rw [e_33]; exact zi_u_if
        have m_611 : (l1 + 3 = l1 + 2 → g23 234 (l1 + 3) = v19) ∧ (¬ l1 + 3 = l1 + 2 → g23 234 (l1 + 3) = g20 234 (l1 + 3)) := by rw [e_77]; exact zi_u_if
        have z_625 : ∀ i : Int, i < l1 → g23 234 i = g 234 i := by
          intro i hi
          have m_612 : (-2147483648) ≤ (g23 234 i) ∧ (g23 234 i) ≤ 2147483647 := I_78.1 234 i
          have m_613 : (-2147483648) ≤ (g20 234 i) ∧ (g20 234 i) ≤ 2147483647 := I_74.1 234 i
          have m_614 : g20 234 i = g15 234 i := F_75 _ _ (by unfold fr_M_readNumber; omega)
          have m_615 : (-2147483648) ≤ (g15 234 i) ∧ (g15 234 i) ≤ 2147483647 := I_34.1 234 i
          have m_616 : (-2147483648) ≤ (g12 234 i) ∧ (g12 234 i) ≤ 2147483647 := I_30.1 234 i
          have m_617 : g12 234 i = g5 234 i := F_31 _ _ (by unfold fr_M_reads; omega)
          have m_618 : (-2147483648) ≤ (g5 234 i) ∧ (g5 234 i) ≤ 2147483647 := I_14.1 234 i
          have m_619 : (-2147483648) ≤ (g2 234 i) ∧ (g2 234 i) ≤ 2147483647 := I_10.1 234 i
          have m_620 : g2 234 i = g 234 i := F_11 _ _ (by unfold fr_M_readTold; omega)
          have m_621 : (-2147483648) ≤ (g 234 i) ∧ (g 234 i) ≤ 2147483647 := I.1 234 i
          have m_622 : (i = l1 → g5 234 i = v1) ∧ (¬ i = l1 → g5 234 i = g2 234 i) := by rw [e_13]; exact zi_u_if
          have m_623 : (i = l1 + 1 → g15 234 i = v7) ∧ (¬ i = l1 + 1 → g15 234 i = g12 234 i) := by rw [e_33]; exact zi_u_if
          have m_624 : (i = l1 + 2 → g23 234 i = v19) ∧ (¬ i = l1 + 2 → g23 234 i = g20 234 i) := by rw [e_77]; exact zi_u_if
          omega
        exact hQ _ _ I_78 F_79 ⟨by omega, by omega⟩ (by omega) (by omega) (by repeat first | assumption | refine zt3_u (by assumption) (by decide) ?_ | refine (by assumption : zt3 _ → zt3 _) ?_) (by omega) (by intro hv; unfold zj_deed; omega) z_625
    · refine k_M_errs I_14 ⟨by omega, by omega⟩ (fun v66 g67 I_628 F_629 b_626 b_627 => ?_)
      have F_630 : zk_fr fr_M_readDeed g g67 := zk_ft F_15 F_629 (fun a i => (fun h => Or.elim h (fun h => (Or.inr (Or.inr (Or.inr (Or.inr (Or.inr (Or.inl h))))))) (fun h => (Or.inr (Or.inr (Or.inr (Or.inr (Or.inr (Or.inr h)))))))))
      have m_631 : 0 ≤ (g67 214 14) ∧ (g67 214 14) ≤ 400 := I_628.1 214 14
      have m_632 : g67 214 14 = g5 214 14 := F_629 _ _ (by unfold fr_M_errs; omega)
      have m_633 : 0 ≤ (g5 214 14) ∧ (g5 214 14) ≤ 400 := I_14.1 214 14
      have m_634 : g5 214 14 = g2 214 14 := by rw [e_13]; exact zi_u_ne (by decide)
      have m_635 : 0 ≤ (g2 214 14) ∧ (g2 214 14) ≤ 400 := I_10.1 214 14
      have m_636 : 0 ≤ (g67 214 13) ∧ (g67 214 13) ≤ 400 := I_628.1 214 13
      have m_637 : g67 214 13 = g5 214 13 := F_629 _ _ (by unfold fr_M_errs; omega)
      have m_638 : 0 ≤ (g5 214 13) ∧ (g5 214 13) ≤ 400 := I_14.1 214 13
      have m_639 : g5 214 13 = g2 214 13 := by rw [e_13]; exact zi_u_ne (by decide)
      have m_640 : 0 ≤ (g2 214 13) ∧ (g2 214 13) ≤ 400 := I_10.1 214 13
      have m_641 : g2 214 13 = g 214 13 := F_11 _ _ (by unfold fr_M_readTold; omega)
      have m_642 : 0 ≤ (g67 214 15) ∧ (g67 214 15) ≤ 400 := I_628.1 214 15
      have m_643 : g67 214 15 = g5 214 15 := F_629 _ _ (by unfold fr_M_errs; omega)
      have m_644 : 0 ≤ (g5 214 15) ∧ (g5 214 15) ≤ 400 := I_14.1 214 15
      have m_645 : g5 214 15 = g2 214 15 := by rw [e_13]; exact zi_u_ne (by decide)
      have m_646 : 0 ≤ (g2 214 15) ∧ (g2 214 15) ≤ 400 := I_10.1 214 15
      have m_647 : (-2147483648) ≤ (g67 234 (l1 + 1)) ∧ (g67 234 (l1 + 1)) ≤ 2147483647 := I_628.1 234 (l1 + 1)
      have m_648 : g67 234 (l1 + 1) = g5 234 (l1 + 1) := F_629 _ _ (by unfold fr_M_errs; omega)
      have m_649 : (-2147483648) ≤ (g5 234 (l1 + 1)) ∧ (g5 234 (l1 + 1)) ≤ 2147483647 := I_14.1 234 (l1 + 1)
      have m_650 : (-2147483648) ≤ (g2 234 (l1 + 1)) ∧ (g2 234 (l1 + 1)) ≤ 2147483647 := I_10.1 234 (l1 + 1)
      have m_651 : g2 234 (l1 + 1) = g 234 (l1 + 1) := F_11 _ _ (by unfold fr_M_readTold; omega)
      have m_652 : (-2147483648) ≤ (g 234 (l1 + 1)) ∧ (g 234 (l1 + 1)) ≤ 2147483647 := I.1 234 (l1 + 1)
      have m_653 : (l1 + 1 = l1 → g5 234 (l1 + 1) = v1) ∧ (¬ l1 + 1 = l1 → g5 234 (l1 + 1) = g2 234 (l1 + 1)) := by rw [e_13]; exact zi_u_if
      have m_654 : (-2147483648) ≤ (g67 234 (l1 + 2)) ∧ (g67 234 (l1 + 2)) ≤ 2147483647 := I_628.1 234 (l1 + 2)
      have m_655 : g67 234 (l1 + 2) = g5 234 (l1 + 2) := F_629 _ _ (by unfold fr_M_errs; omega)
      have m_656 : (-2147483648) ≤ (g5 234 (l1 + 2)) ∧ (g5 234 (l1 + 2)) ≤ 2147483647 := I_14.1 234 (l1 + 2)
      have m_657 : (-2147483648) ≤ (g2 234 (l1 + 2)) ∧ (g2 234 (l1 + 2)) ≤ 2147483647 := I_10.1 234 (l1 + 2)
      have m_658 : g2 234 (l1 + 2) = g 234 (l1 + 2) := F_11 _ _ (by unfold fr_M_readTold; omega)
      have m_659 : (-2147483648) ≤ (g 234 (l1 + 2)) ∧ (g 234 (l1 + 2)) ≤ 2147483647 := I.1 234 (l1 + 2)
      have m_660 : (l1 + 2 = l1 → g5 234 (l1 + 2) = v1) ∧ (¬ l1 + 2 = l1 → g5 234 (l1 + 2) = g2 234 (l1 + 2)) := by rw [e_13]; exact zi_u_if
      have m_661 : (-2147483648) ≤ (g67 234 (l1 + 3)) ∧ (g67 234 (l1 + 3)) ≤ 2147483647 := I_628.1 234 (l1 + 3)
      have m_662 : g67 234 (l1 + 3) = g5 234 (l1 + 3) := F_629 _ _ (by unfold fr_M_errs; omega)
      have m_663 : (-2147483648) ≤ (g5 234 (l1 + 3)) ∧ (g5 234 (l1 + 3)) ≤ 2147483647 := I_14.1 234 (l1 + 3)
      have m_664 : (-2147483648) ≤ (g2 234 (l1 + 3)) ∧ (g2 234 (l1 + 3)) ≤ 2147483647 := I_10.1 234 (l1 + 3)
      have m_665 : g2 234 (l1 + 3) = g 234 (l1 + 3) := F_11 _ _ (by unfold fr_M_readTold; omega)
      have m_666 : (-2147483648) ≤ (g 234 (l1 + 3)) ∧ (g 234 (l1 + 3)) ≤ 2147483647 := I.1 234 (l1 + 3)
      have m_667 : (l1 + 3 = l1 → g5 234 (l1 + 3) = v1) ∧ (¬ l1 + 3 = l1 → g5 234 (l1 + 3) = g2 234 (l1 + 3)) := by rw [e_13]; exact zi_u_if
      have z_675 : ∀ i : Int, i < l1 → g67 234 i = g 234 i := by
        intro i hi
        have m_668 : (-2147483648) ≤ (g67 234 i) ∧ (g67 234 i) ≤ 2147483647 := I_628.1 234 i
        have m_669 : g67 234 i = g5 234 i := F_629 _ _ (by unfold fr_M_errs; omega)
        have m_670 : (-2147483648) ≤ (g5 234 i) ∧ (g5 234 i) ≤ 2147483647 := I_14.1 234 i
        have m_671 : (-2147483648) ≤ (g2 234 i) ∧ (g2 234 i) ≤ 2147483647 := I_10.1 234 i
        have m_672 : g2 234 i = g 234 i := F_11 _ _ (by unfold fr_M_readTold; omega)
        have m_673 : (-2147483648) ≤ (g 234 i) ∧ (g 234 i) ≤ 2147483647 := I.1 234 i
        have m_674 : (i = l1 → g5 234 i = v1) ∧ (¬ i = l1 → g5 234 i = g2 234 i) := by rw [e_13]; exact zi_u_if
        omega
      exact hQ _ _ I_628 F_630 ⟨by omega, by omega⟩ (by omega) (by omega) (by repeat first | assumption | refine zt3_u (by assumption) (by decide) ?_ | refine (by assumption : zt3 _ → zt3 _) ?_) (by omega) (by intro hv; unfold zj_deed; omega) z_675
  · have m_676 : 0 ≤ (g5 214 14) ∧ (g5 214 14) ≤ 400 := I_14.1 214 14
    have m_677 : g5 214 14 = g2 214 14 := by rw [e_13]; exact zi_u_ne (by decide)
    have m_678 : 0 ≤ (g2 214 14) ∧ (g2 214 14) ≤ 400 := I_10.1 214 14
    have m_679 : 0 ≤ (g5 214 13) ∧ (g5 214 13) ≤ 400 := I_14.1 214 13
    have m_680 : g5 214 13 = g2 214 13 := by rw [e_13]; exact zi_u_ne (by decide)
    have m_681 : 0 ≤ (g2 214 13) ∧ (g2 214 13) ≤ 400 := I_10.1 214 13
    have m_682 : g2 214 13 = g 214 13 := F_11 _ _ (by unfold fr_M_readTold; omega)
    have m_683 : 0 ≤ (g5 214 15) ∧ (g5 214 15) ≤ 400 := I_14.1 214 15
    have m_684 : g5 214 15 = g2 214 15 := by rw [e_13]; exact zi_u_ne (by decide)
    have m_685 : 0 ≤ (g2 214 15) ∧ (g2 214 15) ≤ 400 := I_10.1 214 15
    have m_686 : (-2147483648) ≤ (g5 234 (l1 + 1)) ∧ (g5 234 (l1 + 1)) ≤ 2147483647 := I_14.1 234 (l1 + 1)
    have m_687 : (-2147483648) ≤ (g2 234 (l1 + 1)) ∧ (g2 234 (l1 + 1)) ≤ 2147483647 := I_10.1 234 (l1 + 1)
    have m_688 : g2 234 (l1 + 1) = g 234 (l1 + 1) := F_11 _ _ (by unfold fr_M_readTold; omega)
    have m_689 : (-2147483648) ≤ (g 234 (l1 + 1)) ∧ (g 234 (l1 + 1)) ≤ 2147483647 := I.1 234 (l1 + 1)
    have m_690 : (l1 + 1 = l1 → g5 234 (l1 + 1) = v1) ∧ (¬ l1 + 1 = l1 → g5 234 (l1 + 1) = g2 234 (l1 + 1)) := by rw [e_13]; exact zi_u_if
    have m_691 : (-2147483648) ≤ (g5 234 (l1 + 2)) ∧ (g5 234 (l1 + 2)) ≤ 2147483647 := I_14.1 234 (l1 + 2)
    have m_692 : (-2147483648) ≤ (g2 234 (l1 + 2)) ∧ (g2 234 (l1 + 2)) ≤ 2147483647 := I_10.1 234 (l1 + 2)
    have m_693 : g2 234 (l1 + 2) = g 234 (l1 + 2) := F_11 _ _ (by unfold fr_M_readTold; omega)
    have m_694 : (-2147483648) ≤ (g 234 (l1 + 2)) ∧ (g 234 (l1 + 2)) ≤ 2147483647 := I.1 234 (l1 + 2)
    have m_695 : (l1 + 2 = l1 → g5 234 (l1 + 2) = v1) ∧ (¬ l1 + 2 = l1 → g5 234 (l1 + 2) = g2 234 (l1 + 2)) := by rw [e_13]; exact zi_u_if
    have m_696 : (-2147483648) ≤ (g5 234 (l1 + 3)) ∧ (g5 234 (l1 + 3)) ≤ 2147483647 := I_14.1 234 (l1 + 3)
    have m_697 : (-2147483648) ≤ (g2 234 (l1 + 3)) ∧ (g2 234 (l1 + 3)) ≤ 2147483647 := I_10.1 234 (l1 + 3)
    have m_698 : g2 234 (l1 + 3) = g 234 (l1 + 3) := F_11 _ _ (by unfold fr_M_readTold; omega)
    have m_699 : (-2147483648) ≤ (g 234 (l1 + 3)) ∧ (g 234 (l1 + 3)) ≤ 2147483647 := I.1 234 (l1 + 3)
    have m_700 : (l1 + 3 = l1 → g5 234 (l1 + 3) = v1) ∧ (¬ l1 + 3 = l1 → g5 234 (l1 + 3) = g2 234 (l1 + 3)) := by rw [e_13]; exact zi_u_if
    have z_706 : ∀ i : Int, i < l1 → g5 234 i = g 234 i := by
      intro i hi
      have m_701 : (-2147483648) ≤ (g5 234 i) ∧ (g5 234 i) ≤ 2147483647 := I_14.1 234 i
      have m_702 : (-2147483648) ≤ (g2 234 i) ∧ (g2 234 i) ≤ 2147483647 := I_10.1 234 i
      have m_703 : g2 234 i = g 234 i := F_11 _ _ (by unfold fr_M_readTold; omega)
      have m_704 : (-2147483648) ≤ (g 234 i) ∧ (g 234 i) ≤ 2147483647 := I.1 234 i
      have m_705 : (i = l1 → g5 234 i = v1) ∧ (¬ i = l1 → g5 234 i = g2 234 i) := by rw [e_13]; exact zi_u_if
      omega
    exact hQ _ _ I_14 F_15 ⟨by omega, by omega⟩ (by omega) (by omega) (by repeat first | assumption | refine zt3_u (by assumption) (by decide) ?_ | refine (by assumption : zt3 _ → zt3 _) ?_) (by omega) (by intro hv; unfold zj_deed; omega) z_706
