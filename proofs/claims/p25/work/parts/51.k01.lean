-- by program (wip/gen/mkz.py)
-- SpoutNewsModel.isIn(III)Z
set_option maxRecDepth 100000 in
set_option maxHeartbeats 4000000 in
theorem k_M_isIn {l1 : Int} {l2 : Int} {l3 : Int} {g : zi_M} {Q : Int → zi_M → Prop} (I : zk_I g) (p1 : (-2147483648) ≤ l1 ∧ l1 ≤ 2147483647) (p2 : (-2147483648) ≤ l2 ∧ l2 ≤ 2147483647) (p3 : (-2147483648) ≤ l3 ∧ l3 ≤ 2147483647) (hQ : ∀ v : Int, (l1 < l2 → v = 0) → (l2 ≤ l1 → l3 < l1 → v = 0) → (l2 ≤ l1 → l1 ≤ l3 → v = 1) → Q v g) : w_M_isIn l1 l2 l3 g Q := by
  unfold w_M_isIn
  refine ⟨⟨by omega, by omega⟩, ⟨by omega, by omega⟩, ?_⟩
  refine ⟨fun c5 => ?_, fun c5 => ?_⟩
  · exact hQ _ (by intros; omega) (by intros; omega) (by intros; omega)
  · refine ⟨⟨by omega, by omega⟩, ?_⟩
    refine ⟨fun c4 => ?_, fun c4 => ?_⟩
    · exact hQ _ (by intros; omega) (by intros; omega) (by intros; omega)
    · exact hQ _ (by intros; omega) (by intros; omega) (by intros; omega)
-- SpoutNewsModel.spout(III)I
set_option maxRecDepth 100000 in
set_option maxHeartbeats 4000000 in
theorem k_M_spout {l1 : Int} {l2 : Int} {l3 : Int} {g : zi_M} {Q : Int → zi_M → Prop} (I : zk_I g) (p1 : (-2147483648) ≤ l1 ∧ l1 ≤ 2147483647) (p2 : (-2147483648) ≤ l2 ∧ l2 ≤ 2147483647) (p3 : (-2147483648) ≤ l3 ∧ l3 ≤ 2147483647) (hQ : ∀ (v : Int) (g' : zi_M), zk_I g' → zk_fr fr_M_spout g g' → ((-1) ≤ v ∧ v ≤ 9) → (0 ≤ l1 ∧ l1 ≤ 5 ∧ 0 ≤ l2 ∧ l2 ≤ 3 ∧ 0 ≤ l3 ∧ l3 ≤ 99 ∧ g 214 6 < 10 → v = g 214 6 ∧ g' 214 6 = g 214 6 + 1) → (¬ (0 ≤ l1 ∧ l1 ≤ 5 ∧ 0 ≤ l2 ∧ l2 ≤ 3 ∧ 0 ≤ l3 ∧ l3 ≤ 99 ∧ g 214 6 < 10) → v = -1 ∧ g' 214 6 = g 214 6) → (∀ k : Int, 0 ≤ k ∧ k < 10 → (¬ v = -1 ∧ k = g 214 6 → g' 220 k = l3) ∧ (¬ (¬ v = -1 ∧ k = g 214 6) → g' 220 k = g 220 k)) → (∀ k : Int, 0 ≤ k ∧ k < 264 → (¬ v = -1 ∧ k = 6 + g 214 6 → g' 215 k = 0) ∧ (¬ v = -1 ∧ k = 16 + g 214 6 → g' 215 k = 0) ∧ (¬ v = -1 ∧ k = 26 + g 214 6 → g' 215 k = 0) ∧ (¬ (¬ v = -1 ∧ (k = 6 + g 214 6 ∨ k = 16 + g 214 6 ∨ k = 26 + g 214 6)) → g' 215 k = g 215 k)) → (¬ v = -1 → g' 214 3 = 0) → (v = -1 → g' 214 3 = g 214 3) → (∀ k : Int, 0 ≤ k ∧ k < 10 → (¬ v = -1 ∧ k = g 214 6 → g' 218 k = l1) ∧ (¬ (¬ v = -1 ∧ k = g 214 6) → g' 218 k = g 218 k)) → (∀ k : Int, 0 ≤ k ∧ k < 10 → (¬ v = -1 ∧ k = g 214 6 → g' 219 k = l2) ∧ (¬ (¬ v = -1 ∧ k = g 214 6) → g' 219 k = g 219 k)) → Q v g') : w_M_spout l1 l2 l3 g Q := by
  unfold w_M_spout
  intro g1 e_1
  have I_2 : zk_I g1 := by rw [e_1]; exact zk_upd (L := (-2147483648)) (H := 2147483647) rfl rfl I ⟨by omega, by omega⟩
  have F_3 : zk_fr fr_M_spout g g1 := by rw [e_1]; exact zk_fu (zk_f0 _) (Or.inr (Or.inr (Or.inr (Or.inl ⟨rfl, rfl⟩))))
  refine k_M_isIn I_2 ⟨by omega, by omega⟩ ⟨by omega, by omega⟩ ⟨by omega, by omega⟩ (fun v2 b_4 b_5 b_6 => ?_)
  refine ⟨fun c29 => ?_, fun c29 => ?_⟩
  · have m_7 : 0 ≤ (g1 214 6) ∧ (g1 214 6) ≤ 10 := I_2.1 214 6
    have m_8 : g1 214 6 = g 214 6 := by rw [e_1]; exact zi_u_ni (by decide)
    have m_9 : 0 ≤ (g 214 6) ∧ (g 214 6) ≤ 10 := I.1 214 6
    have z_13 : ∀ k : Int, 0 ≤ k ∧ k < 10 → (¬ ((-1) : Int) = -1 ∧ k = g 214 6 → g1 220 k = l3) ∧ (¬ (¬ ((-1) : Int) = -1 ∧ k = g 214 6) → g1 220 k = g 220 k) := by
      intro k hk
      have m_10 : 0 ≤ (g1 220 k) ∧ (g1 220 k) ≤ 99 := I_2.1 220 k
      have m_11 : g1 220 k = g 220 k := by rw [e_1]; exact zi_u_ne (by decide)
      have m_12 : 0 ≤ (g 220 k) ∧ (g 220 k) ≤ 99 := I.1 220 k
      omega
    have z_17 : ∀ k : Int, 0 ≤ k ∧ k < 264 → (¬ ((-1) : Int) = -1 ∧ k = 6 + g 214 6 → g1 215 k = 0) ∧ (¬ ((-1) : Int) = -1 ∧ k = 16 + g 214 6 → g1 215 k = 0) ∧ (¬ ((-1) : Int) = -1 ∧ k = 26 + g 214 6 → g1 215 k = 0) ∧ (¬ (¬ ((-1) : Int) = -1 ∧ (k = 6 + g 214 6 ∨ k = 16 + g 214 6 ∨ k = 26 + g 214 6)) → g1 215 k = g 215 k) := by
      intro k hk
      have m_14 := zk_rng I_2 215 k
      have m_15 : g1 215 k = g 215 k := by rw [e_1]; exact zi_u_ne (by decide)
      have m_16 := zk_rng I 215 k
      omega
    have m_18 : 0 ≤ (g1 214 3) ∧ (g1 214 3) ≤ 6 := I_2.1 214 3
    have m_19 : g1 214 3 = g 214 3 := by rw [e_1]; exact zi_u_ni (by decide)
    have m_20 : 0 ≤ (g 214 3) ∧ (g 214 3) ≤ 6 := I.1 214 3
    have z_24 : ∀ k : Int, 0 ≤ k ∧ k < 10 → (¬ ((-1) : Int) = -1 ∧ k = g 214 6 → g1 218 k = l1) ∧ (¬ (¬ ((-1) : Int) = -1 ∧ k = g 214 6) → g1 218 k = g 218 k) := by
      intro k hk
      have m_21 : 0 ≤ (g1 218 k) ∧ (g1 218 k) ≤ 5 := I_2.1 218 k
      have m_22 : g1 218 k = g 218 k := by rw [e_1]; exact zi_u_ne (by decide)
      have m_23 : 0 ≤ (g 218 k) ∧ (g 218 k) ≤ 5 := I.1 218 k
      omega
    have z_28 : ∀ k : Int, 0 ≤ k ∧ k < 10 → (¬ ((-1) : Int) = -1 ∧ k = g 214 6 → g1 219 k = l2) ∧ (¬ (¬ ((-1) : Int) = -1 ∧ k = g 214 6) → g1 219 k = g 219 k) := by
      intro k hk
      have m_25 : 0 ≤ (g1 219 k) ∧ (g1 219 k) ≤ 3 := I_2.1 219 k
      have m_26 : g1 219 k = g 219 k := by rw [e_1]; exact zi_u_ne (by decide)
      have m_27 : 0 ≤ (g 219 k) ∧ (g 219 k) ≤ 3 := I.1 219 k
      omega
    exact hQ _ _ I_2 F_3 ⟨by omega, by omega⟩ (by omega) (by omega) z_13 z_17 (by omega) (by omega) z_24 z_28
  · refine k_M_isIn I_2 ⟨by omega, by omega⟩ ⟨by omega, by omega⟩ ⟨by omega, by omega⟩ (fun v5 b_29 b_30 b_31 => ?_)
    refine ⟨fun c28 => ?_, fun c28 => ?_⟩
    · have m_32 : 0 ≤ (g1 214 6) ∧ (g1 214 6) ≤ 10 := I_2.1 214 6
      have m_33 : g1 214 6 = g 214 6 := by rw [e_1]; exact zi_u_ni (by decide)
      have m_34 : 0 ≤ (g 214 6) ∧ (g 214 6) ≤ 10 := I.1 214 6
      have z_38 : ∀ k : Int, 0 ≤ k ∧ k < 10 → (¬ ((-1) : Int) = -1 ∧ k = g 214 6 → g1 220 k = l3) ∧ (¬ (¬ ((-1) : Int) = -1 ∧ k = g 214 6) → g1 220 k = g 220 k) := by
        intro k hk
        have m_35 : 0 ≤ (g1 220 k) ∧ (g1 220 k) ≤ 99 := I_2.1 220 k
        have m_36 : g1 220 k = g 220 k := by rw [e_1]; exact zi_u_ne (by decide)
        have m_37 : 0 ≤ (g 220 k) ∧ (g 220 k) ≤ 99 := I.1 220 k
        omega
      have z_42 : ∀ k : Int, 0 ≤ k ∧ k < 264 → (¬ ((-1) : Int) = -1 ∧ k = 6 + g 214 6 → g1 215 k = 0) ∧ (¬ ((-1) : Int) = -1 ∧ k = 16 + g 214 6 → g1 215 k = 0) ∧ (¬ ((-1) : Int) = -1 ∧ k = 26 + g 214 6 → g1 215 k = 0) ∧ (¬ (¬ ((-1) : Int) = -1 ∧ (k = 6 + g 214 6 ∨ k = 16 + g 214 6 ∨ k = 26 + g 214 6)) → g1 215 k = g 215 k) := by
        intro k hk
        have m_39 := zk_rng I_2 215 k
        have m_40 : g1 215 k = g 215 k := by rw [e_1]; exact zi_u_ne (by decide)
        have m_41 := zk_rng I 215 k
        omega
      have m_43 : 0 ≤ (g1 214 3) ∧ (g1 214 3) ≤ 6 := I_2.1 214 3
      have m_44 : g1 214 3 = g 214 3 := by rw [e_1]; exact zi_u_ni (by decide)
      have m_45 : 0 ≤ (g 214 3) ∧ (g 214 3) ≤ 6 := I.1 214 3
      have z_49 : ∀ k : Int, 0 ≤ k ∧ k < 10 → (¬ ((-1) : Int) = -1 ∧ k = g 214 6 → g1 218 k = l1) ∧ (¬ (¬ ((-1) : Int) = -1 ∧ k = g 214 6) → g1 218 k = g 218 k) := by
        intro k hk
        have m_46 : 0 ≤ (g1 218 k) ∧ (g1 218 k) ≤ 5 := I_2.1 218 k
        have m_47 : g1 218 k = g 218 k := by rw [e_1]; exact zi_u_ne (by decide)
        have m_48 : 0 ≤ (g 218 k) ∧ (g 218 k) ≤ 5 := I.1 218 k
        omega
      have z_53 : ∀ k : Int, 0 ≤ k ∧ k < 10 → (¬ ((-1) : Int) = -1 ∧ k = g 214 6 → g1 219 k = l2) ∧ (¬ (¬ ((-1) : Int) = -1 ∧ k = g 214 6) → g1 219 k = g 219 k) := by
        intro k hk
        have m_50 : 0 ≤ (g1 219 k) ∧ (g1 219 k) ≤ 3 := I_2.1 219 k
        have m_51 : g1 219 k = g 219 k := by rw [e_1]; exact zi_u_ne (by decide)
        have m_52 : 0 ≤ (g 219 k) ∧ (g 219 k) ≤ 3 := I.1 219 k
        omega
      exact hQ _ _ I_2 F_3 ⟨by omega, by omega⟩ (by omega) (by omega) z_38 z_42 (by omega) (by omega) z_49 z_53
    · refine k_M_isIn I_2 ⟨by omega, by omega⟩ ⟨by omega, by omega⟩ ⟨by omega, by omega⟩ (fun v8 b_54 b_55 b_56 => ?_)
      refine ⟨fun c27 => ?_, fun c27 => ?_⟩
      · have m_57 : 0 ≤ (g1 214 6) ∧ (g1 214 6) ≤ 10 := I_2.1 214 6
        have m_58 : g1 214 6 = g 214 6 := by rw [e_1]; exact zi_u_ni (by decide)
        have m_59 : 0 ≤ (g 214 6) ∧ (g 214 6) ≤ 10 := I.1 214 6
        have z_63 : ∀ k : Int, 0 ≤ k ∧ k < 10 → (¬ ((-1) : Int) = -1 ∧ k = g 214 6 → g1 220 k = l3) ∧ (¬ (¬ ((-1) : Int) = -1 ∧ k = g 214 6) → g1 220 k = g 220 k) := by
          intro k hk
          have m_60 : 0 ≤ (g1 220 k) ∧ (g1 220 k) ≤ 99 := I_2.1 220 k
          have m_61 : g1 220 k = g 220 k := by rw [e_1]; exact zi_u_ne (by decide)
          have m_62 : 0 ≤ (g 220 k) ∧ (g 220 k) ≤ 99 := I.1 220 k
          omega
        have z_67 : ∀ k : Int, 0 ≤ k ∧ k < 264 → (¬ ((-1) : Int) = -1 ∧ k = 6 + g 214 6 → g1 215 k = 0) ∧ (¬ ((-1) : Int) = -1 ∧ k = 16 + g 214 6 → g1 215 k = 0) ∧ (¬ ((-1) : Int) = -1 ∧ k = 26 + g 214 6 → g1 215 k = 0) ∧ (¬ (¬ ((-1) : Int) = -1 ∧ (k = 6 + g 214 6 ∨ k = 16 + g 214 6 ∨ k = 26 + g 214 6)) → g1 215 k = g 215 k) := by
          intro k hk
          have m_64 := zk_rng I_2 215 k
          have m_65 : g1 215 k = g 215 k := by rw [e_1]; exact zi_u_ne (by decide)
          have m_66 := zk_rng I 215 k
          omega
        have m_68 : 0 ≤ (g1 214 3) ∧ (g1 214 3) ≤ 6 := I_2.1 214 3
        have m_69 : g1 214 3 = g 214 3 := by rw [e_1]; exact zi_u_ni (by decide)
        have m_70 : 0 ≤ (g 214 3) ∧ (g 214 3) ≤ 6 := I.1 214 3
        have z_74 : ∀ k : Int, 0 ≤ k ∧ k < 10 → (¬ ((-1) : Int) = -1 ∧ k = g 214 6 → g1 218 k = l1) ∧ (¬ (¬ ((-1) : Int) = -1 ∧ k = g 214 6) → g1 218 k = g 218 k) := by
          intro k hk
          have m_71 : 0 ≤ (g1 218 k) ∧ (g1 218 k) ≤ 5 := I_2.1 218 k
          have m_72 : g1 218 k = g 218 k := by rw [e_1]; exact zi_u_ne (by decide)
          have m_73 : 0 ≤ (g 218 k) ∧ (g 218 k) ≤ 5 := I.1 218 k
          omega
        have z_78 : ∀ k : Int, 0 ≤ k ∧ k < 10 → (¬ ((-1) : Int) = -1 ∧ k = g 214 6 → g1 219 k = l2) ∧ (¬ (¬ ((-1) : Int) = -1 ∧ k = g 214 6) → g1 219 k = g 219 k) := by
          intro k hk
          have m_75 : 0 ≤ (g1 219 k) ∧ (g1 219 k) ≤ 3 := I_2.1 219 k
          have m_76 : g1 219 k = g 219 k := by rw [e_1]; exact zi_u_ne (by decide)
          have m_77 : 0 ≤ (g 219 k) ∧ (g 219 k) ≤ 3 := I.1 219 k
          omega
        exact hQ _ _ I_2 F_3 ⟨by omega, by omega⟩ (by omega) (by omega) z_63 z_67 (by omega) (by omega) z_74 z_78
      · have m_79 : 0 ≤ (g1 214 6) ∧ (g1 214 6) ≤ 10 := I_2.1 214 6
        have m_80 : g1 214 6 = g 214 6 := by rw [e_1]; exact zi_u_ni (by decide)
        have m_81 : 0 ≤ (g 214 6) ∧ (g 214 6) ≤ 10 := I.1 214 6
        refine ⟨⟨by omega, by omega⟩, ?_⟩
        refine ⟨fun c26 => ?_, fun c26 => ?_⟩
        · refine ⟨⟨by omega, by omega⟩, ?_⟩
          intro g13 e_82
          have I_83 : zk_I g13 := by rw [e_82]; exact zk_upd (L := 0) (H := 5) rfl rfl I_2 ⟨by omega, by omega⟩
          have F_84 : zk_fr fr_M_spout g g13 := by rw [e_82]; exact zk_fu F_3 (Or.inl rfl)
          have m_88 : 0 ≤ (g13 214 6) ∧ (g13 214 6) ≤ 10 := I_83.1 214 6
          have m_89 : g13 214 6 = g1 214 6 := by rw [e_82]; exact zi_u_ne (by decide)
          refine ⟨⟨by omega, by omega⟩, ?_⟩
          intro g15 e_85
          have I_86 : zk_I g15 := by rw [e_85]; exact zk_upd (L := 0) (H := 3) rfl rfl I_83 ⟨by omega, by omega⟩
          have F_87 : zk_fr fr_M_spout g g15 := by rw [e_85]; exact zk_fu F_84 (Or.inr (Or.inl rfl))
          have m_93 : 0 ≤ (g15 214 6) ∧ (g15 214 6) ≤ 10 := I_86.1 214 6
          have m_94 : g15 214 6 = g13 214 6 := by rw [e_85]; exact zi_u_ne (by decide)
          refine ⟨⟨by omega, by omega⟩, ?_⟩
          intro g17 e_90
          have I_91 : zk_I g17 := by rw [e_90]; exact zk_upd (L := 0) (H := 99) rfl rfl I_86 ⟨by omega, by omega⟩
          have F_92 : zk_fr fr_M_spout g g17 := by rw [e_90]; exact zk_fu F_87 (Or.inr (Or.inr (Or.inl rfl)))
          have m_98 : 0 ≤ (g17 214 6) ∧ (g17 214 6) ≤ 10 := I_91.1 214 6
          have m_99 : g17 214 6 = g15 214 6 := by rw [e_90]; exact zi_u_ne (by decide)
          refine ⟨⟨by omega, by omega⟩, ?_⟩
          intro g19 e_95
          have I_96 : zk_I g19 := by rw [e_95]; exact zk_upd (zk_nl6 (i := 6 + (g17 214 6)) (by omega)).1 (zk_nl6 (i := 6 + (g17 214 6)) (by omega)).2 I_91 ⟨by omega, by omega⟩
          have F_97 : zk_fr fr_M_spout g g19 := by rw [e_95]; exact zk_fu F_92 (Or.inr (Or.inr (Or.inr (Or.inr (Or.inr (Or.inr (Or.inr (Or.inr ⟨rfl, by omega, by omega⟩))))))))
          have m_103 : 0 ≤ (g19 214 6) ∧ (g19 214 6) ≤ 10 := I_96.1 214 6
          have m_104 : g19 214 6 = g17 214 6 := by rw [e_95]; exact zi_u_ne (by decide)
          refine ⟨⟨by omega, by omega⟩, ?_⟩
          intro g21 e_100
          have I_101 : zk_I g21 := by rw [e_100]; exact zk_upd (zk_nl16 (i := 16 + (g19 214 6)) (by omega)).1 (zk_nl16 (i := 16 + (g19 214 6)) (by omega)).2 I_96 ⟨by omega, by omega⟩
          have F_102 : zk_fr fr_M_spout g g21 := by rw [e_100]; exact zk_fu F_97 (Or.inr (Or.inr (Or.inr (Or.inr (Or.inr (Or.inr (Or.inl ⟨rfl, by omega, by omega⟩)))))))
          have m_108 : 0 ≤ (g21 214 6) ∧ (g21 214 6) ≤ 10 := I_101.1 214 6
          have m_109 : g21 214 6 = g19 214 6 := by rw [e_100]; exact zi_u_ne (by decide)
          refine ⟨⟨by omega, by omega⟩, ?_⟩
          intro g23 e_105
          have I_106 : zk_I g23 := by rw [e_105]; exact zk_upd (zk_nl26 (i := 26 + (g21 214 6)) (by omega)).1 (zk_nl26 (i := 26 + (g21 214 6)) (by omega)).2 I_101 ⟨by omega, by omega⟩
          have F_107 : zk_fr fr_M_spout g g23 := by rw [e_105]; exact zk_fu F_102 (Or.inr (Or.inr (Or.inr (Or.inr (Or.inr (Or.inr (Or.inr (Or.inl ⟨rfl, by omega, by omega⟩))))))))
          have m_113 : 0 ≤ (g23 214 6) ∧ (g23 214 6) ≤ 10 := I_106.1 214 6
          have m_114 : g23 214 6 = g21 214 6 := by rw [e_105]; exact zi_u_ne (by decide)
          intro g24 e_110
          have I_111 : zk_I g24 := by rw [e_110]; exact zk_upd (L := 0) (H := 10) rfl rfl I_106 ⟨by omega, by omega⟩
          have F_112 : zk_fr fr_M_spout g g24 := by rw [e_110]; exact zk_fu F_107 (Or.inr (Or.inr (Or.inr (Or.inr (Or.inr (Or.inl ⟨rfl, rfl⟩))))))
          intro g25 e_115
          have I_116 : zk_I g25 := by rw [e_115]; exact zk_upd (L := 0) (H := 6) rfl rfl I_111 ⟨by omega, by omega⟩
          have F_117 : zk_fr fr_M_spout g g25 := by rw [e_115]; exact zk_fu F_112 (Or.inr (Or.inr (Or.inr (Or.inr (Or.inl ⟨rfl, rfl⟩)))))
          have m_118 : 0 ≤ (g25 214 6) ∧ (g25 214 6) ≤ 10 := I_116.1 214 6
          have m_119 : g25 214 6 = g24 214 6 := by rw [e_115]; exact zi_u_ni (by decide)
          have m_120 : 0 ≤ (g24 214 6) ∧ (g24 214 6) ≤ 10 := I_111.1 214 6
          have m_121 : g24 214 6 = (g23 214 6) + 1 := by rw [e_110]; exact zi_u_eq
          have z_141 : ∀ k : Int, 0 ≤ k ∧ k < 10 → (¬ ((g25 214 6) - 1 : Int) = -1 ∧ k = g 214 6 → g25 220 k = l3) ∧ (¬ (¬ ((g25 214 6) - 1 : Int) = -1 ∧ k = g 214 6) → g25 220 k = g 220 k) := by
            intro k hk
            have m_122 : 0 ≤ (g25 220 k) ∧ (g25 220 k) ≤ 99 := I_116.1 220 k
            have m_123 : g25 220 k = g24 220 k := by rw [e_115]; exact zi_u_ne (by decide)
            have m_124 : 0 ≤ (g24 220 k) ∧ (g24 220 k) ≤ 99 := I_111.1 220 k
            have m_125 : g24 220 k = g23 220 k := by rw [e_110]; exact zi_u_ne (by decide)
            have m_126 : 0 ≤ (g23 220 k) ∧ (g23 220 k) ≤ 99 := I_106.1 220 k
            have m_127 : g23 220 k = g21 220 k := by rw [e_105]; exact zi_u_ne (by decide)
            have m_128 : 0 ≤ (g21 220 k) ∧ (g21 220 k) ≤ 99 := I_101.1 220 k
            have m_129 : g21 220 k = g19 220 k := by rw [e_100]; exact zi_u_ne (by decide)
            have m_130 : 0 ≤ (g19 220 k) ∧ (g19 220 k) ≤ 99 := I_96.1 220 k
            have m_131 : g19 220 k = g17 220 k := by rw [e_95]; exact zi_u_ne (by decide)
            have m_132 : 0 ≤ (g17 220 k) ∧ (g17 220 k) ≤ 99 := I_91.1 220 k
            have m_133 : 0 ≤ (g15 220 k) ∧ (g15 220 k) ≤ 99 := I_86.1 220 k
            have m_134 : g15 220 k = g13 220 k := by rw [e_85]; exact zi_u_ne (by decide)
            have m_135 : 0 ≤ (g13 220 k) ∧ (g13 220 k) ≤ 99 := I_83.1 220 k
            have m_136 : g13 220 k = g1 220 k := by rw [e_82]; exact zi_u_ne (by decide)
            have m_137 : 0 ≤ (g1 220 k) ∧ (g1 220 k) ≤ 99 := I_2.1 220 k
            have m_138 : g1 220 k = g 220 k := by rw [e_1]; exact zi_u_ne (by decide)
            have m_139 : 0 ≤ (g 220 k) ∧ (g 220 k) ≤ 99 := I.1 220 k
            have m_140 : (k = g15 214 6 → g17 220 k = l3) ∧ (¬ k = g15 214 6 → g17 220 k = g15 220 k) := by rw [e_90]; exact zi_u_if
            omega
          have z_161 : ∀ k : Int, 0 ≤ k ∧ k < 264 → (¬ ((g25 214 6) - 1 : Int) = -1 ∧ k = 6 + g 214 6 → g25 215 k = 0) ∧ (¬ ((g25 214 6) - 1 : Int) = -1 ∧ k = 16 + g 214 6 → g25 215 k = 0) ∧ (¬ ((g25 214 6) - 1 : Int) = -1 ∧ k = 26 + g 214 6 → g25 215 k = 0) ∧ (¬ (¬ ((g25 214 6) - 1 : Int) = -1 ∧ (k = 6 + g 214 6 ∨ k = 16 + g 214 6 ∨ k = 26 + g 214 6)) → g25 215 k = g 215 k) := by
            intro k hk
            have m_142 := zk_rng I_116 215 k
            have m_143 : g25 215 k = g24 215 k := by rw [e_115]; exact zi_u_ne (by decide)
            have m_144 := zk_rng I_111 215 k
            have m_145 : g24 215 k = g23 215 k := by rw [e_110]; exact zi_u_ne (by decide)
            have m_146 := zk_rng I_106 215 k
            have m_147 := zk_rng I_101 215 k
            have m_148 := zk_rng I_96 215 k
            have m_149 := zk_rng I_91 215 k
            have m_150 : g17 215 k = g15 215 k := by rw [e_90]; exact zi_u_ne (by decide)
            have m_151 := zk_rng I_86 215 k
            have m_152 : g15 215 k = g13 215 k := by rw [e_85]; exact zi_u_ne (by decide)
            have m_153 := zk_rng I_83 215 k
            have m_154 : g13 215 k = g1 215 k := by rw [e_82]; exact zi_u_ne (by decide)
            have m_155 := zk_rng I_2 215 k
            have m_156 : g1 215 k = g 215 k := by rw [e_1]; exact zi_u_ne (by decide)
            have m_157 := zk_rng I 215 k
            have m_158 : (k = 6 + (g17 214 6) → g19 215 k = 0) ∧ (¬ k = 6 + (g17 214 6) → g19 215 k = g17 215 k) := by rw [e_95]; exact zi_u_if
            have m_159 : (k = 16 + (g19 214 6) → g21 215 k = 0) ∧ (¬ k = 16 + (g19 214 6) → g21 215 k = g19 215 k) := by rw [e_100]; exact zi_u_if
            have m_160 : (k = 26 + (g21 214 6) → g23 215 k = 0) ∧ (¬ k = 26 + (g21 214 6) → g23 215 k = g21 215 k) := by rw [e_105]; exact zi_u_if
            omega
          have m_162 : 0 ≤ (g25 214 3) ∧ (g25 214 3) ≤ 6 := I_116.1 214 3
          have m_163 : g25 214 3 = 0 := by rw [e_115]; exact zi_u_eq
          have z_183 : ∀ k : Int, 0 ≤ k ∧ k < 10 → (¬ ((g25 214 6) - 1 : Int) = -1 ∧ k = g 214 6 → g25 218 k = l1) ∧ (¬ (¬ ((g25 214 6) - 1 : Int) = -1 ∧ k = g 214 6) → g25 218 k = g 218 k) := by
            intro k hk
            have m_164 : 0 ≤ (g25 218 k) ∧ (g25 218 k) ≤ 5 := I_116.1 218 k
            have m_165 : g25 218 k = g24 218 k := by rw [e_115]; exact zi_u_ne (by decide)
            have m_166 : 0 ≤ (g24 218 k) ∧ (g24 218 k) ≤ 5 := I_111.1 218 k
            have m_167 : g24 218 k = g23 218 k := by rw [e_110]; exact zi_u_ne (by decide)
            have m_168 : 0 ≤ (g23 218 k) ∧ (g23 218 k) ≤ 5 := I_106.1 218 k
            have m_169 : g23 218 k = g21 218 k := by rw [e_105]; exact zi_u_ne (by decide)
            have m_170 : 0 ≤ (g21 218 k) ∧ (g21 218 k) ≤ 5 := I_101.1 218 k
            have m_171 : g21 218 k = g19 218 k := by rw [e_100]; exact zi_u_ne (by decide)
            have m_172 : 0 ≤ (g19 218 k) ∧ (g19 218 k) ≤ 5 := I_96.1 218 k
            have m_173 : g19 218 k = g17 218 k := by rw [e_95]; exact zi_u_ne (by decide)
            have m_174 : 0 ≤ (g17 218 k) ∧ (g17 218 k) ≤ 5 := I_91.1 218 k
            have m_175 : g17 218 k = g15 218 k := by rw [e_90]; exact zi_u_ne (by decide)
            have m_176 : 0 ≤ (g15 218 k) ∧ (g15 218 k) ≤ 5 := I_86.1 218 k
            have m_177 : g15 218 k = g13 218 k := by rw [e_85]; exact zi_u_ne (by decide)
            have m_178 : 0 ≤ (g13 218 k) ∧ (g13 218 k) ≤ 5 := I_83.1 218 k
            have m_179 : 0 ≤ (g1 218 k) ∧ (g1 218 k) ≤ 5 := I_2.1 218 k
            have m_180 : g1 218 k = g 218 k := by rw [e_1]; exact zi_u_ne (by decide)
            have m_181 : 0 ≤ (g 218 k) ∧ (g 218 k) ≤ 5 := I.1 218 k
            have m_182 : (k = g1 214 6 → g13 218 k = l1) ∧ (¬ k = g1 214 6 → g13 218 k = g1 218 k) := by rw [e_82]; exact zi_u_if
            omega
          have z_203 : ∀ k : Int, 0 ≤ k ∧ k < 10 → (¬ ((g25 214 6) - 1 : Int) = -1 ∧ k = g 214 6 → g25 219 k = l2) ∧ (¬ (¬ ((g25 214 6) - 1 : Int) = -1 ∧ k = g 214 6) → g25 219 k = g 219 k) := by
            intro k hk
            have m_184 : 0 ≤ (g25 219 k) ∧ (g25 219 k) ≤ 3 := I_116.1 219 k
            have m_185 : g25 219 k = g24 219 k := by rw [e_115]; exact zi_u_ne (by decide)
            have m_186 : 0 ≤ (g24 219 k) ∧ (g24 219 k) ≤ 3 := I_111.1 219 k
            have m_187 : g24 219 k = g23 219 k := by rw [e_110]; exact zi_u_ne (by decide)
            have m_188 : 0 ≤ (g23 219 k) ∧ (g23 219 k) ≤ 3 := I_106.1 219 k
            have m_189 : g23 219 k = g21 219 k := by rw [e_105]; exact zi_u_ne (by decide)
            have m_190 : 0 ≤ (g21 219 k) ∧ (g21 219 k) ≤ 3 := I_101.1 219 k
            have m_191 : g21 219 k = g19 219 k := by rw [e_100]; exact zi_u_ne (by decide)
            have m_192 : 0 ≤ (g19 219 k) ∧ (g19 219 k) ≤ 3 := I_96.1 219 k
            have m_193 : g19 219 k = g17 219 k := by rw [e_95]; exact zi_u_ne (by decide)
            have m_194 : 0 ≤ (g17 219 k) ∧ (g17 219 k) ≤ 3 := I_91.1 219 k
            have m_195 : g17 219 k = g15 219 k := by rw [e_90]; exact zi_u_ne (by decide)
            have m_196 : 0 ≤ (g15 219 k) ∧ (g15 219 k) ≤ 3 := I_86.1 219 k
            have m_197 : 0 ≤ (g13 219 k) ∧ (g13 219 k) ≤ 3 := I_83.1 219 k
            have m_198 : g13 219 k = g1 219 k := by rw [e_82]; exact zi_u_ne (by decide)
            have m_199 : 0 ≤ (g1 219 k) ∧ (g1 219 k) ≤ 3 := I_2.1 219 k
            have m_200 : g1 219 k = g 219 k := by rw [e_1]; exact zi_u_ne (by decide)
            have m_201 : 0 ≤ (g 219 k) ∧ (g 219 k) ≤ 3 := I.1 219 k
            have m_202 : (k = g13 214 6 → g15 219 k = l2) ∧ (¬ k = g13 214 6 → g15 219 k = g13 219 k) := by rw [e_85]; exact zi_u_if
            omega
          exact hQ _ _ I_116 F_117 ⟨by omega, by omega⟩ (by omega) (by omega) z_141 z_161 (by omega) (by omega) z_183 z_203
        · have z_207 : ∀ k : Int, 0 ≤ k ∧ k < 10 → (¬ ((-1) : Int) = -1 ∧ k = g 214 6 → g1 220 k = l3) ∧ (¬ (¬ ((-1) : Int) = -1 ∧ k = g 214 6) → g1 220 k = g 220 k) := by
            intro k hk
            have m_204 : 0 ≤ (g1 220 k) ∧ (g1 220 k) ≤ 99 := I_2.1 220 k
            have m_205 : g1 220 k = g 220 k := by rw [e_1]; exact zi_u_ne (by decide)
            have m_206 : 0 ≤ (g 220 k) ∧ (g 220 k) ≤ 99 := I.1 220 k
            omega
          have z_211 : ∀ k : Int, 0 ≤ k ∧ k < 264 → (¬ ((-1) : Int) = -1 ∧ k = 6 + g 214 6 → g1 215 k = 0) ∧ (¬ ((-1) : Int) = -1 ∧ k = 16 + g 214 6 → g1 215 k = 0) ∧ (¬ ((-1) : Int) = -1 ∧ k = 26 + g 214 6 → g1 215 k = 0) ∧ (¬ (¬ ((-1) : Int) = -1 ∧ (k = 6 + g 214 6 ∨ k = 16 + g 214 6 ∨ k = 26 + g 214 6)) → g1 215 k = g 215 k) := by
            intro k hk
            have m_208 := zk_rng I_2 215 k
            have m_209 : g1 215 k = g 215 k := by rw [e_1]; exact zi_u_ne (by decide)
            have m_210 := zk_rng I 215 k
            omega
          have m_212 : 0 ≤ (g1 214 3) ∧ (g1 214 3) ≤ 6 := I_2.1 214 3
          have m_213 : g1 214 3 = g 214 3 := by rw [e_1]; exact zi_u_ni (by decide)
          have m_214 : 0 ≤ (g 214 3) ∧ (g 214 3) ≤ 6 := I.1 214 3
          have z_218 : ∀ k : Int, 0 ≤ k ∧ k < 10 → (¬ ((-1) : Int) = -1 ∧ k = g 214 6 → g1 218 k = l1) ∧ (¬ (¬ ((-1) : Int) = -1 ∧ k = g 214 6) → g1 218 k = g 218 k) := by
            intro k hk
            have m_215 : 0 ≤ (g1 218 k) ∧ (g1 218 k) ≤ 5 := I_2.1 218 k
            have m_216 : g1 218 k = g 218 k := by rw [e_1]; exact zi_u_ne (by decide)
            have m_217 : 0 ≤ (g 218 k) ∧ (g 218 k) ≤ 5 := I.1 218 k
            omega
          have z_222 : ∀ k : Int, 0 ≤ k ∧ k < 10 → (¬ ((-1) : Int) = -1 ∧ k = g 214 6 → g1 219 k = l2) ∧ (¬ (¬ ((-1) : Int) = -1 ∧ k = g 214 6) → g1 219 k = g 219 k) := by
            intro k hk
            have m_219 : 0 ≤ (g1 219 k) ∧ (g1 219 k) ≤ 3 := I_2.1 219 k
            have m_220 : g1 219 k = g 219 k := by rw [e_1]; exact zi_u_ne (by decide)
            have m_221 : 0 ≤ (g 219 k) ∧ (g 219 k) ≤ 3 := I.1 219 k
            omega
          exact hQ _ _ I_2 F_3 ⟨by omega, by omega⟩ (by omega) (by omega) z_207 z_211 (by omega) (by omega) z_218 z_222
-- SpoutNews.isWordSet(I)Z
set_option maxRecDepth 100000 in
set_option maxHeartbeats 4000000 in
theorem k_S_isWordSet {l0 : Int} {g : zi_M} {Q : Int → zi_M → Prop} (I : zk_I g) (p0 : (-2147483648) ≤ l0 ∧ l0 ≤ 2147483647) (hQ : ∀ v : Int, (l0 < 0 → v = 0) → (0 ≤ l0 → 65536 ≤ l0 → v = 0) → (0 ≤ l0 → l0 < 65536 → v = 1) → Q v g) : w_S_isWordSet l0 g Q := by
  unfold w_S_isWordSet
  refine ⟨⟨by omega, by omega⟩, ?_⟩
  refine ⟨fun c3 => ?_, fun c3 => ?_⟩
  · exact hQ _ (by intros; omega) (by intros; omega) (by intros; omega)
  · refine ⟨fun c2 => ?_, fun c2 => ?_⟩
    · exact hQ _ (by intros; omega) (by intros; omega) (by intros; omega)
    · exact hQ _ (by intros; omega) (by intros; omega) (by intros; omega)
-- SpoutNews$World.addSitter(I)I
set_option maxRecDepth 100000 in
set_option maxHeartbeats 4000000 in
theorem k_World_addSitter {l1 : Int} {g : zi_M} {Q : Int → zi_M → Prop} (I : zk_I g) (p1 : (-2147483648) ≤ l1 ∧ l1 ≤ 2147483647) (hQ : ∀ (v : Int) (g' : zi_M), zk_I g' → zk_fr fr_World_addSitter g g' → ((-1) ≤ v ∧ v ≤ 7) → (g 2 11 < 8 → v = g 2 11 ∧ g' 2 11 = g 2 11 + 1) → (∀ k : Int, 0 ≤ k ∧ k < 8 → (g 2 11 < 8 ∧ k = g 2 11 → g' 10 k = l1) ∧ (¬ (g 2 11 < 8 ∧ k = g 2 11) → g' 10 k = g 10 k)) → (∀ k : Int, 0 ≤ k ∧ k < 8 → (g 2 11 < 8 ∧ k = g 2 11 → g' 11 k = (-1)) ∧ (¬ (g 2 11 < 8 ∧ k = g 2 11) → g' 11 k = g 11 k)) → Q v g') : w_World_addSitter l1 g Q := by
  unfold w_World_addSitter
  have m_1 : 0 ≤ (g 2 11) ∧ (g 2 11) ≤ 8 := I.1 2 11
  refine ⟨⟨by omega, by omega⟩, ?_⟩
  refine ⟨fun c6 => ?_, fun c6 => ?_⟩
  · refine ⟨⟨by omega, by omega⟩, ?_⟩
    intro g3 e_2
    have I_3 : zk_I g3 := by rw [e_2]; exact zk_upd (L := (-2147483648)) (H := 2147483647) rfl rfl I ⟨by omega, by omega⟩
    have F_4 : zk_fr fr_World_addSitter g g3 := by rw [e_2]; exact zk_fu (zk_f0 _) (Or.inl rfl)
    intro g4 e_5
    have I_6 : zk_I g4 := by rw [e_5]; exact zk_upd (L := (-1)) (H := 9) rfl rfl I_3 ⟨by omega, by omega⟩
    have F_7 : zk_fr fr_World_addSitter g g4 := by rw [e_5]; exact zk_fu F_4 (Or.inr (Or.inl rfl))
    intro g5 e_8
    have I_9 : zk_I g5 := by rw [e_8]; exact zk_upd (L := 0) (H := 8) rfl rfl I_6 ⟨by omega, by omega⟩
    have F_10 : zk_fr fr_World_addSitter g g5 := by rw [e_8]; exact zk_fu F_7 (Or.inr (Or.inr ⟨rfl, rfl⟩))
    have m_11 : 0 ≤ (g5 2 11) ∧ (g5 2 11) ≤ 8 := I_9.1 2 11
    have m_12 : g5 2 11 = (g 2 11) + 1 := by rw [e_8]; exact zi_u_eq
    have z_20 : ∀ k : Int, 0 ≤ k ∧ k < 8 → (g 2 11 < 8 ∧ k = g 2 11 → g5 10 k = l1) ∧ (¬ (g 2 11 < 8 ∧ k = g 2 11) → g5 10 k = g 10 k) := by
      intro k hk
      have m_13 : (-2147483648) ≤ (g5 10 k) ∧ (g5 10 k) ≤ 2147483647 := I_9.1 10 k
      have m_14 : g5 10 k = g4 10 k := by rw [e_8]; exact zi_u_ne (by decide)
      have m_15 : (-2147483648) ≤ (g4 10 k) ∧ (g4 10 k) ≤ 2147483647 := I_6.1 10 k
      have m_16 : g4 10 k = g3 10 k := by rw [e_5]; exact zi_u_ne (by decide)
      have m_17 : (-2147483648) ≤ (g3 10 k) ∧ (g3 10 k) ≤ 2147483647 := I_3.1 10 k
      have m_18 : (-2147483648) ≤ (g 10 k) ∧ (g 10 k) ≤ 2147483647 := I.1 10 k
      have m_19 : (k = g 2 11 → g3 10 k = l1) ∧ (¬ k = g 2 11 → g3 10 k = g 10 k) := by rw [e_2]; exact zi_u_if
      omega
    have z_28 : ∀ k : Int, 0 ≤ k ∧ k < 8 → (g 2 11 < 8 ∧ k = g 2 11 → g5 11 k = (-1)) ∧ (¬ (g 2 11 < 8 ∧ k = g 2 11) → g5 11 k = g 11 k) := by
      intro k hk
      have m_21 : (-1) ≤ (g5 11 k) ∧ (g5 11 k) ≤ 9 := I_9.1 11 k
      have m_22 : g5 11 k = g4 11 k := by rw [e_8]; exact zi_u_ne (by decide)
      have m_23 : (-1) ≤ (g4 11 k) ∧ (g4 11 k) ≤ 9 := I_6.1 11 k
      have m_24 : (-1) ≤ (g3 11 k) ∧ (g3 11 k) ≤ 9 := I_3.1 11 k
      have m_25 : g3 11 k = g 11 k := by rw [e_2]; exact zi_u_ne (by decide)
      have m_26 : (-1) ≤ (g 11 k) ∧ (g 11 k) ≤ 9 := I.1 11 k
      have m_27 : (k = g 2 11 → g4 11 k = (-1)) ∧ (¬ k = g 2 11 → g4 11 k = g3 11 k) := by rw [e_5]; exact zi_u_if
      omega
    exact hQ _ _ I_9 F_10 ⟨by omega, by omega⟩ (by omega) z_20 z_28
  · have z_30 : ∀ k : Int, 0 ≤ k ∧ k < 8 → (g 2 11 < 8 ∧ k = g 2 11 → g 10 k = l1) ∧ (¬ (g 2 11 < 8 ∧ k = g 2 11) → g 10 k = g 10 k) := by
      intro k hk
      have m_29 : (-2147483648) ≤ (g 10 k) ∧ (g 10 k) ≤ 2147483647 := I.1 10 k
      omega
    have z_32 : ∀ k : Int, 0 ≤ k ∧ k < 8 → (g 2 11 < 8 ∧ k = g 2 11 → g 11 k = (-1)) ∧ (¬ (g 2 11 < 8 ∧ k = g 2 11) → g 11 k = g 11 k) := by
      intro k hk
      have m_31 : (-1) ≤ (g 11 k) ∧ (g 11 k) ≤ 9 := I.1 11 k
      omega
    exact hQ _ _ I (zk_f0 _) ⟨by omega, by omega⟩ (by omega) z_30 z_32
