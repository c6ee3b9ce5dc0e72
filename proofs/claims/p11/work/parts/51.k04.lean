-- by program (wip/gen/mkz.py)
-- SpoutNewsModel.into(I)I
set_option maxRecDepth 100000 in
set_option maxHeartbeats 4000000 in
theorem k_M_into {l1 : Int} {g : zi_M} {Q : Int → zi_M → Prop} (I : zk_I g) (p1 : 0 ≤ l1 ∧ l1 ≤ 9) (hQ : ∀ v : Int, (v = (g 232 l1) - 1) → Q v g) : w_M_into l1 g Q := by
  unfold w_M_into
  refine ⟨⟨by omega, by omega⟩, ?_⟩
  have m_1 : 0 ≤ (g 232 l1) ∧ (g 232 l1) ≤ 10 := I.1 232 l1
  exact hQ _ (by intros; omega)
-- SpoutNewsModel.saysFirst(I)V
set_option maxRecDepth 100000 in
set_option maxHeartbeats 4000000 in
theorem k_M_saysFirst_l14 {l1 : Int} {K65 : zi_M → Prop} {Q : Int → zi_M → Prop} {g0 : zi_M} (q1 : 0 ≤ l1 ∧ l1 ≤ 9) (hK65 : ∀ (g : zi_M), zk_I g → zk_fr fr_M_saysFirst g0 g → (g 215 (26 + l1) = g0 215 (26 + l1)) → (g 214 43 = g0 214 43) → K65 g) (hQ : ∀ g' : zi_M, zk_I g' → zk_fr fr_M_saysFirst g0 g' → (g' 215 (26 + l1) = g0 215 (26 + l1) - 1) → (g' 214 43 ≤ g0 214 43 + 1) → Q 0 g') : ∀ (n : Nat) {l3 : Int} {g : zi_M}, zk_I g → zk_fr fr_M_saysFirst g0 g → (0 ≤ l3 ∧ l3 ≤ 20) → (g 215 (26 + l1) = g0 215 (26 + l1)) → (g 214 43 = g0 214 43) → 20 - l3 < (n : Int) → w_M_saysFirst_l14 l1 K65 Q n l3 g
  | 0, l3, g, I, F, b0, b1, b2, hm => by exfalso; omega
  | n + 1, l3, g, I, F, b0, b1, b2, hm => by
    unfold w_M_saysFirst_l14
    refine ⟨⟨by omega, by omega⟩, ?_⟩
    have m_7 := zk_now26 I (i := (26 + l1)) (by omega)
    refine ⟨⟨by omega, by omega⟩, ⟨by omega, by omega⟩, ?_⟩
    refine ⟨fun c13 => ?_, fun c13 => ?_⟩
    · have m_8 : 0 ≤ (g 214 43) ∧ (g 214 43) ≤ 90 := I.1 214 43
      exact hK65 _ I F (by omega) (by omega)
    · refine ⟨⟨by omega, by omega⟩, ?_⟩
      refine ⟨⟨by omega, by omega⟩, ?_⟩
      have m_12 := zk_now36 I (i := (((36 + (20 * l1)) + l3) + 1)) (by omega)
      intro g12 e_9
      have I_10 : zk_I g12 := by rw [e_9]; exact zk_upd (zk_nl36 (i := (36 + (20 * l1)) + l3) (by omega)).1 (zk_nl36 (i := (36 + (20 * l1)) + l3) (by omega)).2 I ⟨by omega, by omega⟩
      have F_11 : zk_fr fr_M_saysFirst g0 g12 := by rw [e_9]; exact zk_fu F (Or.inr (Or.inr (Or.inr (Or.inr (Or.inr (Or.inr (Or.inr (Or.inr (Or.inr (Or.inr (Or.inl ⟨rfl, by omega, by omega⟩)))))))))))
      have m_13 := zk_now26 I_10 (i := (26 + l1)) (by omega)
      have m_14 : (26 + l1 = (36 + (20 * l1)) + l3 → g12 215 (26 + l1) = g 215 (((36 + (20 * l1)) + l3) + 1)) ∧ (¬ 26 + l1 = (36 + (20 * l1)) + l3 → g12 215 (26 + l1) = g 215 (26 + l1)) := by rw [e_9]; exact zi_u_if
      have m_15 : 0 ≤ (g12 214 43) ∧ (g12 214 43) ≤ 90 := I_10.1 214 43
      have m_16 : g12 214 43 = g 214 43 := by rw [e_9]; exact zi_u_ne (by decide)
      have m_17 : 0 ≤ (g 214 43) ∧ (g 214 43) ≤ 90 := I.1 214 43
      exact k_M_saysFirst_l14 q1 hK65 hQ n I_10 F_11 ⟨by omega, by omega⟩ (by omega) (by omega) (by omega)
set_option maxRecDepth 100000 in
set_option maxHeartbeats 4000000 in
theorem k_M_saysFirst_l108 {l1 : Int} {l2 : Int} {K160 : zi_M → Prop} {Q : Int → zi_M → Prop} {g0 : zi_M} (q1 : 0 ≤ l1 ∧ l1 ≤ 9) (q2 : 0 ≤ l2 ∧ l2 ≤ 15) (hK160 : ∀ (g : zi_M), zk_I g → zk_fr fr_M_saysFirst g0 g → (g 215 (26 + l1) = g0 215 (26 + l1) - 1) → (g 214 43 = g0 214 43) → K160 g) (hQ : ∀ g' : zi_M, zk_I g' → zk_fr fr_M_saysFirst g0 g' → (g' 215 (26 + l1) = g0 215 (26 + l1) - 1) → (g' 214 43 ≤ g0 214 43 + 1) → Q 0 g') : ∀ (n : Nat) {l3 : Int} {g : zi_M}, zk_I g → zk_fr fr_M_saysFirst g0 g → (0 ≤ l3 ∧ l3 ≤ 6) → (g 215 (26 + l1) = g0 215 (26 + l1) - 1) → (g 214 43 = g0 214 43) → 6 - l3 < (n : Int) → w_M_saysFirst_l108 l1 l2 K160 Q n l3 g
  | 0, l3, g, I, F, b0, b1, b2, hm => by exfalso; omega
  | n + 1, l3, g, I, F, b0, b1, b2, hm => by
    unfold w_M_saysFirst_l108
    refine ⟨⟨by omega, by omega⟩, ?_⟩
    refine ⟨fun c28 => ?_, fun c28 => ?_⟩
    · have m_36 := zk_now26 I (i := (26 + l1)) (by omega)
      have m_37 : 0 ≤ (g 214 43) ∧ (g 214 43) ≤ 90 := I.1 214 43
      exact hK160 _ I F (by omega) (by omega)
    · refine ⟨⟨by omega, by omega⟩, ?_⟩
      have m_38 := zk_now252 I (i := (252 + l3)) (by omega)
      refine ⟨⟨by omega, by omega⟩, ⟨by omega, by omega⟩, ?_⟩
      refine ⟨fun c27 => ?_, fun c27 => ?_⟩
      · have m_39 := zk_now26 I (i := (26 + l1)) (by omega)
        have m_40 : 0 ≤ (g 214 43) ∧ (g 214 43) ≤ 90 := I.1 214 43
        exact k_M_saysFirst_l108 q1 q2 hK160 hQ n I F ⟨by omega, by omega⟩ (by omega) (by omega) (by omega)
      · refine ⟨⟨by omega, by omega⟩, ?_⟩
        have m_44 := zk_rng I 215 (258 + l3)
        have m_45 := zi_r_shl 1 l2
        try have m_46 := (zi_shl_f l2).2.1 ⟨by omega, by omega⟩
        first | have m_47 := (zi_shl_f l2).2.2.1 ⟨by omega, by omega⟩ | have m_48 := (zi_shl_f l2).2.2.2.1 ⟨by omega, by omega⟩ | have m_49 := (zi_shl_f l2).2.2.2.2.1 ⟨by omega, by omega⟩ | have m_50 := (zi_shl_f l2).2.2.2.2.2.1 ⟨by omega, by omega⟩ | have m_51 := (zi_shl_f l2).2.2.2.2.2.2 ⟨by omega, by omega⟩ | skip
        first | have m_52 := (zi_or_f (g 215 (258 + l3)) (zi_shl 1 l2)).2.1 ⟨by omega, by omega, by omega, by omega⟩ | have m_52 := (zi_or_f (g 215 (258 + l3)) (zi_shl 1 l2)).2.2.1 ⟨by omega, by omega, by omega, by omega⟩ | have m_52 := (zi_or_f (g 215 (258 + l3)) (zi_shl 1 l2)).2.2.2.1 ⟨by omega, by omega, by omega, by omega⟩ | have m_52 := (zi_or_f (g 215 (258 + l3)) (zi_shl 1 l2)).2.2.2.2.1 ⟨by omega, by omega, by omega, by omega⟩ | have m_52 := (zi_or_f (g 215 (258 + l3)) (zi_shl 1 l2)).2.2.2.2.2 ⟨by omega, by omega, by omega, by omega⟩ | have m_52 := zi_r_or (g 215 (258 + l3)) (zi_shl 1 l2)
        intro g26 e_41
        have I_42 : zk_I g26 := by rw [e_41]; exact zk_upd (zk_nl258 (i := 258 + l3) (by omega)).1 (zk_nl258 (i := 258 + l3) (by omega)).2 I ⟨by omega, by omega⟩
        have F_43 : zk_fr fr_M_saysFirst g0 g26 := by rw [e_41]; exact zk_fu F (Or.inr (Or.inr (Or.inr (Or.inr (Or.inr (Or.inr (Or.inr (Or.inr (Or.inl ⟨rfl, by omega, by omega⟩)))))))))
        have m_53 := zk_now26 I_42 (i := (26 + l1)) (by omega)
        have m_54 := zk_now26 I (i := (26 + l1)) (by omega)
        have m_55 : (26 + l1 = 258 + l3 → g26 215 (26 + l1) = zi_or (g 215 (258 + l3)) (zi_shl 1 l2)) ∧ (¬ 26 + l1 = 258 + l3 → g26 215 (26 + l1) = g 215 (26 + l1)) := by rw [e_41]; exact zi_u_if
        have m_56 : 0 ≤ (g26 214 43) ∧ (g26 214 43) ≤ 90 := I_42.1 214 43
        have m_57 : g26 214 43 = g 214 43 := by rw [e_41]; exact zi_u_ne (by decide)
        have m_58 : 0 ≤ (g 214 43) ∧ (g 214 43) ≤ 90 := I.1 214 43
        exact k_M_saysFirst_l108 q1 q2 hK160 hQ n I_42 F_43 ⟨by omega, by omega⟩ (by omega) (by omega) (by omega)
set_option maxRecDepth 100000 in
set_option maxHeartbeats 4000000 in
theorem k_M_saysFirst {l1 : Int} {g : zi_M} {Q : Int → zi_M → Prop} (I : zk_I g) (p1 : 0 ≤ l1 ∧ l1 ≤ 9) (px0 : 1 ≤ g 215 (26 + l1)) (px1 : g 214 43 ≤ 89) (hQ : ∀ g' : zi_M, zk_I g' → zk_fr fr_M_saysFirst g g' → (g' 215 (26 + l1) = g 215 (26 + l1) - 1) → (g' 214 43 ≤ g 214 43 + 1) → Q 0 g') : w_M_saysFirst l1 g Q := by
  unfold w_M_saysFirst
  have m_2 := zk_now36 I (i := ((36 + (20 * l1)) + 0)) (by omega)
  refine k_M_heardAt I ⟨by omega, by omega⟩ ⟨by omega, by omega⟩ (fun v1 b_1 => ?_)
  refine k_M_saysAs I ⟨by omega, by omega⟩ ⟨by omega, by omega⟩ (fun v4 g5 I_4 F_5 b_3 => ?_)
  have F_6 : zk_fr fr_M_saysFirst g g5 := zk_ft (zk_f0 _) F_5 (fun a i => (fun h => Or.elim h (fun h => (Or.inr (Or.inl h))) (fun h => Or.elim h (fun h => (Or.inr (Or.inr (Or.inl h)))) (fun h => Or.elim h (fun h => (Or.inr (Or.inr (Or.inr (Or.inr (Or.inr (Or.inr (Or.inl h)))))))) (fun h => (Or.inr (Or.inr (Or.inr (Or.inr (Or.inr (Or.inr (Or.inr (Or.inr (Or.inr (Or.inr (Or.inr (Or.inr h)))))))))))))))))
  have m_104 := zk_now26 I_4 (i := (26 + l1)) (by omega)
  have m_105 : g5 215 (26 + l1) = g 215 (26 + l1) := F_5 _ _ (by unfold fr_M_saysAs; omega)
  have m_106 := zk_now26 I (i := (26 + l1)) (by omega)
  have m_107 : 0 ≤ (g5 214 43) ∧ (g5 214 43) ≤ 90 := I_4.1 214 43
  have m_108 : g5 214 43 = g 214 43 := F_5 _ _ (by unfold fr_M_saysAs; omega)
  have m_109 : 0 ≤ (g 214 43) ∧ (g 214 43) ≤ 90 := I.1 214 43
  refine ⟨((20 - 0 : Int).toNat + 1), k_M_saysFirst_l14 (l1 := l1) ⟨by omega, by omega⟩ (fun g14 I_18 F_19 b_20 b_21 => ?_) hQ ((20 - 0 : Int).toNat + 1) I_4 F_6 ⟨by omega, by omega⟩ (by omega) (by omega) (by omega)⟩
  refine ⟨⟨by omega, by omega⟩, ?_⟩
  have m_25 := zk_now26 I_18 (i := (26 + l1)) (by omega)
  intro g16 e_22
  have I_23 : zk_I g16 := by rw [e_22]; exact zk_upd (zk_nl26 (i := 26 + l1) (by omega)).1 (zk_nl26 (i := 26 + l1) (by omega)).2 I_18 ⟨by omega, by omega⟩
  have F_24 : zk_fr fr_M_saysFirst g g16 := by rw [e_22]; exact zk_fu F_19 (Or.inr (Or.inr (Or.inr (Or.inr (Or.inr (Or.inr (Or.inr (Or.inr (Or.inr (Or.inl ⟨rfl, by omega, by omega⟩))))))))))
  have m_29 := zk_rng I_23 215 4
  have m_30 := zk_rng I_18 215 4
  have m_31 : (4 = 26 + l1 → g16 215 4 = (g14 215 (26 + l1)) - 1) ∧ (¬ 4 = 26 + l1 → g16 215 4 = g14 215 4) := by rw [e_22]; exact zi_u_if
  have m_32 := zi_r_w ((g16 215 4) + 1)
  intro g17 e_26
  have I_27 : zk_I g17 := by rw [e_26]; exact zk_upd (zk_nl3 (i := 4) (by omega)).1 (zk_nl3 (i := 4) (by omega)).2 I_23 ⟨by omega, by omega⟩
  have F_28 : zk_fr fr_M_saysFirst g g17 := by rw [e_26]; exact zk_fu F_24 (Or.inr (Or.inr (Or.inr (Or.inr (Or.inr (Or.inr (Or.inr (Or.inr (Or.inr (Or.inr (Or.inr (Or.inl ⟨rfl, by omega, by omega⟩))))))))))))
  refine k_M_notes I_27 ⟨by omega, by omega⟩ ⟨by omega, by omega⟩ ⟨by omega, by omega⟩ (fun g19 I_33 F_34 => ?_)
  have F_35 : zk_fr fr_M_saysFirst g g19 := zk_ft F_28 F_34 (fun a i => (fun h => Or.elim h (fun h => (Or.inl h)) (fun h => (Or.inr (Or.inr (Or.inr (Or.inr (Or.inr (Or.inr (Or.inr (Or.inl h)))))))))))
  have m_91 := zk_now26 I_33 (i := (26 + l1)) (by omega)
  have m_92 : g19 215 (26 + l1) = g17 215 (26 + l1) := F_34 _ _ (by unfold fr_M_notes; omega)
  have m_93 := zk_now26 I_27 (i := (26 + l1)) (by omega)
  have m_94 := zk_now26 I_23 (i := (26 + l1)) (by omega)
  have m_95 : g16 215 (26 + l1) = (g14 215 (26 + l1)) - 1 := by rw [e_22]; exact zi_u_eq
  have m_96 : (26 + l1 = 4 → g17 215 (26 + l1) = zi_w ((g16 215 4) + 1)) ∧ (¬ 26 + l1 = 4 → g17 215 (26 + l1) = g16 215 (26 + l1)) := by rw [e_26]; exact zi_u_if
  have m_97 : 0 ≤ (g19 214 43) ∧ (g19 214 43) ≤ 90 := I_33.1 214 43
  have m_98 : g19 214 43 = g17 214 43 := F_34 _ _ (by unfold fr_M_notes; omega)
  have m_99 : 0 ≤ (g17 214 43) ∧ (g17 214 43) ≤ 90 := I_27.1 214 43
  have m_100 : g17 214 43 = g16 214 43 := by rw [e_26]; exact zi_u_ne (by decide)
  have m_101 : 0 ≤ (g16 214 43) ∧ (g16 214 43) ≤ 90 := I_23.1 214 43
  have m_102 : g16 214 43 = g14 214 43 := by rw [e_22]; exact zi_u_ne (by decide)
  have m_103 : 0 ≤ (g14 214 43) ∧ (g14 214 43) ≤ 90 := I_18.1 214 43
  refine ⟨((6 - 0 : Int).toNat + 1), k_M_saysFirst_l108 (l1 := l1) (l2 := v4) ⟨by omega, by omega⟩ ⟨by omega, by omega⟩ (fun g29 I_59 F_60 b_61 b_62 => ?_) hQ ((6 - 0 : Int).toNat + 1) I_33 F_35 ⟨by omega, by omega⟩ (by omega) (by omega) (by omega)⟩
  have m_64 : 0 ≤ (g29 232 (l1)) ∧ (g29 232 (l1)) ≤ 10 := I_59.1 232 (l1)
  refine k_M_into I_59 ⟨by omega, by omega⟩ (fun v30 b_63 => ?_)
  refine ⟨⟨by omega, by omega⟩, ?_⟩
  refine ⟨fun c42 => ?_, fun c42 => ?_⟩
  · refine k_M_into I_59 ⟨by omega, by omega⟩ (fun v34 b_65 => ?_)
    have m_69 : 0 ≤ (g29 214 43) ∧ (g29 214 43) ≤ 90 := I_59.1 214 43
    refine ⟨⟨by omega, by omega⟩, ?_⟩
    intro g38 e_66
    have I_67 : zk_I g38 := by rw [e_66]; exact zk_upd (L := 0) (H := 9) rfl rfl I_59 ⟨by omega, by omega⟩
    have F_68 : zk_fr fr_M_saysFirst g g38 := by rw [e_66]; exact zk_fu F_60 (Or.inr (Or.inr (Or.inr (Or.inl rfl))))
    have m_73 : 0 ≤ (g38 214 43) ∧ (g38 214 43) ≤ 90 := I_67.1 214 43
    have m_74 : g38 214 43 = g29 214 43 := by rw [e_66]; exact zi_u_ne (by decide)
    refine ⟨⟨by omega, by omega⟩, ?_⟩
    intro g40 e_70
    have I_71 : zk_I g40 := by rw [e_70]; exact zk_upd (L := 0) (H := 15) rfl rfl I_67 ⟨by omega, by omega⟩
    have F_72 : zk_fr fr_M_saysFirst g g40 := by rw [e_70]; exact zk_fu F_68 (Or.inr (Or.inr (Or.inr (Or.inr (Or.inl rfl)))))
    have m_78 : 0 ≤ (g40 214 43) ∧ (g40 214 43) ≤ 90 := I_71.1 214 43
    have m_79 : g40 214 43 = g38 214 43 := by rw [e_70]; exact zi_u_ne (by decide)
    intro g41 e_75
    have I_76 : zk_I g41 := by rw [e_75]; exact zk_upd (L := 0) (H := 90) rfl rfl I_71 ⟨by omega, by omega⟩
    have F_77 : zk_fr fr_M_saysFirst g g41 := by rw [e_75]; exact zk_fu F_72 (Or.inr (Or.inr (Or.inr (Or.inr (Or.inr (Or.inl ⟨rfl, rfl⟩))))))
    have m_80 := zk_now26 I_76 (i := (26 + l1)) (by omega)
    have m_81 : g41 215 (26 + l1) = g40 215 (26 + l1) := by rw [e_75]; exact zi_u_ne (by decide)
    have m_82 := zk_now26 I_71 (i := (26 + l1)) (by omega)
    have m_83 : g40 215 (26 + l1) = g38 215 (26 + l1) := by rw [e_70]; exact zi_u_ne (by decide)
    have m_84 := zk_now26 I_67 (i := (26 + l1)) (by omega)
    have m_85 : g38 215 (26 + l1) = g29 215 (26 + l1) := by rw [e_66]; exact zi_u_ne (by decide)
    have m_86 := zk_now26 I_59 (i := (26 + l1)) (by omega)
    have m_87 : 0 ≤ (g41 214 43) ∧ (g41 214 43) ≤ 90 := I_76.1 214 43
    have m_88 : g41 214 43 = (g40 214 43) + 1 := by rw [e_75]; exact zi_u_eq
    exact hQ _ I_76 F_77 (by omega) (by omega)
  · have m_89 := zk_now26 I_59 (i := (26 + l1)) (by omega)
    have m_90 : 0 ≤ (g29 214 43) ∧ (g29 214 43) ≤ 90 := I_59.1 214 43
    exact hQ _ I_59 F_60 (by omega) (by omega)
-- SpoutNewsModel.jetOf(I)I
set_option maxRecDepth 100000 in
set_option maxHeartbeats 4000000 in
theorem k_M_jetOf {l1 : Int} {g : zi_M} {Q : Int → zi_M → Prop} (I : zk_I g) (p1 : 0 ≤ l1 ∧ l1 ≤ 9) (hQ : ∀ (v : Int) (g' : zi_M), zk_I g' → zk_fr fr_M_jetOf g g' → (0 ≤ v ∧ v ≤ 9) → Q v g') : w_M_jetOf l1 g Q := by
  unfold w_M_jetOf
  refine k_M_asks I ⟨by omega, by omega⟩ ⟨by omega, by omega⟩ (fun g2 I_1 F_2 => ?_)
  have F_3 : zk_fr fr_M_jetOf g g2 := zk_ft (zk_f0 _) F_2 (fun a i => (fun h => (Or.inl h)))
  have m_4 := zk_rng I_1 215 3
  have m_5 : g2 215 3 = g 215 3 := F_2 _ _ (by unfold fr_M_asks; omega)
  have m_6 := zk_rng I 215 3
  refine k_M_lawTells I_1 ⟨by omega, by omega⟩ ⟨by omega, by omega⟩ ⟨by omega, by omega⟩ (fun v4 g5 I_9 F_10 b_7 b_8 => ?_)
  have F_11 : zk_fr fr_M_jetOf g g5 := zk_ft F_3 F_10 (fun a i => (fun h => (Or.inr h)))
  exact hQ _ _ I_9 F_11 ⟨by omega, by omega⟩
-- SpoutNewsModel.rains()I
set_option maxRecDepth 100000 in
set_option maxHeartbeats 4000000 in
theorem k_M_rains_l56 {l2 : Int} {l3 : Int} {K73 : zi_M → Prop} {Q : Int → zi_M → Prop} {g0 : zi_M} (q2 : 0 ≤ l2 ∧ l2 ≤ 9) (q3 : 0 ≤ l3 ∧ l3 ≤ 9) (hK73 : ∀ (g : zi_M), zk_I g → zk_fr fr_M_rains g0 g → (g 214 43 ≤ 9 * l2 + 9) → K73 g) (hQ : ∀ (v : Int) (g' : zi_M), zk_I g' → zk_fr fr_M_rains g0 g' → ((-2147483648) ≤ v ∧ v ≤ 2147483647) → Q v g') : ∀ (n : Nat) {l4 : Int} {g : zi_M}, zk_I g → zk_fr fr_M_rains g0 g → (0 ≤ l4 ∧ l4 ≤ 9) → (g 214 43 ≤ 9 * l2 + l4) → (l3 - l4 ≤ g 215 (26 + l2)) → (l4 ≤ l3) → 9 - l4 < (n : Int) → w_M_rains_l56 l2 l3 K73 Q n l4 g
  | 0, l4, g, I, F, b0, b1, b2, b3, hm => by exfalso; omega
  | n + 1, l4, g, I, F, b0, b1, b2, b3, hm => by
    unfold w_M_rains_l56
    refine ⟨⟨by omega, by omega⟩, ⟨by omega, by omega⟩, ?_⟩
    refine ⟨fun c12 => ?_, fun c12 => ?_⟩
    · have m_11 : 0 ≤ (g 214 43) ∧ (g 214 43) ≤ 90 := I.1 214 43
      exact hK73 _ I F (by omega)
    · have m_12 := zk_now26 I (i := (26 + l2)) (by omega)
      have m_13 : 0 ≤ (g 214 43) ∧ (g 214 43) ≤ 90 := I.1 214 43
      refine k_M_saysFirst I ⟨by omega, by omega⟩ (by omega) (by omega) (fun g10 I_16 F_17 b_14 b_15 => ?_)
      have F_18 : zk_fr fr_M_rains g0 g10 := zk_ft F F_17 (fun a i => (fun h => Or.elim h (fun h => (Or.inl h)) (fun h => Or.elim h (fun h => (Or.inr (Or.inl h))) (fun h => Or.elim h (fun h => (Or.inr (Or.inr (Or.inl h)))) (fun h => Or.elim h (fun h => (Or.inr (Or.inr (Or.inr (Or.inl h))))) (fun h => Or.elim h (fun h => (Or.inr (Or.inr (Or.inr (Or.inr (Or.inl h)))))) (fun h => Or.elim h (fun h => (Or.inr (Or.inr (Or.inr (Or.inr (Or.inr (Or.inl h))))))) (fun h => Or.elim h (fun h => (Or.inr (Or.inr (Or.inr (Or.inr (Or.inr (Or.inr (Or.inl h)))))))) (fun h => Or.elim h (fun h => (Or.inr (Or.inr (Or.inr (Or.inr (Or.inr (Or.inr (Or.inr (Or.inr (Or.inl h)))))))))) (fun h => Or.elim h (fun h => (Or.inr (Or.inr (Or.inr (Or.inr (Or.inr (Or.inr (Or.inr (Or.inr (Or.inr (Or.inl h))))))))))) (fun h => Or.elim h (fun h => (Or.inr (Or.inr (Or.inr (Or.inr (Or.inr (Or.inr (Or.inr (Or.inr (Or.inr (Or.inr (Or.inl h)))))))))))) (fun h => Or.elim h (fun h => (Or.inr (Or.inr (Or.inr (Or.inr (Or.inr (Or.inr (Or.inr (Or.inr (Or.inr (Or.inr (Or.inr (Or.inl h))))))))))))) (fun h => Or.elim h (fun h => (Or.inr (Or.inr (Or.inr (Or.inr (Or.inr (Or.inr (Or.inr (Or.inr (Or.inr (Or.inr (Or.inr (Or.inr (Or.inl h)))))))))))))) (fun h => (Or.inr (Or.inr (Or.inr (Or.inr (Or.inr (Or.inr (Or.inr (Or.inr (Or.inr (Or.inr (Or.inr (Or.inr (Or.inr h)))))))))))))))))))))))))))
      have m_19 : 0 ≤ (g10 214 43) ∧ (g10 214 43) ≤ 90 := I_16.1 214 43
      have m_20 := zk_now26 I_16 (i := (26 + l2)) (by omega)
      exact k_M_rains_l56 q2 q3 hK73 hQ n I_16 F_18 ⟨by omega, by omega⟩ (by omega) (by omega) (by omega) (by omega)
set_option maxRecDepth 100000 in
set_option maxHeartbeats 4000000 in
theorem k_M_rains_l14 {K79 : zi_M → Prop} {Q : Int → zi_M → Prop} {g0 : zi_M} (hK79 : ∀ (g : zi_M), zk_I g → zk_fr fr_M_rains g0 g → K79 g) (hQ : ∀ (v : Int) (g' : zi_M), zk_I g' → zk_fr fr_M_rains g0 g' → ((-2147483648) ≤ v ∧ v ≤ 2147483647) → Q v g') : ∀ (n : Nat) {l2 : Int} {g : zi_M}, zk_I g → zk_fr fr_M_rains g0 g → (0 ≤ l2 ∧ l2 ≤ 10) → (g 214 43 ≤ 9 * l2) → 10 - l2 < (n : Int) → w_M_rains_l14 K79 Q n l2 g
  | 0, l2, g, I, F, b0, b1, hm => by exfalso; omega
  | n + 1, l2, g, I, F, b0, b1, hm => by
    unfold w_M_rains_l14
    have m_4 : 0 ≤ (g 214 6) ∧ (g 214 6) ≤ 10 := I.1 214 6
    refine ⟨⟨by omega, by omega⟩, ⟨by omega, by omega⟩, ?_⟩
    refine ⟨fun c25 => ?_, fun c25 => ?_⟩
    · exact hK79 _ I F
    · have m_9 := zk_now6 I (i := (6 + l2)) (by omega)
      have m_10 := zk_rng I 215 3
      refine k_M_canSay I ⟨by omega, by omega⟩ (fun v4 b_5 b_6 b_7 b_8 => ?_)
      refine ⟨fun c24 => ?_, fun c24 => ?_⟩
      · have m_25 : 0 ≤ (g 214 43) ∧ (g 214 43) ≤ 90 := I.1 214 43
        have m_26 := zk_now26 I (i := (26 + l2)) (by omega)
        refine ⟨((9 - 0 : Int).toNat + 1), k_M_rains_l56 (l2 := l2) (l3 := 0) ⟨by omega, by omega⟩ ⟨by omega, by omega⟩ (fun g13 I_21 F_22 b_23 => ?_) hQ ((9 - 0 : Int).toNat + 1) I F ⟨by omega, by omega⟩ (by omega) (by omega) (by omega) (by omega)⟩
        have m_24 : 0 ≤ (g13 214 43) ∧ (g13 214 43) ≤ 90 := I_21.1 214 43
        exact k_M_rains_l14 hK79 hQ n I_21 F_22 ⟨by omega, by omega⟩ (by omega) (by omega)
      · refine ⟨⟨by omega, by omega⟩, ?_⟩
        refine k_M_jetOf I ⟨by omega, by omega⟩ (fun v16 g17 I_28 F_29 b_27 => ?_)
        have F_30 : zk_fr fr_M_rains g0 g17 := zk_ft F F_29 (fun a i => (fun h => Or.elim h (fun h => (Or.inr (Or.inl h))) (fun h => (Or.inr (Or.inr (Or.inl h))))))
        have m_31 := zk_now26 I (i := (26 + l2)) (by omega)
        refine k_M_lesser I_28 ⟨by omega, by omega⟩ ⟨by omega, by omega⟩ (fun v19 b_32 b_33 => ?_)
        have m_38 : 0 ≤ (g17 214 43) ∧ (g17 214 43) ≤ 90 := I_28.1 214 43
        have m_39 : g17 214 43 = g 214 43 := F_29 _ _ (by unfold fr_M_jetOf; omega)
        have m_40 : 0 ≤ (g 214 43) ∧ (g 214 43) ≤ 90 := I.1 214 43
        have m_41 := zk_now26 I_28 (i := (26 + l2)) (by omega)
        have m_42 : g17 215 (26 + l2) = g 215 (26 + l2) := F_29 _ _ (by unfold fr_M_jetOf; omega)
        refine ⟨((9 - 0 : Int).toNat + 1), k_M_rains_l56 (l2 := l2) (l3 := v19) ⟨by omega, by omega⟩ ⟨by omega, by omega⟩ (fun g22 I_34 F_35 b_36 => ?_) hQ ((9 - 0 : Int).toNat + 1) I_28 F_30 ⟨by omega, by omega⟩ (by omega) (by omega) (by omega) (by omega)⟩
        have m_37 : 0 ≤ (g22 214 43) ∧ (g22 214 43) ≤ 90 := I_34.1 214 43
        exact k_M_rains_l14 hK79 hQ n I_34 F_35 ⟨by omega, by omega⟩ (by omega) (by omega)
set_option maxRecDepth 100000 in
set_option maxHeartbeats 4000000 in
theorem k_M_rains_l81 {K149 : zi_M → Prop} {Q : Int → zi_M → Prop} {g0 : zi_M} (hK149 : ∀ (g : zi_M), zk_I g → zk_fr fr_M_rains g0 g → K149 g) (hQ : ∀ (v : Int) (g' : zi_M), zk_I g' → zk_fr fr_M_rains g0 g' → ((-2147483648) ≤ v ∧ v ≤ 2147483647) → Q v g') : ∀ (n : Nat) {l2 : Int} {g : zi_M}, zk_I g → zk_fr fr_M_rains g0 g → (0 ≤ l2 ∧ l2 ≤ 90) → 90 - l2 < (n : Int) → w_M_rains_l81 K149 Q n l2 g
  | 0, l2, g, I, F, b0, hm => by exfalso; omega
  | n + 1, l2, g, I, F, b0, hm => by
    unfold w_M_rains_l81
    have m_45 : 0 ≤ (g 214 43) ∧ (g 214 43) ≤ 90 := I.1 214 43
    refine ⟨⟨by omega, by omega⟩, ⟨by omega, by omega⟩, ?_⟩
    refine ⟨fun c40 => ?_, fun c40 => ?_⟩
    · exact hK149 _ I F
    · refine ⟨⟨by omega, by omega⟩, ?_⟩
      have m_46 : 0 ≤ (g 237 l2) ∧ (g 237 l2) ≤ 9 := I.1 237 l2
      refine ⟨⟨by omega, by omega⟩, ?_⟩
      have m_47 := zk_now6 I (i := (6 + (g 237 l2))) (by omega)
      refine ⟨⟨by omega, by omega⟩, ?_⟩
      refine ⟨fun c39 => ?_, fun c39 => ?_⟩
      · exact k_M_rains_l81 hK149 hQ n I F ⟨by omega, by omega⟩ (by omega)
      · have m_48 : 0 ≤ (g 238 l2) ∧ (g 238 l2) ≤ 15 := I.1 238 l2
        refine k_M_comesTo I ⟨by omega, by omega⟩ ⟨by omega, by omega⟩ (fun v32 g33 I_50 F_51 b_49 => ?_)
        have F_52 : zk_fr fr_M_rains g0 g33 := zk_ft F F_51 (fun a i => (fun h => Or.elim h (fun h => (Or.inr (Or.inr (Or.inr (Or.inr (Or.inr (Or.inr (Or.inr (Or.inr (Or.inr (Or.inr (Or.inl h)))))))))))) (fun h => (Or.inr (Or.inr (Or.inr (Or.inr (Or.inr (Or.inr (Or.inr (Or.inr (Or.inr (Or.inr (Or.inr (Or.inl h)))))))))))))))
        refine ⟨fun c38 => ?_, fun c38 => ?_⟩
        · exact k_M_rains_l81 hK149 hQ n I_50 F_52 ⟨by omega, by omega⟩ (by omega)
        · have m_53 : 0 ≤ (g33 237 l2) ∧ (g33 237 l2) ≤ 9 := I_50.1 237 l2
          have m_54 : g33 237 l2 = g 237 l2 := F_51 _ _ (by unfold fr_M_comesTo; omega)
          have m_55 : 0 ≤ (g33 238 l2) ∧ (g33 238 l2) ≤ 15 := I_50.1 238 l2
          have m_56 : g33 238 l2 = g 238 l2 := F_51 _ _ (by unfold fr_M_comesTo; omega)
          refine k_M_notes I_50 ⟨by omega, by omega⟩ ⟨by omega, by omega⟩ ⟨by omega, by omega⟩ (fun g36 I_57 F_58 => ?_)
          have F_59 : zk_fr fr_M_rains g0 g36 := zk_ft F_52 F_58 (fun a i => (fun h => Or.elim h (fun h => (Or.inl h)) (fun h => (Or.inr (Or.inr (Or.inr (Or.inr (Or.inr (Or.inr (Or.inr (Or.inr (Or.inl h))))))))))))
          exact k_M_rains_l81 hK149 hQ n I_57 F_59 ⟨by omega, by omega⟩ (by omega)
set_option maxRecDepth 100000 in
set_option maxHeartbeats 4000000 in
theorem k_M_rains_l151 {K175 : zi_M → Prop} {Q : Int → zi_M → Prop} {g0 : zi_M} (hK175 : ∀ (g : zi_M), zk_I g → zk_fr fr_M_rains g0 g → K175 g) (hQ : ∀ (v : Int) (g' : zi_M), zk_I g' → zk_fr fr_M_rains g0 g' → ((-2147483648) ≤ v ∧ v ≤ 2147483647) → Q v g') : ∀ (n : Nat) {l2 : Int} {g : zi_M}, zk_I g → zk_fr fr_M_rains g0 g → (0 ≤ l2 ∧ l2 ≤ 10) → 10 - l2 < (n : Int) → w_M_rains_l151 K175 Q n l2 g
  | 0, l2, g, I, F, b0, hm => by exfalso; omega
  | n + 1, l2, g, I, F, b0, hm => by
    unfold w_M_rains_l151
    have m_62 : 0 ≤ (g 214 6) ∧ (g 214 6) ≤ 10 := I.1 214 6
    refine ⟨⟨by omega, by omega⟩, ⟨by omega, by omega⟩, ?_⟩
    refine ⟨fun c46 => ?_, fun c46 => ?_⟩
    · exact hK175 _ I F
    · refine ⟨⟨by omega, by omega⟩, ?_⟩
      intro g45 e_63
      have I_64 : zk_I g45 := by rw [e_63]; exact zk_upd (zk_nl16 (i := 16 + l2) (by omega)).1 (zk_nl16 (i := 16 + l2) (by omega)).2 I ⟨by omega, by omega⟩
      have F_65 : zk_fr fr_M_rains g0 g45 := by rw [e_63]; exact zk_fu F (Or.inr (Or.inr (Or.inr (Or.inr (Or.inr (Or.inr (Or.inr (Or.inl ⟨rfl, by omega, by omega⟩))))))))
      exact k_M_rains_l151 hK175 hQ n I_64 F_65 ⟨by omega, by omega⟩ (by omega)
set_option maxRecDepth 100000 in
set_option maxHeartbeats 4000000 in
theorem k_M_rains {g : zi_M} {Q : Int → zi_M → Prop} (I : zk_I g) (hQ : ∀ (v : Int) (g' : zi_M), zk_I g' → zk_fr fr_M_rains g g' → ((-2147483648) ≤ v ∧ v ≤ 2147483647) → Q v g') : w_M_rains g Q := by
  unfold w_M_rains
  intro g1 e_1
  have I_2 : zk_I g1 := by rw [e_1]; exact zk_upd (L := 0) (H := 90) rfl rfl I ⟨by omega, by omega⟩
  have F_3 : zk_fr fr_M_rains g g1 := by rw [e_1]; exact zk_fu (zk_f0 _) (Or.inr (Or.inr (Or.inr (Or.inr (Or.inr (Or.inl ⟨rfl, rfl⟩))))))
  have m_71 : 0 ≤ (g1 214 43) ∧ (g1 214 43) ≤ 90 := I_2.1 214 43
  have m_72 : g1 214 43 = 0 := by rw [e_1]; exact zi_u_eq
  refine ⟨((10 - 0 : Int).toNat + 1), k_M_rains_l14 (fun g26 I_43 F_44 => ?_) hQ ((10 - 0 : Int).toNat + 1) I_2 F_3 ⟨by omega, by omega⟩ (by omega) (by omega)⟩
  refine ⟨((90 - 0 : Int).toNat + 1), k_M_rains_l81 (fun g41 I_60 F_61 => ?_) hQ ((90 - 0 : Int).toNat + 1) I_43 F_44 ⟨by omega, by omega⟩ (by omega)⟩
  refine ⟨((10 - 0 : Int).toNat + 1), k_M_rains_l151 (fun g47 I_66 F_67 => ?_) hQ ((10 - 0 : Int).toNat + 1) I_60 F_61 ⟨by omega, by omega⟩ (by omega)⟩
  have m_68 := zk_rng I_66 215 4
  have m_69 := zk_rng I 215 4
  have m_70 := zi_r_w ((g47 215 4) - (g 215 4))
  exact hQ _ _ I_66 F_67 ⟨by omega, by omega⟩
-- SpoutNewsModel.goesBy()I
set_option maxRecDepth 100000 in
set_option maxHeartbeats 4000000 in
theorem k_M_goesBy_l2 {K67 : zi_M → Prop} {Q : Int → zi_M → Prop} {g0 : zi_M} (hK67 : ∀ (g : zi_M), zk_I g → zk_fr fr_M_goesBy g0 g → K67 g) (hQ : ∀ (v : Int) (g' : zi_M), zk_I g' → zk_fr fr_M_goesBy g0 g' → ((-2147483648) ≤ v ∧ v ≤ 2147483647) → Q v g') : ∀ (n : Nat) {l1 : Int} {g : zi_M}, zk_I g → zk_fr fr_M_goesBy g0 g → (0 ≤ l1 ∧ l1 ≤ 16) → 16 - l1 < (n : Int) → w_M_goesBy_l2 K67 Q n l1 g
  | 0, l1, g, I, F, b0, hm => by exfalso; omega
  | n + 1, l1, g, I, F, b0, hm => by
    unfold w_M_goesBy_l2
    have m_1 : 0 ≤ (g 214 39) ∧ (g 214 39) ≤ 16 := I.1 214 39
    refine ⟨⟨by omega, by omega⟩, ⟨by omega, by omega⟩, ?_⟩
    refine ⟨fun c13 => ?_, fun c13 => ?_⟩
    · exact hK67 _ I F
    · refine ⟨⟨by omega, by omega⟩, ?_⟩
      have m_2 : (-2147483648) ≤ (g 234 (4 * l1)) ∧ (g 234 (4 * l1)) ≤ 2147483647 := I.1 234 (4 * l1)
      have m_3 := zk_rng I 215 0
      refine ⟨⟨by omega, by omega⟩, ⟨by omega, by omega⟩, ?_⟩
      refine ⟨fun c12 => ?_, fun c12 => ?_⟩
      · exact k_M_goesBy_l2 hK67 hQ n I F ⟨by omega, by omega⟩ (by omega)
      · refine ⟨⟨by omega, by omega⟩, ?_⟩
        refine ⟨⟨by omega, by omega⟩, ?_⟩
        refine ⟨⟨by omega, by omega⟩, ?_⟩
        have m_4 : (-2147483648) ≤ (g 234 ((4 * l1) + 1)) ∧ (g 234 ((4 * l1) + 1)) ≤ 2147483647 := I.1 234 ((4 * l1) + 1)
        have m_5 : (-2147483648) ≤ (g 234 ((4 * l1) + 2)) ∧ (g 234 ((4 * l1) + 2)) ≤ 2147483647 := I.1 234 ((4 * l1) + 2)
        have m_6 : (-2147483648) ≤ (g 234 ((4 * l1) + 3)) ∧ (g 234 ((4 * l1) + 3)) ≤ 2147483647 := I.1 234 ((4 * l1) + 3)
        have hj := I.2.deeds l1 (by omega) (by omega)
        unfold zj_deed at hj
        refine k_M_acts I ⟨by omega, by omega⟩ ⟨by omega, by omega⟩ ⟨by omega, by omega⟩ (by omega) (by omega) (by omega) (by omega) (by omega) (by omega) (fun g10 I_8 F_9 b_7 => ?_)
        have F_10 : zk_fr fr_M_goesBy g0 g10 := zk_ft F F_9 (fun a i => (fun h => Or.elim h (fun h => (Or.inr (Or.inr (Or.inr (Or.inr (Or.inr (Or.inr (Or.inr (Or.inr (Or.inr (Or.inr (Or.inl h)))))))))))) (fun h => Or.elim h (fun h => (Or.inr (Or.inr (Or.inr (Or.inr (Or.inr (Or.inr (Or.inr (Or.inr (Or.inr (Or.inr (Or.inr (Or.inl h))))))))))))) (fun h => Or.elim h (fun h => (Or.inr (Or.inr (Or.inr (Or.inr (Or.inr (Or.inr (Or.inr (Or.inr (Or.inr (Or.inr (Or.inr (Or.inr (Or.inl h)))))))))))))) (fun h => Or.elim h (fun h => (Or.inr (Or.inr (Or.inr (Or.inr (Or.inr (Or.inr (Or.inr (Or.inr (Or.inr (Or.inr (Or.inr (Or.inr (Or.inr (Or.inl h))))))))))))))) (fun h => (Or.inr (Or.inr (Or.inr (Or.inr (Or.inr (Or.inr (Or.inr (Or.inr (Or.inr (Or.inr (Or.inr (Or.inr (Or.inr (Or.inr (Or.inr (Or.inr (Or.inr (Or.inr (Or.inr h)))))))))))))))))))))))))
        exact k_M_goesBy_l2 hK67 hQ n I_8 F_10 ⟨by omega, by omega⟩ (by omega)
set_option maxRecDepth 100000 in
set_option maxHeartbeats 4000000 in
theorem k_M_goesBy_l118 {K137 : zi_M → Prop} {Q : Int → zi_M → Prop} {g0 : zi_M} (hK137 : ∀ (g : zi_M), zk_I g → zk_fr fr_M_goesBy g0 g → K137 g) (hQ : ∀ (v : Int) (g' : zi_M), zk_I g' → zk_fr fr_M_goesBy g0 g' → ((-2147483648) ≤ v ∧ v ≤ 2147483647) → Q v g') : ∀ (n : Nat) {l2 : Int} {g : zi_M}, zk_I g → zk_fr fr_M_goesBy g0 g → (0 ≤ l2 ∧ l2 ≤ 10) → 10 - l2 < (n : Int) → w_M_goesBy_l118 K137 Q n l2 g
  | 0, l2, g, I, F, b0, hm => by exfalso; omega
  | n + 1, l2, g, I, F, b0, hm => by
    unfold w_M_goesBy_l118
    have m_17 : 0 ≤ (g 214 6) ∧ (g 214 6) ≤ 10 := I.1 214 6
    refine ⟨⟨by omega, by omega⟩, ⟨by omega, by omega⟩, ?_⟩
    refine ⟨fun c25 => ?_, fun c25 => ?_⟩
    · exact hK137 _ I F
    · refine k_M_isDry I ⟨by omega, by omega⟩ (fun g23 I_18 F_19 => ?_)
      have F_20 : zk_fr fr_M_goesBy g0 g23 := zk_ft F F_19 (fun a i => (fun h => Or.elim h (fun h => (Or.inl h)) (fun h => Or.elim h (fun h => (Or.inr (Or.inl h))) (fun h => Or.elim h (fun h => (Or.inr (Or.inr (Or.inl h)))) (fun h => Or.elim h (fun h => (Or.inr (Or.inr (Or.inr (Or.inr (Or.inr (Or.inr (Or.inr (Or.inr (Or.inl h)))))))))) (fun h => Or.elim h (fun h => (Or.inr (Or.inr (Or.inr (Or.inr (Or.inr (Or.inr (Or.inr (Or.inr (Or.inr (Or.inl h))))))))))) (fun h => Or.elim h (fun h => (Or.inr (Or.inr (Or.inr (Or.inr (Or.inr (Or.inr (Or.inr (Or.inr (Or.inr (Or.inr (Or.inr (Or.inr (Or.inr (Or.inr (Or.inl h)))))))))))))))) (fun h => (Or.inr (Or.inr (Or.inr (Or.inr (Or.inr (Or.inr (Or.inr (Or.inr (Or.inr (Or.inr (Or.inr (Or.inr (Or.inr (Or.inr (Or.inr (Or.inr (Or.inl h)))))))))))))))))))))))))
      exact k_M_goesBy_l118 hK137 hQ n I_18 F_20 ⟨by omega, by omega⟩ (by omega)
set_option maxRecDepth 100000 in
set_option maxHeartbeats 4000000 in
theorem k_M_goesBy_b137 {l1 : Int} {Q : Int → zi_M → Prop} {g : zi_M} {g0 : zi_M} (I : zk_I g) (F : zk_fr fr_M_goesBy g0 g) (p1 : (-2147483648) ≤ l1 ∧ l1 ≤ 2147483647) (hQ : ∀ (v : Int) (g' : zi_M), zk_I g' → zk_fr fr_M_goesBy g0 g' → ((-2147483648) ≤ v ∧ v ≤ 2147483647) → Q v g') : w_M_goesBy_b137 l1 g Q := by
  unfold w_M_goesBy_b137
  have m_26 := zk_rng I 215 0
  have m_27 := zi_r_w ((g 215 0) + 1)
  intro g27 e_23
  have I_24 : zk_I g27 := by rw [e_23]; exact zk_upd (zk_nl0 (i := 0) (by omega)).1 (zk_nl0 (i := 0) (by omega)).2 I ⟨by omega, by omega⟩
  have F_25 : zk_fr fr_M_goesBy g0 g27 := by rw [e_23]; exact zk_fu F (Or.inr (Or.inr (Or.inr (Or.inr (Or.inr (Or.inr (Or.inl ⟨rfl, by omega, by omega⟩)))))))
  exact hQ _ _ I_24 F_25 ⟨by omega, by omega⟩
set_option maxRecDepth 100000 in
set_option maxHeartbeats 4000000 in
theorem k_M_goesBy_b97 {Q : Int → zi_M → Prop} {g : zi_M} {g0 : zi_M} (I : zk_I g) (F : zk_fr fr_M_goesBy g0 g) (hQ : ∀ (v : Int) (g' : zi_M), zk_I g' → zk_fr fr_M_goesBy g0 g' → ((-2147483648) ≤ v ∧ v ≤ 2147483647) → Q v g') : w_M_goesBy_b97 g Q := by
  unfold w_M_goesBy_b97
  have m_16 := zk_rng I 215 3
  refine ⟨⟨by omega, by omega⟩, ?_⟩
  refine ⟨fun c32 => ?_, fun c32 => ?_⟩
  · refine ⟨((10 - 0 : Int).toNat + 1), k_M_goesBy_l118 (fun g26 I_21 F_22 => ?_) hQ ((10 - 0 : Int).toNat + 1) I F ⟨by omega, by omega⟩ (by omega)⟩
    exact k_M_goesBy_b137 I_21 F_22 ⟨by omega, by omega⟩ hQ
  · refine k_M_rains I (fun v29 g30 I_29 F_30 b_28 => ?_)
    have F_31 : zk_fr fr_M_goesBy g0 g30 := zk_ft F F_30 (fun a i => (fun h => Or.elim h (fun h => (Or.inl h)) (fun h => Or.elim h (fun h => (Or.inr (Or.inl h))) (fun h => Or.elim h (fun h => (Or.inr (Or.inr (Or.inl h)))) (fun h => Or.elim h (fun h => (Or.inr (Or.inr (Or.inr (Or.inl h))))) (fun h => Or.elim h (fun h => (Or.inr (Or.inr (Or.inr (Or.inr (Or.inl h)))))) (fun h => Or.elim h (fun h => (Or.inr (Or.inr (Or.inr (Or.inr (Or.inr (Or.inl h))))))) (fun h => Or.elim h (fun h => (Or.inr (Or.inr (Or.inr (Or.inr (Or.inr (Or.inr (Or.inr (Or.inl h))))))))) (fun h => Or.elim h (fun h => (Or.inr (Or.inr (Or.inr (Or.inr (Or.inr (Or.inr (Or.inr (Or.inr (Or.inl h)))))))))) (fun h => Or.elim h (fun h => (Or.inr (Or.inr (Or.inr (Or.inr (Or.inr (Or.inr (Or.inr (Or.inr (Or.inr (Or.inl h))))))))))) (fun h => Or.elim h (fun h => (Or.inr (Or.inr (Or.inr (Or.inr (Or.inr (Or.inr (Or.inr (Or.inr (Or.inr (Or.inr (Or.inr (Or.inr (Or.inr (Or.inl h))))))))))))))) (fun h => Or.elim h (fun h => (Or.inr (Or.inr (Or.inr (Or.inr (Or.inr (Or.inr (Or.inr (Or.inr (Or.inr (Or.inr (Or.inr (Or.inr (Or.inr (Or.inr (Or.inl h)))))))))))))))) (fun h => Or.elim h (fun h => (Or.inr (Or.inr (Or.inr (Or.inr (Or.inr (Or.inr (Or.inr (Or.inr (Or.inr (Or.inr (Or.inr (Or.inr (Or.inr (Or.inr (Or.inr (Or.inr (Or.inl h)))))))))))))))))) (fun h => Or.elim h (fun h => (Or.inr (Or.inr (Or.inr (Or.inr (Or.inr (Or.inr (Or.inr (Or.inr (Or.inr (Or.inr (Or.inr (Or.inr (Or.inr (Or.inr (Or.inr (Or.inr (Or.inr (Or.inl h))))))))))))))))))) (fun h => (Or.inr (Or.inr (Or.inr (Or.inr (Or.inr (Or.inr (Or.inr (Or.inr (Or.inr (Or.inr (Or.inr (Or.inr (Or.inr (Or.inr (Or.inr (Or.inr (Or.inr (Or.inr (Or.inl h))))))))))))))))))))))))))))))))))
    exact k_M_goesBy_b137 I_29 F_31 ⟨by omega, by omega⟩ hQ
set_option maxRecDepth 100000 in
set_option maxHeartbeats 4000000 in
theorem k_M_goesBy {g : zi_M} {Q : Int → zi_M → Prop} (I : zk_I g) (hQ : ∀ (v : Int) (g' : zi_M), zk_I g' → zk_fr fr_M_goesBy g g' → ((-2147483648) ≤ v ∧ v ≤ 2147483647) → Q v g') : w_M_goesBy g Q := by
  unfold w_M_goesBy
  refine ⟨((16 - 0 : Int).toNat + 1), k_M_goesBy_l2 (fun g14 I_11 F_12 => ?_) hQ ((16 - 0 : Int).toNat + 1) I (zk_f0 _) ⟨by omega, by omega⟩ (by omega)⟩
  have m_13 := zk_rng I_11 215 0
  refine k_M_weatherOf I_11 ⟨by omega, by omega⟩ (fun v15 b_14 b_15 => ?_)
  refine ⟨⟨by omega, by omega⟩, ?_⟩
  refine ⟨fun c37 => ?_, fun c37 => ?_⟩
  · exact k_M_goesBy_b97 I_11 F_12 hQ
  · refine k_M_weatherOf I_11 ⟨by omega, by omega⟩ (fun v33 b_32 b_33 => ?_)
    intro g36 e_34
    have I_35 : zk_I g36 := by rw [e_34]; exact zk_upd (zk_nl3 (i := 3) (by omega)).1 (zk_nl3 (i := 3) (by omega)).2 I_11 ⟨by omega, by omega⟩
    have F_36 : zk_fr fr_M_goesBy g g36 := by rw [e_34]; exact zk_fu F_12 (Or.inr (Or.inr (Or.inr (Or.inr (Or.inr (Or.inr (Or.inr (Or.inr (Or.inr (Or.inr (Or.inr (Or.inr (Or.inr (Or.inr (Or.inr (Or.inl ⟨rfl, by omega, by omega⟩))))))))))))))))
    exact k_M_goesBy_b97 I_35 F_36 hQ
-- SpoutNewsModel.days(I)I
set_option maxRecDepth 100000 in
set_option maxHeartbeats 4000000 in
theorem k_M_days_l36 {l1 : Int} {K58 : Int → zi_M → Prop} {Q : Int → zi_M → Prop} {g0 : zi_M} (q1 : 1 ≤ l1 ∧ l1 ≤ 60) (hK58 : ∀ (k2 : Int) (g : zi_M), zk_I g → zk_fr fr_M_days g0 g → ((-2147483648) ≤ k2 ∧ k2 ≤ 2147483647) → K58 k2 g) (hQ : ∀ (v : Int) (g' : zi_M), zk_I g' → zk_fr fr_M_days g0 g' → ((-2147483648) ≤ v ∧ v ≤ 2147483647) → Q v g') : ∀ (n : Nat) {l2 : Int} {l3 : Int} {g : zi_M}, zk_I g → zk_fr fr_M_days g0 g → ((-2147483648) ≤ l2 ∧ l2 ≤ 2147483647) → (0 ≤ l3 ∧ l3 ≤ 60) → 60 - l3 < (n : Int) → w_M_days_l36 l1 K58 Q n l2 l3 g
  | 0, l2, l3, g, I, F, b0, b1, hm => by exfalso; omega
  | n + 1, l2, l3, g, I, F, b0, b1, hm => by
    unfold w_M_days_l36
    refine ⟨⟨by omega, by omega⟩, ⟨by omega, by omega⟩, ?_⟩
    refine ⟨fun c13 => ?_, fun c13 => ?_⟩
    · exact hK58 _ _ I F ⟨by omega, by omega⟩
    · refine k_M_keepsAhead I (fun g8 I_11 F_12 => ?_)
      have F_13 : zk_fr fr_M_days g0 g8 := zk_ft F F_12 (fun a i => (fun h => Or.elim h (fun h => (Or.inl h)) (fun h => (Or.inr (Or.inr (Or.inr (Or.inr (Or.inr (Or.inr (Or.inr (Or.inl h)))))))))))
      refine k_M_goesBy I_11 (fun v10 g11 I_15 F_16 b_14 => ?_)
      have F_17 : zk_fr fr_M_days g0 g11 := zk_ft F_13 F_16 (fun a i => (fun h => Or.elim h (fun h => (Or.inr (Or.inl h))) (fun h => Or.elim h (fun h => (Or.inr (Or.inr (Or.inl h)))) (fun h => Or.elim h (fun h => (Or.inr (Or.inr (Or.inr (Or.inl h))))) (fun h => Or.elim h (fun h => (Or.inr (Or.inr (Or.inr (Or.inr (Or.inl h)))))) (fun h => Or.elim h (fun h => (Or.inr (Or.inr (Or.inr (Or.inr (Or.inr (Or.inl h))))))) (fun h => Or.elim h (fun h => (Or.inr (Or.inr (Or.inr (Or.inr (Or.inr (Or.inr (Or.inr (Or.inr (Or.inl h)))))))))) (fun h => Or.elim h (fun h => (Or.inr (Or.inr (Or.inr (Or.inr (Or.inr (Or.inr (Or.inr (Or.inr (Or.inr (Or.inl h))))))))))) (fun h => Or.elim h (fun h => (Or.inr (Or.inr (Or.inr (Or.inr (Or.inr (Or.inr (Or.inr (Or.inr (Or.inr (Or.inr (Or.inl h)))))))))))) (fun h => Or.elim h (fun h => (Or.inr (Or.inr (Or.inr (Or.inr (Or.inr (Or.inr (Or.inr (Or.inr (Or.inr (Or.inr (Or.inr (Or.inl h))))))))))))) (fun h => Or.elim h (fun h => (Or.inr (Or.inr (Or.inr (Or.inr (Or.inr (Or.inr (Or.inr (Or.inr (Or.inr (Or.inr (Or.inr (Or.inr (Or.inl h)))))))))))))) (fun h => Or.elim h (fun h => (Or.inr (Or.inr (Or.inr (Or.inr (Or.inr (Or.inr (Or.inr (Or.inr (Or.inr (Or.inr (Or.inr (Or.inr (Or.inr (Or.inl h))))))))))))))) (fun h => Or.elim h (fun h => (Or.inr (Or.inr (Or.inr (Or.inr (Or.inr (Or.inr (Or.inr (Or.inr (Or.inr (Or.inr (Or.inr (Or.inr (Or.inr (Or.inr (Or.inl h)))))))))))))))) (fun h => Or.elim h (fun h => (Or.inr (Or.inr (Or.inr (Or.inr (Or.inr (Or.inr (Or.inr (Or.inr (Or.inr (Or.inr (Or.inr (Or.inr (Or.inr (Or.inr (Or.inr (Or.inl h))))))))))))))))) (fun h => Or.elim h (fun h => (Or.inr (Or.inr (Or.inr (Or.inr (Or.inr (Or.inr (Or.inr (Or.inr (Or.inr (Or.inr (Or.inr (Or.inr (Or.inr (Or.inr (Or.inr (Or.inr (Or.inl h)))))))))))))))))) (fun h => Or.elim h (fun h => (Or.inr (Or.inr (Or.inr (Or.inr (Or.inr (Or.inr (Or.inr (Or.inr (Or.inr (Or.inr (Or.inr (Or.inr (Or.inr (Or.inr (Or.inr (Or.inr (Or.inr (Or.inl h))))))))))))))))))) (fun h => Or.elim h (fun h => (Or.inr (Or.inr (Or.inr (Or.inr (Or.inr (Or.inr (Or.inr (Or.inr (Or.inr (Or.inr (Or.inr (Or.inr (Or.inr (Or.inr (Or.inr (Or.inr (Or.inr (Or.inr (Or.inl h)))))))))))))))))))) (fun h => Or.elim h (fun h => (Or.inr (Or.inr (Or.inr (Or.inr (Or.inr (Or.inr (Or.inr (Or.inr (Or.inr (Or.inr (Or.inr (Or.inr (Or.inr (Or.inr (Or.inr (Or.inr (Or.inr (Or.inr (Or.inr (Or.inl h))))))))))))))))))))) (fun h => Or.elim h (fun h => (Or.inr (Or.inr (Or.inr (Or.inr (Or.inr (Or.inr (Or.inr (Or.inr (Or.inr (Or.inr (Or.inr (Or.inr (Or.inr (Or.inr (Or.inr (Or.inr (Or.inr (Or.inr (Or.inr (Or.inr (Or.inl h)))))))))))))))))))))) (fun h => Or.elim h (fun h => (Or.inr (Or.inr (Or.inr (Or.inr (Or.inr (Or.inr (Or.inr (Or.inr (Or.inr (Or.inr (Or.inr (Or.inr (Or.inr (Or.inr (Or.inr (Or.inr (Or.inr (Or.inr (Or.inr (Or.inr (Or.inr (Or.inl h))))))))))))))))))))))) (fun h => (Or.inr (Or.inr (Or.inr (Or.inr (Or.inr (Or.inr (Or.inr (Or.inr (Or.inr (Or.inr (Or.inr (Or.inr (Or.inr (Or.inr (Or.inr (Or.inr (Or.inr (Or.inr (Or.inr (Or.inr (Or.inr (Or.inr h)))))))))))))))))))))))))))))))))))))))))))
      have m_18 := zi_r_w (l2 + v10)
      exact k_M_days_l36 q1 hK58 hQ n I_15 F_17 ⟨by omega, by omega⟩ ⟨by omega, by omega⟩ (by omega)
set_option maxRecDepth 100000 in
set_option maxHeartbeats 4000000 in
theorem k_M_days {l1 : Int} {g : zi_M} {Q : Int → zi_M → Prop} (I : zk_I g) (p1 : (-2147483648) ≤ l1 ∧ l1 ≤ 2147483647) (hQ : ∀ (v : Int) (g' : zi_M), zk_I g' → zk_fr fr_M_days g g' → ((-2147483648) ≤ v ∧ v ≤ 2147483647) → Q v g') : w_M_days l1 g Q := by
  unfold w_M_days
  intro g1 e_1
  have I_2 : zk_I g1 := by rw [e_1]; exact zk_upd (L := (-2147483648)) (H := 2147483647) rfl rfl I ⟨by omega, by omega⟩
  have F_3 : zk_fr fr_M_days g g1 := by rw [e_1]; exact zk_fu (zk_f0 _) (Or.inr (Or.inr (Or.inr (Or.inr (Or.inr (Or.inr (Or.inl ⟨rfl, rfl⟩)))))))
  refine k_M_isIn I_2 ⟨by omega, by omega⟩ ⟨by omega, by omega⟩ ⟨by omega, by omega⟩ (fun v2 b_4 b_5 b_6 => ?_)
  refine ⟨fun c18 => ?_, fun c18 => ?_⟩
  · exact hQ _ _ I_2 F_3 ⟨by omega, by omega⟩
  · have m_7 := zk_rng I_2 215 0
    have m_8 : g1 215 0 = g 215 0 := by rw [e_1]; exact zi_u_ne (by decide)
    have m_9 := zk_rng I 215 0
    have m_10 := zi_r_w ((g1 215 0) + l1)
    refine ⟨fun c17 => ?_, fun c17 => ?_⟩
    · refine ⟨((60 - 0 : Int).toNat + 1), k_M_days_l36 (l1 := l1) ⟨by omega, by omega⟩ (fun k14 g15 I_19 F_20 b_21 => ?_) hQ ((60 - 0 : Int).toNat + 1) I_2 F_3 ⟨by omega, by omega⟩ ⟨by omega, by omega⟩ (by omega)⟩
      exact hQ _ _ I_19 F_20 ⟨by omega, by omega⟩
    · exact hQ _ _ I_2 F_3 ⟨by omega, by omega⟩
-- SpoutNews.feedFour(I)V
theorem k_S_feedFour_1 {l1 l2 : Int} {K : zi_M → Prop} {Q : Int → zi_M → Prop} {m : Nat} {g : zi_M} (I : zk_I g) (hl : l2 = 0 ∨ l2 = 8 ∨ l2 = 16 ∨ l2 = 24) (r : zi_r l1) (hn : g 0 8 < 400) (h : ∀ g' : zi_M, zk_I g' → zk_fr fr_S_feedFour g g' → g' 0 8 = g 0 8 + 1 → g' 190 = zup (g 190) (g 0 8) (zby l1 l2) → w_S_feedFour_l3 l1 K Q m (l2 + (-8)) g') : w_S_feedFour_l3 l1 K Q (m + 1) l2 g := by
  have b8 : 0 ≤ g 0 8 ∧ g 0 8 ≤ 400 := I.1 0 8
  unfold w_S_feedFour_l3
  refine ⟨⟨by omega, by omega⟩, fun c => by exfalso; omega, fun _ => ⟨⟨by omega, by omega⟩, fun c => by exfalso; omega, fun _ => ⟨⟨by omega, by omega⟩, ?_⟩⟩⟩
  intro g4 e4 g5 e5
  rw [zby_u r hl] at e4
  have b := zby_b l1 l2
  have I4 : zk_I g4 := by rw [e4]; exact zk_upd (L := 0) (H := 255) rfl rfl I ⟨by omega, by omega⟩
  have s8 : g4 0 8 = g 0 8 := by rw [e4]; exact zi_u_ne (by decide)
  refine h g5 (by rw [e5]; exact zk_upd (L := 0) (H := 400) rfl rfl I4 ⟨by omega, by omega⟩) (by rw [e5, e4]; exact zk_fu (zk_fu (zk_f0 _) (Or.inl rfl)) (Or.inr ⟨rfl, rfl⟩)) (by rw [e5, zi_u_eq, s8]) (by rw [e5, zi_u_row (by decide), e4, zup_u])
theorem k_S_feedFour {l1 : Int} {g : zi_M} {Q : Int → zi_M → Prop} (I : zk_I g) (p1 : (-2147483648) ≤ l1 ∧ l1 ≤ 2147483647) (hQ : ∀ g' : zi_M, zk_I g' → zk_fr fr_S_feedFour g g' → (g 0 8 ≤ 396 → g' 0 8 = g 0 8 + 4) → (g 0 8 ≤ 396 → g' 190 = zty (g 190) (g 0 8) l1) → Q 0 g') : w_S_feedFour l1 g Q := by
  have b8 : 0 ≤ g 0 8 ∧ g 0 8 ≤ 400 := I.1 0 8
  unfold w_S_feedFour
  by_cases c : g 0 8 ≤ 396
  · refine ⟨5, k_S_feedFour_1 I (by decide) p1 (by omega) (fun g1 I1 F1 n1 r1 => k_S_feedFour_1 I1 (by decide) p1 (by omega) (fun g2 I2 F2 n2 r2 => k_S_feedFour_1 I2 (by decide) p1 (by omega) (fun g3 I3 F3 n3 r3 => k_S_feedFour_1 I3 (by decide) p1 (by omega) (fun g4 I4 F4 n4 r4 => ?_))))⟩
    unfold w_S_feedFour_l3
    refine ⟨by decide, fun _ => ?_, fun q => absurd q (by decide)⟩
    refine hQ g4 I4 (zk_ft (zk_ft (zk_ft F1 F2 (fun _ _ h => h)) F3 (fun _ _ h => h)) F4 (fun _ _ h => h)) (fun _ => by omega) (fun _ => ?_)
    rw [r4, r3, r2, r1, n3, n2, n1]
    rfl
  · have st : ∀ (m : Nat) (l2 : Int) (x : zi_M), zk_I x → zk_fr fr_S_feedFour g x → (l2 = 0 ∨ l2 = 8 ∨ l2 = 16 ∨ l2 = 24 ∨ l2 = -8) → l2 + 8 < 8 * (m : Int) → w_S_feedFour_l3 l1 (fun g8 => Q 0 g8) Q m l2 x := by
      intro m
      induction m with
      | zero => intro l2 x Ix Fx hl hm; exfalso; omega
      | succ m ih =>
        intro l2 x Ix Fx hl hm
        have bx : 0 ≤ x 0 8 ∧ x 0 8 ≤ 400 := Ix.1 0 8
        by_cases q : l2 = -8 ∨ 400 ≤ x 0 8
        · unfold w_S_feedFour_l3
          have e : Q 0 x := hQ x Ix Fx (fun q => absurd q c) (fun q => absurd q c)
          exact ⟨⟨by omega, by omega⟩, fun _ => e, fun _ => ⟨⟨by omega, by omega⟩, fun _ => e, fun _ => by exfalso; omega⟩⟩
        · exact k_S_feedFour_1 Ix (by omega) p1 (by omega) (fun y Iy Fy _ _ => ih (l2 + (-8)) y Iy (zk_ft Fx Fy (fun _ _ h => h)) (by omega) (by omega))
    exact ⟨5, st 5 24 g I (zk_f0 _) (by decide) (by decide)⟩

-- SpoutNews.feed(IIIII)I
theorem k_S_feed {l1 : Int} {l2 : Int} {l3 : Int} {l4 : Int} {l5 : Int} {g : zi_M} {Q : Int → zi_M → Prop} (I : zk_I g) (p1 : (-2147483648) ≤ l1 ∧ l1 ≤ 2147483647) (p2 : (-2147483648) ≤ l2 ∧ l2 ≤ 2147483647) (p3 : (-2147483648) ≤ l3 ∧ l3 ≤ 2147483647) (p4 : (-2147483648) ≤ l4 ∧ l4 ≤ 2147483647) (p5 : (-2147483648) ≤ l5 ∧ l5 ≤ 2147483647) (hQ : ∀ (v : Int) (g' : zi_M), zk_I g' → zk_fr fr_S_feed g g' → ((-1) ≤ v ∧ v ≤ 400) → (g 0 8 ≤ 380 → v = g 0 8 + 20 ∧ g' 0 8 = g 0 8 + 20) → (380 < g 0 8 → v = -1 ∧ g' 0 8 = g 0 8) → (g 0 8 ≤ 380 → g' 190 = zfd (g 190) (g 0 8) l1 l2 l3 l4 l5) → (380 < g 0 8 → g' 190 = g 190) → Q v g') : w_S_feed l1 l2 l3 l4 l5 g Q := by
  have b8 : 0 ≤ g 0 8 ∧ g 0 8 ≤ 400 := I.1 0 8
  unfold w_S_feed
  refine ⟨⟨by omega, by omega⟩, fun c => ?_, fun c => ?_⟩
  · refine k_S_feedFour I p1 (fun g1 I1 F1 n1 r1 => ?_)
    have m1 := n1 (by omega)
    refine k_S_feedFour I1 p2 (fun g2 I2 F2 n2 r2 => ?_)
    have m2 := n2 (by omega)
    refine k_S_feedFour I2 p3 (fun g3 I3 F3 n3 r3 => ?_)
    have m3 := n3 (by omega)
    refine k_S_feedFour I3 p4 (fun g4 I4 F4 n4 r4 => ?_)
    have m4 := n4 (by omega)
    refine k_S_feedFour I4 p5 (fun g5 I5 F5 n5 r5 => ?_)
    have m5 := n5 (by omega)
    have b5 : 0 ≤ g5 0 8 ∧ g5 0 8 ≤ 400 := I5.1 0 8
    refine hQ _ g5 I5 (zk_ft (zk_ft (zk_ft (zk_ft F1 F2 (fun _ _ h => h)) F3 (fun _ _ h => h)) F4 (fun _ _ h => h)) F5 (fun _ _ h => h)) ⟨by omega, by omega⟩ (fun _ => ⟨by omega, by omega⟩) (fun q => by exfalso; omega) (fun _ => ?_) (fun q => by exfalso; omega)
    rw [r5 (by omega), r4 (by omega), r3 (by omega), r2 (by omega), r1 (by omega), show g4 0 8 = g 0 8 + 16 by omega, show g3 0 8 = g 0 8 + 12 by omega, show g2 0 8 = g 0 8 + 8 by omega, m1]
    rfl
  · exact hQ (-1) g I (zk_f0 _) ⟨by decide, by decide⟩ (fun q => by exfalso; omega) (fun _ => ⟨rfl, rfl⟩) (fun q => by exfalso; omega) (fun _ => rfl)

-- SpoutNewsModel.types(I)V
theorem k_M_types_1 {l1 l2 : Int} {K : zi_M → Prop} {Q : Int → zi_M → Prop} {m : Nat} {g : zi_M} (I : zk_I g) (hl : l2 = 0 ∨ l2 = 8 ∨ l2 = 16 ∨ l2 = 24) (hn : g 214 13 < 400) (h : ∀ g' : zi_M, zk_I g' → zk_fr fr_M_types g g' → g' 214 13 = g 214 13 + 1 → g' 222 = zup (g 222) (g 214 13) (zby l1 l2) → w_M_types_l3 l1 K Q m (l2 + (-8)) g') : w_M_types_l3 l1 K Q (m + 1) l2 g := by
  have b8 : 0 ≤ g 214 13 ∧ g 214 13 ≤ 400 := I.1 214 13
  unfold w_M_types_l3
  refine ⟨⟨by omega, by omega⟩, fun c => by exfalso; omega, fun _ => ⟨⟨by omega, by omega⟩, ?_⟩⟩
  intro g4 e4 g5 e5
  have b := zby_b l1 l2
  have I4 : zk_I g4 := by rw [e4]; exact zk_upd (L := 0) (H := 255) rfl rfl I b
  have s8 : g4 214 13 = g 214 13 := by rw [e4]; exact zi_u_ne (by decide)
  refine h g5 (by rw [e5]; exact zk_upd (L := 0) (H := 400) rfl rfl I4 ⟨by omega, by omega⟩) (by rw [e5, e4]; exact zk_fu (zk_fu (zk_f0 _) (Or.inl rfl)) (Or.inr ⟨rfl, rfl⟩)) (by rw [e5, zi_u_eq, s8]) (by rw [e5, zi_u_row (by decide), e4, zup_u]; rfl)
theorem k_M_types {l1 : Int} {g : zi_M} {Q : Int → zi_M → Prop} (I : zk_I g) (p1 : (-2147483648) ≤ l1 ∧ l1 ≤ 2147483647) (px0 : g 214 13 ≤ 396) (hQ : ∀ g' : zi_M, zk_I g' → zk_fr fr_M_types g g' → (g' 214 13 = g 214 13 + 4) → (g' 222 = zty (g 222) (g 214 13) l1) → Q 0 g') : w_M_types l1 g Q := by
  have b8 : 0 ≤ g 214 13 ∧ g 214 13 ≤ 400 := I.1 214 13
  unfold w_M_types
  refine ⟨5, k_M_types_1 I (by decide) (by omega) (fun g1 I1 F1 n1 r1 => k_M_types_1 I1 (by decide) (by omega) (fun g2 I2 F2 n2 r2 => k_M_types_1 I2 (by decide) (by omega) (fun g3 I3 F3 n3 r3 => k_M_types_1 I3 (by decide) (by omega) (fun g4 I4 F4 n4 r4 => ?_))))⟩
  unfold w_M_types_l3
  refine ⟨by decide, fun _ => ?_, fun q => absurd q (by decide)⟩
  refine hQ g4 I4 (zk_ft (zk_ft (zk_ft F1 F2 (fun _ _ h => h)) F3 (fun _ _ h => h)) F4 (fun _ _ h => h)) (by omega) ?_
  rw [r4, r3, r2, r1, n3, n2, n1]
  rfl

-- SpoutNewsModel.feed(IIIII)I
theorem k_M_feed {l1 : Int} {l2 : Int} {l3 : Int} {l4 : Int} {l5 : Int} {g : zi_M} {Q : Int → zi_M → Prop} (I : zk_I g) (p1 : (-2147483648) ≤ l1 ∧ l1 ≤ 2147483647) (p2 : (-2147483648) ≤ l2 ∧ l2 ≤ 2147483647) (p3 : (-2147483648) ≤ l3 ∧ l3 ≤ 2147483647) (p4 : (-2147483648) ≤ l4 ∧ l4 ≤ 2147483647) (p5 : (-2147483648) ≤ l5 ∧ l5 ≤ 2147483647) (hQ : ∀ (v : Int) (g' : zi_M), zk_I g' → zk_fr fr_M_feed g g' → ((-1) ≤ v ∧ v ≤ 400) → (g 214 13 ≤ 380 → v = g 214 13 + 20 ∧ g' 214 13 = g 214 13 + 20) → (380 < g 214 13 → v = -1 ∧ g' 214 13 = g 214 13) → (g 214 13 ≤ 380 → g' 222 = zfd (g 222) (g 214 13) l1 l2 l3 l4 l5) → (380 < g 214 13 → g' 222 = g 222) → Q v g') : w_M_feed l1 l2 l3 l4 l5 g Q := by
  unfold w_M_feed
  intro g0 e0
  have I0 : zk_I g0 := by rw [e0]; exact zk_upd (L := -2147483648) (H := 2147483647) rfl rfl I ⟨by decide, by decide⟩
  have F0 : zk_fr fr_M_feed g g0 := by rw [e0]; exact zk_fu (zk_f0 _) (Or.inr (Or.inl ⟨rfl, rfl⟩))
  have s13 : g0 214 13 = g 214 13 := by rw [e0]; exact zi_u_ni (by decide)
  have s222 : g0 222 = g 222 := by rw [e0]; exact zi_u_row (by decide)
  have b8 : 0 ≤ g0 214 13 ∧ g0 214 13 ≤ 400 := I0.1 214 13
  have sub : ∀ a i, fr_M_types a i → fr_M_feed a i := fun a i h => by unfold fr_M_types at h; unfold fr_M_feed; omega
  refine ⟨⟨by omega, by omega⟩, fun c => ?_, fun c => ?_⟩
  · refine k_M_types I0 p1 (by omega) (fun g1 I1 F1 m1 r1 => ?_)
    refine k_M_types I1 p2 (by omega) (fun g2 I2 F2 m2 r2 => ?_)
    refine k_M_types I2 p3 (by omega) (fun g3 I3 F3 m3 r3 => ?_)
    refine k_M_types I3 p4 (by omega) (fun g4 I4 F4 m4 r4 => ?_)
    refine k_M_types I4 p5 (by omega) (fun g5 I5 F5 m5 r5 => ?_)
    have b5 : 0 ≤ g5 214 13 ∧ g5 214 13 ≤ 400 := I5.1 214 13
    refine hQ _ g5 I5 (zk_ft (zk_ft (zk_ft (zk_ft (zk_ft F0 F1 sub) F2 sub) F3 sub) F4 sub) F5 sub) ⟨by omega, by omega⟩ (fun _ => ⟨by omega, by omega⟩) (fun q => by exfalso; omega) (fun _ => ?_) (fun q => by exfalso; omega)
    rw [r5, r4, r3, r2, r1, show g4 214 13 = g0 214 13 + 16 by omega, show g3 214 13 = g0 214 13 + 12 by omega, show g2 214 13 = g0 214 13 + 8 by omega, m1, s222, s13]
    rfl
  · exact hQ (-1) g0 I0 F0 ⟨by decide, by decide⟩ (fun q => by exfalso; omega) (fun _ => ⟨rfl, s13⟩) (fun q => by exfalso; omega) (fun _ => s222)

-- SpoutNews.end(I)Z
set_option maxRecDepth 100000 in
set_option maxHeartbeats 4000000 in
theorem k_S_end {l1 : Int} {g : zi_M} {Q : Int → zi_M → Prop} (I : zk_I g) (p1 : (-2147483648) ≤ l1 ∧ l1 ≤ 2147483647) (hQ : ∀ (v : Int) (g' : zi_M), zk_I g' → zk_fr fr_S_end g g' → (0 ≤ v ∧ v ≤ 1) → (0 ≤ l1 ∧ l1 ≤ g 0 8 → v = 1 ∧ g' 0 8 = l1) → (¬ (0 ≤ l1 ∧ l1 ≤ g 0 8) → v = 0 ∧ g' 0 8 = g 0 8) → Q v g') : w_S_end l1 g Q := by
  unfold w_S_end
  refine ⟨⟨by omega, by omega⟩, ?_⟩
  refine ⟨fun c5 => ?_, fun c5 => ?_⟩
  · have m_1 : 0 ≤ (g 0 8) ∧ (g 0 8) ≤ 400 := I.1 0 8
    exact hQ _ _ I (zk_f0 _) ⟨by omega, by omega⟩ (by omega) (by omega)
  · have m_2 : 0 ≤ (g 0 8) ∧ (g 0 8) ≤ 400 := I.1 0 8
    refine ⟨⟨by omega, by omega⟩, ?_⟩
    refine ⟨fun c4 => ?_, fun c4 => ?_⟩
    · intro g3 e_3
      have I_4 : zk_I g3 := by rw [e_3]; exact zk_upd (L := 0) (H := 400) rfl rfl I ⟨by omega, by omega⟩
      have F_5 : zk_fr fr_S_end g g3 := by rw [e_3]; exact zk_fu (zk_f0 _) ⟨rfl, rfl⟩
      have m_6 : 0 ≤ (g3 0 8) ∧ (g3 0 8) ≤ 400 := I_4.1 0 8
      have m_7 : g3 0 8 = l1 := by rw [e_3]; exact zi_u_eq
      exact hQ _ _ I_4 F_5 ⟨by omega, by omega⟩ (by omega) (by omega)
    · exact hQ _ _ I (zk_f0 _) ⟨by omega, by omega⟩ (by omega) (by omega)
-- SpoutNewsModel.end(I)Z
set_option maxRecDepth 100000 in
set_option maxHeartbeats 4000000 in
theorem k_M_end {l1 : Int} {g : zi_M} {Q : Int → zi_M → Prop} (I : zk_I g) (p1 : (-2147483648) ≤ l1 ∧ l1 ≤ 2147483647) (hQ : ∀ (v : Int) (g' : zi_M), zk_I g' → zk_fr fr_M_end g g' → (0 ≤ v ∧ v ≤ 1) → (0 ≤ l1 ∧ l1 ≤ g 214 13 → v = 1 ∧ g' 214 13 = l1) → (¬ (0 ≤ l1 ∧ l1 ≤ g 214 13) → v = 0 ∧ g' 214 13 = g 214 13) → Q v g') : w_M_end l1 g Q := by
  unfold w_M_end
  intro g1 e_1
  have I_2 : zk_I g1 := by rw [e_1]; exact zk_upd (L := (-2147483648)) (H := 2147483647) rfl rfl I ⟨by omega, by omega⟩
  have F_3 : zk_fr fr_M_end g g1 := by rw [e_1]; exact zk_fu (zk_f0 _) (Or.inl ⟨rfl, rfl⟩)
  have m_4 : 0 ≤ (g1 214 13) ∧ (g1 214 13) ≤ 400 := I_2.1 214 13
  have m_5 : g1 214 13 = g 214 13 := by rw [e_1]; exact zi_u_ni (by decide)
  have m_6 : 0 ≤ (g 214 13) ∧ (g 214 13) ≤ 400 := I.1 214 13
  refine k_M_isIn I_2 ⟨by omega, by omega⟩ ⟨by omega, by omega⟩ ⟨by omega, by omega⟩ (fun v2 b_7 b_8 b_9 => ?_)
  refine ⟨fun c6 => ?_, fun c6 => ?_⟩
  · intro g5 e_10
    have I_11 : zk_I g5 := by rw [e_10]; exact zk_upd (L := 0) (H := 400) rfl rfl I_2 ⟨by omega, by omega⟩
    have F_12 : zk_fr fr_M_end g g5 := by rw [e_10]; exact zk_fu F_3 (Or.inr ⟨rfl, rfl⟩)
    have m_13 : 0 ≤ (g5 214 13) ∧ (g5 214 13) ≤ 400 := I_11.1 214 13
    have m_14 : g5 214 13 = l1 := by rw [e_10]; exact zi_u_eq
    exact hQ _ _ I_11 F_12 ⟨by omega, by omega⟩ (by omega) (by omega)
  · exact hQ _ _ I_2 F_3 ⟨by omega, by omega⟩ (by omega) (by omega)
-- SpoutNews$Tokens.clear()V
set_option maxRecDepth 100000 in
set_option maxHeartbeats 4000000 in
theorem k_Tokens_clear {g : zi_M} {Q : Int → zi_M → Prop} (I : zk_I g) (hQ : ∀ g' : zi_M, zk_I g' → zk_fr fr_Tokens_clear g g' → (g' 191 3 = 0) → (g' 191 4 = 0) → (g' 191 5 = 0) → (g' 191 6 = -1) → Q 0 g') : w_Tokens_clear g Q := by
  unfold w_Tokens_clear
  intro g1 e_1
  have I_2 : zk_I g1 := by rw [e_1]; exact zk_upd (L := 0) (H := 401) rfl rfl I ⟨by omega, by omega⟩
  have F_3 : zk_fr fr_Tokens_clear g g1 := by rw [e_1]; exact zk_fu (zk_f0 _) (Or.inl ⟨rfl, rfl⟩)
  intro g2 e_4
  have I_5 : zk_I g2 := by rw [e_4]; exact zk_upd (L := 0) (H := 401) rfl rfl I_2 ⟨by omega, by omega⟩
  have F_6 : zk_fr fr_Tokens_clear g g2 := by rw [e_4]; exact zk_fu F_3 (Or.inr (Or.inl ⟨rfl, rfl⟩))
  intro g3 e_7
  have I_8 : zk_I g3 := by rw [e_7]; exact zk_upd (L := 0) (H := 3) rfl rfl I_5 ⟨by omega, by omega⟩
  have F_9 : zk_fr fr_Tokens_clear g g3 := by rw [e_7]; exact zk_fu F_6 (Or.inr (Or.inr (Or.inl ⟨rfl, rfl⟩)))
  intro g4 e_10
  have I_11 : zk_I g4 := by rw [e_10]; exact zk_upd (L := (-1)) (H := 400) rfl rfl I_8 ⟨by omega, by omega⟩
  have F_12 : zk_fr fr_Tokens_clear g g4 := by rw [e_10]; exact zk_fu F_9 (Or.inr (Or.inr (Or.inr ⟨rfl, rfl⟩)))
  have m_13 : 0 ≤ (g4 191 3) ∧ (g4 191 3) ≤ 401 := I_11.1 191 3
  have m_14 : g4 191 3 = g3 191 3 := by rw [e_10]; exact zi_u_ni (by decide)
  have m_15 : 0 ≤ (g3 191 3) ∧ (g3 191 3) ≤ 401 := I_8.1 191 3
  have m_16 : g3 191 3 = g2 191 3 := by rw [e_7]; exact zi_u_ni (by decide)
  have m_17 : 0 ≤ (g2 191 3) ∧ (g2 191 3) ≤ 401 := I_5.1 191 3
  have m_18 : g2 191 3 = g1 191 3 := by rw [e_4]; exact zi_u_ni (by decide)
  have m_19 : 0 ≤ (g1 191 3) ∧ (g1 191 3) ≤ 401 := I_2.1 191 3
  have m_20 : g1 191 3 = 0 := by rw [e_1]; exact zi_u_eq
  have m_21 : 0 ≤ (g4 191 4) ∧ (g4 191 4) ≤ 401 := I_11.1 191 4
  have m_22 : g4 191 4 = g3 191 4 := by rw [e_10]; exact zi_u_ni (by decide)
  have m_23 : 0 ≤ (g3 191 4) ∧ (g3 191 4) ≤ 401 := I_8.1 191 4
  have m_24 : g3 191 4 = g2 191 4 := by rw [e_7]; exact zi_u_ni (by decide)
  have m_25 : 0 ≤ (g2 191 4) ∧ (g2 191 4) ≤ 401 := I_5.1 191 4
  have m_26 : g2 191 4 = 0 := by rw [e_4]; exact zi_u_eq
  have m_27 : 0 ≤ (g4 191 5) ∧ (g4 191 5) ≤ 3 := I_11.1 191 5
  have m_28 : g4 191 5 = g3 191 5 := by rw [e_10]; exact zi_u_ni (by decide)
  have m_29 : 0 ≤ (g3 191 5) ∧ (g3 191 5) ≤ 3 := I_8.1 191 5
  have m_30 : g3 191 5 = 0 := by rw [e_7]; exact zi_u_eq
  have m_31 : (-1) ≤ (g4 191 6) ∧ (g4 191 6) ≤ 400 := I_11.1 191 6
  have m_32 : g4 191 6 = (-1) := by rw [e_10]; exact zi_u_eq
  exact hQ _ I_11 F_12 (by omega) (by omega) (by omega) (by omega)
-- SpoutNews$Tokens.isLetter(I)Z
set_option maxRecDepth 100000 in
set_option maxHeartbeats 4000000 in
theorem k_Tokens_isLetter_b12 {l0 : Int} {Q : Int → zi_M → Prop} {g : zi_M} (I : zk_I g) (p0 : 0 ≤ l0 ∧ l0 ≤ 255) (ix0 : ¬ (97 ≤ l0 ∧ l0 ≤ 122)) (hQ : ∀ v : Int, (l0 < 97 → l0 < 65 → v = 0) → (l0 < 97 → 65 ≤ l0 → 90 < l0 → v = 0) → (l0 < 97 → 65 ≤ l0 → l0 ≤ 90 → v = 1) → (97 ≤ l0 → l0 ≤ 122 → v = 1) → (97 ≤ l0 → 122 < l0 → l0 < 65 → v = 0) → (97 ≤ l0 → 122 < l0 → 65 ≤ l0 → 90 < l0 → v = 0) → (97 ≤ l0 → 122 < l0 → 65 ≤ l0 → l0 ≤ 90 → v = 1) → (zlt l0 → v = 1) → (¬ zlt l0 → v = 0) → Q v g) : w_Tokens_isLetter_b12 l0 g Q := by
  unfold w_Tokens_isLetter_b12
  refine ⟨⟨by omega, by omega⟩, ?_⟩
  refine ⟨fun c4 => ?_, fun c4 => ?_⟩
  · exact hQ _ (by intros; omega) (by intros; omega) (by intros; omega) (by intros; omega) (by intros; omega) (by intros; omega) (by intros; omega) (by intro hv; unfold zlt at hv; omega) (by intro hv; unfold zlt at hv; omega)
  · refine ⟨fun c3 => ?_, fun c3 => ?_⟩
    · exact hQ _ (by intros; omega) (by intros; omega) (by intros; omega) (by intros; omega) (by intros; omega) (by intros; omega) (by intros; omega) (by intro hv; unfold zlt at hv; omega) (by intro hv; unfold zlt at hv; omega)
    · exact hQ _ (by intros; omega) (by intros; omega) (by intros; omega) (by intros; omega) (by intros; omega) (by intros; omega) (by intros; omega) (by intro hv; unfold zlt at hv; omega) (by intro hv; unfold zlt at hv; omega)
set_option maxRecDepth 100000 in
set_option maxHeartbeats 4000000 in
theorem k_Tokens_isLetter {l0 : Int} {g : zi_M} {Q : Int → zi_M → Prop} (I : zk_I g) (p0 : 0 ≤ l0 ∧ l0 ≤ 255) (hQ : ∀ v : Int, (l0 < 97 → l0 < 65 → v = 0) → (l0 < 97 → 65 ≤ l0 → 90 < l0 → v = 0) → (l0 < 97 → 65 ≤ l0 → l0 ≤ 90 → v = 1) → (97 ≤ l0 → l0 ≤ 122 → v = 1) → (97 ≤ l0 → 122 < l0 → l0 < 65 → v = 0) → (97 ≤ l0 → 122 < l0 → 65 ≤ l0 → 90 < l0 → v = 0) → (97 ≤ l0 → 122 < l0 → 65 ≤ l0 → l0 ≤ 90 → v = 1) → (zlt l0 → v = 1) → (¬ zlt l0 → v = 0) → Q v g) : w_Tokens_isLetter l0 g Q := by
  unfold w_Tokens_isLetter
  refine ⟨⟨by omega, by omega⟩, ?_⟩
  refine ⟨fun c6 => ?_, fun c6 => ?_⟩
  · exact k_Tokens_isLetter_b12 I ⟨by omega, by omega⟩ (by omega) hQ
  · refine ⟨fun c5 => ?_, fun c5 => ?_⟩
    · exact hQ _ (by intros; omega) (by intros; omega) (by intros; omega) (by intros; omega) (by intros; omega) (by intros; omega) (by intros; omega) (by intro hv; unfold zlt at hv; omega) (by intro hv; unfold zlt at hv; omega)
    · exact k_Tokens_isLetter_b12 I ⟨by omega, by omega⟩ (by omega) hQ
-- SpoutNews$Tokens.isDigit(I)Z
set_option maxRecDepth 100000 in
set_option maxHeartbeats 4000000 in
theorem k_Tokens_isDigit {l0 : Int} {g : zi_M} {Q : Int → zi_M → Prop} (I : zk_I g) (p0 : 0 ≤ l0 ∧ l0 ≤ 255) (hQ : ∀ v : Int, (l0 < 48 → v = 0) → (48 ≤ l0 → 57 < l0 → v = 0) → (48 ≤ l0 → l0 ≤ 57 → v = 1) → Q v g) : w_Tokens_isDigit l0 g Q := by
  unfold w_Tokens_isDigit
  refine ⟨⟨by omega, by omega⟩, ?_⟩
  refine ⟨fun c3 => ?_, fun c3 => ?_⟩
  · exact hQ _ (by intros; omega) (by intros; omega) (by intros; omega)
  · refine ⟨fun c2 => ?_, fun c2 => ?_⟩
    · exact hQ _ (by intros; omega) (by intros; omega) (by intros; omega)
    · exact hQ _ (by intros; omega) (by intros; omega) (by intros; omega)
-- SpoutNews$Tokens.isSignOfLaw(I)Z
set_option maxRecDepth 100000 in
set_option maxHeartbeats 4000000 in
theorem k_Tokens_isSignOfLaw {l0 : Int} {g : zi_M} {Q : Int → zi_M → Prop} (I : zk_I g) (p0 : 0 ≤ l0 ∧ l0 ≤ 255) (hQ : ∀ v : Int, (l0 = 59 → v = 1) → (¬ l0 = 59 → l0 = 43 → v = 1) → (¬ l0 = 59 → ¬ l0 = 43 → l0 = 45 → v = 1) → (¬ l0 = 59 → ¬ l0 = 43 → ¬ l0 = 45 → l0 = 42 → v = 1) → (¬ l0 = 59 → ¬ l0 = 43 → ¬ l0 = 45 → ¬ l0 = 42 → l0 = 47 → v = 1) → (¬ l0 = 59 → ¬ l0 = 43 → ¬ l0 = 45 → ¬ l0 = 42 → ¬ l0 = 47 → l0 = 40 → v = 1) → (¬ l0 = 59 → ¬ l0 = 43 → ¬ l0 = 45 → ¬ l0 = 42 → ¬ l0 = 47 → ¬ l0 = 40 → l0 = 41 → v = 1) → (¬ l0 = 59 → ¬ l0 = 43 → ¬ l0 = 45 → ¬ l0 = 42 → ¬ l0 = 47 → ¬ l0 = 40 → ¬ l0 = 41 → l0 = 60 → v = 1) → (¬ l0 = 59 → ¬ l0 = 43 → ¬ l0 = 45 → ¬ l0 = 42 → ¬ l0 = 47 → ¬ l0 = 40 → ¬ l0 = 41 → ¬ l0 = 60 → l0 = 61 → v = 1) → (¬ l0 = 59 → ¬ l0 = 43 → ¬ l0 = 45 → ¬ l0 = 42 → ¬ l0 = 47 → ¬ l0 = 40 → ¬ l0 = 41 → ¬ l0 = 60 → ¬ l0 = 61 → ¬ l0 = 62 → v = 0) → (¬ l0 = 59 → ¬ l0 = 43 → ¬ l0 = 45 → ¬ l0 = 42 → ¬ l0 = 47 → ¬ l0 = 40 → ¬ l0 = 41 → ¬ l0 = 60 → ¬ l0 = 61 → l0 = 62 → v = 1) → (zsg l0 → v = 1) → (¬ zsg l0 → v = 0) → Q v g) : w_Tokens_isSignOfLaw l0 g Q := by
  unfold w_Tokens_isSignOfLaw
  refine ⟨⟨by omega, by omega⟩, ?_⟩
  refine ⟨fun c11 => ?_, fun c11 => ?_⟩
  · exact hQ _ (by intros; omega) (by intros; omega) (by intros; omega) (by intros; omega) (by intros; omega) (by intros; omega) (by intros; omega) (by intros; omega) (by intros; omega) (by intros; omega) (by intros; omega) (by intro hv; unfold zsg at hv; omega) (by intro hv; unfold zsg at hv; omega)
  · refine ⟨fun c10 => ?_, fun c10 => ?_⟩
    · exact hQ _ (by intros; omega) (by intros; omega) (by intros; omega) (by intros; omega) (by intros; omega) (by intros; omega) (by intros; omega) (by intros; omega) (by intros; omega) (by intros; omega) (by intros; omega) (by intro hv; unfold zsg at hv; omega) (by intro hv; unfold zsg at hv; omega)
    · refine ⟨fun c9 => ?_, fun c9 => ?_⟩
      · exact hQ _ (by intros; omega) (by intros; omega) (by intros; omega) (by intros; omega) (by intros; omega) (by intros; omega) (by intros; omega) (by intros; omega) (by intros; omega) (by intros; omega) (by intros; omega) (by intro hv; unfold zsg at hv; omega) (by intro hv; unfold zsg at hv; omega)
      · refine ⟨fun c8 => ?_, fun c8 => ?_⟩
        · exact hQ _ (by intros; omega) (by intros; omega) (by intros; omega) (by intros; omega) (by intros; omega) (by intros; omega) (by intros; omega) (by intros; omega) (by intros; omega) (by intros; omega) (by intros; omega) (by intro hv; unfold zsg at hv; omega) (by intro hv; unfold zsg at hv; omega)
        · refine ⟨fun c7 => ?_, fun c7 => ?_⟩
          · exact hQ _ (by intros; omega) (by intros; omega) (by intros; omega) (by intros; omega) (by intros; omega) (by intros; omega) (by intros; omega) (by intros; omega) (by intros; omega) (by intros; omega) (by intros; omega) (by intro hv; unfold zsg at hv; omega) (by intro hv; unfold zsg at hv; omega)
          · refine ⟨fun c6 => ?_, fun c6 => ?_⟩
            · exact hQ _ (by intros; omega) (by intros; omega) (by intros; omega) (by intros; omega) (by intros; omega) (by intros; omega) (by intros; omega) (by intros; omega) (by intros; omega) (by intros; omega) (by intros; omega) (by intro hv; unfold zsg at hv; omega) (by intro hv; unfold zsg at hv; omega)
            · refine ⟨fun c5 => ?_, fun c5 => ?_⟩
              · exact hQ _ (by intros; omega) (by intros; omega) (by intros; omega) (by intros; omega) (by intros; omega) (by intros; omega) (by intros; omega) (by intros; omega) (by intros; omega) (by intros; omega) (by intros; omega) (by intro hv; unfold zsg at hv; omega) (by intro hv; unfold zsg at hv; omega)
              · refine ⟨fun c4 => ?_, fun c4 => ?_⟩
                · exact hQ _ (by intros; omega) (by intros; omega) (by intros; omega) (by intros; omega) (by intros; omega) (by intros; omega) (by intros; omega) (by intros; omega) (by intros; omega) (by intros; omega) (by intros; omega) (by intro hv; unfold zsg at hv; omega) (by intro hv; unfold zsg at hv; omega)
                · refine ⟨fun c3 => ?_, fun c3 => ?_⟩
                  · exact hQ _ (by intros; omega) (by intros; omega) (by intros; omega) (by intros; omega) (by intros; omega) (by intros; omega) (by intros; omega) (by intros; omega) (by intros; omega) (by intros; omega) (by intros; omega) (by intro hv; unfold zsg at hv; omega) (by intro hv; unfold zsg at hv; omega)
                  · refine ⟨fun c2 => ?_, fun c2 => ?_⟩
                    · exact hQ _ (by intros; omega) (by intros; omega) (by intros; omega) (by intros; omega) (by intros; omega) (by intros; omega) (by intros; omega) (by intros; omega) (by intros; omega) (by intros; omega) (by intros; omega) (by intro hv; unfold zsg at hv; omega) (by intro hv; unfold zsg at hv; omega)
                    · exact hQ _ (by intros; omega) (by intros; omega) (by intros; omega) (by intros; omega) (by intros; omega) (by intros; omega) (by intros; omega) (by intros; omega) (by intros; omega) (by intros; omega) (by intros; omega) (by intro hv; unfold zsg at hv; omega) (by intro hv; unfold zsg at hv; omega)
