-- by program (wip/gen/mkz.py)
-- SpoutNewsModel.hearsOf(I)I
set_option maxRecDepth 100000 in
set_option maxHeartbeats 4000000 in
theorem k_M_hearsOf {l1 : Int} {g : zi_M} {Q : Int → zi_M → Prop} (I : zk_I g) (p1 : 0 ≤ l1 ∧ l1 ≤ 9) (hQ : ∀ (v : Int) (g' : zi_M), zk_I g' → zk_fr fr_M_hearsOf g g' → (0 ≤ v ∧ v ≤ 9) → (zLk g → ∀ T : Int, v = zLm (g) 0 l1 0 (zVM T g)) → Q v g') : w_M_hearsOf l1 g Q := by
  unfold w_M_hearsOf
  refine k_M_asks I ⟨by omega, by omega⟩ ⟨by omega, by omega⟩ (fun g2 I_2 F_3 b_1 => ?_)
  have F_4 : zk_fr fr_M_hearsOf g g2 := zk_ft (zk_f0 _) F_3 (fun a i => (fun h => (Or.inl h)))
  refine k_M_lawTells I_2 ⟨by omega, by omega⟩ ⟨by omega, by omega⟩ ⟨by omega, by omega⟩ (fun v4 g5 I_8 F_9 b_5 b_6 b_7 => ?_)
  have F_10 : zk_fr fr_M_hearsOf g g5 := zk_ft F_4 F_9 (fun a i => (fun h => (Or.inr h)))
  exact hQ _ _ I_8 F_10 ⟨by omega, by omega⟩ (by intro hk_ T; exact zLm_v (T := T) I (by assumption) ((by assumption : ∀ T n : Int, 0 ≤ n → n < 9 → _ = zfct _ _ _ (zVM T _) _ _ n) T) (by assumption) (rfl) rfl hk_)
-- SpoutNewsModel.has(II)Z
set_option maxRecDepth 100000 in
set_option maxHeartbeats 4000000 in
theorem k_M_has {l1 : Int} {l2 : Int} {g : zi_M} {Q : Int → zi_M → Prop} (I : zk_I g) (p1 : (-2147483648) ≤ l1 ∧ l1 ≤ 2147483647) (p2 : (-2147483648) ≤ l2 ∧ l2 ≤ 2147483647) (hQ : ∀ v : Int, (¬ (zi_and (zi_shr l1 l2) 1) = 1 → v = 0) → ((zi_and (zi_shr l1 l2) 1) = 1 → v = 1) → Q v g) : w_M_has l1 l2 g Q := by
  unfold w_M_has
  have m_1 := zi_r_shr l1 l2
  try have m_2 := (zi_shr_f l1 l2).2 ⟨by omega, by omega⟩
  have m_3 := zi_r_and (zi_shr l1 l2) 1
  try have m_4 := (zi_and_f (zi_shr l1 l2) 1).2.1 ⟨by omega, by omega⟩
  try have m_5 := (zi_and_f (zi_shr l1 l2) 1).2.2 ⟨by omega, by omega⟩
  refine ⟨fun c1 => ?_, fun c1 => ?_⟩
  · exact hQ _ (by intros; omega) (by intros; omega)
  · exact hQ _ (by intros; omega) (by intros; omega)
-- SpoutNewsModel.heardAt(II)I
set_option maxRecDepth 100000 in
set_option maxHeartbeats 4000000 in
theorem k_M_heardAt {l1 : Int} {l2 : Int} {g : zi_M} {Q : Int → zi_M → Prop} (I : zk_I g) (p1 : 0 ≤ l1 ∧ l1 ≤ 9) (p2 : 0 ≤ l2 ∧ l2 ≤ 19) (hQ : ∀ v : Int, (v = g 215 ((36 + (20 * l1)) + l2)) → Q v g) : w_M_heardAt l1 l2 g Q := by
  unfold w_M_heardAt
  refine ⟨⟨by omega, by omega⟩, ?_⟩
  have m_1 := zk_now36 I (i := ((36 + (20 * l1)) + l2)) (by omega)
  exact hQ _ (by intros; omega)
-- SpoutNewsModel.heardSet(I)I
set_option maxRecDepth 100000 in
set_option maxHeartbeats 4000000 in
theorem k_M_heardSet_l4 {g : zi_M} (I : zk_I g) {l1 : Int} {K34 : Int → zi_M → Prop} {Q : Int → zi_M → Prop} (q1 : 0 ≤ l1 ∧ l1 ≤ 9) (hK34 : ∀ (k2 : Int), (0 ≤ k2 ∧ k2 ≤ 65535) → (zMF g l1 k2) → K34 k2 g) (hQ : ∀ v : Int, (0 ≤ v ∧ v ≤ 65535) → (zMF g l1 v) → Q v g) : ∀ (n : Nat) {l2 : Int} {l3 : Int}, (0 ≤ l2 ∧ l2 ≤ 65535) → (0 ≤ l3 ∧ l3 ≤ 20) → (l3 ≤ g 215 (26 + l1)) → (zMS g l1 l3 l2) → 20 - l3 < (n : Int) → w_M_heardSet_l4 l1 K34 Q n l2 l3 g
  | 0, l2, l3, b0, b1, b2, b3, hm => by exfalso; omega
  | n + 1, l2, l3, b0, b1, b2, b3, hm => by
    unfold w_M_heardSet_l4
    refine ⟨⟨by omega, by omega⟩, ?_⟩
    have m_1 := zk_now26 I (i := (26 + l1)) (by omega)
    refine ⟨⟨by omega, by omega⟩, ⟨by omega, by omega⟩, ?_⟩
    refine ⟨fun c7 => ?_, fun c7 => ?_⟩
    · exact hK34 _ ⟨by omega, by omega⟩ (by exact zMS_x (by assumption) (by assumption) (by omega))
    · have m_3 := zk_now36 I (i := ((36 + (20 * l1)) + l3)) (by omega)
      refine k_M_heardAt I ⟨by omega, by omega⟩ ⟨by omega, by omega⟩ (fun v4 b_2 => ?_)
      have m_4 := zi_r_shl 1 v4
      try have m_5 := (zi_shl_f v4).2.1 ⟨by omega, by omega⟩
      first | have m_6 := (zi_shl_f v4).2.2.1 ⟨by omega, by omega⟩ | have m_7 := (zi_shl_f v4).2.2.2.1 ⟨by omega, by omega⟩ | have m_8 := (zi_shl_f v4).2.2.2.2.1 ⟨by omega, by omega⟩ | have m_9 := (zi_shl_f v4).2.2.2.2.2.1 ⟨by omega, by omega⟩ | have m_10 := (zi_shl_f v4).2.2.2.2.2.2 ⟨by omega, by omega⟩ | skip
      first | have m_11 := (zi_or_f l2 (zi_shl 1 v4)).2.1 ⟨by omega, by omega, by omega, by omega⟩ | have m_11 := (zi_or_f l2 (zi_shl 1 v4)).2.2.1 ⟨by omega, by omega, by omega, by omega⟩ | have m_11 := (zi_or_f l2 (zi_shl 1 v4)).2.2.2.1 ⟨by omega, by omega, by omega, by omega⟩ | have m_11 := (zi_or_f l2 (zi_shl 1 v4)).2.2.2.2.1 ⟨by omega, by omega, by omega, by omega⟩ | have m_11 := (zi_or_f l2 (zi_shl 1 v4)).2.2.2.2.2 ⟨by omega, by omega, by omega, by omega⟩ | have m_11 := zi_r_or l2 (zi_shl 1 v4)
      exact k_M_heardSet_l4 I q1 hK34 hQ n ⟨by omega, by omega⟩ ⟨by omega, by omega⟩ (by omega) (by first | exact zMS_0 | exact zMS_s (by assumption) (by assumption) (by assumption) (by omega) (by omega)) (by omega)
set_option maxRecDepth 100000 in
set_option maxHeartbeats 4000000 in
theorem k_M_heardSet {l1 : Int} {g : zi_M} {Q : Int → zi_M → Prop} (I : zk_I g) (p1 : 0 ≤ l1 ∧ l1 ≤ 9) (hQ : ∀ v : Int, (0 ≤ v ∧ v ≤ 65535) → (zMF g l1 v) → Q v g) : w_M_heardSet l1 g Q := by
  unfold w_M_heardSet
  have m_14 := zk_now26 I (i := (26 + l1)) (by omega)
  refine ⟨((20 - 0 : Int).toNat + 1), k_M_heardSet_l4 (l1 := l1) I ⟨by omega, by omega⟩ (fun k8 b_12 b_13 => ?_) hQ ((20 - 0 : Int).toNat + 1) ⟨by omega, by omega⟩ ⟨by omega, by omega⟩ (by omega) (by first | exact zMS_0 | exact zMS_s (by assumption) (by assumption) (by assumption) (by omega) (by omega)) (by omega)⟩
  exact hQ _ ⟨by omega, by omega⟩ (by assumption)
-- SpoutNewsModel.comesTo(II)Z
set_option maxRecDepth 100000 in
set_option maxHeartbeats 4000000 in
theorem k_M_comesTo {l1 : Int} {l2 : Int} {g : zi_M} {Q : Int → zi_M → Prop} (I : zk_I g) (p1 : 0 ≤ l1 ∧ l1 ≤ 9) (p2 : 0 ≤ l2 ∧ l2 ≤ 15) (hQ : ∀ (v : Int) (g' : zi_M), zk_I g' → zk_fr fr_M_comesTo g g' → (0 ≤ v ∧ v ≤ 1) → (zMk l1 l2 g g' v) → Q v g') : w_M_comesTo l1 l2 g Q := by
  unfold w_M_comesTo
  refine ⟨⟨by omega, by omega⟩, ?_⟩
  have m_1 := zk_now26 I (i := (26 + l1)) (by omega)
  refine ⟨⟨by omega, by omega⟩, ?_⟩
  refine ⟨fun c13 => ?_, fun c13 => ?_⟩
  · exact hQ _ _ I (zk_f0 _) ⟨by omega, by omega⟩ (by first | exact zMk_a (by assumption) (by assumption) | exact zMk_c (by assumption) (by assumption) (by assumption) | exact zMk_b (by assumption) (by assumption) (by assumption) (by assumption) (by assumption) (by assumption) (by assumption) (by assumption))
  · refine k_M_heardSet I ⟨by omega, by omega⟩ (fun v3 b_2 b_3 => ?_)
    have m_6 := zi_r_shr (v3) (l2)
    try have m_7 := (zi_shr_f (v3) (l2)).2 ⟨by omega, by omega⟩
    have m_8 := zi_r_and (zi_shr v3 l2) 1
    try have m_9 := (zi_and_f (zi_shr v3 l2) 1).2.1 ⟨by omega, by omega⟩
    try have m_10 := (zi_and_f (zi_shr v3 l2) 1).2.2 ⟨by omega, by omega⟩
    refine k_M_has I ⟨by omega, by omega⟩ ⟨by omega, by omega⟩ (fun v6 b_4 b_5 => ?_)
    refine ⟨fun c12 => ?_, fun c12 => ?_⟩
    · refine ⟨⟨by omega, by omega⟩, ?_⟩
      intro g10 e_11
      have I_12 : zk_I g10 := by rw [e_11]; exact zk_upd (zk_nl36 (i := (36 + (20 * l1)) + (g 215 (26 + l1))) (by omega)).1 (zk_nl36 (i := (36 + (20 * l1)) + (g 215 (26 + l1))) (by omega)).2 I ⟨by omega, by omega⟩
      have F_13 : zk_fr fr_M_comesTo g g10 := by rw [e_11]; exact zk_fu (zk_f0 _) (Or.inr ⟨rfl, by omega, by omega⟩)
      have m_17 := zk_now26 I_12 (i := (26 + l1)) (by omega)
      have m_18 : (26 + l1 = (36 + (20 * l1)) + (g 215 (26 + l1)) → g10 215 (26 + l1) = l2) ∧ (¬ 26 + l1 = (36 + (20 * l1)) + (g 215 (26 + l1)) → g10 215 (26 + l1) = g 215 (26 + l1)) := by rw [e_11]; exact zi_u_if
      intro g11 e_14
      have I_15 : zk_I g11 := by rw [e_14]; exact zk_upd (zk_nl26 (i := 26 + l1) (by omega)).1 (zk_nl26 (i := 26 + l1) (by omega)).2 I_12 ⟨by omega, by omega⟩
      have F_16 : zk_fr fr_M_comesTo g g11 := by rw [e_14]; exact zk_fu F_13 (Or.inl ⟨rfl, by omega, by omega⟩)
      exact hQ _ _ I_15 F_16 ⟨by omega, by omega⟩ (by first | exact zMk_a (by assumption) (by assumption) | exact zMk_c (by assumption) (by assumption) (by assumption) | exact zMk_b (by assumption) (by assumption) (by assumption) (by assumption) (by assumption) (by assumption) (by assumption) (by assumption))
    · exact hQ _ _ I (zk_f0 _) ⟨by omega, by omega⟩ (by first | exact zMk_a (by assumption) (by assumption) | exact zMk_c (by assumption) (by assumption) (by assumption) | exact zMk_b (by assumption) (by assumption) (by assumption) (by assumption) (by assumption) (by assumption) (by assumption) (by assumption))
-- SpoutNewsModel.notes(III)V
set_option maxRecDepth 100000 in
set_option maxHeartbeats 4000000 in
theorem k_M_notes {l1 : Int} {l2 : Int} {l3 : Int} {g : zi_M} {Q : Int → zi_M → Prop} (I : zk_I g) (p1 : 0 ≤ l1 ∧ l1 ≤ 2) (p2 : 0 ≤ l2 ∧ l2 ≤ 9) (p3 : 0 ≤ l3 ∧ l3 ≤ 15) (hQ : ∀ g' : zi_M, zk_I g' → zk_fr fr_M_notes g g' → (zMw l1 l2 l3 g g') → Q 0 g') : w_M_notes l1 l2 l3 g Q := by
  unfold w_M_notes
  have m_1 : 0 ≤ (g 214 5) ∧ (g 214 5) ≤ 1 := I.1 214 5
  refine ⟨⟨by omega, by omega⟩, ?_⟩
  refine ⟨fun c13 => ?_, fun c13 => ?_⟩
  · exact hQ _ I (zk_f0 _) (by first | exact zMw_a (by assumption) | exact zMw_b (by assumption) | exact zMw_c (by assumption) (by assumption) (by assumption) (by assumption) (by assumption) (by assumption) (by assumption) (by assumption))
  · have m_2 := zk_now2 I (i := 2) (by omega)
    refine ⟨⟨by omega, by omega⟩, ?_⟩
    refine ⟨fun c12 => ?_, fun c12 => ?_⟩
    · refine ⟨⟨by omega, by omega⟩, ?_⟩
      have m_6 := zk_rng I 215 0
      intro g4 e_3
      have I_4 : zk_I g4 := by rw [e_3]; exact zk_upd (L := (-2147483648)) (H := 2147483647) rfl rfl I ⟨by omega, by omega⟩
      have F_5 : zk_fr fr_M_notes g g4 := by rw [e_3]; exact zk_fu (zk_f0 _) (Or.inl rfl)
      refine ⟨⟨by omega, by omega⟩, ?_⟩
      intro g6 e_7
      have I_8 : zk_I g6 := by rw [e_7]; exact zk_upd (L := (-2147483648)) (H := 2147483647) rfl rfl I_4 ⟨by omega, by omega⟩
      have F_9 : zk_fr fr_M_notes g g6 := by rw [e_7]; exact zk_fu F_5 (Or.inl rfl)
      refine ⟨⟨by omega, by omega⟩, ?_⟩
      intro g8 e_10
      have I_11 : zk_I g8 := by rw [e_10]; exact zk_upd (L := (-2147483648)) (H := 2147483647) rfl rfl I_8 ⟨by omega, by omega⟩
      have F_12 : zk_fr fr_M_notes g g8 := by rw [e_10]; exact zk_fu F_9 (Or.inl rfl)
      refine ⟨⟨by omega, by omega⟩, ?_⟩
      intro g10 e_13
      have I_14 : zk_I g10 := by rw [e_13]; exact zk_upd (L := (-2147483648)) (H := 2147483647) rfl rfl I_11 ⟨by omega, by omega⟩
      have F_15 : zk_fr fr_M_notes g g10 := by rw [e_13]; exact zk_fu F_12 (Or.inl rfl)
      have m_19 := zk_now2 I_14 (i := 2) (by omega)
      have m_20 : g10 215 2 = g8 215 2 := by rw [e_13]; exact zi_u_ne (by decide)
      have m_21 := zk_now2 I_11 (i := 2) (by omega)
      have m_22 : g8 215 2 = g6 215 2 := by rw [e_10]; exact zi_u_ne (by decide)
      have m_23 := zk_now2 I_8 (i := 2) (by omega)
      have m_24 : g6 215 2 = g4 215 2 := by rw [e_7]; exact zi_u_ne (by decide)
      have m_25 := zk_now2 I_4 (i := 2) (by omega)
      have m_26 : g4 215 2 = g 215 2 := by rw [e_3]; exact zi_u_ne (by decide)
      intro g11 e_16
      have I_17 : zk_I g11 := by rw [e_16]; exact zk_upd (zk_nl2 (i := 2) (by omega)).1 (zk_nl2 (i := 2) (by omega)).2 I_14 ⟨by omega, by omega⟩
      have F_18 : zk_fr fr_M_notes g g11 := by rw [e_16]; exact zk_fu F_15 (Or.inr ⟨rfl, by omega, by omega⟩)
      exact hQ _ I_17 F_18 (by first | exact zMw_a (by assumption) | exact zMw_b (by assumption) | exact zMw_c (by assumption) (by assumption) (by assumption) (by assumption) (by assumption) (by assumption) (by assumption) (by assumption))
    · exact hQ _ I (zk_f0 _) (by first | exact zMw_a (by assumption) | exact zMw_b (by assumption) | exact zMw_c (by assumption) (by assumption) (by assumption) (by assumption) (by assumption) (by assumption) (by assumption) (by assumption))
-- SpoutNewsModel.hears(II)V
set_option maxRecDepth 100000 in
set_option maxHeartbeats 4000000 in
theorem k_M_hears_l12 {l1 : Int} {l2 : Int} {l3 : Int} {K77 : zi_M → Prop} {Q : Int → zi_M → Prop} {g0 : zi_M} (q1 : 0 ≤ l1 ∧ l1 ≤ 9) (q2 : 0 ≤ l2 ∧ l2 ≤ 7) (q3 : 0 ≤ l3 ∧ l3 ≤ 9) (hK77 : ∀ (g : zi_M), zk_I g → zk_fr fr_M_hears g0 g → (zLk g0 → zNF l1 l2 g0 g) → K77 g) (hQ : ∀ g' : zi_M, zk_I g' → zk_fr fr_M_hears g0 g' → (zLk g0 → zNF l1 l2 g0 g') → Q 0 g') : ∀ (n : Nat) {l4 : Int} {l5 : Int} {g : zi_M}, zk_I g → zk_fr fr_M_hears g0 g → (0 ≤ l4 ∧ l4 ≤ 9) → (0 ≤ l5 ∧ l5 ≤ 16) → (zLk g0 → zNI l1 l2 g0 g l3 l4 l5) → 16 - l5 < (n : Int) → w_M_hears_l12 l1 l2 l3 K77 Q n l4 l5 g
  | 0, l4, l5, g, I, F, b0, b1, b2, hm => by exfalso; omega
  | n + 1, l4, l5, g, I, F, b0, b1, b2, hm => by
    unfold w_M_hears_l12
    refine ⟨⟨by omega, by omega⟩, ?_⟩
    refine ⟨fun c20 => ?_, fun c20 => ?_⟩
    · exact hK77 _ I F (by first | exact zNI_x (by assumption) (Or.inl (by assumption)) | exact zNI_x (by assumption) (Or.inr (by assumption)))
    · refine ⟨⟨by omega, by omega⟩, ⟨by omega, by omega⟩, ?_⟩
      refine ⟨fun c19 => ?_, fun c19 => ?_⟩
      · exact hK77 _ I F (by first | exact zNI_x (by assumption) (Or.inl (by assumption)) | exact zNI_x (by assumption) (Or.inr (by assumption)))
      · refine ⟨⟨by omega, by omega⟩, ?_⟩
        have m_6 := zk_rng I 215 (236 + l2)
        have m_9 := zi_r_shr ((g 215 (236 + l2))) (l5)
        try have m_10 := (zi_shr_f ((g 215 (236 + l2))) (l5)).2 ⟨by omega, by omega⟩
        have m_11 := zi_r_and (zi_shr (g 215 (236 + l2)) l5) 1
        try have m_12 := (zi_and_f (zi_shr (g 215 (236 + l2)) l5) 1).2.1 ⟨by omega, by omega⟩
        try have m_13 := (zi_and_f (zi_shr (g 215 (236 + l2)) l5) 1).2.2 ⟨by omega, by omega⟩
        refine k_M_has I ⟨by omega, by omega⟩ ⟨by omega, by omega⟩ (fun v8 b_7 b_8 => ?_)
        refine ⟨fun c18 => ?_, fun c18 => ?_⟩
        · exact k_M_hears_l12 q1 q2 q3 hK77 hQ n I F ⟨by omega, by omega⟩ ⟨by omega, by omega⟩ (by first | exact zNI_0 (by assumption) (by assumption) | exact zNI_a (by assumption) (by assumption) (F 215 (236 + l2) (by unfold fr_M_hears; omega)) (by assumption) (by assumption) | exact zNI_b (by assumption) (by assumption) (by assumption) (by assumption) | exact zNI_c (by assumption) (by assumption) (by assumption) (F 215 (236 + l2) (by unfold fr_M_hears; omega)) (by assumption) (by assumption) (by assumption) (by assumption) (by assumption) ((by assumption : zk_fr fr_M_hears g0 _) 214 5 (by unfold fr_M_hears; omega))) (by omega)
        · refine k_M_comesTo I ⟨by omega, by omega⟩ ⟨by omega, by omega⟩ (fun v11 g12 I_16 F_17 b_14 b_15 => ?_)
          have F_18 : zk_fr fr_M_hears g0 g12 := zk_ft F F_17 (fun a i => (fun h => Or.elim h (fun h => (Or.inr (Or.inr (Or.inr (Or.inr (Or.inl h)))))) (fun h => (Or.inr (Or.inr (Or.inr (Or.inr (Or.inr h))))))))
          refine ⟨fun c17 => ?_, fun c17 => ?_⟩
          · refine k_M_notes I_16 ⟨by omega, by omega⟩ ⟨by omega, by omega⟩ ⟨by omega, by omega⟩ (fun g15 I_20 F_21 b_19 => ?_)
            have F_22 : zk_fr fr_M_hears g0 g15 := zk_ft F_18 F_21 (fun a i => (fun h => Or.elim h (fun h => (Or.inl h)) (fun h => (Or.inr (Or.inr (Or.inr (Or.inl h)))))))
            exact k_M_hears_l12 q1 q2 q3 hK77 hQ n I_20 F_22 ⟨by omega, by omega⟩ ⟨by omega, by omega⟩ (by first | exact zNI_0 (by assumption) (by assumption) | exact zNI_a (by assumption) (by assumption) (F 215 (236 + l2) (by unfold fr_M_hears; omega)) (by assumption) (by assumption) | exact zNI_b (by assumption) (by assumption) (by assumption) (by assumption) | exact zNI_c (by assumption) (by assumption) (by assumption) (F 215 (236 + l2) (by unfold fr_M_hears; omega)) (by assumption) (by assumption) (by assumption) (by assumption) (by assumption) ((by assumption : zk_fr fr_M_hears g0 _) 214 5 (by unfold fr_M_hears; omega))) (by omega)
          · exact k_M_hears_l12 q1 q2 q3 hK77 hQ n I_16 F_18 ⟨by omega, by omega⟩ ⟨by omega, by omega⟩ (by first | exact zNI_0 (by assumption) (by assumption) | exact zNI_a (by assumption) (by assumption) (F 215 (236 + l2) (by unfold fr_M_hears; omega)) (by assumption) (by assumption) | exact zNI_b (by assumption) (by assumption) (by assumption) (by assumption) | exact zNI_c (by assumption) (by assumption) (by assumption) (F 215 (236 + l2) (by unfold fr_M_hears; omega)) (by assumption) (by assumption) (by assumption) (by assumption) (by assumption) ((by assumption : zk_fr fr_M_hears g0 _) 214 5 (by unfold fr_M_hears; omega))) (by omega)
set_option maxRecDepth 100000 in
set_option maxHeartbeats 4000000 in
theorem k_M_hears {l1 : Int} {l2 : Int} {g : zi_M} {Q : Int → zi_M → Prop} (I : zk_I g) (p1 : 0 ≤ l1 ∧ l1 ≤ 9) (p2 : 0 ≤ l2 ∧ l2 ≤ 7) (hQ : ∀ g' : zi_M, zk_I g' → zk_fr fr_M_hears g g' → (zLk g → zNF l1 l2 g g') → Q 0 g') : w_M_hears l1 l2 g Q := by
  unfold w_M_hears
  refine k_M_hearsOf I ⟨by omega, by omega⟩ (fun v1 g2 I_3 F_4 b_1 b_2 => ?_)
  have F_5 : zk_fr fr_M_hears g g2 := zk_ft (zk_f0 _) F_4 (fun a i => (fun h => Or.elim h (fun h => (Or.inr (Or.inl h))) (fun h => (Or.inr (Or.inr (Or.inl h))))))
  refine ⟨((16 - 0 : Int).toNat + 1), k_M_hears_l12 (l1 := l1) (l2 := l2) (l3 := v1) ⟨by omega, by omega⟩ ⟨by omega, by omega⟩ ⟨by omega, by omega⟩ (fun g21 I_23 F_24 b_25 => ?_) hQ ((16 - 0 : Int).toNat + 1) I_3 F_5 ⟨by omega, by omega⟩ ⟨by omega, by omega⟩ (by first | exact zNI_0 (by assumption) (by assumption) | exact zNI_a (by assumption) (by assumption) (F 215 (236 + l2) (by unfold fr_M_hears; omega)) (by assumption) (by assumption) | exact zNI_b (by assumption) (by assumption) (by assumption) (by assumption) | exact zNI_c (by assumption) (by assumption) (by assumption) (F 215 (236 + l2) (by unfold fr_M_hears; omega)) (by assumption) (by assumption) (by assumption) (by assumption) (by assumption) ((by assumption : zk_fr fr_M_hears g0 _) 214 5 (by unfold fr_M_hears; omega))) (by omega)⟩
  exact hQ _ I_23 F_24 (by assumption)
-- SpoutNewsModel.lesser(II)I
set_option maxRecDepth 100000 in
set_option maxHeartbeats 4000000 in
theorem k_M_lesser {l1 : Int} {l2 : Int} {g : zi_M} {Q : Int → zi_M → Prop} (I : zk_I g) (p1 : (-2147483648) ≤ l1 ∧ l1 ≤ 2147483647) (p2 : (-2147483648) ≤ l2 ∧ l2 ≤ 2147483647) (hQ : ∀ v : Int, (l2 ≤ l1 → v = l2) → (l1 < l2 → v = l1) → Q v g) : w_M_lesser l1 l2 g Q := by
  unfold w_M_lesser
  refine ⟨⟨by omega, by omega⟩, ⟨by omega, by omega⟩, ?_⟩
  refine ⟨fun c3 => ?_, fun c3 => ?_⟩
  · exact hQ _ (by intros; omega) (by intros; omega)
  · exact hQ _ (by intros; omega) (by intros; omega)
-- SpoutNewsModel.isDry(I)V
set_option maxRecDepth 100000 in
set_option maxHeartbeats 4000000 in
theorem k_M_isDry_l2 {l1 : Int} {K51 : zi_M → Prop} {Q : Int → zi_M → Prop} {g0 : zi_M} (q1 : 0 ≤ l1 ∧ l1 ≤ 9) (hK51 : ∀ (g : zi_M), zk_I g → zk_fr fr_M_isDry g0 g → (zMB l1 g0 g) → K51 g) (hQ : ∀ g' : zi_M, zk_I g' → zk_fr fr_M_isDry g0 g' → (zMP l1 g0 g') → Q 0 g') : ∀ (n : Nat) {l2 : Int} {g : zi_M}, zk_I g → zk_fr fr_M_isDry g0 g → (0 ≤ l2 ∧ l2 ≤ 8) → (l2 ≤ g0 214 7) → (zMI l1 l2 g0 g) → 8 - l2 < (n : Int) → w_M_isDry_l2 l1 K51 Q n l2 g
  | 0, l2, g, I, F, b0, b1, b2, hm => by exfalso; omega
  | n + 1, l2, g, I, F, b0, b1, b2, hm => by
    unfold w_M_isDry_l2
    have m_1 : 0 ≤ (g 214 7) ∧ (g 214 7) ≤ 8 := I.1 214 7
    refine ⟨⟨by omega, by omega⟩, ⟨by omega, by omega⟩, ?_⟩
    refine ⟨fun c13 => ?_, fun c13 => ?_⟩
    · exact hK51 _ I F (by exact zMI_x b2 (by have hf := (zMfr_d F).2.2.2.1; omega))
    · refine ⟨⟨by omega, by omega⟩, ?_⟩
      have m_2 := zk_now6 I (i := (6 + l1)) (by omega)
      refine ⟨⟨by omega, by omega⟩, ?_⟩
      refine ⟨fun c12 => ?_, fun c12 => ?_⟩
      · exact k_M_isDry_l2 q1 hK51 hQ n I F ⟨by omega, by omega⟩ (by first | omega | (have hf := (zMfr_d F).2.2.2.1; omega) | (have hz := zk_r7 I; omega)) (by first | exact zMI_0 | exact zMI_l b2 ⟨by omega, by omega⟩ (by omega) (by assumption) | exact zMI_n b2 (by omega) (zMfr_d F) (by omega) (by have hz := zk_r7 I; omega) (by assumption) | exact zMI_n b2 (by omega) (zMfr_d F) (by omega) (by have hz := zk_r7 I; omega) (by omega) | exact zMI_y b2 ⟨by omega, by omega⟩ (by omega) (zMfr_d F) (by omega) (by have hz := zk_r7 I; omega) (by assumption) (by omega) (by assumption)) (by omega)
      · refine ⟨⟨by omega, by omega⟩, ?_⟩
        have m_3 := zk_now244 I (i := (244 + l2)) (by omega)
        refine ⟨⟨by omega, by omega⟩, ⟨by omega, by omega⟩, ?_⟩
        refine ⟨fun c11 => ?_, fun c11 => ?_⟩
        · exact k_M_isDry_l2 q1 hK51 hQ n I F ⟨by omega, by omega⟩ (by first | omega | (have hf := (zMfr_d F).2.2.2.1; omega) | (have hz := zk_r7 I; omega)) (by first | exact zMI_0 | exact zMI_l b2 ⟨by omega, by omega⟩ (by omega) (by assumption) | exact zMI_n b2 (by omega) (zMfr_d F) (by omega) (by have hz := zk_r7 I; omega) (by assumption) | exact zMI_n b2 (by omega) (zMfr_d F) (by omega) (by have hz := zk_r7 I; omega) (by omega) | exact zMI_y b2 ⟨by omega, by omega⟩ (by omega) (zMfr_d F) (by omega) (by have hz := zk_r7 I; omega) (by assumption) (by omega) (by assumption)) (by omega)
        · refine k_M_hears I ⟨by omega, by omega⟩ ⟨by omega, by omega⟩ (fun g9 I_5 F_6 b_4 => ?_)
          have F_7 : zk_fr fr_M_isDry g0 g9 := zk_ft F F_6 (fun a i => (fun h => Or.elim h (fun h => (Or.inl h)) (fun h => Or.elim h (fun h => (Or.inr (Or.inl h))) (fun h => Or.elim h (fun h => (Or.inr (Or.inr (Or.inl h)))) (fun h => Or.elim h (fun h => (Or.inr (Or.inr (Or.inr (Or.inr (Or.inl h)))))) (fun h => Or.elim h (fun h => (Or.inr (Or.inr (Or.inr (Or.inr (Or.inr (Or.inl h))))))) (fun h => (Or.inr (Or.inr (Or.inr (Or.inr (Or.inr (Or.inr h)))))))))))))
          exact k_M_isDry_l2 q1 hK51 hQ n I_5 F_7 ⟨by omega, by omega⟩ (by first | omega | (have hf := (zMfr_d F).2.2.2.1; omega) | (have hz := zk_r7 I; omega)) (by first | exact zMI_0 | exact zMI_l b2 ⟨by omega, by omega⟩ (by omega) (by assumption) | exact zMI_n b2 (by omega) (zMfr_d F) (by omega) (by have hz := zk_r7 I; omega) (by assumption) | exact zMI_n b2 (by omega) (zMfr_d F) (by omega) (by have hz := zk_r7 I; omega) (by omega) | exact zMI_y b2 ⟨by omega, by omega⟩ (by omega) (zMfr_d F) (by omega) (by have hz := zk_r7 I; omega) (by assumption) (by omega) (by assumption)) (by omega)
set_option maxRecDepth 100000 in
set_option maxHeartbeats 4000000 in
theorem k_M_isDry {l1 : Int} {g : zi_M} {Q : Int → zi_M → Prop} (I : zk_I g) (p1 : 0 ≤ l1 ∧ l1 ≤ 9) (hQ : ∀ g' : zi_M, zk_I g' → zk_fr fr_M_isDry g g' → (zMP l1 g g') → Q 0 g') : w_M_isDry l1 g Q := by
  unfold w_M_isDry
  refine ⟨((8 - 0 : Int).toNat + 1), k_M_isDry_l2 (l1 := l1) ⟨by omega, by omega⟩ (fun g14 I_8 F_9 b_10 => ?_) hQ ((8 - 0 : Int).toNat + 1) I (zk_f0 _) ⟨by omega, by omega⟩ (by first | omega | (have hf := (zMfr_d F).2.2.2.1; omega) | (have hz := zk_r7 I; omega)) (by first | exact zMI_0 | exact zMI_l b2 ⟨by omega, by omega⟩ (by omega) (by assumption) | exact zMI_n b2 (by omega) (zMfr_d F) (by omega) (by have hz := zk_r7 I; omega) (by assumption) | exact zMI_n b2 (by omega) (zMfr_d F) (by omega) (by have hz := zk_r7 I; omega) (by omega) | exact zMI_y b2 ⟨by omega, by omega⟩ (by omega) (zMfr_d F) (by omega) (by have hz := zk_r7 I; omega) (by assumption) (by omega) (by assumption)) (by omega)⟩
  refine ⟨⟨by omega, by omega⟩, ?_⟩
  have m_11 := zk_now16 I_8 (i := (16 + l1)) (by omega)
  refine k_M_lesser I_8 ⟨by omega, by omega⟩ ⟨by omega, by omega⟩ (fun v16 b_12 b_13 => ?_)
  intro g19 e_14
  have I_15 : zk_I g19 := by rw [e_14]; exact zk_upd (zk_nl16 (i := 16 + l1) (by omega)).1 (zk_nl16 (i := 16 + l1) (by omega)).2 I_8 ⟨by omega, by omega⟩
  have F_16 : zk_fr fr_M_isDry g g19 := by rw [e_14]; exact zk_fu F_9 (Or.inr (Or.inr (Or.inr (Or.inl ⟨rfl, by omega, by omega⟩))))
  exact hQ _ I_15 F_16 (by exact zMP_of (by assumption) ⟨by omega, by omega⟩ (by assumption) (by omega))
-- SpoutNewsModel.canSay(I)Z
set_option maxRecDepth 100000 in
set_option maxHeartbeats 4000000 in
theorem k_M_canSay {l1 : Int} {g : zi_M} {Q : Int → zi_M → Prop} (I : zk_I g) (p1 : 0 ≤ l1 ∧ l1 ≤ 9) (hQ : ∀ v : Int, ((g 215 (6 + l1)) = 0 → v = 1) → (¬ (g 215 (6 + l1)) = 0 → ¬ (g 215 (6 + l1)) = 1 → v = 0) → (¬ (g 215 (6 + l1)) = 0 → (g 215 (6 + l1)) = 1 → (g 215 3) < 5 → v = 0) → (¬ (g 215 (6 + l1)) = 0 → (g 215 (6 + l1)) = 1 → 5 ≤ (g 215 3) → v = 1) → Q v g) : w_M_canSay l1 g Q := by
  unfold w_M_canSay
  refine ⟨⟨by omega, by omega⟩, ?_⟩
  have m_1 := zk_now6 I (i := (6 + l1)) (by omega)
  refine ⟨⟨by omega, by omega⟩, ?_⟩
  refine ⟨fun c6 => ?_, fun c6 => ?_⟩
  · have m_2 := zk_rng I 215 3
    exact hQ _ (by intros; omega) (by intros; omega) (by intros; omega) (by intros; omega)
  · refine ⟨fun c5 => ?_, fun c5 => ?_⟩
    · have m_3 := zk_rng I 215 3
      exact hQ _ (by intros; omega) (by intros; omega) (by intros; omega) (by intros; omega)
    · have m_4 := zk_rng I 215 3
      refine ⟨⟨by omega, by omega⟩, ?_⟩
      refine ⟨fun c4 => ?_, fun c4 => ?_⟩
      · exact hQ _ (by intros; omega) (by intros; omega) (by intros; omega) (by intros; omega)
      · exact hQ _ (by intros; omega) (by intros; omega) (by intros; omega) (by intros; omega)
-- SpoutNewsModel.slipOf(II)I
set_option maxRecDepth 100000 in
set_option maxHeartbeats 4000000 in
theorem k_M_slipOf {l1 : Int} {l2 : Int} {g : zi_M} {Q : Int → zi_M → Prop} (I : zk_I g) (p1 : 0 ≤ l1 ∧ l1 ≤ 9) (p2 : 0 ≤ l2 ∧ l2 ≤ 15) (hQ : ∀ (v : Int) (g' : zi_M), zk_I g' → zk_fr fr_M_slipOf g g' → (0 ≤ v ∧ v ≤ 1000) → (zLk g → ∀ T : Int, v = zLm (g) 2 l1 l2 (zVM T g)) → Q v g') : w_M_slipOf l1 l2 g Q := by
  unfold w_M_slipOf
  refine k_M_asks I ⟨by omega, by omega⟩ ⟨by omega, by omega⟩ (fun g2 I_2 F_3 b_1 => ?_)
  have F_4 : zk_fr fr_M_slipOf g g2 := zk_ft (zk_f0 _) F_3 (fun a i => (fun h => (Or.inl h)))
  have m_5 := zk_rng I_2 215 3
  have m_6 : g2 215 3 = g 215 3 := F_3 _ _ (by unfold fr_M_asks; omega)
  have m_7 := zk_rng I 215 3
  have m_8 := zi_r_w (20 * (g2 215 3))
  refine k_M_lawTells I_2 ⟨by omega, by omega⟩ ⟨by omega, by omega⟩ ⟨by omega, by omega⟩ (fun v4 g5 I_12 F_13 b_9 b_10 b_11 => ?_)
  have F_14 : zk_fr fr_M_slipOf g g5 := zk_ft F_4 F_13 (fun a i => (fun h => (Or.inr h)))
  exact hQ _ _ I_12 F_14 ⟨by omega, by omega⟩ (by intro hk_ T; exact zLm_v (T := T) I (by assumption) ((by assumption : ∀ T n : Int, 0 ≤ n → n < 9 → _ = zfct _ _ _ (zVM T _) _ _ n) T) (by assumption) (by rw [if_neg (by decide), if_neg (by decide), zVM_r ⟨by decide, by decide⟩ (by omega)]; exact congrArg (fun x => zi_w (20 * x)) (zMr_3 (by assumption))) rfl hk_)
