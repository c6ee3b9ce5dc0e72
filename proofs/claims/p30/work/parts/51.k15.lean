-- by program (wip/gen/mkz.py)
-- SpoutNewsModel.shareOf(II)I
set_option maxRecDepth 100000 in
set_option maxHeartbeats 400000 in
theorem k_M_shareOf {l1 : Int} {l2 : Int} {g : zi_M} {Q : Int → zi_M → Prop} (I : zk_I g) (hQ : ∀ v : Int, Q v g) : w_M_shareOf l1 l2 g Q := by
  sorry
-- SpoutNewsModel.surmised(III)I
set_option maxRecDepth 100000 in
set_option maxHeartbeats 400000 in
theorem k_M_surmised {l1 : Int} {l2 : Int} {l3 : Int} {g : zi_M} {Q : Int → zi_M → Prop} (I : zk_I g) (p2 : 4 ≤ l2 ∧ l2 ≤ 6) (p3 : 4 ≤ l3 ∧ l3 ≤ 6) (hQ : ∀ v : Int, Q v g) : w_M_surmised l1 l2 l3 g Q := by
  unfold w_M_surmised
  refine k_M_shareOf I (fun v1 => ?_)
  exact hQ _
-- SpoutNewsModel.surmise(III)I
def fr_M_surmise (a : Nat) (i : Int) : Prop := (a = 214 ∧ i = 0)
set_option maxRecDepth 100000 in
set_option maxHeartbeats 400000 in
theorem k_M_surmise {l1 : Int} {l2 : Int} {l3 : Int} {g : zi_M} {Q : Int → zi_M → Prop} (I : zk_I g) (p1 : (-2147483648) ≤ l1 ∧ l1 ≤ 2147483647) (p2 : (-2147483648) ≤ l2 ∧ l2 ≤ 2147483647) (p3 : (-2147483648) ≤ l3 ∧ l3 ≤ 2147483647) (hQ : ∀ (v : Int) (g' : zi_M), zk_I g' → zk_fr fr_M_surmise g g' → Q v g') : w_M_surmise l1 l2 l3 g Q := by
  sorry
-- SpoutNews.drought(I)I
def fr_S_drought (a : Nat) (i : Int) : Prop := a = 44 ∨ (a = 36 ∧ i = 10)
set_option maxRecDepth 100000 in
set_option maxHeartbeats 400000 in
theorem k_S_drought {l1 : Int} {g : zi_M} {Q : Int → zi_M → Prop} (I : zk_I g) (p1 : (-2147483648) ≤ l1 ∧ l1 ≤ 2147483647) (hQ : ∀ (v : Int) (g' : zi_M), zk_I g' → zk_fr fr_S_drought g g' → ((-1) ≤ v ∧ v ≤ 40) → Q v g') : w_S_drought l1 g Q := by
  unfold w_S_drought
  refine ⟨⟨by omega, by omega⟩, ?_⟩
  refine ⟨fun c10 => ?_, fun c10 => ?_⟩
  · refine ⟨fun c8 => ?_, fun c8 => ?_⟩
    · exact hQ _ _ I (zk_f0 _) ⟨by omega, by omega⟩
    · refine ⟨fun c7 => ?_, fun c7 => ?_⟩
      · exact hQ _ _ I (zk_f0 _) ⟨by omega, by omega⟩
      · have m_1 : 0 ≤ (g 36 10) ∧ (g 36 10) ≤ 40 := I 36 10
        refine ⟨⟨by omega, by omega⟩, ?_⟩
        refine ⟨fun c6 => ?_, fun c6 => ?_⟩
        · refine ⟨⟨by omega, by omega⟩, ?_⟩
          intro g4 e_2
          have I_3 : zk_I g4 := by rw [e_2]; exact zk_upd (L := 0) (H := 9) rfl rfl I ⟨by omega, by omega⟩
          have F_4 : zk_fr fr_S_drought g g4 := by rw [e_2]; exact zk_fu (zk_f0 _) (Or.inl rfl)
          have m_8 : 0 ≤ (g4 36 10) ∧ (g4 36 10) ≤ 40 := I_3 36 10
          have m_9 : g4 36 10 = g 36 10 := by rw [e_2]; exact zi_u_ne (by decide)
          intro g5 e_5
          have I_6 : zk_I g5 := by rw [e_5]; exact zk_upd (L := 0) (H := 40) rfl rfl I_3 ⟨by omega, by omega⟩
          have F_7 : zk_fr fr_S_drought g g5 := by rw [e_5]; exact zk_fu F_4 (Or.inr ⟨rfl, rfl⟩)
          have m_10 : 0 ≤ (g5 36 10) ∧ (g5 36 10) ≤ 40 := I_6 36 10
          have m_11 : g5 36 10 = (g4 36 10) + 1 := by rw [e_5]; exact zi_u_eq
          exact hQ _ _ I_6 F_7 ⟨by omega, by omega⟩
        · exact hQ _ _ I (zk_f0 _) ⟨by omega, by omega⟩
  · intro g9 e_12
    have I_13 : zk_I g9 := by rw [e_12]; exact zk_upd (L := 0) (H := 40) rfl rfl I ⟨by omega, by omega⟩
    have F_14 : zk_fr fr_S_drought g g9 := by rw [e_12]; exact zk_fu (zk_f0 _) (Or.inr ⟨rfl, rfl⟩)
    exact hQ _ _ I_13 F_14 ⟨by omega, by omega⟩
-- SpoutNewsModel.drought(I)I
def fr_M_drought (a : Nat) (i : Int) : Prop := a = 247 ∨ (a = 214 ∧ i = 0) ∨ (a = 214 ∧ i = 56)
set_option maxRecDepth 100000 in
set_option maxHeartbeats 400000 in
theorem k_M_drought {l1 : Int} {g : zi_M} {Q : Int → zi_M → Prop} (I : zk_I g) (p1 : (-2147483648) ≤ l1 ∧ l1 ≤ 2147483647) (hQ : ∀ (v : Int) (g' : zi_M), zk_I g' → zk_fr fr_M_drought g g' → ((-1) ≤ v ∧ v ≤ 40) → Q v g') : w_M_drought l1 g Q := by
  unfold w_M_drought
  intro g1 e_1
  have I_2 : zk_I g1 := by rw [e_1]; exact zk_upd (L := (-2147483648)) (H := 2147483647) rfl rfl I ⟨by omega, by omega⟩
  have F_3 : zk_fr fr_M_drought g g1 := by rw [e_1]; exact zk_fu (zk_f0 _) (Or.inr (Or.inl ⟨rfl, rfl⟩))
  refine ⟨⟨by omega, by omega⟩, ?_⟩
  refine ⟨fun c13 => ?_, fun c13 => ?_⟩
  · refine k_M_isIn I_2 ⟨by omega, by omega⟩ ⟨by omega, by omega⟩ ⟨by omega, by omega⟩ (fun v3 b_4 b_5 b_6 => ?_)
    refine ⟨fun c11 => ?_, fun c11 => ?_⟩
    · exact hQ _ _ I_2 F_3 ⟨by omega, by omega⟩
    · have m_7 : 0 ≤ (g1 214 56) ∧ (g1 214 56) ≤ 40 := I_2 214 56
      have m_8 : g1 214 56 = g 214 56 := by rw [e_1]; exact zi_u_ni (by decide)
      have m_9 : 0 ≤ (g 214 56) ∧ (g 214 56) ≤ 40 := I 214 56
      refine ⟨⟨by omega, by omega⟩, ?_⟩
      refine ⟨fun c10 => ?_, fun c10 => ?_⟩
      · refine ⟨⟨by omega, by omega⟩, ?_⟩
        intro g8 e_10
        have I_11 : zk_I g8 := by rw [e_10]; exact zk_upd (L := 0) (H := 9) rfl rfl I_2 ⟨by omega, by omega⟩
        have F_12 : zk_fr fr_M_drought g g8 := by rw [e_10]; exact zk_fu F_3 (Or.inl rfl)
        have m_16 : 0 ≤ (g8 214 56) ∧ (g8 214 56) ≤ 40 := I_11 214 56
        have m_17 : g8 214 56 = g1 214 56 := by rw [e_10]; exact zi_u_ne (by decide)
        intro g9 e_13
        have I_14 : zk_I g9 := by rw [e_13]; exact zk_upd (L := 0) (H := 40) rfl rfl I_11 ⟨by omega, by omega⟩
        have F_15 : zk_fr fr_M_drought g g9 := by rw [e_13]; exact zk_fu F_12 (Or.inr (Or.inr ⟨rfl, rfl⟩))
        have m_18 : 0 ≤ (g9 214 56) ∧ (g9 214 56) ≤ 40 := I_14 214 56
        have m_19 : g9 214 56 = (g8 214 56) + 1 := by rw [e_13]; exact zi_u_eq
        exact hQ _ _ I_14 F_15 ⟨by omega, by omega⟩
      · exact hQ _ _ I_2 F_3 ⟨by omega, by omega⟩
  · intro g12 e_20
    have I_21 : zk_I g12 := by rw [e_20]; exact zk_upd (L := 0) (H := 40) rfl rfl I_2 ⟨by omega, by omega⟩
    have F_22 : zk_fr fr_M_drought g g12 := by rw [e_20]; exact zk_fu F_3 (Or.inr (Or.inr ⟨rfl, rfl⟩))
    exact hQ _ _ I_21 F_22 ⟨by omega, by omega⟩
-- SpoutNews$Told.longestRunBegins()I
set_option maxRecDepth 100000 in
set_option maxHeartbeats 400000 in
theorem k_Told_longestRunBegins {g : zi_M} {Q : Int → zi_M → Prop} (I : zk_I g) (hQ : ∀ v : Int, (v ≤ 39) → Q v g) : w_Told_longestRunBegins g Q := by
  sorry
-- SpoutNews$Told.longestRun()I
set_option maxRecDepth 100000 in
set_option maxHeartbeats 400000 in
theorem k_Told_longestRun {g : zi_M} {Q : Int → zi_M → Prop} (I : zk_I g) (hQ : ∀ v : Int, (0 ≤ v) → Q v g) : w_Told_longestRun g Q := by
  sorry
-- SpoutNews.longest(I)I
set_option maxRecDepth 100000 in
set_option maxHeartbeats 400000 in
theorem k_S_longest {l1 : Int} {g : zi_M} {Q : Int → zi_M → Prop} (I : zk_I g) (p1 : (-2147483648) ≤ l1 ∧ l1 ≤ 2147483647) (hQ : ∀ v : Int, Q v g) : w_S_longest l1 g Q := by
  unfold w_S_longest
  refine ⟨⟨by omega, by omega⟩, ?_⟩
  refine ⟨fun c2_0 c2_1 => ?_, fun c2 => ?_, fun c2 => ?_⟩
  · exact hQ _
  · refine k_Told_longestRun I (fun v3 b_1 => ?_)
    exact hQ _
  · refine k_Told_longestRunBegins I (fun v6 b_2 => ?_)
    exact hQ _
-- SpoutNewsModel.longest(I)I
def fr_M_longest (a : Nat) (i : Int) : Prop := (a = 214 ∧ i = 0)
set_option maxRecDepth 100000 in
set_option maxHeartbeats 400000 in
theorem k_M_longest {l1 : Int} {g : zi_M} {Q : Int → zi_M → Prop} (I : zk_I g) (p1 : (-2147483648) ≤ l1 ∧ l1 ≤ 2147483647) (hQ : ∀ (v : Int) (g' : zi_M), zk_I g' → zk_fr fr_M_longest g g' → Q v g') : w_M_longest l1 g Q := by
  sorry
-- SpoutNews$Thought.centuries(LSpoutNews$World;I)I
set_option maxRecDepth 100000 in
set_option maxHeartbeats 400000 in
theorem k_Thought_centuries {l1 : Int} {g : zi_M} {Q : Int → zi_M → Prop} (I : zk_I g) (p1 : 1 ≤ l1 ∧ l1 ≤ 99) (hQ : ∀ v : Int, (0 ≤ v) → Q v g) : w_Thought_centuries l1 g Q := by
  sorry
-- SpoutNews.leans(I)I
set_option maxRecDepth 100000 in
set_option maxHeartbeats 400000 in
theorem k_S_leans {l1 : Int} {g : zi_M} {Q : Int → zi_M → Prop} (I : zk_I g) (p1 : (-2147483648) ≤ l1 ∧ l1 ≤ 2147483647) (hQ : ∀ v : Int, ((-1) ≤ v) → Q v g) : w_S_leans l1 g Q := by
  unfold w_S_leans
  refine ⟨⟨by omega, by omega⟩, ?_⟩
  refine ⟨fun c6 => ?_, fun c6 => ?_⟩
  · exact hQ _ (by omega)
  · refine ⟨fun c5 => ?_, fun c5 => ?_⟩
    · refine k_Thought_centuries I ⟨by omega, by omega⟩ (fun v2 b_1 => ?_)
      exact hQ _ (by omega)
    · exact hQ _ (by omega)
-- SpoutNewsModel.leansFrom(II)I
set_option maxRecDepth 100000 in
set_option maxHeartbeats 400000 in
theorem k_M_leansFrom_l5 {g : zi_M} (I : zk_I g) {l2 : Int} {K30 : Int → zi_M → Prop} {Q : Int → zi_M → Prop} (q2 : 1 ≤ l2 ∧ l2 ≤ 99) (hK30 : ∀ (k3 : Int), (0 ≤ k3) → K30 k3 g) (hQ : ∀ v : Int, (0 ≤ v) → Q v g) : ∀ (n : Nat) {l3 : Int} {l4 : Int}, (0 ≤ l3) → (0 ≤ l4 ∧ l4 ≤ 108) → max (l2 - l4) 0 < (n : Int) → w_M_leansFrom_l5 l2 K30 Q n l3 l4 g
  | 0, l3, l4, b0, b1, hm => by exfalso; omega
  | n + 1, l3, l4, b0, b1, hm => by
    unfold w_M_leansFrom_l5
    refine ⟨⟨by omega, by omega⟩, ⟨by omega, by omega⟩, ?_⟩
    refine ⟨fun c3 => ?_, fun c3 => ?_⟩
    · exact hK30 _ (by omega)
    · have m_1 := zi_tdiv_f l4 10
      have m_2 := zi_tdiv_c l4 10 (by decide)
      exact k_M_leansFrom_l5 I q2 hK30 hQ n (by omega) ⟨by omega, by omega⟩ (by omega)
set_option maxRecDepth 100000 in
set_option maxHeartbeats 400000 in
theorem k_M_leansFrom {l1 : Int} {l2 : Int} {g : zi_M} {Q : Int → zi_M → Prop} (I : zk_I g) (p1 : 0 ≤ l1 ∧ l1 ≤ 99) (p2 : 1 ≤ l2 ∧ l2 ≤ 99) (hQ : ∀ v : Int, (0 ≤ v) → Q v g) : w_M_leansFrom l1 l2 g Q := by
  unfold w_M_leansFrom
  refine ⟨((max (l2 - l1) 0 : Int).toNat + 1), k_M_leansFrom_l5 (l2 := l2) I ⟨by omega, by omega⟩ (fun k4 b_3 => ?_) hQ ((max (l2 - l1) 0 : Int).toNat + 1) (by omega) ⟨by omega, by omega⟩ (by omega)⟩
  exact hQ _ (by omega)
-- SpoutNewsModel.leans(I)I
def fr_M_leans (a : Nat) (i : Int) : Prop := (a = 214 ∧ i = 0)
set_option maxRecDepth 100000 in
set_option maxHeartbeats 400000 in
theorem k_M_leans {l1 : Int} {g : zi_M} {Q : Int → zi_M → Prop} (I : zk_I g) (p1 : (-2147483648) ≤ l1 ∧ l1 ≤ 2147483647) (hQ : ∀ (v : Int) (g' : zi_M), zk_I g' → zk_fr fr_M_leans g g' → ((-2147483648) ≤ v ∧ v ≤ 2147483647) → Q v g') : w_M_leans l1 g Q := by
  sorry
-- SpoutNews.chapter(I)I
def fr_S_chapter (a : Nat) (i : Int) : Prop := a = 45 ∨ (a = 36 ∧ i = 12)
set_option maxRecDepth 100000 in
set_option maxHeartbeats 400000 in
theorem k_S_chapter {l1 : Int} {g : zi_M} {Q : Int → zi_M → Prop} (I : zk_I g) (p1 : (-2147483648) ≤ l1 ∧ l1 ≤ 2147483647) (hQ : ∀ (v : Int) (g' : zi_M), zk_I g' → zk_fr fr_S_chapter g g' → ((-1) ≤ v ∧ v ≤ 12) → Q v g') : w_S_chapter l1 g Q := by
  unfold w_S_chapter
  refine ⟨⟨by omega, by omega⟩, ?_⟩
  refine ⟨fun c10 => ?_, fun c10 => ?_⟩
  · refine ⟨fun c8 => ?_, fun c8 => ?_⟩
    · exact hQ _ _ I (zk_f0 _) ⟨by omega, by omega⟩
    · refine ⟨fun c7 => ?_, fun c7 => ?_⟩
      · exact hQ _ _ I (zk_f0 _) ⟨by omega, by omega⟩
      · have m_1 : 0 ≤ (g 36 12) ∧ (g 36 12) ≤ 12 := I 36 12
        refine ⟨⟨by omega, by omega⟩, ?_⟩
        refine ⟨fun c6 => ?_, fun c6 => ?_⟩
        · refine ⟨⟨by omega, by omega⟩, ?_⟩
          intro g4 e_2
          have I_3 : zk_I g4 := by rw [e_2]; exact zk_upd (L := 0) (H := 60) rfl rfl I ⟨by omega, by omega⟩
          have F_4 : zk_fr fr_S_chapter g g4 := by rw [e_2]; exact zk_fu (zk_f0 _) (Or.inl rfl)
          have m_8 : 0 ≤ (g4 36 12) ∧ (g4 36 12) ≤ 12 := I_3 36 12
          have m_9 : g4 36 12 = g 36 12 := by rw [e_2]; exact zi_u_ne (by decide)
          intro g5 e_5
          have I_6 : zk_I g5 := by rw [e_5]; exact zk_upd (L := 0) (H := 12) rfl rfl I_3 ⟨by omega, by omega⟩
          have F_7 : zk_fr fr_S_chapter g g5 := by rw [e_5]; exact zk_fu F_4 (Or.inr ⟨rfl, rfl⟩)
          have m_10 : 0 ≤ (g5 36 12) ∧ (g5 36 12) ≤ 12 := I_6 36 12
          have m_11 : g5 36 12 = (g4 36 12) + 1 := by rw [e_5]; exact zi_u_eq
          exact hQ _ _ I_6 F_7 ⟨by omega, by omega⟩
        · exact hQ _ _ I (zk_f0 _) ⟨by omega, by omega⟩
  · intro g9 e_12
    have I_13 : zk_I g9 := by rw [e_12]; exact zk_upd (L := 0) (H := 12) rfl rfl I ⟨by omega, by omega⟩
    have F_14 : zk_fr fr_S_chapter g g9 := by rw [e_12]; exact zk_fu (zk_f0 _) (Or.inr ⟨rfl, rfl⟩)
    exact hQ _ _ I_13 F_14 ⟨by omega, by omega⟩
-- SpoutNewsModel.chapter(I)I
def fr_M_chapter (a : Nat) (i : Int) : Prop := a = 248 ∨ (a = 214 ∧ i = 0) ∨ (a = 214 ∧ i = 58)
set_option maxRecDepth 100000 in
set_option maxHeartbeats 400000 in
theorem k_M_chapter {l1 : Int} {g : zi_M} {Q : Int → zi_M → Prop} (I : zk_I g) (p1 : (-2147483648) ≤ l1 ∧ l1 ≤ 2147483647) (hQ : ∀ (v : Int) (g' : zi_M), zk_I g' → zk_fr fr_M_chapter g g' → ((-1) ≤ v ∧ v ≤ 12) → Q v g') : w_M_chapter l1 g Q := by
  unfold w_M_chapter
  intro g1 e_1
  have I_2 : zk_I g1 := by rw [e_1]; exact zk_upd (L := (-2147483648)) (H := 2147483647) rfl rfl I ⟨by omega, by omega⟩
  have F_3 : zk_fr fr_M_chapter g g1 := by rw [e_1]; exact zk_fu (zk_f0 _) (Or.inr (Or.inl ⟨rfl, rfl⟩))
  refine ⟨⟨by omega, by omega⟩, ?_⟩
  refine ⟨fun c13 => ?_, fun c13 => ?_⟩
  · refine k_M_isIn I_2 ⟨by omega, by omega⟩ ⟨by omega, by omega⟩ ⟨by omega, by omega⟩ (fun v3 b_4 b_5 b_6 => ?_)
    refine ⟨fun c11 => ?_, fun c11 => ?_⟩
    · exact hQ _ _ I_2 F_3 ⟨by omega, by omega⟩
    · have m_7 : 0 ≤ (g1 214 58) ∧ (g1 214 58) ≤ 12 := I_2 214 58
      have m_8 : g1 214 58 = g 214 58 := by rw [e_1]; exact zi_u_ni (by decide)
      have m_9 : 0 ≤ (g 214 58) ∧ (g 214 58) ≤ 12 := I 214 58
      refine ⟨⟨by omega, by omega⟩, ?_⟩
      refine ⟨fun c10 => ?_, fun c10 => ?_⟩
      · refine ⟨⟨by omega, by omega⟩, ?_⟩
        intro g8 e_10
        have I_11 : zk_I g8 := by rw [e_10]; exact zk_upd (L := 0) (H := 60) rfl rfl I_2 ⟨by omega, by omega⟩
        have F_12 : zk_fr fr_M_chapter g g8 := by rw [e_10]; exact zk_fu F_3 (Or.inl rfl)
        have m_16 : 0 ≤ (g8 214 58) ∧ (g8 214 58) ≤ 12 := I_11 214 58
        have m_17 : g8 214 58 = g1 214 58 := by rw [e_10]; exact zi_u_ne (by decide)
        intro g9 e_13
        have I_14 : zk_I g9 := by rw [e_13]; exact zk_upd (L := 0) (H := 12) rfl rfl I_11 ⟨by omega, by omega⟩
        have F_15 : zk_fr fr_M_chapter g g9 := by rw [e_13]; exact zk_fu F_12 (Or.inr (Or.inr ⟨rfl, rfl⟩))
        have m_18 : 0 ≤ (g9 214 58) ∧ (g9 214 58) ≤ 12 := I_14 214 58
        have m_19 : g9 214 58 = (g8 214 58) + 1 := by rw [e_13]; exact zi_u_eq
        exact hQ _ _ I_14 F_15 ⟨by omega, by omega⟩
      · exact hQ _ _ I_2 F_3 ⟨by omega, by omega⟩
  · intro g12 e_20
    have I_21 : zk_I g12 := by rw [e_20]; exact zk_upd (L := 0) (H := 12) rfl rfl I_2 ⟨by omega, by omega⟩
    have F_22 : zk_fr fr_M_chapter g g12 := by rw [e_20]; exact zk_fu F_3 (Or.inr (Or.inr ⟨rfl, rfl⟩))
    exact hQ _ _ I_21 F_22 ⟨by omega, by omega⟩
-- SpoutNews$Thought.storm(II)I
set_option maxRecDepth 100000 in
set_option maxHeartbeats 400000 in
theorem k_Thought_storm {l0 : Int} {l1 : Int} {g : zi_M} {Q : Int → zi_M → Prop} (I : zk_I g) (p0 : 1 ≤ l0 ∧ l0 ≤ 6) (p1 : 0 ≤ l1) (hQ : ∀ v : Int, (v = (l0 * 13) + l1) → Q v g) : w_Thought_storm l0 l1 g Q := by
  unfold w_Thought_storm
  exact hQ _ (by intros; omega)
-- SpoutNews$Told.minutes(II)I
set_option maxRecDepth 100000 in
set_option maxHeartbeats 400000 in
theorem k_Told_minutes {l1 : Int} {l2 : Int} {g : zi_M} {Q : Int → zi_M → Prop} (I : zk_I g) (p1 : 0 ≤ l1) (p2 : 0 ≤ l2 ∧ l2 ≤ 12) (hQ : ∀ v : Int, (0 ≤ v) → Q v g) : w_Told_minutes l1 l2 g Q := by
  sorry
-- SpoutNews$Thought.greatestSum(LSpoutNews$Told;III)I
set_option maxRecDepth 100000 in
set_option maxHeartbeats 400000 in
theorem k_Thought_greatestSum {l2 : Int} {l3 : Int} {l4 : Int} {g : zi_M} {Q : Int → zi_M → Prop} (I : zk_I g) (p2 : 2 ≤ l2 ∧ l2 ≤ 6) (p3 : 0 ≤ l3) (p4 : 1 ≤ l4 ∧ l4 ≤ 11) (hQ : ∀ v : Int, (0 ≤ v) → Q v g) : w_Thought_greatestSum l2 l3 l4 g Q := by
  sorry
-- SpoutNews$Thought.readInStorms(LSpoutNews$Told;I)V
def fr_Thought_readInStorms (a : Nat) (i : Int) : Prop := a = 189
set_option maxRecDepth 100000 in
set_option maxHeartbeats 400000 in
theorem k_Thought_readInStorms {l2 : Int} {g : zi_M} {Q : Int → zi_M → Prop} (I : zk_I g) (p2 : 1 ≤ l2 ∧ l2 ≤ 6) (hQ : ∀ g' : zi_M, zk_I g' → zk_fr fr_Thought_readInStorms g g' → Q 0 g') : w_Thought_readInStorms l2 g Q := by
  sorry
-- SpoutNews$Thought.leastSum(I)I
set_option maxRecDepth 100000 in
set_option maxHeartbeats 400000 in
theorem k_Thought_leastSum {l1 : Int} {g : zi_M} {Q : Int → zi_M → Prop} (I : zk_I g) (p1 : 1 ≤ l1 ∧ l1 ≤ 6) (hQ : ∀ v : Int, (v = g 189 ((l1 * 13) + 0)) → Q v g) : w_Thought_leastSum l1 g Q := by
  sorry
-- SpoutNews$Thought.secondStorm(LSpoutNews$Told;I)I
set_option maxRecDepth 100000 in
set_option maxHeartbeats 400000 in
theorem k_Thought_secondStorm {l2 : Int} {g : zi_M} {Q : Int → zi_M → Prop} (I : zk_I g) (p2 : 1 ≤ l2 ∧ l2 ≤ 6) (hQ : ∀ v : Int, ((-1) ≤ v ∧ v ≤ 11) → Q v g) : w_Thought_secondStorm l2 g Q := by
  sorry
-- SpoutNews.read(II)I
def fr_S_read (a : Nat) (i : Int) : Prop := a = 189
set_option maxRecDepth 100000 in
set_option maxHeartbeats 400000 in
theorem k_S_read_b36 {l1 : Int} {l2 : Int} {Q : Int → zi_M → Prop} {g : zi_M} {g0 : zi_M} (I : zk_I g) (F : zk_fr fr_S_read g0 g) (p1 : 1 ≤ l1 ∧ l1 ≤ 6) (p2 : 0 ≤ l2 ∧ l2 ≤ 1) (hQ : ∀ (v : Int) (g' : zi_M), zk_I g' → zk_fr fr_S_read g0 g' → ((-1) ≤ v ∧ v ≤ 720) → Q v g') : w_S_read_b36 l1 l2 g Q := by
  unfold w_S_read_b36
  refine k_Thought_readInStorms I ⟨by omega, by omega⟩ (fun g5 I_2 F_3 => ?_)
  have F_4 : zk_fr fr_S_read g0 g5 := zk_ft F F_3 (fun a i => (fun h => h))
  refine ⟨⟨by omega, by omega⟩, ?_⟩
  refine ⟨fun c14 => ?_, fun c14 => ?_⟩
  · refine k_Thought_secondStorm I_2 ⟨by omega, by omega⟩ (fun v8 b_5 => ?_)
    exact hQ _ _ I_2 F_4 ⟨by omega, by omega⟩
  · have m_7 : 0 ≤ (g5 189 ((l1 * 13) + 0)) ∧ (g5 189 ((l1 * 13) + 0)) ≤ 720 := I_2 189 ((l1 * 13) + 0)
    refine k_Thought_leastSum I_2 ⟨by omega, by omega⟩ (fun v11 b_6 => ?_)
    exact hQ _ _ I_2 F_4 ⟨by omega, by omega⟩
set_option maxRecDepth 100000 in
set_option maxHeartbeats 400000 in
theorem k_S_read {l1 : Int} {l2 : Int} {g : zi_M} {Q : Int → zi_M → Prop} (I : zk_I g) (p1 : (-2147483648) ≤ l1 ∧ l1 ≤ 2147483647) (p2 : (-2147483648) ≤ l2 ∧ l2 ≤ 2147483647) (hQ : ∀ (v : Int) (g' : zi_M), zk_I g' → zk_fr fr_S_read g g' → ((-1) ≤ v ∧ v ≤ 720) → Q v g') : w_S_read l1 l2 g Q := by
  unfold w_S_read
  refine ⟨⟨by omega, by omega⟩, ?_⟩
  refine ⟨fun c19 => ?_, fun c19 => ?_⟩
  · exact hQ _ _ I (zk_f0 _) ⟨by omega, by omega⟩
  · refine ⟨fun c18 => ?_, fun c18 => ?_⟩
    · exact hQ _ _ I (zk_f0 _) ⟨by omega, by omega⟩
    · have m_1 : 0 ≤ (g 36 12) ∧ (g 36 12) ≤ 12 := I 36 12
      refine ⟨⟨by omega, by omega⟩, ?_⟩
      refine ⟨fun c17 => ?_, fun c17 => ?_⟩
      · exact hQ _ _ I (zk_f0 _) ⟨by omega, by omega⟩
      · refine ⟨⟨by omega, by omega⟩, ?_⟩
        refine ⟨fun c16 => ?_, fun c16 => ?_⟩
        · exact k_S_read_b36 I (zk_f0 _) ⟨by omega, by omega⟩ ⟨by omega, by omega⟩ hQ
        · refine ⟨fun c15 => ?_, fun c15 => ?_⟩
          · exact k_S_read_b36 I (zk_f0 _) ⟨by omega, by omega⟩ ⟨by omega, by omega⟩ hQ
          · exact hQ _ _ I (zk_f0 _) ⟨by omega, by omega⟩
-- SpoutNewsModel.minutesOf(II)I
set_option maxRecDepth 100000 in
set_option maxHeartbeats 400000 in
theorem k_M_minutesOf {l1 : Int} {l2 : Int} {g : zi_M} {Q : Int → zi_M → Prop} (I : zk_I g) (p1 : 0 ≤ l1 ∧ l1 ≤ 12) (p2 : 1 ≤ l2) (hQ : ∀ v : Int, (0 ≤ v) → Q v g) : w_M_minutesOf l1 l2 g Q := by
  sorry
-- SpoutNewsModel.findsRead(I)V
def fr_M_findsRead (a : Nat) (i : Int) : Prop := a = 249
set_option maxRecDepth 100000 in
set_option maxHeartbeats 400000 in
theorem k_M_findsRead {l1 : Int} {g : zi_M} {Q : Int → zi_M → Prop} (I : zk_I g) (p1 : 1 ≤ l1 ∧ l1 ≤ 6) (hQ : ∀ g' : zi_M, zk_I g' → zk_fr fr_M_findsRead g g' → Q 0 g') : w_M_findsRead l1 g Q := by
  sorry
-- SpoutNewsModel.read(II)I
def fr_M_read (a : Nat) (i : Int) : Prop := a = 249 ∨ (a = 214 ∧ i = 0)
set_option maxRecDepth 100000 in
set_option maxHeartbeats 400000 in
theorem k_M_read {l1 : Int} {l2 : Int} {g : zi_M} {Q : Int → zi_M → Prop} (I : zk_I g) (p1 : (-2147483648) ≤ l1 ∧ l1 ≤ 2147483647) (p2 : (-2147483648) ≤ l2 ∧ l2 ≤ 2147483647) (hQ : ∀ (v : Int) (g' : zi_M), zk_I g' → zk_fr fr_M_read g g' → ((-1) ≤ v) → Q v g') : w_M_read l1 l2 g Q := by
  sorry
-- SpoutNews$Thought.goodTake(LSpoutNews$World;I)I
set_option maxRecDepth 100000 in
set_option maxHeartbeats 400000 in
theorem k_Thought_goodTake {l1 : Int} {g : zi_M} {Q : Int → zi_M → Prop} (I : zk_I g) (p1 : (-1) ≤ l1 ∧ l1 ≤ 9) (hQ : ∀ v : Int, ((-1) ≤ v ∧ v ≤ 4) → Q v g) : w_Thought_goodTake l1 g Q := by
  sorry
-- SpoutNews$Thought.goodSpout(LSpoutNews$World;)I
set_option maxRecDepth 100000 in
set_option maxHeartbeats 400000 in
theorem k_Thought_goodSpout_l2 {g : zi_M} (I : zk_I g) {K19 : Int → zi_M → Prop} {K27 : zi_M → Prop} {Q : Int → zi_M → Prop} (hK19 : ∀ (k1 : Int), (0 ≤ k1 ∧ k1 ≤ 9) → K19 k1 g) (hK27 : K27 g) (hQ : ∀ v : Int, ((-1) ≤ v ∧ v ≤ 9) → Q v g) : ∀ (n : Nat) {l1 : Int}, (0 ≤ l1 ∧ l1 ≤ 10) → 10 - l1 < (n : Int) → w_Thought_goodSpout_l2 K19 K27 Q n l1 g
  | 0, l1, b0, hm => by exfalso; omega
  | n + 1, l1, b0, hm => by
    unfold w_Thought_goodSpout_l2
    have m_1 : 0 ≤ (g 2 8) ∧ (g 2 8) ≤ 10 := I 2 8
    refine ⟨⟨by omega, by omega⟩, ⟨by omega, by omega⟩, ?_⟩
    refine ⟨fun c8 => ?_, fun c8 => ?_⟩
    · exact hK27
    · refine k_Thought_goodTake I ⟨by omega, by omega⟩ (fun v3 b_2 => ?_)
      refine ⟨⟨by omega, by omega⟩, ?_⟩
      refine ⟨fun c7 => ?_, fun c7 => ?_⟩
      · exact k_Thought_goodSpout_l2 I hK19 hK27 hQ n ⟨by omega, by omega⟩ (by omega)
      · exact hK19 _ ⟨by omega, by omega⟩
set_option maxRecDepth 100000 in
set_option maxHeartbeats 400000 in
theorem k_Thought_goodSpout {g : zi_M} {Q : Int → zi_M → Prop} (I : zk_I g) (hQ : ∀ v : Int, ((-1) ≤ v ∧ v ≤ 9) → Q v g) : w_Thought_goodSpout g Q := by
  unfold w_Thought_goodSpout
  refine ⟨((10 - 0 : Int).toNat + 1), k_Thought_goodSpout_l2 I (fun k9 b_3 => ?_) (?_) hQ ((10 - 0 : Int).toNat + 1) ⟨by omega, by omega⟩ (by omega)⟩
  · exact hQ _ ⟨by omega, by omega⟩
  · exact hQ _ ⟨by omega, by omega⟩
-- SpoutNews.game(I)I
set_option maxRecDepth 100000 in
set_option maxHeartbeats 400000 in
theorem k_S_game {l1 : Int} {g : zi_M} {Q : Int → zi_M → Prop} (I : zk_I g) (p1 : (-2147483648) ≤ l1 ∧ l1 ≤ 2147483647) (hQ : ∀ v : Int, ((-1) ≤ v ∧ v ≤ 9) → Q v g) : w_S_game l1 g Q := by
  unfold w_S_game
  refine ⟨⟨by omega, by omega⟩, ?_⟩
  refine ⟨fun c2_0 c2_1 => ?_, fun c2 => ?_, fun c2 => ?_⟩
  · exact hQ _ ⟨by omega, by omega⟩
  · refine k_Thought_goodSpout I (fun v3 b_1 => ?_)
    exact hQ _ ⟨by omega, by omega⟩
  · refine k_Thought_goodSpout I (fun v6 b_2 => ?_)
    refine k_Thought_goodTake I ⟨by omega, by omega⟩ (fun v9 b_3 => ?_)
    exact hQ _ ⟨by omega, by omega⟩
-- SpoutNewsModel.game(I)I
def fr_M_game (a : Nat) (i : Int) : Prop := (a = 214 ∧ i = 0)
set_option maxRecDepth 100000 in
set_option maxHeartbeats 400000 in
theorem k_M_game {l1 : Int} {g : zi_M} {Q : Int → zi_M → Prop} (I : zk_I g) (p1 : (-2147483648) ≤ l1 ∧ l1 ≤ 2147483647) (hQ : ∀ (v : Int) (g' : zi_M), zk_I g' → zk_fr fr_M_game g g' → ((-1) ≤ v ∧ v ≤ 2147483647) → Q v g') : w_M_game l1 g Q := by
  sorry
-- SpoutNews$Past.goBack(LSpoutNews$World;)Z
def fr_Past_goBack (a : Nat) (i : Int) : Prop := a = 10 ∨ a = 11 ∨ a = 12 ∨ a = 13 ∨ a = 3 ∨ a = 4 ∨ a = 5 ∨ a = 6 ∨ a = 7 ∨ a = 8 ∨ a = 9 ∨ (a = 2 ∧ i = 11) ∨ (a = 2 ∧ i = 14) ∨ (a = 2 ∧ i = 15) ∨ (a = 2 ∧ i = 16) ∨ (a = 2 ∧ i = 17) ∨ (a = 2 ∧ i = 18) ∨ (a = 2 ∧ i = 19) ∨ (a = 2 ∧ i = 8) ∨ (a = 91 ∧ i = 1) ∨ (a = 91 ∧ i = 2)
set_option maxRecDepth 100000 in
set_option maxHeartbeats 400000 in
theorem k_Past_goBack {g : zi_M} {Q : Int → zi_M → Prop} (I : zk_I g) (hQ : ∀ (v : Int) (g' : zi_M), zk_I g' → zk_fr fr_Past_goBack g g' → (0 ≤ v ∧ v ≤ 1) → Q v g') : w_Past_goBack g Q := by
  unfold w_Past_goBack
  have m_1 : 0 ≤ (g 91 1) ∧ (g 91 1) ≤ 6 := I 91 1
  refine ⟨⟨by omega, by omega⟩, ?_⟩
  refine ⟨fun c9 => ?_, fun c9 => ?_⟩
  · have m_2 : 0 ≤ (g 91 2) ∧ (g 91 2) ≤ 5 := I 91 2
    refine ⟨⟨by omega, by omega⟩, ?_⟩
    have m_6 := zi_tmod_f (((g 91 2) + 6) - 1) 6
    have m_7 := zi_tmod_c (((g 91 2) + 6) - 1) 6 (by decide)
    intro g3 e_3
    have I_4 : zk_I g3 := by rw [e_3]; exact zk_upd (L := 0) (H := 5) rfl rfl I ⟨by omega, by omega⟩
    have F_5 : zk_fr fr_Past_goBack g g3 := by rw [e_3]; exact zk_fu (zk_f0 _) (Or.inr (Or.inr (Or.inr (Or.inr (Or.inr (Or.inr (Or.inr (Or.inr (Or.inr (Or.inr (Or.inr (Or.inr (Or.inr (Or.inr (Or.inr (Or.inr (Or.inr (Or.inr (Or.inr (Or.inr ⟨rfl, rfl⟩))))))))))))))))))))
    have m_11 : 0 ≤ (g3 91 1) ∧ (g3 91 1) ≤ 6 := I_4 91 1
    have m_12 : g3 91 1 = g 91 1 := by rw [e_3]; exact zi_u_ni (by decide)
    intro g4 e_8
    have I_9 : zk_I g4 := by rw [e_8]; exact zk_upd (L := 0) (H := 6) rfl rfl I_4 ⟨by omega, by omega⟩
    have F_10 : zk_fr fr_Past_goBack g g4 := by rw [e_8]; exact zk_fu F_5 (Or.inr (Or.inr (Or.inr (Or.inr (Or.inr (Or.inr (Or.inr (Or.inr (Or.inr (Or.inr (Or.inr (Or.inr (Or.inr (Or.inr (Or.inr (Or.inr (Or.inr (Or.inr (Or.inr (Or.inl ⟨rfl, rfl⟩))))))))))))))))))))
    have m_13 : 0 ≤ (g4 91 2) ∧ (g4 91 2) ≤ 5 := I_9 91 2
    have m_14 : g4 91 2 = g3 91 2 := by rw [e_8]; exact zi_u_ni (by decide)
    have m_15 : 0 ≤ (g3 91 2) ∧ (g3 91 2) ≤ 5 := I_4 91 2
    have m_16 : g3 91 2 = Int.tmod (((g 91 2) + 6) - 1) 6 := by rw [e_3]; exact zi_u_eq
    refine ⟨⟨by omega, by omega⟩, ?_⟩
    refine k_World_copyFrom rfl (zs_ring ⟨by omega, by omega⟩).2 I_9 (fun g7 I_17 F_18 => ?_)
    have F_19 : zk_fr fr_Past_goBack g g7 := zk_ft F_10 F_18 (fun a i => (fun h => Or.elim h (fun h => (Or.inr (Or.inr (Or.inr (Or.inr (Or.inl h)))))) (fun h => Or.elim h (fun h => (Or.inr (Or.inr (Or.inl h)))) (fun h => Or.elim h (fun h => (Or.inr (Or.inr (Or.inr (Or.inl h))))) (fun h => Or.elim h (fun h => (Or.inr (Or.inr (Or.inr (Or.inr (Or.inr (Or.inl h))))))) (fun h => Or.elim h (fun h => (Or.inr (Or.inr (Or.inr (Or.inr (Or.inr (Or.inr (Or.inl h)))))))) (fun h => Or.elim h (fun h => (Or.inr (Or.inr (Or.inr (Or.inr (Or.inr (Or.inr (Or.inr (Or.inl h))))))))) (fun h => Or.elim h (fun h => (Or.inr (Or.inr (Or.inr (Or.inr (Or.inr (Or.inr (Or.inr (Or.inr (Or.inl h)))))))))) (fun h => Or.elim h (fun h => (Or.inr (Or.inr (Or.inr (Or.inr (Or.inr (Or.inr (Or.inr (Or.inr (Or.inr (Or.inl h))))))))))) (fun h => Or.elim h (fun h => (Or.inr (Or.inr (Or.inr (Or.inr (Or.inr (Or.inr (Or.inr (Or.inr (Or.inr (Or.inr (Or.inl h)))))))))))) (fun h => Or.elim h (fun h => (Or.inl h)) (fun h => Or.elim h (fun h => (Or.inr (Or.inl h))) (fun h => Or.elim h (fun h => (Or.inr (Or.inr (Or.inr (Or.inr (Or.inr (Or.inr (Or.inr (Or.inr (Or.inr (Or.inr (Or.inr (Or.inl h))))))))))))) (fun h => Or.elim h (fun h => (Or.inr (Or.inr (Or.inr (Or.inr (Or.inr (Or.inr (Or.inr (Or.inr (Or.inr (Or.inr (Or.inr (Or.inr (Or.inl h)))))))))))))) (fun h => Or.elim h (fun h => (Or.inr (Or.inr (Or.inr (Or.inr (Or.inr (Or.inr (Or.inr (Or.inr (Or.inr (Or.inr (Or.inr (Or.inr (Or.inr (Or.inl h))))))))))))))) (fun h => Or.elim h (fun h => (Or.inr (Or.inr (Or.inr (Or.inr (Or.inr (Or.inr (Or.inr (Or.inr (Or.inr (Or.inr (Or.inr (Or.inr (Or.inr (Or.inr (Or.inl h)))))))))))))))) (fun h => Or.elim h (fun h => (Or.inr (Or.inr (Or.inr (Or.inr (Or.inr (Or.inr (Or.inr (Or.inr (Or.inr (Or.inr (Or.inr (Or.inr (Or.inr (Or.inr (Or.inr (Or.inl h))))))))))))))))) (fun h => Or.elim h (fun h => (Or.inr (Or.inr (Or.inr (Or.inr (Or.inr (Or.inr (Or.inr (Or.inr (Or.inr (Or.inr (Or.inr (Or.inr (Or.inr (Or.inr (Or.inr (Or.inr (Or.inl h)))))))))))))))))) (fun h => Or.elim h (fun h => (Or.inr (Or.inr (Or.inr (Or.inr (Or.inr (Or.inr (Or.inr (Or.inr (Or.inr (Or.inr (Or.inr (Or.inr (Or.inr (Or.inr (Or.inr (Or.inr (Or.inr (Or.inl h))))))))))))))))))) (fun h => (Or.inr (Or.inr (Or.inr (Or.inr (Or.inr (Or.inr (Or.inr (Or.inr (Or.inr (Or.inr (Or.inr (Or.inr (Or.inr (Or.inr (Or.inr (Or.inr (Or.inr (Or.inr (Or.inl h)))))))))))))))))))))))))))))))))))))))
    exact hQ _ _ I_17 F_19 ⟨by omega, by omega⟩
  · exact hQ _ _ I (zk_f0 _) ⟨by omega, by omega⟩
-- SpoutNews.undo()Z
def fr_S_undo (a : Nat) (i : Int) : Prop := a = 10 ∨ a = 11 ∨ a = 12 ∨ a = 13 ∨ a = 3 ∨ a = 4 ∨ a = 5 ∨ a = 6 ∨ a = 7 ∨ a = 8 ∨ a = 9 ∨ (a = 2 ∧ i = 11) ∨ (a = 2 ∧ i = 14) ∨ (a = 2 ∧ i = 15) ∨ (a = 2 ∧ i = 16) ∨ (a = 2 ∧ i = 17) ∨ (a = 2 ∧ i = 18) ∨ (a = 2 ∧ i = 19) ∨ (a = 2 ∧ i = 8) ∨ (a = 91 ∧ i = 1) ∨ (a = 91 ∧ i = 2)
set_option maxRecDepth 100000 in
set_option maxHeartbeats 400000 in
theorem k_S_undo {g : zi_M} {Q : Int → zi_M → Prop} (I : zk_I g) (hQ : ∀ (v : Int) (g' : zi_M), zk_I g' → zk_fr fr_S_undo g g' → (0 ≤ v ∧ v ≤ 1) → Q v g') : w_S_undo g Q := by
  unfold w_S_undo
  refine k_Past_goBack I (fun v1 g2 I_2 F_3 b_1 => ?_)
  have F_4 : zk_fr fr_S_undo g g2 := zk_ft (zk_f0 _) F_3 (fun a i => (fun h => Or.elim h (fun h => (Or.inl h)) (fun h => Or.elim h (fun h => (Or.inr (Or.inl h))) (fun h => Or.elim h (fun h => (Or.inr (Or.inr (Or.inl h)))) (fun h => Or.elim h (fun h => (Or.inr (Or.inr (Or.inr (Or.inl h))))) (fun h => Or.elim h (fun h => (Or.inr (Or.inr (Or.inr (Or.inr (Or.inl h)))))) (fun h => Or.elim h (fun h => (Or.inr (Or.inr (Or.inr (Or.inr (Or.inr (Or.inl h))))))) (fun h => Or.elim h (fun h => (Or.inr (Or.inr (Or.inr (Or.inr (Or.inr (Or.inr (Or.inl h)))))))) (fun h => Or.elim h (fun h => (Or.inr (Or.inr (Or.inr (Or.inr (Or.inr (Or.inr (Or.inr (Or.inl h))))))))) (fun h => Or.elim h (fun h => (Or.inr (Or.inr (Or.inr (Or.inr (Or.inr (Or.inr (Or.inr (Or.inr (Or.inl h)))))))))) (fun h => Or.elim h (fun h => (Or.inr (Or.inr (Or.inr (Or.inr (Or.inr (Or.inr (Or.inr (Or.inr (Or.inr (Or.inl h))))))))))) (fun h => Or.elim h (fun h => (Or.inr (Or.inr (Or.inr (Or.inr (Or.inr (Or.inr (Or.inr (Or.inr (Or.inr (Or.inr (Or.inl h)))))))))))) (fun h => Or.elim h (fun h => (Or.inr (Or.inr (Or.inr (Or.inr (Or.inr (Or.inr (Or.inr (Or.inr (Or.inr (Or.inr (Or.inr (Or.inl h))))))))))))) (fun h => Or.elim h (fun h => (Or.inr (Or.inr (Or.inr (Or.inr (Or.inr (Or.inr (Or.inr (Or.inr (Or.inr (Or.inr (Or.inr (Or.inr (Or.inl h)))))))))))))) (fun h => Or.elim h (fun h => (Or.inr (Or.inr (Or.inr (Or.inr (Or.inr (Or.inr (Or.inr (Or.inr (Or.inr (Or.inr (Or.inr (Or.inr (Or.inr (Or.inl h))))))))))))))) (fun h => Or.elim h (fun h => (Or.inr (Or.inr (Or.inr (Or.inr (Or.inr (Or.inr (Or.inr (Or.inr (Or.inr (Or.inr (Or.inr (Or.inr (Or.inr (Or.inr (Or.inl h)))))))))))))))) (fun h => Or.elim h (fun h => (Or.inr (Or.inr (Or.inr (Or.inr (Or.inr (Or.inr (Or.inr (Or.inr (Or.inr (Or.inr (Or.inr (Or.inr (Or.inr (Or.inr (Or.inr (Or.inl h))))))))))))))))) (fun h => Or.elim h (fun h => (Or.inr (Or.inr (Or.inr (Or.inr (Or.inr (Or.inr (Or.inr (Or.inr (Or.inr (Or.inr (Or.inr (Or.inr (Or.inr (Or.inr (Or.inr (Or.inr (Or.inl h)))))))))))))))))) (fun h => Or.elim h (fun h => (Or.inr (Or.inr (Or.inr (Or.inr (Or.inr (Or.inr (Or.inr (Or.inr (Or.inr (Or.inr (Or.inr (Or.inr (Or.inr (Or.inr (Or.inr (Or.inr (Or.inr (Or.inl h))))))))))))))))))) (fun h => Or.elim h (fun h => (Or.inr (Or.inr (Or.inr (Or.inr (Or.inr (Or.inr (Or.inr (Or.inr (Or.inr (Or.inr (Or.inr (Or.inr (Or.inr (Or.inr (Or.inr (Or.inr (Or.inr (Or.inr (Or.inl h)))))))))))))))))))) (fun h => Or.elim h (fun h => (Or.inr (Or.inr (Or.inr (Or.inr (Or.inr (Or.inr (Or.inr (Or.inr (Or.inr (Or.inr (Or.inr (Or.inr (Or.inr (Or.inr (Or.inr (Or.inr (Or.inr (Or.inr (Or.inr (Or.inl h))))))))))))))))))))) (fun h => (Or.inr (Or.inr (Or.inr (Or.inr (Or.inr (Or.inr (Or.inr (Or.inr (Or.inr (Or.inr (Or.inr (Or.inr (Or.inr (Or.inr (Or.inr (Or.inr (Or.inr (Or.inr (Or.inr (Or.inr h))))))))))))))))))))))))))))))))))))))))))
  exact hQ _ _ I_2 F_4 ⟨by omega, by omega⟩
