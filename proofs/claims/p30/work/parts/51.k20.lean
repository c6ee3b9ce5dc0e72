-- by program (wip/gen/mkz.py)
-- SpoutNews.game(I)I
set_option maxRecDepth 100000 in
set_option maxHeartbeats 400000 in
theorem k_S_game {l1 : Int} {g : zi_M} {Q : Int → zi_M → Prop} (I : zk_I g) (p1 : (-2147483648) ≤ l1 ∧ l1 ≤ 2147483647) (hQ : ∀ v : Int, ((-1) ≤ v ∧ v ≤ 9) → Q v g) : w_S_game l1 g Q := by
  unfold w_S_game
  refine ⟨⟨by omega, by omega⟩, ?_⟩
  refine ⟨fun c2_0 c2_1 => ?_, fun c2 => ?_, fun c2 => ?_⟩
  · exact hQ _ ⟨by omega, by omega⟩
  · refine k_Thought_goodSpout I (fun v3 b_1 => ?_)
    exact hQ _ ⟨by omega, by omega⟩
  · refine k_Thought_goodSpout I (fun v6 b_2 => ?_)
    refine k_Thought_goodTake I ⟨by omega, by omega⟩ (fun v9 b_3 => ?_)
    exact hQ _ ⟨by omega, by omega⟩
-- SpoutNewsModel.game(I)I
def fr_M_game (a : Nat) (i : Int) : Prop := (a = 214 ∧ i = 0)
set_option maxRecDepth 100000 in
set_option maxHeartbeats 400000 in
theorem k_M_game {l1 : Int} {g : zi_M} {Q : Int → zi_M → Prop} (I : zk_I g) (p1 : (-2147483648) ≤ l1 ∧ l1 ≤ 2147483647) (hQ : ∀ (v : Int) (g' : zi_M), zk_I g' → zk_fr fr_M_game g g' → ((-1) ≤ v ∧ v ≤ 2147483647) → Q v g') : w_M_game l1 g Q := by
  sorry
-- SpoutNews$Past.goBack(LSpoutNews$World;)Z
def fr_Past_goBack (a : Nat) (i : Int) : Prop := a = 10 ∨ a = 11 ∨ a = 12 ∨ a = 13 ∨ a = 3 ∨ a = 4 ∨ a = 5 ∨ a = 6 ∨ a = 7 ∨ a = 8 ∨ a = 9 ∨ (a = 2 ∧ i = 11) ∨ (a = 2 ∧ i = 14) ∨ (a = 2 ∧ i = 15) ∨ (a = 2 ∧ i = 16) ∨ (a = 2 ∧ i = 17) ∨ (a = 2 ∧ i = 18) ∨ (a = 2 ∧ i = 19) ∨ (a = 2 ∧ i = 8) ∨ (a = 91 ∧ i = 1) ∨ (a = 91 ∧ i = 2)
set_option maxRecDepth 100000 in
set_option maxHeartbeats 400000 in
theorem k_Past_goBack {g : zi_M} {Q : Int → zi_M → Prop} (I : zk_I g) (hQ : ∀ (v : Int) (g' : zi_M), zk_I g' → zk_fr fr_Past_goBack g g' → (0 ≤ v ∧ v ≤ 1) → Q v g') : w_Past_goBack g Q := by
  unfold w_Past_goBack
  have m_1 : 0 ≤ (g 91 1) ∧ (g 91 1) ≤ 6 := I 91 1
  refine ⟨⟨by omega, by omega⟩, ?_⟩
  refine ⟨fun c9 => ?_, fun c9 => ?_⟩
  · have m_2 : 0 ≤ (g 91 2) ∧ (g 91 2) ≤ 5 := I 91 2
    refine ⟨⟨by omega, by omega⟩, ?_⟩
    have m_6 := zi_tmod_f (((g 91 2) + 6) - 1) 6
    have m_7 := zi_tmod_c (((g 91 2) + 6) - 1) 6 (by decide)
    intro g3 e_3
    have I_4 : zk_I g3 := by rw [e_3]; exact zk_upd (L := 0) (H := 5) rfl rfl I ⟨by omega, by omega⟩
    have F_5 : zk_fr fr_Past_goBack g g3 := by rw [e_3]; exact zk_fu (zk_f0 _) (by unfold fr_Past_goBack; omega)
    have m_11 : 0 ≤ (g3 91 1) ∧ (g3 91 1) ≤ 6 := I_4 91 1
    have m_12 : g3 91 1 = g 91 1 := by rw [e_3]; exact zi_u_ni (by decide)
    intro g4 e_8
    have I_9 : zk_I g4 := by rw [e_8]; exact zk_upd (L := 0) (H := 6) rfl rfl I_4 ⟨by omega, by omega⟩
    have F_10 : zk_fr fr_Past_goBack g g4 := by rw [e_8]; exact zk_fu F_5 (by unfold fr_Past_goBack; omega)
    have m_13 : 0 ≤ (g4 91 2) ∧ (g4 91 2) ≤ 5 := I_9 91 2
    have m_14 : g4 91 2 = g3 91 2 := by rw [e_8]; exact zi_u_ni (by decide)
    have m_15 : 0 ≤ (g3 91 2) ∧ (g3 91 2) ≤ 5 := I_4 91 2
    have m_16 : g3 91 2 = Int.tmod (((g 91 2) + 6) - 1) 6 := by rw [e_3]; exact zi_u_eq
    refine ⟨⟨by omega, by omega⟩, ?_⟩
    refine k_World_copyFrom rfl (zs_ring ⟨by omega, by omega⟩).2 I_9 (fun g7 I_17 F_18 => ?_)
    have F_19 : zk_fr fr_Past_goBack g g7 := zk_ft F_10 F_18 (by intro a i h; unfold fr_World_copyFrom at h; unfold fr_Past_goBack; omega)
    exact hQ _ _ I_17 F_19 ⟨by omega, by omega⟩
  · exact hQ _ _ I (zk_f0 _) ⟨by omega, by omega⟩
-- SpoutNews.undo()Z
def fr_S_undo (a : Nat) (i : Int) : Prop := a = 10 ∨ a = 11 ∨ a = 12 ∨ a = 13 ∨ a = 3 ∨ a = 4 ∨ a = 5 ∨ a = 6 ∨ a = 7 ∨ a = 8 ∨ a = 9 ∨ (a = 2 ∧ i = 11) ∨ (a = 2 ∧ i = 14) ∨ (a = 2 ∧ i = 15) ∨ (a = 2 ∧ i = 16) ∨ (a = 2 ∧ i = 17) ∨ (a = 2 ∧ i = 18) ∨ (a = 2 ∧ i = 19) ∨ (a = 2 ∧ i = 8) ∨ (a = 91 ∧ i = 1) ∨ (a = 91 ∧ i = 2)
set_option maxRecDepth 100000 in
set_option maxHeartbeats 400000 in
theorem k_S_undo {g : zi_M} {Q : Int → zi_M → Prop} (I : zk_I g) (hQ : ∀ (v : Int) (g' : zi_M), zk_I g' → zk_fr fr_S_undo g g' → (0 ≤ v ∧ v ≤ 1) → Q v g') : w_S_undo g Q := by
  unfold w_S_undo
  refine k_Past_goBack I (fun v1 g2 I_2 F_3 b_1 => ?_)
  have F_4 : zk_fr fr_S_undo g g2 := zk_ft (zk_f0 _) F_3 (by intro a i h; unfold fr_Past_goBack at h; unfold fr_S_undo; omega)
  exact hQ _ _ I_2 F_4 ⟨by omega, by omega⟩
-- SpoutNewsModel.undo()Z
def fr_M_undo (a : Nat) (i : Int) : Prop := a = 215 ∨ (a = 214 ∧ i = 0) ∨ (a = 214 ∧ i = 3)
set_option maxRecDepth 100000 in
set_option maxHeartbeats 400000 in
theorem k_M_undo {g : zi_M} {Q : Int → zi_M → Prop} (I : zk_I g) (hQ : ∀ (v : Int) (g' : zi_M), zk_I g' → zk_fr fr_M_undo g g' → (0 ≤ v ∧ v ≤ 1) → Q v g') : w_M_undo g Q := by
  sorry
-- SpoutNews$Book.copyFrom(LSpoutNews$Book;)V
def fr_Book_copyFrom (r0 : Nat) (r1 : Nat) (a : Nat) (i : Int) : Prop := a = r0 + 1 ∨ a = r0 + 2 ∨ a = r0 + 3 ∨ a = r0 + 4
set_option maxRecDepth 100000 in
set_option maxHeartbeats 400000 in
theorem k_Book_copyFrom {r0 : Nat} (hr0 : zs_sh r0 = some (0, 4)) {r1 : Nat} (hr1 : zs_sh r1 = some (0, 4)) {g : zi_M} {Q : Int → zi_M → Prop} (I : zk_I g) (hQ : ∀ g' : zi_M, zk_I g' → zk_fr (fr_Book_copyFrom r0 r1) g g' → Q 0 g') : w_Book_copyFrom r0 r1 g Q := by
  sorry
-- SpoutNews$Texts.copyFrom(LSpoutNews$Texts;)V
def fr_Texts_copyFrom (r0 : Nat) (r1 : Nat) (a : Nat) (i : Int) : Prop := a = r0 + 10 ∨ a = r0 + 11 ∨ a = r0 + 12 ∨ a = r0 + 13 ∨ a = r0 + 14 ∨ a = r0 + 15 ∨ a = r0 + 16 ∨ a = r0 + 2 ∨ a = r0 + 3 ∨ a = r0 + 4 ∨ a = r0 + 5 ∨ a = r0 + 6 ∨ a = r0 + 7 ∨ (a = r0 ∧ i = 10) ∨ (a = r0 ∧ i = 2) ∨ (a = r0 ∧ i = 5) ∨ (a = r0 + 1 ∧ i = 2) ∨ (a = r0 + 1 ∧ i = 7)
set_option maxRecDepth 100000 in
set_option maxHeartbeats 400000 in
theorem k_Texts_copyFrom {r0 : Nat} (hr0 : zs_sh r0 = some (6, 11)) {r1 : Nat} (hr1 : zs_sh r1 = some (6, 11)) {g : zi_M} {Q : Int → zi_M → Prop} (I : zk_I g) (hQ : ∀ g' : zi_M, zk_I g' → zk_fr (fr_Texts_copyFrom r0 r1) g g' → Q 0 g') : w_Texts_copyFrom r0 r1 g Q := by
  unfold w_Texts_copyFrom
  refine k_Law_copyFrom (zs_f6_0 hr0).2 (zs_f6_0 hr1).2 I (fun g2 I_1 F_2 => ?_)
  have F_3 : zk_fr (fr_Texts_copyFrom r0 r1) g g2 := zk_ft (zk_f0 _) F_2 (by intro a i h; unfold fr_Law_copyFrom at h; unfold fr_Texts_copyFrom; omega)
  refine k_Texts_copyGutters hr0 hr1 I_1 (fun g5 I_4 F_5 => ?_)
  have F_6 : zk_fr (fr_Texts_copyFrom r0 r1) g g5 := zk_ft F_3 F_5 (by intro a i h; unfold fr_Texts_copyGutters at h; unfold fr_Texts_copyFrom; omega)
  refine k_Texts_copyWeather hr0 hr1 I_4 (fun g8 I_7 F_8 => ?_)
  have F_9 : zk_fr (fr_Texts_copyFrom r0 r1) g g8 := zk_ft F_6 F_8 (by intro a i h; unfold fr_Texts_copyWeather at h; unfold fr_Texts_copyFrom; omega)
  refine k_Texts_copyPlan hr0 hr1 I_7 (fun g11 I_10 F_11 => ?_)
  have F_12 : zk_fr (fr_Texts_copyFrom r0 r1) g g11 := zk_ft F_9 F_11 (by intro a i h; unfold fr_Texts_copyPlan at h; unfold fr_Texts_copyFrom; omega)
  exact hQ _ I_10 F_12
-- SpoutNews$Told.copyFrom(LSpoutNews$Told;)V
def fr_Told_copyFrom (r0 : Nat) (r1 : Nat) (a : Nat) (i : Int) : Prop := a = r0 + 1 ∨ a = r0 + 2 ∨ a = r0 + 3 ∨ a = r0 + 4 ∨ a = r0 + 5 ∨ a = r0 + 6 ∨ a = r0 + 7 ∨ a = r0 + 8 ∨ a = r0 + 9 ∨ (a = r0 ∧ i = 10) ∨ (a = r0 ∧ i = 12) ∨ (a = r0 ∧ i = 2) ∨ (a = r0 ∧ i = 5)
set_option maxRecDepth 100000 in
set_option maxHeartbeats 400000 in
theorem k_Told_copyFrom {r0 : Nat} (hr0 : zs_sh r0 = some (9, 13)) {r1 : Nat} (hr1 : zs_sh r1 = some (9, 13)) {g : zi_M} {Q : Int → zi_M → Prop} (I : zk_I g) (hQ : ∀ g' : zi_M, zk_I g' → zk_fr (fr_Told_copyFrom r0 r1) g g' → Q 0 g') : w_Told_copyFrom r0 r1 g Q := by
  sorry
-- SpoutNews$Cathedral.copyFrom(LSpoutNews$Cathedral;)V
def fr_Cathedral_copyFrom (r0 : Nat) (r1 : Nat) (a : Nat) (i : Int) : Prop := a = r0 + 10 ∨ a = r0 + 11 ∨ a = r0 + 12 ∨ a = r0 + 14 ∨ a = r0 + 15 ∨ a = r0 + 16 ∨ a = r0 + 17 ∨ a = r0 + 2 ∨ a = r0 + 20 ∨ a = r0 + 21 ∨ a = r0 + 22 ∨ a = r0 + 23 ∨ a = r0 + 24 ∨ a = r0 + 25 ∨ a = r0 + 28 ∨ a = r0 + 29 ∨ a = r0 + 3 ∨ a = r0 + 30 ∨ a = r0 + 31 ∨ a = r0 + 32 ∨ a = r0 + 33 ∨ a = r0 + 34 ∨ a = r0 + 36 ∨ a = r0 + 37 ∨ a = r0 + 38 ∨ a = r0 + 39 ∨ a = r0 + 4 ∨ a = r0 + 40 ∨ a = r0 + 41 ∨ a = r0 + 42 ∨ a = r0 + 43 ∨ a = r0 + 44 ∨ a = r0 + 5 ∨ a = r0 + 6 ∨ a = r0 + 7 ∨ a = r0 + 8 ∨ a = r0 + 9 ∨ (a = r0 + 1 ∧ i = 11) ∨ (a = r0 + 1 ∧ i = 14) ∨ (a = r0 + 1 ∧ i = 15) ∨ (a = r0 + 1 ∧ i = 16) ∨ (a = r0 + 1 ∧ i = 17) ∨ (a = r0 + 1 ∧ i = 18) ∨ (a = r0 + 1 ∧ i = 19) ∨ (a = r0 + 1 ∧ i = 8) ∨ (a = r0 + 18 ∧ i = 10) ∨ (a = r0 + 18 ∧ i = 2) ∨ (a = r0 + 18 ∧ i = 5) ∨ (a = r0 + 19 ∧ i = 2) ∨ (a = r0 + 19 ∧ i = 7) ∨ (a = r0 + 35 ∧ i = 10) ∨ (a = r0 + 35 ∧ i = 12) ∨ (a = r0 + 35 ∧ i = 2) ∨ (a = r0 + 35 ∧ i = 5)
set_option maxRecDepth 100000 in
set_option maxHeartbeats 400000 in
theorem k_Cathedral_copyFrom {r0 : Nat} (hr0 : zs_sh r0 = some (1, 4)) {r1 : Nat} (hr1 : zs_sh r1 = some (1, 4)) {g : zi_M} {Q : Int → zi_M → Prop} (I : zk_I g) (hQ : ∀ g' : zi_M, zk_I g' → zk_fr (fr_Cathedral_copyFrom r0 r1) g g' → Q 0 g') : w_Cathedral_copyFrom r0 r1 g Q := by
  unfold w_Cathedral_copyFrom
  refine k_World_copyFrom (zs_f1_0 hr0).2 (zs_f1_0 hr1).2 I (fun g2 I_1 F_2 => ?_)
  have F_3 : zk_fr (fr_Cathedral_copyFrom r0 r1) g g2 := zk_ft (zk_f0 _) F_2 (by intro a i h; unfold fr_World_copyFrom at h; unfold fr_Cathedral_copyFrom; omega)
  refine k_Book_copyFrom (zs_f1_1 hr0).2 (zs_f1_1 hr1).2 I_1 (fun g5 I_4 F_5 => ?_)
  have F_6 : zk_fr (fr_Cathedral_copyFrom r0 r1) g g5 := zk_ft F_3 F_5 (by intro a i h; unfold fr_Book_copyFrom at h; unfold fr_Cathedral_copyFrom; omega)
  refine k_Texts_copyFrom (zs_f1_2 hr0).2 (zs_f1_2 hr1).2 I_4 (fun g8 I_7 F_8 => ?_)
  have F_9 : zk_fr (fr_Cathedral_copyFrom r0 r1) g g8 := zk_ft F_6 F_8 (by intro a i h; unfold fr_Texts_copyFrom at h; unfold fr_Cathedral_copyFrom; omega)
  refine k_Told_copyFrom (zs_f1_3 hr0).2 (zs_f1_3 hr1).2 I_7 (fun g11 I_10 F_11 => ?_)
  have F_12 : zk_fr (fr_Cathedral_copyFrom r0 r1) g g11 := zk_ft F_9 F_11 (by intro a i h; unfold fr_Told_copyFrom at h; unfold fr_Cathedral_copyFrom; omega)
  exact hQ _ I_10 F_12
-- SpoutNews.image(Z)Z
def fr_S_image (a : Nat) (i : Int) : Prop := a = 10 ∨ a = 11 ∨ a = 12 ∨ a = 13 ∨ a = 15 ∨ a = 16 ∨ a = 17 ∨ a = 18 ∨ a = 21 ∨ a = 22 ∨ a = 23 ∨ a = 24 ∨ a = 25 ∨ a = 26 ∨ a = 29 ∨ a = 3 ∨ a = 30 ∨ a = 31 ∨ a = 32 ∨ a = 33 ∨ a = 34 ∨ a = 35 ∨ a = 37 ∨ a = 38 ∨ a = 39 ∨ a = 4 ∨ a = 40 ∨ a = 41 ∨ a = 42 ∨ a = 43 ∨ a = 44 ∨ a = 45 ∨ a = 48 ∨ a = 49 ∨ a = 5 ∨ a = 50 ∨ a = 51 ∨ a = 52 ∨ a = 53 ∨ a = 54 ∨ a = 55 ∨ a = 56 ∨ a = 57 ∨ a = 58 ∨ a = 6 ∨ a = 60 ∨ a = 61 ∨ a = 62 ∨ a = 63 ∨ a = 66 ∨ a = 67 ∨ a = 68 ∨ a = 69 ∨ a = 7 ∨ a = 70 ∨ a = 71 ∨ a = 74 ∨ a = 75 ∨ a = 76 ∨ a = 77 ∨ a = 78 ∨ a = 79 ∨ a = 8 ∨ a = 80 ∨ a = 82 ∨ a = 83 ∨ a = 84 ∨ a = 85 ∨ a = 86 ∨ a = 87 ∨ a = 88 ∨ a = 89 ∨ a = 9 ∨ a = 90 ∨ (a = 0 ∧ i = 2) ∨ (a = 19 ∧ i = 10) ∨ (a = 19 ∧ i = 2) ∨ (a = 19 ∧ i = 5) ∨ (a = 2 ∧ i = 11) ∨ (a = 2 ∧ i = 14) ∨ (a = 2 ∧ i = 15) ∨ (a = 2 ∧ i = 16) ∨ (a = 2 ∧ i = 17) ∨ (a = 2 ∧ i = 18) ∨ (a = 2 ∧ i = 19) ∨ (a = 2 ∧ i = 8) ∨ (a = 20 ∧ i = 2) ∨ (a = 20 ∧ i = 7) ∨ (a = 36 ∧ i = 10) ∨ (a = 36 ∧ i = 12) ∨ (a = 36 ∧ i = 2) ∨ (a = 36 ∧ i = 5) ∨ (a = 47 ∧ i = 11) ∨ (a = 47 ∧ i = 14) ∨ (a = 47 ∧ i = 15) ∨ (a = 47 ∧ i = 16) ∨ (a = 47 ∧ i = 17) ∨ (a = 47 ∧ i = 18) ∨ (a = 47 ∧ i = 19) ∨ (a = 47 ∧ i = 8) ∨ (a = 64 ∧ i = 10) ∨ (a = 64 ∧ i = 2) ∨ (a = 64 ∧ i = 5) ∨ (a = 65 ∧ i = 2) ∨ (a = 65 ∧ i = 7) ∨ (a = 81 ∧ i = 10) ∨ (a = 81 ∧ i = 12) ∨ (a = 81 ∧ i = 2) ∨ (a = 81 ∧ i = 5) ∨ (a = 91 ∧ i = 1)
set_option maxRecDepth 100000 in
set_option maxHeartbeats 400000 in
theorem k_S_image {l1 : Int} {g : zi_M} {Q : Int → zi_M → Prop} (I : zk_I g) (p1 : 0 ≤ l1 ∧ l1 ≤ 1) (hQ : ∀ (v : Int) (g' : zi_M), zk_I g' → zk_fr fr_S_image g g' → (0 ≤ v ∧ v ≤ 1) → Q v g') : w_S_image l1 g Q := by
  unfold w_S_image
  refine ⟨⟨by omega, by omega⟩, ?_⟩
  refine ⟨fun c14 => ?_, fun c14 => ?_⟩
  · have m_1 : 0 ≤ (g 0 2) ∧ (g 0 2) ≤ 1 := I 0 2
    refine ⟨⟨by omega, by omega⟩, ?_⟩
    refine ⟨fun c9 => ?_, fun c9 => ?_⟩
    · refine k_Cathedral_copyFrom rfl rfl I (fun g4 I_2 F_3 => ?_)
      have F_4 : zk_fr fr_S_image g g4 := zk_ft (zk_f0 _) F_3 (by intro a i h; unfold fr_Cathedral_copyFrom at h; unfold fr_S_image; omega)
      refine k_Past_forget I_2 (fun g7 I_5 F_6 => ?_)
      have F_7 : zk_fr fr_S_image g g7 := zk_ft F_4 F_6 (by intro a i h; unfold fr_Past_forget at h; unfold fr_S_image; omega)
      exact hQ _ _ I_5 F_7 ⟨by omega, by omega⟩
    · exact hQ _ _ I (zk_f0 _) ⟨by omega, by omega⟩
  · refine k_Cathedral_copyFrom rfl rfl I (fun g11 I_8 F_9 => ?_)
    have F_10 : zk_fr fr_S_image g g11 := zk_ft (zk_f0 _) F_9 (by intro a i h; unfold fr_Cathedral_copyFrom at h; unfold fr_S_image; omega)
    intro g13 e_11
    have I_12 : zk_I g13 := by rw [e_11]; exact zk_upd (L := 0) (H := 1) rfl rfl I_8 ⟨by omega, by omega⟩
    have F_13 : zk_fr fr_S_image g g13 := by rw [e_11]; exact zk_fu F_10 (by unfold fr_S_image; omega)
    exact hQ _ _ I_12 F_13 ⟨by omega, by omega⟩
-- SpoutNewsModel.keepsOne(I)I
def fr_M_keepsOne (a : Nat) (i : Int) : Prop := a = 250 ∨ (a = 214 ∧ i = 63)
set_option maxRecDepth 100000 in
set_option maxHeartbeats 400000 in
theorem k_M_keepsOne {l1 : Int} {g : zi_M} {Q : Int → zi_M → Prop} (I : zk_I g) (p1 : (-2147483648) ≤ l1 ∧ l1 ≤ 2147483647) (hQ : ∀ (v : Int) (g' : zi_M), zk_I g' → zk_fr fr_M_keepsOne g g' → ((-2147483648) ≤ v ∧ v ≤ 2147483647) → Q v g') : w_M_keepsOne l1 g Q := by
  sorry
-- SpoutNewsModel.keepsMany()V
def fr_M_keepsMany (a : Nat) (i : Int) : Prop := a = 250 ∨ (a = 214 ∧ i = 35) ∨ (a = 214 ∧ i = 37) ∨ (a = 214 ∧ i = 39) ∨ (a = 214 ∧ i = 46) ∨ (a = 214 ∧ i = 50) ∨ (a = 214 ∧ i = 56) ∨ (a = 214 ∧ i = 58) ∨ (a = 214 ∧ i = 6) ∨ (a = 214 ∧ i = 63) ∨ (a = 214 ∧ i = 7)
set_option maxRecDepth 100000 in
set_option maxHeartbeats 400000 in
theorem k_M_keepsMany {g : zi_M} {Q : Int → zi_M → Prop} (I : zk_I g) (hQ : ∀ g' : zi_M, zk_I g' → zk_fr fr_M_keepsMany g g' → Q 0 g') : w_M_keepsMany g Q := by
  unfold w_M_keepsMany
  have m_1 : 0 ≤ (g 214 6) ∧ (g 214 6) ≤ 10 := I 214 6
  refine k_M_keepsOne I ⟨by omega, by omega⟩ (fun v1 g2 I_3 F_4 b_2 => ?_)
  have F_5 : zk_fr fr_M_keepsMany g g2 := zk_ft (zk_f0 _) F_4 (by intro a i h; unfold fr_M_keepsOne at h; unfold fr_M_keepsMany; omega)
  intro g4 e_6
  have I_7 : zk_I g4 := by rw [e_6]; exact zk_upd (L := 0) (H := 10) rfl rfl I_3 ⟨by omega, by omega⟩
  have F_8 : zk_fr fr_M_keepsMany g g4 := by rw [e_6]; exact zk_fu F_5 (by unfold fr_M_keepsMany; omega)
  have m_9 : 0 ≤ (g4 214 7) ∧ (g4 214 7) ≤ 8 := I_7 214 7
  have m_10 : g4 214 7 = g2 214 7 := by rw [e_6]; exact zi_u_ni (by decide)
  have m_11 : 0 ≤ (g2 214 7) ∧ (g2 214 7) ≤ 8 := I_3 214 7
  have m_12 : g2 214 7 = g 214 7 := F_4 _ _ (by unfold fr_M_keepsOne; omega)
  have m_13 : 0 ≤ (g 214 7) ∧ (g 214 7) ≤ 8 := I 214 7
  refine k_M_keepsOne I_7 ⟨by omega, by omega⟩ (fun v5 g6 I_15 F_16 b_14 => ?_)
  have F_17 : zk_fr fr_M_keepsMany g g6 := zk_ft F_8 F_16 (by intro a i h; unfold fr_M_keepsOne at h; unfold fr_M_keepsMany; omega)
  intro g8 e_18
  have I_19 : zk_I g8 := by rw [e_18]; exact zk_upd (L := 0) (H := 8) rfl rfl I_15 ⟨by omega, by omega⟩
  have F_20 : zk_fr fr_M_keepsMany g g8 := by rw [e_18]; exact zk_fu F_17 (by unfold fr_M_keepsMany; omega)
  have m_21 : 0 ≤ (g8 214 35) ∧ (g8 214 35) ≤ 16 := I_19 214 35
  have m_22 : g8 214 35 = g6 214 35 := by rw [e_18]; exact zi_u_ni (by decide)
  have m_23 : 0 ≤ (g6 214 35) ∧ (g6 214 35) ≤ 16 := I_15 214 35
  have m_24 : g6 214 35 = g4 214 35 := F_16 _ _ (by unfold fr_M_keepsOne; omega)
  have m_25 : 0 ≤ (g4 214 35) ∧ (g4 214 35) ≤ 16 := I_7 214 35
  have m_26 : g4 214 35 = g2 214 35 := by rw [e_6]; exact zi_u_ni (by decide)
  have m_27 : 0 ≤ (g2 214 35) ∧ (g2 214 35) ≤ 16 := I_3 214 35
  have m_28 : g2 214 35 = g 214 35 := F_4 _ _ (by unfold fr_M_keepsOne; omega)
  have m_29 : 0 ≤ (g 214 35) ∧ (g 214 35) ≤ 16 := I 214 35
  refine k_M_keepsOne I_19 ⟨by omega, by omega⟩ (fun v9 g10 I_31 F_32 b_30 => ?_)
  have F_33 : zk_fr fr_M_keepsMany g g10 := zk_ft F_20 F_32 (by intro a i h; unfold fr_M_keepsOne at h; unfold fr_M_keepsMany; omega)
  intro g12 e_34
  have I_35 : zk_I g12 := by rw [e_34]; exact zk_upd (L := 0) (H := 16) rfl rfl I_31 ⟨by omega, by omega⟩
  have F_36 : zk_fr fr_M_keepsMany g g12 := by rw [e_34]; exact zk_fu F_33 (by unfold fr_M_keepsMany; omega)
  have m_37 : 0 ≤ (g12 214 37) ∧ (g12 214 37) ≤ 16 := I_35 214 37
  have m_38 : g12 214 37 = g10 214 37 := by rw [e_34]; exact zi_u_ni (by decide)
  have m_39 : 0 ≤ (g10 214 37) ∧ (g10 214 37) ≤ 16 := I_31 214 37
  have m_40 : g10 214 37 = g8 214 37 := F_32 _ _ (by unfold fr_M_keepsOne; omega)
  have m_41 : 0 ≤ (g8 214 37) ∧ (g8 214 37) ≤ 16 := I_19 214 37
  have m_42 : g8 214 37 = g6 214 37 := by rw [e_18]; exact zi_u_ni (by decide)
  have m_43 : 0 ≤ (g6 214 37) ∧ (g6 214 37) ≤ 16 := I_15 214 37
  have m_44 : g6 214 37 = g4 214 37 := F_16 _ _ (by unfold fr_M_keepsOne; omega)
  have m_45 : 0 ≤ (g4 214 37) ∧ (g4 214 37) ≤ 16 := I_7 214 37
  have m_46 : g4 214 37 = g2 214 37 := by rw [e_6]; exact zi_u_ni (by decide)
  have m_47 : 0 ≤ (g2 214 37) ∧ (g2 214 37) ≤ 16 := I_3 214 37
  have m_48 : g2 214 37 = g 214 37 := F_4 _ _ (by unfold fr_M_keepsOne; omega)
  have m_49 : 0 ≤ (g 214 37) ∧ (g 214 37) ≤ 16 := I 214 37
  refine k_M_keepsOne I_35 ⟨by omega, by omega⟩ (fun v13 g14 I_51 F_52 b_50 => ?_)
  have F_53 : zk_fr fr_M_keepsMany g g14 := zk_ft F_36 F_52 (by intro a i h; unfold fr_M_keepsOne at h; unfold fr_M_keepsMany; omega)
  intro g16 e_54
  have I_55 : zk_I g16 := by rw [e_54]; exact zk_upd (L := 0) (H := 16) rfl rfl I_51 ⟨by omega, by omega⟩
  have F_56 : zk_fr fr_M_keepsMany g g16 := by rw [e_54]; exact zk_fu F_53 (by unfold fr_M_keepsMany; omega)
  have m_57 : 0 ≤ (g16 214 39) ∧ (g16 214 39) ≤ 16 := I_55 214 39
  have m_58 : g16 214 39 = g14 214 39 := by rw [e_54]; exact zi_u_ni (by decide)
  have m_59 : 0 ≤ (g14 214 39) ∧ (g14 214 39) ≤ 16 := I_51 214 39
  have m_60 : g14 214 39 = g12 214 39 := F_52 _ _ (by unfold fr_M_keepsOne; omega)
  have m_61 : 0 ≤ (g12 214 39) ∧ (g12 214 39) ≤ 16 := I_35 214 39
  have m_62 : g12 214 39 = g10 214 39 := by rw [e_34]; exact zi_u_ni (by decide)
  have m_63 : 0 ≤ (g10 214 39) ∧ (g10 214 39) ≤ 16 := I_31 214 39
  have m_64 : g10 214 39 = g8 214 39 := F_32 _ _ (by unfold fr_M_keepsOne; omega)
  have m_65 : 0 ≤ (g8 214 39) ∧ (g8 214 39) ≤ 16 := I_19 214 39
  have m_66 : g8 214 39 = g6 214 39 := by rw [e_18]; exact zi_u_ni (by decide)
  have m_67 : 0 ≤ (g6 214 39) ∧ (g6 214 39) ≤ 16 := I_15 214 39
  have m_68 : g6 214 39 = g4 214 39 := F_16 _ _ (by unfold fr_M_keepsOne; omega)
  have m_69 : 0 ≤ (g4 214 39) ∧ (g4 214 39) ≤ 16 := I_7 214 39
  have m_70 : g4 214 39 = g2 214 39 := by rw [e_6]; exact zi_u_ni (by decide)
  have m_71 : 0 ≤ (g2 214 39) ∧ (g2 214 39) ≤ 16 := I_3 214 39
  have m_72 : g2 214 39 = g 214 39 := F_4 _ _ (by unfold fr_M_keepsOne; omega)
  have m_73 : 0 ≤ (g 214 39) ∧ (g 214 39) ≤ 16 := I 214 39
  refine k_M_keepsOne I_55 ⟨by omega, by omega⟩ (fun v17 g18 I_75 F_76 b_74 => ?_)
  have F_77 : zk_fr fr_M_keepsMany g g18 := zk_ft F_56 F_76 (by intro a i h; unfold fr_M_keepsOne at h; unfold fr_M_keepsMany; omega)
  intro g20 e_78
  have I_79 : zk_I g20 := by rw [e_78]; exact zk_upd (L := 0) (H := 16) rfl rfl I_75 ⟨by omega, by omega⟩
  have F_80 : zk_fr fr_M_keepsMany g g20 := by rw [e_78]; exact zk_fu F_77 (by unfold fr_M_keepsMany; omega)
  have m_81 : 0 ≤ (g20 214 46) ∧ (g20 214 46) ≤ 12 := I_79 214 46
  have m_82 : g20 214 46 = g18 214 46 := by rw [e_78]; exact zi_u_ni (by decide)
  have m_83 : 0 ≤ (g18 214 46) ∧ (g18 214 46) ≤ 12 := I_75 214 46
  have m_84 : g18 214 46 = g16 214 46 := F_76 _ _ (by unfold fr_M_keepsOne; omega)
  have m_85 : 0 ≤ (g16 214 46) ∧ (g16 214 46) ≤ 12 := I_55 214 46
  have m_86 : g16 214 46 = g14 214 46 := by rw [e_54]; exact zi_u_ni (by decide)
  have m_87 : 0 ≤ (g14 214 46) ∧ (g14 214 46) ≤ 12 := I_51 214 46
  have m_88 : g14 214 46 = g12 214 46 := F_52 _ _ (by unfold fr_M_keepsOne; omega)
  have m_89 : 0 ≤ (g12 214 46) ∧ (g12 214 46) ≤ 12 := I_35 214 46
  have m_90 : g12 214 46 = g10 214 46 := by rw [e_34]; exact zi_u_ni (by decide)
  have m_91 : 0 ≤ (g10 214 46) ∧ (g10 214 46) ≤ 12 := I_31 214 46
  have m_92 : g10 214 46 = g8 214 46 := F_32 _ _ (by unfold fr_M_keepsOne; omega)
  have m_93 : 0 ≤ (g8 214 46) ∧ (g8 214 46) ≤ 12 := I_19 214 46
  have m_94 : g8 214 46 = g6 214 46 := by rw [e_18]; exact zi_u_ni (by decide)
  have m_95 : 0 ≤ (g6 214 46) ∧ (g6 214 46) ≤ 12 := I_15 214 46
  have m_96 : g6 214 46 = g4 214 46 := F_16 _ _ (by unfold fr_M_keepsOne; omega)
  have m_97 : 0 ≤ (g4 214 46) ∧ (g4 214 46) ≤ 12 := I_7 214 46
  have m_98 : g4 214 46 = g2 214 46 := by rw [e_6]; exact zi_u_ni (by decide)
  have m_99 : 0 ≤ (g2 214 46) ∧ (g2 214 46) ≤ 12 := I_3 214 46
  have m_100 : g2 214 46 = g 214 46 := F_4 _ _ (by unfold fr_M_keepsOne; omega)
  have m_101 : 0 ≤ (g 214 46) ∧ (g 214 46) ≤ 12 := I 214 46
  refine k_M_keepsOne I_79 ⟨by omega, by omega⟩ (fun v21 g22 I_103 F_104 b_102 => ?_)
  have F_105 : zk_fr fr_M_keepsMany g g22 := zk_ft F_80 F_104 (by intro a i h; unfold fr_M_keepsOne at h; unfold fr_M_keepsMany; omega)
  intro g24 e_106
  have I_107 : zk_I g24 := by rw [e_106]; exact zk_upd (L := 0) (H := 12) rfl rfl I_103 ⟨by omega, by omega⟩
  have F_108 : zk_fr fr_M_keepsMany g g24 := by rw [e_106]; exact zk_fu F_105 (by unfold fr_M_keepsMany; omega)
  have m_109 : 0 ≤ (g24 214 50) ∧ (g24 214 50) ≤ 14 := I_107 214 50
  have m_110 : g24 214 50 = g22 214 50 := by rw [e_106]; exact zi_u_ni (by decide)
  have m_111 : 0 ≤ (g22 214 50) ∧ (g22 214 50) ≤ 14 := I_103 214 50
  have m_112 : g22 214 50 = g20 214 50 := F_104 _ _ (by unfold fr_M_keepsOne; omega)
  have m_113 : 0 ≤ (g20 214 50) ∧ (g20 214 50) ≤ 14 := I_79 214 50
  have m_114 : g20 214 50 = g18 214 50 := by rw [e_78]; exact zi_u_ni (by decide)
  have m_115 : 0 ≤ (g18 214 50) ∧ (g18 214 50) ≤ 14 := I_75 214 50
  have m_116 : g18 214 50 = g16 214 50 := F_76 _ _ (by unfold fr_M_keepsOne; omega)
  have m_117 : 0 ≤ (g16 214 50) ∧ (g16 214 50) ≤ 14 := I_55 214 50
  have m_118 : g16 214 50 = g14 214 50 := by rw [e_54]; exact zi_u_ni (by decide)
  have m_119 : 0 ≤ (g14 214 50) ∧ (g14 214 50) ≤ 14 := I_51 214 50
  have m_120 : g14 214 50 = g12 214 50 := F_52 _ _ (by unfold fr_M_keepsOne; omega)
  have m_121 : 0 ≤ (g12 214 50) ∧ (g12 214 50) ≤ 14 := I_35 214 50
  have m_122 : g12 214 50 = g10 214 50 := by rw [e_34]; exact zi_u_ni (by decide)
  have m_123 : 0 ≤ (g10 214 50) ∧ (g10 214 50) ≤ 14 := I_31 214 50
  have m_124 : g10 214 50 = g8 214 50 := F_32 _ _ (by unfold fr_M_keepsOne; omega)
  have m_125 : 0 ≤ (g8 214 50) ∧ (g8 214 50) ≤ 14 := I_19 214 50
  have m_126 : g8 214 50 = g6 214 50 := by rw [e_18]; exact zi_u_ni (by decide)
  have m_127 : 0 ≤ (g6 214 50) ∧ (g6 214 50) ≤ 14 := I_15 214 50
  have m_128 : g6 214 50 = g4 214 50 := F_16 _ _ (by unfold fr_M_keepsOne; omega)
  have m_129 : 0 ≤ (g4 214 50) ∧ (g4 214 50) ≤ 14 := I_7 214 50
  have m_130 : g4 214 50 = g2 214 50 := by rw [e_6]; exact zi_u_ni (by decide)
  have m_131 : 0 ≤ (g2 214 50) ∧ (g2 214 50) ≤ 14 := I_3 214 50
  have m_132 : g2 214 50 = g 214 50 := F_4 _ _ (by unfold fr_M_keepsOne; omega)
  have m_133 : 0 ≤ (g 214 50) ∧ (g 214 50) ≤ 14 := I 214 50
  refine k_M_keepsOne I_107 ⟨by omega, by omega⟩ (fun v25 g26 I_135 F_136 b_134 => ?_)
  have F_137 : zk_fr fr_M_keepsMany g g26 := zk_ft F_108 F_136 (by intro a i h; unfold fr_M_keepsOne at h; unfold fr_M_keepsMany; omega)
  intro g28 e_138
  have I_139 : zk_I g28 := by rw [e_138]; exact zk_upd (L := 0) (H := 14) rfl rfl I_135 ⟨by omega, by omega⟩
  have F_140 : zk_fr fr_M_keepsMany g g28 := by rw [e_138]; exact zk_fu F_137 (by unfold fr_M_keepsMany; omega)
  have m_141 : 0 ≤ (g28 214 56) ∧ (g28 214 56) ≤ 40 := I_139 214 56
  have m_142 : g28 214 56 = g26 214 56 := by rw [e_138]; exact zi_u_ni (by decide)
  have m_143 : 0 ≤ (g26 214 56) ∧ (g26 214 56) ≤ 40 := I_135 214 56
  have m_144 : g26 214 56 = g24 214 56 := F_136 _ _ (by unfold fr_M_keepsOne; omega)
  have m_145 : 0 ≤ (g24 214 56) ∧ (g24 214 56) ≤ 40 := I_107 214 56
  have m_146 : g24 214 56 = g22 214 56 := by rw [e_106]; exact zi_u_ni (by decide)
  have m_147 : 0 ≤ (g22 214 56) ∧ (g22 214 56) ≤ 40 := I_103 214 56
  have m_148 : g22 214 56 = g20 214 56 := F_104 _ _ (by unfold fr_M_keepsOne; omega)
  have m_149 : 0 ≤ (g20 214 56) ∧ (g20 214 56) ≤ 40 := I_79 214 56
  have m_150 : g20 214 56 = g18 214 56 := by rw [e_78]; exact zi_u_ni (by decide)
  have m_151 : 0 ≤ (g18 214 56) ∧ (g18 214 56) ≤ 40 := I_75 214 56
  have m_152 : g18 214 56 = g16 214 56 := F_76 _ _ (by unfold fr_M_keepsOne; omega)
  have m_153 : 0 ≤ (g16 214 56) ∧ (g16 214 56) ≤ 40 := I_55 214 56
  have m_154 : g16 214 56 = g14 214 56 := by rw [e_54]; exact zi_u_ni (by decide)
  have m_155 : 0 ≤ (g14 214 56) ∧ (g14 214 56) ≤ 40 := I_51 214 56
  have m_156 : g14 214 56 = g12 214 56 := F_52 _ _ (by unfold fr_M_keepsOne; omega)
  have m_157 : 0 ≤ (g12 214 56) ∧ (g12 214 56) ≤ 40 := I_35 214 56
  have m_158 : g12 214 56 = g10 214 56 := by rw [e_34]; exact zi_u_ni (by decide)
  have m_159 : 0 ≤ (g10 214 56) ∧ (g10 214 56) ≤ 40 := I_31 214 56
  have m_160 : g10 214 56 = g8 214 56 := F_32 _ _ (by unfold fr_M_keepsOne; omega)
  have m_161 : 0 ≤ (g8 214 56) ∧ (g8 214 56) ≤ 40 := I_19 214 56
  have m_162 : g8 214 56 = g6 214 56 := by rw [e_18]; exact zi_u_ni (by decide)
  have m_163 : 0 ≤ (g6 214 56) ∧ (g6 214 56) ≤ 40 := I_15 214 56
  have m_164 : g6 214 56 = g4 214 56 := F_16 _ _ (by unfold fr_M_keepsOne; omega)
  have m_165 : 0 ≤ (g4 214 56) ∧ (g4 214 56) ≤ 40 := I_7 214 56
  have m_166 : g4 214 56 = g2 214 56 := by rw [e_6]; exact zi_u_ni (by decide)
  have m_167 : 0 ≤ (g2 214 56) ∧ (g2 214 56) ≤ 40 := I_3 214 56
  have m_168 : g2 214 56 = g 214 56 := F_4 _ _ (by unfold fr_M_keepsOne; omega)
  have m_169 : 0 ≤ (g 214 56) ∧ (g 214 56) ≤ 40 := I 214 56
  refine k_M_keepsOne I_139 ⟨by omega, by omega⟩ (fun v29 g30 I_171 F_172 b_170 => ?_)
  have F_173 : zk_fr fr_M_keepsMany g g30 := zk_ft F_140 F_172 (by intro a i h; unfold fr_M_keepsOne at h; unfold fr_M_keepsMany; omega)
  intro g32 e_174
  have I_175 : zk_I g32 := by rw [e_174]; exact zk_upd (L := 0) (H := 40) rfl rfl I_171 ⟨by omega, by omega⟩
  have F_176 : zk_fr fr_M_keepsMany g g32 := by rw [e_174]; exact zk_fu F_173 (by unfold fr_M_keepsMany; omega)
  have m_177 : 0 ≤ (g32 214 58) ∧ (g32 214 58) ≤ 12 := I_175 214 58
  have m_178 : g32 214 58 = g30 214 58 := by rw [e_174]; exact zi_u_ni (by decide)
  have m_179 : 0 ≤ (g30 214 58) ∧ (g30 214 58) ≤ 12 := I_171 214 58
  have m_180 : g30 214 58 = g28 214 58 := F_172 _ _ (by unfold fr_M_keepsOne; omega)
  have m_181 : 0 ≤ (g28 214 58) ∧ (g28 214 58) ≤ 12 := I_139 214 58
  have m_182 : g28 214 58 = g26 214 58 := by rw [e_138]; exact zi_u_ni (by decide)
  have m_183 : 0 ≤ (g26 214 58) ∧ (g26 214 58) ≤ 12 := I_135 214 58
  have m_184 : g26 214 58 = g24 214 58 := F_136 _ _ (by unfold fr_M_keepsOne; omega)
  have m_185 : 0 ≤ (g24 214 58) ∧ (g24 214 58) ≤ 12 := I_107 214 58
  have m_186 : g24 214 58 = g22 214 58 := by rw [e_106]; exact zi_u_ni (by decide)
  have m_187 : 0 ≤ (g22 214 58) ∧ (g22 214 58) ≤ 12 := I_103 214 58
  have m_188 : g22 214 58 = g20 214 58 := F_104 _ _ (by unfold fr_M_keepsOne; omega)
  have m_189 : 0 ≤ (g20 214 58) ∧ (g20 214 58) ≤ 12 := I_79 214 58
  have m_190 : g20 214 58 = g18 214 58 := by rw [e_78]; exact zi_u_ni (by decide)
  have m_191 : 0 ≤ (g18 214 58) ∧ (g18 214 58) ≤ 12 := I_75 214 58
  have m_192 : g18 214 58 = g16 214 58 := F_76 _ _ (by unfold fr_M_keepsOne; omega)
  have m_193 : 0 ≤ (g16 214 58) ∧ (g16 214 58) ≤ 12 := I_55 214 58
  have m_194 : g16 214 58 = g14 214 58 := by rw [e_54]; exact zi_u_ni (by decide)
  have m_195 : 0 ≤ (g14 214 58) ∧ (g14 214 58) ≤ 12 := I_51 214 58
  have m_196 : g14 214 58 = g12 214 58 := F_52 _ _ (by unfold fr_M_keepsOne; omega)
  have m_197 : 0 ≤ (g12 214 58) ∧ (g12 214 58) ≤ 12 := I_35 214 58
  have m_198 : g12 214 58 = g10 214 58 := by rw [e_34]; exact zi_u_ni (by decide)
  have m_199 : 0 ≤ (g10 214 58) ∧ (g10 214 58) ≤ 12 := I_31 214 58
  have m_200 : g10 214 58 = g8 214 58 := F_32 _ _ (by unfold fr_M_keepsOne; omega)
  have m_201 : 0 ≤ (g8 214 58) ∧ (g8 214 58) ≤ 12 := I_19 214 58
  have m_202 : g8 214 58 = g6 214 58 := by rw [e_18]; exact zi_u_ni (by decide)
  have m_203 : 0 ≤ (g6 214 58) ∧ (g6 214 58) ≤ 12 := I_15 214 58
  have m_204 : g6 214 58 = g4 214 58 := F_16 _ _ (by unfold fr_M_keepsOne; omega)
  have m_205 : 0 ≤ (g4 214 58) ∧ (g4 214 58) ≤ 12 := I_7 214 58
  have m_206 : g4 214 58 = g2 214 58 := by rw [e_6]; exact zi_u_ni (by decide)
  have m_207 : 0 ≤ (g2 214 58) ∧ (g2 214 58) ≤ 12 := I_3 214 58
  have m_208 : g2 214 58 = g 214 58 := F_4 _ _ (by unfold fr_M_keepsOne; omega)
  have m_209 : 0 ≤ (g 214 58) ∧ (g 214 58) ≤ 12 := I 214 58
  refine k_M_keepsOne I_175 ⟨by omega, by omega⟩ (fun v33 g34 I_211 F_212 b_210 => ?_)
  have F_213 : zk_fr fr_M_keepsMany g g34 := zk_ft F_176 F_212 (by intro a i h; unfold fr_M_keepsOne at h; unfold fr_M_keepsMany; omega)
  intro g36 e_214
  have I_215 : zk_I g36 := by rw [e_214]; exact zk_upd (L := 0) (H := 12) rfl rfl I_211 ⟨by omega, by omega⟩
  have F_216 : zk_fr fr_M_keepsMany g g36 := by rw [e_214]; exact zk_fu F_213 (by unfold fr_M_keepsMany; omega)
  exact hQ _ I_215 F_216
-- SpoutNewsModel.keepsTold()V
def fr_M_keepsTold (a : Nat) (i : Int) : Prop := a = 218 ∨ a = 219 ∨ a = 220 ∨ a = 232 ∨ a = 233 ∨ a = 234 ∨ a = 239 ∨ a = 240 ∨ a = 242 ∨ a = 243 ∨ a = 244 ∨ a = 247 ∨ a = 248 ∨ a = 250 ∨ (a = 214 ∧ i = 63)
set_option maxRecDepth 100000 in
set_option maxHeartbeats 400000 in
theorem k_M_keepsTold_l2 {K94 : zi_M → Prop} {Q : Int → zi_M → Prop} {g0 : zi_M} (hK94 : ∀ (g : zi_M), zk_I g → zk_fr fr_M_keepsTold g0 g → K94 g) (hQ : ∀ g' : zi_M, zk_I g' → zk_fr fr_M_keepsTold g0 g' → Q 0 g') : ∀ (n : Nat) {l1 : Int} {g : zi_M}, zk_I g → zk_fr fr_M_keepsTold g0 g → (0 ≤ l1 ∧ l1 ≤ 10) → 10 - l1 < (n : Int) → w_M_keepsTold_l2 K94 Q n l1 g
  | 0, l1, g, I, F, b0, hm => by exfalso; omega
  | n + 1, l1, g, I, F, b0, hm => by
    unfold w_M_keepsTold_l2
    refine ⟨⟨by omega, by omega⟩, ?_⟩
    refine ⟨fun c24 => ?_, fun c24 => ?_⟩
    · exact hK94 _ I F
    · refine ⟨⟨by omega, by omega⟩, ?_⟩
      have m_1 : 0 ≤ (g 218 l1) ∧ (g 218 l1) ≤ 5 := I 218 l1
      refine k_M_keepsOne I ⟨by omega, by omega⟩ (fun v3 g4 I_3 F_4 b_2 => ?_)
      have F_5 : zk_fr fr_M_keepsTold g0 g4 := zk_ft F F_4 (by intro a i h; unfold fr_M_keepsOne at h; unfold fr_M_keepsTold; omega)
      intro g6 e_6
      have I_7 : zk_I g6 := by rw [e_6]; exact zk_upd (L := 0) (H := 5) rfl rfl I_3 ⟨by omega, by omega⟩
      have F_8 : zk_fr fr_M_keepsTold g0 g6 := by rw [e_6]; exact zk_fu F_5 (by unfold fr_M_keepsTold; omega)
      have m_9 : 0 ≤ (g6 219 l1) ∧ (g6 219 l1) ≤ 3 := I_7 219 l1
      have m_10 : g6 219 l1 = g4 219 l1 := by rw [e_6]; exact zi_u_ne (by decide)
      have m_11 : 0 ≤ (g4 219 l1) ∧ (g4 219 l1) ≤ 3 := I_3 219 l1
      have m_12 : g4 219 l1 = g 219 l1 := F_4 _ _ (by unfold fr_M_keepsOne; omega)
      have m_13 : 0 ≤ (g 219 l1) ∧ (g 219 l1) ≤ 3 := I 219 l1
      refine k_M_keepsOne I_7 ⟨by omega, by omega⟩ (fun v7 g8 I_15 F_16 b_14 => ?_)
      have F_17 : zk_fr fr_M_keepsTold g0 g8 := zk_ft F_8 F_16 (by intro a i h; unfold fr_M_keepsOne at h; unfold fr_M_keepsTold; omega)
      intro g10 e_18
      have I_19 : zk_I g10 := by rw [e_18]; exact zk_upd (L := 0) (H := 3) rfl rfl I_15 ⟨by omega, by omega⟩
      have F_20 : zk_fr fr_M_keepsTold g0 g10 := by rw [e_18]; exact zk_fu F_17 (by unfold fr_M_keepsTold; omega)
      have m_21 : 0 ≤ (g10 220 l1) ∧ (g10 220 l1) ≤ 99 := I_19 220 l1
      have m_22 : g10 220 l1 = g8 220 l1 := by rw [e_18]; exact zi_u_ne (by decide)
      have m_23 : 0 ≤ (g8 220 l1) ∧ (g8 220 l1) ≤ 99 := I_15 220 l1
      have m_24 : g8 220 l1 = g6 220 l1 := F_16 _ _ (by unfold fr_M_keepsOne; omega)
      have m_25 : 0 ≤ (g6 220 l1) ∧ (g6 220 l1) ≤ 99 := I_7 220 l1
      have m_26 : g6 220 l1 = g4 220 l1 := by rw [e_6]; exact zi_u_ne (by decide)
      have m_27 : 0 ≤ (g4 220 l1) ∧ (g4 220 l1) ≤ 99 := I_3 220 l1
      have m_28 : g4 220 l1 = g 220 l1 := F_4 _ _ (by unfold fr_M_keepsOne; omega)
      have m_29 : 0 ≤ (g 220 l1) ∧ (g 220 l1) ≤ 99 := I 220 l1
      refine k_M_keepsOne I_19 ⟨by omega, by omega⟩ (fun v11 g12 I_31 F_32 b_30 => ?_)
      have F_33 : zk_fr fr_M_keepsTold g0 g12 := zk_ft F_20 F_32 (by intro a i h; unfold fr_M_keepsOne at h; unfold fr_M_keepsTold; omega)
      intro g14 e_34
      have I_35 : zk_I g14 := by rw [e_34]; exact zk_upd (L := 0) (H := 99) rfl rfl I_31 ⟨by omega, by omega⟩
      have F_36 : zk_fr fr_M_keepsTold g0 g14 := by rw [e_34]; exact zk_fu F_33 (by unfold fr_M_keepsTold; omega)
      refine ⟨⟨by omega, by omega⟩, ?_⟩
      have m_37 : 0 ≤ (g14 232 l1) ∧ (g14 232 l1) ≤ 10 := I_35 232 l1
      have m_38 : g14 232 l1 = g12 232 l1 := by rw [e_34]; exact zi_u_ne (by decide)
      have m_39 : 0 ≤ (g12 232 l1) ∧ (g12 232 l1) ≤ 10 := I_31 232 l1
      have m_40 : g12 232 l1 = g10 232 l1 := F_32 _ _ (by unfold fr_M_keepsOne; omega)
      have m_41 : 0 ≤ (g10 232 l1) ∧ (g10 232 l1) ≤ 10 := I_19 232 l1
      have m_42 : g10 232 l1 = g8 232 l1 := by rw [e_18]; exact zi_u_ne (by decide)
      have m_43 : 0 ≤ (g8 232 l1) ∧ (g8 232 l1) ≤ 10 := I_15 232 l1
      have m_44 : g8 232 l1 = g6 232 l1 := F_16 _ _ (by unfold fr_M_keepsOne; omega)
      have m_45 : 0 ≤ (g6 232 l1) ∧ (g6 232 l1) ≤ 10 := I_7 232 l1
      have m_46 : g6 232 l1 = g4 232 l1 := by rw [e_6]; exact zi_u_ne (by decide)
      have m_47 : 0 ≤ (g4 232 l1) ∧ (g4 232 l1) ≤ 10 := I_3 232 l1
      have m_48 : g4 232 l1 = g 232 l1 := F_4 _ _ (by unfold fr_M_keepsOne; omega)
      have m_49 : 0 ≤ (g 232 l1) ∧ (g 232 l1) ≤ 10 := I 232 l1
      refine k_M_keepsOne I_35 ⟨by omega, by omega⟩ (fun v16 g17 I_51 F_52 b_50 => ?_)
      have F_53 : zk_fr fr_M_keepsTold g0 g17 := zk_ft F_36 F_52 (by intro a i h; unfold fr_M_keepsOne at h; unfold fr_M_keepsTold; omega)
      intro g19 e_54
      have I_55 : zk_I g19 := by rw [e_54]; exact zk_upd (L := 0) (H := 10) rfl rfl I_51 ⟨by omega, by omega⟩
      have F_56 : zk_fr fr_M_keepsTold g0 g19 := by rw [e_54]; exact zk_fu F_53 (by unfold fr_M_keepsTold; omega)
      have m_57 : 0 ≤ (g19 242 l1) ∧ (g19 242 l1) ≤ 1023 := I_55 242 l1
      have m_58 : g19 242 l1 = g17 242 l1 := by rw [e_54]; exact zi_u_ne (by decide)
      have m_59 : 0 ≤ (g17 242 l1) ∧ (g17 242 l1) ≤ 1023 := I_51 242 l1
      have m_60 : g17 242 l1 = g14 242 l1 := F_52 _ _ (by unfold fr_M_keepsOne; omega)
      have m_61 : 0 ≤ (g14 242 l1) ∧ (g14 242 l1) ≤ 1023 := I_35 242 l1
      have m_62 : g14 242 l1 = g12 242 l1 := by rw [e_34]; exact zi_u_ne (by decide)
      have m_63 : 0 ≤ (g12 242 l1) ∧ (g12 242 l1) ≤ 1023 := I_31 242 l1
      have m_64 : g12 242 l1 = g10 242 l1 := F_32 _ _ (by unfold fr_M_keepsOne; omega)
      have m_65 : 0 ≤ (g10 242 l1) ∧ (g10 242 l1) ≤ 1023 := I_19 242 l1
      have m_66 : g10 242 l1 = g8 242 l1 := by rw [e_18]; exact zi_u_ne (by decide)
      have m_67 : 0 ≤ (g8 242 l1) ∧ (g8 242 l1) ≤ 1023 := I_15 242 l1
      have m_68 : g8 242 l1 = g6 242 l1 := F_16 _ _ (by unfold fr_M_keepsOne; omega)
      have m_69 : 0 ≤ (g6 242 l1) ∧ (g6 242 l1) ≤ 1023 := I_7 242 l1
      have m_70 : g6 242 l1 = g4 242 l1 := by rw [e_6]; exact zi_u_ne (by decide)
      have m_71 : 0 ≤ (g4 242 l1) ∧ (g4 242 l1) ≤ 1023 := I_3 242 l1
      have m_72 : g4 242 l1 = g 242 l1 := F_4 _ _ (by unfold fr_M_keepsOne; omega)
      have m_73 : 0 ≤ (g 242 l1) ∧ (g 242 l1) ≤ 1023 := I 242 l1
      refine k_M_keepsOne I_55 ⟨by omega, by omega⟩ (fun v20 g21 I_75 F_76 b_74 => ?_)
      have F_77 : zk_fr fr_M_keepsTold g0 g21 := zk_ft F_56 F_76 (by intro a i h; unfold fr_M_keepsOne at h; unfold fr_M_keepsTold; omega)
      intro g23 e_78
      have I_79 : zk_I g23 := by rw [e_78]; exact zk_upd (L := 0) (H := 1023) rfl rfl I_75 ⟨by omega, by omega⟩
      have F_80 : zk_fr fr_M_keepsTold g0 g23 := by rw [e_78]; exact zk_fu F_77 (by unfold fr_M_keepsTold; omega)
      exact k_M_keepsTold_l2 hK94 hQ n I_79 F_80 ⟨by omega, by omega⟩ (by omega)
set_option maxRecDepth 100000 in
set_option maxHeartbeats 400000 in
theorem k_M_keepsTold_l96 {K124 : zi_M → Prop} {Q : Int → zi_M → Prop} {g0 : zi_M} (hK124 : ∀ (g : zi_M), zk_I g → zk_fr fr_M_keepsTold g0 g → K124 g) (hQ : ∀ g' : zi_M, zk_I g' → zk_fr fr_M_keepsTold g0 g' → Q 0 g') : ∀ (n : Nat) {l1 : Int} {g : zi_M}, zk_I g → zk_fr fr_M_keepsTold g0 g → (0 ≤ l1 ∧ l1 ≤ 8) → 8 - l1 < (n : Int) → w_M_keepsTold_l96 K124 Q n l1 g
  | 0, l1, g, I, F, b0, hm => by exfalso; omega
  | n + 1, l1, g, I, F, b0, hm => by
    unfold w_M_keepsTold_l96
    refine ⟨⟨by omega, by omega⟩, ?_⟩
    refine ⟨fun c32 => ?_, fun c32 => ?_⟩
    · exact hK124 _ I F
    · refine ⟨⟨by omega, by omega⟩, ?_⟩
      have m_83 : 0 ≤ (g 239 l1) ∧ (g 239 l1) ≤ 1023 := I 239 l1
      refine k_M_keepsOne I ⟨by omega, by omega⟩ (fun v28 g29 I_85 F_86 b_84 => ?_)
      have F_87 : zk_fr fr_M_keepsTold g0 g29 := zk_ft F F_86 (by intro a i h; unfold fr_M_keepsOne at h; unfold fr_M_keepsTold; omega)
      intro g31 e_88
      have I_89 : zk_I g31 := by rw [e_88]; exact zk_upd (L := 0) (H := 1023) rfl rfl I_85 ⟨by omega, by omega⟩
      have F_90 : zk_fr fr_M_keepsTold g0 g31 := by rw [e_88]; exact zk_fu F_87 (by unfold fr_M_keepsTold; omega)
      exact k_M_keepsTold_l96 hK124 hQ n I_89 F_90 ⟨by omega, by omega⟩ (by omega)
set_option maxRecDepth 100000 in
set_option maxHeartbeats 400000 in
theorem k_M_keepsTold_l126 {K170 : zi_M → Prop} {Q : Int → zi_M → Prop} {g0 : zi_M} (hK170 : ∀ (g : zi_M), zk_I g → zk_fr fr_M_keepsTold g0 g → K170 g) (hQ : ∀ g' : zi_M, zk_I g' → zk_fr fr_M_keepsTold g0 g' → Q 0 g') : ∀ (n : Nat) {l1 : Int} {g : zi_M}, zk_I g → zk_fr fr_M_keepsTold g0 g → (0 ≤ l1 ∧ l1 ≤ 12) → 12 - l1 < (n : Int) → w_M_keepsTold_l126 K170 Q n l1 g
  | 0, l1, g, I, F, b0, hm => by exfalso; omega
  | n + 1, l1, g, I, F, b0, hm => by
    unfold w_M_keepsTold_l126
    refine ⟨⟨by omega, by omega⟩, ?_⟩
    refine ⟨fun c44 => ?_, fun c44 => ?_⟩
    · exact hK170 _ I F
    · refine ⟨⟨by omega, by omega⟩, ?_⟩
      have m_93 : 0 ≤ (g 240 l1) ∧ (g 240 l1) ≤ 79 := I 240 l1
      refine k_M_keepsOne I ⟨by omega, by omega⟩ (fun v36 g37 I_95 F_96 b_94 => ?_)
      have F_97 : zk_fr fr_M_keepsTold g0 g37 := zk_ft F F_96 (by intro a i h; unfold fr_M_keepsOne at h; unfold fr_M_keepsTold; omega)
      intro g39 e_98
      have I_99 : zk_I g39 := by rw [e_98]; exact zk_upd (L := 0) (H := 79) rfl rfl I_95 ⟨by omega, by omega⟩
      have F_100 : zk_fr fr_M_keepsTold g0 g39 := by rw [e_98]; exact zk_fu F_97 (by unfold fr_M_keepsTold; omega)
      have m_101 : 0 ≤ (g39 248 l1) ∧ (g39 248 l1) ≤ 60 := I_99 248 l1
      have m_102 : g39 248 l1 = g37 248 l1 := by rw [e_98]; exact zi_u_ne (by decide)
      have m_103 : 0 ≤ (g37 248 l1) ∧ (g37 248 l1) ≤ 60 := I_95 248 l1
      have m_104 : g37 248 l1 = g 248 l1 := F_96 _ _ (by unfold fr_M_keepsOne; omega)
      have m_105 : 0 ≤ (g 248 l1) ∧ (g 248 l1) ≤ 60 := I 248 l1
      refine k_M_keepsOne I_99 ⟨by omega, by omega⟩ (fun v40 g41 I_107 F_108 b_106 => ?_)
      have F_109 : zk_fr fr_M_keepsTold g0 g41 := zk_ft F_100 F_108 (by intro a i h; unfold fr_M_keepsOne at h; unfold fr_M_keepsTold; omega)
      intro g43 e_110
      have I_111 : zk_I g43 := by rw [e_110]; exact zk_upd (L := 0) (H := 60) rfl rfl I_107 ⟨by omega, by omega⟩
      have F_112 : zk_fr fr_M_keepsTold g0 g43 := by rw [e_110]; exact zk_fu F_109 (by unfold fr_M_keepsTold; omega)
      exact k_M_keepsTold_l126 hK170 hQ n I_111 F_112 ⟨by omega, by omega⟩ (by omega)
set_option maxRecDepth 100000 in
set_option maxHeartbeats 400000 in
theorem k_M_keepsTold_l172 {K200 : zi_M → Prop} {Q : Int → zi_M → Prop} {g0 : zi_M} (hK200 : ∀ (g : zi_M), zk_I g → zk_fr fr_M_keepsTold g0 g → K200 g) (hQ : ∀ g' : zi_M, zk_I g' → zk_fr fr_M_keepsTold g0 g' → Q 0 g') : ∀ (n : Nat) {l1 : Int} {g : zi_M}, zk_I g → zk_fr fr_M_keepsTold g0 g → (0 ≤ l1 ∧ l1 ≤ 16) → 16 - l1 < (n : Int) → w_M_keepsTold_l172 K200 Q n l1 g
  | 0, l1, g, I, F, b0, hm => by exfalso; omega
  | n + 1, l1, g, I, F, b0, hm => by
    unfold w_M_keepsTold_l172
    refine ⟨⟨by omega, by omega⟩, ?_⟩
    refine ⟨fun c52 => ?_, fun c52 => ?_⟩
    · exact hK200 _ I F
    · refine ⟨⟨by omega, by omega⟩, ?_⟩
      have m_115 := zk_latin I (i := l1)
      refine k_M_keepsOne I ⟨by omega, by omega⟩ (fun v48 g49 I_117 F_118 b_116 => ?_)
      have F_119 : zk_fr fr_M_keepsTold g0 g49 := zk_ft F F_118 (by intro a i h; unfold fr_M_keepsOne at h; unfold fr_M_keepsTold; omega)
      intro g51 e_120
      have I_121 : zk_I g51 := by rw [e_120]; exact zk_upd (zk_ll (i := l1) (by omega)).1 (zk_ll (i := l1) (by omega)).2 I_117 ⟨by omega, by omega⟩
      have F_122 : zk_fr fr_M_keepsTold g0 g51 := by rw [e_120]; exact zk_fu F_119 (by unfold fr_M_keepsTold; omega)
      exact k_M_keepsTold_l172 hK200 hQ n I_121 F_122 ⟨by omega, by omega⟩ (by omega)
set_option maxRecDepth 100000 in
set_option maxHeartbeats 400000 in
theorem k_M_keepsTold_l202 {K230 : zi_M → Prop} {Q : Int → zi_M → Prop} {g0 : zi_M} (hK230 : ∀ (g : zi_M), zk_I g → zk_fr fr_M_keepsTold g0 g → K230 g) (hQ : ∀ g' : zi_M, zk_I g' → zk_fr fr_M_keepsTold g0 g' → Q 0 g') : ∀ (n : Nat) {l1 : Int} {g : zi_M}, zk_I g → zk_fr fr_M_keepsTold g0 g → (0 ≤ l1 ∧ l1 ≤ 32) → 32 - l1 < (n : Int) → w_M_keepsTold_l202 K230 Q n l1 g
  | 0, l1, g, I, F, b0, hm => by exfalso; omega
  | n + 1, l1, g, I, F, b0, hm => by
    unfold w_M_keepsTold_l202
    refine ⟨⟨by omega, by omega⟩, ?_⟩
    refine ⟨fun c60 => ?_, fun c60 => ?_⟩
    · exact hK230 _ I F
    · refine ⟨⟨by omega, by omega⟩, ?_⟩
      have m_125 := zk_mason I (i := l1)
      refine k_M_keepsOne I ⟨by omega, by omega⟩ (fun v56 g57 I_127 F_128 b_126 => ?_)
      have F_129 : zk_fr fr_M_keepsTold g0 g57 := zk_ft F F_128 (by intro a i h; unfold fr_M_keepsOne at h; unfold fr_M_keepsTold; omega)
      intro g59 e_130
      have I_131 : zk_I g59 := by rw [e_130]; exact zk_upd (zk_lm (i := l1) (by omega)).1 (zk_lm (i := l1) (by omega)).2 I_127 ⟨by omega, by omega⟩
      have F_132 : zk_fr fr_M_keepsTold g0 g59 := by rw [e_130]; exact zk_fu F_129 (by unfold fr_M_keepsTold; omega)
      exact k_M_keepsTold_l202 hK230 hQ n I_131 F_132 ⟨by omega, by omega⟩ (by omega)
set_option maxRecDepth 100000 in
set_option maxHeartbeats 400000 in
theorem k_M_keepsTold_l232 {K260 : zi_M → Prop} {Q : Int → zi_M → Prop} {g0 : zi_M} (hK260 : ∀ (g : zi_M), zk_I g → zk_fr fr_M_keepsTold g0 g → K260 g) (hQ : ∀ g' : zi_M, zk_I g' → zk_fr fr_M_keepsTold g0 g' → Q 0 g') : ∀ (n : Nat) {l1 : Int} {g : zi_M}, zk_I g → zk_fr fr_M_keepsTold g0 g → (0 ≤ l1 ∧ l1 ≤ 40) → 40 - l1 < (n : Int) → w_M_keepsTold_l232 K260 Q n l1 g
  | 0, l1, g, I, F, b0, hm => by exfalso; omega
  | n + 1, l1, g, I, F, b0, hm => by
    unfold w_M_keepsTold_l232
    refine ⟨⟨by omega, by omega⟩, ?_⟩
    refine ⟨fun c68 => ?_, fun c68 => ?_⟩
    · exact hK260 _ I F
    · refine ⟨⟨by omega, by omega⟩, ?_⟩
      have m_135 : 0 ≤ (g 247 l1) ∧ (g 247 l1) ≤ 9 := I 247 l1
      refine k_M_keepsOne I ⟨by omega, by omega⟩ (fun v64 g65 I_137 F_138 b_136 => ?_)
      have F_139 : zk_fr fr_M_keepsTold g0 g65 := zk_ft F F_138 (by intro a i h; unfold fr_M_keepsOne at h; unfold fr_M_keepsTold; omega)
      intro g67 e_140
      have I_141 : zk_I g67 := by rw [e_140]; exact zk_upd (L := 0) (H := 9) rfl rfl I_137 ⟨by omega, by omega⟩
      have F_142 : zk_fr fr_M_keepsTold g0 g67 := by rw [e_140]; exact zk_fu F_139 (by unfold fr_M_keepsTold; omega)
      exact k_M_keepsTold_l232 hK260 hQ n I_141 F_142 ⟨by omega, by omega⟩ (by omega)
set_option maxRecDepth 100000 in
set_option maxHeartbeats 400000 in
theorem k_M_keepsTold_l262 {K290 : zi_M → Prop} {Q : Int → zi_M → Prop} {g0 : zi_M} (hK290 : ∀ (g : zi_M), zk_I g → zk_fr fr_M_keepsTold g0 g → K290 g) (hQ : ∀ g' : zi_M, zk_I g' → zk_fr fr_M_keepsTold g0 g' → Q 0 g') : ∀ (n : Nat) {l1 : Int} {g : zi_M}, zk_I g → zk_fr fr_M_keepsTold g0 g → (0 ≤ l1 ∧ l1 ≤ 32) → 32 - l1 < (n : Int) → w_M_keepsTold_l262 K290 Q n l1 g
  | 0, l1, g, I, F, b0, hm => by exfalso; omega
  | n + 1, l1, g, I, F, b0, hm => by
    unfold w_M_keepsTold_l262
    refine ⟨⟨by omega, by omega⟩, ?_⟩
    refine ⟨fun c76 => ?_, fun c76 => ?_⟩
    · exact hK290 _ I F
    · refine ⟨⟨by omega, by omega⟩, ?_⟩
      have m_145 : (-2147483648) ≤ (g 233 l1) ∧ (g 233 l1) ≤ 2147483647 := I 233 l1
      refine k_M_keepsOne I ⟨by omega, by omega⟩ (fun v72 g73 I_147 F_148 b_146 => ?_)
      have F_149 : zk_fr fr_M_keepsTold g0 g73 := zk_ft F F_148 (by intro a i h; unfold fr_M_keepsOne at h; unfold fr_M_keepsTold; omega)
      intro g75 e_150
      have I_151 : zk_I g75 := by rw [e_150]; exact zk_upd (L := (-2147483648)) (H := 2147483647) rfl rfl I_147 ⟨by omega, by omega⟩
      have F_152 : zk_fr fr_M_keepsTold g0 g75 := by rw [e_150]; exact zk_fu F_149 (by unfold fr_M_keepsTold; omega)
      exact k_M_keepsTold_l262 hK290 hQ n I_151 F_152 ⟨by omega, by omega⟩ (by omega)
set_option maxRecDepth 100000 in
set_option maxHeartbeats 400000 in
theorem k_M_keepsTold_l292 {K320 : zi_M → Prop} {Q : Int → zi_M → Prop} {g0 : zi_M} (hK320 : ∀ (g : zi_M), zk_I g → zk_fr fr_M_keepsTold g0 g → K320 g) (hQ : ∀ g' : zi_M, zk_I g' → zk_fr fr_M_keepsTold g0 g' → Q 0 g') : ∀ (n : Nat) {l1 : Int} {g : zi_M}, zk_I g → zk_fr fr_M_keepsTold g0 g → (0 ≤ l1 ∧ l1 ≤ 64) → 64 - l1 < (n : Int) → w_M_keepsTold_l292 K320 Q n l1 g
  | 0, l1, g, I, F, b0, hm => by exfalso; omega
  | n + 1, l1, g, I, F, b0, hm => by
    unfold w_M_keepsTold_l292
    refine ⟨⟨by omega, by omega⟩, ?_⟩
    refine ⟨fun c84 => ?_, fun c84 => ?_⟩
    · exact hK320 _ I F
    · refine ⟨⟨by omega, by omega⟩, ?_⟩
      have m_155 : (-2147483648) ≤ (g 234 l1) ∧ (g 234 l1) ≤ 2147483647 := I 234 l1
      refine k_M_keepsOne I ⟨by omega, by omega⟩ (fun v80 g81 I_157 F_158 b_156 => ?_)
      have F_159 : zk_fr fr_M_keepsTold g0 g81 := zk_ft F F_158 (by intro a i h; unfold fr_M_keepsOne at h; unfold fr_M_keepsTold; omega)
      intro g83 e_160
      have I_161 : zk_I g83 := by rw [e_160]; exact zk_upd (L := (-2147483648)) (H := 2147483647) rfl rfl I_157 ⟨by omega, by omega⟩
      have F_162 : zk_fr fr_M_keepsTold g0 g83 := by rw [e_160]; exact zk_fu F_159 (by unfold fr_M_keepsTold; omega)
      exact k_M_keepsTold_l292 hK320 hQ n I_161 F_162 ⟨by omega, by omega⟩ (by omega)
set_option maxRecDepth 100000 in
set_option maxHeartbeats 400000 in
theorem k_M_keepsTold {g : zi_M} {Q : Int → zi_M → Prop} (I : zk_I g) (hQ : ∀ g' : zi_M, zk_I g' → zk_fr fr_M_keepsTold g g' → Q 0 g') : w_M_keepsTold g Q := by
  unfold w_M_keepsTold
  refine ⟨((10 - 0).toNat + 1), k_M_keepsTold_l2 (fun g25 I_81 F_82 => ?_) hQ ((10 - 0).toNat + 1) I (zk_f0 _) ⟨by omega, by omega⟩ (by omega)⟩
  refine ⟨((8 - 0).toNat + 1), k_M_keepsTold_l96 (fun g33 I_91 F_92 => ?_) hQ ((8 - 0).toNat + 1) I_81 F_82 ⟨by omega, by omega⟩ (by omega)⟩
  refine ⟨((12 - 0).toNat + 1), k_M_keepsTold_l126 (fun g45 I_113 F_114 => ?_) hQ ((12 - 0).toNat + 1) I_91 F_92 ⟨by omega, by omega⟩ (by omega)⟩
  refine ⟨((16 - 0).toNat + 1), k_M_keepsTold_l172 (fun g53 I_123 F_124 => ?_) hQ ((16 - 0).toNat + 1) I_113 F_114 ⟨by omega, by omega⟩ (by omega)⟩
  refine ⟨((32 - 0).toNat + 1), k_M_keepsTold_l202 (fun g61 I_133 F_134 => ?_) hQ ((32 - 0).toNat + 1) I_123 F_124 ⟨by omega, by omega⟩ (by omega)⟩
  refine ⟨((40 - 0).toNat + 1), k_M_keepsTold_l232 (fun g69 I_143 F_144 => ?_) hQ ((40 - 0).toNat + 1) I_133 F_134 ⟨by omega, by omega⟩ (by omega)⟩
  refine ⟨((32 - 0).toNat + 1), k_M_keepsTold_l262 (fun g77 I_153 F_154 => ?_) hQ ((32 - 0).toNat + 1) I_143 F_144 ⟨by omega, by omega⟩ (by omega)⟩
  refine ⟨((64 - 0).toNat + 1), k_M_keepsTold_l292 (fun g85 I_163 F_164 => ?_) hQ ((64 - 0).toNat + 1) I_153 F_154 ⟨by omega, by omega⟩ (by omega)⟩
  exact hQ _ I_163 F_164
