-- by program (wip/gen/mkz.py)
-- SpoutNewsModel.lesser(II)I
set_option maxRecDepth 100000 in
set_option maxHeartbeats 400000 in
theorem k_M_lesser {l1 : Int} {l2 : Int} {g : zi_M} {Q : Int → zi_M → Prop} (I : zk_I g) (p1 : (-2147483648) ≤ l1 ∧ l1 ≤ 2147483647) (p2 : (-2147483648) ≤ l2 ∧ l2 ≤ 2147483647) (hQ : ∀ v : Int, (l2 ≤ l1 → v = l2) → (l1 < l2 → v = l1) → Q v g) : w_M_lesser l1 l2 g Q := by
  unfold w_M_lesser
  refine ⟨⟨by omega, by omega⟩, ⟨by omega, by omega⟩, ?_⟩
  refine ⟨fun c3 => ?_, fun c3 => ?_⟩
  · exact hQ _ (by intros; omega) (by intros; omega)
  · exact hQ _ (by intros; omega) (by intros; omega)
-- SpoutNewsModel.isDry(I)V
def fr_M_isDry (a : Nat) (i : Int) : Prop := a = 215 ∨ a = 221 ∨ a = 235 ∨ a = 236
set_option maxRecDepth 100000 in
set_option maxHeartbeats 400000 in
theorem k_M_isDry_l2 {l1 : Int} {K51 : zi_M → Prop} {Q : Int → zi_M → Prop} {g0 : zi_M} (q1 : 0 ≤ l1 ∧ l1 ≤ 9) (hK51 : ∀ (g : zi_M), zk_I g → zk_fr fr_M_isDry g0 g → K51 g) (hQ : ∀ g' : zi_M, zk_I g' → zk_fr fr_M_isDry g0 g' → Q 0 g') : ∀ (n : Nat) {l2 : Int} {g : zi_M}, zk_I g → zk_fr fr_M_isDry g0 g → (0 ≤ l2 ∧ l2 ≤ 8) → 8 - l2 < (n : Int) → w_M_isDry_l2 l1 K51 Q n l2 g
  | 0, l2, g, I, F, b0, hm => by exfalso; omega
  | n + 1, l2, g, I, F, b0, hm => by
    unfold w_M_isDry_l2
    have m_1 : 0 ≤ (g 214 7) ∧ (g 214 7) ≤ 8 := I 214 7
    refine ⟨⟨by omega, by omega⟩, ⟨by omega, by omega⟩, ?_⟩
    refine ⟨fun c13 => ?_, fun c13 => ?_⟩
    · exact hK51 _ I F
    · refine ⟨⟨by omega, by omega⟩, ?_⟩
      have m_2 := zk_now6 I (i := (6 + l1)) (by omega)
      refine ⟨⟨by omega, by omega⟩, ?_⟩
      refine ⟨fun c12 => ?_, fun c12 => ?_⟩
      · exact k_M_isDry_l2 q1 hK51 hQ n I F ⟨by omega, by omega⟩ (by omega)
      · refine ⟨⟨by omega, by omega⟩, ?_⟩
        have m_3 := zk_now244 I (i := (244 + l2)) (by omega)
        refine ⟨⟨by omega, by omega⟩, ⟨by omega, by omega⟩, ?_⟩
        refine ⟨fun c11 => ?_, fun c11 => ?_⟩
        · exact k_M_isDry_l2 q1 hK51 hQ n I F ⟨by omega, by omega⟩ (by omega)
        · refine k_M_hears I ⟨by omega, by omega⟩ ⟨by omega, by omega⟩ (fun g9 I_4 F_5 => ?_)
          have F_6 : zk_fr fr_M_isDry g0 g9 := zk_ft F F_5 (fun a i => (fun h => Or.elim h (fun h => (Or.inl h)) (fun h => Or.elim h (fun h => (Or.inr (Or.inl h))) (fun h => Or.elim h (fun h => (Or.inr (Or.inr (Or.inl h)))) (fun h => (Or.inr (Or.inr (Or.inr h))))))))
          exact k_M_isDry_l2 q1 hK51 hQ n I_4 F_6 ⟨by omega, by omega⟩ (by omega)
set_option maxRecDepth 100000 in
set_option maxHeartbeats 400000 in
theorem k_M_isDry {l1 : Int} {g : zi_M} {Q : Int → zi_M → Prop} (I : zk_I g) (p1 : 0 ≤ l1 ∧ l1 ≤ 9) (hQ : ∀ g' : zi_M, zk_I g' → zk_fr fr_M_isDry g g' → Q 0 g') : w_M_isDry l1 g Q := by
  unfold w_M_isDry
  refine ⟨((8 - 0 : Int).toNat + 1), k_M_isDry_l2 (l1 := l1) ⟨by omega, by omega⟩ (fun g14 I_7 F_8 => ?_) hQ ((8 - 0 : Int).toNat + 1) I (zk_f0 _) ⟨by omega, by omega⟩ (by omega)⟩
  refine ⟨⟨by omega, by omega⟩, ?_⟩
  have m_9 := zk_now16 I_7 (i := (16 + l1)) (by omega)
  refine k_M_lesser I_7 ⟨by omega, by omega⟩ ⟨by omega, by omega⟩ (fun v16 b_10 b_11 => ?_)
  intro g19 e_12
  have I_13 : zk_I g19 := by rw [e_12]; exact zk_upd (zk_nl16 (i := 16 + l1) (by omega)).1 (zk_nl16 (i := 16 + l1) (by omega)).2 I_7 ⟨by omega, by omega⟩
  have F_14 : zk_fr fr_M_isDry g g19 := by rw [e_12]; exact zk_fu F_8 (Or.inl rfl)
  exact hQ _ I_13 F_14
-- SpoutNewsModel.canSay(I)Z
set_option maxRecDepth 100000 in
set_option maxHeartbeats 400000 in
theorem k_M_canSay {l1 : Int} {g : zi_M} {Q : Int → zi_M → Prop} (I : zk_I g) (p1 : 0 ≤ l1 ∧ l1 ≤ 9) (hQ : ∀ v : Int, ((g 215 (6 + l1)) = 0 → v = 1) → (¬ (g 215 (6 + l1)) = 0 → ¬ (g 215 (6 + l1)) = 1 → v = 0) → (¬ (g 215 (6 + l1)) = 0 → (g 215 (6 + l1)) = 1 → (g 215 3) < 5 → v = 0) → (¬ (g 215 (6 + l1)) = 0 → (g 215 (6 + l1)) = 1 → 5 ≤ (g 215 3) → v = 1) → Q v g) : w_M_canSay l1 g Q := by
  unfold w_M_canSay
  refine ⟨⟨by omega, by omega⟩, ?_⟩
  have m_1 := zk_now6 I (i := (6 + l1)) (by omega)
  refine ⟨⟨by omega, by omega⟩, ?_⟩
  refine ⟨fun c6 => ?_, fun c6 => ?_⟩
  · have m_2 := zk_rng I 215 3
    exact hQ _ (by intros; omega) (by intros; omega) (by intros; omega) (by intros; omega)
  · refine ⟨fun c5 => ?_, fun c5 => ?_⟩
    · have m_3 := zk_rng I 215 3
      exact hQ _ (by intros; omega) (by intros; omega) (by intros; omega) (by intros; omega)
    · have m_4 := zk_rng I 215 3
      refine ⟨⟨by omega, by omega⟩, ?_⟩
      refine ⟨fun c4 => ?_, fun c4 => ?_⟩
      · exact hQ _ (by intros; omega) (by intros; omega) (by intros; omega) (by intros; omega)
      · exact hQ _ (by intros; omega) (by intros; omega) (by intros; omega) (by intros; omega)
-- SpoutNewsModel.slipOf(II)I
def fr_M_slipOf (a : Nat) (i : Int) : Prop := a = 235 ∨ a = 236
set_option maxRecDepth 100000 in
set_option maxHeartbeats 400000 in
theorem k_M_slipOf {l1 : Int} {l2 : Int} {g : zi_M} {Q : Int → zi_M → Prop} (I : zk_I g) (p1 : 0 ≤ l1 ∧ l1 ≤ 9) (p2 : 0 ≤ l2 ∧ l2 ≤ 15) (hQ : ∀ (v : Int) (g' : zi_M), zk_I g' → zk_fr fr_M_slipOf g g' → (0 ≤ v ∧ v ≤ 1000) → Q v g') : w_M_slipOf l1 l2 g Q := by
  unfold w_M_slipOf
  refine k_M_asks I ⟨by omega, by omega⟩ ⟨by omega, by omega⟩ (fun g2 I_1 F_2 => ?_)
  have F_3 : zk_fr fr_M_slipOf g g2 := zk_ft (zk_f0 _) F_2 (fun a i => (fun h => (Or.inl h)))
  have m_4 := zk_rng I_1 215 3
  have m_5 : g2 215 3 = g 215 3 := F_2 _ _ (by unfold fr_M_asks; omega)
  have m_6 := zk_rng I 215 3
  have m_7 := zi_r_w (20 * (g2 215 3))
  refine k_M_lawTells I_1 ⟨by omega, by omega⟩ ⟨by omega, by omega⟩ ⟨by omega, by omega⟩ (fun v4 g5 I_9 F_10 b_8 => ?_)
  have F_11 : zk_fr fr_M_slipOf g g5 := zk_ft F_3 F_10 (fun a i => (fun h => (Or.inr h)))
  exact hQ _ _ I_9 F_11 ⟨by omega, by omega⟩
-- SpoutNewsModel.draw(I)I
def fr_M_draw (a : Nat) (i : Int) : Prop := a = 215
set_option maxRecDepth 100000 in
set_option maxHeartbeats 400000 in
theorem k_M_draw {l1 : Int} {g : zi_M} {Q : Int → zi_M → Prop} (I : zk_I g) (p1 : 1000 ≤ l1 ∧ l1 ≤ 1000) (hQ : ∀ (v : Int) (g' : zi_M), zk_I g' → zk_fr fr_M_draw g g' → (0 ≤ v ∧ v ≤ 999) → Q v g') : w_M_draw l1 g Q := by
  unfold w_M_draw
  have m_4 := zk_rng I 215 1
  have m_5 := zi_r_w ((1664525 * (g 215 1)) + 1013904223)
  intro g1 e_1
  have I_2 : zk_I g1 := by rw [e_1]; exact zk_upd (zk_nl0 (i := 1) (by omega)).1 (zk_nl0 (i := 1) (by omega)).2 I ⟨by omega, by omega⟩
  have F_3 : zk_fr fr_M_draw g g1 := by rw [e_1]; exact zk_fu (zk_f0 _) rfl
  refine ⟨⟨by omega, by omega⟩, (by omega), ?_⟩
  have m_6 := zk_rng I_2 215 1
  have m_7 : g1 215 1 = zi_w ((1664525 * (g 215 1)) + 1013904223) := by rw [e_1]; exact zi_u_eq
  have m_8 := zi_ush_f (g1 215 1) 8
  have m_9 := zi_tmod_f (zi_ush (g1 215 1) 8) l1
  exact hQ _ _ I_2 F_3 ⟨by omega, by omega⟩
-- SpoutNewsModel.saysAs(II)I
def fr_M_saysAs (a : Nat) (i : Int) : Prop := a = 215 ∨ a = 235 ∨ a = 236
set_option maxRecDepth 100000 in
set_option maxHeartbeats 400000 in
theorem k_M_saysAs_b47 {l2 : Int} {s0 : Int} {Q : Int → zi_M → Prop} {g : zi_M} {g0 : zi_M} (I : zk_I g) (F : zk_fr fr_M_saysAs g0 g) (p2 : 0 ≤ l2 ∧ l2 ≤ 15) (ps0 : 0 ≤ s0 ∧ s0 ≤ 1) (hQ : ∀ (v : Int) (g' : zi_M), zk_I g' → zk_fr fr_M_saysAs g0 g' → (0 ≤ v ∧ v ≤ 15) → Q v g') : w_M_saysAs_b47 l2 s0 g Q := by
  unfold w_M_saysAs_b47
  refine ⟨⟨by omega, by omega⟩, ?_⟩
  refine ⟨fun c13 => ?_, fun c13 => ?_⟩
  · have m_15 := zk_rng I 215 5
    have m_16 := zi_r_w ((g 215 5) + 1)
    intro g11 e_12
    have I_13 : zk_I g11 := by rw [e_12]; exact zk_upd (zk_nl3 (i := 5) (by omega)).1 (zk_nl3 (i := 5) (by omega)).2 I ⟨by omega, by omega⟩
    have F_14 : zk_fr fr_M_saysAs g0 g11 := by rw [e_12]; exact zk_fu F (Or.inl rfl)
    refine ⟨⟨by omega, by omega⟩, ?_⟩
    have m_17 := zi_tmod_f (l2 + 1) 16
    have m_18 := zi_tmod_c (l2 + 1) 16 (by decide)
    exact hQ _ _ I_13 F_14 ⟨by omega, by omega⟩
  · exact hQ _ _ I F ⟨by omega, by omega⟩
set_option maxRecDepth 100000 in
set_option maxHeartbeats 400000 in
theorem k_M_saysAs {l1 : Int} {l2 : Int} {g : zi_M} {Q : Int → zi_M → Prop} (I : zk_I g) (p1 : 0 ≤ l1 ∧ l1 ≤ 9) (p2 : 0 ≤ l2 ∧ l2 ≤ 15) (hQ : ∀ (v : Int) (g' : zi_M), zk_I g' → zk_fr fr_M_saysAs g g' → (0 ≤ v ∧ v ≤ 15) → Q v g') : w_M_saysAs l1 l2 g Q := by
  unfold w_M_saysAs
  refine k_M_slipOf I ⟨by omega, by omega⟩ ⟨by omega, by omega⟩ (fun v1 g2 I_2 F_3 b_1 => ?_)
  have F_4 : zk_fr fr_M_saysAs g g2 := zk_ft (zk_f0 _) F_3 (fun a i => (fun h => Or.elim h (fun h => (Or.inr (Or.inl h))) (fun h => (Or.inr (Or.inr h)))))
  have m_5 : 0 ≤ (g2 214 5) ∧ (g2 214 5) ≤ 1 := I_2 214 5
  have m_6 : g2 214 5 = g 214 5 := F_3 _ _ (by unfold fr_M_slipOf; omega)
  have m_7 : 0 ≤ (g 214 5) ∧ (g 214 5) ≤ 1 := I 214 5
  refine ⟨⟨by omega, by omega⟩, ?_⟩
  refine ⟨fun c17 => ?_, fun c17 => ?_⟩
  · refine k_M_draw I_2 ⟨by omega, by omega⟩ (fun v5 g6 I_9 F_10 b_8 => ?_)
    have F_11 : zk_fr fr_M_saysAs g g6 := zk_ft F_4 F_10 (fun a i => (fun h => (Or.inl h)))
    refine ⟨⟨by omega, by omega⟩, ⟨by omega, by omega⟩, ?_⟩
    refine ⟨fun c14 => ?_, fun c14 => ?_⟩
    · exact k_M_saysAs_b47 I_9 F_11 ⟨by omega, by omega⟩ ⟨by omega, by omega⟩ hQ
    · exact k_M_saysAs_b47 I_9 F_11 ⟨by omega, by omega⟩ ⟨by omega, by omega⟩ hQ
  · refine ⟨⟨by omega, by omega⟩, ?_⟩
    refine ⟨fun c16 => ?_, fun c16 => ?_⟩
    · exact k_M_saysAs_b47 I_2 F_4 ⟨by omega, by omega⟩ ⟨by omega, by omega⟩ hQ
    · exact k_M_saysAs_b47 I_2 F_4 ⟨by omega, by omega⟩ ⟨by omega, by omega⟩ hQ
-- SpoutNewsModel.into(I)I
set_option maxRecDepth 100000 in
set_option maxHeartbeats 400000 in
theorem k_M_into {l1 : Int} {g : zi_M} {Q : Int → zi_M → Prop} (I : zk_I g) (p1 : 0 ≤ l1 ∧ l1 ≤ 9) (hQ : ∀ v : Int, (v = (g 232 l1) - 1) → Q v g) : w_M_into l1 g Q := by
  unfold w_M_into
  refine ⟨⟨by omega, by omega⟩, ?_⟩
  have m_1 : 0 ≤ (g 232 l1) ∧ (g 232 l1) ≤ 10 := I 232 l1
  exact hQ _ (by intros; omega)
-- SpoutNewsModel.saysFirst(I)V
def fr_M_saysFirst (a : Nat) (i : Int) : Prop := a = 215 ∨ a = 221 ∨ a = 235 ∨ a = 236 ∨ a = 237 ∨ a = 238 ∨ (a = 214 ∧ i = 43)
set_option maxRecDepth 100000 in
set_option maxHeartbeats 400000 in
theorem k_M_saysFirst {l1 : Int} {g : zi_M} {Q : Int → zi_M → Prop} (I : zk_I g) (p1 : 0 ≤ l1 ∧ l1 ≤ 9) (hQ : ∀ g' : zi_M, zk_I g' → zk_fr fr_M_saysFirst g g' → Q 0 g') : w_M_saysFirst l1 g Q := by
  sorry
-- SpoutNewsModel.jetOf(I)I
def fr_M_jetOf (a : Nat) (i : Int) : Prop := a = 235 ∨ a = 236
set_option maxRecDepth 100000 in
set_option maxHeartbeats 400000 in
theorem k_M_jetOf {l1 : Int} {g : zi_M} {Q : Int → zi_M → Prop} (I : zk_I g) (p1 : 0 ≤ l1 ∧ l1 ≤ 9) (hQ : ∀ (v : Int) (g' : zi_M), zk_I g' → zk_fr fr_M_jetOf g g' → (0 ≤ v ∧ v ≤ 1000) → Q v g') : w_M_jetOf l1 g Q := by
  unfold w_M_jetOf
  refine k_M_asks I ⟨by omega, by omega⟩ ⟨by omega, by omega⟩ (fun g2 I_1 F_2 => ?_)
  have F_3 : zk_fr fr_M_jetOf g g2 := zk_ft (zk_f0 _) F_2 (fun a i => (fun h => (Or.inl h)))
  have m_4 := zk_rng I_1 215 3
  have m_5 : g2 215 3 = g 215 3 := F_2 _ _ (by unfold fr_M_asks; omega)
  have m_6 := zk_rng I 215 3
  refine k_M_lawTells I_1 ⟨by omega, by omega⟩ ⟨by omega, by omega⟩ ⟨by omega, by omega⟩ (fun v4 g5 I_8 F_9 b_7 => ?_)
  have F_10 : zk_fr fr_M_jetOf g g5 := zk_ft F_3 F_9 (fun a i => (fun h => (Or.inr h)))
  exact hQ _ _ I_8 F_10 ⟨by omega, by omega⟩
-- SpoutNewsModel.rains()I
def fr_M_rains (a : Nat) (i : Int) : Prop := a = 215 ∨ a = 221 ∨ a = 235 ∨ a = 236 ∨ a = 237 ∨ a = 238 ∨ (a = 214 ∧ i = 43)
set_option maxRecDepth 100000 in
set_option maxHeartbeats 400000 in
theorem k_M_rains {g : zi_M} {Q : Int → zi_M → Prop} (I : zk_I g) (hQ : ∀ (v : Int) (g' : zi_M), zk_I g' → zk_fr fr_M_rains g g' → ((-2147483648) ≤ v ∧ v ≤ 2147483647) → Q v g') : w_M_rains g Q := by
  sorry
-- SpoutNewsModel.goesBy()I
def fr_M_goesBy (a : Nat) (i : Int) : Prop := a = 215 ∨ a = 221 ∨ a = 235 ∨ a = 236 ∨ a = 237 ∨ a = 238 ∨ (a = 214 ∧ i = 43)
set_option maxRecDepth 100000 in
set_option maxHeartbeats 400000 in
theorem k_M_goesBy {g : zi_M} {Q : Int → zi_M → Prop} (I : zk_I g) (hQ : ∀ (v : Int) (g' : zi_M), zk_I g' → zk_fr fr_M_goesBy g g' → ((-2147483648) ≤ v ∧ v ≤ 2147483647) → Q v g') : w_M_goesBy g Q := by
  sorry
-- SpoutNewsModel.days(I)I
def fr_M_days (a : Nat) (i : Int) : Prop := a = 215 ∨ a = 216 ∨ a = 221 ∨ a = 235 ∨ a = 236 ∨ a = 237 ∨ a = 238 ∨ (a = 214 ∧ i = 0) ∨ (a = 214 ∧ i = 3) ∨ (a = 214 ∧ i = 43)
set_option maxRecDepth 100000 in
set_option maxHeartbeats 400000 in
theorem k_M_days {l1 : Int} {g : zi_M} {Q : Int → zi_M → Prop} (I : zk_I g) (p1 : (-2147483648) ≤ l1 ∧ l1 ≤ 2147483647) (hQ : ∀ (v : Int) (g' : zi_M), zk_I g' → zk_fr fr_M_days g g' → ((-2147483648) ≤ v ∧ v ≤ 2147483647) → Q v g') : w_M_days l1 g Q := by
  sorry
-- SpoutNews.feedFour(I)V
def fr_S_feedFour (a : Nat) (i : Int) : Prop := a = 190 ∨ (a = 0 ∧ i = 8)
set_option maxRecDepth 100000 in
set_option maxHeartbeats 400000 in
theorem k_S_feedFour_l3 {l1 : Int} {K49 : zi_M → Prop} {Q : Int → zi_M → Prop} {g0 : zi_M} (q1 : (-2147483648) ≤ l1 ∧ l1 ≤ 2147483647) (hK49 : ∀ (g : zi_M), zk_I g → zk_fr fr_S_feedFour g0 g → K49 g) (hQ : ∀ g' : zi_M, zk_I g' → zk_fr fr_S_feedFour g0 g' → Q 0 g') : ∀ (n : Nat) {l2 : Int} {g : zi_M}, zk_I g → zk_fr fr_S_feedFour g0 g → ((-8) ≤ l2 ∧ l2 ≤ 24) → l2 - (-8) < (n : Int) → w_S_feedFour_l3 l1 K49 Q n l2 g
  | 0, l2, g, I, F, b0, hm => by exfalso; omega
  | n + 1, l2, g, I, F, b0, hm => by
    unfold w_S_feedFour_l3
    refine ⟨⟨by omega, by omega⟩, ?_⟩
    refine ⟨fun c7 => ?_, fun c7 => ?_⟩
    · exact hK49 _ I F
    · have m_1 : 0 ≤ (g 0 8) ∧ (g 0 8) ≤ 400 := I 0 8
      refine ⟨⟨by omega, by omega⟩, ?_⟩
      refine ⟨fun c6 => ?_, fun c6 => ?_⟩
      · exact hK49 _ I F
      · refine ⟨⟨by omega, by omega⟩, ?_⟩
        have m_5 := zi_ush_f l1 l2
        have m_6 := zi_and_f (zi_ush l1 l2) 255
        intro g4 e_2
        have I_3 : zk_I g4 := by rw [e_2]; exact zk_upd (L := 0) (H := 255) rfl rfl I ⟨by omega, by omega⟩
        have F_4 : zk_fr fr_S_feedFour g0 g4 := by rw [e_2]; exact zk_fu F (Or.inl rfl)
        have m_10 : 0 ≤ (g4 0 8) ∧ (g4 0 8) ≤ 400 := I_3 0 8
        have m_11 : g4 0 8 = g 0 8 := by rw [e_2]; exact zi_u_ne (by decide)
        intro g5 e_7
        have I_8 : zk_I g5 := by rw [e_7]; exact zk_upd (L := 0) (H := 400) rfl rfl I_3 ⟨by omega, by omega⟩
        have F_9 : zk_fr fr_S_feedFour g0 g5 := by rw [e_7]; exact zk_fu F_4 (Or.inr ⟨rfl, rfl⟩)
        exact k_S_feedFour_l3 q1 hK49 hQ n I_8 F_9 ⟨by omega, by omega⟩ (by omega)
set_option maxRecDepth 100000 in
set_option maxHeartbeats 400000 in
theorem k_S_feedFour {l1 : Int} {g : zi_M} {Q : Int → zi_M → Prop} (I : zk_I g) (p1 : (-2147483648) ≤ l1 ∧ l1 ≤ 2147483647) (hQ : ∀ g' : zi_M, zk_I g' → zk_fr fr_S_feedFour g g' → Q 0 g') : w_S_feedFour l1 g Q := by
  unfold w_S_feedFour
  refine ⟨((24 - (-8) : Int).toNat + 1), k_S_feedFour_l3 (l1 := l1) ⟨by omega, by omega⟩ (fun g8 I_12 F_13 => ?_) hQ ((24 - (-8) : Int).toNat + 1) I (zk_f0 _) ⟨by omega, by omega⟩ (by omega)⟩
  exact hQ _ I_12 F_13
-- SpoutNews.feed(IIIII)I
def fr_S_feed (a : Nat) (i : Int) : Prop := a = 190 ∨ (a = 0 ∧ i = 8)
set_option maxRecDepth 100000 in
set_option maxHeartbeats 400000 in
theorem k_S_feed {l1 : Int} {l2 : Int} {l3 : Int} {l4 : Int} {l5 : Int} {g : zi_M} {Q : Int → zi_M → Prop} (I : zk_I g) (p1 : (-2147483648) ≤ l1 ∧ l1 ≤ 2147483647) (p2 : (-2147483648) ≤ l2 ∧ l2 ≤ 2147483647) (p3 : (-2147483648) ≤ l3 ∧ l3 ≤ 2147483647) (p4 : (-2147483648) ≤ l4 ∧ l4 ≤ 2147483647) (p5 : (-2147483648) ≤ l5 ∧ l5 ≤ 2147483647) (hQ : ∀ (v : Int) (g' : zi_M), zk_I g' → zk_fr fr_S_feed g g' → ((-1) ≤ v ∧ v ≤ 400) → Q v g') : w_S_feed l1 l2 l3 l4 l5 g Q := by
  unfold w_S_feed
  have m_1 : 0 ≤ (g 0 8) ∧ (g 0 8) ≤ 400 := I 0 8
  refine ⟨⟨by omega, by omega⟩, ?_⟩
  refine ⟨fun c17 => ?_, fun c17 => ?_⟩
  · refine k_S_feedFour I ⟨by omega, by omega⟩ (fun g3 I_2 F_3 => ?_)
    have F_4 : zk_fr fr_S_feed g g3 := zk_ft (zk_f0 _) F_3 (fun a i => (fun h => Or.elim h (fun h => (Or.inl h)) (fun h => (Or.inr h))))
    refine k_S_feedFour I_2 ⟨by omega, by omega⟩ (fun g6 I_5 F_6 => ?_)
    have F_7 : zk_fr fr_S_feed g g6 := zk_ft F_4 F_6 (fun a i => (fun h => Or.elim h (fun h => (Or.inl h)) (fun h => (Or.inr h))))
    refine k_S_feedFour I_5 ⟨by omega, by omega⟩ (fun g9 I_8 F_9 => ?_)
    have F_10 : zk_fr fr_S_feed g g9 := zk_ft F_7 F_9 (fun a i => (fun h => Or.elim h (fun h => (Or.inl h)) (fun h => (Or.inr h))))
    refine k_S_feedFour I_8 ⟨by omega, by omega⟩ (fun g12 I_11 F_12 => ?_)
    have F_13 : zk_fr fr_S_feed g g12 := zk_ft F_10 F_12 (fun a i => (fun h => Or.elim h (fun h => (Or.inl h)) (fun h => (Or.inr h))))
    refine k_S_feedFour I_11 ⟨by omega, by omega⟩ (fun g15 I_14 F_15 => ?_)
    have F_16 : zk_fr fr_S_feed g g15 := zk_ft F_13 F_15 (fun a i => (fun h => Or.elim h (fun h => (Or.inl h)) (fun h => (Or.inr h))))
    have m_17 : 0 ≤ (g15 0 8) ∧ (g15 0 8) ≤ 400 := I_14 0 8
    exact hQ _ _ I_14 F_16 ⟨by omega, by omega⟩
  · exact hQ _ _ I (zk_f0 _) ⟨by omega, by omega⟩
-- SpoutNewsModel.types(I)V
def fr_M_types (a : Nat) (i : Int) : Prop := a = 222 ∨ (a = 214 ∧ i = 13)
set_option maxRecDepth 100000 in
set_option maxHeartbeats 400000 in
theorem k_M_types {l1 : Int} {g : zi_M} {Q : Int → zi_M → Prop} (I : zk_I g) (p1 : (-2147483648) ≤ l1 ∧ l1 ≤ 2147483647) (hQ : ∀ g' : zi_M, zk_I g' → zk_fr fr_M_types g g' → Q 0 g') : w_M_types l1 g Q := by
  sorry
-- SpoutNewsModel.feed(IIIII)I
def fr_M_feed (a : Nat) (i : Int) : Prop := a = 222 ∨ (a = 214 ∧ i = 0) ∨ (a = 214 ∧ i = 13)
set_option maxRecDepth 100000 in
set_option maxHeartbeats 400000 in
theorem k_M_feed {l1 : Int} {l2 : Int} {l3 : Int} {l4 : Int} {l5 : Int} {g : zi_M} {Q : Int → zi_M → Prop} (I : zk_I g) (p1 : (-2147483648) ≤ l1 ∧ l1 ≤ 2147483647) (p2 : (-2147483648) ≤ l2 ∧ l2 ≤ 2147483647) (p3 : (-2147483648) ≤ l3 ∧ l3 ≤ 2147483647) (p4 : (-2147483648) ≤ l4 ∧ l4 ≤ 2147483647) (p5 : (-2147483648) ≤ l5 ∧ l5 ≤ 2147483647) (hQ : ∀ (v : Int) (g' : zi_M), zk_I g' → zk_fr fr_M_feed g g' → ((-1) ≤ v ∧ v ≤ 400) → Q v g') : w_M_feed l1 l2 l3 l4 l5 g Q := by
  unfold w_M_feed
  intro g1 e_1
  have I_2 : zk_I g1 := by rw [e_1]; exact zk_upd (L := (-2147483648)) (H := 2147483647) rfl rfl I ⟨by omega, by omega⟩
  have F_3 : zk_fr fr_M_feed g g1 := by rw [e_1]; exact zk_fu (zk_f0 _) (Or.inr (Or.inl ⟨rfl, rfl⟩))
  have m_4 : 0 ≤ (g1 214 13) ∧ (g1 214 13) ≤ 400 := I_2 214 13
  have m_5 : g1 214 13 = g 214 13 := by rw [e_1]; exact zi_u_ni (by decide)
  have m_6 : 0 ≤ (g 214 13) ∧ (g 214 13) ≤ 400 := I 214 13
  refine ⟨⟨by omega, by omega⟩, ?_⟩
  refine ⟨fun c18 => ?_, fun c18 => ?_⟩
  · refine k_M_types I_2 ⟨by omega, by omega⟩ (fun g4 I_7 F_8 => ?_)
    have F_9 : zk_fr fr_M_feed g g4 := zk_ft F_3 F_8 (fun a i => (fun h => Or.elim h (fun h => (Or.inl h)) (fun h => (Or.inr (Or.inr h)))))
    refine k_M_types I_7 ⟨by omega, by omega⟩ (fun g7 I_10 F_11 => ?_)
    have F_12 : zk_fr fr_M_feed g g7 := zk_ft F_9 F_11 (fun a i => (fun h => Or.elim h (fun h => (Or.inl h)) (fun h => (Or.inr (Or.inr h)))))
    refine k_M_types I_10 ⟨by omega, by omega⟩ (fun g10 I_13 F_14 => ?_)
    have F_15 : zk_fr fr_M_feed g g10 := zk_ft F_12 F_14 (fun a i => (fun h => Or.elim h (fun h => (Or.inl h)) (fun h => (Or.inr (Or.inr h)))))
    refine k_M_types I_13 ⟨by omega, by omega⟩ (fun g13 I_16 F_17 => ?_)
    have F_18 : zk_fr fr_M_feed g g13 := zk_ft F_15 F_17 (fun a i => (fun h => Or.elim h (fun h => (Or.inl h)) (fun h => (Or.inr (Or.inr h)))))
    refine k_M_types I_16 ⟨by omega, by omega⟩ (fun g16 I_19 F_20 => ?_)
    have F_21 : zk_fr fr_M_feed g g16 := zk_ft F_18 F_20 (fun a i => (fun h => Or.elim h (fun h => (Or.inl h)) (fun h => (Or.inr (Or.inr h)))))
    have m_22 : 0 ≤ (g16 214 13) ∧ (g16 214 13) ≤ 400 := I_19 214 13
    exact hQ _ _ I_19 F_21 ⟨by omega, by omega⟩
  · exact hQ _ _ I_2 F_3 ⟨by omega, by omega⟩
-- SpoutNews.end(I)Z
def fr_S_end (a : Nat) (i : Int) : Prop := (a = 0 ∧ i = 8)
set_option maxRecDepth 100000 in
set_option maxHeartbeats 400000 in
theorem k_S_end {l1 : Int} {g : zi_M} {Q : Int → zi_M → Prop} (I : zk_I g) (p1 : (-2147483648) ≤ l1 ∧ l1 ≤ 2147483647) (hQ : ∀ (v : Int) (g' : zi_M), zk_I g' → zk_fr fr_S_end g g' → (0 ≤ v ∧ v ≤ 1) → Q v g') : w_S_end l1 g Q := by
  unfold w_S_end
  refine ⟨⟨by omega, by omega⟩, ?_⟩
  refine ⟨fun c5 => ?_, fun c5 => ?_⟩
  · exact hQ _ _ I (zk_f0 _) ⟨by omega, by omega⟩
  · have m_1 : 0 ≤ (g 0 8) ∧ (g 0 8) ≤ 400 := I 0 8
    refine ⟨⟨by omega, by omega⟩, ?_⟩
    refine ⟨fun c4 => ?_, fun c4 => ?_⟩
    · intro g3 e_2
      have I_3 : zk_I g3 := by rw [e_2]; exact zk_upd (L := 0) (H := 400) rfl rfl I ⟨by omega, by omega⟩
      have F_4 : zk_fr fr_S_end g g3 := by rw [e_2]; exact zk_fu (zk_f0 _) ⟨rfl, rfl⟩
      exact hQ _ _ I_3 F_4 ⟨by omega, by omega⟩
    · exact hQ _ _ I (zk_f0 _) ⟨by omega, by omega⟩
-- SpoutNewsModel.end(I)Z
def fr_M_end (a : Nat) (i : Int) : Prop := (a = 214 ∧ i = 0) ∨ (a = 214 ∧ i = 13)
set_option maxRecDepth 100000 in
set_option maxHeartbeats 400000 in
theorem k_M_end {l1 : Int} {g : zi_M} {Q : Int → zi_M → Prop} (I : zk_I g) (p1 : (-2147483648) ≤ l1 ∧ l1 ≤ 2147483647) (hQ : ∀ (v : Int) (g' : zi_M), zk_I g' → zk_fr fr_M_end g g' → (0 ≤ v ∧ v ≤ 1) → Q v g') : w_M_end l1 g Q := by
  unfold w_M_end
  intro g1 e_1
  have I_2 : zk_I g1 := by rw [e_1]; exact zk_upd (L := (-2147483648)) (H := 2147483647) rfl rfl I ⟨by omega, by omega⟩
  have F_3 : zk_fr fr_M_end g g1 := by rw [e_1]; exact zk_fu (zk_f0 _) (Or.inl ⟨rfl, rfl⟩)
  have m_4 : 0 ≤ (g1 214 13) ∧ (g1 214 13) ≤ 400 := I_2 214 13
  have m_5 : g1 214 13 = g 214 13 := by rw [e_1]; exact zi_u_ni (by decide)
  have m_6 : 0 ≤ (g 214 13) ∧ (g 214 13) ≤ 400 := I 214 13
  refine k_M_isIn I_2 ⟨by omega, by omega⟩ ⟨by omega, by omega⟩ ⟨by omega, by omega⟩ (fun v2 b_7 b_8 b_9 => ?_)
  refine ⟨fun c6 => ?_, fun c6 => ?_⟩
  · intro g5 e_10
    have I_11 : zk_I g5 := by rw [e_10]; exact zk_upd (L := 0) (H := 400) rfl rfl I_2 ⟨by omega, by omega⟩
    have F_12 : zk_fr fr_M_end g g5 := by rw [e_10]; exact zk_fu F_3 (Or.inr ⟨rfl, rfl⟩)
    exact hQ _ _ I_11 F_12 ⟨by omega, by omega⟩
  · exact hQ _ _ I_2 F_3 ⟨by omega, by omega⟩
-- SpoutNews$Tokens.clear()V
def fr_Tokens_clear (a : Nat) (i : Int) : Prop := (a = 191 ∧ i = 3) ∨ (a = 191 ∧ i = 4) ∨ (a = 191 ∧ i = 5) ∨ (a = 191 ∧ i = 6)
set_option maxRecDepth 100000 in
set_option maxHeartbeats 400000 in
theorem k_Tokens_clear {g : zi_M} {Q : Int → zi_M → Prop} (I : zk_I g) (hQ : ∀ g' : zi_M, zk_I g' → zk_fr fr_Tokens_clear g g' → Q 0 g') : w_Tokens_clear g Q := by
  unfold w_Tokens_clear
  intro g1 e_1
  have I_2 : zk_I g1 := by rw [e_1]; exact zk_upd (L := 0) (H := 401) rfl rfl I ⟨by omega, by omega⟩
  have F_3 : zk_fr fr_Tokens_clear g g1 := by rw [e_1]; exact zk_fu (zk_f0 _) (Or.inl ⟨rfl, rfl⟩)
  intro g2 e_4
  have I_5 : zk_I g2 := by rw [e_4]; exact zk_upd (L := 0) (H := 401) rfl rfl I_2 ⟨by omega, by omega⟩
  have F_6 : zk_fr fr_Tokens_clear g g2 := by rw [e_4]; exact zk_fu F_3 (Or.inr (Or.inl ⟨rfl, rfl⟩))
  intro g3 e_7
  have I_8 : zk_I g3 := by rw [e_7]; exact zk_upd (L := 0) (H := 3) rfl rfl I_5 ⟨by omega, by omega⟩
  have F_9 : zk_fr fr_Tokens_clear g g3 := by rw [e_7]; exact zk_fu F_6 (Or.inr (Or.inr (Or.inl ⟨rfl, rfl⟩)))
  intro g4 e_10
  have I_11 : zk_I g4 := by rw [e_10]; exact zk_upd (L := (-1)) (H := 400) rfl rfl I_8 ⟨by omega, by omega⟩
  have F_12 : zk_fr fr_Tokens_clear g g4 := by rw [e_10]; exact zk_fu F_9 (Or.inr (Or.inr (Or.inr ⟨rfl, rfl⟩)))
  exact hQ _ I_11 F_12
-- SpoutNews$Tokens.isLetter(I)Z
set_option maxRecDepth 100000 in
set_option maxHeartbeats 400000 in
theorem k_Tokens_isLetter {l0 : Int} {g : zi_M} {Q : Int → zi_M → Prop} (I : zk_I g) (p0 : 0 ≤ l0 ∧ l0 ≤ 255) (hQ : ∀ v : Int, (l0 < 97 → l0 < 65 → v = 0) → (l0 < 97 → 65 ≤ l0 → 90 < l0 → v = 0) → (l0 < 97 → 65 ≤ l0 → l0 ≤ 90 → v = 1) → (97 ≤ l0 → l0 ≤ 122 → v = 1) → (97 ≤ l0 → 122 < l0 → l0 < 65 → v = 0) → (97 ≤ l0 → 122 < l0 → 65 ≤ l0 → 90 < l0 → v = 0) → (97 ≤ l0 → 122 < l0 → 65 ≤ l0 → l0 ≤ 90 → v = 1) → Q v g) : w_Tokens_isLetter l0 g Q := by
  sorry
-- SpoutNews$Tokens.isDigit(I)Z
set_option maxRecDepth 100000 in
set_option maxHeartbeats 400000 in
theorem k_Tokens_isDigit {l0 : Int} {g : zi_M} {Q : Int → zi_M → Prop} (I : zk_I g) (p0 : 0 ≤ l0 ∧ l0 ≤ 255) (hQ : ∀ v : Int, (l0 < 48 → v = 0) → (48 ≤ l0 → 57 < l0 → v = 0) → (48 ≤ l0 → l0 ≤ 57 → v = 1) → Q v g) : w_Tokens_isDigit l0 g Q := by
  unfold w_Tokens_isDigit
  refine ⟨⟨by omega, by omega⟩, ?_⟩
  refine ⟨fun c3 => ?_, fun c3 => ?_⟩
  · exact hQ _ (by intros; omega) (by intros; omega) (by intros; omega)
  · refine ⟨fun c2 => ?_, fun c2 => ?_⟩
    · exact hQ _ (by intros; omega) (by intros; omega) (by intros; omega)
    · exact hQ _ (by intros; omega) (by intros; omega) (by intros; omega)
-- SpoutNews$Tokens.isSignOfLaw(I)Z
set_option maxRecDepth 100000 in
set_option maxHeartbeats 400000 in
theorem k_Tokens_isSignOfLaw {l0 : Int} {g : zi_M} {Q : Int → zi_M → Prop} (I : zk_I g) (p0 : 0 ≤ l0 ∧ l0 ≤ 255) (hQ : ∀ v : Int, (l0 = 59 → v = 1) → (¬ l0 = 59 → l0 = 43 → v = 1) → (¬ l0 = 59 → ¬ l0 = 43 → l0 = 45 → v = 1) → (¬ l0 = 59 → ¬ l0 = 43 → ¬ l0 = 45 → l0 = 42 → v = 1) → (¬ l0 = 59 → ¬ l0 = 43 → ¬ l0 = 45 → ¬ l0 = 42 → l0 = 47 → v = 1) → (¬ l0 = 59 → ¬ l0 = 43 → ¬ l0 = 45 → ¬ l0 = 42 → ¬ l0 = 47 → l0 = 40 → v = 1) → (¬ l0 = 59 → ¬ l0 = 43 → ¬ l0 = 45 → ¬ l0 = 42 → ¬ l0 = 47 → ¬ l0 = 40 → l0 = 41 → v = 1) → (¬ l0 = 59 → ¬ l0 = 43 → ¬ l0 = 45 → ¬ l0 = 42 → ¬ l0 = 47 → ¬ l0 = 40 → ¬ l0 = 41 → l0 = 60 → v = 1) → (¬ l0 = 59 → ¬ l0 = 43 → ¬ l0 = 45 → ¬ l0 = 42 → ¬ l0 = 47 → ¬ l0 = 40 → ¬ l0 = 41 → ¬ l0 = 60 → l0 = 61 → v = 1) → (¬ l0 = 59 → ¬ l0 = 43 → ¬ l0 = 45 → ¬ l0 = 42 → ¬ l0 = 47 → ¬ l0 = 40 → ¬ l0 = 41 → ¬ l0 = 60 → ¬ l0 = 61 → ¬ l0 = 62 → v = 0) → (¬ l0 = 59 → ¬ l0 = 43 → ¬ l0 = 45 → ¬ l0 = 42 → ¬ l0 = 47 → ¬ l0 = 40 → ¬ l0 = 41 → ¬ l0 = 60 → ¬ l0 = 61 → l0 = 62 → v = 1) → Q v g) : w_Tokens_isSignOfLaw l0 g Q := by
  unfold w_Tokens_isSignOfLaw
  refine ⟨⟨by omega, by omega⟩, ?_⟩
  refine ⟨fun c11 => ?_, fun c11 => ?_⟩
  · exact hQ _ (by intros; omega) (by intros; omega) (by intros; omega) (by intros; omega) (by intros; omega) (by intros; omega) (by intros; omega) (by intros; omega) (by intros; omega) (by intros; omega) (by intros; omega)
  · refine ⟨fun c10 => ?_, fun c10 => ?_⟩
    · exact hQ _ (by intros; omega) (by intros; omega) (by intros; omega) (by intros; omega) (by intros; omega) (by intros; omega) (by intros; omega) (by intros; omega) (by intros; omega) (by intros; omega) (by intros; omega)
    · refine ⟨fun c9 => ?_, fun c9 => ?_⟩
      · exact hQ _ (by intros; omega) (by intros; omega) (by intros; omega) (by intros; omega) (by intros; omega) (by intros; omega) (by intros; omega) (by intros; omega) (by intros; omega) (by intros; omega) (by intros; omega)
      · refine ⟨fun c8 => ?_, fun c8 => ?_⟩
        · exact hQ _ (by intros; omega) (by intros; omega) (by intros; omega) (by intros; omega) (by intros; omega) (by intros; omega) (by intros; omega) (by intros; omega) (by intros; omega) (by intros; omega) (by intros; omega)
        · refine ⟨fun c7 => ?_, fun c7 => ?_⟩
          · exact hQ _ (by intros; omega) (by intros; omega) (by intros; omega) (by intros; omega) (by intros; omega) (by intros; omega) (by intros; omega) (by intros; omega) (by intros; omega) (by intros; omega) (by intros; omega)
          · refine ⟨fun c6 => ?_, fun c6 => ?_⟩
            · exact hQ _ (by intros; omega) (by intros; omega) (by intros; omega) (by intros; omega) (by intros; omega) (by intros; omega) (by intros; omega) (by intros; omega) (by intros; omega) (by intros; omega) (by intros; omega)
            · refine ⟨fun c5 => ?_, fun c5 => ?_⟩
              · exact hQ _ (by intros; omega) (by intros; omega) (by intros; omega) (by intros; omega) (by intros; omega) (by intros; omega) (by intros; omega) (by intros; omega) (by intros; omega) (by intros; omega) (by intros; omega)
              · refine ⟨fun c4 => ?_, fun c4 => ?_⟩
                · exact hQ _ (by intros; omega) (by intros; omega) (by intros; omega) (by intros; omega) (by intros; omega) (by intros; omega) (by intros; omega) (by intros; omega) (by intros; omega) (by intros; omega) (by intros; omega)
                · refine ⟨fun c3 => ?_, fun c3 => ?_⟩
                  · exact hQ _ (by intros; omega) (by intros; omega) (by intros; omega) (by intros; omega) (by intros; omega) (by intros; omega) (by intros; omega) (by intros; omega) (by intros; omega) (by intros; omega) (by intros; omega)
                  · refine ⟨fun c2 => ?_, fun c2 => ?_⟩
                    · exact hQ _ (by intros; omega) (by intros; omega) (by intros; omega) (by intros; omega) (by intros; omega) (by intros; omega) (by intros; omega) (by intros; omega) (by intros; omega) (by intros; omega) (by intros; omega)
                    · exact hQ _ (by intros; omega) (by intros; omega) (by intros; omega) (by intros; omega) (by intros; omega) (by intros; omega) (by intros; omega) (by intros; omega) (by intros; omega) (by intros; omega) (by intros; omega)
-- SpoutNews$Tokens.add(III)V
def fr_Tokens_add (a : Nat) (i : Int) : Prop := a = 192 ∨ a = 193 ∨ a = 194 ∨ (a = 191 ∧ i = 3)
set_option maxRecDepth 100000 in
set_option maxHeartbeats 400000 in
theorem k_Tokens_add {l1 : Int} {l2 : Int} {l3 : Int} {g : zi_M} {Q : Int → zi_M → Prop} (I : zk_I g) (p1 : 0 ≤ l1 ∧ l1 ≤ 4) (p3 : 0 ≤ l3 ∧ l3 ≤ 400) (hQ : ∀ g' : zi_M, zk_I g' → zk_fr fr_Tokens_add g g' → Q 0 g') : w_Tokens_add l1 l2 l3 g Q := by
  sorry
-- SpoutNews$Tokens.numberAt([III)I
set_option maxRecDepth 100000 in
set_option maxHeartbeats 400000 in
theorem k_Tokens_numberAt {l1 : Int} {l2 : Int} {g : zi_M} {Q : Int → zi_M → Prop} (I : zk_I g) (p1 : 0 ≤ l1) (p2 : 1 ≤ l2 ∧ l2 ≤ 400) (hQ : ∀ v : Int, Q v g) : w_Tokens_numberAt l1 l2 g Q := by
  sorry
-- SpoutNews$Law.clear()V
def fr_Law_clear (a : Nat) (i : Int) : Prop := (a = 196 ∧ i = 2) ∨ (a = 196 ∧ i = 7)
set_option maxRecDepth 100000 in
set_option maxHeartbeats 400000 in
theorem k_Law_clear {g : zi_M} {Q : Int → zi_M → Prop} (I : zk_I g) (hQ : ∀ g' : zi_M, zk_I g' → zk_fr fr_Law_clear g g' → Q 0 g') : w_Law_clear g Q := by
  unfold w_Law_clear
  intro g1 e_1
  have I_2 : zk_I g1 := by rw [e_1]; exact zk_upd (L := 0) (H := 400) rfl rfl I ⟨by omega, by omega⟩
  have F_3 : zk_fr fr_Law_clear g g1 := by rw [e_1]; exact zk_fu (zk_f0 _) (Or.inl ⟨rfl, rfl⟩)
  intro g2 e_4
  have I_5 : zk_I g2 := by rw [e_4]; exact zk_upd (L := 0) (H := 16) rfl rfl I_2 ⟨by omega, by omega⟩
  have F_6 : zk_fr fr_Law_clear g g2 := by rw [e_4]; exact zk_fu F_3 (Or.inr ⟨rfl, rfl⟩)
  exact hQ _ I_5 F_6
