-- by program (wip/gen/mkz.py)
-- SpoutNews$DayRun.listen(LSpoutNews$World;LSpoutNews$Texts;LSpoutNews$Book;II)V
def fr_DayRun_listen (r1 : Nat) (a : Nat) (i : Int) : Prop := a = r1 + 6 ∨ a = r1 + 7 ∨ a = 15 ∨ a = 16 ∨ a = 17 ∨ a = 18 ∨ a = 27 ∨ a = 28 ∨ (a = r1 ∧ i = 19)
set_option maxRecDepth 100000 in
set_option maxHeartbeats 400000 in
theorem k_DayRun_listen_l17 {r1 : Nat} (hr1 : zs_sh r1 = some (10, 20)) {l4 : Int} {l5 : Int} {K70 : zi_M → Prop} {Q : Int → zi_M → Prop} {g0 : zi_M} (q4 : 0 ≤ l4 ∧ l4 ≤ 9) (q5 : (-2147483648) ≤ l5 ∧ l5 ≤ 2147483647) (hK70 : ∀ (g : zi_M), zk_I g → zk_fr (fr_DayRun_listen r1) g0 g → K70 g) (hQ : ∀ g' : zi_M, zk_I g' → zk_fr (fr_DayRun_listen r1) g0 g' → Q 0 g') : ∀ (n : Nat) {l6 : Int} {l7 : Int} {g : zi_M}, zk_I g → zk_fr (fr_DayRun_listen r1) g0 g → (0 ≤ l6 ∧ l6 ≤ 1000) → (0 ≤ l7 ∧ l7 ≤ 16) → l6 - 0 < (n : Int) → w_DayRun_listen_l17 r1 l4 l5 K70 Q n l6 l7 g
  | 0, l6, l7, g, I, F, b0, b1, hm => by exfalso; omega
  | n + 1, l6, l7, g, I, F, b0, b1, hm => by
    unfold w_DayRun_listen_l17
    refine ⟨⟨by omega, by omega⟩, ?_⟩
    refine ⟨fun c15 => ?_, fun c15 => ?_⟩
    · exact hK70 _ I F
    · refine ⟨⟨by omega, by omega⟩, ?_⟩
      refine ⟨fun c14 => ?_, fun c14 => ?_⟩
      · exact hK70 _ I F
      · have m_5 := zi_shr_f l5 l7
        have m_6 := zi_and_f (zi_shr l5 l7) 1
        refine ⟨fun c13 => ?_, fun c13 => ?_⟩
        · exact k_DayRun_listen_l17 hr1 q4 q5 hK70 hQ n I F ⟨by omega, by omega⟩ ⟨by omega, by omega⟩ (by omega)
        · refine k_World_takeIn hr1 I ⟨by omega, by omega⟩ (by omega) (fun v6 g7 I_8 F_9 b_7 => ?_)
          have F_10 : zk_fr (fr_DayRun_listen r1) g0 g7 := zk_ft F F_9 (by intro a i h; unfold fr_World_takeIn at h; unfold fr_DayRun_listen; omega)
          refine ⟨fun c12 => ?_, fun c12 => ?_⟩
          · exact k_DayRun_listen_l17 hr1 q4 q5 hK70 hQ n I_8 F_10 ⟨by omega, by omega⟩ ⟨by omega, by omega⟩ (by omega)
          · refine k_Book_write hr1 I_8 (by omega) ⟨by omega, by omega⟩ (by omega) (fun g10 I_11 F_12 => ?_)
            have F_13 : zk_fr (fr_DayRun_listen r1) g0 g10 := zk_ft F_10 F_12 (by intro a i h; unfold fr_Book_write at h; unfold fr_DayRun_listen; omega)
            exact k_DayRun_listen_l17 hr1 q4 q5 hK70 hQ n I_11 F_13 ⟨by omega, by omega⟩ ⟨by omega, by omega⟩ (by omega)
set_option maxRecDepth 100000 in
set_option maxHeartbeats 400000 in
theorem k_DayRun_listen {r1 : Nat} (hr1 : zs_sh r1 = some (10, 20)) {l4 : Int} {l5 : Int} {g : zi_M} {Q : Int → zi_M → Prop} (I : zk_I g) (p4 : 0 ≤ l4 ∧ l4 ≤ 9) (p5 : (-2147483648) ≤ l5 ∧ l5 ≤ 2147483647) (hQ : ∀ g' : zi_M, zk_I g' → zk_fr (fr_DayRun_listen r1) g g' → Q 0 g') : w_DayRun_listen r1 l4 l5 g Q := by
  unfold w_DayRun_listen
  refine k_Law_tells hr1 I ⟨by omega, by omega⟩ ⟨by omega, by omega⟩ ⟨by omega, by omega⟩ (fun v1 g2 I_2 F_3 b_1 => ?_)
  have F_4 : zk_fr (fr_DayRun_listen r1) g g2 := zk_ft (zk_f0 _) F_3 (by intro a i h; unfold fr_Law_tells at h; unfold fr_DayRun_listen; omega)
  refine ⟨((v1 - 0).toNat + 1), k_DayRun_listen_l17 (l4 := l4) (l5 := l5) hr1 ⟨by omega, by omega⟩ ⟨by omega, by omega⟩ (fun g16 I_14 F_15 => ?_) hQ ((v1 - 0).toNat + 1) I_2 F_4 ⟨by omega, by omega⟩ ⟨by omega, by omega⟩ (by omega)⟩
  exact hQ _ I_14 F_15
-- SpoutNews$DayRun.passDry(LSpoutNews$World;LSpoutNews$Texts;LSpoutNews$Book;)V
def fr_DayRun_passDry (r1 : Nat) (a : Nat) (i : Int) : Prop := a = r1 + 5 ∨ a = r1 + 6 ∨ a = r1 + 7 ∨ a = 15 ∨ a = 16 ∨ a = 17 ∨ a = 18 ∨ a = 27 ∨ a = 28 ∨ (a = r1 ∧ i = 19)
set_option maxRecDepth 100000 in
set_option maxHeartbeats 400000 in
theorem k_DayRun_passDry_l15 {r1 : Nat} (hr1 : zs_sh r1 = some (10, 20)) {l4 : Int} {K69 : zi_M → Prop} {Q : Int → zi_M → Prop} {g0 : zi_M} (q4 : 0 ≤ l4 ∧ l4 ≤ 9) (hK69 : ∀ (g : zi_M), zk_I g → zk_fr (fr_DayRun_passDry r1) g0 g → K69 g) (hQ : ∀ g' : zi_M, zk_I g' → zk_fr (fr_DayRun_passDry r1) g0 g' → Q 0 g') : ∀ (n : Nat) {l5 : Int} {g : zi_M}, zk_I g → zk_fr (fr_DayRun_passDry r1) g0 g → (0 ≤ l5 ∧ l5 ≤ 8) → 8 - l5 < (n : Int) → w_DayRun_passDry_l15 r1 l4 K69 Q n l5 g
  | 0, l5, g, I, F, b0, hm => by exfalso; omega
  | n + 1, l5, g, I, F, b0, hm => by
    unfold w_DayRun_passDry_l15
    have m_2 := zk_c10_11 hr1 I
    refine ⟨⟨by omega, by omega⟩, ⟨by omega, by omega⟩, ?_⟩
    refine ⟨fun c14 => ?_, fun c14 => ?_⟩
    · exact hK69 _ I F
    · refine ⟨⟨by omega, by omega⟩, ?_⟩
      have m_3 := zk_a10_4 hr1 I l4
      refine ⟨⟨by omega, by omega⟩, ?_⟩
      refine ⟨fun c13 => ?_, fun c13 => ?_⟩
      · exact hK69 _ I F
      · refine ⟨⟨by omega, by omega⟩, ?_⟩
        have m_4 := zk_a10_9 hr1 I l5
        refine ⟨⟨by omega, by omega⟩, ?_⟩
        refine ⟨fun c12 => ?_, fun c12 => ?_⟩
        · exact k_DayRun_passDry_l15 hr1 q4 hK69 hQ n I F ⟨by omega, by omega⟩ (by omega)
        · have m_5 := zk_a10_8 hr1 I l5
          refine k_DayRun_listen hr1 I ⟨by omega, by omega⟩ ⟨by omega, by omega⟩ (fun g10 I_6 F_7 => ?_)
          have F_8 : zk_fr (fr_DayRun_passDry r1) g0 g10 := zk_ft F F_7 (by intro a i h; unfold fr_DayRun_listen at h; unfold fr_DayRun_passDry; omega)
          exact k_DayRun_passDry_l15 hr1 q4 hK69 hQ n I_6 F_8 ⟨by omega, by omega⟩ (by omega)
set_option maxRecDepth 100000 in
set_option maxHeartbeats 400000 in
theorem k_DayRun_passDry_b69 {r1 : Nat} (hr1 : zs_sh r1 = some (10, 20)) {l4 : Int} {H : Int → zi_M → Prop} {K97 : zi_M → Prop} {Q : Int → zi_M → Prop} {g : zi_M} {g0 : zi_M} (I : zk_I g) (F : zk_fr (fr_DayRun_passDry r1) g0 g) (p4 : 0 ≤ l4 ∧ l4 ≤ 9) (M : Int) (hM : 10 - l4 ≤ M) (hH : ∀ (m4 : Int) (g : zi_M), zk_I g → zk_fr (fr_DayRun_passDry r1) g0 g → (0 ≤ m4 ∧ m4 ≤ 10) → 10 - m4 < M → H m4 g) (hK97 : ∀ (g : zi_M), zk_I g → zk_fr (fr_DayRun_passDry r1) g0 g → K97 g) (hQ : ∀ g' : zi_M, zk_I g' → zk_fr (fr_DayRun_passDry r1) g0 g' → Q 0 g') : w_DayRun_passDry_b69 r1 l4 g H K97 Q := by
  unfold w_DayRun_passDry_b69
  refine ⟨⟨by omega, by omega⟩, ?_⟩
  have m_11 := zk_a10_5 hr1 I l4
  refine ⟨⟨by omega, by omega⟩, ?_⟩
  intro g18 e_12
  have I_13 : zk_I g18 := by rw [e_12]; exact zk_upd (zk_la10_5 hr1).1 (zk_la10_5 hr1).2 I ⟨by omega, by omega⟩
  have F_14 : zk_fr (fr_DayRun_passDry r1) g0 g18 := by rw [e_12]; exact zk_fu F (by unfold fr_DayRun_passDry; omega)
  exact hH _ _ I_13 F_14 ⟨by omega, by omega⟩ (by omega)
set_option maxRecDepth 100000 in
set_option maxHeartbeats 400000 in
theorem k_DayRun_passDry_l3 {r1 : Nat} (hr1 : zs_sh r1 = some (10, 20)) {K97 : zi_M → Prop} {Q : Int → zi_M → Prop} {g0 : zi_M} (hK97 : ∀ (g : zi_M), zk_I g → zk_fr (fr_DayRun_passDry r1) g0 g → K97 g) (hQ : ∀ g' : zi_M, zk_I g' → zk_fr (fr_DayRun_passDry r1) g0 g' → Q 0 g') : ∀ (n : Nat) {l4 : Int} {g : zi_M}, zk_I g → zk_fr (fr_DayRun_passDry r1) g0 g → (0 ≤ l4 ∧ l4 ≤ 10) → 10 - l4 < (n : Int) → w_DayRun_passDry_l3 r1 K97 Q n l4 g
  | 0, l4, g, I, F, b0, hm => by exfalso; omega
  | n + 1, l4, g, I, F, b0, hm => by
    unfold w_DayRun_passDry_l3
    have m_1 := zk_c10_8 hr1 I
    refine ⟨⟨by omega, by omega⟩, ⟨by omega, by omega⟩, ?_⟩
    refine ⟨fun c20 => ?_, fun c20 => ?_⟩
    · exact hK97 _ I F
    · refine ⟨((8 - 0).toNat + 1), k_DayRun_passDry_l15 (l4 := l4) hr1 ⟨by omega, by omega⟩ (fun g15 I_9 F_10 => ?_) hQ ((8 - 0).toNat + 1) I F ⟨by omega, by omega⟩ (by omega)⟩
      exact k_DayRun_passDry_b69 hr1 I_9 F_10 ⟨by omega, by omega⟩ (n : Int) (by omega) (fun _ _ I F b0 hm => k_DayRun_passDry_l3 hr1 hK97 hQ n I F b0 hm) hK97 hQ
set_option maxRecDepth 100000 in
set_option maxHeartbeats 400000 in
theorem k_DayRun_passDry {r1 : Nat} (hr1 : zs_sh r1 = some (10, 20)) {g : zi_M} {Q : Int → zi_M → Prop} (I : zk_I g) (hQ : ∀ g' : zi_M, zk_I g' → zk_fr (fr_DayRun_passDry r1) g g' → Q 0 g') : w_DayRun_passDry r1 g Q := by
  unfold w_DayRun_passDry
  refine ⟨((10 - 0).toNat + 1), k_DayRun_passDry_l3 hr1 (fun g21 I_15 F_16 => ?_) hQ ((10 - 0).toNat + 1) I (zk_f0 _) ⟨by omega, by omega⟩ (by omega)⟩
  exact hQ _ I_15 F_16
-- SpoutNews$DayRun.pass(LSpoutNews$World;LSpoutNews$Texts;LSpoutNews$Book;)V
def fr_DayRun_pass (r1 : Nat) (a : Nat) (i : Int) : Prop := a = r1 + 10 ∨ a = r1 + 11 ∨ a = r1 + 4 ∨ a = r1 + 5 ∨ a = r1 + 6 ∨ a = r1 + 7 ∨ a = r1 + 8 ∨ a = r1 + 9 ∨ a = 15 ∨ a = 16 ∨ a = 17 ∨ a = 178 ∨ a = 179 ∨ a = 18 ∨ a = 27 ∨ a = 28 ∨ (a = r1 ∧ i = 14) ∨ (a = r1 ∧ i = 15) ∨ (a = r1 ∧ i = 16) ∨ (a = r1 ∧ i = 17) ∨ (a = r1 ∧ i = 18) ∨ (a = r1 ∧ i = 19) ∨ (a = 177 ∧ i = 2)
set_option maxRecDepth 100000 in
set_option maxHeartbeats 400000 in
theorem k_DayRun_pass_l3 {r1 : Nat} (hr1 : zs_sh r1 = some (10, 20)) {K57 : zi_M → Prop} {Q : Int → zi_M → Prop} {g0 : zi_M} (hK57 : ∀ (g : zi_M), zk_I g → zk_fr (fr_DayRun_pass r1) g0 g → K57 g) (hQ : ∀ g' : zi_M, zk_I g' → zk_fr (fr_DayRun_pass r1) g0 g' → Q 0 g') : ∀ (n : Nat) {l4 : Int} {g : zi_M}, zk_I g → zk_fr (fr_DayRun_pass r1) g0 g → (0 ≤ l4 ∧ l4 ≤ 16) → 16 - l4 < (n : Int) → w_DayRun_pass_l3 r1 K57 Q n l4 g
  | 0, l4, g, I, F, b0, hm => by exfalso; omega
  | n + 1, l4, g, I, F, b0, hm => by
    unfold w_DayRun_pass_l3
    have m_1 : 0 ≤ (g 19 10) ∧ (g 19 10) ≤ 16 := I 19 10
    refine ⟨⟨by omega, by omega⟩, ⟨by omega, by omega⟩, ?_⟩
    refine ⟨fun c10 => ?_, fun c10 => ?_⟩
    · exact hK57 _ I F
    · refine ⟨⟨by omega, by omega⟩, ?_⟩
      have m_2 : (-2147483648) ≤ (g 32 l4) ∧ (g 32 l4) ≤ 2147483647 := I 32 l4
      have m_3 := zk_c10_17 hr1 I
      refine ⟨⟨by omega, by omega⟩, ⟨by omega, by omega⟩, ?_⟩
      refine ⟨fun c9 => ?_, fun c9 => ?_⟩
      · exact k_DayRun_pass_l3 hr1 hK57 hQ n I F ⟨by omega, by omega⟩ (by omega)
      · have m_4 : (-2147483648) ≤ (g 33 l4) ∧ (g 33 l4) ≤ 2147483647 := I 33 l4
        have m_5 : (-2147483648) ≤ (g 34 l4) ∧ (g 34 l4) ≤ 2147483647 := I 34 l4
        have m_6 : (-2147483648) ≤ (g 35 l4) ∧ (g 35 l4) ≤ 2147483647 := I 35 l4
        refine k_World_carryOut hr1 I ⟨by omega, by omega⟩ ⟨by omega, by omega⟩ ⟨by omega, by omega⟩ (fun g7 I_7 F_8 => ?_)
        have F_9 : zk_fr (fr_DayRun_pass r1) g0 g7 := zk_ft F F_8 (by intro a i h; unfold fr_World_carryOut at h; unfold fr_DayRun_pass; omega)
        exact k_DayRun_pass_l3 hr1 hK57 hQ n I_7 F_9 ⟨by omega, by omega⟩ (by omega)
set_option maxRecDepth 100000 in
set_option maxHeartbeats 400000 in
theorem k_DayRun_pass_b79 {r1 : Nat} (hr1 : zs_sh r1 = some (10, 20)) {Q : Int → zi_M → Prop} {g : zi_M} {g0 : zi_M} (I : zk_I g) (F : zk_fr (fr_DayRun_pass r1) g0 g) (hQ : ∀ g' : zi_M, zk_I g' → zk_fr (fr_DayRun_pass r1) g0 g' → Q 0 g') : w_DayRun_pass_b79 r1 g Q := by
  unfold w_DayRun_pass_b79
  have m_14 := zk_c10_14 hr1 I
  refine ⟨⟨by omega, by omega⟩, ?_⟩
  refine ⟨fun c25 => ?_, fun c25 => ?_⟩
  · refine k_DayRun_passWet hr1 I (fun g18 I_15 F_16 => ?_)
    have F_17 : zk_fr (fr_DayRun_pass r1) g0 g18 := zk_ft F F_16 (by intro a i h; unfold fr_DayRun_passWet at h; unfold fr_DayRun_pass; omega)
    have m_21 := zk_c10_17 hr1 I_15
    have m_22 := zi_r_w ((g18 r1 17) + 1)
    intro g20 e_18
    have I_19 : zk_I g20 := by rw [e_18]; exact zk_upd (zk_lc10_17 hr1).1 (zk_lc10_17 hr1).2 I_15 ⟨by omega, by omega⟩
    have F_20 : zk_fr (fr_DayRun_pass r1) g0 g20 := by rw [e_18]; exact zk_fu F_17 (by unfold fr_DayRun_pass; omega)
    exact hQ _ I_19 F_20
  · refine k_DayRun_passDry hr1 I (fun g22 I_23 F_24 => ?_)
    have F_25 : zk_fr (fr_DayRun_pass r1) g0 g22 := zk_ft F F_24 (by intro a i h; unfold fr_DayRun_passDry at h; unfold fr_DayRun_pass; omega)
    have m_29 := zk_c10_17 hr1 I_23
    have m_30 := zi_r_w ((g22 r1 17) + 1)
    intro g24 e_26
    have I_27 : zk_I g24 := by rw [e_26]; exact zk_upd (zk_lc10_17 hr1).1 (zk_lc10_17 hr1).2 I_23 ⟨by omega, by omega⟩
    have F_28 : zk_fr (fr_DayRun_pass r1) g0 g24 := by rw [e_26]; exact zk_fu F_25 (by unfold fr_DayRun_pass; omega)
    exact hQ _ I_27 F_28
set_option maxRecDepth 100000 in
set_option maxHeartbeats 400000 in
theorem k_DayRun_pass {r1 : Nat} (hr1 : zs_sh r1 = some (10, 20)) {g : zi_M} {Q : Int → zi_M → Prop} (I : zk_I g) (hQ : ∀ g' : zi_M, zk_I g' → zk_fr (fr_DayRun_pass r1) g g' → Q 0 g') : w_DayRun_pass r1 g Q := by
  unfold w_DayRun_pass
  refine ⟨((16 - 0).toNat + 1), k_DayRun_pass_l3 hr1 (fun g11 I_10 F_11 => ?_) hQ ((16 - 0).toNat + 1) I (zk_f0 _) ⟨by omega, by omega⟩ (by omega)⟩
  have m_12 := zk_c10_17 hr1 I_10
  refine k_Texts_rainOn I_10 ⟨by omega, by omega⟩ (fun v12 b_13 => ?_)
  refine ⟨⟨by omega, by omega⟩, ?_⟩
  refine ⟨fun c27 => ?_, fun c27 => ?_⟩
  · exact k_DayRun_pass_b79 hr1 I_10 F_11 hQ
  · intro g26 e_31
    have I_32 : zk_I g26 := by rw [e_31]; exact zk_upd (zk_lc10_14 hr1).1 (zk_lc10_14 hr1).2 I_10 ⟨by omega, by omega⟩
    have F_33 : zk_fr (fr_DayRun_pass r1) g g26 := by rw [e_31]; exact zk_fu F_11 (by unfold fr_DayRun_pass; omega)
    exact k_DayRun_pass_b79 hr1 I_32 F_33 hQ
-- SpoutNews.days(I)I
def fr_S_days (a : Nat) (i : Int) : Prop := a = 10 ∨ a = 11 ∨ a = 12 ∨ a = 13 ∨ a = 15 ∨ a = 16 ∨ a = 17 ∨ a = 178 ∨ a = 179 ∨ a = 18 ∨ a = 27 ∨ a = 28 ∨ a = 6 ∨ a = 7 ∨ a = 8 ∨ a = 9 ∨ (a = 177 ∧ i = 2) ∨ (a = 2 ∧ i = 14) ∨ (a = 2 ∧ i = 15) ∨ (a = 2 ∧ i = 16) ∨ (a = 2 ∧ i = 17) ∨ (a = 2 ∧ i = 18) ∨ (a = 2 ∧ i = 19) ∨ (a = 91 ∧ i = 1) ∨ (a = 91 ∧ i = 2) ∨ (93 ≤ a ∧ a ≤ 164)
set_option maxRecDepth 100000 in
set_option maxHeartbeats 400000 in
theorem k_S_days_b64 {l1 : Int} {l4 : Int} {H : Int → zi_M → Prop} {K92 : zi_M → Prop} {Q : Int → zi_M → Prop} {g : zi_M} {g0 : zi_M} (I : zk_I g) (F : zk_fr fr_S_days g0 g) (p1 : 1 ≤ l1 ∧ l1 ≤ 60) (p4 : 0 ≤ l4 ∧ l4 ≤ 59) (M : Int) (hM : 60 - l4 ≤ M) (hH : ∀ (m4 : Int) (g : zi_M), zk_I g → zk_fr fr_S_days g0 g → (0 ≤ m4 ∧ m4 ≤ 60) → 60 - m4 < M → H m4 g) (hK92 : ∀ (g : zi_M), zk_I g → zk_fr fr_S_days g0 g → K92 g) (hQ : ∀ (v : Int) (g' : zi_M), zk_I g' → zk_fr fr_S_days g0 g' → ((-2147483648) ≤ v ∧ v ≤ 2147483647) → Q v g') : w_S_days_b64 l1 l4 g H K92 Q := by
  unfold w_S_days_b64
  refine k_DayRun_pass rfl I (fun g6 I_3 F_4 => ?_)
  have F_5 : zk_fr fr_S_days g0 g6 := zk_ft F F_4 (by intro a i h; unfold fr_DayRun_pass at h; unfold fr_S_days; omega)
  exact hH _ _ I_3 F_5 ⟨by omega, by omega⟩ (by omega)
set_option maxRecDepth 100000 in
set_option maxHeartbeats 400000 in
theorem k_S_days_l41 {l1 : Int} {K92 : zi_M → Prop} {Q : Int → zi_M → Prop} {g0 : zi_M} (q1 : 1 ≤ l1 ∧ l1 ≤ 60) (hK92 : ∀ (g : zi_M), zk_I g → zk_fr fr_S_days g0 g → K92 g) (hQ : ∀ (v : Int) (g' : zi_M), zk_I g' → zk_fr fr_S_days g0 g' → ((-2147483648) ≤ v ∧ v ≤ 2147483647) → Q v g') : ∀ (n : Nat) {l4 : Int} {g : zi_M}, zk_I g → zk_fr fr_S_days g0 g → (0 ≤ l4 ∧ l4 ≤ 60) → 60 - l4 < (n : Int) → w_S_days_l41 l1 K92 Q n l4 g
  | 0, l4, g, I, F, b0, hm => by exfalso; omega
  | n + 1, l4, g, I, F, b0, hm => by
    unfold w_S_days_l41
    refine ⟨⟨by omega, by omega⟩, ⟨by omega, by omega⟩, ?_⟩
    refine ⟨fun c12 => ?_, fun c12 => ?_⟩
    · exact hK92 _ I F
    · refine ⟨⟨by omega, by omega⟩, ?_⟩
      refine ⟨fun c11 => ?_, fun c11 => ?_⟩
      · exact k_S_days_b64 I F ⟨by omega, by omega⟩ ⟨by omega, by omega⟩ (n : Int) (by omega) (fun _ _ I F b0 hm => k_S_days_l41 q1 hK92 hQ n I F b0 hm) hK92 hQ
      · refine k_Past_keep I (fun g9 I_6 F_7 => ?_)
        have F_8 : zk_fr fr_S_days g0 g9 := zk_ft F F_7 (by intro a i h; unfold fr_Past_keep at h; unfold fr_S_days; omega)
        exact k_S_days_b64 I_6 F_8 ⟨by omega, by omega⟩ ⟨by omega, by omega⟩ (n : Int) (by omega) (fun _ _ I F b0 hm => k_S_days_l41 q1 hK92 hQ n I F b0 hm) hK92 hQ
set_option maxRecDepth 100000 in
set_option maxHeartbeats 400000 in
theorem k_S_days {l1 : Int} {g : zi_M} {Q : Int → zi_M → Prop} (I : zk_I g) (p1 : (-2147483648) ≤ l1 ∧ l1 ≤ 2147483647) (hQ : ∀ (v : Int) (g' : zi_M), zk_I g' → zk_fr fr_S_days g g' → ((-2147483648) ≤ v ∧ v ≤ 2147483647) → Q v g') : w_S_days l1 g Q := by
  unfold w_S_days
  refine ⟨⟨by omega, by omega⟩, ?_⟩
  refine ⟨fun c17 => ?_, fun c17 => ?_⟩
  · exact hQ _ _ I (zk_f0 _) ⟨by omega, by omega⟩
  · refine ⟨fun c16 => ?_, fun c16 => ?_⟩
    · exact hQ _ _ I (zk_f0 _) ⟨by omega, by omega⟩
    · have m_1 : (-2147483648) ≤ (g 2 17) ∧ (g 2 17) ≤ 2147483647 := I 2 17
      have m_2 := zi_r_w ((g 2 17) + l1)
      refine ⟨fun c15 => ?_, fun c15 => ?_⟩
      · refine ⟨((60 - 0).toNat + 1), k_S_days_l41 (l1 := l1) ⟨by omega, by omega⟩ (fun g13 I_9 F_10 => ?_) hQ ((60 - 0).toNat + 1) I (zk_f0 _) ⟨by omega, by omega⟩ (by omega)⟩
        have m_11 : (-2147483648) ≤ (g13 2 15) ∧ (g13 2 15) ≤ 2147483647 := I_9 2 15
        have m_12 : (-2147483648) ≤ (g 2 15) ∧ (g 2 15) ≤ 2147483647 := I 2 15
        have m_13 := zi_r_w ((g13 2 15) - (g 2 15))
        exact hQ _ _ I_9 F_10 ⟨by omega, by omega⟩
      · exact hQ _ _ I (zk_f0 _) ⟨by omega, by omega⟩
-- SpoutNewsModel.weatherOf(I)I
set_option maxRecDepth 100000 in
set_option maxHeartbeats 400000 in
theorem k_M_weatherOf_l2 {g : zi_M} (I : zk_I g) {l1 : Int} {K22 : Int → zi_M → Prop} {K39 : zi_M → Prop} {Q : Int → zi_M → Prop} (q1 : (-2147483648) ≤ l1 ∧ l1 ≤ 2147483647) (hK22 : ∀ (k2 : Int), (0 ≤ k2 ∧ k2 ≤ 15) → K22 k2 g) (hK39 : K39 g) (hQ : ∀ v : Int, ((-2147483648) ≤ v ∧ v ≤ 2147483647) → Q v g) : ∀ (n : Nat) {l2 : Int}, (0 ≤ l2 ∧ l2 ≤ 16) → 16 - l2 < (n : Int) → w_M_weatherOf_l2 l1 K22 K39 Q n l2 g
  | 0, l2, b0, hm => by exfalso; omega
  | n + 1, l2, b0, hm => by
    unfold w_M_weatherOf_l2
    have m_1 : 0 ≤ (g 214 37) ∧ (g 214 37) ≤ 16 := I 214 37
    refine ⟨⟨by omega, by omega⟩, ⟨by omega, by omega⟩, ?_⟩
    refine ⟨fun c7 => ?_, fun c7 => ?_⟩
    · exact hK39
    · refine ⟨⟨by omega, by omega⟩, ?_⟩
      have m_2 : (-2147483648) ≤ (g 233 (2 * l2)) ∧ (g 233 (2 * l2)) ≤ 2147483647 := I 233 (2 * l2)
      refine ⟨⟨by omega, by omega⟩, ⟨by omega, by omega⟩, ?_⟩
      refine ⟨fun c6 => ?_, fun c6 => ?_⟩
      · exact k_M_weatherOf_l2 I q1 hK22 hK39 hQ n ⟨by omega, by omega⟩ (by omega)
      · exact hK22 _ ⟨by omega, by omega⟩
set_option maxRecDepth 100000 in
set_option maxHeartbeats 400000 in
theorem k_M_weatherOf {l1 : Int} {g : zi_M} {Q : Int → zi_M → Prop} (I : zk_I g) (p1 : (-2147483648) ≤ l1 ∧ l1 ≤ 2147483647) (hQ : ∀ v : Int, ((-2147483648) ≤ v ∧ v ≤ 2147483647) → Q v g) : w_M_weatherOf l1 g Q := by
  unfold w_M_weatherOf
  refine ⟨((16 - 0).toNat + 1), k_M_weatherOf_l2 (l1 := l1) I ⟨by omega, by omega⟩ (fun k8 b_3 => ?_) (?_) hQ ((16 - 0).toNat + 1) ⟨by omega, by omega⟩ (by omega)⟩
  · refine ⟨⟨by omega, by omega⟩, ?_⟩
    have m_4 : (-2147483648) ≤ (g 233 ((2 * k8) + 1)) ∧ (g 233 ((2 * k8) + 1)) ≤ 2147483647 := I 233 ((2 * k8) + 1)
    exact hQ _ ⟨by omega, by omega⟩
  · exact hQ _ ⟨by omega, by omega⟩
-- SpoutNewsModel.asks(II)V
def fr_M_asks (a : Nat) (i : Int) : Prop := a = 235
set_option maxRecDepth 100000 in
set_option maxHeartbeats 400000 in
theorem k_M_asks {l1 : Int} {l2 : Int} {g : zi_M} {Q : Int → zi_M → Prop} (I : zk_I g) (p1 : 0 ≤ l1 ∧ l1 ≤ 9) (p2 : 0 ≤ l2 ∧ l2 ≤ 15) (hQ : ∀ g' : zi_M, zk_I g' → zk_fr fr_M_asks g g' → Q 0 g') : w_M_asks l1 l2 g Q := by
  unfold w_M_asks
  refine ⟨⟨by omega, by omega⟩, ?_⟩
  have m_4 : 0 ≤ (g 218 l1) ∧ (g 218 l1) ≤ 5 := I 218 l1
  intro g2 e_1
  have I_2 : zk_I g2 := by rw [e_1]; exact zk_upd (L := (-2147483648)) (H := 2147483647) rfl rfl I ⟨by omega, by omega⟩
  have F_3 : zk_fr fr_M_asks g g2 := by rw [e_1]; exact zk_fu (zk_f0 _) (by unfold fr_M_asks; omega)
  have m_8 : 0 ≤ (g2 219 l1) ∧ (g2 219 l1) ≤ 3 := I_2 219 l1
  have m_9 : g2 219 l1 = g 219 l1 := by rw [e_1]; exact zi_u_ne (by decide)
  have m_10 : 0 ≤ (g 219 l1) ∧ (g 219 l1) ≤ 3 := I 219 l1
  intro g3 e_5
  have I_6 : zk_I g3 := by rw [e_5]; exact zk_upd (L := (-2147483648)) (H := 2147483647) rfl rfl I_2 ⟨by omega, by omega⟩
  have F_7 : zk_fr fr_M_asks g g3 := by rw [e_5]; exact zk_fu F_3 (by unfold fr_M_asks; omega)
  have m_14 : 0 ≤ (g3 220 l1) ∧ (g3 220 l1) ≤ 99 := I_6 220 l1
  have m_15 : g3 220 l1 = g2 220 l1 := by rw [e_5]; exact zi_u_ne (by decide)
  have m_16 : 0 ≤ (g2 220 l1) ∧ (g2 220 l1) ≤ 99 := I_2 220 l1
  have m_17 : g2 220 l1 = g 220 l1 := by rw [e_1]; exact zi_u_ne (by decide)
  have m_18 : 0 ≤ (g 220 l1) ∧ (g 220 l1) ≤ 99 := I 220 l1
  intro g4 e_11
  have I_12 : zk_I g4 := by rw [e_11]; exact zk_upd (L := (-2147483648)) (H := 2147483647) rfl rfl I_6 ⟨by omega, by omega⟩
  have F_13 : zk_fr fr_M_asks g g4 := by rw [e_11]; exact zk_fu F_7 (by unfold fr_M_asks; omega)
  refine ⟨⟨by omega, by omega⟩, ?_⟩
  have m_22 := zk_now6 I_12 (i := (6 + l1)) (by omega)
  have m_23 : g4 215 (6 + l1) = g3 215 (6 + l1) := by rw [e_11]; exact zi_u_ne (by decide)
  have m_24 := zk_now6 I_6 (i := (6 + l1)) (by omega)
  have m_25 : g3 215 (6 + l1) = g2 215 (6 + l1) := by rw [e_5]; exact zi_u_ne (by decide)
  have m_26 := zk_now6 I_2 (i := (6 + l1)) (by omega)
  have m_27 : g2 215 (6 + l1) = g 215 (6 + l1) := by rw [e_1]; exact zi_u_ne (by decide)
  have m_28 := zk_now6 I (i := (6 + l1)) (by omega)
  intro g6 e_19
  have I_20 : zk_I g6 := by rw [e_19]; exact zk_upd (L := (-2147483648)) (H := 2147483647) rfl rfl I_12 ⟨by omega, by omega⟩
  have F_21 : zk_fr fr_M_asks g g6 := by rw [e_19]; exact zk_fu F_13 (by unfold fr_M_asks; omega)
  have m_32 := zk_rng I_20 215 3
  have m_33 : g6 215 3 = g4 215 3 := by rw [e_19]; exact zi_u_ne (by decide)
  have m_34 := zk_rng I_12 215 3
  have m_35 : g4 215 3 = g3 215 3 := by rw [e_11]; exact zi_u_ne (by decide)
  have m_36 := zk_rng I_6 215 3
  have m_37 : g3 215 3 = g2 215 3 := by rw [e_5]; exact zi_u_ne (by decide)
  have m_38 := zk_rng I_2 215 3
  have m_39 : g2 215 3 = g 215 3 := by rw [e_1]; exact zi_u_ne (by decide)
  have m_40 := zk_rng I 215 3
  intro g7 e_29
  have I_30 : zk_I g7 := by rw [e_29]; exact zk_upd (L := (-2147483648)) (H := 2147483647) rfl rfl I_20 ⟨by omega, by omega⟩
  have F_31 : zk_fr fr_M_asks g g7 := by rw [e_29]; exact zk_fu F_21 (by unfold fr_M_asks; omega)
  refine ⟨⟨by omega, by omega⟩, ?_⟩
  have m_44 := zk_now26 I_30 (i := (26 + l1)) (by omega)
  have m_45 : g7 215 (26 + l1) = g6 215 (26 + l1) := by rw [e_29]; exact zi_u_ne (by decide)
  have m_46 := zk_now26 I_20 (i := (26 + l1)) (by omega)
  have m_47 : g6 215 (26 + l1) = g4 215 (26 + l1) := by rw [e_19]; exact zi_u_ne (by decide)
  have m_48 := zk_now26 I_12 (i := (26 + l1)) (by omega)
  have m_49 : g4 215 (26 + l1) = g3 215 (26 + l1) := by rw [e_11]; exact zi_u_ne (by decide)
  have m_50 := zk_now26 I_6 (i := (26 + l1)) (by omega)
  have m_51 : g3 215 (26 + l1) = g2 215 (26 + l1) := by rw [e_5]; exact zi_u_ne (by decide)
  have m_52 := zk_now26 I_2 (i := (26 + l1)) (by omega)
  have m_53 : g2 215 (26 + l1) = g 215 (26 + l1) := by rw [e_1]; exact zi_u_ne (by decide)
  have m_54 := zk_now26 I (i := (26 + l1)) (by omega)
  intro g9 e_41
  have I_42 : zk_I g9 := by rw [e_41]; exact zk_upd (L := (-2147483648)) (H := 2147483647) rfl rfl I_30 ⟨by omega, by omega⟩
  have F_43 : zk_fr fr_M_asks g g9 := by rw [e_41]; exact zk_fu F_31 (by unfold fr_M_asks; omega)
  refine ⟨⟨by omega, by omega⟩, ?_⟩
  have m_58 := zk_now16 I_42 (i := (16 + l1)) (by omega)
  have m_59 : g9 215 (16 + l1) = g7 215 (16 + l1) := by rw [e_41]; exact zi_u_ne (by decide)
  have m_60 := zk_now16 I_30 (i := (16 + l1)) (by omega)
  have m_61 : g7 215 (16 + l1) = g6 215 (16 + l1) := by rw [e_29]; exact zi_u_ne (by decide)
  have m_62 := zk_now16 I_20 (i := (16 + l1)) (by omega)
  have m_63 : g6 215 (16 + l1) = g4 215 (16 + l1) := by rw [e_19]; exact zi_u_ne (by decide)
  have m_64 := zk_now16 I_12 (i := (16 + l1)) (by omega)
  have m_65 : g4 215 (16 + l1) = g3 215 (16 + l1) := by rw [e_11]; exact zi_u_ne (by decide)
  have m_66 := zk_now16 I_6 (i := (16 + l1)) (by omega)
  have m_67 : g3 215 (16 + l1) = g2 215 (16 + l1) := by rw [e_5]; exact zi_u_ne (by decide)
  have m_68 := zk_now16 I_2 (i := (16 + l1)) (by omega)
  have m_69 : g2 215 (16 + l1) = g 215 (16 + l1) := by rw [e_1]; exact zi_u_ne (by decide)
  have m_70 := zk_now16 I (i := (16 + l1)) (by omega)
  intro g11 e_55
  have I_56 : zk_I g11 := by rw [e_55]; exact zk_upd (L := (-2147483648)) (H := 2147483647) rfl rfl I_42 ⟨by omega, by omega⟩
  have F_57 : zk_fr fr_M_asks g g11 := by rw [e_55]; exact zk_fu F_43 (by unfold fr_M_asks; omega)
  intro g12 e_71
  have I_72 : zk_I g12 := by rw [e_71]; exact zk_upd (L := (-2147483648)) (H := 2147483647) rfl rfl I_56 ⟨by omega, by omega⟩
  have F_73 : zk_fr fr_M_asks g g12 := by rw [e_71]; exact zk_fu F_57 (by unfold fr_M_asks; omega)
  have m_77 := zk_rng I_72 215 0
  have m_78 : g12 215 0 = g11 215 0 := by rw [e_71]; exact zi_u_ne (by decide)
  have m_79 := zk_rng I_56 215 0
  have m_80 : g11 215 0 = g9 215 0 := by rw [e_55]; exact zi_u_ne (by decide)
  have m_81 := zk_rng I_42 215 0
  have m_82 : g9 215 0 = g7 215 0 := by rw [e_41]; exact zi_u_ne (by decide)
  have m_83 := zk_rng I_30 215 0
  have m_84 : g7 215 0 = g6 215 0 := by rw [e_29]; exact zi_u_ne (by decide)
  have m_85 := zk_rng I_20 215 0
  have m_86 : g6 215 0 = g4 215 0 := by rw [e_19]; exact zi_u_ne (by decide)
  have m_87 := zk_rng I_12 215 0
  have m_88 : g4 215 0 = g3 215 0 := by rw [e_11]; exact zi_u_ne (by decide)
  have m_89 := zk_rng I_6 215 0
  have m_90 : g3 215 0 = g2 215 0 := by rw [e_5]; exact zi_u_ne (by decide)
  have m_91 := zk_rng I_2 215 0
  have m_92 : g2 215 0 = g 215 0 := by rw [e_1]; exact zi_u_ne (by decide)
  have m_93 := zk_rng I 215 0
  intro g13 e_74
  have I_75 : zk_I g13 := by rw [e_74]; exact zk_upd (L := (-2147483648)) (H := 2147483647) rfl rfl I_72 ⟨by omega, by omega⟩
  have F_76 : zk_fr fr_M_asks g g13 := by rw [e_74]; exact zk_fu F_73 (by unfold fr_M_asks; omega)
  exact hQ _ I_75 F_76
-- SpoutNewsModel.twoOf(III)I
set_option maxRecDepth 100000 in
set_option maxHeartbeats 400000 in
theorem k_M_twoOf {l1 : Int} {l2 : Int} {l3 : Int} {g : zi_M} {Q : Int → zi_M → Prop} (I : zk_I g) (p1 : (-2147483648) ≤ l1 ∧ l1 ≤ 2147483647) (p2 : (-2147483648) ≤ l2 ∧ l2 ≤ 2147483647) (p3 : (-2147483648) ≤ l3 ∧ l3 ≤ 2147483647) (hQ : ∀ v : Int, ((-2147483648) ≤ v ∧ v ≤ 2147483647) → Q v g) : w_M_twoOf l1 l2 l3 g Q := by
  unfold w_M_twoOf
  refine ⟨⟨by omega, by omega⟩, ?_⟩
  refine ⟨fun c22 => ?_, fun c22 => ?_⟩
  · refine ⟨fun c21 => ?_, fun c21 => ?_⟩
    · refine ⟨fun c20 => ?_, fun c20 => ?_⟩
      · refine ⟨fun c19 => ?_, fun c19 => ?_⟩
        · refine ⟨fun c15 => ?_, fun c15 => ?_⟩
          · refine ⟨fun c11 => ?_, fun c11 => ?_⟩
            · refine ⟨fun c7 => ?_, fun c7 => ?_⟩
              · refine ⟨fun c3 => ?_, fun c3 => ?_⟩
                · have m_1 := zi_r_w (l2 + l3)
                  refine ⟨fun c2 => ?_, fun c2 => ?_⟩
                  · exact hQ _ ⟨by omega, by omega⟩
                  · exact hQ _ ⟨by omega, by omega⟩
                · have m_2 := zi_r_w (l2 * l3)
                  exact hQ _ ⟨by omega, by omega⟩
              · refine ⟨⟨by omega, by omega⟩, ⟨by omega, by omega⟩, ?_⟩
                refine ⟨fun c6 => ?_, fun c6 => ?_⟩
                · exact hQ _ ⟨by omega, by omega⟩
                · exact hQ _ ⟨by omega, by omega⟩
            · refine ⟨⟨by omega, by omega⟩, ⟨by omega, by omega⟩, ?_⟩
              refine ⟨fun c10 => ?_, fun c10 => ?_⟩
              · exact hQ _ ⟨by omega, by omega⟩
              · exact hQ _ ⟨by omega, by omega⟩
          · refine ⟨⟨by omega, by omega⟩, ⟨by omega, by omega⟩, ?_⟩
            refine ⟨fun c14 => ?_, fun c14 => ?_⟩
            · exact hQ _ ⟨by omega, by omega⟩
            · exact hQ _ ⟨by omega, by omega⟩
        · refine ⟨⟨by omega, by omega⟩, ⟨by omega, by omega⟩, (by omega), ?_⟩
          have m_3 := zi_tdiv_f l2 l3
          exact hQ _ ⟨by omega, by omega⟩
      · have m_4 := zi_r_w (l2 * l3)
        exact hQ _ ⟨by omega, by omega⟩
    · have m_5 := zi_r_w (l2 - l3)
      exact hQ _ ⟨by omega, by omega⟩
  · have m_6 := zi_r_w (l2 + l3)
    exact hQ _ ⟨by omega, by omega⟩
-- SpoutNewsModel.runs(III)I
def fr_M_runs (a : Nat) (i : Int) : Prop := a = 236
set_option maxRecDepth 100000 in
set_option maxHeartbeats 400000 in
theorem k_M_runs_b45 {l1 : Int} {l3 : Int} {l4 : Int} {l5 : Int} {H : Int → Int → zi_M → Prop} {K176 : zi_M → Prop} {Q : Int → zi_M → Prop} {g : zi_M} {g0 : zi_M} (I : zk_I g) (F : zk_fr fr_M_runs g0 g) (p1 : 0 ≤ l1 ∧ l1 ≤ 0) (p3 : 0 ≤ l3 ∧ l3 ≤ 400) (p5 : 0 ≤ l5 ∧ l5 ≤ 399) (M : Int) (hM : 400 - l5 ≤ M) (hH : ∀ (m4 : Int) (m5 : Int) (g : zi_M), zk_I g → zk_fr fr_M_runs g0 g → (0 ≤ m5 ∧ m5 ≤ 400) → 400 - m5 < M → H m4 m5 g) (hK176 : ∀ (g : zi_M), zk_I g → zk_fr fr_M_runs g0 g → K176 g) (hQ : ∀ (v : Int) (g' : zi_M), zk_I g' → zk_fr fr_M_runs g0 g' → ((-2147483648) ≤ v ∧ v ≤ 2147483647) → Q v g') : w_M_runs_b45 l1 l3 l4 l5 g H K176 Q := by
  unfold w_M_runs_b45
  refine ⟨⟨by omega, by omega⟩, ?_⟩
  have m_2 : (-2147483648) ≤ (g 229 l5) ∧ (g 229 l5) ≤ 2147483647 := I 229 l5
  refine ⟨⟨by omega, by omega⟩, ?_⟩
  refine ⟨fun c12 => ?_, fun c12 => ?_⟩
  · have m_3 : (-2147483648) ≤ (g 230 l5) ∧ (g 230 l5) ≤ 2147483647 := I 230 l5
    refine ⟨⟨by omega, by omega⟩, ?_⟩
    refine ⟨⟨by omega, by omega⟩, ?_⟩
    have m_7 : (-2147483648) ≤ (g 235 (g 230 l5)) ∧ (g 235 (g 230 l5)) ≤ 2147483647 := I 235 (g 230 l5)
    intro g9 e_4
    have I_5 : zk_I g9 := by rw [e_4]; exact zk_upd (L := (-2147483648)) (H := 2147483647) rfl rfl I ⟨by omega, by omega⟩
    have F_6 : zk_fr fr_M_runs g0 g9 := by rw [e_4]; exact zk_fu F (by unfold fr_M_runs; omega)
    exact hH _ _ _ I_5 F_6 ⟨by omega, by omega⟩ (by omega)
  · refine ⟨⟨by omega, by omega⟩, ?_⟩
    have m_11 : (-2147483648) ≤ (g 230 l5) ∧ (g 230 l5) ≤ 2147483647 := I 230 l5
    intro g11 e_8
    have I_9 : zk_I g11 := by rw [e_8]; exact zk_upd (L := (-2147483648)) (H := 2147483647) rfl rfl I ⟨by omega, by omega⟩
    have F_10 : zk_fr fr_M_runs g0 g11 := by rw [e_8]; exact zk_fu F (by unfold fr_M_runs; omega)
    exact hH _ _ _ I_9 F_10 ⟨by omega, by omega⟩ (by omega)
set_option maxRecDepth 100000 in
set_option maxHeartbeats 400000 in
theorem k_M_runs_l12 {l1 : Int} {l3 : Int} {K176 : zi_M → Prop} {Q : Int → zi_M → Prop} {g0 : zi_M} (q1 : 0 ≤ l1 ∧ l1 ≤ 0) (q3 : 0 ≤ l3 ∧ l3 ≤ 400) (hK176 : ∀ (g : zi_M), zk_I g → zk_fr fr_M_runs g0 g → K176 g) (hQ : ∀ (v : Int) (g' : zi_M), zk_I g' → zk_fr fr_M_runs g0 g' → ((-2147483648) ≤ v ∧ v ≤ 2147483647) → Q v g') : ∀ (n : Nat) {l4 : Int} {l5 : Int} {g : zi_M}, zk_I g → zk_fr fr_M_runs g0 g → (0 ≤ l5 ∧ l5 ≤ 400) → 400 - l5 < (n : Int) → w_M_runs_l12 l1 l3 K176 Q n l4 l5 g
  | 0, l4, l5, g, I, F, b0, hm => by exfalso; omega
  | n + 1, l4, l5, g, I, F, b0, hm => by
    unfold w_M_runs_l12
    refine ⟨⟨by omega, by omega⟩, ⟨by omega, by omega⟩, ?_⟩
    refine ⟨fun c24 => ?_, fun c24 => ?_⟩
    · exact hK176 _ I F
    · refine ⟨⟨by omega, by omega⟩, ?_⟩
      have m_1 : (-2147483648) ≤ (g 229 l5) ∧ (g 229 l5) ≤ 2147483647 := I 229 l5
      refine ⟨⟨by omega, by omega⟩, ?_⟩
      refine ⟨fun c23 => ?_, fun c23 => ?_⟩
      · exact k_M_runs_b45 I F ⟨by omega, by omega⟩ ⟨by omega, by omega⟩ ⟨by omega, by omega⟩ (n : Int) (by omega) (fun _ _ _ I F b0 hm => k_M_runs_l12 q1 q3 hK176 hQ n I F b0 hm) hK176 hQ
      · refine ⟨fun c22 => ?_, fun c22 => ?_⟩
        · refine ⟨fun c21 => ?_, fun c21 => ?_⟩
          · refine ⟨⟨by omega, by omega⟩, ?_⟩
            refine ⟨⟨by omega, by omega⟩, ?_⟩
            have m_12 : (-2147483648) ≤ (g 236 ((l4 - 1) - 1)) ∧ (g 236 ((l4 - 1) - 1)) ≤ 2147483647 := I 236 ((l4 - 1) - 1)
            have m_13 : (-2147483648) ≤ (g 236 (l4 - 1)) ∧ (g 236 (l4 - 1)) ≤ 2147483647 := I 236 (l4 - 1)
            refine k_M_twoOf I ⟨by omega, by omega⟩ ⟨by omega, by omega⟩ ⟨by omega, by omega⟩ (fun v15 b_14 => ?_)
            intro g18 e_15
            have I_16 : zk_I g18 := by rw [e_15]; exact zk_upd (L := (-2147483648)) (H := 2147483647) rfl rfl I ⟨by omega, by omega⟩
            have F_17 : zk_fr fr_M_runs g0 g18 := by rw [e_15]; exact zk_fu F (by unfold fr_M_runs; omega)
            exact k_M_runs_l12 q1 q3 hK176 hQ n I_16 F_17 ⟨by omega, by omega⟩ (by omega)
          · refine ⟨⟨by omega, by omega⟩, ?_⟩
            have m_21 : (-2147483648) ≤ (g 236 (l4 - 1)) ∧ (g 236 (l4 - 1)) ≤ 2147483647 := I 236 (l4 - 1)
            have m_22 := zi_r_w (1 - (g 236 (l4 - 1)))
            intro g20 e_18
            have I_19 : zk_I g20 := by rw [e_18]; exact zk_upd (L := (-2147483648)) (H := 2147483647) rfl rfl I ⟨by omega, by omega⟩
            have F_20 : zk_fr fr_M_runs g0 g20 := by rw [e_18]; exact zk_fu F (by unfold fr_M_runs; omega)
            exact k_M_runs_l12 q1 q3 hK176 hQ n I_19 F_20 ⟨by omega, by omega⟩ (by omega)
        · exact k_M_runs_b45 I F ⟨by omega, by omega⟩ ⟨by omega, by omega⟩ ⟨by omega, by omega⟩ (n : Int) (by omega) (fun _ _ _ I F b0 hm => k_M_runs_l12 q1 q3 hK176 hQ n I F b0 hm) hK176 hQ
set_option maxRecDepth 100000 in
set_option maxHeartbeats 400000 in
theorem k_M_runs {l1 : Int} {l2 : Int} {l3 : Int} {g : zi_M} {Q : Int → zi_M → Prop} (I : zk_I g) (p1 : 0 ≤ l1 ∧ l1 ≤ 0) (p2 : 0 ≤ l2 ∧ l2 ≤ 400) (p3 : 0 ≤ l3 ∧ l3 ≤ 400) (hQ : ∀ (v : Int) (g' : zi_M), zk_I g' → zk_fr fr_M_runs g g' → ((-2147483648) ≤ v ∧ v ≤ 2147483647) → Q v g') : w_M_runs l1 l2 l3 g Q := by
  unfold w_M_runs
  refine ⟨((400 - ((400 * l1) + l2)).toNat + 1), k_M_runs_l12 (l1 := l1) (l3 := l3) ⟨by omega, by omega⟩ ⟨by omega, by omega⟩ (fun g25 I_23 F_24 => ?_) hQ ((400 - ((400 * l1) + l2)).toNat + 1) I (zk_f0 _) ⟨by omega, by omega⟩ (by omega)⟩
  have m_25 : (-2147483648) ≤ (g25 236 0) ∧ (g25 236 0) ≤ 2147483647 := I_23 236 0
  exact hQ _ _ I_23 F_24 ⟨by omega, by omega⟩
