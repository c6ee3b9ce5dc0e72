-- by program (wip/gen/mkz.py)
-- SpoutNewsModel.seat(II)I
def fr_M_seat (a : Nat) (i : Int) : Prop := a = 239 ∨ a = 240 ∨ (a = 214 ∧ i = 0) ∨ (a = 214 ∧ i = 46)
set_option maxRecDepth 100000 in
set_option maxHeartbeats 400000 in
theorem k_M_seat_l17 {K36 : zi_M → Prop} {Q : Int → zi_M → Prop} {g0 : zi_M} (hK36 : ∀ (g : zi_M), zk_I g → zk_fr fr_M_seat g0 g → K36 g) (hQ : ∀ (v : Int) (g' : zi_M), zk_I g' → zk_fr fr_M_seat g0 g' → ((-1) ≤ v ∧ v ≤ 12) → Q v g') : ∀ (n : Nat) {l3 : Int} {g : zi_M}, zk_I g → zk_fr fr_M_seat g0 g → (0 ≤ l3 ∧ l3 ≤ 8) → 8 - l3 < (n : Int) → w_M_seat_l17 K36 Q n l3 g
  | 0, l3, g, I, F, b0, hm => by exfalso; omega
  | n + 1, l3, g, I, F, b0, hm => by
    unfold w_M_seat_l17
    refine ⟨⟨by omega, by omega⟩, ?_⟩
    refine ⟨fun c22 => ?_, fun c22 => ?_⟩
    · exact hK36 _ I F
    · refine ⟨⟨by omega, by omega⟩, ?_⟩
      intro g21 e_42
      have I_43 : zk_I g21 := by rw [e_42]; exact zk_upd (L := 0) (H := 1023) rfl rfl I ⟨by omega, by omega⟩
      have F_44 : zk_fr fr_M_seat g0 g21 := by rw [e_42]; exact zk_fu F (by unfold fr_M_seat; omega)
      exact k_M_seat_l17 hK36 hQ n I_43 F_44 ⟨by omega, by omega⟩ (by omega)
set_option maxRecDepth 100000 in
set_option maxHeartbeats 400000 in
theorem k_M_seat {l1 : Int} {l2 : Int} {g : zi_M} {Q : Int → zi_M → Prop} (I : zk_I g) (p1 : (-2147483648) ≤ l1 ∧ l1 ≤ 2147483647) (p2 : (-2147483648) ≤ l2 ∧ l2 ≤ 2147483647) (hQ : ∀ (v : Int) (g' : zi_M), zk_I g' → zk_fr fr_M_seat g g' → ((-1) ≤ v ∧ v ≤ 12) → Q v g') : w_M_seat l1 l2 g Q := by
  unfold w_M_seat
  intro g1 e_1
  have I_2 : zk_I g1 := by rw [e_1]; exact zk_upd (L := (-2147483648)) (H := 2147483647) rfl rfl I ⟨by omega, by omega⟩
  have F_3 : zk_fr fr_M_seat g g1 := by rw [e_1]; exact zk_fu (zk_f0 _) (by unfold fr_M_seat; omega)
  refine ⟨⟨by omega, by omega⟩, ?_⟩
  refine ⟨fun c25 => ?_, fun c25 => ?_⟩
  · have m_7 : 0 ≤ (g1 214 7) ∧ (g1 214 7) ≤ 8 := I_2 214 7
    have m_8 : g1 214 7 = g 214 7 := by rw [e_1]; exact zi_u_ni (by decide)
    have m_9 : 0 ≤ (g 214 7) ∧ (g 214 7) ≤ 8 := I 214 7
    refine k_M_isSitter I_2 ⟨by omega, by omega⟩ (fun v3 b_4 b_5 b_6 => ?_)
    refine ⟨fun c17 => ?_, fun c17 => ?_⟩
    · exact hQ _ _ I_2 F_3 ⟨by omega, by omega⟩
    · have m_13 : 0 ≤ (g1 214 6) ∧ (g1 214 6) ≤ 10 := I_2 214 6
      have m_14 : g1 214 6 = g 214 6 := by rw [e_1]; exact zi_u_ni (by decide)
      have m_15 : 0 ≤ (g 214 6) ∧ (g 214 6) ≤ 10 := I 214 6
      refine k_M_isSpout I_2 ⟨by omega, by omega⟩ (fun v6 b_10 b_11 b_12 => ?_)
      refine ⟨fun c16 => ?_, fun c16 => ?_⟩
      · exact hQ _ _ I_2 F_3 ⟨by omega, by omega⟩
      · have m_16 : 0 ≤ (g1 214 46) ∧ (g1 214 46) ≤ 12 := I_2 214 46
        have m_17 : g1 214 46 = g 214 46 := by rw [e_1]; exact zi_u_ni (by decide)
        have m_18 : 0 ≤ (g 214 46) ∧ (g 214 46) ≤ 12 := I 214 46
        refine ⟨⟨by omega, by omega⟩, ?_⟩
        refine ⟨fun c15 => ?_, fun c15 => ?_⟩
        · refine ⟨⟨by omega, by omega⟩, ?_⟩
          have m_22 : 0 ≤ (g1 239 l1) ∧ (g1 239 l1) ≤ 1023 := I_2 239 l1
          have m_23 : g1 239 l1 = g 239 l1 := by rw [e_1]; exact zi_u_ne (by decide)
          have m_24 : 0 ≤ (g 239 l1) ∧ (g 239 l1) ≤ 1023 := I 239 l1
          have m_25 := zi_shl_f l2
          have m_26 := zi_or_f (g1 239 l1) (zi_shl 1 l2)
          intro g11 e_19
          have I_20 : zk_I g11 := by rw [e_19]; exact zk_upd (L := 0) (H := 1023) rfl rfl I_2 ⟨by omega, by omega⟩
          have F_21 : zk_fr fr_M_seat g g11 := by rw [e_19]; exact zk_fu F_3 (by unfold fr_M_seat; omega)
          have m_30 : 0 ≤ (g11 214 46) ∧ (g11 214 46) ≤ 12 := I_20 214 46
          have m_31 : g11 214 46 = g1 214 46 := by rw [e_19]; exact zi_u_ne (by decide)
          refine ⟨⟨by omega, by omega⟩, ?_⟩
          intro g13 e_27
          have I_28 : zk_I g13 := by rw [e_27]; exact zk_upd (L := 0) (H := 79) rfl rfl I_20 ⟨by omega, by omega⟩
          have F_29 : zk_fr fr_M_seat g g13 := by rw [e_27]; exact zk_fu F_21 (by unfold fr_M_seat; omega)
          have m_35 : 0 ≤ (g13 214 46) ∧ (g13 214 46) ≤ 12 := I_28 214 46
          have m_36 : g13 214 46 = g11 214 46 := by rw [e_27]; exact zi_u_ne (by decide)
          intro g14 e_32
          have I_33 : zk_I g14 := by rw [e_32]; exact zk_upd (L := 0) (H := 12) rfl rfl I_28 ⟨by omega, by omega⟩
          have F_34 : zk_fr fr_M_seat g g14 := by rw [e_32]; exact zk_fu F_29 (by unfold fr_M_seat; omega)
          have m_37 : 0 ≤ (g14 214 46) ∧ (g14 214 46) ≤ 12 := I_33 214 46
          have m_38 : g14 214 46 = (g13 214 46) + 1 := by rw [e_32]; exact zi_u_eq
          exact hQ _ _ I_33 F_34 ⟨by omega, by omega⟩
        · exact hQ _ _ I_2 F_3 ⟨by omega, by omega⟩
  · intro g18 e_39
    have I_40 : zk_I g18 := by rw [e_39]; exact zk_upd (L := 0) (H := 12) rfl rfl I_2 ⟨by omega, by omega⟩
    have F_41 : zk_fr fr_M_seat g g18 := by rw [e_39]; exact zk_fu F_3 (by unfold fr_M_seat; omega)
    refine ⟨((8 - 0).toNat + 1), k_M_seat_l17 (fun g23 I_45 F_46 => ?_) hQ ((8 - 0).toNat + 1) I_40 F_41 ⟨by omega, by omega⟩ (by omega)⟩
    exact hQ _ _ I_45 F_46 ⟨by omega, by omega⟩
-- SpoutNews$Thought.whomToAsk()I
set_option maxRecDepth 100000 in
set_option maxHeartbeats 400000 in
theorem k_Thought_whomToAsk_l18 {g : zi_M} (I : zk_I g) {l3 : Int} {K50 : Int → zi_M → Prop} {Q : Int → zi_M → Prop} (q3 : 0 ≤ l3 ∧ l3 ≤ 7) (hK50 : ∀ (k4 : Int), (0 ≤ k4 ∧ k4 ≤ 2147483647) → K50 k4 g) (hQ : ∀ v : Int, ((-1) ≤ v ∧ v ≤ 7) → Q v g) : ∀ (n : Nat) {l4 : Int} {l5 : Int}, (0 ≤ l4 ∧ l4 ≤ 2147483647) → (0 ≤ l5 ∧ l5 ≤ 10) → 10 - l5 < (n : Int) → w_Thought_whomToAsk_l18 l3 K50 Q n l4 l5 g
  | 0, l4, l5, b0, b1, hm => by exfalso; omega
  | n + 1, l4, l5, b0, b1, hm => by
    unfold w_Thought_whomToAsk_l18
    refine ⟨⟨by omega, by omega⟩, ?_⟩
    refine ⟨fun c6 => ?_, fun c6 => ?_⟩
    · exact hK50 _ ⟨by omega, by omega⟩
    · refine ⟨⟨by omega, by omega⟩, ?_⟩
      have m_1 : (-2147483648) ≤ (g 183 ((l3 * 10) + l5)) ∧ (g 183 ((l3 * 10) + l5)) ≤ 2147483647 := I 183 ((l3 * 10) + l5)
      refine ⟨⟨by omega, by omega⟩, ⟨by omega, by omega⟩, ?_⟩
      exact k_Thought_whomToAsk_l18 I q3 hK50 hQ n ⟨by omega, by omega⟩ ⟨by omega, by omega⟩ (by omega)
set_option maxRecDepth 100000 in
set_option maxHeartbeats 400000 in
theorem k_Thought_whomToAsk_l6 {g : zi_M} (I : zk_I g) {K81 : Int → zi_M → Prop} {Q : Int → zi_M → Prop} (hK81 : ∀ (k1 : Int), ((-1) ≤ k1 ∧ k1 ≤ 7) → K81 k1 g) (hQ : ∀ v : Int, ((-1) ≤ v ∧ v ≤ 7) → Q v g) : ∀ (n : Nat) {l1 : Int} {l2 : Int} {l3 : Int}, ((-1) ≤ l1 ∧ l1 ≤ 7) → (0 ≤ l2 ∧ l2 ≤ 2147483647) → (0 ≤ l3 ∧ l3 ≤ 8) → 8 - l3 < (n : Int) → w_Thought_whomToAsk_l6 K81 Q n l1 l2 l3 g
  | 0, l1, l2, l3, b0, b1, b2, hm => by exfalso; omega
  | n + 1, l1, l2, l3, b0, b1, b2, hm => by
    unfold w_Thought_whomToAsk_l6
    refine ⟨⟨by omega, by omega⟩, ?_⟩
    refine ⟨fun c18 => ?_, fun c18 => ?_⟩
    · exact hK81 _ ⟨by omega, by omega⟩
    · refine ⟨((10 - 0).toNat + 1), k_Thought_whomToAsk_l18 (l3 := l3) I ⟨by omega, by omega⟩ (fun k7 b_2 => ?_) hQ ((10 - 0).toNat + 1) ⟨by omega, by omega⟩ ⟨by omega, by omega⟩ (by omega)⟩
      refine ⟨⟨by omega, by omega⟩, ?_⟩
      have m_3 : (-2147483648) ≤ (g 181 l3) ∧ (g 181 l3) ≤ 2147483647 := I 181 l3
      refine ⟨⟨by omega, by omega⟩, ?_⟩
      refine ⟨fun c16 => ?_, fun c16 => ?_⟩
      · exact k_Thought_whomToAsk_l6 I hK81 hQ n ⟨by omega, by omega⟩ ⟨by omega, by omega⟩ ⟨by omega, by omega⟩ (by omega)
      · refine ⟨⟨by omega, by omega⟩, ?_⟩
        refine ⟨fun c15 => ?_, fun c15 => ?_⟩
        · exact k_Thought_whomToAsk_l6 I hK81 hQ n ⟨by omega, by omega⟩ ⟨by omega, by omega⟩ ⟨by omega, by omega⟩ (by omega)
        · refine ⟨⟨by omega, by omega⟩, ⟨by omega, by omega⟩, ?_⟩
          refine ⟨fun c14 => ?_, fun c14 => ?_⟩
          · exact k_Thought_whomToAsk_l6 I hK81 hQ n ⟨by omega, by omega⟩ ⟨by omega, by omega⟩ ⟨by omega, by omega⟩ (by omega)
          · exact k_Thought_whomToAsk_l6 I hK81 hQ n ⟨by omega, by omega⟩ ⟨by omega, by omega⟩ ⟨by omega, by omega⟩ (by omega)
set_option maxRecDepth 100000 in
set_option maxHeartbeats 400000 in
theorem k_Thought_whomToAsk {g : zi_M} {Q : Int → zi_M → Prop} (I : zk_I g) (hQ : ∀ v : Int, ((-1) ≤ v ∧ v ≤ 7) → Q v g) : w_Thought_whomToAsk g Q := by
  unfold w_Thought_whomToAsk
  refine ⟨((8 - 0).toNat + 1), k_Thought_whomToAsk_l6 I (fun k19 b_4 => ?_) hQ ((8 - 0).toNat + 1) ⟨by omega, by omega⟩ ⟨by omega, by omega⟩ ⟨by omega, by omega⟩ (by omega)⟩
  exact hQ _ ⟨by omega, by omega⟩
-- SpoutNews$Thought.sureCouples()I
set_option maxRecDepth 100000 in
set_option maxHeartbeats 400000 in
theorem k_Thought_sureCouples_l12 {g : zi_M} (I : zk_I g) {l2 : Int} {K59 : Int → zi_M → Prop} {Q : Int → zi_M → Prop} (q2 : 0 ≤ l2 ∧ l2 ≤ 7) (hK59 : ∀ (k1 : Int), (0 ≤ k1) → K59 k1 g) (hQ : ∀ v : Int, (0 ≤ v) → Q v g) : ∀ (n : Nat) {l1 : Int} {l3 : Int}, (0 ≤ l1) → (0 ≤ l3 ∧ l3 ≤ 10) → 10 - l3 < (n : Int) → w_Thought_sureCouples_l12 l2 K59 Q n l1 l3 g
  | 0, l1, l3, b0, b1, hm => by exfalso; omega
  | n + 1, l1, l3, b0, b1, hm => by
    unfold w_Thought_sureCouples_l12
    refine ⟨⟨by omega, by omega⟩, ?_⟩
    refine ⟨fun c9 => ?_, fun c9 => ?_⟩
    · exact hK59 _ (by omega)
    · refine ⟨⟨by omega, by omega⟩, ?_⟩
      have m_1 : (-2147483648) ≤ (g 181 l2) ∧ (g 181 l2) ≤ 2147483647 := I 181 l2
      have m_2 := zi_shr_f (g 181 l2) l3
      have m_3 := zi_and_f (zi_shr (g 181 l2) l3) 1
      refine ⟨fun c8 => ?_, fun c8 => ?_⟩
      · exact k_Thought_sureCouples_l12 I q2 hK59 hQ n (by omega) ⟨by omega, by omega⟩ (by omega)
      · refine ⟨⟨by omega, by omega⟩, ?_⟩
        have m_4 : (-2147483648) ≤ (g 183 ((l2 * 10) + l3)) ∧ (g 183 ((l2 * 10) + l3)) ≤ 2147483647 := I 183 ((l2 * 10) + l3)
        have m_5 : (-2147483648) ≤ (g 180 3) ∧ (g 180 3) ≤ 2147483647 := I 180 3
        refine ⟨⟨by omega, by omega⟩, ⟨by omega, by omega⟩, ?_⟩
        refine ⟨fun c7 => ?_, fun c7 => ?_⟩
        · exact k_Thought_sureCouples_l12 I q2 hK59 hQ n (by omega) ⟨by omega, by omega⟩ (by omega)
        · exact k_Thought_sureCouples_l12 I q2 hK59 hQ n (by omega) ⟨by omega, by omega⟩ (by omega)
set_option maxRecDepth 100000 in
set_option maxHeartbeats 400000 in
theorem k_Thought_sureCouples_l4 {g : zi_M} (I : zk_I g) {K65 : Int → zi_M → Prop} {Q : Int → zi_M → Prop} (hK65 : ∀ (k1 : Int), (0 ≤ k1) → K65 k1 g) (hQ : ∀ v : Int, (0 ≤ v) → Q v g) : ∀ (n : Nat) {l1 : Int} {l2 : Int}, (0 ≤ l1) → (0 ≤ l2 ∧ l2 ≤ 8) → 8 - l2 < (n : Int) → w_Thought_sureCouples_l4 K65 Q n l1 l2 g
  | 0, l1, l2, b0, b1, hm => by exfalso; omega
  | n + 1, l1, l2, b0, b1, hm => by
    unfold w_Thought_sureCouples_l4
    refine ⟨⟨by omega, by omega⟩, ?_⟩
    refine ⟨fun c13 => ?_, fun c13 => ?_⟩
    · exact hK65 _ (by omega)
    · refine ⟨((10 - 0).toNat + 1), k_Thought_sureCouples_l12 (l2 := l2) I ⟨by omega, by omega⟩ (fun k10 b_6 => ?_) hQ ((10 - 0).toNat + 1) (by omega) ⟨by omega, by omega⟩ (by omega)⟩
      exact k_Thought_sureCouples_l4 I hK65 hQ n (by omega) ⟨by omega, by omega⟩ (by omega)
set_option maxRecDepth 100000 in
set_option maxHeartbeats 400000 in
theorem k_Thought_sureCouples {g : zi_M} {Q : Int → zi_M → Prop} (I : zk_I g) (hQ : ∀ v : Int, (0 ≤ v) → Q v g) : w_Thought_sureCouples g Q := by
  unfold w_Thought_sureCouples
  refine ⟨((8 - 0).toNat + 1), k_Thought_sureCouples_l4 I (fun k14 b_7 => ?_) hQ ((8 - 0).toNat + 1) (by omega) ⟨by omega, by omega⟩ (by omega)⟩
  exact hQ _ (by omega)
-- SpoutNewsModel.seatsOf(II)I
set_option maxRecDepth 100000 in
set_option maxHeartbeats 400000 in
theorem k_M_seatsOf {l1 : Int} {l2 : Int} {g : zi_M} {Q : Int → zi_M → Prop} (I : zk_I g) (p1 : 0 ≤ l1 ∧ l1 ≤ 7) (p2 : (-1) ≤ l2) (hQ : ∀ v : Int, (l2 = (-1) → v = g 239 l1) → (¬ l2 = (-1) → ¬ (Int.tdiv l2 10) = l1 → v = g 239 l1) → (¬ l2 = (-1) → (Int.tdiv l2 10) = l1 → v = zi_and (g 239 l1) (zi_shl 1 (Int.tmod l2 10))) → Q v g) : w_M_seatsOf l1 l2 g Q := by
  unfold w_M_seatsOf
  refine ⟨⟨by omega, by omega⟩, ?_⟩
  refine ⟨fun c8 => ?_, fun c8 => ?_⟩
  · refine ⟨⟨by omega, by omega⟩, ?_⟩
    have m_1 : 0 ≤ (g 239 l1) ∧ (g 239 l1) ≤ 1023 := I 239 l1
    have m_2 := zi_tdiv_f l2 10
    have m_3 := zi_tdiv_c l2 10 (by decide)
    have m_4 := zi_tmod_f l2 10
    have m_5 := zi_tmod_c l2 10 (by decide)
    have m_6 := zi_shl_f (Int.tmod l2 10)
    have m_7 := zi_and_f (g 239 l1) (zi_shl 1 (Int.tmod l2 10))
    exact hQ _ (by intros; omega) (by intros; omega) (by intros; omega)
  · have m_8 := zi_tdiv_f l2 10
    have m_9 := zi_tdiv_c l2 10 (by decide)
    refine ⟨⟨by omega, by omega⟩, ⟨by omega, by omega⟩, ?_⟩
    refine ⟨fun c7 => ?_, fun c7 => ?_⟩
    · refine ⟨⟨by omega, by omega⟩, ?_⟩
      have m_10 : 0 ≤ (g 239 l1) ∧ (g 239 l1) ≤ 1023 := I 239 l1
      have m_11 := zi_tmod_f l2 10
      have m_12 := zi_tmod_c l2 10 (by decide)
      have m_13 := zi_shl_f (Int.tmod l2 10)
      have m_14 := zi_and_f (g 239 l1) (zi_shl 1 (Int.tmod l2 10))
      exact hQ _ (by intros; omega) (by intros; omega) (by intros; omega)
    · refine ⟨⟨by omega, by omega⟩, ?_⟩
      have m_15 : 0 ≤ (g 239 l1) ∧ (g 239 l1) ≤ 1023 := I 239 l1
      have m_16 := zi_tmod_f l2 10
      have m_17 := zi_tmod_c l2 10 (by decide)
      have m_18 := zi_shl_f (Int.tmod l2 10)
      have m_19 := zi_and_f (g 239 l1) (zi_shl 1 (Int.tmod l2 10))
      exact hQ _ (by intros; omega) (by intros; omega) (by intros; omega)
-- SpoutNewsModel.waysWith(I)I
def fr_M_waysWith (a : Nat) (i : Int) : Prop := a = 241
set_option maxRecDepth 100000 in
set_option maxHeartbeats 400000 in
theorem k_M_waysWith_l2 {K30 : zi_M → Prop} {Q : Int → zi_M → Prop} {g0 : zi_M} (hK30 : ∀ (g : zi_M), zk_I g → zk_fr fr_M_waysWith g0 g → K30 g) (hQ : ∀ (v : Int) (g' : zi_M), zk_I g' → zk_fr fr_M_waysWith g0 g' → ((-2147483648) ≤ v ∧ v ≤ 2147483647) → Q v g') : ∀ (n : Nat) {l2 : Int} {g : zi_M}, zk_I g → zk_fr fr_M_waysWith g0 g → (0 ≤ l2 ∧ l2 ≤ 1024) → 1024 - l2 < (n : Int) → w_M_waysWith_l2 K30 Q n l2 g
  | 0, l2, g, I, F, b0, hm => by exfalso; omega
  | n + 1, l2, g, I, F, b0, hm => by
    unfold w_M_waysWith_l2
    refine ⟨⟨by omega, by omega⟩, ?_⟩
    refine ⟨fun c7 => ?_, fun c7 => ?_⟩
    · exact hK30 _ I F
    · refine ⟨fun c6 => ?_, fun c6 => ?_⟩
      · refine ⟨⟨by omega, by omega⟩, ?_⟩
        intro g3 e_1
        have I_2 : zk_I g3 := by rw [e_1]; exact zk_upd (L := (-2147483648)) (H := 2147483647) rfl rfl I ⟨by omega, by omega⟩
        have F_3 : zk_fr fr_M_waysWith g0 g3 := by rw [e_1]; exact zk_fu F (by unfold fr_M_waysWith; omega)
        exact k_M_waysWith_l2 hK30 hQ n I_2 F_3 ⟨by omega, by omega⟩ (by omega)
      · refine ⟨⟨by omega, by omega⟩, ?_⟩
        intro g5 e_4
        have I_5 : zk_I g5 := by rw [e_4]; exact zk_upd (L := (-2147483648)) (H := 2147483647) rfl rfl I ⟨by omega, by omega⟩
        have F_6 : zk_fr fr_M_waysWith g0 g5 := by rw [e_4]; exact zk_fu F (by unfold fr_M_waysWith; omega)
        exact k_M_waysWith_l2 hK30 hQ n I_5 F_6 ⟨by omega, by omega⟩ (by omega)
set_option maxRecDepth 100000 in
set_option maxHeartbeats 400000 in
theorem k_M_waysWith_l73 {l3 : Int} {l4 : Int} {K118 : Int → zi_M → Prop} {Q : Int → zi_M → Prop} {g0 : zi_M} (q3 : 0 ≤ l3 ∧ l3 ≤ 1023) (q4 : 0 ≤ l4 ∧ l4 ≤ 1023) (hK118 : ∀ (k5 : Int) (g : zi_M), zk_I g → zk_fr fr_M_waysWith g0 g → ((-2147483648) ≤ k5 ∧ k5 ≤ 2147483647) → K118 k5 g) (hQ : ∀ (v : Int) (g' : zi_M), zk_I g' → zk_fr fr_M_waysWith g0 g' → ((-2147483648) ≤ v ∧ v ≤ 2147483647) → Q v g') : ∀ (n : Nat) {l5 : Int} {l6 : Int} {g : zi_M}, zk_I g → zk_fr fr_M_waysWith g0 g → ((-2147483648) ≤ l5 ∧ l5 ≤ 2147483647) → (0 ≤ l6 ∧ l6 ≤ 10) → 10 - l6 < (n : Int) → w_M_waysWith_l73 l3 l4 K118 Q n l5 l6 g
  | 0, l5, l6, g, I, F, b0, b1, hm => by exfalso; omega
  | n + 1, l5, l6, g, I, F, b0, b1, hm => by
    unfold w_M_waysWith_l73
    refine ⟨⟨by omega, by omega⟩, ?_⟩
    refine ⟨fun c23 => ?_, fun c23 => ?_⟩
    · exact hK118 _ _ I F ⟨by omega, by omega⟩
    · have m_20 := zi_and_f l4 l3
      have m_23 := zi_shr_f ((zi_and l4 l3)) (l6)
      have m_24 := zi_and_f (zi_shr (zi_and l4 l3) l6) 1
      refine k_M_has I ⟨by omega, by omega⟩ ⟨by omega, by omega⟩ (fun v17 b_21 b_22 => ?_)
      refine ⟨fun c22 => ?_, fun c22 => ?_⟩
      · exact k_M_waysWith_l73 q3 q4 hK118 hQ n I F ⟨by omega, by omega⟩ ⟨by omega, by omega⟩ (by omega)
      · have m_25 := zi_shl_f l6
        have m_26 := zi_xor_f (zi_shl 1 l6) (-1)
        have m_27 := zi_and_f l4 (zi_xor (zi_shl 1 l6) (-1))
        refine ⟨⟨by omega, by omega⟩, ?_⟩
        have m_28 : (-2147483648) ≤ (g 241 (zi_and l4 (zi_xor (zi_shl 1 l6) (-1)))) ∧ (g 241 (zi_and l4 (zi_xor (zi_shl 1 l6) (-1)))) ≤ 2147483647 := I 241 (zi_and l4 (zi_xor (zi_shl 1 l6) (-1)))
        have m_29 := zi_r_w (l5 + (g 241 (zi_and l4 (zi_xor (zi_shl 1 l6) (-1)))))
        intro y21 e_30
        exact k_M_waysWith_l73 q3 q4 hK118 hQ n I F ⟨by omega, by omega⟩ ⟨by omega, by omega⟩ (by omega)
set_option maxRecDepth 100000 in
set_option maxHeartbeats 400000 in
theorem k_M_waysWith_l62 {l3 : Int} {K133 : zi_M → Prop} {Q : Int → zi_M → Prop} {g0 : zi_M} (q3 : 0 ≤ l3 ∧ l3 ≤ 1023) (hK133 : ∀ (g : zi_M), zk_I g → zk_fr fr_M_waysWith g0 g → K133 g) (hQ : ∀ (v : Int) (g' : zi_M), zk_I g' → zk_fr fr_M_waysWith g0 g' → ((-2147483648) ≤ v ∧ v ≤ 2147483647) → Q v g') : ∀ (n : Nat) {l4 : Int} {g : zi_M}, zk_I g → zk_fr fr_M_waysWith g0 g → ((-1) ≤ l4 ∧ l4 ≤ 1023) → l4 - (-1) < (n : Int) → w_M_waysWith_l62 l3 K133 Q n l4 g
  | 0, l4, g, I, F, b0, hm => by exfalso; omega
  | n + 1, l4, g, I, F, b0, hm => by
    unfold w_M_waysWith_l62
    refine ⟨⟨by omega, by omega⟩, ?_⟩
    refine ⟨fun c29 => ?_, fun c29 => ?_⟩
    · exact hK133 _ I F
    · refine ⟨((10 - 0).toNat + 1), k_M_waysWith_l73 (l3 := l3) (l4 := l4) ⟨by omega, by omega⟩ ⟨by omega, by omega⟩ (fun k24 g25 I_31 F_32 b_33 => ?_) hQ ((10 - 0).toNat + 1) I F ⟨by omega, by omega⟩ ⟨by omega, by omega⟩ (by omega)⟩
      refine ⟨⟨by omega, by omega⟩, ?_⟩
      intro g27 e_34
      have I_35 : zk_I g27 := by rw [e_34]; exact zk_upd (L := (-2147483648)) (H := 2147483647) rfl rfl I_31 ⟨by omega, by omega⟩
      have F_36 : zk_fr fr_M_waysWith g0 g27 := by rw [e_34]; exact zk_fu F_32 (by unfold fr_M_waysWith; omega)
      exact k_M_waysWith_l62 q3 hK133 hQ n I_35 F_36 ⟨by omega, by omega⟩ (by omega)
set_option maxRecDepth 100000 in
set_option maxHeartbeats 400000 in
theorem k_M_waysWith_l32 {l1 : Int} {K139 : zi_M → Prop} {Q : Int → zi_M → Prop} {g0 : zi_M} (q1 : (-1) ≤ l1) (hK139 : ∀ (g : zi_M), zk_I g → zk_fr fr_M_waysWith g0 g → K139 g) (hQ : ∀ (v : Int) (g' : zi_M), zk_I g' → zk_fr fr_M_waysWith g0 g' → ((-2147483648) ≤ v ∧ v ≤ 2147483647) → Q v g') : ∀ (n : Nat) {l2 : Int} {g : zi_M}, zk_I g → zk_fr fr_M_waysWith g0 g → (0 ≤ l2 ∧ l2 ≤ 8) → 8 - l2 < (n : Int) → w_M_waysWith_l32 l1 K139 Q n l2 g
  | 0, l2, g, I, F, b0, hm => by exfalso; omega
  | n + 1, l2, g, I, F, b0, hm => by
    unfold w_M_waysWith_l32
    refine ⟨⟨by omega, by omega⟩, ?_⟩
    refine ⟨fun c33 => ?_, fun c33 => ?_⟩
    · exact hK139 _ I F
    · refine ⟨⟨by omega, by omega⟩, ?_⟩
      have m_9 : 0 ≤ (g 239 l2) ∧ (g 239 l2) ≤ 1023 := I 239 l2
      refine ⟨⟨by omega, by omega⟩, ?_⟩
      refine ⟨fun c32 => ?_, fun c32 => ?_⟩
      · have m_13 : 0 ≤ (g 239 (l2)) ∧ (g 239 (l2)) ≤ 1023 := I 239 (l2)
        have m_14 := zi_tdiv_f (l1) 10
        have m_15 := zi_tdiv_c (l1) 10 (by decide)
        have m_16 := zi_tmod_f (l1) 10
        have m_17 := zi_tmod_c (l1) 10 (by decide)
        have m_18 := zi_shl_f (Int.tmod l1 10)
        have m_19 := zi_and_f (g 239 l2) (zi_shl 1 (Int.tmod l1 10))
        refine k_M_seatsOf I ⟨by omega, by omega⟩ (by omega) (fun v12 b_10 b_11 b_12 => ?_)
        refine ⟨((1023 - (-1)).toNat + 1), k_M_waysWith_l62 (l3 := v12) ⟨by omega, by omega⟩ (fun g30 I_37 F_38 => ?_) hQ ((1023 - (-1)).toNat + 1) I F ⟨by omega, by omega⟩ (by omega)⟩
        exact k_M_waysWith_l32 q1 hK139 hQ n I_37 F_38 ⟨by omega, by omega⟩ (by omega)
      · exact k_M_waysWith_l32 q1 hK139 hQ n I F ⟨by omega, by omega⟩ (by omega)
set_option maxRecDepth 100000 in
set_option maxHeartbeats 400000 in
theorem k_M_waysWith_l143 {K165 : Int → zi_M → Prop} {Q : Int → zi_M → Prop} {g0 : zi_M} (hK165 : ∀ (k2 : Int) (g : zi_M), zk_I g → zk_fr fr_M_waysWith g0 g → ((-2147483648) ≤ k2 ∧ k2 ≤ 2147483647) → K165 k2 g) (hQ : ∀ (v : Int) (g' : zi_M), zk_I g' → zk_fr fr_M_waysWith g0 g' → ((-2147483648) ≤ v ∧ v ≤ 2147483647) → Q v g') : ∀ (n : Nat) {l2 : Int} {l3 : Int} {g : zi_M}, zk_I g → zk_fr fr_M_waysWith g0 g → ((-2147483648) ≤ l2 ∧ l2 ≤ 2147483647) → (0 ≤ l3 ∧ l3 ≤ 1024) → 1024 - l3 < (n : Int) → w_M_waysWith_l143 K165 Q n l2 l3 g
  | 0, l2, l3, g, I, F, b0, b1, hm => by exfalso; omega
  | n + 1, l2, l3, g, I, F, b0, b1, hm => by
    unfold w_M_waysWith_l143
    refine ⟨⟨by omega, by omega⟩, ?_⟩
    refine ⟨fun c37 => ?_, fun c37 => ?_⟩
    · exact hK165 _ _ I F ⟨by omega, by omega⟩
    · refine ⟨⟨by omega, by omega⟩, ?_⟩
      have m_41 : (-2147483648) ≤ (g 241 l3) ∧ (g 241 l3) ≤ 2147483647 := I 241 l3
      have m_42 := zi_r_w (l2 + (g 241 l3))
      exact k_M_waysWith_l143 hK165 hQ n I F ⟨by omega, by omega⟩ ⟨by omega, by omega⟩ (by omega)
set_option maxRecDepth 100000 in
set_option maxHeartbeats 400000 in
theorem k_M_waysWith {l1 : Int} {g : zi_M} {Q : Int → zi_M → Prop} (I : zk_I g) (p1 : (-1) ≤ l1) (hQ : ∀ (v : Int) (g' : zi_M), zk_I g' → zk_fr fr_M_waysWith g g' → ((-2147483648) ≤ v ∧ v ≤ 2147483647) → Q v g') : w_M_waysWith l1 g Q := by
  unfold w_M_waysWith
  refine ⟨((1024 - 0).toNat + 1), k_M_waysWith_l2 (fun g8 I_7 F_8 => ?_) hQ ((1024 - 0).toNat + 1) I (zk_f0 _) ⟨by omega, by omega⟩ (by omega)⟩
  refine ⟨((8 - 0).toNat + 1), k_M_waysWith_l32 (l1 := l1) (by omega) (fun g34 I_39 F_40 => ?_) hQ ((8 - 0).toNat + 1) I_7 F_8 ⟨by omega, by omega⟩ (by omega)⟩
  refine ⟨((1024 - 0).toNat + 1), k_M_waysWith_l143 (fun k38 g39 I_43 F_44 b_45 => ?_) hQ ((1024 - 0).toNat + 1) I_39 F_40 ⟨by omega, by omega⟩ ⟨by omega, by omega⟩ (by omega)⟩
  exact hQ _ _ I_43 F_44 ⟨by omega, by omega⟩
-- SpoutNewsModel.isFirstTold(I)Z
set_option maxRecDepth 100000 in
set_option maxHeartbeats 400000 in
theorem k_M_isFirstTold_l2 {g : zi_M} (I : zk_I g) {l1 : Int} {K22 : zi_M → Prop} {K30 : zi_M → Prop} {Q : Int → zi_M → Prop} (q1 : 0 ≤ l1 ∧ l1 ≤ 11) (hK22 : K22 g) (hK30 : K30 g) (hQ : ∀ v : Int, (0 ≤ v ∧ v ≤ 1) → Q v g) : ∀ (n : Nat) {l2 : Int}, (0 ≤ l2 ∧ l2 ≤ 11) → 11 - l2 < (n : Int) → w_M_isFirstTold_l2 l1 K22 K30 Q n l2 g
  | 0, l2, b0, hm => by exfalso; omega
  | n + 1, l2, b0, hm => by
    unfold w_M_isFirstTold_l2
    refine ⟨⟨by omega, by omega⟩, ⟨by omega, by omega⟩, ?_⟩
    refine ⟨fun c8 => ?_, fun c8 => ?_⟩
    · exact hK30
    · refine ⟨⟨by omega, by omega⟩, ?_⟩
      refine ⟨⟨by omega, by omega⟩, ?_⟩
      have m_1 : 0 ≤ (g 240 l2) ∧ (g 240 l2) ≤ 79 := I 240 l2
      have m_2 : 0 ≤ (g 240 l1) ∧ (g 240 l1) ≤ 79 := I 240 l1
      refine ⟨⟨by omega, by omega⟩, ⟨by omega, by omega⟩, ?_⟩
      refine ⟨fun c7 => ?_, fun c7 => ?_⟩
      · exact k_M_isFirstTold_l2 I q1 hK22 hK30 hQ n ⟨by omega, by omega⟩ (by omega)
      · exact hK22
set_option maxRecDepth 100000 in
set_option maxHeartbeats 400000 in
theorem k_M_isFirstTold {l1 : Int} {g : zi_M} {Q : Int → zi_M → Prop} (I : zk_I g) (p1 : 0 ≤ l1 ∧ l1 ≤ 11) (hQ : ∀ v : Int, (0 ≤ v ∧ v ≤ 1) → Q v g) : w_M_isFirstTold l1 g Q := by
  unfold w_M_isFirstTold
  refine ⟨((11 - 0).toNat + 1), k_M_isFirstTold_l2 (l1 := l1) I ⟨by omega, by omega⟩ (?_) (?_) hQ ((11 - 0).toNat + 1) ⟨by omega, by omega⟩ (by omega)⟩
  · exact hQ _ ⟨by omega, by omega⟩
  · exact hQ _ ⟨by omega, by omega⟩
-- SpoutNewsModel.greater(II)I
set_option maxRecDepth 100000 in
set_option maxHeartbeats 400000 in
theorem k_M_greater {l1 : Int} {l2 : Int} {g : zi_M} {Q : Int → zi_M → Prop} (I : zk_I g) (p1 : (-2147483648) ≤ l1 ∧ l1 ≤ 2147483647) (p2 : (-2147483648) ≤ l2 ∧ l2 ≤ 2147483647) (hQ : ∀ v : Int, (l1 ≤ l2 → v = l2) → (l2 < l1 → v = l1) → Q v g) : w_M_greater l1 l2 g Q := by
  unfold w_M_greater
  refine ⟨⟨by omega, by omega⟩, ⟨by omega, by omega⟩, ?_⟩
  refine ⟨fun c3 => ?_, fun c3 => ?_⟩
  · exact hQ _ (by intros; omega) (by intros; omega)
  · exact hQ _ (by intros; omega) (by intros; omega)
-- SpoutNewsModel.askedBest()I
def fr_M_askedBest (a : Nat) (i : Int) : Prop := a = 241
set_option maxRecDepth 100000 in
set_option maxHeartbeats 400000 in
theorem k_M_askedBest_l32 {l3 : Int} {K79 : Int → zi_M → Prop} {Q : Int → zi_M → Prop} {g0 : zi_M} (q3 : 0 ≤ l3 ∧ l3 ≤ 7) (hK79 : ∀ (k4 : Int) (g : zi_M), zk_I g → zk_fr fr_M_askedBest g0 g → ((-2147483648) ≤ k4 ∧ k4 ≤ 2147483647) → K79 k4 g) (hQ : ∀ (v : Int) (g' : zi_M), zk_I g' → zk_fr fr_M_askedBest g0 g' → ((-1) ≤ v ∧ v ≤ 7) → Q v g') : ∀ (n : Nat) {l4 : Int} {l5 : Int} {g : zi_M}, zk_I g → zk_fr fr_M_askedBest g0 g → ((-2147483648) ≤ l4 ∧ l4 ≤ 2147483647) → (0 ≤ l5 ∧ l5 ≤ 10) → 10 - l5 < (n : Int) → w_M_askedBest_l32 l3 K79 Q n l4 l5 g
  | 0, l4, l5, g, I, F, b0, b1, hm => by exfalso; omega
  | n + 1, l4, l5, g, I, F, b0, b1, hm => by
    unfold w_M_askedBest_l32
    refine ⟨⟨by omega, by omega⟩, ?_⟩
    refine ⟨fun c16 => ?_, fun c16 => ?_⟩
    · exact hK79 _ _ I F ⟨by omega, by omega⟩
    · refine ⟨⟨by omega, by omega⟩, ?_⟩
      have m_2 : 0 ≤ (g 239 l3) ∧ (g 239 l3) ≤ 1023 := I 239 l3
      have m_5 := zi_shr_f ((g 239 l3)) (l5)
      have m_6 := zi_and_f (zi_shr (g 239 l3) l5) 1
      refine k_M_has I ⟨by omega, by omega⟩ ⟨by omega, by omega⟩ (fun v6 b_3 b_4 => ?_)
      refine ⟨fun c15 => ?_, fun c15 => ?_⟩
      · exact k_M_askedBest_l32 q3 hK79 hQ n I F ⟨by omega, by omega⟩ ⟨by omega, by omega⟩ (by omega)
      · refine k_M_waysWith I (by omega) (fun v9 g10 I_8 F_9 b_7 => ?_)
        have F_10 : zk_fr fr_M_askedBest g0 g10 := zk_ft F F_9 (by intro a i h; unfold fr_M_waysWith at h; unfold fr_M_askedBest; omega)
        refine k_M_greater I_8 ⟨by omega, by omega⟩ ⟨by omega, by omega⟩ (fun v12 b_11 b_12 => ?_)
        exact k_M_askedBest_l32 q3 hK79 hQ n I_8 F_10 ⟨by omega, by omega⟩ ⟨by omega, by omega⟩ (by omega)
set_option maxRecDepth 100000 in
set_option maxHeartbeats 400000 in
theorem k_M_askedBest_l8 {K105 : Int → zi_M → Prop} {Q : Int → zi_M → Prop} {g0 : zi_M} (hK105 : ∀ (k1 : Int) (g : zi_M), zk_I g → zk_fr fr_M_askedBest g0 g → ((-1) ≤ k1 ∧ k1 ≤ 7) → K105 k1 g) (hQ : ∀ (v : Int) (g' : zi_M), zk_I g' → zk_fr fr_M_askedBest g0 g' → ((-1) ≤ v ∧ v ≤ 7) → Q v g') : ∀ (n : Nat) {l1 : Int} {l2 : Int} {l3 : Int} {g : zi_M}, zk_I g → zk_fr fr_M_askedBest g0 g → ((-1) ≤ l1 ∧ l1 ≤ 7) → ((-2147483648) ≤ l2 ∧ l2 ≤ 2147483647) → (0 ≤ l3 ∧ l3 ≤ 8) → 8 - l3 < (n : Int) → w_M_askedBest_l8 K105 Q n l1 l2 l3 g
  | 0, l1, l2, l3, g, I, F, b0, b1, b2, hm => by exfalso; omega
  | n + 1, l1, l2, l3, g, I, F, b0, b1, b2, hm => by
    unfold w_M_askedBest_l8
    refine ⟨⟨by omega, by omega⟩, ?_⟩
    refine ⟨fun c30 => ?_, fun c30 => ?_⟩
    · exact hK105 _ _ I F ⟨by omega, by omega⟩
    · refine ⟨⟨by omega, by omega⟩, ?_⟩
      have m_1 : 0 ≤ (g 239 l3) ∧ (g 239 l3) ≤ 1023 := I 239 l3
      refine ⟨⟨by omega, by omega⟩, ?_⟩
      refine ⟨fun c29 => ?_, fun c29 => ?_⟩
      · refine ⟨((10 - 0).toNat + 1), k_M_askedBest_l32 (l3 := l3) ⟨by omega, by omega⟩ (fun k17 g18 I_13 F_14 b_15 => ?_) hQ ((10 - 0).toNat + 1) I F ⟨by omega, by omega⟩ ⟨by omega, by omega⟩ (by omega)⟩
        refine ⟨⟨by omega, by omega⟩, ⟨by omega, by omega⟩, ?_⟩
        refine ⟨fun c27 => ?_, fun c27 => ?_⟩
        · refine k_M_lesser I_13 ⟨by omega, by omega⟩ ⟨by omega, by omega⟩ (fun v21 b_16 b_17 => ?_)
          exact k_M_askedBest_l8 hK105 hQ n I_13 F_14 ⟨by omega, by omega⟩ ⟨by omega, by omega⟩ ⟨by omega, by omega⟩ (by omega)
        · refine k_M_lesser I_13 ⟨by omega, by omega⟩ ⟨by omega, by omega⟩ (fun v24 b_18 b_19 => ?_)
          exact k_M_askedBest_l8 hK105 hQ n I_13 F_14 ⟨by omega, by omega⟩ ⟨by omega, by omega⟩ ⟨by omega, by omega⟩ (by omega)
      · exact k_M_askedBest_l8 hK105 hQ n I F ⟨by omega, by omega⟩ ⟨by omega, by omega⟩ ⟨by omega, by omega⟩ (by omega)
set_option maxRecDepth 100000 in
set_option maxHeartbeats 400000 in
theorem k_M_askedBest {g : zi_M} {Q : Int → zi_M → Prop} (I : zk_I g) (hQ : ∀ (v : Int) (g' : zi_M), zk_I g' → zk_fr fr_M_askedBest g g' → ((-1) ≤ v ∧ v ≤ 7) → Q v g') : w_M_askedBest g Q := by
  unfold w_M_askedBest
  refine ⟨((8 - 0).toNat + 1), k_M_askedBest_l8 (fun k31 g32 I_20 F_21 b_22 => ?_) hQ ((8 - 0).toNat + 1) I (zk_f0 _) ⟨by omega, by omega⟩ ⟨by omega, by omega⟩ ⟨by omega, by omega⟩ (by omega)⟩
  exact hQ _ _ I_20 F_21 ⟨by omega, by omega⟩
-- SpoutNewsModel.ways(I)I
def fr_M_ways (a : Nat) (i : Int) : Prop := a = 241 ∨ (a = 214 ∧ i = 0)
set_option maxRecDepth 100000 in
set_option maxHeartbeats 400000 in
theorem k_M_ways_l44 {l2 : Int} {K91 : Int → zi_M → Prop} {Q : Int → zi_M → Prop} {g0 : zi_M} (q2 : (-2147483648) ≤ l2 ∧ l2 ≤ 2147483647) (hK91 : ∀ (k3 : Int) (g : zi_M), zk_I g → zk_fr fr_M_ways g0 g → (0 ≤ k3) → K91 k3 g) (hQ : ∀ (v : Int) (g' : zi_M), zk_I g' → zk_fr fr_M_ways g0 g' → ((-2147483648) ≤ v) → Q v g') : ∀ (n : Nat) {l3 : Int} {l4 : Int} {g : zi_M}, zk_I g → zk_fr fr_M_ways g0 g → (0 ≤ l3) → (0 ≤ l4 ∧ l4 ≤ 12) → 12 - l4 < (n : Int) → w_M_ways_l44 l2 K91 Q n l3 l4 g
  | 0, l3, l4, g, I, F, b0, b1, hm => by exfalso; omega
  | n + 1, l3, l4, g, I, F, b0, b1, hm => by
    unfold w_M_ways_l44
    have m_11 : 0 ≤ (g 214 46) ∧ (g 214 46) ≤ 12 := I 214 46
    refine ⟨⟨by omega, by omega⟩, ⟨by omega, by omega⟩, ?_⟩
    refine ⟨fun c23 => ?_, fun c23 => ?_⟩
    · exact hK91 _ _ I F (by omega)
    · refine ⟨⟨by omega, by omega⟩, ?_⟩
      refine ⟨fun c22 => ?_, fun c22 => ?_⟩
      · exact hK91 _ _ I F (by omega)
      · refine k_M_isFirstTold I ⟨by omega, by omega⟩ (fun v12 b_12 => ?_)
        refine ⟨fun c21 => ?_, fun c21 => ?_⟩
        · exact k_M_ways_l44 q2 hK91 hQ n I F (by omega) ⟨by omega, by omega⟩ (by omega)
        · refine ⟨⟨by omega, by omega⟩, ?_⟩
          have m_13 : 0 ≤ (g 240 l4) ∧ (g 240 l4) ≤ 79 := I 240 l4
          refine k_M_waysWith I (by omega) (fun v16 g17 I_15 F_16 b_14 => ?_)
          have F_17 : zk_fr fr_M_ways g0 g17 := zk_ft F F_16 (by intro a i h; unfold fr_M_waysWith at h; unfold fr_M_ways; omega)
          refine ⟨⟨by omega, by omega⟩, ?_⟩
          refine ⟨fun c20 => ?_, fun c20 => ?_⟩
          · exact k_M_ways_l44 q2 hK91 hQ n I_15 F_17 (by omega) ⟨by omega, by omega⟩ (by omega)
          · exact k_M_ways_l44 q2 hK91 hQ n I_15 F_17 (by omega) ⟨by omega, by omega⟩ (by omega)
set_option maxRecDepth 100000 in
set_option maxHeartbeats 400000 in
theorem k_M_ways {l1 : Int} {g : zi_M} {Q : Int → zi_M → Prop} (I : zk_I g) (p1 : (-2147483648) ≤ l1 ∧ l1 ≤ 2147483647) (hQ : ∀ (v : Int) (g' : zi_M), zk_I g' → zk_fr fr_M_ways g g' → ((-2147483648) ≤ v) → Q v g') : w_M_ways l1 g Q := by
  unfold w_M_ways
  intro g1 e_1
  have I_2 : zk_I g1 := by rw [e_1]; exact zk_upd (L := (-2147483648)) (H := 2147483647) rfl rfl I ⟨by omega, by omega⟩
  have F_3 : zk_fr fr_M_ways g g1 := by rw [e_1]; exact zk_fu (zk_f0 _) (by unfold fr_M_ways; omega)
  refine k_M_isIn I_2 ⟨by omega, by omega⟩ ⟨by omega, by omega⟩ ⟨by omega, by omega⟩ (fun v2 b_4 b_5 b_6 => ?_)
  refine ⟨fun c32 => ?_, fun c32 => ?_⟩
  · refine ⟨⟨by omega, by omega⟩, ?_⟩
    refine ⟨fun c31 => ?_, fun c31 => ?_⟩
    · refine k_M_waysWith I_2 (by omega) (fun v6 g7 I_8 F_9 b_7 => ?_)
      have F_10 : zk_fr fr_M_ways g g7 := zk_ft F_3 F_9 (by intro a i h; unfold fr_M_waysWith at h; unfold fr_M_ways; omega)
      refine ⟨fun c27 => ?_, fun c27 => ?_⟩
      · refine ⟨((12 - 0).toNat + 1), k_M_ways_l44 (l2 := v6) ⟨by omega, by omega⟩ (fun k24 g25 I_18 F_19 b_20 => ?_) hQ ((12 - 0).toNat + 1) I_8 F_10 (by omega) ⟨by omega, by omega⟩ (by omega)⟩
        exact hQ _ _ I_18 F_19 (by omega)
      · exact hQ _ _ I_8 F_10 (by omega)
    · refine k_M_askedBest I_2 (fun v28 g29 I_22 F_23 b_21 => ?_)
      have F_24 : zk_fr fr_M_ways g g29 := zk_ft F_3 F_23 (by intro a i h; unfold fr_M_askedBest at h; unfold fr_M_ways; omega)
      exact hQ _ _ I_22 F_24 (by omega)
  · exact hQ _ _ I_2 F_3 (by omega)
