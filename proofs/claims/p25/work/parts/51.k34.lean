-- by program (wip/gen/mkz.py)
-- SpoutNewsModel.seat(II)I
set_option maxRecDepth 100000 in
set_option maxHeartbeats 4000000 in
theorem k_M_seat_l17 {l1 : Int} {l2 : Int} {K36 : zi_M → Prop} {Q : Int → zi_M → Prop} {g0 : zi_M} (hK36 : ∀ (g : zi_M), zk_I g → zk_fr fr_M_seat g0 g → (g 214 46 = 0) → K36 g) (hQ : ∀ (v : Int) (g' : zi_M), zk_I g' → zk_fr fr_M_seat g0 g' → ((-1) ≤ v ∧ v ≤ 12) → (l1 = -1 → v = 0 ∧ g' 214 46 = 0) → (¬ l1 = -1 → 0 ≤ l1 ∧ l1 < g0 214 7 ∧ 0 ≤ l2 ∧ l2 < g0 214 6 ∧ g0 214 46 < 12 → v = g0 214 46 + 1 ∧ g' 214 46 = g0 214 46 + 1) → (¬ l1 = -1 → ¬ (0 ≤ l1 ∧ l1 < g0 214 7 ∧ 0 ≤ l2 ∧ l2 < g0 214 6 ∧ g0 214 46 < 12) → v = -1 ∧ g' 214 46 = g0 214 46) → Q v g') : ∀ (n : Nat) {l3 : Int} {g : zi_M}, zk_I g → zk_fr fr_M_seat g0 g → (0 ≤ l3 ∧ l3 ≤ 8) → (g 214 46 = 0) → 8 - l3 < (n : Int) → w_M_seat_l17 K36 Q n l3 g
  | 0, l3, g, I, F, b0, b1, hm => by exfalso; omega
  | n + 1, l3, g, I, F, b0, b1, hm => by
    unfold w_M_seat_l17
    refine ⟨⟨by omega, by omega⟩, ?_⟩
    refine ⟨fun c22 => ?_, fun c22 => ?_⟩
    · have m_54 : 0 ≤ (g 214 46) ∧ (g 214 46) ≤ 12 := I.1 214 46
      exact hK36 _ I F (by omega)
    · refine ⟨⟨by omega, by omega⟩, ?_⟩
      intro g21 e_55
      have I_56 : zk_I g21 := by rw [e_55]; exact zk_upd (L := 0) (H := 1023) rfl rfl I ⟨by omega, by omega⟩
      have F_57 : zk_fr fr_M_seat g0 g21 := by rw [e_55]; exact zk_fu F (Or.inl rfl)
      have m_58 : 0 ≤ (g21 214 46) ∧ (g21 214 46) ≤ 12 := I_56.1 214 46
      have m_59 : g21 214 46 = g 214 46 := by rw [e_55]; exact zi_u_ne (by decide)
      have m_60 : 0 ≤ (g 214 46) ∧ (g 214 46) ≤ 12 := I.1 214 46
      exact k_M_seat_l17 hK36 hQ n I_56 F_57 ⟨by omega, by omega⟩ (by omega) (by omega)
set_option maxRecDepth 100000 in
set_option maxHeartbeats 4000000 in
theorem k_M_seat {l1 : Int} {l2 : Int} {g : zi_M} {Q : Int → zi_M → Prop} (I : zk_I g) (p1 : (-2147483648) ≤ l1 ∧ l1 ≤ 2147483647) (p2 : (-2147483648) ≤ l2 ∧ l2 ≤ 2147483647) (hQ : ∀ (v : Int) (g' : zi_M), zk_I g' → zk_fr fr_M_seat g g' → ((-1) ≤ v ∧ v ≤ 12) → (l1 = -1 → v = 0 ∧ g' 214 46 = 0) → (¬ l1 = -1 → 0 ≤ l1 ∧ l1 < g 214 7 ∧ 0 ≤ l2 ∧ l2 < g 214 6 ∧ g 214 46 < 12 → v = g 214 46 + 1 ∧ g' 214 46 = g 214 46 + 1) → (¬ l1 = -1 → ¬ (0 ≤ l1 ∧ l1 < g 214 7 ∧ 0 ≤ l2 ∧ l2 < g 214 6 ∧ g 214 46 < 12) → v = -1 ∧ g' 214 46 = g 214 46) → Q v g') : w_M_seat l1 l2 g Q := by
  unfold w_M_seat
  intro g1 e_1
  have I_2 : zk_I g1 := by rw [e_1]; exact zk_upd (L := (-2147483648)) (H := 2147483647) rfl rfl I ⟨by omega, by omega⟩
  have F_3 : zk_fr fr_M_seat g g1 := by rw [e_1]; exact zk_fu (zk_f0 _) (Or.inr (Or.inr (Or.inl ⟨rfl, rfl⟩)))
  refine ⟨⟨by omega, by omega⟩, ?_⟩
  refine ⟨fun c25 => ?_, fun c25 => ?_⟩
  · have m_7 : 0 ≤ (g1 214 7) ∧ (g1 214 7) ≤ 8 := I_2.1 214 7
    have m_8 : g1 214 7 = g 214 7 := by rw [e_1]; exact zi_u_ni (by decide)
    have m_9 : 0 ≤ (g 214 7) ∧ (g 214 7) ≤ 8 := I.1 214 7
    refine k_M_isSitter I_2 ⟨by omega, by omega⟩ (fun v3 b_4 b_5 b_6 => ?_)
    refine ⟨fun c17 => ?_, fun c17 => ?_⟩
    · have m_10 : 0 ≤ (g1 214 46) ∧ (g1 214 46) ≤ 12 := I_2.1 214 46
      have m_11 : g1 214 46 = g 214 46 := by rw [e_1]; exact zi_u_ni (by decide)
      have m_12 : 0 ≤ (g 214 46) ∧ (g 214 46) ≤ 12 := I.1 214 46
      exact hQ _ _ I_2 F_3 ⟨by omega, by omega⟩ (by omega) (by omega) (by omega)
    · have m_16 : 0 ≤ (g1 214 6) ∧ (g1 214 6) ≤ 10 := I_2.1 214 6
      have m_17 : g1 214 6 = g 214 6 := by rw [e_1]; exact zi_u_ni (by decide)
      have m_18 : 0 ≤ (g 214 6) ∧ (g 214 6) ≤ 10 := I.1 214 6
      refine k_M_isSpout I_2 ⟨by omega, by omega⟩ (fun v6 b_13 b_14 b_15 => ?_)
      refine ⟨fun c16 => ?_, fun c16 => ?_⟩
      · have m_19 : 0 ≤ (g1 214 46) ∧ (g1 214 46) ≤ 12 := I_2.1 214 46
        have m_20 : g1 214 46 = g 214 46 := by rw [e_1]; exact zi_u_ni (by decide)
        have m_21 : 0 ≤ (g 214 46) ∧ (g 214 46) ≤ 12 := I.1 214 46
        exact hQ _ _ I_2 F_3 ⟨by omega, by omega⟩ (by omega) (by omega) (by omega)
      · have m_22 : 0 ≤ (g1 214 46) ∧ (g1 214 46) ≤ 12 := I_2.1 214 46
        have m_23 : g1 214 46 = g 214 46 := by rw [e_1]; exact zi_u_ni (by decide)
        have m_24 : 0 ≤ (g 214 46) ∧ (g 214 46) ≤ 12 := I.1 214 46
        refine ⟨⟨by omega, by omega⟩, ?_⟩
        refine ⟨fun c15 => ?_, fun c15 => ?_⟩
        · refine ⟨⟨by omega, by omega⟩, ?_⟩
          have m_28 : 0 ≤ (g1 239 l1) ∧ (g1 239 l1) ≤ 1023 := I_2.1 239 l1
          have m_29 : g1 239 l1 = g 239 l1 := by rw [e_1]; exact zi_u_ne (by decide)
          have m_30 : 0 ≤ (g 239 l1) ∧ (g 239 l1) ≤ 1023 := I.1 239 l1
          have m_31 := zi_r_shl 1 l2
          try have m_32 := (zi_shl_f l2).2.1 ⟨by omega, by omega⟩
          first | have m_33 := (zi_shl_f l2).2.2.1 ⟨by omega, by omega⟩ | have m_34 := (zi_shl_f l2).2.2.2.1 ⟨by omega, by omega⟩ | have m_35 := (zi_shl_f l2).2.2.2.2.1 ⟨by omega, by omega⟩ | have m_36 := (zi_shl_f l2).2.2.2.2.2.1 ⟨by omega, by omega⟩ | have m_37 := (zi_shl_f l2).2.2.2.2.2.2 ⟨by omega, by omega⟩ | skip
          first | have m_38 := (zi_or_f (g1 239 l1) (zi_shl 1 l2)).2.1 ⟨by omega, by omega, by omega, by omega⟩ | have m_38 := (zi_or_f (g1 239 l1) (zi_shl 1 l2)).2.2.1 ⟨by omega, by omega, by omega, by omega⟩ | have m_38 := (zi_or_f (g1 239 l1) (zi_shl 1 l2)).2.2.2.1 ⟨by omega, by omega, by omega, by omega⟩ | have m_38 := (zi_or_f (g1 239 l1) (zi_shl 1 l2)).2.2.2.2.1 ⟨by omega, by omega, by omega, by omega⟩ | have m_38 := (zi_or_f (g1 239 l1) (zi_shl 1 l2)).2.2.2.2.2 ⟨by omega, by omega, by omega, by omega⟩ | have m_38 := zi_r_or (g1 239 l1) (zi_shl 1 l2)
          intro g11 e_25
          have I_26 : zk_I g11 := by rw [e_25]; exact zk_upd (L := 0) (H := 1023) rfl rfl I_2 ⟨by omega, by omega⟩
          have F_27 : zk_fr fr_M_seat g g11 := by rw [e_25]; exact zk_fu F_3 (Or.inl rfl)
          have m_42 : 0 ≤ (g11 214 46) ∧ (g11 214 46) ≤ 12 := I_26.1 214 46
          have m_43 : g11 214 46 = g1 214 46 := by rw [e_25]; exact zi_u_ne (by decide)
          refine ⟨⟨by omega, by omega⟩, ?_⟩
          intro g13 e_39
          have I_40 : zk_I g13 := by rw [e_39]; exact zk_upd (L := 0) (H := 79) rfl rfl I_26 ⟨by omega, by omega⟩
          have F_41 : zk_fr fr_M_seat g g13 := by rw [e_39]; exact zk_fu F_27 (Or.inr (Or.inl rfl))
          have m_47 : 0 ≤ (g13 214 46) ∧ (g13 214 46) ≤ 12 := I_40.1 214 46
          have m_48 : g13 214 46 = g11 214 46 := by rw [e_39]; exact zi_u_ne (by decide)
          intro g14 e_44
          have I_45 : zk_I g14 := by rw [e_44]; exact zk_upd (L := 0) (H := 12) rfl rfl I_40 ⟨by omega, by omega⟩
          have F_46 : zk_fr fr_M_seat g g14 := by rw [e_44]; exact zk_fu F_41 (Or.inr (Or.inr (Or.inr ⟨rfl, rfl⟩)))
          have m_49 : 0 ≤ (g14 214 46) ∧ (g14 214 46) ≤ 12 := I_45.1 214 46
          have m_50 : g14 214 46 = (g13 214 46) + 1 := by rw [e_44]; exact zi_u_eq
          exact hQ _ _ I_45 F_46 ⟨by omega, by omega⟩ (by omega) (by omega) (by omega)
        · exact hQ _ _ I_2 F_3 ⟨by omega, by omega⟩ (by omega) (by omega) (by omega)
  · intro g18 e_51
    have I_52 : zk_I g18 := by rw [e_51]; exact zk_upd (L := 0) (H := 12) rfl rfl I_2 ⟨by omega, by omega⟩
    have F_53 : zk_fr fr_M_seat g g18 := by rw [e_51]; exact zk_fu F_3 (Or.inr (Or.inr (Or.inr ⟨rfl, rfl⟩)))
    have m_65 : 0 ≤ (g18 214 46) ∧ (g18 214 46) ≤ 12 := I_52.1 214 46
    have m_66 : g18 214 46 = 0 := by rw [e_51]; exact zi_u_eq
    refine ⟨((8 - 0 : Int).toNat + 1), k_M_seat_l17 (fun g23 I_61 F_62 b_63 => ?_) hQ ((8 - 0 : Int).toNat + 1) I_52 F_53 ⟨by omega, by omega⟩ (by omega) (by omega)⟩
    have m_64 : 0 ≤ (g23 214 46) ∧ (g23 214 46) ≤ 12 := I_61.1 214 46
    exact hQ _ _ I_61 F_62 ⟨by omega, by omega⟩ (by omega) (by omega) (by omega)
-- SpoutNews$Thought.countWay()V
set_option maxRecDepth 100000 in
set_option maxHeartbeats 4000000 in
theorem k_Thought_countWay_l12 {K53 : zi_M → Prop} {Q : Int → zi_M → Prop} {g0 : zi_M} (hK53 : ∀ (g : zi_M), zk_I g → zk_fr fr_Thought_countWay g0 g → K53 g) (hQ : ∀ g' : zi_M, zk_I g' → zk_fr fr_Thought_countWay g0 g' → Q 0 g') : ∀ (n : Nat) {l1 : Int} {g : zi_M}, zk_I g → zk_fr fr_Thought_countWay g0 g → (0 ≤ l1 ∧ l1 ≤ 8) → 8 - l1 < (n : Int) → w_Thought_countWay_l12 K53 Q n l1 g
  | 0, l1, g, I, F, b0, hm => by exfalso; omega
  | n + 1, l1, g, I, F, b0, hm => by
    unfold w_Thought_countWay_l12
    refine ⟨⟨by omega, by omega⟩, ?_⟩
    refine ⟨fun c8 => ?_, fun c8 => ?_⟩
    · exact hK53 _ I F
    · refine ⟨⟨by omega, by omega⟩, ?_⟩
      have m_6 : (-2147483648) ≤ (g 181 l1) ∧ (g 181 l1) ≤ 2147483647 := I.1 181 l1
      refine ⟨⟨by omega, by omega⟩, ?_⟩
      refine ⟨fun c7 => ?_, fun c7 => ?_⟩
      · exact k_Thought_countWay_l12 hK53 hQ n I F ⟨by omega, by omega⟩ (by omega)
      · have m_7 : 0 ≤ (g 182 l1) ∧ (g 182 l1) ≤ 9 := I.1 182 l1
        refine ⟨⟨by omega, by omega⟩, ?_⟩
        have m_11 : (-2147483648) ≤ (g 183 ((l1 * 10) + (g 182 l1))) ∧ (g 183 ((l1 * 10) + (g 182 l1))) ≤ 2147483647 := I.1 183 ((l1 * 10) + (g 182 l1))
        have m_12 := zi_r_w ((g 183 ((l1 * 10) + (g 182 l1))) + 1)
        intro g6 e_8
        have I_9 : zk_I g6 := by rw [e_8]; exact zk_upd (L := (-2147483648)) (H := 2147483647) rfl rfl I ⟨by omega, by omega⟩
        have F_10 : zk_fr fr_Thought_countWay g0 g6 := by rw [e_8]; exact zk_fu F (Or.inl rfl)
        exact k_Thought_countWay_l12 hK53 hQ n I_9 F_10 ⟨by omega, by omega⟩ (by omega)
set_option maxRecDepth 100000 in
set_option maxHeartbeats 4000000 in
theorem k_Thought_countWay {g : zi_M} {Q : Int → zi_M → Prop} (I : zk_I g) (hQ : ∀ g' : zi_M, zk_I g' → zk_fr fr_Thought_countWay g g' → Q 0 g') : w_Thought_countWay g Q := by
  unfold w_Thought_countWay
  have m_4 : (-2147483648) ≤ (g 180 3) ∧ (g 180 3) ≤ 2147483647 := I.1 180 3
  have m_5 := zi_r_w ((g 180 3) + 1)
  intro g1 e_1
  have I_2 : zk_I g1 := by rw [e_1]; exact zk_upd (L := (-2147483648)) (H := 2147483647) rfl rfl I ⟨by omega, by omega⟩
  have F_3 : zk_fr fr_Thought_countWay g g1 := by rw [e_1]; exact zk_fu (zk_f0 _) (Or.inr ⟨rfl, rfl⟩)
  refine ⟨((8 - 0 : Int).toNat + 1), k_Thought_countWay_l12 (fun g9 I_13 F_14 => ?_) hQ ((8 - 0 : Int).toNat + 1) I_2 F_3 ⟨by omega, by omega⟩ (by omega)⟩
  exact hQ _ I_13 F_14
-- SpoutNews$Thought.seatFrom(II)V
noncomputable def fr_Thought_seatFrom (a : Nat) (i : Int) : Prop := a = 182 ∨ a = 183 ∨ (a = 180 ∧ i = 3)

theorem k_Thought_seatFrom_l35 {g0 : zi_M} {R : Int → Int → zi_M → (Int → zi_M → Prop) → Prop} {l1 l2 : Int} {K : zi_M → Prop} {Q : Int → zi_M → Prop} (q1 : 0 ≤ l1 ∧ l1 < 8) (hR : ∀ (l : Int) (g : zi_M) (Q' : Int → zi_M → Prop), zk_I g → (∀ g', zk_I g' → zk_fr fr_Thought_seatFrom g g' → Q' 0 g') → R (l1 + 1) l g Q') (hK : ∀ g, zk_I g → zk_fr fr_Thought_seatFrom g0 g → K g) :
    ∀ (n : Nat) (l3 : Int) (g : zi_M), 0 ≤ l3 → l3 ≤ 10 → zk_I g → zk_fr fr_Thought_seatFrom g0 g → 10 - l3 < (n : Int) → w_Thought_seatFrom_l35 R l1 l2 K Q n l3 g
  | 0, l3, g, h0, h1, I, F, hm => by exfalso; omega
  | n + 1, l3, g, h0, h1, I, F, hm => by
    unfold w_Thought_seatFrom_l35
    refine ⟨⟨by omega, by omega⟩, fun _ => hK g I F, fun hl => ⟨q1, fun _ => ?_, fun _ => ?_⟩⟩
    · exact k_Thought_seatFrom_l35 q1 hR hK n (l3 + 1) g (by omega) (by omega) I F (by omega)
    · intro g6 e6
      have I6 : zk_I g6 := by rw [e6]; exact zk_upd (L := 0) (H := 9) rfl rfl I ⟨by omega, by omega⟩
      have F6 : zk_fr fr_Thought_seatFrom g0 g6 := by rw [e6]; exact zk_fu F (Or.inl rfl)
      refine hR _ _ _ I6 (fun g8 I8 F8 => ?_)
      exact k_Thought_seatFrom_l35 q1 hR hK n (l3 + 1) g8 (by omega) (by omega) I8 (zk_ft F6 F8 (fun _ _ e => e)) (by omega)
theorem k_Thought_seatR : ∀ (n : Nat) (l1 l2 : Int) (g : zi_M) (Q : Int → zi_M → Prop), 0 ≤ l1 → l1 ≤ 8 → 8 - l1 < (n : Int) → zk_I g → (∀ g', zk_I g' → zk_fr fr_Thought_seatFrom g g' → Q 0 g') → w_Thought_seatR n l1 l2 g Q
  | 0, l1, l2, g, Q, h0, h1, hm, I, hQ => by exfalso; omega
  | n + 1, l1, l2, g, Q, h0, h1, hm, I, hQ => by
    unfold w_Thought_seatR
    refine ⟨⟨by omega, by omega⟩, fun hl => ⟨⟨h0, hl⟩, zk_rng I _ _, fun _ => ⟨11, ?_⟩, fun _ => ?_⟩, fun _ => ?_⟩
    · exact k_Thought_seatFrom_l35 ⟨h0, hl⟩ (fun l g' Q' I' hQ' => k_Thought_seatR n (l1 + 1) l g' Q' (by omega) (by omega) (by omega) I' hQ') (fun g' I' F' => hQ g' I' F') 11 0 g (by decide) (by decide) I (zk_f0 _) (by decide)
    · exact k_Thought_seatR n (l1 + 1) l2 g _ (by omega) (by omega) (by omega) I hQ
    · refine k_Thought_countWay I (fun g' I' F' => hQ g' I' (zk_ft (zk_f0 _) F' (fun a i h => ?_)))
      unfold fr_Thought_countWay at h
      unfold fr_Thought_seatFrom
      rcases h with h | h <;> simp [h]
theorem k_Thought_seatFrom {l1 l2 : Int} {g : zi_M} {Q : Int → zi_M → Prop} (I : zk_I g) (p1 : 0 ≤ l1 ∧ l1 ≤ 0) (p2 : 0 ≤ l2 ∧ l2 ≤ 0) (hQ : ∀ g' : zi_M, zk_I g' → zk_fr fr_Thought_seatFrom g g' → Q 0 g') : w_Thought_seatFrom l1 l2 g Q := by
  unfold w_Thought_seatFrom
  exact k_Thought_seatR 9 l1 l2 g Q (by omega) (by omega) (by omega) I hQ

-- SpoutNews$Thought.countWays(LSpoutNews$Told;)V
set_option maxRecDepth 100000 in
set_option maxHeartbeats 4000000 in
theorem k_Thought_countWays_l23 {K59 : zi_M → Prop} {Q : Int → zi_M → Prop} {g0 : zi_M} (hK59 : ∀ (g : zi_M), zk_I g → zk_fr fr_Thought_countWays g0 g → K59 g) (hQ : ∀ g' : zi_M, zk_I g' → zk_fr fr_Thought_countWays g0 g' → Q 0 g') : ∀ (n : Nat) {l2 : Int} {g : zi_M}, zk_I g → zk_fr fr_Thought_countWays g0 g → (0 ≤ l2 ∧ l2 ≤ 12) → 12 - l2 < (n : Int) → w_Thought_countWays_l23 K59 Q n l2 g
  | 0, l2, g, I, F, b0, hm => by exfalso; omega
  | n + 1, l2, g, I, F, b0, hm => by
    unfold w_Thought_countWays_l23
    have m_10 : 0 ≤ (g 36 2) ∧ (g 36 2) ≤ 12 := I.1 36 2
    refine ⟨⟨by omega, by omega⟩, ⟨by omega, by omega⟩, ?_⟩
    refine ⟨fun c9 => ?_, fun c9 => ?_⟩
    · exact hK59 _ I F
    · refine ⟨⟨by omega, by omega⟩, ?_⟩
      have m_11 : 0 ≤ (g 37 l2) ∧ (g 37 l2) ≤ 7 := I.1 37 l2
      refine ⟨⟨by omega, by omega⟩, ?_⟩
      have m_15 : (-2147483648) ≤ (g 181 (g 37 l2)) ∧ (g 181 (g 37 l2)) ≤ 2147483647 := I.1 181 (g 37 l2)
      have m_16 : 0 ≤ (g 38 l2) ∧ (g 38 l2) ≤ 9 := I.1 38 l2
      have m_17 := zi_r_shl 1 (g 38 l2)
      try have m_18 := (zi_shl_f (g 38 l2)).2.1 ⟨by omega, by omega⟩
      first | have m_19 := (zi_shl_f (g 38 l2)).2.2.1 ⟨by omega, by omega⟩ | have m_20 := (zi_shl_f (g 38 l2)).2.2.2.1 ⟨by omega, by omega⟩ | have m_21 := (zi_shl_f (g 38 l2)).2.2.2.2.1 ⟨by omega, by omega⟩ | have m_22 := (zi_shl_f (g 38 l2)).2.2.2.2.2.1 ⟨by omega, by omega⟩ | have m_23 := (zi_shl_f (g 38 l2)).2.2.2.2.2.2 ⟨by omega, by omega⟩ | skip
      first | have m_24 := (zi_or_f (g 181 (g 37 l2)) (zi_shl 1 (g 38 l2))).2.1 ⟨by omega, by omega, by omega, by omega⟩ | have m_24 := (zi_or_f (g 181 (g 37 l2)) (zi_shl 1 (g 38 l2))).2.2.1 ⟨by omega, by omega, by omega, by omega⟩ | have m_24 := (zi_or_f (g 181 (g 37 l2)) (zi_shl 1 (g 38 l2))).2.2.2.1 ⟨by omega, by omega, by omega, by omega⟩ | have m_24 := (zi_or_f (g 181 (g 37 l2)) (zi_shl 1 (g 38 l2))).2.2.2.2.1 ⟨by omega, by omega, by omega, by omega⟩ | have m_24 := (zi_or_f (g 181 (g 37 l2)) (zi_shl 1 (g 38 l2))).2.2.2.2.2 ⟨by omega, by omega, by omega, by omega⟩ | have m_24 := zi_r_or (g 181 (g 37 l2)) (zi_shl 1 (g 38 l2))
      intro g8 e_12
      have I_13 : zk_I g8 := by rw [e_12]; exact zk_upd (L := (-2147483648)) (H := 2147483647) rfl rfl I ⟨by omega, by omega⟩
      have F_14 : zk_fr fr_Thought_countWays g0 g8 := by rw [e_12]; exact zk_fu F (Or.inl rfl)
      exact k_Thought_countWays_l23 hK59 hQ n I_13 F_14 ⟨by omega, by omega⟩ (by omega)
set_option maxRecDepth 100000 in
set_option maxHeartbeats 4000000 in
theorem k_Thought_countWays {g : zi_M} {Q : Int → zi_M → Prop} (I : zk_I g) (hQ : ∀ g' : zi_M, zk_I g' → zk_fr fr_Thought_countWays g g' → Q 0 g') : w_Thought_countWays g Q := by
  unfold w_Thought_countWays
  intro g1 e_1
  have I_2 : zk_I g1 := by rw [e_1]; exact zk_fill (L := (-2147483648)) (H := 2147483647) (fun _ => rfl) (fun _ => rfl) I ⟨by omega, by omega⟩
  have F_3 : zk_fr fr_Thought_countWays g g1 := by rw [e_1]; exact zk_ff (zk_f0 _) (fun i => (Or.inl rfl))
  intro g2 e_4
  have I_5 : zk_I g2 := by rw [e_4]; exact zk_fill (L := (-2147483648)) (H := 2147483647) (fun _ => rfl) (fun _ => rfl) I_2 ⟨by omega, by omega⟩
  have F_6 : zk_fr fr_Thought_countWays g g2 := by rw [e_4]; exact zk_ff F_3 (fun i => (Or.inr (Or.inr (Or.inl rfl))))
  intro g3 e_7
  have I_8 : zk_I g3 := by rw [e_7]; exact zk_upd (L := (-2147483648)) (H := 2147483647) rfl rfl I_5 ⟨by omega, by omega⟩
  have F_9 : zk_fr fr_Thought_countWays g g3 := by rw [e_7]; exact zk_fu F_6 (Or.inr (Or.inr (Or.inr ⟨rfl, rfl⟩)))
  refine ⟨((12 - 0 : Int).toNat + 1), k_Thought_countWays_l23 (fun g10 I_25 F_26 => ?_) hQ ((12 - 0 : Int).toNat + 1) I_8 F_9 ⟨by omega, by omega⟩ (by omega)⟩
  refine k_Thought_seatFrom I_25 ⟨by omega, by omega⟩ ⟨by omega, by omega⟩ (fun g12 I_27 F_28 => ?_)
  have F_29 : zk_fr fr_Thought_countWays g g12 := zk_ft F_26 F_28 (fun a i => (fun h => Or.elim h (fun h => (Or.inr (Or.inl h))) (fun h => Or.elim h (fun h => (Or.inr (Or.inr (Or.inl h)))) (fun h => (Or.inr (Or.inr (Or.inr h)))))))
  exact hQ _ I_27 F_29
-- SpoutNews$Thought.whomToAsk()I
set_option maxRecDepth 100000 in
set_option maxHeartbeats 4000000 in
theorem k_Thought_whomToAsk_l18 {g : zi_M} (I : zk_I g) {l3 : Int} {K50 : Int → zi_M → Prop} {Q : Int → zi_M → Prop} (q3 : 0 ≤ l3 ∧ l3 ≤ 7) (hK50 : ∀ (k4 : Int), (0 ≤ k4 ∧ k4 ≤ 2147483647) → K50 k4 g) (hQ : ∀ v : Int, ((-1) ≤ v ∧ v ≤ 7) → Q v g) : ∀ (n : Nat) {l4 : Int} {l5 : Int}, (0 ≤ l4 ∧ l4 ≤ 2147483647) → (0 ≤ l5 ∧ l5 ≤ 10) → 10 - l5 < (n : Int) → w_Thought_whomToAsk_l18 l3 K50 Q n l4 l5 g
  | 0, l4, l5, b0, b1, hm => by exfalso; omega
  | n + 1, l4, l5, b0, b1, hm => by
    unfold w_Thought_whomToAsk_l18
    refine ⟨⟨by omega, by omega⟩, ?_⟩
    refine ⟨fun c6 => ?_, fun c6 => ?_⟩
    · exact hK50 _ ⟨by omega, by omega⟩
    · refine ⟨⟨by omega, by omega⟩, ?_⟩
      have m_1 : (-2147483648) ≤ (g 183 ((l3 * 10) + l5)) ∧ (g 183 ((l3 * 10) + l5)) ≤ 2147483647 := I.1 183 ((l3 * 10) + l5)
      refine ⟨⟨by omega, by omega⟩, ⟨by omega, by omega⟩, ?_⟩
      exact k_Thought_whomToAsk_l18 I q3 hK50 hQ n ⟨by omega, by omega⟩ ⟨by omega, by omega⟩ (by omega)
set_option maxRecDepth 100000 in
set_option maxHeartbeats 4000000 in
theorem k_Thought_whomToAsk_l6 {g : zi_M} (I : zk_I g) {K81 : Int → zi_M → Prop} {Q : Int → zi_M → Prop} (hK81 : ∀ (k1 : Int), ((-1) ≤ k1 ∧ k1 ≤ 7) → K81 k1 g) (hQ : ∀ v : Int, ((-1) ≤ v ∧ v ≤ 7) → Q v g) : ∀ (n : Nat) {l1 : Int} {l2 : Int} {l3 : Int}, ((-1) ≤ l1 ∧ l1 ≤ 7) → (0 ≤ l2 ∧ l2 ≤ 2147483647) → (0 ≤ l3 ∧ l3 ≤ 8) → 8 - l3 < (n : Int) → w_Thought_whomToAsk_l6 K81 Q n l1 l2 l3 g
  | 0, l1, l2, l3, b0, b1, b2, hm => by exfalso; omega
  | n + 1, l1, l2, l3, b0, b1, b2, hm => by
    unfold w_Thought_whomToAsk_l6
    refine ⟨⟨by omega, by omega⟩, ?_⟩
    refine ⟨fun c18 => ?_, fun c18 => ?_⟩
    · exact hK81 _ ⟨by omega, by omega⟩
    · refine ⟨((10 - 0 : Int).toNat + 1), k_Thought_whomToAsk_l18 (l3 := l3) I ⟨by omega, by omega⟩ (fun k7 b_2 => ?_) hQ ((10 - 0 : Int).toNat + 1) ⟨by omega, by omega⟩ ⟨by omega, by omega⟩ (by omega)⟩
      refine ⟨⟨by omega, by omega⟩, ?_⟩
      have m_3 : (-2147483648) ≤ (g 181 l3) ∧ (g 181 l3) ≤ 2147483647 := I.1 181 l3
      refine ⟨⟨by omega, by omega⟩, ?_⟩
      refine ⟨fun c16 => ?_, fun c16 => ?_⟩
      · exact k_Thought_whomToAsk_l6 I hK81 hQ n ⟨by omega, by omega⟩ ⟨by omega, by omega⟩ ⟨by omega, by omega⟩ (by omega)
      · refine ⟨⟨by omega, by omega⟩, ?_⟩
        refine ⟨fun c15 => ?_, fun c15 => ?_⟩
        · exact k_Thought_whomToAsk_l6 I hK81 hQ n ⟨by omega, by omega⟩ ⟨by omega, by omega⟩ ⟨by omega, by omega⟩ (by omega)
        · refine ⟨⟨by omega, by omega⟩, ⟨by omega, by omega⟩, ?_⟩
          refine ⟨fun c14 => ?_, fun c14 => ?_⟩
          · exact k_Thought_whomToAsk_l6 I hK81 hQ n ⟨by omega, by omega⟩ ⟨by omega, by omega⟩ ⟨by omega, by omega⟩ (by omega)
          · exact k_Thought_whomToAsk_l6 I hK81 hQ n ⟨by omega, by omega⟩ ⟨by omega, by omega⟩ ⟨by omega, by omega⟩ (by omega)
set_option maxRecDepth 100000 in
set_option maxHeartbeats 4000000 in
theorem k_Thought_whomToAsk {g : zi_M} {Q : Int → zi_M → Prop} (I : zk_I g) (hQ : ∀ v : Int, ((-1) ≤ v ∧ v ≤ 7) → Q v g) : w_Thought_whomToAsk g Q := by
  unfold w_Thought_whomToAsk
  refine ⟨((8 - 0 : Int).toNat + 1), k_Thought_whomToAsk_l6 I (fun k19 b_4 => ?_) hQ ((8 - 0 : Int).toNat + 1) ⟨by omega, by omega⟩ ⟨by omega, by omega⟩ ⟨by omega, by omega⟩ (by omega)⟩
  exact hQ _ ⟨by omega, by omega⟩
-- SpoutNews$Thought.sureCouples()I
set_option maxRecDepth 100000 in
set_option maxHeartbeats 4000000 in
theorem k_Thought_sureCouples_l12 {g : zi_M} (I : zk_I g) {l2 : Int} {K59 : Int → zi_M → Prop} {Q : Int → zi_M → Prop} (q2 : 0 ≤ l2 ∧ l2 ≤ 7) (hK59 : ∀ (k1 : Int), (0 ≤ k1) → K59 k1 g) (hQ : ∀ v : Int, (0 ≤ v) → Q v g) : ∀ (n : Nat) {l1 : Int} {l3 : Int}, (0 ≤ l1) → (0 ≤ l3 ∧ l3 ≤ 10) → 10 - l3 < (n : Int) → w_Thought_sureCouples_l12 l2 K59 Q n l1 l3 g
  | 0, l1, l3, b0, b1, hm => by exfalso; omega
  | n + 1, l1, l3, b0, b1, hm => by
    unfold w_Thought_sureCouples_l12
    refine ⟨⟨by omega, by omega⟩, ?_⟩
    refine ⟨fun c9 => ?_, fun c9 => ?_⟩
    · exact hK59 _ (by omega)
    · refine ⟨⟨by omega, by omega⟩, ?_⟩
      have m_1 : (-2147483648) ≤ (g 181 l2) ∧ (g 181 l2) ≤ 2147483647 := I.1 181 l2
      have m_2 := zi_r_shr (g 181 l2) l3
      try have m_3 := (zi_shr_f (g 181 l2) l3).2 ⟨by omega, by omega⟩
      have m_4 := zi_r_and (zi_shr (g 181 l2) l3) 1
      try have m_5 := (zi_and_f (zi_shr (g 181 l2) l3) 1).2.1 ⟨by omega, by omega⟩
      try have m_6 := (zi_and_f (zi_shr (g 181 l2) l3) 1).2.2 ⟨by omega, by omega⟩
      refine ⟨fun c8 => ?_, fun c8 => ?_⟩
      · exact k_Thought_sureCouples_l12 I q2 hK59 hQ n (by omega) ⟨by omega, by omega⟩ (by omega)
      · refine ⟨⟨by omega, by omega⟩, ?_⟩
        have m_7 : (-2147483648) ≤ (g 183 ((l2 * 10) + l3)) ∧ (g 183 ((l2 * 10) + l3)) ≤ 2147483647 := I.1 183 ((l2 * 10) + l3)
        have m_8 : (-2147483648) ≤ (g 180 3) ∧ (g 180 3) ≤ 2147483647 := I.1 180 3
        refine ⟨⟨by omega, by omega⟩, ⟨by omega, by omega⟩, ?_⟩
        refine ⟨fun c7 => ?_, fun c7 => ?_⟩
        · exact k_Thought_sureCouples_l12 I q2 hK59 hQ n (by omega) ⟨by omega, by omega⟩ (by omega)
        · exact k_Thought_sureCouples_l12 I q2 hK59 hQ n (by omega) ⟨by omega, by omega⟩ (by omega)
set_option maxRecDepth 100000 in
set_option maxHeartbeats 4000000 in
theorem k_Thought_sureCouples_l4 {g : zi_M} (I : zk_I g) {K65 : Int → zi_M → Prop} {Q : Int → zi_M → Prop} (hK65 : ∀ (k1 : Int), (0 ≤ k1) → K65 k1 g) (hQ : ∀ v : Int, (0 ≤ v) → Q v g) : ∀ (n : Nat) {l1 : Int} {l2 : Int}, (0 ≤ l1) → (0 ≤ l2 ∧ l2 ≤ 8) → 8 - l2 < (n : Int) → w_Thought_sureCouples_l4 K65 Q n l1 l2 g
  | 0, l1, l2, b0, b1, hm => by exfalso; omega
  | n + 1, l1, l2, b0, b1, hm => by
    unfold w_Thought_sureCouples_l4
    refine ⟨⟨by omega, by omega⟩, ?_⟩
    refine ⟨fun c13 => ?_, fun c13 => ?_⟩
    · exact hK65 _ (by omega)
    · refine ⟨((10 - 0 : Int).toNat + 1), k_Thought_sureCouples_l12 (l2 := l2) I ⟨by omega, by omega⟩ (fun k10 b_9 => ?_) hQ ((10 - 0 : Int).toNat + 1) (by omega) ⟨by omega, by omega⟩ (by omega)⟩
      exact k_Thought_sureCouples_l4 I hK65 hQ n (by omega) ⟨by omega, by omega⟩ (by omega)
set_option maxRecDepth 100000 in
set_option maxHeartbeats 4000000 in
theorem k_Thought_sureCouples {g : zi_M} {Q : Int → zi_M → Prop} (I : zk_I g) (hQ : ∀ v : Int, (0 ≤ v) → Q v g) : w_Thought_sureCouples g Q := by
  unfold w_Thought_sureCouples
  refine ⟨((8 - 0 : Int).toNat + 1), k_Thought_sureCouples_l4 I (fun k14 b_10 => ?_) hQ ((8 - 0 : Int).toNat + 1) (by omega) ⟨by omega, by omega⟩ (by omega)⟩
  exact hQ _ (by omega)
-- SpoutNews.ways(I)I
set_option maxRecDepth 100000 in
set_option maxHeartbeats 4000000 in
theorem k_S_ways {l1 : Int} {g : zi_M} {Q : Int → zi_M → Prop} (I : zk_I g) (p1 : (-2147483648) ≤ l1 ∧ l1 ≤ 2147483647) (hQ : ∀ (v : Int) (g' : zi_M), zk_I g' → zk_fr fr_S_ways g g' → ((-2147483648) ≤ v) → Q v g') : w_S_ways l1 g Q := by
  unfold w_S_ways
  refine ⟨⟨by omega, by omega⟩, ?_⟩
  refine ⟨fun c13 => ?_, fun c13 => ?_⟩
  · exact hQ _ _ I (zk_f0 _) (by omega)
  · refine ⟨fun c12 => ?_, fun c12 => ?_⟩
    · refine k_Thought_countWays I (fun g3 I_1 F_2 => ?_)
      have F_3 : zk_fr fr_S_ways g g3 := zk_ft (zk_f0 _) F_2 (fun a i => (fun h => Or.elim h (fun h => (Or.inl h)) (fun h => Or.elim h (fun h => (Or.inr (Or.inl h))) (fun h => Or.elim h (fun h => (Or.inr (Or.inr (Or.inl h)))) (fun h => (Or.inr (Or.inr (Or.inr h))))))))
      refine ⟨fun c5_0 c5_1 => ?_, fun c5 => ?_, fun c5 => ?_⟩
      · refine k_Thought_whomToAsk I_1 (fun v6 b_4 => ?_)
        exact hQ _ _ I_1 F_3 (by omega)
      · have m_5 : (-2147483648) ≤ (g3 180 3) ∧ (g3 180 3) ≤ 2147483647 := I_1.1 180 3
        exact hQ _ _ I_1 F_3 (by omega)
      · refine k_Thought_sureCouples I_1 (fun v9 b_6 => ?_)
        exact hQ _ _ I_1 F_3 (by omega)
    · exact hQ _ _ I (zk_f0 _) (by omega)
-- SpoutNewsModel.seatsOf(II)I
set_option maxRecDepth 100000 in
set_option maxHeartbeats 4000000 in
theorem k_M_seatsOf {l1 : Int} {l2 : Int} {g : zi_M} {Q : Int → zi_M → Prop} (I : zk_I g) (p1 : 0 ≤ l1 ∧ l1 ≤ 7) (p2 : (-1) ≤ l2 ∧ l2 ≤ 79) (hQ : ∀ v : Int, (l2 = (-1) → v = g 239 l1) → (¬ l2 = (-1) → ¬ (Int.tdiv l2 10) = l1 → v = g 239 l1) → (¬ l2 = (-1) → (Int.tdiv l2 10) = l1 → v = zi_and (g 239 l1) (zi_shl 1 (Int.tmod l2 10))) → Q v g) : w_M_seatsOf l1 l2 g Q := by
  unfold w_M_seatsOf
  refine ⟨⟨by omega, by omega⟩, ?_⟩
  refine ⟨fun c8 => ?_, fun c8 => ?_⟩
  · refine ⟨⟨by omega, by omega⟩, ?_⟩
    have m_1 : 0 ≤ (g 239 l1) ∧ (g 239 l1) ≤ 1023 := I.1 239 l1
    have m_2 := zi_tdiv_f l2 10
    have m_3 := zi_tdiv_c l2 10 (by decide)
    have m_4 := zi_tmod_f l2 10
    have m_5 := zi_tmod_c l2 10 (by decide)
    have m_6 := zi_r_shl 1 (Int.tmod l2 10)
    try have m_7 := (zi_shl_f (Int.tmod l2 10)).2.1 ⟨by omega, by omega⟩
    first | have m_8 := (zi_shl_f (Int.tmod l2 10)).2.2.1 ⟨by omega, by omega⟩ | have m_9 := (zi_shl_f (Int.tmod l2 10)).2.2.2.1 ⟨by omega, by omega⟩ | have m_10 := (zi_shl_f (Int.tmod l2 10)).2.2.2.2.1 ⟨by omega, by omega⟩ | have m_11 := (zi_shl_f (Int.tmod l2 10)).2.2.2.2.2.1 ⟨by omega, by omega⟩ | have m_12 := (zi_shl_f (Int.tmod l2 10)).2.2.2.2.2.2 ⟨by omega, by omega⟩ | skip
    have m_13 := zi_r_and (g 239 l1) (zi_shl 1 (Int.tmod l2 10))
    try have m_14 := (zi_and_f (g 239 l1) (zi_shl 1 (Int.tmod l2 10))).2.1 ⟨by omega, by omega⟩
    try have m_15 := (zi_and_f (g 239 l1) (zi_shl 1 (Int.tmod l2 10))).2.2 ⟨by omega, by omega⟩
    exact hQ _ (by intros; omega) (by intros; omega) (by intros; omega)
  · have m_16 := zi_tdiv_f l2 10
    have m_17 := zi_tdiv_c l2 10 (by decide)
    refine ⟨⟨by omega, by omega⟩, ⟨by omega, by omega⟩, ?_⟩
    refine ⟨fun c7 => ?_, fun c7 => ?_⟩
    · refine ⟨⟨by omega, by omega⟩, ?_⟩
      have m_18 : 0 ≤ (g 239 l1) ∧ (g 239 l1) ≤ 1023 := I.1 239 l1
      have m_19 := zi_tmod_f l2 10
      have m_20 := zi_tmod_c l2 10 (by decide)
      have m_21 := zi_r_shl 1 (Int.tmod l2 10)
      try have m_22 := (zi_shl_f (Int.tmod l2 10)).2.1 ⟨by omega, by omega⟩
      first | have m_23 := (zi_shl_f (Int.tmod l2 10)).2.2.1 ⟨by omega, by omega⟩ | have m_24 := (zi_shl_f (Int.tmod l2 10)).2.2.2.1 ⟨by omega, by omega⟩ | have m_25 := (zi_shl_f (Int.tmod l2 10)).2.2.2.2.1 ⟨by omega, by omega⟩ | have m_26 := (zi_shl_f (Int.tmod l2 10)).2.2.2.2.2.1 ⟨by omega, by omega⟩ | have m_27 := (zi_shl_f (Int.tmod l2 10)).2.2.2.2.2.2 ⟨by omega, by omega⟩ | skip
      have m_28 := zi_r_and (g 239 l1) (zi_shl 1 (Int.tmod l2 10))
      try have m_29 := (zi_and_f (g 239 l1) (zi_shl 1 (Int.tmod l2 10))).2.1 ⟨by omega, by omega⟩
      try have m_30 := (zi_and_f (g 239 l1) (zi_shl 1 (Int.tmod l2 10))).2.2 ⟨by omega, by omega⟩
      exact hQ _ (by intros; omega) (by intros; omega) (by intros; omega)
    · refine ⟨⟨by omega, by omega⟩, ?_⟩
      have m_31 : 0 ≤ (g 239 l1) ∧ (g 239 l1) ≤ 1023 := I.1 239 l1
      have m_32 := zi_tmod_f l2 10
      have m_33 := zi_tmod_c l2 10 (by decide)
      have m_34 := zi_r_shl 1 (Int.tmod l2 10)
      try have m_35 := (zi_shl_f (Int.tmod l2 10)).2.1 ⟨by omega, by omega⟩
      first | have m_36 := (zi_shl_f (Int.tmod l2 10)).2.2.1 ⟨by omega, by omega⟩ | have m_37 := (zi_shl_f (Int.tmod l2 10)).2.2.2.1 ⟨by omega, by omega⟩ | have m_38 := (zi_shl_f (Int.tmod l2 10)).2.2.2.2.1 ⟨by omega, by omega⟩ | have m_39 := (zi_shl_f (Int.tmod l2 10)).2.2.2.2.2.1 ⟨by omega, by omega⟩ | have m_40 := (zi_shl_f (Int.tmod l2 10)).2.2.2.2.2.2 ⟨by omega, by omega⟩ | skip
      have m_41 := zi_r_and (g 239 l1) (zi_shl 1 (Int.tmod l2 10))
      try have m_42 := (zi_and_f (g 239 l1) (zi_shl 1 (Int.tmod l2 10))).2.1 ⟨by omega, by omega⟩
      try have m_43 := (zi_and_f (g 239 l1) (zi_shl 1 (Int.tmod l2 10))).2.2 ⟨by omega, by omega⟩
      exact hQ _ (by intros; omega) (by intros; omega) (by intros; omega)
