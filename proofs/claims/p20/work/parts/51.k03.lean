-- by program (wip/gen/mkz.py)
-- SpoutNews$Law.joined(III)I
set_option maxRecDepth 100000 in
set_option maxHeartbeats 4000000 in
theorem k_Law_joined {l0 : Int} {l1 : Int} {l2 : Int} {g : zi_M} {Q : Int → zi_M → Prop} (I : zk_I g) (p0 : (-2147483648) ≤ l0 ∧ l0 ≤ 2147483647) (p1 : (-2147483648) ≤ l1 ∧ l1 ≤ 2147483647) (p2 : (-2147483648) ≤ l2 ∧ l2 ≤ 2147483647) (hQ : ∀ v : Int, ((-2147483648) ≤ v ∧ v ≤ 2147483647) → (v = zjo l0 l1 l2) → Q v g) : w_Law_joined l0 l1 l2 g Q := by
  unfold w_Law_joined
  refine ⟨⟨by omega, by omega⟩, ?_⟩
  refine ⟨fun c2 => ?_, fun c2 => ?_, fun c2 => ?_, fun c2 => ?_, fun c2 => ?_, fun c2 => ?_, fun c2 => ?_, fun c2 => ?_, fun c2 => ?_, fun c2 => ?_⟩
  · first | have m_1 := (zi_or_f l1 l2).2.1 ⟨by omega, by omega, by omega, by omega⟩ | have m_1 := (zi_or_f l1 l2).2.2.1 ⟨by omega, by omega, by omega, by omega⟩ | have m_1 := (zi_or_f l1 l2).2.2.2.1 ⟨by omega, by omega, by omega, by omega⟩ | have m_1 := (zi_or_f l1 l2).2.2.2.2.1 ⟨by omega, by omega, by omega, by omega⟩ | have m_1 := (zi_or_f l1 l2).2.2.2.2.2 ⟨by omega, by omega, by omega, by omega⟩ | have m_1 := zi_r_or l1 l2
    exact hQ _ ⟨by omega, by omega⟩ (by unfold zjo; repeat (first | rw [if_pos (by omega)] | rw [if_neg (by omega)]))
  · have m_2 := zi_r_w (l1 + l2)
    exact hQ _ ⟨by omega, by omega⟩ (by unfold zjo; repeat (first | rw [if_pos (by omega)] | rw [if_neg (by omega)]))
  · have m_3 := zi_r_w (l1 - l2)
    exact hQ _ ⟨by omega, by omega⟩ (by unfold zjo; repeat (first | rw [if_pos (by omega)] | rw [if_neg (by omega)]))
  · have m_4 := zi_r_w (l1 * l2)
    exact hQ _ ⟨by omega, by omega⟩ (by unfold zjo; repeat (first | rw [if_pos (by omega)] | rw [if_neg (by omega)]))
  · first | have m_5 := (zi_or_f l1 l2).2.1 ⟨by omega, by omega, by omega, by omega⟩ | have m_5 := (zi_or_f l1 l2).2.2.1 ⟨by omega, by omega, by omega, by omega⟩ | have m_5 := (zi_or_f l1 l2).2.2.2.1 ⟨by omega, by omega, by omega, by omega⟩ | have m_5 := (zi_or_f l1 l2).2.2.2.2.1 ⟨by omega, by omega, by omega, by omega⟩ | have m_5 := (zi_or_f l1 l2).2.2.2.2.2 ⟨by omega, by omega, by omega, by omega⟩ | have m_5 := zi_r_or l1 l2
    exact hQ _ ⟨by omega, by omega⟩ (by unfold zjo; repeat (first | rw [if_pos (by omega)] | rw [if_neg (by omega)]))
  · refine ⟨⟨by omega, by omega⟩, ⟨by omega, by omega⟩, ?_⟩
    refine ⟨fun c5 => ?_, fun c5 => ?_⟩
    · exact hQ _ ⟨by omega, by omega⟩ (by unfold zjo; repeat (first | rw [if_pos (by omega)] | rw [if_neg (by omega)]))
    · exact hQ _ ⟨by omega, by omega⟩ (by unfold zjo; repeat (first | rw [if_pos (by omega)] | rw [if_neg (by omega)]))
  · refine ⟨⟨by omega, by omega⟩, ⟨by omega, by omega⟩, ?_⟩
    refine ⟨fun c8 => ?_, fun c8 => ?_⟩
    · exact hQ _ ⟨by omega, by omega⟩ (by unfold zjo; repeat (first | rw [if_pos (by omega)] | rw [if_neg (by omega)]))
    · exact hQ _ ⟨by omega, by omega⟩ (by unfold zjo; repeat (first | rw [if_pos (by omega)] | rw [if_neg (by omega)]))
  · refine ⟨⟨by omega, by omega⟩, ⟨by omega, by omega⟩, ?_⟩
    refine ⟨fun c11 => ?_, fun c11 => ?_⟩
    · exact hQ _ ⟨by omega, by omega⟩ (by unfold zjo; repeat (first | rw [if_pos (by omega)] | rw [if_neg (by omega)]))
    · exact hQ _ ⟨by omega, by omega⟩ (by unfold zjo; repeat (first | rw [if_pos (by omega)] | rw [if_neg (by omega)]))
  · first | have m_6 := (zi_or_f l1 l2).2.1 ⟨by omega, by omega, by omega, by omega⟩ | have m_6 := (zi_or_f l1 l2).2.2.1 ⟨by omega, by omega, by omega, by omega⟩ | have m_6 := (zi_or_f l1 l2).2.2.2.1 ⟨by omega, by omega, by omega, by omega⟩ | have m_6 := (zi_or_f l1 l2).2.2.2.2.1 ⟨by omega, by omega, by omega, by omega⟩ | have m_6 := (zi_or_f l1 l2).2.2.2.2.2 ⟨by omega, by omega, by omega, by omega⟩ | have m_6 := zi_r_or l1 l2
    exact hQ _ ⟨by omega, by omega⟩ (by unfold zjo; repeat (first | rw [if_pos (by omega)] | rw [if_neg (by omega)]))
  · have m_7 := zi_r_and l1 l2
    try have m_8 := (zi_and_f l1 l2).2.1 ⟨by omega, by omega⟩
    try have m_9 := (zi_and_f l1 l2).2.2 ⟨by omega, by omega⟩
    exact hQ _ ⟨by omega, by omega⟩ (by unfold zjo; repeat (first | rw [if_pos (by omega)] | rw [if_neg (by omega)]))
-- SpoutNews$Law.worth(II)I
set_option maxRecDepth 100000 in
set_option maxHeartbeats 4000000 in
theorem k_Law_worth_l5 {l1 : Int} {l2 : Int} {x1 : Int} {K202 : Int → zi_M → Prop} {Q : Int → zi_M → Prop} {g0 : zi_M} (q2 : 0 ≤ l2 ∧ l2 ≤ 400) (hK202 : ∀ (k3 : Int) (g : zi_M), zk_I g → zk_fr fr_Law_worth g0 g → (0 ≤ k3 ∧ k3 ≤ 40) → ((0 < k3 → g 27 0 = (zwo (g0 21) (g0 22) (g0 28) x1 l2)) ∧ (k3 ≤ 0 → 0 = (zwo (g0 21) (g0 22) (g0 28) x1 l2))) → K202 k3 g) (hQ : ∀ (v : Int) (g' : zi_M), zk_I g' → zk_fr fr_Law_worth g0 g' → ((-2147483648) ≤ v ∧ v ≤ 2147483647) → (v = zwo (g0 21) (g0 22) (g0 28) l1 l2) → Q v g') : ∀ (n : Nat) {l3 : Int} {l4 : Int} {g : zi_M}, zk_I g → zk_fr fr_Law_worth g0 g → (0 ≤ l3 ∧ l3 ≤ 40) → (0 ≤ l4 ∧ l4 ≤ 400) → (zwJ l2 g l3 l4 (zwo (g0 21) (g0 22) (g0 28) x1 l2)) → 400 - l4 < (n : Int) → w_Law_worth_l5 l2 K202 Q n l3 l4 g
  | 0, l3, l4, g, I, F, b0, b1, b2, hm => by exfalso; omega
  | n + 1, l3, l4, g, I, F, b0, b1, b2, hm => by
    unfold w_Law_worth_l5
    refine ⟨⟨by omega, by omega⟩, ⟨by omega, by omega⟩, ?_⟩
    refine ⟨fun c43 => ?_, fun c43 => ?_⟩
    · have m_1 : (-2147483648) ≤ (g 27 0) ∧ (g 27 0) ≤ 2147483647 := I.1 27 0
      exact hK202 _ _ I F ⟨by omega, by omega⟩ (by exact zwJ_x (by assumption) (by assumption))
    · refine ⟨⟨by omega, by omega⟩, ?_⟩
      have m_2 : (-2147483648) ≤ (g 21 l4) ∧ (g 21 l4) ≤ 2147483647 := I.1 21 l4
      refine ⟨⟨by omega, by omega⟩, ?_⟩
      refine ⟨fun c42 => ?_, fun c42 => ?_⟩
      · refine ⟨fun c26 => ?_, fun c26 => ?_⟩
        · refine ⟨fun c17 => ?_, fun c17 => ?_⟩
          · refine ⟨⟨by omega, by omega⟩, ?_⟩
            refine ⟨fun c12 => ?_, fun c12 => ?_⟩
            · exact k_Law_worth_l5 q2 hK202 hQ n I F ⟨by omega, by omega⟩ ⟨by omega, by omega⟩ (by first | exact zwJ_0 | exact zwJ_p1 (by omega) (by assumption) (by assumption) (by assumption) (by omega) (by assumption) | exact zwJ_p2 (by omega) (by assumption) (by assumption) (by assumption) (by assumption) (by assumption) (by assumption) (by assumption) | exact zwJ_pn (by omega) (by assumption) (by assumption) (by assumption) | exact zwJ_d (by omega) (by assumption) (by assumption) (by assumption) (by assumption) (by assumption) | exact zwJ_dn (by omega) (by assumption) (by assumption) (by omega) | exact zwJ_n (by omega) (by assumption) (by assumption) (by assumption) (by assumption) | exact zwJ_nn (by omega) (by assumption) (by assumption) (by assumption) | exact zwJ_j (by omega) (by assumption) (by assumption) (by assumption) (by assumption) (by assumption) (by assumption) (by assumption) | exact zwJ_jn (by omega) (by assumption) (by assumption) (by assumption) (by assumption) (by assumption)) (by omega)
            · refine ⟨⟨by omega, by omega⟩, ?_⟩
              refine ⟨⟨by omega, by omega⟩, ?_⟩
              have m_3 : (-2147483648) ≤ (g 27 ((l3 + (-1)) - 1)) ∧ (g 27 ((l3 + (-1)) - 1)) ≤ 2147483647 := I.1 27 ((l3 + (-1)) - 1)
              have m_4 : (-2147483648) ≤ (g 27 (l3 + (-1))) ∧ (g 27 (l3 + (-1))) ≤ 2147483647 := I.1 27 (l3 + (-1))
              refine k_Law_joined I ⟨by omega, by omega⟩ ⟨by omega, by omega⟩ ⟨by omega, by omega⟩ (fun v8 b_5 b_6 => ?_)
              intro g11 e_7
              have I_8 : zk_I g11 := by rw [e_7]; exact zk_upd (L := (-2147483648)) (H := 2147483647) rfl rfl I ⟨by omega, by omega⟩
              have F_9 : zk_fr fr_Law_worth g0 g11 := by rw [e_7]; exact zk_fu F rfl
              exact k_Law_worth_l5 q2 hK202 hQ n I_8 F_9 ⟨by omega, by omega⟩ ⟨by omega, by omega⟩ (by first | exact zwJ_0 | exact zwJ_p1 (by omega) (by assumption) (by assumption) (by assumption) (by omega) (by assumption) | exact zwJ_p2 (by omega) (by assumption) (by assumption) (by assumption) (by assumption) (by assumption) (by assumption) (by assumption) | exact zwJ_pn (by omega) (by assumption) (by assumption) (by assumption) | exact zwJ_d (by omega) (by assumption) (by assumption) (by assumption) (by assumption) (by assumption) | exact zwJ_dn (by omega) (by assumption) (by assumption) (by omega) | exact zwJ_n (by omega) (by assumption) (by assumption) (by assumption) (by assumption) | exact zwJ_nn (by omega) (by assumption) (by assumption) (by assumption) | exact zwJ_j (by omega) (by assumption) (by assumption) (by assumption) (by assumption) (by assumption) (by assumption) (by assumption) | exact zwJ_jn (by omega) (by assumption) (by assumption) (by assumption) (by assumption) (by assumption)) (by omega)
          · refine ⟨⟨by omega, by omega⟩, ?_⟩
            refine ⟨fun c16 => ?_, fun c16 => ?_⟩
            · exact k_Law_worth_l5 q2 hK202 hQ n I F ⟨by omega, by omega⟩ ⟨by omega, by omega⟩ (by first | exact zwJ_0 | exact zwJ_p1 (by omega) (by assumption) (by assumption) (by assumption) (by omega) (by assumption) | exact zwJ_p2 (by omega) (by assumption) (by assumption) (by assumption) (by assumption) (by assumption) (by assumption) (by assumption) | exact zwJ_pn (by omega) (by assumption) (by assumption) (by assumption) | exact zwJ_d (by omega) (by assumption) (by assumption) (by assumption) (by assumption) (by assumption) | exact zwJ_dn (by omega) (by assumption) (by assumption) (by omega) | exact zwJ_n (by omega) (by assumption) (by assumption) (by assumption) (by assumption) | exact zwJ_nn (by omega) (by assumption) (by assumption) (by assumption) | exact zwJ_j (by omega) (by assumption) (by assumption) (by assumption) (by assumption) (by assumption) (by assumption) (by assumption) | exact zwJ_jn (by omega) (by assumption) (by assumption) (by assumption) (by assumption) (by assumption)) (by omega)
            · refine ⟨⟨by omega, by omega⟩, ?_⟩
              have m_13 : (-2147483648) ≤ (g 27 (l3 - 1)) ∧ (g 27 (l3 - 1)) ≤ 2147483647 := I.1 27 (l3 - 1)
              have m_14 := zi_r_w (1 - (g 27 (l3 - 1)))
              intro g15 e_10
              have I_11 : zk_I g15 := by rw [e_10]; exact zk_upd (L := (-2147483648)) (H := 2147483647) rfl rfl I ⟨by omega, by omega⟩
              have F_12 : zk_fr fr_Law_worth g0 g15 := by rw [e_10]; exact zk_fu F rfl
              exact k_Law_worth_l5 q2 hK202 hQ n I_11 F_12 ⟨by omega, by omega⟩ ⟨by omega, by omega⟩ (by first | exact zwJ_0 | exact zwJ_p1 (by omega) (by assumption) (by assumption) (by assumption) (by omega) (by assumption) | exact zwJ_p2 (by omega) (by assumption) (by assumption) (by assumption) (by assumption) (by assumption) (by assumption) (by assumption) | exact zwJ_pn (by omega) (by assumption) (by assumption) (by assumption) | exact zwJ_d (by omega) (by assumption) (by assumption) (by assumption) (by assumption) (by assumption) | exact zwJ_dn (by omega) (by assumption) (by assumption) (by omega) | exact zwJ_n (by omega) (by assumption) (by assumption) (by assumption) (by assumption) | exact zwJ_nn (by omega) (by assumption) (by assumption) (by assumption) | exact zwJ_j (by omega) (by assumption) (by assumption) (by assumption) (by assumption) (by assumption) (by assumption) (by assumption) | exact zwJ_jn (by omega) (by assumption) (by assumption) (by assumption) (by assumption) (by assumption)) (by omega)
        · refine ⟨⟨by omega, by omega⟩, ?_⟩
          refine ⟨fun c25 => ?_, fun c25 => ?_⟩
          · exact k_Law_worth_l5 q2 hK202 hQ n I F ⟨by omega, by omega⟩ ⟨by omega, by omega⟩ (by first | exact zwJ_0 | exact zwJ_p1 (by omega) (by assumption) (by assumption) (by assumption) (by omega) (by assumption) | exact zwJ_p2 (by omega) (by assumption) (by assumption) (by assumption) (by assumption) (by assumption) (by assumption) (by assumption) | exact zwJ_pn (by omega) (by assumption) (by assumption) (by assumption) | exact zwJ_d (by omega) (by assumption) (by assumption) (by assumption) (by assumption) (by assumption) | exact zwJ_dn (by omega) (by assumption) (by assumption) (by omega) | exact zwJ_n (by omega) (by assumption) (by assumption) (by assumption) (by assumption) | exact zwJ_nn (by omega) (by assumption) (by assumption) (by assumption) | exact zwJ_j (by omega) (by assumption) (by assumption) (by assumption) (by assumption) (by assumption) (by assumption) (by assumption) | exact zwJ_jn (by omega) (by assumption) (by assumption) (by assumption) (by assumption) (by assumption)) (by omega)
          · have m_15 : 0 ≤ (g 22 l4) ∧ (g 22 l4) ≤ 9999 := I.1 22 l4
            refine ⟨⟨by omega, by omega⟩, ?_⟩
            refine ⟨fun c24 => ?_, fun c24 => ?_⟩
            · exact k_Law_worth_l5 q2 hK202 hQ n I F ⟨by omega, by omega⟩ ⟨by omega, by omega⟩ (by first | exact zwJ_0 | exact zwJ_p1 (by omega) (by assumption) (by assumption) (by assumption) (by omega) (by assumption) | exact zwJ_p2 (by omega) (by assumption) (by assumption) (by assumption) (by assumption) (by assumption) (by assumption) (by assumption) | exact zwJ_pn (by omega) (by assumption) (by assumption) (by assumption) | exact zwJ_d (by omega) (by assumption) (by assumption) (by assumption) (by assumption) (by assumption) | exact zwJ_dn (by omega) (by assumption) (by assumption) (by omega) | exact zwJ_n (by omega) (by assumption) (by assumption) (by assumption) (by assumption) | exact zwJ_nn (by omega) (by assumption) (by assumption) (by assumption) | exact zwJ_j (by omega) (by assumption) (by assumption) (by assumption) (by assumption) (by assumption) (by assumption) (by assumption) | exact zwJ_jn (by omega) (by assumption) (by assumption) (by assumption) (by assumption) (by assumption)) (by omega)
            · refine ⟨⟨by omega, by omega⟩, ?_⟩
              have m_16 : (-2147483648) ≤ (g 27 (l3 - 1)) ∧ (g 27 (l3 - 1)) ≤ 2147483647 := I.1 27 (l3 - 1)
              refine ⟨⟨by omega, by omega⟩, (by omega), ?_⟩
              have m_20 := zi_tdiv_f (g 27 (l3 - 1)) (g 22 l4)
              intro g23 e_17
              have I_18 : zk_I g23 := by rw [e_17]; exact zk_upd (L := (-2147483648)) (H := 2147483647) rfl rfl I ⟨by omega, by omega⟩
              have F_19 : zk_fr fr_Law_worth g0 g23 := by rw [e_17]; exact zk_fu F rfl
              exact k_Law_worth_l5 q2 hK202 hQ n I_18 F_19 ⟨by omega, by omega⟩ ⟨by omega, by omega⟩ (by first | exact zwJ_0 | exact zwJ_p1 (by omega) (by assumption) (by assumption) (by assumption) (by omega) (by assumption) | exact zwJ_p2 (by omega) (by assumption) (by assumption) (by assumption) (by assumption) (by assumption) (by assumption) (by assumption) | exact zwJ_pn (by omega) (by assumption) (by assumption) (by assumption) | exact zwJ_d (by omega) (by assumption) (by assumption) (by assumption) (by assumption) (by assumption) | exact zwJ_dn (by omega) (by assumption) (by assumption) (by omega) | exact zwJ_n (by omega) (by assumption) (by assumption) (by assumption) (by assumption) | exact zwJ_nn (by omega) (by assumption) (by assumption) (by assumption) | exact zwJ_j (by omega) (by assumption) (by assumption) (by assumption) (by assumption) (by assumption) (by assumption) (by assumption) | exact zwJ_jn (by omega) (by assumption) (by assumption) (by assumption) (by assumption) (by assumption)) (by omega)
      · refine ⟨⟨by omega, by omega⟩, ?_⟩
        refine ⟨fun c41 => ?_, fun c41 => ?_⟩
        · exact k_Law_worth_l5 q2 hK202 hQ n I F ⟨by omega, by omega⟩ ⟨by omega, by omega⟩ (by first | exact zwJ_0 | exact zwJ_p1 (by omega) (by assumption) (by assumption) (by assumption) (by omega) (by assumption) | exact zwJ_p2 (by omega) (by assumption) (by assumption) (by assumption) (by assumption) (by assumption) (by assumption) (by assumption) | exact zwJ_pn (by omega) (by assumption) (by assumption) (by assumption) | exact zwJ_d (by omega) (by assumption) (by assumption) (by assumption) (by assumption) (by assumption) | exact zwJ_dn (by omega) (by assumption) (by assumption) (by omega) | exact zwJ_n (by omega) (by assumption) (by assumption) (by assumption) (by assumption) | exact zwJ_nn (by omega) (by assumption) (by assumption) (by assumption) | exact zwJ_j (by omega) (by assumption) (by assumption) (by assumption) (by assumption) (by assumption) (by assumption) (by assumption) | exact zwJ_jn (by omega) (by assumption) (by assumption) (by assumption) (by assumption) (by assumption)) (by omega)
        · refine ⟨fun c40 => ?_, fun c40 => ?_⟩
          · refine ⟨⟨by omega, by omega⟩, ?_⟩
            have m_24 : 0 ≤ (g 22 l4) ∧ (g 22 l4) ≤ 9999 := I.1 22 l4
            intro g29 e_21
            have I_22 : zk_I g29 := by rw [e_21]; exact zk_upd (L := (-2147483648)) (H := 2147483647) rfl rfl I ⟨by omega, by omega⟩
            have F_23 : zk_fr fr_Law_worth g0 g29 := by rw [e_21]; exact zk_fu F rfl
            exact k_Law_worth_l5 q2 hK202 hQ n I_22 F_23 ⟨by omega, by omega⟩ ⟨by omega, by omega⟩ (by first | exact zwJ_0 | exact zwJ_p1 (by omega) (by assumption) (by assumption) (by assumption) (by omega) (by assumption) | exact zwJ_p2 (by omega) (by assumption) (by assumption) (by assumption) (by assumption) (by assumption) (by assumption) (by assumption) | exact zwJ_pn (by omega) (by assumption) (by assumption) (by assumption) | exact zwJ_d (by omega) (by assumption) (by assumption) (by assumption) (by assumption) (by assumption) | exact zwJ_dn (by omega) (by assumption) (by assumption) (by omega) | exact zwJ_n (by omega) (by assumption) (by assumption) (by assumption) (by assumption) | exact zwJ_nn (by omega) (by assumption) (by assumption) (by assumption) | exact zwJ_j (by omega) (by assumption) (by assumption) (by assumption) (by assumption) (by assumption) (by assumption) (by assumption) | exact zwJ_jn (by omega) (by assumption) (by assumption) (by assumption) (by assumption) (by assumption)) (by omega)
          · have m_25 : 0 ≤ (g 22 l4) ∧ (g 22 l4) ≤ 9999 := I.1 22 l4
            refine ⟨⟨by omega, by omega⟩, ?_⟩
            refine ⟨fun c39 => ?_, fun c39 => ?_⟩
            · refine ⟨⟨by omega, by omega⟩, ?_⟩
              intro g32 e_26
              have I_27 : zk_I g32 := by rw [e_26]; exact zk_upd (L := (-2147483648)) (H := 2147483647) rfl rfl I ⟨by omega, by omega⟩
              have F_28 : zk_fr fr_Law_worth g0 g32 := by rw [e_26]; exact zk_fu F rfl
              exact k_Law_worth_l5 q2 hK202 hQ n I_27 F_28 ⟨by omega, by omega⟩ ⟨by omega, by omega⟩ (by first | exact zwJ_0 | exact zwJ_p1 (by omega) (by assumption) (by assumption) (by assumption) (by omega) (by assumption) | exact zwJ_p2 (by omega) (by assumption) (by assumption) (by assumption) (by assumption) (by assumption) (by assumption) (by assumption) | exact zwJ_pn (by omega) (by assumption) (by assumption) (by assumption) | exact zwJ_d (by omega) (by assumption) (by assumption) (by assumption) (by assumption) (by assumption) | exact zwJ_dn (by omega) (by assumption) (by assumption) (by omega) | exact zwJ_n (by omega) (by assumption) (by assumption) (by assumption) (by assumption) | exact zwJ_nn (by omega) (by assumption) (by assumption) (by assumption) | exact zwJ_j (by omega) (by assumption) (by assumption) (by assumption) (by assumption) (by assumption) (by assumption) (by assumption) | exact zwJ_jn (by omega) (by assumption) (by assumption) (by assumption) (by assumption) (by assumption)) (by omega)
            · refine ⟨fun c38 => ?_, fun c38 => ?_⟩
              · refine ⟨⟨by omega, by omega⟩, ?_⟩
                refine ⟨⟨by omega, by omega⟩, ?_⟩
                have m_32 : (-2147483648) ≤ (g 28 (g 22 l4)) ∧ (g 28 (g 22 l4)) ≤ 2147483647 := I.1 28 (g 22 l4)
                intro g35 e_29
                have I_30 : zk_I g35 := by rw [e_29]; exact zk_upd (L := (-2147483648)) (H := 2147483647) rfl rfl I ⟨by omega, by omega⟩
                have F_31 : zk_fr fr_Law_worth g0 g35 := by rw [e_29]; exact zk_fu F rfl
                exact k_Law_worth_l5 q2 hK202 hQ n I_30 F_31 ⟨by omega, by omega⟩ ⟨by omega, by omega⟩ (by first | exact zwJ_0 | exact zwJ_p1 (by omega) (by assumption) (by assumption) (by assumption) (by omega) (by assumption) | exact zwJ_p2 (by omega) (by assumption) (by assumption) (by assumption) (by assumption) (by assumption) (by assumption) (by assumption) | exact zwJ_pn (by omega) (by assumption) (by assumption) (by assumption) | exact zwJ_d (by omega) (by assumption) (by assumption) (by assumption) (by assumption) (by assumption) | exact zwJ_dn (by omega) (by assumption) (by assumption) (by omega) | exact zwJ_n (by omega) (by assumption) (by assumption) (by assumption) (by assumption) | exact zwJ_nn (by omega) (by assumption) (by assumption) (by assumption) | exact zwJ_j (by omega) (by assumption) (by assumption) (by assumption) (by assumption) (by assumption) (by assumption) (by assumption) | exact zwJ_jn (by omega) (by assumption) (by assumption) (by assumption) (by assumption) (by assumption)) (by omega)
              · refine ⟨⟨by omega, by omega⟩, ?_⟩
                intro g37 e_33
                have I_34 : zk_I g37 := by rw [e_33]; exact zk_upd (L := (-2147483648)) (H := 2147483647) rfl rfl I ⟨by omega, by omega⟩
                have F_35 : zk_fr fr_Law_worth g0 g37 := by rw [e_33]; exact zk_fu F rfl
                exact k_Law_worth_l5 q2 hK202 hQ n I_34 F_35 ⟨by omega, by omega⟩ ⟨by omega, by omega⟩ (by first | exact zwJ_0 | exact zwJ_p1 (by omega) (by assumption) (by assumption) (by assumption) (by omega) (by assumption) | exact zwJ_p2 (by omega) (by assumption) (by assumption) (by assumption) (by assumption) (by assumption) (by assumption) (by assumption) | exact zwJ_pn (by omega) (by assumption) (by assumption) (by assumption) | exact zwJ_d (by omega) (by assumption) (by assumption) (by assumption) (by assumption) (by assumption) | exact zwJ_dn (by omega) (by assumption) (by assumption) (by omega) | exact zwJ_n (by omega) (by assumption) (by assumption) (by assumption) (by assumption) | exact zwJ_nn (by omega) (by assumption) (by assumption) (by assumption) | exact zwJ_j (by omega) (by assumption) (by assumption) (by assumption) (by assumption) (by assumption) (by assumption) (by assumption) | exact zwJ_jn (by omega) (by assumption) (by assumption) (by assumption) (by assumption) (by assumption)) (by omega)
set_option maxRecDepth 100000 in
set_option maxHeartbeats 4000000 in
theorem k_Law_worth {l1 : Int} {l2 : Int} {g : zi_M} {Q : Int → zi_M → Prop} (I : zk_I g) (p1 : 0 ≤ l1 ∧ l1 ≤ 400) (p2 : 0 ≤ l2 ∧ l2 ≤ 400) (hQ : ∀ (v : Int) (g' : zi_M), zk_I g' → zk_fr fr_Law_worth g g' → ((-2147483648) ≤ v ∧ v ≤ 2147483647) → (v = zwo (g 21) (g 22) (g 28) l1 l2) → Q v g') : w_Law_worth l1 l2 g Q := by
  unfold w_Law_worth
  refine ⟨((400 - l1 : Int).toNat + 1), k_Law_worth_l5 (l2 := l2) (x1 := l1) ⟨by omega, by omega⟩ (fun k44 g45 I_36 F_37 b_38 b_39 => ?_) hQ ((400 - l1 : Int).toNat + 1) I (zk_f0 _) ⟨by omega, by omega⟩ ⟨by omega, by omega⟩ (by first | exact zwJ_0 | exact zwJ_p1 (by omega) (by assumption) (by assumption) (by assumption) (by omega) (by assumption) | exact zwJ_p2 (by omega) (by assumption) (by assumption) (by assumption) (by assumption) (by assumption) (by assumption) (by assumption) | exact zwJ_pn (by omega) (by assumption) (by assumption) (by assumption) | exact zwJ_d (by omega) (by assumption) (by assumption) (by assumption) (by assumption) (by assumption) | exact zwJ_dn (by omega) (by assumption) (by assumption) (by omega) | exact zwJ_n (by omega) (by assumption) (by assumption) (by assumption) (by assumption) | exact zwJ_nn (by omega) (by assumption) (by assumption) (by assumption) | exact zwJ_j (by omega) (by assumption) (by assumption) (by assumption) (by assumption) (by assumption) (by assumption) (by assumption) | exact zwJ_jn (by omega) (by assumption) (by assumption) (by assumption) (by assumption) (by assumption)) (by omega)⟩
  refine ⟨⟨by omega, by omega⟩, ?_⟩
  refine ⟨fun c47 => ?_, fun c47 => ?_⟩
  · exact hQ _ _ I_36 F_37 ⟨by omega, by omega⟩ (by first | exact zwJ_g1 (by assumption) (by omega) | exact zwJ_g2 (by assumption) (by omega))
  · have m_40 : (-2147483648) ≤ (g45 27 0) ∧ (g45 27 0) ≤ 2147483647 := I_36.1 27 0
    exact hQ _ _ I_36 F_37 ⟨by omega, by omega⟩ (by first | exact zwJ_g1 (by assumption) (by omega) | exact zwJ_g2 (by assumption) (by omega))
-- SpoutNews$Law.tells(ILSpoutNews$World;II)I
theorem k_Law_tells_l55 {r2 : Nat} {l1 : Int} {g0 : zi_M} {K113 : Int → zi_M → Prop} {K142 : zi_M → Prop} {Q : Int → zi_M → Prop} (R1 : zi_r l1) (hK113 : ∀ (k : Int) (g : zi_M), zk_I g → zk_fr fr_Law_worth g0 g → 0 ≤ k → k < 16 → zlr g0 l1 0 = k → K113 k g) (hK142 : ∀ g : zi_M, zk_I g → zk_fr fr_Law_worth g0 g → zlr g0 l1 0 = -1 → K142 g) :
    ∀ (n : Nat) (l7 : Int) (g : zi_M), zk_I g → zk_fr fr_Law_worth g0 g → (0 ≤ l7 ∧ l7 ≤ 16) → zlr g0 l1 l7 = zlr g0 l1 0 → 16 - l7 < (n : Int) → w_Law_tells_l55 r2 l1 K113 K142 Q n l7 g
  | 0, l7, g, I, F, b, e, hm => by exfalso; omega
  | n + 1, l7, g, I, F, b, e, hm => by
    unfold w_Law_tells_l55
    have b20 : 0 ≤ g 20 7 ∧ g 20 7 ≤ 16 := I.1 20 7
    have f : ∀ (a : Nat) (i : Int), ¬ a = 27 → g a i = g0 a i := fun a i h => F a i (fun w => h (by unfold fr_Law_worth at w; exact w))
    have e20 := f 20 7 (by decide)
    have e23 := f 23 l7 (by decide)
    have e25 := f 25 l7 (by decide)
    have e26 := f 26 l7 (by decide)
    have r21 : g 21 = g0 21 := funext fun i => f 21 i (by decide)
    have r22 : g 22 = g0 22 := funext fun i => f 22 i (by decide)
    have r28 : g 28 = g0 28 := funext fun i => f 28 i (by decide)
    refine ⟨⟨by omega, by omega⟩, ⟨by omega, by omega⟩, fun c => ?_, fun c => ⟨⟨by omega, by omega⟩, zk_rng I 23 l7, R1, fun ne => ?_, fun eq => ⟨zk_rng I 25 l7, zk_rng I 26 l7, fun le => ?_, fun lt => ?_⟩⟩⟩
    · exact hK142 g I F (by rw [← e]; exact zlr_e (by omega))
    · refine k_Law_tells_l55 R1 hK113 hK142 n (l7 + 1) g I F ⟨by omega, by omega⟩ ?_ (by omega)
      rw [← e, zlr_s (i := l7) (by omega), zite_n (fun z => ne (by rw [e23]; exact z.1))]
    · refine hK113 l7 g I F b.1 (by omega) ?_
      rw [← e, zlr_s (i := l7) (by omega), zite_p ⟨by rw [← e23]; exact eq, Or.inl (by omega)⟩]
    · have b25 : 0 ≤ g 25 l7 ∧ g 25 l7 ≤ 400 := I.1 25 l7
      have b26 : 0 ≤ g 26 l7 ∧ g 26 l7 ≤ 400 := I.1 26 l7
      refine k_Law_worth I b25 b26 (fun v g' I' F' hv hz => ⟨hv, fun z => ?_, fun nz => ?_⟩)
      · refine k_Law_tells_l55 R1 hK113 hK142 n (l7 + 1) g' I' (zk_ft F F' (fun _ _ h => h)) ⟨by omega, by omega⟩ ?_ (by omega)
        rw [← e, zlr_s (i := l7) (by omega), zite_n]
        rintro ⟨-, w | w⟩
        · omega
        · rw [hz, r21, r22, r28, e25, e26] at z
          exact w z
      · refine hK113 l7 g' I' (zk_ft F F' (fun _ _ h => h)) b.1 (by omega) ?_
        rw [hz, r21, r22, r28, e25, e26] at nz
        rw [← e, zlr_s (i := l7) (by omega), zite_p ⟨by rw [← e23]; exact eq, Or.inr nz⟩]
theorem zLc_v {g g1 : zi_M} {r : Nat} {kd p w T v : Int} {f : Int → Int} (F : ∀ (a : Nat) (i : Int), ¬ a = 28 → g1 a i = g a i) (hf : ∀ n : Int, 0 ≤ n → n < 9 → g1 28 n = zfct (g (r + 1)) (g (r + 2)) (g (r + 3)) f p w n)
    (hv : v = max 0 (min (zite (zlr g1 kd 0 = -1) (if kd = 0 then 2 else if kd = 1 then f 3 else zi_w (20 * f 3)) (zwo (g1 21) (g1 22) (g1 28) (g1 24 (zlr g1 kd 0)) (g1 25 (zlr g1 kd 0)))) (if kd = 2 then 1000 else 9))) : v = zLc g r kd p w f := by
  have h : ∀ a : Nat, ¬ a = 28 → g1 a = g a := fun a q => funext fun i => F a i q
  have ew : zwo (g1 21) (g1 22) (g1 28) = zwo (g 21) (g 22) (zfct (g (r + 1)) (g (r + 2)) (g (r + 3)) f p w) := funext fun a => funext fun b => by
    rw [h 21 (by decide), h 22 (by decide)]
    exact zwo_c hf
  unfold zlr at hv
  rw [ew, h 23 (by decide), h 24 (by decide), h 25 (by decide), h 26 (by decide), F 20 7 (by decide), Int.sub_zero] at hv
  exact hv
theorem k_Law_tells {r2 : Nat} (hr2 : zs_sh r2 = some (10, 20)) {l1 : Int} {l3 : Int} {l4 : Int} {g : zi_M} {Q : Int → zi_M → Prop} (I : zk_I g) (p1 : 0 ≤ l1 ∧ l1 ≤ 2) (p3 : 0 ≤ l3 ∧ l3 ≤ 9) (p4 : 0 ≤ l4 ∧ l4 ≤ 15) (hQ : ∀ (v : Int) (g' : zi_M), zk_I g' → zk_fr (fr_Law_tells r2) g g' → (0 ≤ v ∧ v ≤ 1000) → (∀ T : Int, v = zLc g r2 l1 l3 l4 (zVC T r2 g)) → Q v g') : w_Law_tells r2 l1 l3 l4 g Q := by
  have R1 : zi_r l1 := ⟨by omega, by omega⟩
  have hb := zs_wb hr2
  have b14 := zk_c10_14 hr2 I
  -- behind the facts
  have key : ∀ (df ms : Int) (C : zi_M → Prop), (∀ x, (zi_r df ∧ zi_r ms ∧ (zi_r (min df ms) ∧ Q (max 0 (min df ms)) x)) → C x) → (df = if l1 = 0 then 2 else if l1 = 1 then g r2 14 else 20 * g r2 14) → (ms = if l1 = 2 then 1000 else 9) → (0 ≤ df ∧ df ≤ 180) → (ms = 9 ∨ ms = 1000) → w_Law_gatherFacts r2 l3 l4 g (fun _ g4 => ∃ f, w_Law_tells_l55 r2 l1 (fun k x => w_Law_tells_b113 r2 ms k x Q) C Q f 0 g4) := by
    intro df ms C hC hdf hms bd bm
    refine k_Law_gatherFacts hr2 I p3 p4 (fun g1 I1 F1 hf => ⟨18, ?_⟩)
    have F2 : ∀ (a : Nat) (i : Int), ¬ a = 28 → g1 a i = g a i := fun a i h => F1 a i (fun w => h (by unfold fr_Law_gatherFacts at w; exact w))
    have fin : ∀ (x : zi_M) (v : Int), zk_I x → zk_fr fr_Law_worth g1 x → v = max 0 (min (zite (zlr g1 l1 0 = -1) df (zwo (g1 21) (g1 22) (g1 28) (g1 24 (zlr g1 l1 0)) (g1 25 (zlr g1 l1 0)))) ms) → Q v x := by
      intro x v Ix Fx hv
      refine hQ v x Ix (zk_ft (zk_ft (zk_f0 _) F1 (fun a i h => ?_)) Fx (fun a i h => ?_)) ⟨by rw [hv]; omega, by rw [hv]; omega⟩ (fun T => ?_)
      · unfold fr_Law_gatherFacts at h; unfold fr_Law_tells; omega
      · unfold fr_Law_worth at h; unfold fr_Law_tells; omega
      · refine zLc_v (T := T) F2 (hf T) ?_
        rw [(zVC_rd (T := T) (r := r2) (g := g)).2.2.2.1, show zi_w (20 * g r2 14) = 20 * g r2 14 from zi_w_id ⟨by omega, by omega⟩, ← hdf, ← hms]
        exact hv
    refine k_Law_tells_l55 R1 (fun k x Ix Fx k0 k1 hk => ?_) (fun x Ix Fx hk => ?_) 18 0 g1 I1 (zk_f0 _) ⟨by decide, by decide⟩ rfl (by decide)
    · unfold w_Law_tells_b113
      have b24 : 0 ≤ x 24 k ∧ x 24 k ≤ 400 := Ix.1 24 k
      have b25 : 0 ≤ x 25 k ∧ x 25 k ≤ 400 := Ix.1 25 k
      refine ⟨⟨k0, k1⟩, k_Law_worth Ix b24 b25 (fun v y Iy Fy hv hz => ⟨hv, ⟨by omega, by omega⟩, ⟨by omega, by omega⟩, fin y _ Iy (zk_ft Fx Fy (fun _ _ h => h)) ?_⟩)⟩
      have f : ∀ (a : Nat) (i : Int), ¬ a = 27 → x a i = g1 a i := fun a i h => Fx a i (fun w => h (by unfold fr_Law_worth at w; exact w))
      rw [zite_n (by omega), hk, hz, f 24 k (by decide), f 25 k (by decide), show x 21 = g1 21 from funext fun i => f 21 i (by decide), show x 22 = g1 22 from funext fun i => f 22 i (by decide), show x 28 = g1 28 from funext fun i => f 28 i (by decide)]
    · exact hC x ⟨⟨by omega, by omega⟩, ⟨by omega, by omega⟩, ⟨by omega, by omega⟩, fin x _ Ix Fx (by rw [zite_p hk])⟩
  have b13 : ∀ ms : Int, (ms = if l1 = 2 then 1000 else 9) → (ms = 9 ∨ ms = 1000) → w_Law_tells_b13 r2 l1 l3 l4 ms g Q := by
    intro ms hms bm
    unfold w_Law_tells_b13
    refine ⟨R1, fun n0 => ⟨fun n1 => ?_, fun e1 => ?_⟩, fun e0 => ?_⟩
    · exact key (20 * g r2 14) ms _ (fun _ h => h) (by rw [if_neg n0, if_neg n1]) hms (by omega) bm
    · exact key (g r2 14) ms _ (fun _ h => h) (by rw [if_neg n0, if_pos e1]) hms (by omega) bm
    · exact key 2 ms _ (fun _ h => h.2) (by rw [if_pos e0]) hms (by omega) bm
  unfold w_Law_tells
  exact ⟨R1, fun n2 => b13 9 (by rw [if_neg n2]) (Or.inl rfl), fun e2 => b13 1000 (by rw [if_pos e2]) (Or.inr rfl)⟩

-- SpoutNews$World.wordAt(II)I
set_option maxRecDepth 100000 in
set_option maxHeartbeats 4000000 in
theorem k_World_wordAt {r0 : Nat} (hr0 : zs_sh r0 = some (10, 20)) {l1 : Int} {l2 : Int} {g : zi_M} {Q : Int → zi_M → Prop} (I : zk_I g) (p1 : 0 ≤ l1 ∧ l1 ≤ 9) (p2 : 0 ≤ l2 ∧ l2 ≤ 19) (hQ : ∀ v : Int, (l1 < 0 → v = 0) → (0 ≤ l1 → (g r0 8) ≤ l1 → v = 0) → (0 ≤ l1 → l1 < (g r0 8) → l2 < 0 → v = 0) → (0 ≤ l1 → l1 < (g r0 8) → 0 ≤ l2 → 20 ≤ l2 → v = 0) → (0 ≤ l1 → l1 < (g r0 8) → 0 ≤ l2 → l2 < 20 → v = g (r0 + 7) ((l1 * 20) + l2)) → Q v g) : w_World_wordAt r0 l1 l2 g Q := by
  unfold w_World_wordAt
  have m_4 := zk_c10_8 hr0 I
  refine k_World_isSpout hr0 I ⟨by omega, by omega⟩ (fun v1 b_1 b_2 b_3 => ?_)
  try simp only [Nat.reduceAdd] at b_1 b_2 b_3
  refine ⟨fun c8 => ?_, fun c8 => ?_⟩
  · have m_5 := zk_a10_7 hr0 I ((l1 * 20) + l2)
    exact hQ _ (by intros; omega) (by intros; omega) (by intros; omega) (by intros; omega) (by intros; omega)
  · refine ⟨⟨by omega, by omega⟩, ?_⟩
    refine ⟨fun c7 => ?_, fun c7 => ?_⟩
    · have m_6 := zk_a10_7 hr0 I ((l1 * 20) + l2)
      exact hQ _ (by intros; omega) (by intros; omega) (by intros; omega) (by intros; omega) (by intros; omega)
    · refine ⟨fun c6 => ?_, fun c6 => ?_⟩
      · have m_7 := zk_a10_7 hr0 I ((l1 * 20) + l2)
        exact hQ _ (by intros; omega) (by intros; omega) (by intros; omega) (by intros; omega) (by intros; omega)
      · refine ⟨⟨by omega, by omega⟩, ?_⟩
        have m_8 := zk_a10_7 hr0 I ((l1 * 20) + l2)
        exact hQ _ (by intros; omega) (by intros; omega) (by intros; omega) (by intros; omega) (by intros; omega)
-- SpoutNews$World.slips(I)Z
set_option maxRecDepth 100000 in
set_option maxHeartbeats 4000000 in
theorem k_World_slips {r0 : Nat} (hr0 : zs_sh r0 = some (10, 20)) {l1 : Int} {g : zi_M} {Q : Int → zi_M → Prop} (I : zk_I g) (p1 : 0 ≤ l1 ∧ l1 ≤ 1000) (hQ : ∀ (v : Int) (g' : zi_M), zk_I g' → zk_fr (fr_World_slips r0) g g' → (0 ≤ v ∧ v ≤ 1) → (zYl r0 l1 g g' v) → Q v g') : w_World_slips r0 l1 g Q := by
  unfold w_World_slips
  have m_1 := zk_c10_0 hr0 I
  refine ⟨⟨by omega, by omega⟩, ?_⟩
  refine ⟨fun c8 => ?_, fun c8 => ?_⟩
  · have m_5 := zk_c10_18 hr0 I
    have m_6 := zi_r_w ((1664525 * (g r0 18)) + 1013904223)
    intro g2 e_2
    have I_3 : zk_I g2 := by rw [e_2]; exact zk_upd (zk_lc10_18 hr0).1 (zk_lc10_18 hr0).2 I ⟨by omega, by omega⟩ (zj_w10 hr0)
    have F_4 : zk_fr (fr_World_slips r0) g g2 := by rw [e_2]; exact zk_fu (zk_f0 _) ⟨rfl, rfl⟩
    have m_7 := zk_c10_18 hr0 I_3
    have m_8 : g2 r0 18 = zi_w ((1664525 * (g r0 18)) + 1013904223) := by rw [e_2]; exact zi_u_eq
    have m_9 := zi_ush_f (g2 r0 18) 8
    have m_10 := zi_tmod_f (zi_ush (g2 r0 18) 8) 1000
    have m_11 := zi_tmod_c (zi_ush (g2 r0 18) 8) 1000 (by decide)
    refine ⟨⟨by omega, by omega⟩, ⟨by omega, by omega⟩, ?_⟩
    refine ⟨fun c5 => ?_, fun c5 => ?_⟩
    · exact hQ _ _ I_3 F_4 ⟨by omega, by omega⟩ (by first | exact zYl_a hr0 (by assumption) (by assumption) (by assumption) | exact zYl_b hr0 (by assumption) (by assumption) (by assumption) | exact zYl_c (by assumption) (by assumption) | exact zYl_d (by assumption) (by assumption))
    · exact hQ _ _ I_3 F_4 ⟨by omega, by omega⟩ (by first | exact zYl_a hr0 (by assumption) (by assumption) (by assumption) | exact zYl_b hr0 (by assumption) (by assumption) (by assumption) | exact zYl_c (by assumption) (by assumption) | exact zYl_d (by assumption) (by assumption))
  · refine ⟨⟨by omega, by omega⟩, ?_⟩
    refine ⟨fun c7 => ?_, fun c7 => ?_⟩
    · exact hQ _ _ I (zk_f0 _) ⟨by omega, by omega⟩ (by first | exact zYl_a hr0 (by assumption) (by assumption) (by assumption) | exact zYl_b hr0 (by assumption) (by assumption) (by assumption) | exact zYl_c (by assumption) (by assumption) | exact zYl_d (by assumption) (by assumption))
    · exact hQ _ _ I (zk_f0 _) ⟨by omega, by omega⟩ (by first | exact zYl_a hr0 (by assumption) (by assumption) (by assumption) | exact zYl_b hr0 (by assumption) (by assumption) (by assumption) | exact zYl_c (by assumption) (by assumption) | exact zYl_d (by assumption) (by assumption))
-- SpoutNews$World.fillJarsAt(II)V
set_option maxRecDepth 100000 in
set_option maxHeartbeats 4000000 in
theorem k_World_fillJarsAt_l2 {r0 : Nat} (hr0 : zs_sh r0 = some (10, 20)) {l1 : Int} {l2 : Int} {K36 : zi_M → Prop} {Q : Int → zi_M → Prop} {g0 : zi_M} (q1 : 0 ≤ l1 ∧ l1 ≤ 9) (q2 : 0 ≤ l2 ∧ l2 ≤ 15) (hK36 : ∀ (g : zi_M), zk_I g → zk_fr (fr_World_fillJarsAt r0) g0 g → (zJF r0 l1 l2 g0 g) → K36 g) (hQ : ∀ g' : zi_M, zk_I g' → zk_fr (fr_World_fillJarsAt r0) g0 g' → (zJF r0 l1 l2 g0 g') → Q 0 g') : ∀ (n : Nat) {l3 : Int} {g : zi_M}, zk_I g → zk_fr (fr_World_fillJarsAt r0) g0 g → (0 ≤ l3 ∧ l3 ≤ 6) → (zJI r0 l1 l2 g0 g l3) → 6 - l3 < (n : Int) → w_World_fillJarsAt_l2 r0 l1 l2 K36 Q n l3 g
  | 0, l3, g, I, F, b0, b1, hm => by exfalso; omega
  | n + 1, l3, g, I, F, b0, b1, hm => by
    unfold w_World_fillJarsAt_l2
    refine ⟨⟨by omega, by omega⟩, ?_⟩
    refine ⟨fun c7 => ?_, fun c7 => ?_⟩
    · exact hK36 _ I F (by exact zJI_x (by assumption) (by omega))
    · refine ⟨⟨by omega, by omega⟩, ?_⟩
      have m_1 := zk_a10_10 hr0 I l3
      refine ⟨⟨by omega, by omega⟩, ⟨by omega, by omega⟩, ?_⟩
      refine ⟨fun c6 => ?_, fun c6 => ?_⟩
      · exact k_World_fillJarsAt_l2 hr0 q1 q2 hK36 hQ n I F ⟨by omega, by omega⟩ (by first | exact zJI_n (by assumption) (by omega) (by assumption) (by assumption) | exact zJI_y hr0 (by assumption) (by omega) (by assumption) (by assumption) (by assumption) | exact zJI_0) (by omega)
      · have m_5 := zk_a10_11 hr0 I l3
        have m_6 := zi_r_shl 1 l2
        try have m_7 := (zi_shl_f l2).2.1 ⟨by omega, by omega⟩
        first | have m_8 := (zi_shl_f l2).2.2.1 ⟨by omega, by omega⟩ | have m_9 := (zi_shl_f l2).2.2.2.1 ⟨by omega, by omega⟩ | have m_10 := (zi_shl_f l2).2.2.2.2.1 ⟨by omega, by omega⟩ | have m_11 := (zi_shl_f l2).2.2.2.2.2.1 ⟨by omega, by omega⟩ | have m_12 := (zi_shl_f l2).2.2.2.2.2.2 ⟨by omega, by omega⟩ | skip
        first | have m_13 := (zi_or_f (g (r0 + 11) l3) (zi_shl 1 l2)).2.1 ⟨by omega, by omega, by omega, by omega⟩ | have m_13 := (zi_or_f (g (r0 + 11) l3) (zi_shl 1 l2)).2.2.1 ⟨by omega, by omega, by omega, by omega⟩ | have m_13 := (zi_or_f (g (r0 + 11) l3) (zi_shl 1 l2)).2.2.2.1 ⟨by omega, by omega, by omega, by omega⟩ | have m_13 := (zi_or_f (g (r0 + 11) l3) (zi_shl 1 l2)).2.2.2.2.1 ⟨by omega, by omega, by omega, by omega⟩ | have m_13 := (zi_or_f (g (r0 + 11) l3) (zi_shl 1 l2)).2.2.2.2.2 ⟨by omega, by omega, by omega, by omega⟩ | have m_13 := zi_r_or (g (r0 + 11) l3) (zi_shl 1 l2)
        intro g5 e_2
        have I_3 : zk_I g5 := by rw [e_2]; exact zk_upd (zk_la10_11 hr0).1 (zk_la10_11 hr0).2 I ⟨by omega, by omega⟩ (zj_a10_11 hr0)
        have F_4 : zk_fr (fr_World_fillJarsAt r0) g0 g5 := by rw [e_2]; exact zk_fu F rfl
        exact k_World_fillJarsAt_l2 hr0 q1 q2 hK36 hQ n I_3 F_4 ⟨by omega, by omega⟩ (by first | exact zJI_n (by assumption) (by omega) (by assumption) (by assumption) | exact zJI_y hr0 (by assumption) (by omega) (by assumption) (by assumption) (by assumption) | exact zJI_0) (by omega)
set_option maxRecDepth 100000 in
set_option maxHeartbeats 4000000 in
theorem k_World_fillJarsAt {r0 : Nat} (hr0 : zs_sh r0 = some (10, 20)) {l1 : Int} {l2 : Int} {g : zi_M} {Q : Int → zi_M → Prop} (I : zk_I g) (p1 : 0 ≤ l1 ∧ l1 ≤ 9) (p2 : 0 ≤ l2 ∧ l2 ≤ 15) (hQ : ∀ g' : zi_M, zk_I g' → zk_fr (fr_World_fillJarsAt r0) g g' → (zJF r0 l1 l2 g g') → Q 0 g') : w_World_fillJarsAt r0 l1 l2 g Q := by
  unfold w_World_fillJarsAt
  refine ⟨((6 - 0 : Int).toNat + 1), k_World_fillJarsAt_l2 (l1 := l1) (l2 := l2) hr0 ⟨by omega, by omega⟩ ⟨by omega, by omega⟩ (fun g8 I_14 F_15 b_16 => ?_) hQ ((6 - 0 : Int).toNat + 1) I (zk_f0 _) ⟨by omega, by omega⟩ (by first | exact zJI_n (by assumption) (by omega) (by assumption) (by assumption) | exact zJI_y hr0 (by assumption) (by omega) (by assumption) (by assumption) (by assumption) | exact zJI_0) (by omega)⟩
  exact hQ _ I_14 F_15 (by assumption)
-- SpoutNews$Book.write(LSpoutNews$World;III)V
set_option maxRecDepth 100000 in
set_option maxHeartbeats 4000000 in
theorem k_Book_write {r1 : Nat} (hr1 : zs_sh r1 = some (10, 20)) {l2 : Int} {l3 : Int} {l4 : Int} {g : zi_M} {Q : Int → zi_M → Prop} (I : zk_I g) (p2 : 0 ≤ l2 ∧ l2 ≤ 2) (p3 : 0 ≤ l3 ∧ l3 ≤ 9) (p4 : 0 ≤ l4 ∧ l4 ≤ 15) (hQ : ∀ g' : zi_M, zk_I g' → zk_fr (fr_Book_write r1) g g' → (zBw r1 l2 l3 l4 g g') → Q 0 g') : w_Book_write r1 l2 l3 l4 g Q := by
  unfold w_Book_write
  have m_1 := zk_c10_0 hr1 I
  refine ⟨⟨by omega, by omega⟩, ?_⟩
  refine ⟨fun c10 => ?_, fun c10 => ?_⟩
  · exact hQ _ I (zk_f0 _) (by first | exact zBw_a (by assumption) | exact zBw_b (by assumption) | exact zBw_c hr1 (by assumption) (by assumption) (by omega) (by assumption) (by assumption) (by assumption) (by assumption) (by assumption))
  · have m_2 := zk_c10_19 hr1 I
    refine ⟨⟨by omega, by omega⟩, ?_⟩
    refine ⟨fun c9 => ?_, fun c9 => ?_⟩
    · refine ⟨⟨by omega, by omega⟩, ?_⟩
      have m_6 := zk_c10_17 hr1 I
      intro g4 e_3
      have I_4 : zk_I g4 := by rw [e_3]; exact zk_upd (L := (-2147483648)) (H := 2147483647) rfl rfl I ⟨by omega, by omega⟩
      have F_5 : zk_fr (fr_Book_write r1) g g4 := by rw [e_3]; exact zk_fu (zk_f0 _) (Or.inl rfl)
      intro g5 e_7
      have I_8 : zk_I g5 := by rw [e_7]; exact zk_upd (L := (-2147483648)) (H := 2147483647) rfl rfl I_4 ⟨by omega, by omega⟩
      have F_9 : zk_fr (fr_Book_write r1) g g5 := by rw [e_7]; exact zk_fu F_5 (Or.inr (Or.inl rfl))
      intro g6 e_10
      have I_11 : zk_I g6 := by rw [e_10]; exact zk_upd (L := (-2147483648)) (H := 2147483647) rfl rfl I_8 ⟨by omega, by omega⟩
      have F_12 : zk_fr (fr_Book_write r1) g g6 := by rw [e_10]; exact zk_fu F_9 (Or.inr (Or.inr (Or.inl rfl)))
      intro g7 e_13
      have I_14 : zk_I g7 := by rw [e_13]; exact zk_upd (L := (-2147483648)) (H := 2147483647) rfl rfl I_11 ⟨by omega, by omega⟩
      have F_15 : zk_fr (fr_Book_write r1) g g7 := by rw [e_13]; exact zk_fu F_12 (Or.inr (Or.inr (Or.inr (Or.inl rfl))))
      intro g8 e_16
      have I_17 : zk_I g8 := by rw [e_16]; exact zk_upd (zk_lc10_19 hr1).1 (zk_lc10_19 hr1).2 I_14 ⟨by omega, by omega⟩ (zj_w10 hr1)
      have F_18 : zk_fr (fr_Book_write r1) g g8 := by rw [e_16]; exact zk_fu F_15 (Or.inr (Or.inr (Or.inr (Or.inr ⟨rfl, rfl⟩))))
      exact hQ _ I_17 F_18 (by first | exact zBw_a (by assumption) | exact zBw_b (by assumption) | exact zBw_c hr1 (by assumption) (by assumption) (by omega) (by assumption) (by assumption) (by assumption) (by assumption) (by assumption))
    · exact hQ _ I (zk_f0 _) (by first | exact zBw_a (by assumption) | exact zBw_b (by assumption) | exact zBw_c hr1 (by assumption) (by assumption) (by omega) (by assumption) (by assumption) (by assumption) (by assumption) (by assumption))
-- SpoutNews$Texts.gutterOf(I)I
set_option maxRecDepth 100000 in
set_option maxHeartbeats 4000000 in
theorem k_Texts_gutterOf {l1 : Int} {g : zi_M} {Q : Int → zi_M → Prop} (I : zk_I g) (p1 : (-2147483648) ≤ l1 ∧ l1 ≤ 2147483647) (hQ : ∀ v : Int, (l1 < 0 → v = (-1)) → (0 ≤ l1 → 10 ≤ l1 → v = (-1)) → (0 ≤ l1 → l1 < 10 → v = g 29 l1) → Q v g) : w_Texts_gutterOf l1 g Q := by
  unfold w_Texts_gutterOf
  refine ⟨⟨by omega, by omega⟩, ?_⟩
  refine ⟨fun c4 => ?_, fun c4 => ?_⟩
  · have m_1 : (-1) ≤ (g 29 l1) ∧ (g 29 l1) ≤ 9 := I.1 29 l1
    exact hQ _ (by intros; omega) (by intros; omega) (by intros; omega)
  · refine ⟨fun c3 => ?_, fun c3 => ?_⟩
    · have m_2 : (-1) ≤ (g 29 l1) ∧ (g 29 l1) ≤ 9 := I.1 29 l1
      exact hQ _ (by intros; omega) (by intros; omega) (by intros; omega)
    · refine ⟨⟨by omega, by omega⟩, ?_⟩
      have m_3 : (-1) ≤ (g 29 l1) ∧ (g 29 l1) ≤ 9 := I.1 29 l1
      exact hQ _ (by intros; omega) (by intros; omega) (by intros; omega)
-- SpoutNews$World.dropFirst(I)V
set_option maxRecDepth 100000 in
set_option maxHeartbeats 4000000 in
theorem k_World_dropFirst {r0 : Nat} (hr0 : zs_sh r0 = some (10, 20)) {l1 : Int} {g : zi_M} {Q : Int → zi_M → Prop} (I : zk_I g) (p1 : 0 ≤ l1 ∧ l1 ≤ 9) (hQ : ∀ g' : zi_M, zk_I g' → zk_fr (fr_World_dropFirst r0) g g' → (zDp r0 l1 g g') → Q 0 g') : w_World_dropFirst r0 l1 g Q := by
  unfold w_World_dropFirst
  refine ⟨⟨by omega, by omega⟩, ?_⟩
  have m_1 := zk_a10_6 hr0 I l1
  refine ⟨⟨by omega, by omega⟩, ?_⟩
  refine ⟨fun c6 => ?_, fun c6 => ?_⟩
  · refine ⟨⟨⟨by omega, by omega, by omega⟩, by omega, by omega⟩, ?_⟩
    intro g4 e_2
    have I_3 : zk_I g4 := by rw [e_2]; exact zk_cp (L := 0) (H := 15) (fun i => zk_la10_7 hr0 (i := i)) (fun i => zk_la10_7 hr0 (i := i)) I (zj_a10_7 hr0)
    have F_4 : zk_fr (fr_World_dropFirst r0) g g4 := by rw [e_2]; exact zk_fc (zk_f0 _) (fun i => (Or.inr rfl))
    intro g5 e_5
    have I_6 : zk_I g5 := by rw [e_5]; exact zk_upd (zk_la10_6 hr0).1 (zk_la10_6 hr0).2 I_3 ⟨by omega, by omega⟩ (zj_a10_6 hr0)
    have F_7 : zk_fr (fr_World_dropFirst r0) g g5 := by rw [e_5]; exact zk_fu F_4 (Or.inl rfl)
    exact hQ _ I_6 F_7 (by first | exact zDp_of hr0 (by assumption) (by assumption) (by assumption) (by assumption) (by assumption) | exact zDp_n (by assumption))
  · exact hQ _ I (zk_f0 _) (by first | exact zDp_of hr0 (by assumption) (by assumption) (by assumption) (by assumption) (by assumption) | exact zDp_n (by assumption))
-- SpoutNews$DayRun.sayFirst(LSpoutNews$World;LSpoutNews$Texts;LSpoutNews$Book;I)V
set_option maxRecDepth 100000 in
set_option maxHeartbeats 4000000 in
theorem k_DayRun_sayFirst_b48 {r1 : Nat} (hr1 : zs_sh r1 = some (10, 20)) {l4 : Int} {l5 : Int} {Q : Int → zi_M → Prop} {g : zi_M} {g0 : zi_M} (I : zk_I g) (F : zk_fr (fr_DayRun_sayFirst r1) g0 g) (p4 : 0 ≤ l4 ∧ l4 ≤ 9) (p5 : 0 ≤ l5 ∧ l5 ≤ 15) (ix0 : zYj r1 l4 l5 g0 g) (hQ : ∀ g' : zi_M, zk_I g' → zk_fr (fr_DayRun_sayFirst r1) g0 g' → (zSF r1 l4 g0 g') → Q 0 g') : w_DayRun_sayFirst_b48 r1 l4 l5 g Q := by
  unfold w_DayRun_sayFirst_b48
  have m_21 := zk_c10_15 hr1 I
  have m_22 := zi_r_w ((g r1 15) + 1)
  intro g10 e_18
  have I_19 : zk_I g10 := by rw [e_18]; exact zk_upd (zk_lc10_15 hr1).1 (zk_lc10_15 hr1).2 I ⟨by omega, by omega⟩ (zj_w10 hr1)
  have F_20 : zk_fr (fr_DayRun_sayFirst r1) g0 g10 := by rw [e_18]; exact zk_fu F (Or.inr (Or.inr (Or.inr (Or.inr (Or.inr (Or.inr (Or.inr (Or.inr (Or.inr (Or.inr (Or.inr (Or.inl ⟨rfl, rfl⟩))))))))))))
  refine k_World_fillJarsAt hr1 I_19 ⟨by omega, by omega⟩ ⟨by omega, by omega⟩ (fun g12 I_24 F_25 b_23 => ?_)
  have F_26 : zk_fr (fr_DayRun_sayFirst r1) g0 g12 := zk_ft F_20 F_25 (fun a i => (fun h => (Or.inl h)))
  refine k_Book_write hr1 I_24 ⟨by omega, by omega⟩ ⟨by omega, by omega⟩ ⟨by omega, by omega⟩ (fun g15 I_28 F_29 b_27 => ?_)
  have F_30 : zk_fr (fr_DayRun_sayFirst r1) g0 g15 := zk_ft F_26 F_29 (fun a i => (fun h => Or.elim h (fun h => (Or.inr (Or.inr (Or.inr (Or.inl h))))) (fun h => Or.elim h (fun h => (Or.inr (Or.inr (Or.inr (Or.inr (Or.inl h)))))) (fun h => Or.elim h (fun h => (Or.inr (Or.inr (Or.inr (Or.inr (Or.inr (Or.inl h))))))) (fun h => Or.elim h (fun h => (Or.inr (Or.inr (Or.inr (Or.inr (Or.inr (Or.inr (Or.inr (Or.inr (Or.inl h)))))))))) (fun h => (Or.inr (Or.inr (Or.inr (Or.inr (Or.inr (Or.inr (Or.inr (Or.inr (Or.inr (Or.inr (Or.inr (Or.inr (Or.inr (Or.inr (Or.inl h)))))))))))))))))))))
  have m_34 : (-1) ≤ (g15 29 (l4)) ∧ (g15 29 (l4)) ≤ 9 := I_28.1 29 (l4)
  refine k_Texts_gutterOf I_28 ⟨by omega, by omega⟩ (fun v17 b_31 b_32 b_33 => ?_)
  refine ⟨⟨by omega, by omega⟩, ?_⟩
  refine ⟨fun c37 => ?_, fun c37 => ?_⟩
  · refine k_World_dropFirst hr1 I_28 ⟨by omega, by omega⟩ (fun g22 I_36 F_37 b_35 => ?_)
    have F_38 : zk_fr (fr_DayRun_sayFirst r1) g0 g22 := zk_ft F_30 F_37 (fun a i => (fun h => Or.elim h (fun h => (Or.inr (Or.inl h))) (fun h => (Or.inr (Or.inr (Or.inl h))))))
    exact hQ _ I_36 F_38 (by first | exact zSb_1 hr1 ix0 (by assumption) (by assumption) (by assumption) (by assumption) (by assumption) (by assumption) (by assumption) (by assumption) (Or.inl (by assumption)) (by assumption) | exact zSb_1 hr1 ix0 (by assumption) (by assumption) (by assumption) (by assumption) (by assumption) (by assumption) (by assumption) (by assumption) (Or.inr (by assumption)) (by assumption) | exact zSb_3 hr1 ix0 (by assumption) (by assumption) (by assumption) (by assumption) (by assumption) (by assumption) (by assumption) (by assumption) (by assumption) (by assumption) (by omega) (by assumption) (by assumption) (by assumption) (by assumption))
  · have m_39 : 0 ≤ (g15 177 2) ∧ (g15 177 2) ≤ 90 := I_28.1 177 2
    refine ⟨⟨by omega, by omega⟩, ?_⟩
    refine ⟨fun c36 => ?_, fun c36 => ?_⟩
    · refine k_World_dropFirst hr1 I_28 ⟨by omega, by omega⟩ (fun g26 I_41 F_42 b_40 => ?_)
      have F_43 : zk_fr (fr_DayRun_sayFirst r1) g0 g26 := zk_ft F_30 F_42 (fun a i => (fun h => Or.elim h (fun h => (Or.inr (Or.inl h))) (fun h => (Or.inr (Or.inr (Or.inl h))))))
      exact hQ _ I_41 F_43 (by first | exact zSb_1 hr1 ix0 (by assumption) (by assumption) (by assumption) (by assumption) (by assumption) (by assumption) (by assumption) (by assumption) (Or.inl (by assumption)) (by assumption) | exact zSb_1 hr1 ix0 (by assumption) (by assumption) (by assumption) (by assumption) (by assumption) (by assumption) (by assumption) (by assumption) (Or.inr (by assumption)) (by assumption) | exact zSb_3 hr1 ix0 (by assumption) (by assumption) (by assumption) (by assumption) (by assumption) (by assumption) (by assumption) (by assumption) (by assumption) (by assumption) (by omega) (by assumption) (by assumption) (by assumption) (by assumption))
    · refine ⟨⟨by omega, by omega⟩, ?_⟩
      intro g29 e_44
      have I_45 : zk_I g29 := by rw [e_44]; exact zk_upd (L := 0) (H := 15) rfl rfl I_28 ⟨by omega, by omega⟩
      have F_46 : zk_fr (fr_DayRun_sayFirst r1) g0 g29 := by rw [e_44]; exact zk_fu F_30 (Or.inr (Or.inr (Or.inr (Or.inr (Or.inr (Or.inr (Or.inl rfl)))))))
      have m_50 : 0 ≤ (g29 177 2) ∧ (g29 177 2) ≤ 90 := I_45.1 177 2
      have m_51 : g29 177 2 = g15 177 2 := by rw [e_44]; exact zi_u_ne (by decide)
      refine ⟨⟨by omega, by omega⟩, ?_⟩
      intro g31 e_47
      have I_48 : zk_I g31 := by rw [e_47]; exact zk_upd (L := 0) (H := 9) rfl rfl I_45 ⟨by omega, by omega⟩
      have F_49 : zk_fr (fr_DayRun_sayFirst r1) g0 g31 := by rw [e_47]; exact zk_fu F_46 (Or.inr (Or.inr (Or.inr (Or.inr (Or.inr (Or.inr (Or.inr (Or.inl rfl))))))))
      have m_55 : 0 ≤ (g31 177 2) ∧ (g31 177 2) ≤ 90 := I_48.1 177 2
      have m_56 : g31 177 2 = g29 177 2 := by rw [e_47]; exact zi_u_ne (by decide)
      intro g32 e_52
      have I_53 : zk_I g32 := by rw [e_52]; exact zk_upd (L := 0) (H := 90) rfl rfl I_48 ⟨by omega, by omega⟩
      have F_54 : zk_fr (fr_DayRun_sayFirst r1) g0 g32 := by rw [e_52]; exact zk_fu F_49 (Or.inr (Or.inr (Or.inr (Or.inr (Or.inr (Or.inr (Or.inr (Or.inr (Or.inr (Or.inr (Or.inr (Or.inr (Or.inr (Or.inr (Or.inr ⟨rfl, rfl⟩)))))))))))))))
      refine k_World_dropFirst hr1 I_53 ⟨by omega, by omega⟩ (fun g34 I_58 F_59 b_57 => ?_)
      have F_60 : zk_fr (fr_DayRun_sayFirst r1) g0 g34 := zk_ft F_54 F_59 (fun a i => (fun h => Or.elim h (fun h => (Or.inr (Or.inl h))) (fun h => (Or.inr (Or.inr (Or.inl h))))))
      exact hQ _ I_58 F_60 (by first | exact zSb_1 hr1 ix0 (by assumption) (by assumption) (by assumption) (by assumption) (by assumption) (by assumption) (by assumption) (by assumption) (Or.inl (by assumption)) (by assumption) | exact zSb_1 hr1 ix0 (by assumption) (by assumption) (by assumption) (by assumption) (by assumption) (by assumption) (by assumption) (by assumption) (Or.inr (by assumption)) (by assumption) | exact zSb_3 hr1 ix0 (by assumption) (by assumption) (by assumption) (by assumption) (by assumption) (by assumption) (by assumption) (by assumption) (by assumption) (by assumption) (by omega) (by assumption) (by assumption) (by assumption) (by assumption))
set_option maxRecDepth 100000 in
set_option maxHeartbeats 4000000 in
theorem k_DayRun_sayFirst {r1 : Nat} (hr1 : zs_sh r1 = some (10, 20)) {l4 : Int} {g : zi_M} {Q : Int → zi_M → Prop} (I : zk_I g) (p4 : 0 ≤ l4 ∧ l4 ≤ 9) (hQ : ∀ g' : zi_M, zk_I g' → zk_fr (fr_DayRun_sayFirst r1) g g' → (zSF r1 l4 g g') → Q 0 g') : w_DayRun_sayFirst r1 l4 g Q := by
  unfold w_DayRun_sayFirst
  have m_6 := zk_c10_8 hr1 I
  have m_7 := zk_a10_7 hr1 I ((l4 * 20) + 0)
  refine k_World_wordAt hr1 I ⟨by omega, by omega⟩ ⟨by omega, by omega⟩ (fun v1 b_1 b_2 b_3 b_4 b_5 => ?_)
  try simp only [Nat.reduceAdd] at b_1 b_2 b_3 b_4 b_5
  refine k_Law_tells hr1 I ⟨by omega, by omega⟩ ⟨by omega, by omega⟩ ⟨by omega, by omega⟩ (fun v4 g5 I_10 F_11 b_8 b_9 => ?_)
  have F_12 : zk_fr (fr_DayRun_sayFirst r1) g g5 := zk_ft (zk_f0 _) F_11 (fun a i => (fun h => Or.elim h (fun h => (Or.inr (Or.inr (Or.inr (Or.inr (Or.inr (Or.inr (Or.inr (Or.inr (Or.inr (Or.inl h))))))))))) (fun h => (Or.inr (Or.inr (Or.inr (Or.inr (Or.inr (Or.inr (Or.inr (Or.inr (Or.inr (Or.inr (Or.inl h))))))))))))))
  refine k_World_slips hr1 I_10 ⟨by omega, by omega⟩ (fun v7 g8 I_15 F_16 b_13 b_14 => ?_)
  have F_17 : zk_fr (fr_DayRun_sayFirst r1) g g8 := zk_ft F_12 F_16 (fun a i => (fun h => (Or.inr (Or.inr (Or.inr (Or.inr (Or.inr (Or.inr (Or.inr (Or.inr (Or.inr (Or.inr (Or.inr (Or.inr (Or.inr (Or.inl h))))))))))))))))
  refine ⟨fun c40 => ?_, fun c40 => ?_⟩
  · exact k_DayRun_sayFirst_b48 hr1 I_15 F_17 ⟨by omega, by omega⟩ ⟨by omega, by omega⟩ (by first | exact zYj_a hr1 (by assumption) (by assumption) (by assumption) (by assumption) (by assumption) (by assumption) (by assumption) | exact zYj_b hr1 (by assumption) (by assumption) (by assumption) (by assumption) (by assumption) (by assumption) (by assumption) (by assumption)) hQ
  · refine ⟨⟨by omega, by omega⟩, ?_⟩
    have m_64 := zk_c10_16 hr1 I_15
    have m_65 := zi_r_w ((g8 r1 16) + 1)
    intro g39 e_61
    have I_62 : zk_I g39 := by rw [e_61]; exact zk_upd (zk_lc10_16 hr1).1 (zk_lc10_16 hr1).2 I_15 ⟨by omega, by omega⟩ (zj_w10 hr1)
    have F_63 : zk_fr (fr_DayRun_sayFirst r1) g g39 := by rw [e_61]; exact zk_fu F_17 (Or.inr (Or.inr (Or.inr (Or.inr (Or.inr (Or.inr (Or.inr (Or.inr (Or.inr (Or.inr (Or.inr (Or.inr (Or.inl ⟨rfl, rfl⟩)))))))))))))
    have m_66 := zi_tmod_f (v1 + 1) 16
    have m_67 := zi_tmod_c (v1 + 1) 16 (by decide)
    exact k_DayRun_sayFirst_b48 hr1 I_62 F_63 ⟨by omega, by omega⟩ ⟨by omega, by omega⟩ (by first | exact zYj_a hr1 (by assumption) (by assumption) (by assumption) (by assumption) (by assumption) (by assumption) (by assumption) | exact zYj_b hr1 (by assumption) (by assumption) (by assumption) (by assumption) (by assumption) (by assumption) (by assumption) (by assumption)) hQ
-- SpoutNews$World.heardSet(I)I
set_option maxRecDepth 100000 in
set_option maxHeartbeats 4000000 in
theorem k_World_heardSet_l4 {g : zi_M} {r0 : Nat} (hr0 : zs_sh r0 = some (10, 20)) (I : zk_I g) {l1 : Int} {K31 : Int → zi_M → Prop} {Q : Int → zi_M → Prop} (q1 : 0 ≤ l1 ∧ l1 ≤ 9) (hK31 : ∀ (k2 : Int), (0 ≤ k2 ∧ k2 ≤ 65535) → (zHF r0 g l1 k2) → K31 k2 g) (hQ : ∀ v : Int, (0 ≤ v ∧ v ≤ 65535) → (zHF r0 g l1 v) → Q v g) : ∀ (n : Nat) {l2 : Int} {l3 : Int}, (0 ≤ l2 ∧ l2 ≤ 65535) → (0 ≤ l3 ∧ l3 ≤ 20) → (l3 ≤ g (r0 + 6) l1) → (zHS r0 g l1 l3 l2) → 20 - l3 < (n : Int) → w_World_heardSet_l4 r0 l1 K31 Q n l2 l3 g
  | 0, l2, l3, b0, b1, b2, b3, hm => by exfalso; omega
  | n + 1, l2, l3, b0, b1, b2, b3, hm => by
    unfold w_World_heardSet_l4
    refine ⟨⟨by omega, by omega⟩, ?_⟩
    have m_1 := zk_a10_6 hr0 I l1
    refine ⟨⟨by omega, by omega⟩, ⟨by omega, by omega⟩, ?_⟩
    refine ⟨fun c7 => ?_, fun c7 => ?_⟩
    · exact hK31 _ ⟨by omega, by omega⟩ (by exact zHS_x (by assumption) (by assumption) (by omega))
    · have m_7 := zk_c10_8 hr0 I
      have m_8 := zk_a10_7 hr0 I ((l1 * 20) + l3)
      refine k_World_wordAt hr0 I ⟨by omega, by omega⟩ ⟨by omega, by omega⟩ (fun v4 b_2 b_3 b_4 b_5 b_6 => ?_)
      try simp only [Nat.reduceAdd] at b_2 b_3 b_4 b_5 b_6
      have m_9 := zi_r_shl 1 v4
      try have m_10 := (zi_shl_f v4).2.1 ⟨by omega, by omega⟩
      first | have m_11 := (zi_shl_f v4).2.2.1 ⟨by omega, by omega⟩ | have m_12 := (zi_shl_f v4).2.2.2.1 ⟨by omega, by omega⟩ | have m_13 := (zi_shl_f v4).2.2.2.2.1 ⟨by omega, by omega⟩ | have m_14 := (zi_shl_f v4).2.2.2.2.2.1 ⟨by omega, by omega⟩ | have m_15 := (zi_shl_f v4).2.2.2.2.2.2 ⟨by omega, by omega⟩ | skip
      first | have m_16 := (zi_or_f l2 (zi_shl 1 v4)).2.1 ⟨by omega, by omega, by omega, by omega⟩ | have m_16 := (zi_or_f l2 (zi_shl 1 v4)).2.2.1 ⟨by omega, by omega, by omega, by omega⟩ | have m_16 := (zi_or_f l2 (zi_shl 1 v4)).2.2.2.1 ⟨by omega, by omega, by omega, by omega⟩ | have m_16 := (zi_or_f l2 (zi_shl 1 v4)).2.2.2.2.1 ⟨by omega, by omega, by omega, by omega⟩ | have m_16 := (zi_or_f l2 (zi_shl 1 v4)).2.2.2.2.2 ⟨by omega, by omega, by omega, by omega⟩ | have m_16 := zi_r_or l2 (zi_shl 1 v4)
      exact k_World_heardSet_l4 hr0 I q1 hK31 hQ n ⟨by omega, by omega⟩ ⟨by omega, by omega⟩ (by first | omega | (have hz := zk_a10_6 hr0 I l1; omega)) (by first | exact zHS_0 | exact zHS_s (by assumption) (by assumption) (by assumption) (by omega) (by omega)) (by omega)
set_option maxRecDepth 100000 in
set_option maxHeartbeats 4000000 in
theorem k_World_heardSet {r0 : Nat} (hr0 : zs_sh r0 = some (10, 20)) {l1 : Int} {g : zi_M} {Q : Int → zi_M → Prop} (I : zk_I g) (p1 : 0 ≤ l1 ∧ l1 ≤ 9) (hQ : ∀ v : Int, (0 ≤ v ∧ v ≤ 65535) → (zHF r0 g l1 v) → Q v g) : w_World_heardSet r0 l1 g Q := by
  unfold w_World_heardSet
  refine ⟨((20 - 0 : Int).toNat + 1), k_World_heardSet_l4 (l1 := l1) hr0 I ⟨by omega, by omega⟩ (fun k8 b_17 b_18 => ?_) hQ ((20 - 0 : Int).toNat + 1) ⟨by omega, by omega⟩ ⟨by omega, by omega⟩ (by first | omega | (have hz := zk_a10_6 hr0 I l1; omega)) (by first | exact zHS_0 | exact zHS_s (by assumption) (by assumption) (by assumption) (by omega) (by omega)) (by omega)⟩
  exact hQ _ ⟨by omega, by omega⟩ (by assumption)
-- SpoutNews$World.takeIn(II)Z
set_option maxRecDepth 100000 in
set_option maxHeartbeats 4000000 in
theorem k_World_takeIn {r0 : Nat} (hr0 : zs_sh r0 = some (10, 20)) {l1 : Int} {l2 : Int} {g : zi_M} {Q : Int → zi_M → Prop} (I : zk_I g) (p1 : 0 ≤ l1 ∧ l1 ≤ 9) (p2 : 0 ≤ l2 ∧ l2 ≤ 15) (hQ : ∀ (v : Int) (g' : zi_M), zk_I g' → zk_fr (fr_World_takeIn r0) g g' → (0 ≤ v ∧ v ≤ 1) → (zTi r0 l1 l2 g g' v) → Q v g') : w_World_takeIn r0 l1 l2 g Q := by
  unfold w_World_takeIn
  refine ⟨⟨by omega, by omega⟩, ?_⟩
  have m_1 := zk_a10_6 hr0 I l1
  refine ⟨⟨by omega, by omega⟩, ?_⟩
  refine ⟨fun c10 => ?_, fun c10 => ?_⟩
  · exact hQ _ _ I (zk_f0 _) ⟨by omega, by omega⟩ (by first | exact zTi_a (by assumption) (by assumption) | exact zTi_c (by assumption) (by assumption) | exact zTi_b hr0 (by assumption) (by assumption) (by assumption) (by assumption) (by omega) (by assumption) (by assumption))
  · refine k_World_heardSet hr0 I ⟨by omega, by omega⟩ (fun v3 b_2 b_3 => ?_)
    have m_4 := zi_r_shr v3 l2
    try have m_5 := (zi_shr_f v3 l2).2 ⟨by omega, by omega⟩
    have m_6 := zi_r_and (zi_shr v3 l2) 1
    try have m_7 := (zi_and_f (zi_shr v3 l2) 1).2.1 ⟨by omega, by omega⟩
    try have m_8 := (zi_and_f (zi_shr v3 l2) 1).2.2 ⟨by omega, by omega⟩
    refine ⟨fun c9 => ?_, fun c9 => ?_⟩
    · refine ⟨⟨by omega, by omega⟩, ?_⟩
      intro g7 e_9
      have I_10 : zk_I g7 := by rw [e_9]; exact zk_upd (zk_la10_7 hr0).1 (zk_la10_7 hr0).2 I ⟨by omega, by omega⟩ (zj_a10_7 hr0)
      have F_11 : zk_fr (fr_World_takeIn r0) g g7 := by rw [e_9]; exact zk_fu (zk_f0 _) (Or.inr rfl)
      intro g8 e_12
      have I_13 : zk_I g8 := by rw [e_12]; exact zk_upd (zk_la10_6 hr0).1 (zk_la10_6 hr0).2 I_10 ⟨by omega, by omega⟩ (zj_a10_6 hr0)
      have F_14 : zk_fr (fr_World_takeIn r0) g g8 := by rw [e_12]; exact zk_fu F_11 (Or.inl rfl)
      exact hQ _ _ I_13 F_14 ⟨by omega, by omega⟩ (by first | exact zTi_a (by assumption) (by assumption) | exact zTi_c (by assumption) (by assumption) | exact zTi_b hr0 (by assumption) (by assumption) (by assumption) (by assumption) (by omega) (by assumption) (by assumption))
    · exact hQ _ _ I (zk_f0 _) ⟨by omega, by omega⟩ (by first | exact zTi_a (by assumption) (by assumption) | exact zTi_c (by assumption) (by assumption) | exact zTi_b hr0 (by assumption) (by assumption) (by assumption) (by assumption) (by omega) (by assumption) (by assumption))
-- SpoutNews$DayRun.leadOn(LSpoutNews$World;LSpoutNews$Book;)V
set_option maxRecDepth 100000 in
set_option maxHeartbeats 4000000 in
theorem k_DayRun_leadOn_l2 {r1 : Nat} (hr1 : zs_sh r1 = some (10, 20)) {K64 : zi_M → Prop} {Q : Int → zi_M → Prop} {g0 : zi_M} (hK64 : ∀ (g : zi_M), zk_I g → zk_fr (fr_DayRun_leadOn r1) g0 g → (zWL r1 g0 g) → K64 g) (hQ : ∀ g' : zi_M, zk_I g' → zk_fr (fr_DayRun_leadOn r1) g0 g' → (zWL r1 g0 g') → Q 0 g') : ∀ (n : Nat) {l3 : Int} {g : zi_M}, zk_I g → zk_fr (fr_DayRun_leadOn r1) g0 g → (0 ≤ l3 ∧ l3 ≤ 90) → (l3 ≤ g0 177 2) → (zWl r1 l3 g0 g) → 90 - l3 < (n : Int) → w_DayRun_leadOn_l2 r1 K64 Q n l3 g
  | 0, l3, g, I, F, b0, b1, b2, hm => by exfalso; omega
  | n + 1, l3, g, I, F, b0, b1, b2, hm => by
    unfold w_DayRun_leadOn_l2
    have m_1 : 0 ≤ (g 177 2) ∧ (g 177 2) ≤ 90 := I.1 177 2
    refine ⟨⟨by omega, by omega⟩, ⟨by omega, by omega⟩, ?_⟩
    refine ⟨fun c14 => ?_, fun c14 => ?_⟩
    · exact hK64 _ I F (by exact zWl_x b2 (by have hf := (zLfr_of hr1 F).1 177 2 (by omega); omega))
    · refine ⟨⟨by omega, by omega⟩, ?_⟩
      have m_2 : 0 ≤ (g 179 l3) ∧ (g 179 l3) ≤ 9 := I.1 179 l3
      refine ⟨⟨by omega, by omega⟩, ?_⟩
      have m_3 := zk_a10_4 hr1 I (g 179 l3)
      refine ⟨⟨by omega, by omega⟩, ?_⟩
      refine ⟨fun c13 => ?_, fun c13 => ?_⟩
      · exact k_DayRun_leadOn_l2 hr1 hK64 hQ n I F ⟨by omega, by omega⟩ (by first | omega | (have hf := (zLfr_of hr1 F).1 177 2 (by omega); omega) | (have hz := zk_r177 I; omega)) (by first | exact zWl_0 | exact zWl_a b2 (zLfr_of hr1 F) (by omega) (by omega) ⟨by omega, by omega⟩ (by assumption) | exact zWl_b b2 (zLfr_of hr1 F) (by omega) (by omega) (by have hf := (zLfr_of hr1 F).1 177 2 (by omega); omega) ⟨by omega, by omega⟩ (by assumption) (by assumption) (by assumption) | exact zWl_c b2 (zLfr_of hr1 F) (by omega) (by omega) (by have hf := (zLfr_of hr1 F).1 177 2 (by omega); omega) ⟨by omega, by omega⟩ (by assumption) (by assumption) (by assumption) (zLfr_of hr1 (by assumption)) (by assumption)) (by omega)
      · have m_4 : 0 ≤ (g 178 l3) ∧ (g 178 l3) ≤ 15 := I.1 178 l3
        refine k_World_takeIn hr1 I ⟨by omega, by omega⟩ ⟨by omega, by omega⟩ (fun v6 g7 I_7 F_8 b_5 b_6 => ?_)
        have F_9 : zk_fr (fr_DayRun_leadOn r1) g0 g7 := zk_ft F F_8 (fun a i => (fun h => Or.elim h (fun h => (Or.inl h)) (fun h => (Or.inr (Or.inl h)))))
        refine ⟨fun c12 => ?_, fun c12 => ?_⟩
        · exact k_DayRun_leadOn_l2 hr1 hK64 hQ n I_7 F_9 ⟨by omega, by omega⟩ (by first | omega | (have hf := (zLfr_of hr1 F).1 177 2 (by omega); omega) | (have hz := zk_r177 I; omega)) (by first | exact zWl_0 | exact zWl_a b2 (zLfr_of hr1 F) (by omega) (by omega) ⟨by omega, by omega⟩ (by assumption) | exact zWl_b b2 (zLfr_of hr1 F) (by omega) (by omega) (by have hf := (zLfr_of hr1 F).1 177 2 (by omega); omega) ⟨by omega, by omega⟩ (by assumption) (by assumption) (by assumption) | exact zWl_c b2 (zLfr_of hr1 F) (by omega) (by omega) (by have hf := (zLfr_of hr1 F).1 177 2 (by omega); omega) ⟨by omega, by omega⟩ (by assumption) (by assumption) (by assumption) (zLfr_of hr1 (by assumption)) (by assumption)) (by omega)
        · have m_10 : 0 ≤ (g7 178 l3) ∧ (g7 178 l3) ≤ 15 := I_7.1 178 l3
          refine k_Book_write hr1 I_7 ⟨by omega, by omega⟩ ⟨by omega, by omega⟩ ⟨by omega, by omega⟩ (fun g10 I_12 F_13 b_11 => ?_)
          have F_14 : zk_fr (fr_DayRun_leadOn r1) g0 g10 := zk_ft F_9 F_13 (fun a i => (fun h => Or.elim h (fun h => (Or.inr (Or.inr (Or.inl h)))) (fun h => Or.elim h (fun h => (Or.inr (Or.inr (Or.inr (Or.inl h))))) (fun h => Or.elim h (fun h => (Or.inr (Or.inr (Or.inr (Or.inr (Or.inl h)))))) (fun h => Or.elim h (fun h => (Or.inr (Or.inr (Or.inr (Or.inr (Or.inr (Or.inl h))))))) (fun h => (Or.inr (Or.inr (Or.inr (Or.inr (Or.inr (Or.inr h))))))))))))
          exact k_DayRun_leadOn_l2 hr1 hK64 hQ n I_12 F_14 ⟨by omega, by omega⟩ (by first | omega | (have hf := (zLfr_of hr1 F).1 177 2 (by omega); omega) | (have hz := zk_r177 I; omega)) (by first | exact zWl_0 | exact zWl_a b2 (zLfr_of hr1 F) (by omega) (by omega) ⟨by omega, by omega⟩ (by assumption) | exact zWl_b b2 (zLfr_of hr1 F) (by omega) (by omega) (by have hf := (zLfr_of hr1 F).1 177 2 (by omega); omega) ⟨by omega, by omega⟩ (by assumption) (by assumption) (by assumption) | exact zWl_c b2 (zLfr_of hr1 F) (by omega) (by omega) (by have hf := (zLfr_of hr1 F).1 177 2 (by omega); omega) ⟨by omega, by omega⟩ (by assumption) (by assumption) (by assumption) (zLfr_of hr1 (by assumption)) (by assumption)) (by omega)
set_option maxRecDepth 100000 in
set_option maxHeartbeats 4000000 in
theorem k_DayRun_leadOn {r1 : Nat} (hr1 : zs_sh r1 = some (10, 20)) {g : zi_M} {Q : Int → zi_M → Prop} (I : zk_I g) (hQ : ∀ g' : zi_M, zk_I g' → zk_fr (fr_DayRun_leadOn r1) g g' → (zWL r1 g g') → Q 0 g') : w_DayRun_leadOn r1 g Q := by
  unfold w_DayRun_leadOn
  refine ⟨((90 - 0 : Int).toNat + 1), k_DayRun_leadOn_l2 hr1 (fun g15 I_15 F_16 b_17 => ?_) hQ ((90 - 0 : Int).toNat + 1) I (zk_f0 _) ⟨by omega, by omega⟩ (by first | omega | (have hf := (zLfr_of hr1 F).1 177 2 (by omega); omega) | (have hz := zk_r177 I; omega)) (by first | exact zWl_0 | exact zWl_a b2 (zLfr_of hr1 F) (by omega) (by omega) ⟨by omega, by omega⟩ (by assumption) | exact zWl_b b2 (zLfr_of hr1 F) (by omega) (by omega) (by have hf := (zLfr_of hr1 F).1 177 2 (by omega); omega) ⟨by omega, by omega⟩ (by assumption) (by assumption) (by assumption) | exact zWl_c b2 (zLfr_of hr1 F) (by omega) (by omega) (by have hf := (zLfr_of hr1 F).1 177 2 (by omega); omega) ⟨by omega, by omega⟩ (by assumption) (by assumption) (by assumption) (zLfr_of hr1 (by assumption)) (by assumption)) (by omega)⟩
  exact hQ _ I_15 F_16 (by assumption)
