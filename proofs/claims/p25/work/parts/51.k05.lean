-- by program (wip/gen/mkz.py)
-- SpoutNewsModel.canAct(III)Z
set_option maxRecDepth 100000 in
set_option maxHeartbeats 4000000 in
theorem k_M_canAct {l1 : Int} {l2 : Int} {l3 : Int} {g : zi_M} {Q : Int → zi_M → Prop} (I : zk_I g) (p1 : (-2147483648) ≤ l1 ∧ l1 ≤ 2147483647) (p2 : (-2147483648) ≤ l2 ∧ l2 ≤ 2147483647) (p3 : (-2147483648) ≤ l3 ∧ l3 ≤ 2147483647) (hQ : ∀ v : Int, (0 ≤ v ∧ v ≤ 1) → (¬ v = 0 ∧ (l1 = 0) → 0 ≤ l2 ∧ l2 ≤ 7 ∧ 0 ≤ l3 ∧ l3 ≤ 9) → (¬ v = 0 ∧ (l1 = 1) → 0 ≤ l2 ∧ l2 ≤ 7) → (¬ v = 0 ∧ (l1 = 2) → 0 ≤ l2 ∧ l2 ≤ 5 ∧ 0 ≤ l3 ∧ l3 ≤ 9) → (¬ v = 0 ∧ (3 ≤ l1 ∧ l1 ≤ 5) → 0 ≤ l2 ∧ l2 ≤ 9) → (¬ v = 0 ∧ (l1 = 6) → 0 ≤ l2 ∧ l2 ≤ 7) → (¬ v = 0 ∧ (l1 = 7) → 0 ≤ l2 ∧ l2 ≤ 5) → (zPa (g 214 6) (g 214 7) l1 l2 l3 → ¬ v = 0) → (¬ zPa (g 214 6) (g 214 7) l1 l2 l3 → v = 0) → Q v g) : w_M_canAct l1 l2 l3 g Q := by
  unfold w_M_canAct
  refine ⟨⟨by omega, by omega⟩, ?_⟩
  refine ⟨fun c44 => ?_, fun c44 => ?_⟩
  · refine ⟨fun c35 => ?_, fun c35 => ?_⟩
    · refine ⟨fun c31 => ?_, fun c31 => ?_⟩
      · refine ⟨fun c22 => ?_, fun c22 => ?_⟩
        · refine ⟨fun c13 => ?_, fun c13 => ?_⟩
          · refine k_M_isIn I ⟨by omega, by omega⟩ ⟨by omega, by omega⟩ ⟨by omega, by omega⟩ (fun v2 b_1 b_2 b_3 => ?_)
            refine ⟨fun c9 => ?_, fun c9 => ?_⟩
            · exact hQ _ ⟨by omega, by omega⟩ (by omega) (by omega) (by omega) (by omega) (by omega) (by omega) (by intro hv; first | decide | rfl | (rw [zPa_0 (by assumption) (show 0 ≤ g 214 6 from (I.1 214 6).1)] at hv; omega) | (rw [zPa_1 (by assumption)] at hv; omega) | (rw [zPa_6 (by assumption)] at hv; omega) | (rw [zPa_2 (by assumption) (show 0 ≤ g 214 6 from (I.1 214 6).1)] at hv; omega) | (rw [zPa_7 (by assumption)] at hv; omega) | (rw [zPa_3 (show 3 ≤ l1 ∧ l1 ≤ 5 by omega)] at hv; omega) | (rw [zPa_o (show l1 < 0 ∨ 7 < l1 by omega)] at hv; exact False.elim hv)) (by intro hv; first | decide | rfl | (rw [zPa_0 (by assumption) (show 0 ≤ g 214 6 from (I.1 214 6).1)] at hv; omega) | (rw [zPa_1 (by assumption)] at hv; omega) | (rw [zPa_6 (by assumption)] at hv; omega) | (rw [zPa_2 (by assumption) (show 0 ≤ g 214 6 from (I.1 214 6).1)] at hv; omega) | (rw [zPa_7 (by assumption)] at hv; omega) | (rw [zPa_3 (show 3 ≤ l1 ∧ l1 ≤ 5 by omega)] at hv; omega) | (rw [zPa_o (show l1 < 0 ∨ 7 < l1 by omega)] at hv; exact False.elim hv))
            · have m_7 : 0 ≤ (g 214 6) ∧ (g 214 6) ≤ 10 := I.1 214 6
              refine k_M_isSpout I ⟨by omega, by omega⟩ (fun v5 b_4 b_5 b_6 => ?_)
              refine ⟨fun c8 => ?_, fun c8 => ?_⟩
              · exact hQ _ ⟨by omega, by omega⟩ (by omega) (by omega) (by omega) (by omega) (by omega) (by omega) (by intro hv; first | decide | rfl | (rw [zPa_0 (by assumption) (show 0 ≤ g 214 6 from (I.1 214 6).1)] at hv; omega) | (rw [zPa_1 (by assumption)] at hv; omega) | (rw [zPa_6 (by assumption)] at hv; omega) | (rw [zPa_2 (by assumption) (show 0 ≤ g 214 6 from (I.1 214 6).1)] at hv; omega) | (rw [zPa_7 (by assumption)] at hv; omega) | (rw [zPa_3 (show 3 ≤ l1 ∧ l1 ≤ 5 by omega)] at hv; omega) | (rw [zPa_o (show l1 < 0 ∨ 7 < l1 by omega)] at hv; exact False.elim hv)) (by intro hv; first | decide | rfl | (rw [zPa_0 (by assumption) (show 0 ≤ g 214 6 from (I.1 214 6).1)] at hv; omega) | (rw [zPa_1 (by assumption)] at hv; omega) | (rw [zPa_6 (by assumption)] at hv; omega) | (rw [zPa_2 (by assumption) (show 0 ≤ g 214 6 from (I.1 214 6).1)] at hv; omega) | (rw [zPa_7 (by assumption)] at hv; omega) | (rw [zPa_3 (show 3 ≤ l1 ∧ l1 ≤ 5 by omega)] at hv; omega) | (rw [zPa_o (show l1 < 0 ∨ 7 < l1 by omega)] at hv; exact False.elim hv))
              · exact hQ _ ⟨by omega, by omega⟩ (by omega) (by omega) (by omega) (by omega) (by omega) (by omega) (by intro hv; first | decide | rfl | (rw [zPa_0 (by assumption) (show 0 ≤ g 214 6 from (I.1 214 6).1)] at hv; omega) | (rw [zPa_1 (by assumption)] at hv; omega) | (rw [zPa_6 (by assumption)] at hv; omega) | (rw [zPa_2 (by assumption) (show 0 ≤ g 214 6 from (I.1 214 6).1)] at hv; omega) | (rw [zPa_7 (by assumption)] at hv; omega) | (rw [zPa_3 (show 3 ≤ l1 ∧ l1 ≤ 5 by omega)] at hv; omega) | (rw [zPa_o (show l1 < 0 ∨ 7 < l1 by omega)] at hv; exact False.elim hv)) (by intro hv; first | decide | rfl | (rw [zPa_0 (by assumption) (show 0 ≤ g 214 6 from (I.1 214 6).1)] at hv; omega) | (rw [zPa_1 (by assumption)] at hv; omega) | (rw [zPa_6 (by assumption)] at hv; omega) | (rw [zPa_2 (by assumption) (show 0 ≤ g 214 6 from (I.1 214 6).1)] at hv; omega) | (rw [zPa_7 (by assumption)] at hv; omega) | (rw [zPa_3 (show 3 ≤ l1 ∧ l1 ≤ 5 by omega)] at hv; omega) | (rw [zPa_o (show l1 < 0 ∨ 7 < l1 by omega)] at hv; exact False.elim hv))
          · refine k_M_isIn I ⟨by omega, by omega⟩ ⟨by omega, by omega⟩ ⟨by omega, by omega⟩ (fun v10 b_8 b_9 b_10 => ?_)
            exact hQ _ ⟨by omega, by omega⟩ (by omega) (by omega) (by omega) (by omega) (by omega) (by omega) (by intro hv; first | decide | rfl | (rw [zPa_0 (by assumption) (show 0 ≤ g 214 6 from (I.1 214 6).1)] at hv; omega) | (rw [zPa_1 (by assumption)] at hv; omega) | (rw [zPa_6 (by assumption)] at hv; omega) | (rw [zPa_2 (by assumption) (show 0 ≤ g 214 6 from (I.1 214 6).1)] at hv; omega) | (rw [zPa_7 (by assumption)] at hv; omega) | (rw [zPa_3 (show 3 ≤ l1 ∧ l1 ≤ 5 by omega)] at hv; omega) | (rw [zPa_o (show l1 < 0 ∨ 7 < l1 by omega)] at hv; exact False.elim hv)) (by intro hv; first | decide | rfl | (rw [zPa_0 (by assumption) (show 0 ≤ g 214 6 from (I.1 214 6).1)] at hv; omega) | (rw [zPa_1 (by assumption)] at hv; omega) | (rw [zPa_6 (by assumption)] at hv; omega) | (rw [zPa_2 (by assumption) (show 0 ≤ g 214 6 from (I.1 214 6).1)] at hv; omega) | (rw [zPa_7 (by assumption)] at hv; omega) | (rw [zPa_3 (show 3 ≤ l1 ∧ l1 ≤ 5 by omega)] at hv; omega) | (rw [zPa_o (show l1 < 0 ∨ 7 < l1 by omega)] at hv; exact False.elim hv))
        · refine k_M_isIn I ⟨by omega, by omega⟩ ⟨by omega, by omega⟩ ⟨by omega, by omega⟩ (fun v14 b_11 b_12 b_13 => ?_)
          refine ⟨fun c21 => ?_, fun c21 => ?_⟩
          · exact hQ _ ⟨by omega, by omega⟩ (by omega) (by omega) (by omega) (by omega) (by omega) (by omega) (by intro hv; first | decide | rfl | (rw [zPa_0 (by assumption) (show 0 ≤ g 214 6 from (I.1 214 6).1)] at hv; omega) | (rw [zPa_1 (by assumption)] at hv; omega) | (rw [zPa_6 (by assumption)] at hv; omega) | (rw [zPa_2 (by assumption) (show 0 ≤ g 214 6 from (I.1 214 6).1)] at hv; omega) | (rw [zPa_7 (by assumption)] at hv; omega) | (rw [zPa_3 (show 3 ≤ l1 ∧ l1 ≤ 5 by omega)] at hv; omega) | (rw [zPa_o (show l1 < 0 ∨ 7 < l1 by omega)] at hv; exact False.elim hv)) (by intro hv; first | decide | rfl | (rw [zPa_0 (by assumption) (show 0 ≤ g 214 6 from (I.1 214 6).1)] at hv; omega) | (rw [zPa_1 (by assumption)] at hv; omega) | (rw [zPa_6 (by assumption)] at hv; omega) | (rw [zPa_2 (by assumption) (show 0 ≤ g 214 6 from (I.1 214 6).1)] at hv; omega) | (rw [zPa_7 (by assumption)] at hv; omega) | (rw [zPa_3 (show 3 ≤ l1 ∧ l1 ≤ 5 by omega)] at hv; omega) | (rw [zPa_o (show l1 < 0 ∨ 7 < l1 by omega)] at hv; exact False.elim hv))
          · have m_17 : 0 ≤ (g 214 6) ∧ (g 214 6) ≤ 10 := I.1 214 6
            refine k_M_isSpout I ⟨by omega, by omega⟩ (fun v17 b_14 b_15 b_16 => ?_)
            refine ⟨fun c20 => ?_, fun c20 => ?_⟩
            · exact hQ _ ⟨by omega, by omega⟩ (by omega) (by omega) (by omega) (by omega) (by omega) (by omega) (by intro hv; first | decide | rfl | (rw [zPa_0 (by assumption) (show 0 ≤ g 214 6 from (I.1 214 6).1)] at hv; omega) | (rw [zPa_1 (by assumption)] at hv; omega) | (rw [zPa_6 (by assumption)] at hv; omega) | (rw [zPa_2 (by assumption) (show 0 ≤ g 214 6 from (I.1 214 6).1)] at hv; omega) | (rw [zPa_7 (by assumption)] at hv; omega) | (rw [zPa_3 (show 3 ≤ l1 ∧ l1 ≤ 5 by omega)] at hv; omega) | (rw [zPa_o (show l1 < 0 ∨ 7 < l1 by omega)] at hv; exact False.elim hv)) (by intro hv; first | decide | rfl | (rw [zPa_0 (by assumption) (show 0 ≤ g 214 6 from (I.1 214 6).1)] at hv; omega) | (rw [zPa_1 (by assumption)] at hv; omega) | (rw [zPa_6 (by assumption)] at hv; omega) | (rw [zPa_2 (by assumption) (show 0 ≤ g 214 6 from (I.1 214 6).1)] at hv; omega) | (rw [zPa_7 (by assumption)] at hv; omega) | (rw [zPa_3 (show 3 ≤ l1 ∧ l1 ≤ 5 by omega)] at hv; omega) | (rw [zPa_o (show l1 < 0 ∨ 7 < l1 by omega)] at hv; exact False.elim hv))
            · exact hQ _ ⟨by omega, by omega⟩ (by omega) (by omega) (by omega) (by omega) (by omega) (by omega) (by intro hv; first | decide | rfl | (rw [zPa_0 (by assumption) (show 0 ≤ g 214 6 from (I.1 214 6).1)] at hv; omega) | (rw [zPa_1 (by assumption)] at hv; omega) | (rw [zPa_6 (by assumption)] at hv; omega) | (rw [zPa_2 (by assumption) (show 0 ≤ g 214 6 from (I.1 214 6).1)] at hv; omega) | (rw [zPa_7 (by assumption)] at hv; omega) | (rw [zPa_3 (show 3 ≤ l1 ∧ l1 ≤ 5 by omega)] at hv; omega) | (rw [zPa_o (show l1 < 0 ∨ 7 < l1 by omega)] at hv; exact False.elim hv)) (by intro hv; first | decide | rfl | (rw [zPa_0 (by assumption) (show 0 ≤ g 214 6 from (I.1 214 6).1)] at hv; omega) | (rw [zPa_1 (by assumption)] at hv; omega) | (rw [zPa_6 (by assumption)] at hv; omega) | (rw [zPa_2 (by assumption) (show 0 ≤ g 214 6 from (I.1 214 6).1)] at hv; omega) | (rw [zPa_7 (by assumption)] at hv; omega) | (rw [zPa_3 (show 3 ≤ l1 ∧ l1 ≤ 5 by omega)] at hv; omega) | (rw [zPa_o (show l1 < 0 ∨ 7 < l1 by omega)] at hv; exact False.elim hv))
      · have m_21 : 0 ≤ (g 214 7) ∧ (g 214 7) ≤ 8 := I.1 214 7
        refine k_M_isSitter I ⟨by omega, by omega⟩ (fun v23 b_18 b_19 b_20 => ?_)
        refine ⟨fun c30 => ?_, fun c30 => ?_⟩
        · exact hQ _ ⟨by omega, by omega⟩ (by omega) (by omega) (by omega) (by omega) (by omega) (by omega) (by intro hv; first | decide | rfl | (rw [zPa_0 (by assumption) (show 0 ≤ g 214 6 from (I.1 214 6).1)] at hv; omega) | (rw [zPa_1 (by assumption)] at hv; omega) | (rw [zPa_6 (by assumption)] at hv; omega) | (rw [zPa_2 (by assumption) (show 0 ≤ g 214 6 from (I.1 214 6).1)] at hv; omega) | (rw [zPa_7 (by assumption)] at hv; omega) | (rw [zPa_3 (show 3 ≤ l1 ∧ l1 ≤ 5 by omega)] at hv; omega) | (rw [zPa_o (show l1 < 0 ∨ 7 < l1 by omega)] at hv; exact False.elim hv)) (by intro hv; first | decide | rfl | (rw [zPa_0 (by assumption) (show 0 ≤ g 214 6 from (I.1 214 6).1)] at hv; omega) | (rw [zPa_1 (by assumption)] at hv; omega) | (rw [zPa_6 (by assumption)] at hv; omega) | (rw [zPa_2 (by assumption) (show 0 ≤ g 214 6 from (I.1 214 6).1)] at hv; omega) | (rw [zPa_7 (by assumption)] at hv; omega) | (rw [zPa_3 (show 3 ≤ l1 ∧ l1 ≤ 5 by omega)] at hv; omega) | (rw [zPa_o (show l1 < 0 ∨ 7 < l1 by omega)] at hv; exact False.elim hv))
        · refine k_M_isIn I ⟨by omega, by omega⟩ ⟨by omega, by omega⟩ ⟨by omega, by omega⟩ (fun v26 b_22 b_23 b_24 => ?_)
          refine ⟨fun c29 => ?_, fun c29 => ?_⟩
          · exact hQ _ ⟨by omega, by omega⟩ (by omega) (by omega) (by omega) (by omega) (by omega) (by omega) (by intro hv; first | decide | rfl | (rw [zPa_0 (by assumption) (show 0 ≤ g 214 6 from (I.1 214 6).1)] at hv; omega) | (rw [zPa_1 (by assumption)] at hv; omega) | (rw [zPa_6 (by assumption)] at hv; omega) | (rw [zPa_2 (by assumption) (show 0 ≤ g 214 6 from (I.1 214 6).1)] at hv; omega) | (rw [zPa_7 (by assumption)] at hv; omega) | (rw [zPa_3 (show 3 ≤ l1 ∧ l1 ≤ 5 by omega)] at hv; omega) | (rw [zPa_o (show l1 < 0 ∨ 7 < l1 by omega)] at hv; exact False.elim hv)) (by intro hv; first | decide | rfl | (rw [zPa_0 (by assumption) (show 0 ≤ g 214 6 from (I.1 214 6).1)] at hv; omega) | (rw [zPa_1 (by assumption)] at hv; omega) | (rw [zPa_6 (by assumption)] at hv; omega) | (rw [zPa_2 (by assumption) (show 0 ≤ g 214 6 from (I.1 214 6).1)] at hv; omega) | (rw [zPa_7 (by assumption)] at hv; omega) | (rw [zPa_3 (show 3 ≤ l1 ∧ l1 ≤ 5 by omega)] at hv; omega) | (rw [zPa_o (show l1 < 0 ∨ 7 < l1 by omega)] at hv; exact False.elim hv))
          · exact hQ _ ⟨by omega, by omega⟩ (by omega) (by omega) (by omega) (by omega) (by omega) (by omega) (by intro hv; first | decide | rfl | (rw [zPa_0 (by assumption) (show 0 ≤ g 214 6 from (I.1 214 6).1)] at hv; omega) | (rw [zPa_1 (by assumption)] at hv; omega) | (rw [zPa_6 (by assumption)] at hv; omega) | (rw [zPa_2 (by assumption) (show 0 ≤ g 214 6 from (I.1 214 6).1)] at hv; omega) | (rw [zPa_7 (by assumption)] at hv; omega) | (rw [zPa_3 (show 3 ≤ l1 ∧ l1 ≤ 5 by omega)] at hv; omega) | (rw [zPa_o (show l1 < 0 ∨ 7 < l1 by omega)] at hv; exact False.elim hv)) (by intro hv; first | decide | rfl | (rw [zPa_0 (by assumption) (show 0 ≤ g 214 6 from (I.1 214 6).1)] at hv; omega) | (rw [zPa_1 (by assumption)] at hv; omega) | (rw [zPa_6 (by assumption)] at hv; omega) | (rw [zPa_2 (by assumption) (show 0 ≤ g 214 6 from (I.1 214 6).1)] at hv; omega) | (rw [zPa_7 (by assumption)] at hv; omega) | (rw [zPa_3 (show 3 ≤ l1 ∧ l1 ≤ 5 by omega)] at hv; omega) | (rw [zPa_o (show l1 < 0 ∨ 7 < l1 by omega)] at hv; exact False.elim hv))
    · have m_28 : 0 ≤ (g 214 7) ∧ (g 214 7) ≤ 8 := I.1 214 7
      refine k_M_isSitter I ⟨by omega, by omega⟩ (fun v32 b_25 b_26 b_27 => ?_)
      exact hQ _ ⟨by omega, by omega⟩ (by omega) (by omega) (by omega) (by omega) (by omega) (by omega) (by intro hv; first | decide | rfl | (rw [zPa_0 (by assumption) (show 0 ≤ g 214 6 from (I.1 214 6).1)] at hv; omega) | (rw [zPa_1 (by assumption)] at hv; omega) | (rw [zPa_6 (by assumption)] at hv; omega) | (rw [zPa_2 (by assumption) (show 0 ≤ g 214 6 from (I.1 214 6).1)] at hv; omega) | (rw [zPa_7 (by assumption)] at hv; omega) | (rw [zPa_3 (show 3 ≤ l1 ∧ l1 ≤ 5 by omega)] at hv; omega) | (rw [zPa_o (show l1 < 0 ∨ 7 < l1 by omega)] at hv; exact False.elim hv)) (by intro hv; first | decide | rfl | (rw [zPa_0 (by assumption) (show 0 ≤ g 214 6 from (I.1 214 6).1)] at hv; omega) | (rw [zPa_1 (by assumption)] at hv; omega) | (rw [zPa_6 (by assumption)] at hv; omega) | (rw [zPa_2 (by assumption) (show 0 ≤ g 214 6 from (I.1 214 6).1)] at hv; omega) | (rw [zPa_7 (by assumption)] at hv; omega) | (rw [zPa_3 (show 3 ≤ l1 ∧ l1 ≤ 5 by omega)] at hv; omega) | (rw [zPa_o (show l1 < 0 ∨ 7 < l1 by omega)] at hv; exact False.elim hv))
  · have m_32 : 0 ≤ (g 214 7) ∧ (g 214 7) ≤ 8 := I.1 214 7
    refine k_M_isSitter I ⟨by omega, by omega⟩ (fun v36 b_29 b_30 b_31 => ?_)
    refine ⟨fun c43 => ?_, fun c43 => ?_⟩
    · exact hQ _ ⟨by omega, by omega⟩ (by omega) (by omega) (by omega) (by omega) (by omega) (by omega) (by intro hv; first | decide | rfl | (rw [zPa_0 (by assumption) (show 0 ≤ g 214 6 from (I.1 214 6).1)] at hv; omega) | (rw [zPa_1 (by assumption)] at hv; omega) | (rw [zPa_6 (by assumption)] at hv; omega) | (rw [zPa_2 (by assumption) (show 0 ≤ g 214 6 from (I.1 214 6).1)] at hv; omega) | (rw [zPa_7 (by assumption)] at hv; omega) | (rw [zPa_3 (show 3 ≤ l1 ∧ l1 ≤ 5 by omega)] at hv; omega) | (rw [zPa_o (show l1 < 0 ∨ 7 < l1 by omega)] at hv; exact False.elim hv)) (by intro hv; first | decide | rfl | (rw [zPa_0 (by assumption) (show 0 ≤ g 214 6 from (I.1 214 6).1)] at hv; omega) | (rw [zPa_1 (by assumption)] at hv; omega) | (rw [zPa_6 (by assumption)] at hv; omega) | (rw [zPa_2 (by assumption) (show 0 ≤ g 214 6 from (I.1 214 6).1)] at hv; omega) | (rw [zPa_7 (by assumption)] at hv; omega) | (rw [zPa_3 (show 3 ≤ l1 ∧ l1 ≤ 5 by omega)] at hv; omega) | (rw [zPa_o (show l1 < 0 ∨ 7 < l1 by omega)] at hv; exact False.elim hv))
    · have m_36 : 0 ≤ (g 214 6) ∧ (g 214 6) ≤ 10 := I.1 214 6
      refine k_M_isSpout I ⟨by omega, by omega⟩ (fun v39 b_33 b_34 b_35 => ?_)
      refine ⟨fun c42 => ?_, fun c42 => ?_⟩
      · exact hQ _ ⟨by omega, by omega⟩ (by omega) (by omega) (by omega) (by omega) (by omega) (by omega) (by intro hv; first | decide | rfl | (rw [zPa_0 (by assumption) (show 0 ≤ g 214 6 from (I.1 214 6).1)] at hv; omega) | (rw [zPa_1 (by assumption)] at hv; omega) | (rw [zPa_6 (by assumption)] at hv; omega) | (rw [zPa_2 (by assumption) (show 0 ≤ g 214 6 from (I.1 214 6).1)] at hv; omega) | (rw [zPa_7 (by assumption)] at hv; omega) | (rw [zPa_3 (show 3 ≤ l1 ∧ l1 ≤ 5 by omega)] at hv; omega) | (rw [zPa_o (show l1 < 0 ∨ 7 < l1 by omega)] at hv; exact False.elim hv)) (by intro hv; first | decide | rfl | (rw [zPa_0 (by assumption) (show 0 ≤ g 214 6 from (I.1 214 6).1)] at hv; omega) | (rw [zPa_1 (by assumption)] at hv; omega) | (rw [zPa_6 (by assumption)] at hv; omega) | (rw [zPa_2 (by assumption) (show 0 ≤ g 214 6 from (I.1 214 6).1)] at hv; omega) | (rw [zPa_7 (by assumption)] at hv; omega) | (rw [zPa_3 (show 3 ≤ l1 ∧ l1 ≤ 5 by omega)] at hv; omega) | (rw [zPa_o (show l1 < 0 ∨ 7 < l1 by omega)] at hv; exact False.elim hv))
      · exact hQ _ ⟨by omega, by omega⟩ (by omega) (by omega) (by omega) (by omega) (by omega) (by omega) (by intro hv; first | decide | rfl | (rw [zPa_0 (by assumption) (show 0 ≤ g 214 6 from (I.1 214 6).1)] at hv; omega) | (rw [zPa_1 (by assumption)] at hv; omega) | (rw [zPa_6 (by assumption)] at hv; omega) | (rw [zPa_2 (by assumption) (show 0 ≤ g 214 6 from (I.1 214 6).1)] at hv; omega) | (rw [zPa_7 (by assumption)] at hv; omega) | (rw [zPa_3 (show 3 ≤ l1 ∧ l1 ≤ 5 by omega)] at hv; omega) | (rw [zPa_o (show l1 < 0 ∨ 7 < l1 by omega)] at hv; exact False.elim hv)) (by intro hv; first | decide | rfl | (rw [zPa_0 (by assumption) (show 0 ≤ g 214 6 from (I.1 214 6).1)] at hv; omega) | (rw [zPa_1 (by assumption)] at hv; omega) | (rw [zPa_6 (by assumption)] at hv; omega) | (rw [zPa_2 (by assumption) (show 0 ≤ g 214 6 from (I.1 214 6).1)] at hv; omega) | (rw [zPa_7 (by assumption)] at hv; omega) | (rw [zPa_3 (show 3 ≤ l1 ∧ l1 ≤ 5 by omega)] at hv; omega) | (rw [zPa_o (show l1 < 0 ∨ 7 < l1 by omega)] at hv; exact False.elim hv))
-- SpoutNewsModel.keepsAhead()V
theorem k_M_keepsAhead_l57 {K91 : zi_M → Prop} {Q : Int → zi_M → Prop} {g0 s : zi_M} {c : Int} (c5 : 0 ≤ c ∧ c ≤ 5) (hK91 : ∀ (g : zi_M), zk_I g → zk_fr fr_M_keepsAhead g0 g → g 214 3 = c → (∀ i : Int, 264 * c ≤ i → i < 264 * c + 264 → g 216 i = s 215 (i - 264 * c)) → (∀ i : Int, ¬ (264 * c ≤ i ∧ i < 264 * c + 264) → g 216 i = s 216 i) → K91 g) : ∀ (n : Nat) {l1 : Int} {g : zi_M}, zk_I g → zk_fr fr_M_keepsAhead g0 g → (0 ≤ l1 ∧ l1 ≤ 264) → g 214 3 = c → (∀ i : Int, g 215 i = s 215 i) → (∀ i : Int, 264 * c ≤ i → i < 264 * c + l1 → g 216 i = s 215 (i - 264 * c)) → (∀ i : Int, ¬ (264 * c ≤ i ∧ i < 264 * c + l1) → g 216 i = s 216 i) → 264 - l1 < (n : Int) → w_M_keepsAhead_l57 K91 Q n l1 g
  | 0, l1, g, I, F, b0, b1, b2, b3, b4, hm => by exfalso; omega
  | n + 1, l1, g, I, F, b0, b1, b2, b3, b4, hm => by
    unfold w_M_keepsAhead_l57
    refine ⟨⟨by omega, by omega⟩, fun c6 => ?_, fun c6 => ?_⟩
    · have e : l1 = 264 := by omega
      rw [e] at b3 b4
      exact hK91 _ I F b1 b3 b4
    · refine ⟨⟨by omega, by omega⟩, ⟨by omega, by omega⟩, ?_⟩
      intro g5 e_3
      have I_4 : zk_I g5 := by rw [e_3]; exact zk_row2 I (by omega) ⟨by omega, by omega⟩
      have F_5 : zk_fr fr_M_keepsAhead g0 g5 := by rw [e_3]; exact zk_fu F (Or.inl rfl)
      have m_9 : g5 214 3 = g 214 3 := by rw [e_3]; exact zi_u_ne (by decide)
      refine k_M_keepsAhead_l57 c5 hK91 n I_4 F_5 ⟨by omega, by omega⟩ (m_9.trans b1) (fun i => ?_) (fun i i0 i1 => ?_) (fun i hi => ?_) (by omega)
      · rw [e_3, zi_u_ne (by decide)]
        exact b2 i
      · by_cases w : i = 264 * c + l1
        · rw [e_3, w, b1, zi_u_eq, b2, show 264 * c + l1 - 264 * c = l1 by omega]
        · rw [e_3, zi_u_ni (by omega)]
          exact b3 i i0 (by omega)
      · rw [e_3, zi_u_ni (by omega)]
        exact b4 i (by omega)
theorem k_M_keepsAhead_l21 {K55 : zi_M → Prop} {Q : Int → zi_M → Prop} {g0 s : zi_M} (hK55 : ∀ (g : zi_M), zk_I g → zk_fr fr_M_keepsAhead g0 g → g 214 3 = 5 → (∀ i : Int, g 215 i = s 215 i) → (∀ i : Int, 0 ≤ i → i < 1320 → g 216 i = s 216 (i + 264)) → K55 g) : ∀ (n : Nat) {l1 : Int} {g : zi_M}, zk_I g → zk_fr fr_M_keepsAhead g0 g → (0 ≤ l1 ∧ l1 ≤ 1320) → g 214 3 = 5 → (∀ i : Int, g 215 i = s 215 i) → (∀ i : Int, 0 ≤ i → i < l1 → g 216 i = s 216 (i + 264)) → (∀ i : Int, l1 ≤ i → g 216 i = s 216 i) → 1320 - l1 < (n : Int) → w_M_keepsAhead_l21 K55 Q n l1 g
  | 0, l1, g, I, F, b0, b1, b2, b3, b4, hm => by exfalso; omega
  | n + 1, l1, g, I, F, b0, b1, b2, b3, b4, hm => by
    unfold w_M_keepsAhead_l21
    refine ⟨⟨by omega, by omega⟩, ⟨by omega, by omega⟩, fun c6 => ?_, fun c6 => ?_⟩
    · have e : l1 = 1320 := by omega
      rw [e] at b3
      exact hK55 _ I F b1 b2 b3
    · refine ⟨⟨by omega, by omega⟩, ⟨by omega, by omega⟩, ?_⟩
      intro g15 e_21
      have I_22 : zk_I g15 := by rw [e_21]; exact zk_row1 I (by omega)
      have F_23 : zk_fr fr_M_keepsAhead g0 g15 := by rw [e_21]; exact zk_fu F (Or.inl rfl)
      have m_26 : g15 214 3 = g 214 3 := by rw [e_21]; exact zi_u_ne (by decide)
      refine k_M_keepsAhead_l21 hK55 n I_22 F_23 ⟨by omega, by omega⟩ (m_26.trans b1) (fun i => ?_) (fun i i0 i1 => ?_) (fun i hi => ?_) (by omega)
      · rw [e_21, zi_u_ne (by decide)]
        exact b2 i
      · by_cases w : i = l1
        · rw [e_21, w, zi_u_eq]
          exact b4 _ (by omega)
        · rw [e_21, zi_u_ni (by omega)]
          exact b3 i i0 (by omega)
      · rw [e_21, zi_u_ni (by omega)]
        exact b4 i (by omega)
theorem k_M_keepsAhead {g : zi_M} {Q : Int → zi_M → Prop} (I : zk_I g) (hQ : ∀ g' : zi_M, zk_I g' → zk_fr fr_M_keepsAhead g g' → zKa g g' → Q 0 g') : w_M_keepsAhead g Q := by
  unfold w_M_keepsAhead
  have m_1 : 0 ≤ (g 214 3) ∧ (g 214 3) ≤ 6 := I.1 214 3
  refine ⟨⟨by omega, by omega⟩, fun c22 => ?_, fun c22 => ?_⟩
  · refine ⟨265, k_M_keepsAhead_l57 (s := g) (c := g 214 3) ⟨by omega, by omega⟩ (fun g7 I_10 F_11 b1 b3 b4 => ?_) 265 I (zk_f0 _) ⟨by omega, by omega⟩ rfl (fun _ => rfl) (fun i i0 i1 => by exfalso; omega) (fun i _ => rfl) (by decide)⟩
    intro g8 e_13
    have I_14 : zk_I g8 := by rw [e_13]; exact zk_upd (L := 0) (H := 6) rfl rfl I_10 ⟨by omega, by omega⟩
    have F_15 : zk_fr fr_M_keepsAhead g g8 := by rw [e_13]; exact zk_fu F_11 (Or.inr ⟨rfl, rfl⟩)
    have n3 : g8 214 3 = g 214 3 + 1 := by rw [e_13, zi_u_eq, b1]
    have n216 : ∀ i : Int, g8 216 i = g7 216 i := fun i => by rw [e_13, zi_u_ne (by decide)]
    refine hQ _ I_14 F_15 ⟨by omega, fun e k e0 e1 k0 k1 => ?_, fun k k0 k1 => ?_⟩
    · rw [n216, b4 _ (by omega), n3, show e + (g 214 3 + 1 - (g 214 3 + 1)) = e by omega]
    · rw [n216, n3, b3 _ (by omega) (by omega), show 264 * (g 214 3 + 1 - 1) + k - 264 * g 214 3 = k by omega]
  · intro g10 e_17
    have I_18 : zk_I g10 := by rw [e_17]; exact zk_upd (L := 0) (H := 6) rfl rfl I ⟨by omega, by omega⟩
    have F_19 : zk_fr fr_M_keepsAhead g g10 := by rw [e_17]; exact zk_fu (zk_f0 _) (Or.inr ⟨rfl, rfl⟩)
    have m_39 : g10 214 3 = 5 := by rw [e_17, zi_u_eq]; omega
    have u10 : ∀ (a : Nat) (i : Int), ¬ a = 214 → g10 a i = g a i := fun a i h => by rw [e_17, zi_u_ne h]
    refine ⟨1321, k_M_keepsAhead_l21 (s := g10) (fun g17 I_27 F_28 d1 d2 d3 => ?_) 1321 I_18 F_19 ⟨by omega, by omega⟩ m_39 (fun _ => rfl) (fun i i0 i1 => by exfalso; omega) (fun i _ => rfl) (by decide)⟩
    refine ⟨265, k_M_keepsAhead_l57 (s := g17) (c := 5) ⟨by decide, by decide⟩ (fun g18 I_30 F_31 b1 b3 b4 => ?_) 265 I_27 F_28 ⟨by omega, by omega⟩ d1 (fun _ => rfl) (fun i i0 i1 => by exfalso; omega) (fun i _ => rfl) (by decide)⟩
    intro g19 e_33
    have I_34 : zk_I g19 := by rw [e_33]; exact zk_upd (L := 0) (H := 6) rfl rfl I_30 ⟨by omega, by omega⟩
    have F_35 : zk_fr fr_M_keepsAhead g g19 := by rw [e_33]; exact zk_fu F_31 (Or.inr ⟨rfl, rfl⟩)
    have n3 : g19 214 3 = 6 := by rw [e_33, zi_u_eq, b1]; rfl
    have n216 : ∀ i : Int, g19 216 i = g18 216 i := fun i => by rw [e_33, zi_u_ne (by decide)]
    refine hQ _ I_34 F_35 ⟨by omega, fun e k e0 e1 k0 k1 => ?_, fun k k0 k1 => ?_⟩
    · rw [n216, b4 _ (by omega), d3 _ (by omega) (by omega), u10 _ _ (by decide), n3, c22, show 264 * (e + (6 + 1 - 6)) + k = 264 * e + k + 264 by omega]
    · rw [n216, n3, b3 _ (by omega) (by omega), show 264 * (6 - 1) + k - 264 * 5 = k by omega, d2, u10 _ _ (by decide)]

-- SpoutNewsModel.acts(III)V
theorem k_M_acts {l1 : Int} {l2 : Int} {l3 : Int} {g : zi_M} {Q : Int → zi_M → Prop} (I : zk_I g) (p1 : (-2147483648) ≤ l1 ∧ l1 ≤ 2147483647) (p2 : (-2147483648) ≤ l2 ∧ l2 ≤ 2147483647) (p3 : (-2147483648) ≤ l3 ∧ l3 ≤ 2147483647) (px0 : l1 = 0 → 0 ≤ l2 ∧ l2 ≤ 7 ∧ 0 ≤ l3 ∧ l3 ≤ 9) (px1 : l1 = 1 → 0 ≤ l2 ∧ l2 ≤ 7) (px2 : l1 = 2 → 0 ≤ l2 ∧ l2 ≤ 5 ∧ 0 ≤ l3 ∧ l3 ≤ 9) (px3 : 3 ≤ l1 ∧ l1 ≤ 5 → 0 ≤ l2 ∧ l2 ≤ 9) (px4 : l1 = 6 → 0 ≤ l2 ∧ l2 ≤ 7) (px5 : l1 = 7 → 0 ≤ l2 ∧ l2 ≤ 5) (hQ : ∀ g' : zi_M, zk_I g' → zk_fr fr_M_acts g g' → (g' 215 = zAc (g 215) l1 l2 l3) → Q 0 g') : w_M_acts l1 l2 l3 g Q := by
  have R : zi_r l1 := ⟨by omega, by omega⟩
  have b114 : ∀ x : zi_M, ¬ l1 = 7 → Q 0 x → w_M_acts_b114 l1 l2 x Q := fun x n q => by
    unfold w_M_acts_b114
    exact ⟨R, fun _ => q, fun e => absurd e n⟩
  have b84 : ∀ x : zi_M, ¬ l1 = 6 → (w_M_acts_b114 l1 l2 x Q) → w_M_acts_b84 l1 l2 l3 x Q := fun x n q => by
    unfold w_M_acts_b84
    exact ⟨R, fun _ => q, fun e => absurd e n⟩
  have b51 : ∀ x : zi_M, ¬ (3 ≤ l1 ∧ l1 ≤ 5) → w_M_acts_b84 l1 l2 l3 x Q → w_M_acts_b51 l1 l2 l3 x Q := fun x n q => by
    unfold w_M_acts_b51
    exact ⟨R, fun _ => q, fun c => ⟨fun _ => q, fun d => absurd ⟨c, d⟩ n⟩⟩
  have b33 : ∀ x : zi_M, ¬ l1 = 2 → w_M_acts_b51 l1 l2 l3 x Q → w_M_acts_b33 l1 l2 l3 x Q := fun x n q => by
    unfold w_M_acts_b33
    exact ⟨R, fun _ => q, fun e => absurd e n⟩
  have b17 : ∀ x : zi_M, ¬ l1 = 1 → w_M_acts_b33 l1 l2 l3 x Q → w_M_acts_b17 l1 l2 l3 x Q := fun x n q => by
    unfold w_M_acts_b17
    exact ⟨R, fun _ => q, fun e => absurd e n⟩
  have w : ∀ i : Int, (6 ≤ i ∧ i < 16) ∨ (236 ≤ i ∧ i < 264) → fr_M_acts 215 i := fun i h => by unfold fr_M_acts; omega
  unfold w_M_acts
  refine ⟨R, fun n0 => ?_, fun e0 => ⟨by omega, ?_⟩⟩
  · by_cases c1 : l1 = 1
    · unfold w_M_acts_b17
      refine ⟨R, fun n => absurd c1 n, fun _ => ⟨by omega, ?_⟩⟩
      intro y e
      refine b33 y (by omega) (b51 y (by omega) (b84 y (by omega) (b114 y (by omega) (hQ y ?_ ?_ ?_))))
      · rw [e]; exact zk_upd (zk_nl244 (i := 244 + l2) (by omega)).1 (zk_nl244 (i := 244 + l2) (by omega)).2 I ⟨by omega, by omega⟩
      · rw [e]; exact zk_fu (zk_f0 _) (w _ (by omega))
      · unfold zAc
        rw [if_neg n0, if_pos c1, e, zup_u]
    · refine b17 g c1 ?_
      by_cases c2 : l1 = 2
      · unfold w_M_acts_b33
        refine ⟨R, fun n => absurd c2 n, fun _ => ⟨by omega, ?_⟩⟩
        intro y e
        refine b51 y (by omega) (b84 y (by omega) (b114 y (by omega) (hQ y ?_ ?_ ?_)))
        · rw [e]; exact zk_upd (zk_nl252 (i := 252 + l2) (by omega)).1 (zk_nl252 (i := 252 + l2) (by omega)).2 I ⟨by omega, by omega⟩
        · rw [e]; exact zk_fu (zk_f0 _) (w _ (by omega))
        · unfold zAc
          rw [if_neg n0, if_neg c1, if_pos c2, e, zup_u]
      · refine b33 g c2 ?_
        by_cases c3 : 3 ≤ l1 ∧ l1 ≤ 5
        · unfold w_M_acts_b51
          refine ⟨R, fun n => by exfalso; omega, fun _ => ⟨fun n => by exfalso; omega, fun _ => ⟨fun n5 => ⟨by omega, ?_⟩, fun e5 => ⟨by omega, ?_⟩⟩⟩⟩
          · intro y e
            refine b84 y (by omega) (b114 y (by omega) (hQ y ?_ ?_ ?_))
            · rw [e]; exact zk_upd (zk_nl6 (i := 6 + l2) (by omega)).1 (zk_nl6 (i := 6 + l2) (by omega)).2 I ⟨by omega, by omega⟩
            · rw [e]; exact zk_fu (zk_f0 _) (w _ (by omega))
            · unfold zAc
              by_cases q : l1 = 3
              · rw [if_neg n0, if_neg c1, if_neg c2, if_pos q, e, zup_u, show l1 - 3 + 1 = 1 by omega]
              · rw [if_neg n0, if_neg c1, if_neg c2, if_neg q, if_pos (by omega), e, zup_u, show l1 - 3 + 1 = 2 by omega]
          · intro y e
            refine b84 y (by omega) (b114 y (by omega) (hQ y ?_ ?_ ?_))
            · rw [e]; exact zk_upd (zk_nl6 (i := 6 + l2) (by omega)).1 (zk_nl6 (i := 6 + l2) (by omega)).2 I ⟨by omega, by omega⟩
            · rw [e]; exact zk_fu (zk_f0 _) (w _ (by omega))
            · unfold zAc
              rw [if_neg n0, if_neg c1, if_neg c2, if_neg (by omega), if_neg (by omega), if_pos e5, e, zup_u]
        · refine b51 g c3 ?_
          by_cases c6 : l1 = 6
          · unfold w_M_acts_b84
            refine ⟨R, fun n => absurd c6 n, fun _ => ⟨by omega, ?_⟩⟩
            intro y e
            refine b114 y (by omega) (hQ y ?_ ?_ ?_)
            · have r := zi_r_or (g 215 (236 + l2)) (zi_shl 1 l3)
              rw [e]; exact zk_upd (zk_nl236 (i := 236 + l2) (by omega)).1 (zk_nl236 (i := 236 + l2) (by omega)).2 I ⟨by omega, by omega⟩
            · rw [e]; exact zk_fu (zk_f0 _) (w _ (by omega))
            · unfold zAc
              rw [if_neg n0, if_neg c1, if_neg c2, if_neg (by omega), if_neg (by omega), if_neg (by omega), if_pos c6, e, zup_u]
          · refine b84 g c6 ?_
            by_cases c7 : l1 = 7
            · unfold w_M_acts_b114
              refine ⟨R, fun n => absurd c7 n, fun _ => ⟨by omega, ?_⟩⟩
              intro y e
              refine hQ y ?_ ?_ ?_
              · rw [e]; exact zk_upd (zk_nl258 (i := 258 + l2) (by omega)).1 (zk_nl258 (i := 258 + l2) (by omega)).2 I ⟨by omega, by omega⟩
              · rw [e]; exact zk_fu (zk_f0 _) (w _ (by omega))
              · unfold zAc
                rw [if_neg n0, if_neg c1, if_neg c2, if_neg (by omega), if_neg (by omega), if_neg (by omega), if_neg c6, if_pos c7, e, zup_u]
            · refine b114 g c7 (hQ g I (zk_f0 _) ?_)
              unfold zAc
              rw [if_neg n0, if_neg c1, if_neg c2, if_neg (by omega), if_neg (by omega), if_neg (by omega), if_neg c6, if_neg c7]
  · intro y e
    refine b17 y (by omega) (b33 y (by omega) (b51 y (by omega) (b84 y (by omega) (b114 y (by omega) (hQ y ?_ ?_ ?_)))))
    · rw [e]; exact zk_upd (zk_nl244 (i := 244 + l2) (by omega)).1 (zk_nl244 (i := 244 + l2) (by omega)).2 I ⟨by omega, by omega⟩
    · rw [e]; exact zk_fu (zk_f0 _) (w _ (by omega))
    · unfold zAc
      rw [if_pos e0, e, zup_u]

