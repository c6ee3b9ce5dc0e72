-- by program (wip/gen/mkz.py)
-- SpoutNewsModel.look(I)I
set_option maxRecDepth 100000 in
set_option maxHeartbeats 4000000 in
theorem k_M_look {l1 : Int} {g : zi_M} {Q : Int → zi_M → Prop} (I : zk_I g) (p1 : (-2147483648) ≤ l1 ∧ l1 ≤ 2147483647) (hQ : ∀ (v : Int) (g' : zi_M), zk_I g' → zk_fr fr_M_look g g' → ((-2147483648) ≤ v ∧ v ≤ 2147483647) → (zLoM g l1 v) → Q v g') : w_M_look l1 g Q := by
  unfold w_M_look
  intro g1 e_1
  have I_2 : zk_I g1 := by rw [e_1]; exact zk_upd (L := (-2147483648)) (H := 2147483647) rfl rfl I ⟨by omega, by omega⟩
  have F_3 : zk_fr fr_M_look g g1 := by rw [e_1]; exact zk_fu (zk_f0 _) ⟨rfl, rfl⟩
  refine ⟨⟨by omega, by omega⟩, ?_⟩
  refine ⟨fun c15 => ?_, fun c15 => ?_⟩
  · refine ⟨fun c14 => ?_, fun c14 => ?_⟩
    · refine ⟨fun c13 => ?_, fun c13 => ?_⟩
      · refine ⟨fun c12 => ?_, fun c12 => ?_⟩
        · refine ⟨fun c11 => ?_, fun c11 => ?_⟩
          · refine ⟨fun c10 => ?_, fun c10 => ?_⟩
            · refine ⟨fun c9 => ?_, fun c9 => ?_⟩
              · refine ⟨fun c8 => ?_, fun c8 => ?_⟩
                · refine ⟨fun c7 => ?_, fun c7 => ?_⟩
                  · refine ⟨fun c6 => ?_, fun c6 => ?_⟩
                    · refine ⟨fun c5 => ?_, fun c5 => ?_⟩
                      · refine ⟨fun c4 => ?_, fun c4 => ?_⟩
                        · refine ⟨fun c3 => ?_, fun c3 => ?_⟩
                          · exact hQ _ _ I_2 F_3 ⟨by omega, by omega⟩ (by refine zLoM_c (by assumption) ?_; refine ⟨?_, ?_, ?_, ?_, ?_, ?_, ?_, ?_, ?_, ?_, ?_, ?_, ?_, ?_⟩ <;> (intro hz; first | (exfalso; omega) | rfl))
                          · have m_4 : 0 ≤ (g1 214 3) ∧ (g1 214 3) ≤ 6 := I_2.1 214 3
                            have m_5 : g1 214 3 = g 214 3 := by rw [e_1]; exact zi_u_ni (by decide)
                            have m_6 : 0 ≤ (g 214 3) ∧ (g 214 3) ≤ 6 := I.1 214 3
                            exact hQ _ _ I_2 F_3 ⟨by omega, by omega⟩ (by refine zLoM_c (by assumption) ?_; refine ⟨?_, ?_, ?_, ?_, ?_, ?_, ?_, ?_, ?_, ?_, ?_, ?_, ?_, ?_⟩ <;> (intro hz; first | (exfalso; omega) | rfl))
                        · have m_7 : 0 ≤ (g1 214 39) ∧ (g1 214 39) ≤ 16 := I_2.1 214 39
                          have m_8 : g1 214 39 = g 214 39 := by rw [e_1]; exact zi_u_ni (by decide)
                          have m_9 : 0 ≤ (g 214 39) ∧ (g 214 39) ≤ 16 := I.1 214 39
                          exact hQ _ _ I_2 F_3 ⟨by omega, by omega⟩ (by refine zLoM_c (by assumption) ?_; refine ⟨?_, ?_, ?_, ?_, ?_, ?_, ?_, ?_, ?_, ?_, ?_, ?_, ?_, ?_⟩ <;> (intro hz; first | (exfalso; omega) | rfl))
                      · have m_10 : 0 ≤ (g1 214 37) ∧ (g1 214 37) ≤ 16 := I_2.1 214 37
                        have m_11 : g1 214 37 = g 214 37 := by rw [e_1]; exact zi_u_ni (by decide)
                        have m_12 : 0 ≤ (g 214 37) ∧ (g 214 37) ≤ 16 := I.1 214 37
                        exact hQ _ _ I_2 F_3 ⟨by omega, by omega⟩ (by refine zLoM_c (by assumption) ?_; refine ⟨?_, ?_, ?_, ?_, ?_, ?_, ?_, ?_, ?_, ?_, ?_, ?_, ?_, ?_⟩ <;> (intro hz; first | (exfalso; omega) | rfl))
                    · have m_13 : 0 ≤ (g1 214 35) ∧ (g1 214 35) ≤ 16 := I_2.1 214 35
                      have m_14 : g1 214 35 = g 214 35 := by rw [e_1]; exact zi_u_ni (by decide)
                      have m_15 : 0 ≤ (g 214 35) ∧ (g 214 35) ≤ 16 := I.1 214 35
                      exact hQ _ _ I_2 F_3 ⟨by omega, by omega⟩ (by refine zLoM_c (by assumption) ?_; refine ⟨?_, ?_, ?_, ?_, ?_, ?_, ?_, ?_, ?_, ?_, ?_, ?_, ?_, ?_⟩ <;> (intro hz; first | (exfalso; omega) | rfl))
                  · have m_16 : 0 ≤ (g1 224 0) ∧ (g1 224 0) ≤ 16 := I_2.1 224 0
                    have m_17 : g1 224 0 = g 224 0 := by rw [e_1]; exact zi_u_ne (by decide)
                    have m_18 : 0 ≤ (g 224 0) ∧ (g 224 0) ≤ 16 := I.1 224 0
                    exact hQ _ _ I_2 F_3 ⟨by omega, by omega⟩ (by refine zLoM_c (by assumption) ?_; refine ⟨?_, ?_, ?_, ?_, ?_, ?_, ?_, ?_, ?_, ?_, ?_, ?_, ?_, ?_⟩ <;> (intro hz; first | (exfalso; omega) | rfl))
                · have m_19 := zk_rng I_2 215 1
                  have m_20 : g1 215 1 = g 215 1 := by rw [e_1]; exact zi_u_ne (by decide)
                  have m_21 := zk_rng I 215 1
                  exact hQ _ _ I_2 F_3 ⟨by omega, by omega⟩ (by refine zLoM_c (by assumption) ?_; refine ⟨?_, ?_, ?_, ?_, ?_, ?_, ?_, ?_, ?_, ?_, ?_, ?_, ?_, ?_⟩ <;> (intro hz; first | (exfalso; omega) | rfl))
              · have m_22 := zk_now2 I_2 (i := 2) (by omega)
                have m_23 : g1 215 2 = g 215 2 := by rw [e_1]; exact zi_u_ne (by decide)
                have m_24 := zk_now2 I (i := 2) (by omega)
                exact hQ _ _ I_2 F_3 ⟨by omega, by omega⟩ (by refine zLoM_c (by assumption) ?_; refine ⟨?_, ?_, ?_, ?_, ?_, ?_, ?_, ?_, ?_, ?_, ?_, ?_, ?_, ?_⟩ <;> (intro hz; first | (exfalso; omega) | rfl))
            · have m_25 := zk_rng I_2 215 0
              have m_26 : g1 215 0 = g 215 0 := by rw [e_1]; exact zi_u_ne (by decide)
              have m_27 := zk_rng I 215 0
              exact hQ _ _ I_2 F_3 ⟨by omega, by omega⟩ (by refine zLoM_c (by assumption) ?_; refine ⟨?_, ?_, ?_, ?_, ?_, ?_, ?_, ?_, ?_, ?_, ?_, ?_, ?_, ?_⟩ <;> (intro hz; first | (exfalso; omega) | rfl))
          · have m_28 := zk_rng I_2 215 5
            have m_29 : g1 215 5 = g 215 5 := by rw [e_1]; exact zi_u_ne (by decide)
            have m_30 := zk_rng I 215 5
            exact hQ _ _ I_2 F_3 ⟨by omega, by omega⟩ (by refine zLoM_c (by assumption) ?_; refine ⟨?_, ?_, ?_, ?_, ?_, ?_, ?_, ?_, ?_, ?_, ?_, ?_, ?_, ?_⟩ <;> (intro hz; first | (exfalso; omega) | rfl))
        · have m_31 := zk_rng I_2 215 4
          have m_32 : g1 215 4 = g 215 4 := by rw [e_1]; exact zi_u_ne (by decide)
          have m_33 := zk_rng I 215 4
          exact hQ _ _ I_2 F_3 ⟨by omega, by omega⟩ (by refine zLoM_c (by assumption) ?_; refine ⟨?_, ?_, ?_, ?_, ?_, ?_, ?_, ?_, ?_, ?_, ?_, ?_, ?_, ?_⟩ <;> (intro hz; first | (exfalso; omega) | rfl))
      · have m_34 := zk_rng I_2 215 3
        have m_35 : g1 215 3 = g 215 3 := by rw [e_1]; exact zi_u_ne (by decide)
        have m_36 := zk_rng I 215 3
        exact hQ _ _ I_2 F_3 ⟨by omega, by omega⟩ (by refine zLoM_c (by assumption) ?_; refine ⟨?_, ?_, ?_, ?_, ?_, ?_, ?_, ?_, ?_, ?_, ?_, ?_, ?_, ?_⟩ <;> (intro hz; first | (exfalso; omega) | rfl))
    · have m_37 : 0 ≤ (g1 214 7) ∧ (g1 214 7) ≤ 8 := I_2.1 214 7
      have m_38 : g1 214 7 = g 214 7 := by rw [e_1]; exact zi_u_ni (by decide)
      have m_39 : 0 ≤ (g 214 7) ∧ (g 214 7) ≤ 8 := I.1 214 7
      exact hQ _ _ I_2 F_3 ⟨by omega, by omega⟩ (by refine zLoM_c (by assumption) ?_; refine ⟨?_, ?_, ?_, ?_, ?_, ?_, ?_, ?_, ?_, ?_, ?_, ?_, ?_, ?_⟩ <;> (intro hz; first | (exfalso; omega) | rfl))
  · have m_40 : 0 ≤ (g1 214 6) ∧ (g1 214 6) ≤ 10 := I_2.1 214 6
    have m_41 : g1 214 6 = g 214 6 := by rw [e_1]; exact zi_u_ni (by decide)
    have m_42 : 0 ≤ (g 214 6) ∧ (g 214 6) ≤ 10 := I.1 214 6
    exact hQ _ _ I_2 F_3 ⟨by omega, by omega⟩ (by refine zLoM_c (by assumption) ?_; refine ⟨?_, ?_, ?_, ?_, ?_, ?_, ?_, ?_, ?_, ?_, ?_, ?_, ?_, ?_⟩ <;> (intro hz; first | (exfalso; omega) | rfl))
