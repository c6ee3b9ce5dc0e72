-- by program (wip/gen/mkz.py)
-- SpoutNewsModel.goesBy()I
noncomputable def fr_M_goesBy (a : Nat) (i : Int) : Prop := a = 221 ∨ a = 235 ∨ a = 236 ∨ a = 237 ∨ a = 238 ∨ (a = 214 ∧ i = 43) ∨ (a = 215 ∧ 0 ≤ i ∧ i < 1) ∨ (a = 215 ∧ 1 ≤ i ∧ i < 2) ∨ (a = 215 ∧ 16 ≤ i ∧ i < 26) ∨ (a = 215 ∧ 2 ≤ i ∧ i < 3) ∨ (a = 215 ∧ 236 ≤ i ∧ i < 244) ∨ (a = 215 ∧ 244 ≤ i ∧ i < 252) ∨ (a = 215 ∧ 252 ≤ i ∧ i < 258) ∨ (a = 215 ∧ 258 ≤ i ∧ i < 264) ∨ (a = 215 ∧ 26 ≤ i ∧ i < 36) ∨ (a = 215 ∧ 3 ≤ i ∧ i < 4) ∨ (a = 215 ∧ 36 ≤ i ∧ i < 236) ∨ (a = 215 ∧ 4 ≤ i ∧ i < 5) ∨ (a = 215 ∧ 5 ≤ i ∧ i < 6) ∨ (a = 215 ∧ 6 ≤ i ∧ i < 16)
set_option maxRecDepth 100000 in
set_option maxHeartbeats 4000000 in
theorem k_M_goesBy_l2 {K67 : zi_M → Prop} {Q : Int → zi_M → Prop} {g0 : zi_M} (hK67 : ∀ (g : zi_M), zk_I g → zk_fr fr_M_goesBy g0 g → K67 g) (hQ : ∀ (v : Int) (g' : zi_M), zk_I g' → zk_fr fr_M_goesBy g0 g' → ((-2147483648) ≤ v ∧ v ≤ 2147483647) → Q v g') : ∀ (n : Nat) {l1 : Int} {g : zi_M}, zk_I g → zk_fr fr_M_goesBy g0 g → (0 ≤ l1 ∧ l1 ≤ 16) → 16 - l1 < (n : Int) → w_M_goesBy_l2 K67 Q n l1 g
  | 0, l1, g, I, F, b0, hm => by exfalso; omega
  | n + 1, l1, g, I, F, b0, hm => by
    unfold w_M_goesBy_l2
    have m_1 : 0 ≤ (g 214 39) ∧ (g 214 39) ≤ 16 := I.1 214 39
    refine ⟨⟨by omega, by omega⟩, ⟨by omega, by omega⟩, ?_⟩
    refine ⟨fun c13 => ?_, fun c13 => ?_⟩
    · exact hK67 _ I F
    · refine ⟨⟨by omega, by omega⟩, ?_⟩
      have m_2 : (-2147483648) ≤ (g 234 (4 * l1)) ∧ (g 234 (4 * l1)) ≤ 2147483647 := I.1 234 (4 * l1)
      have m_3 := zk_rng I 215 0
      refine ⟨⟨by omega, by omega⟩, ⟨by omega, by omega⟩, ?_⟩
      refine ⟨fun c12 => ?_, fun c12 => ?_⟩
      · exact k_M_goesBy_l2 hK67 hQ n I F ⟨by omega, by omega⟩ (by omega)
      · refine ⟨⟨by omega, by omega⟩, ?_⟩
        refine ⟨⟨by omega, by omega⟩, ?_⟩
        refine ⟨⟨by omega, by omega⟩, ?_⟩
        have m_4 : (-2147483648) ≤ (g 234 ((4 * l1) + 1)) ∧ (g 234 ((4 * l1) + 1)) ≤ 2147483647 := I.1 234 ((4 * l1) + 1)
        have m_5 : (-2147483648) ≤ (g 234 ((4 * l1) + 2)) ∧ (g 234 ((4 * l1) + 2)) ≤ 2147483647 := I.1 234 ((4 * l1) + 2)
        have m_6 : (-2147483648) ≤ (g 234 ((4 * l1) + 3)) ∧ (g 234 ((4 * l1) + 3)) ≤ 2147483647 := I.1 234 ((4 * l1) + 3)
        have hj := I.2.deeds l1 (by omega) (by omega)
        unfold zj_deed at hj
        refine k_M_acts I ⟨by omega, by omega⟩ ⟨by omega, by omega⟩ ⟨by omega, by omega⟩ (by omega) (by omega) (by omega) (by omega) (by omega) (by omega) (fun g10 I_7 F_8 => ?_)
        have F_9 : zk_fr fr_M_goesBy g0 g10 := zk_ft F F_8 (fun a i => (fun h => Or.elim h (fun h => (Or.inr (Or.inr (Or.inr (Or.inr (Or.inr (Or.inr (Or.inr (Or.inr (Or.inr (Or.inr (Or.inl h)))))))))))) (fun h => Or.elim h (fun h => (Or.inr (Or.inr (Or.inr (Or.inr (Or.inr (Or.inr (Or.inr (Or.inr (Or.inr (Or.inr (Or.inr (Or.inl h))))))))))))) (fun h => Or.elim h (fun h => (Or.inr (Or.inr (Or.inr (Or.inr (Or.inr (Or.inr (Or.inr (Or.inr (Or.inr (Or.inr (Or.inr (Or.inr (Or.inl h)))))))))))))) (fun h => Or.elim h (fun h => (Or.inr (Or.inr (Or.inr (Or.inr (Or.inr (Or.inr (Or.inr (Or.inr (Or.inr (Or.inr (Or.inr (Or.inr (Or.inr (Or.inl h))))))))))))))) (fun h => (Or.inr (Or.inr (Or.inr (Or.inr (Or.inr (Or.inr (Or.inr (Or.inr (Or.inr (Or.inr (Or.inr (Or.inr (Or.inr (Or.inr (Or.inr (Or.inr (Or.inr (Or.inr (Or.inr h)))))))))))))))))))))))))
        exact k_M_goesBy_l2 hK67 hQ n I_7 F_9 ⟨by omega, by omega⟩ (by omega)
set_option maxRecDepth 100000 in
set_option maxHeartbeats 4000000 in
theorem k_M_goesBy_l118 {K137 : zi_M → Prop} {Q : Int → zi_M → Prop} {g0 : zi_M} (hK137 : ∀ (g : zi_M), zk_I g → zk_fr fr_M_goesBy g0 g → K137 g) (hQ : ∀ (v : Int) (g' : zi_M), zk_I g' → zk_fr fr_M_goesBy g0 g' → ((-2147483648) ≤ v ∧ v ≤ 2147483647) → Q v g') : ∀ (n : Nat) {l2 : Int} {g : zi_M}, zk_I g → zk_fr fr_M_goesBy g0 g → (0 ≤ l2 ∧ l2 ≤ 10) → 10 - l2 < (n : Int) → w_M_goesBy_l118 K137 Q n l2 g
  | 0, l2, g, I, F, b0, hm => by exfalso; omega
  | n + 1, l2, g, I, F, b0, hm => by
    unfold w_M_goesBy_l118
    have m_15 : 0 ≤ (g 214 6) ∧ (g 214 6) ≤ 10 := I.1 214 6
    refine ⟨⟨by omega, by omega⟩, ⟨by omega, by omega⟩, ?_⟩
    refine ⟨fun c25 => ?_, fun c25 => ?_⟩
    · exact hK137 _ I F
    · refine k_M_isDry I ⟨by omega, by omega⟩ (fun g23 I_16 F_17 => ?_)
      have F_18 : zk_fr fr_M_goesBy g0 g23 := zk_ft F F_17 (fun a i => (fun h => Or.elim h (fun h => (Or.inl h)) (fun h => Or.elim h (fun h => (Or.inr (Or.inl h))) (fun h => Or.elim h (fun h => (Or.inr (Or.inr (Or.inl h)))) (fun h => Or.elim h (fun h => (Or.inr (Or.inr (Or.inr (Or.inr (Or.inr (Or.inr (Or.inr (Or.inr (Or.inl h)))))))))) (fun h => Or.elim h (fun h => (Or.inr (Or.inr (Or.inr (Or.inr (Or.inr (Or.inr (Or.inr (Or.inr (Or.inr (Or.inl h))))))))))) (fun h => Or.elim h (fun h => (Or.inr (Or.inr (Or.inr (Or.inr (Or.inr (Or.inr (Or.inr (Or.inr (Or.inr (Or.inr (Or.inr (Or.inr (Or.inr (Or.inr (Or.inl h)))))))))))))))) (fun h => (Or.inr (Or.inr (Or.inr (Or.inr (Or.inr (Or.inr (Or.inr (Or.inr (Or.inr (Or.inr (Or.inr (Or.inr (Or.inr (Or.inr (Or.inr (Or.inr (Or.inl h)))))))))))))))))))))))))
      exact k_M_goesBy_l118 hK137 hQ n I_16 F_18 ⟨by omega, by omega⟩ (by omega)
set_option maxRecDepth 100000 in
set_option maxHeartbeats 4000000 in
theorem k_M_goesBy_b137 {l1 : Int} {Q : Int → zi_M → Prop} {g : zi_M} {g0 : zi_M} (I : zk_I g) (F : zk_fr fr_M_goesBy g0 g) (p1 : (-2147483648) ≤ l1 ∧ l1 ≤ 2147483647) (hQ : ∀ (v : Int) (g' : zi_M), zk_I g' → zk_fr fr_M_goesBy g0 g' → ((-2147483648) ≤ v ∧ v ≤ 2147483647) → Q v g') : w_M_goesBy_b137 l1 g Q := by
  unfold w_M_goesBy_b137
  have m_24 := zk_rng I 215 0
  have m_25 := zi_r_w ((g 215 0) + 1)
  intro g27 e_21
  have I_22 : zk_I g27 := by rw [e_21]; exact zk_upd (zk_nl0 (i := 0) (by omega)).1 (zk_nl0 (i := 0) (by omega)).2 I ⟨by omega, by omega⟩
  have F_23 : zk_fr fr_M_goesBy g0 g27 := by rw [e_21]; exact zk_fu F (Or.inr (Or.inr (Or.inr (Or.inr (Or.inr (Or.inr (Or.inl ⟨rfl, by omega, by omega⟩)))))))
  exact hQ _ _ I_22 F_23 ⟨by omega, by omega⟩
set_option maxRecDepth 100000 in
set_option maxHeartbeats 4000000 in
theorem k_M_goesBy_b97 {Q : Int → zi_M → Prop} {g : zi_M} {g0 : zi_M} (I : zk_I g) (F : zk_fr fr_M_goesBy g0 g) (hQ : ∀ (v : Int) (g' : zi_M), zk_I g' → zk_fr fr_M_goesBy g0 g' → ((-2147483648) ≤ v ∧ v ≤ 2147483647) → Q v g') : w_M_goesBy_b97 g Q := by
  unfold w_M_goesBy_b97
  have m_14 := zk_rng I 215 3
  refine ⟨⟨by omega, by omega⟩, ?_⟩
  refine ⟨fun c32 => ?_, fun c32 => ?_⟩
  · refine ⟨((10 - 0 : Int).toNat + 1), k_M_goesBy_l118 (fun g26 I_19 F_20 => ?_) hQ ((10 - 0 : Int).toNat + 1) I F ⟨by omega, by omega⟩ (by omega)⟩
    exact k_M_goesBy_b137 I_19 F_20 ⟨by omega, by omega⟩ hQ
  · refine k_M_rains I (fun v29 g30 I_27 F_28 b_26 => ?_)
    have F_29 : zk_fr fr_M_goesBy g0 g30 := zk_ft F F_28 (fun a i => (fun h => Or.elim h (fun h => (Or.inl h)) (fun h => Or.elim h (fun h => (Or.inr (Or.inl h))) (fun h => Or.elim h (fun h => (Or.inr (Or.inr (Or.inl h)))) (fun h => Or.elim h (fun h => (Or.inr (Or.inr (Or.inr (Or.inl h))))) (fun h => Or.elim h (fun h => (Or.inr (Or.inr (Or.inr (Or.inr (Or.inl h)))))) (fun h => Or.elim h (fun h => (Or.inr (Or.inr (Or.inr (Or.inr (Or.inr (Or.inl h))))))) (fun h => Or.elim h (fun h => (Or.inr (Or.inr (Or.inr (Or.inr (Or.inr (Or.inr (Or.inr (Or.inl h))))))))) (fun h => Or.elim h (fun h => (Or.inr (Or.inr (Or.inr (Or.inr (Or.inr (Or.inr (Or.inr (Or.inr (Or.inl h)))))))))) (fun h => Or.elim h (fun h => (Or.inr (Or.inr (Or.inr (Or.inr (Or.inr (Or.inr (Or.inr (Or.inr (Or.inr (Or.inl h))))))))))) (fun h => Or.elim h (fun h => (Or.inr (Or.inr (Or.inr (Or.inr (Or.inr (Or.inr (Or.inr (Or.inr (Or.inr (Or.inr (Or.inr (Or.inr (Or.inr (Or.inl h))))))))))))))) (fun h => Or.elim h (fun h => (Or.inr (Or.inr (Or.inr (Or.inr (Or.inr (Or.inr (Or.inr (Or.inr (Or.inr (Or.inr (Or.inr (Or.inr (Or.inr (Or.inr (Or.inl h)))))))))))))))) (fun h => Or.elim h (fun h => (Or.inr (Or.inr (Or.inr (Or.inr (Or.inr (Or.inr (Or.inr (Or.inr (Or.inr (Or.inr (Or.inr (Or.inr (Or.inr (Or.inr (Or.inr (Or.inr (Or.inl h)))))))))))))))))) (fun h => Or.elim h (fun h => (Or.inr (Or.inr (Or.inr (Or.inr (Or.inr (Or.inr (Or.inr (Or.inr (Or.inr (Or.inr (Or.inr (Or.inr (Or.inr (Or.inr (Or.inr (Or.inr (Or.inr (Or.inl h))))))))))))))))))) (fun h => (Or.inr (Or.inr (Or.inr (Or.inr (Or.inr (Or.inr (Or.inr (Or.inr (Or.inr (Or.inr (Or.inr (Or.inr (Or.inr (Or.inr (Or.inr (Or.inr (Or.inr (Or.inr (Or.inl h))))))))))))))))))))))))))))))))))
    exact k_M_goesBy_b137 I_27 F_29 ⟨by omega, by omega⟩ hQ
set_option maxRecDepth 100000 in
set_option maxHeartbeats 4000000 in
theorem k_M_goesBy {g : zi_M} {Q : Int → zi_M → Prop} (I : zk_I g) (hQ : ∀ (v : Int) (g' : zi_M), zk_I g' → zk_fr fr_M_goesBy g g' → ((-2147483648) ≤ v ∧ v ≤ 2147483647) → Q v g') : w_M_goesBy g Q := by
  unfold w_M_goesBy
  refine ⟨((16 - 0 : Int).toNat + 1), k_M_goesBy_l2 (fun g14 I_10 F_11 => ?_) hQ ((16 - 0 : Int).toNat + 1) I (zk_f0 _) ⟨by omega, by omega⟩ (by omega)⟩
  have m_12 := zk_rng I_10 215 0
  refine k_M_weatherOf I_10 ⟨by omega, by omega⟩ (fun v15 b_13 => ?_)
  refine ⟨⟨by omega, by omega⟩, ?_⟩
  refine ⟨fun c37 => ?_, fun c37 => ?_⟩
  · exact k_M_goesBy_b97 I_10 F_11 hQ
  · refine k_M_weatherOf I_10 ⟨by omega, by omega⟩ (fun v33 b_30 => ?_)
    intro g36 e_31
    have I_32 : zk_I g36 := by rw [e_31]; exact zk_upd (zk_nl3 (i := 3) (by omega)).1 (zk_nl3 (i := 3) (by omega)).2 I_10 ⟨by omega, by omega⟩
    have F_33 : zk_fr fr_M_goesBy g g36 := by rw [e_31]; exact zk_fu F_11 (Or.inr (Or.inr (Or.inr (Or.inr (Or.inr (Or.inr (Or.inr (Or.inr (Or.inr (Or.inr (Or.inr (Or.inr (Or.inr (Or.inr (Or.inr (Or.inl ⟨rfl, by omega, by omega⟩))))))))))))))))
    exact k_M_goesBy_b97 I_32 F_33 hQ
-- SpoutNewsModel.days(I)I
noncomputable def fr_M_days (a : Nat) (i : Int) : Prop := a = 216 ∨ a = 221 ∨ a = 235 ∨ a = 236 ∨ a = 237 ∨ a = 238 ∨ (a = 214 ∧ i = 0) ∨ (a = 214 ∧ i = 3) ∨ (a = 214 ∧ i = 43) ∨ (a = 215 ∧ 0 ≤ i ∧ i < 1) ∨ (a = 215 ∧ 1 ≤ i ∧ i < 2) ∨ (a = 215 ∧ 16 ≤ i ∧ i < 26) ∨ (a = 215 ∧ 2 ≤ i ∧ i < 3) ∨ (a = 215 ∧ 236 ≤ i ∧ i < 244) ∨ (a = 215 ∧ 244 ≤ i ∧ i < 252) ∨ (a = 215 ∧ 252 ≤ i ∧ i < 258) ∨ (a = 215 ∧ 258 ≤ i ∧ i < 264) ∨ (a = 215 ∧ 26 ≤ i ∧ i < 36) ∨ (a = 215 ∧ 3 ≤ i ∧ i < 4) ∨ (a = 215 ∧ 36 ≤ i ∧ i < 236) ∨ (a = 215 ∧ 4 ≤ i ∧ i < 5) ∨ (a = 215 ∧ 5 ≤ i ∧ i < 6) ∨ (a = 215 ∧ 6 ≤ i ∧ i < 16)
set_option maxRecDepth 100000 in
set_option maxHeartbeats 4000000 in
theorem k_M_days_l36 {l1 : Int} {K58 : Int → zi_M → Prop} {Q : Int → zi_M → Prop} {g0 : zi_M} (q1 : 1 ≤ l1 ∧ l1 ≤ 60) (hK58 : ∀ (k2 : Int) (g : zi_M), zk_I g → zk_fr fr_M_days g0 g → ((-2147483648) ≤ k2 ∧ k2 ≤ 2147483647) → K58 k2 g) (hQ : ∀ (v : Int) (g' : zi_M), zk_I g' → zk_fr fr_M_days g0 g' → ((-2147483648) ≤ v ∧ v ≤ 2147483647) → Q v g') : ∀ (n : Nat) {l2 : Int} {l3 : Int} {g : zi_M}, zk_I g → zk_fr fr_M_days g0 g → ((-2147483648) ≤ l2 ∧ l2 ≤ 2147483647) → (0 ≤ l3 ∧ l3 ≤ 60) → 60 - l3 < (n : Int) → w_M_days_l36 l1 K58 Q n l2 l3 g
  | 0, l2, l3, g, I, F, b0, b1, hm => by exfalso; omega
  | n + 1, l2, l3, g, I, F, b0, b1, hm => by
    unfold w_M_days_l36
    refine ⟨⟨by omega, by omega⟩, ⟨by omega, by omega⟩, ?_⟩
    refine ⟨fun c13 => ?_, fun c13 => ?_⟩
    · exact hK58 _ _ I F ⟨by omega, by omega⟩
    · refine k_M_keepsAhead I (fun g8 I_11 F_12 => ?_)
      have F_13 : zk_fr fr_M_days g0 g8 := zk_ft F F_12 (fun a i => (fun h => Or.elim h (fun h => (Or.inl h)) (fun h => (Or.inr (Or.inr (Or.inr (Or.inr (Or.inr (Or.inr (Or.inr (Or.inl h)))))))))))
      refine k_M_goesBy I_11 (fun v10 g11 I_15 F_16 b_14 => ?_)
      have F_17 : zk_fr fr_M_days g0 g11 := zk_ft F_13 F_16 (fun a i => (fun h => Or.elim h (fun h => (Or.inr (Or.inl h))) (fun h => Or.elim h (fun h => (Or.inr (Or.inr (Or.inl h)))) (fun h => Or.elim h (fun h => (Or.inr (Or.inr (Or.inr (Or.inl h))))) (fun h => Or.elim h (fun h => (Or.inr (Or.inr (Or.inr (Or.inr (Or.inl h)))))) (fun h => Or.elim h (fun h => (Or.inr (Or.inr (Or.inr (Or.inr (Or.inr (Or.inl h))))))) (fun h => Or.elim h (fun h => (Or.inr (Or.inr (Or.inr (Or.inr (Or.inr (Or.inr (Or.inr (Or.inr (Or.inl h)))))))))) (fun h => Or.elim h (fun h => (Or.inr (Or.inr (Or.inr (Or.inr (Or.inr (Or.inr (Or.inr (Or.inr (Or.inr (Or.inl h))))))))))) (fun h => Or.elim h (fun h => (Or.inr (Or.inr (Or.inr (Or.inr (Or.inr (Or.inr (Or.inr (Or.inr (Or.inr (Or.inr (Or.inl h)))))))))))) (fun h => Or.elim h (fun h => (Or.inr (Or.inr (Or.inr (Or.inr (Or.inr (Or.inr (Or.inr (Or.inr (Or.inr (Or.inr (Or.inr (Or.inl h))))))))))))) (fun h => Or.elim h (fun h => (Or.inr (Or.inr (Or.inr (Or.inr (Or.inr (Or.inr (Or.inr (Or.inr (Or.inr (Or.inr (Or.inr (Or.inr (Or.inl h)))))))))))))) (fun h => Or.elim h (fun h => (Or.inr (Or.inr (Or.inr (Or.inr (Or.inr (Or.inr (Or.inr (Or.inr (Or.inr (Or.inr (Or.inr (Or.inr (Or.inr (Or.inl h))))))))))))))) (fun h => Or.elim h (fun h => (Or.inr (Or.inr (Or.inr (Or.inr (Or.inr (Or.inr (Or.inr (Or.inr (Or.inr (Or.inr (Or.inr (Or.inr (Or.inr (Or.inr (Or.inl h)))))))))))))))) (fun h => Or.elim h (fun h => (Or.inr (Or.inr (Or.inr (Or.inr (Or.inr (Or.inr (Or.inr (Or.inr (Or.inr (Or.inr (Or.inr (Or.inr (Or.inr (Or.inr (Or.inr (Or.inl h))))))))))))))))) (fun h => Or.elim h (fun h => (Or.inr (Or.inr (Or.inr (Or.inr (Or.inr (Or.inr (Or.inr (Or.inr (Or.inr (Or.inr (Or.inr (Or.inr (Or.inr (Or.inr (Or.inr (Or.inr (Or.inl h)))))))))))))))))) (fun h => Or.elim h (fun h => (Or.inr (Or.inr (Or.inr (Or.inr (Or.inr (Or.inr (Or.inr (Or.inr (Or.inr (Or.inr (Or.inr (Or.inr (Or.inr (Or.inr (Or.inr (Or.inr (Or.inr (Or.inl h))))))))))))))))))) (fun h => Or.elim h (fun h => (Or.inr (Or.inr (Or.inr (Or.inr (Or.inr (Or.inr (Or.inr (Or.inr (Or.inr (Or.inr (Or.inr (Or.inr (Or.inr (Or.inr (Or.inr (Or.inr (Or.inr (Or.inr (Or.inl h)))))))))))))))))))) (fun h => Or.elim h (fun h => (Or.inr (Or.inr (Or.inr (Or.inr (Or.inr (Or.inr (Or.inr (Or.inr (Or.inr (Or.inr (Or.inr (Or.inr (Or.inr (Or.inr (Or.inr (Or.inr (Or.inr (Or.inr (Or.inr (Or.inl h))))))))))))))))))))) (fun h => Or.elim h (fun h => (Or.inr (Or.inr (Or.inr (Or.inr (Or.inr (Or.inr (Or.inr (Or.inr (Or.inr (Or.inr (Or.inr (Or.inr (Or.inr (Or.inr (Or.inr (Or.inr (Or.inr (Or.inr (Or.inr (Or.inr (Or.inl h)))))))))))))))))))))) (fun h => Or.elim h (fun h => (Or.inr (Or.inr (Or.inr (Or.inr (Or.inr (Or.inr (Or.inr (Or.inr (Or.inr (Or.inr (Or.inr (Or.inr (Or.inr (Or.inr (Or.inr (Or.inr (Or.inr (Or.inr (Or.inr (Or.inr (Or.inr (Or.inl h))))))))))))))))))))))) (fun h => (Or.inr (Or.inr (Or.inr (Or.inr (Or.inr (Or.inr (Or.inr (Or.inr (Or.inr (Or.inr (Or.inr (Or.inr (Or.inr (Or.inr (Or.inr (Or.inr (Or.inr (Or.inr (Or.inr (Or.inr (Or.inr (Or.inr h)))))))))))))))))))))))))))))))))))))))))))
      have m_18 := zi_r_w (l2 + v10)
      exact k_M_days_l36 q1 hK58 hQ n I_15 F_17 ⟨by omega, by omega⟩ ⟨by omega, by omega⟩ (by omega)
set_option maxRecDepth 100000 in
set_option maxHeartbeats 4000000 in
theorem k_M_days {l1 : Int} {g : zi_M} {Q : Int → zi_M → Prop} (I : zk_I g) (p1 : (-2147483648) ≤ l1 ∧ l1 ≤ 2147483647) (hQ : ∀ (v : Int) (g' : zi_M), zk_I g' → zk_fr fr_M_days g g' → ((-2147483648) ≤ v ∧ v ≤ 2147483647) → Q v g') : w_M_days l1 g Q := by
  unfold w_M_days
  intro g1 e_1
  have I_2 : zk_I g1 := by rw [e_1]; exact zk_upd (L := (-2147483648)) (H := 2147483647) rfl rfl I ⟨by omega, by omega⟩
  have F_3 : zk_fr fr_M_days g g1 := by rw [e_1]; exact zk_fu (zk_f0 _) (Or.inr (Or.inr (Or.inr (Or.inr (Or.inr (Or.inr (Or.inl ⟨rfl, rfl⟩)))))))
  refine k_M_isIn I_2 ⟨by omega, by omega⟩ ⟨by omega, by omega⟩ ⟨by omega, by omega⟩ (fun v2 b_4 b_5 b_6 => ?_)
  refine ⟨fun c18 => ?_, fun c18 => ?_⟩
  · exact hQ _ _ I_2 F_3 ⟨by omega, by omega⟩
  · have m_7 := zk_rng I_2 215 0
    have m_8 : g1 215 0 = g 215 0 := by rw [e_1]; exact zi_u_ne (by decide)
    have m_9 := zk_rng I 215 0
    have m_10 := zi_r_w ((g1 215 0) + l1)
    refine ⟨fun c17 => ?_, fun c17 => ?_⟩
    · refine ⟨((60 - 0 : Int).toNat + 1), k_M_days_l36 (l1 := l1) ⟨by omega, by omega⟩ (fun k14 g15 I_19 F_20 b_21 => ?_) hQ ((60 - 0 : Int).toNat + 1) I_2 F_3 ⟨by omega, by omega⟩ ⟨by omega, by omega⟩ (by omega)⟩
      exact hQ _ _ I_19 F_20 ⟨by omega, by omega⟩
    · exact hQ _ _ I_2 F_3 ⟨by omega, by omega⟩
-- SpoutNews.feedFour(I)V
noncomputable def fr_S_feedFour (a : Nat) (i : Int) : Prop := a = 190 ∨ (a = 0 ∧ i = 8)
set_option maxRecDepth 100000 in
set_option maxHeartbeats 4000000 in
theorem k_S_feedFour_l3 {l1 : Int} {K49 : zi_M → Prop} {Q : Int → zi_M → Prop} {g0 : zi_M} (q1 : (-2147483648) ≤ l1 ∧ l1 ≤ 2147483647) (hK49 : ∀ (g : zi_M), zk_I g → zk_fr fr_S_feedFour g0 g → (g0 0 8 ≤ 396 → g 0 8 = g0 0 8 + 4) → K49 g) (hQ : ∀ g' : zi_M, zk_I g' → zk_fr fr_S_feedFour g0 g' → (g0 0 8 ≤ 396 → g' 0 8 = g0 0 8 + 4) → Q 0 g') : ∀ (n : Nat) {l2 : Int} {g : zi_M}, zk_I g → zk_fr fr_S_feedFour g0 g → ((-8) ≤ l2 ∧ l2 ≤ 24) → (8 * g 0 8 + l2 = 8 * g0 0 8 + 24) → (l2 % 8 = 0) → l2 - (-8) < (n : Int) → w_S_feedFour_l3 l1 K49 Q n l2 g
  | 0, l2, g, I, F, b0, b1, b2, hm => by exfalso; omega
  | n + 1, l2, g, I, F, b0, b1, b2, hm => by
    unfold w_S_feedFour_l3
    refine ⟨⟨by omega, by omega⟩, ?_⟩
    refine ⟨fun c7 => ?_, fun c7 => ?_⟩
    · have m_1 : 0 ≤ (g 0 8) ∧ (g 0 8) ≤ 400 := I.1 0 8
      exact hK49 _ I F (by omega)
    · have m_2 : 0 ≤ (g 0 8) ∧ (g 0 8) ≤ 400 := I.1 0 8
      refine ⟨⟨by omega, by omega⟩, ?_⟩
      refine ⟨fun c6 => ?_, fun c6 => ?_⟩
      · exact hK49 _ I F (by omega)
      · refine ⟨⟨by omega, by omega⟩, ?_⟩
        have m_6 := zi_ush_f l1 l2
        have m_7 := zi_r_and (zi_ush l1 l2) 255
        try have m_8 := (zi_and_f (zi_ush l1 l2) 255).2.1 ⟨by omega, by omega⟩
        try have m_9 := (zi_and_f (zi_ush l1 l2) 255).2.2 ⟨by omega, by omega⟩
        intro g4 e_3
        have I_4 : zk_I g4 := by rw [e_3]; exact zk_upd (L := 0) (H := 255) rfl rfl I ⟨by omega, by omega⟩
        have F_5 : zk_fr fr_S_feedFour g0 g4 := by rw [e_3]; exact zk_fu F (Or.inl rfl)
        have m_13 : 0 ≤ (g4 0 8) ∧ (g4 0 8) ≤ 400 := I_4.1 0 8
        have m_14 : g4 0 8 = g 0 8 := by rw [e_3]; exact zi_u_ne (by decide)
        intro g5 e_10
        have I_11 : zk_I g5 := by rw [e_10]; exact zk_upd (L := 0) (H := 400) rfl rfl I_4 ⟨by omega, by omega⟩
        have F_12 : zk_fr fr_S_feedFour g0 g5 := by rw [e_10]; exact zk_fu F_5 (Or.inr ⟨rfl, rfl⟩)
        have m_15 : 0 ≤ (g5 0 8) ∧ (g5 0 8) ≤ 400 := I_11.1 0 8
        have m_16 : g5 0 8 = (g4 0 8) + 1 := by rw [e_10]; exact zi_u_eq
        exact k_S_feedFour_l3 q1 hK49 hQ n I_11 F_12 ⟨by omega, by omega⟩ (by omega) (by omega) (by omega)
set_option maxRecDepth 100000 in
set_option maxHeartbeats 4000000 in
theorem k_S_feedFour {l1 : Int} {g : zi_M} {Q : Int → zi_M → Prop} (I : zk_I g) (p1 : (-2147483648) ≤ l1 ∧ l1 ≤ 2147483647) (hQ : ∀ g' : zi_M, zk_I g' → zk_fr fr_S_feedFour g g' → (g 0 8 ≤ 396 → g' 0 8 = g 0 8 + 4) → Q 0 g') : w_S_feedFour l1 g Q := by
  unfold w_S_feedFour
  have m_21 : 0 ≤ (g 0 8) ∧ (g 0 8) ≤ 400 := I.1 0 8
  refine ⟨((24 - (-8) : Int).toNat + 1), k_S_feedFour_l3 (l1 := l1) ⟨by omega, by omega⟩ (fun g8 I_17 F_18 b_19 => ?_) hQ ((24 - (-8) : Int).toNat + 1) I (zk_f0 _) ⟨by omega, by omega⟩ (by omega) (by omega) (by omega)⟩
  have m_20 : 0 ≤ (g8 0 8) ∧ (g8 0 8) ≤ 400 := I_17.1 0 8
  exact hQ _ I_17 F_18 (by omega)
-- SpoutNews.feed(IIIII)I
noncomputable def fr_S_feed (a : Nat) (i : Int) : Prop := a = 190 ∨ (a = 0 ∧ i = 8)
set_option maxRecDepth 100000 in
set_option maxHeartbeats 4000000 in
theorem k_S_feed {l1 : Int} {l2 : Int} {l3 : Int} {l4 : Int} {l5 : Int} {g : zi_M} {Q : Int → zi_M → Prop} (I : zk_I g) (p1 : (-2147483648) ≤ l1 ∧ l1 ≤ 2147483647) (p2 : (-2147483648) ≤ l2 ∧ l2 ≤ 2147483647) (p3 : (-2147483648) ≤ l3 ∧ l3 ≤ 2147483647) (p4 : (-2147483648) ≤ l4 ∧ l4 ≤ 2147483647) (p5 : (-2147483648) ≤ l5 ∧ l5 ≤ 2147483647) (hQ : ∀ (v : Int) (g' : zi_M), zk_I g' → zk_fr fr_S_feed g g' → ((-1) ≤ v ∧ v ≤ 400) → (g 0 8 ≤ 380 → v = g 0 8 + 20 ∧ g' 0 8 = g 0 8 + 20) → (380 < g 0 8 → v = -1 ∧ g' 0 8 = g 0 8) → Q v g') : w_S_feed l1 l2 l3 l4 l5 g Q := by
  unfold w_S_feed
  have m_1 : 0 ≤ (g 0 8) ∧ (g 0 8) ≤ 400 := I.1 0 8
  refine ⟨⟨by omega, by omega⟩, ?_⟩
  refine ⟨fun c17 => ?_, fun c17 => ?_⟩
  · refine k_S_feedFour I ⟨by omega, by omega⟩ (fun g3 I_3 F_4 b_2 => ?_)
    have F_5 : zk_fr fr_S_feed g g3 := zk_ft (zk_f0 _) F_4 (fun a i => (fun h => Or.elim h (fun h => (Or.inl h)) (fun h => (Or.inr h))))
    have m_6 : 0 ≤ (g3 0 8) ∧ (g3 0 8) ≤ 400 := I_3.1 0 8
    refine k_S_feedFour I_3 ⟨by omega, by omega⟩ (fun g6 I_8 F_9 b_7 => ?_)
    have F_10 : zk_fr fr_S_feed g g6 := zk_ft F_5 F_9 (fun a i => (fun h => Or.elim h (fun h => (Or.inl h)) (fun h => (Or.inr h))))
    have m_11 : 0 ≤ (g6 0 8) ∧ (g6 0 8) ≤ 400 := I_8.1 0 8
    refine k_S_feedFour I_8 ⟨by omega, by omega⟩ (fun g9 I_13 F_14 b_12 => ?_)
    have F_15 : zk_fr fr_S_feed g g9 := zk_ft F_10 F_14 (fun a i => (fun h => Or.elim h (fun h => (Or.inl h)) (fun h => (Or.inr h))))
    have m_16 : 0 ≤ (g9 0 8) ∧ (g9 0 8) ≤ 400 := I_13.1 0 8
    refine k_S_feedFour I_13 ⟨by omega, by omega⟩ (fun g12 I_18 F_19 b_17 => ?_)
    have F_20 : zk_fr fr_S_feed g g12 := zk_ft F_15 F_19 (fun a i => (fun h => Or.elim h (fun h => (Or.inl h)) (fun h => (Or.inr h))))
    have m_21 : 0 ≤ (g12 0 8) ∧ (g12 0 8) ≤ 400 := I_18.1 0 8
    refine k_S_feedFour I_18 ⟨by omega, by omega⟩ (fun g15 I_23 F_24 b_22 => ?_)
    have F_25 : zk_fr fr_S_feed g g15 := zk_ft F_20 F_24 (fun a i => (fun h => Or.elim h (fun h => (Or.inl h)) (fun h => (Or.inr h))))
    have m_26 : 0 ≤ (g15 0 8) ∧ (g15 0 8) ≤ 400 := I_23.1 0 8
    exact hQ _ _ I_23 F_25 ⟨by omega, by omega⟩ (by omega) (by omega)
  · exact hQ _ _ I (zk_f0 _) ⟨by omega, by omega⟩ (by omega) (by omega)
-- SpoutNewsModel.types(I)V
noncomputable def fr_M_types (a : Nat) (i : Int) : Prop := a = 222 ∨ (a = 214 ∧ i = 13)
set_option maxRecDepth 100000 in
set_option maxHeartbeats 4000000 in
theorem k_M_types_l3 {l1 : Int} {K39 : zi_M → Prop} {Q : Int → zi_M → Prop} {g0 : zi_M} (q1 : (-2147483648) ≤ l1 ∧ l1 ≤ 2147483647) (hK39 : ∀ (g : zi_M), zk_I g → zk_fr fr_M_types g0 g → (g 214 13 = g0 214 13 + 4) → K39 g) (hQ : ∀ g' : zi_M, zk_I g' → zk_fr fr_M_types g0 g' → (g' 214 13 = g0 214 13 + 4) → Q 0 g') : ∀ (n : Nat) {l2 : Int} {g : zi_M}, zk_I g → zk_fr fr_M_types g0 g → ((-8) ≤ l2 ∧ l2 ≤ 24) → (8 * g 214 13 + l2 = 8 * g0 214 13 + 24) → (l2 % 8 = 0) → (8 * g 214 13 + l2 ≤ 3192) → l2 - (-8) < (n : Int) → w_M_types_l3 l1 K39 Q n l2 g
  | 0, l2, g, I, F, b0, b1, b2, b3, hm => by exfalso; omega
  | n + 1, l2, g, I, F, b0, b1, b2, b3, hm => by
    unfold w_M_types_l3
    refine ⟨⟨by omega, by omega⟩, ?_⟩
    refine ⟨fun c5 => ?_, fun c5 => ?_⟩
    · have m_1 : 0 ≤ (g 214 13) ∧ (g 214 13) ≤ 400 := I.1 214 13
      exact hK39 _ I F (by omega)
    · have m_5 : 0 ≤ (g 214 13) ∧ (g 214 13) ≤ 400 := I.1 214 13
      refine ⟨⟨by omega, by omega⟩, ?_⟩
      have m_6 := zi_r_shr l1 l2
      try have m_7 := (zi_shr_f l1 l2).2 ⟨by omega, by omega⟩
      have m_8 := zi_r_and (zi_shr l1 l2) 255
      try have m_9 := (zi_and_f (zi_shr l1 l2) 255).2.1 ⟨by omega, by omega⟩
      try have m_10 := (zi_and_f (zi_shr l1 l2) 255).2.2 ⟨by omega, by omega⟩
      intro g3 e_2
      have I_3 : zk_I g3 := by rw [e_2]; exact zk_upd (L := 0) (H := 255) rfl rfl I ⟨by omega, by omega⟩
      have F_4 : zk_fr fr_M_types g0 g3 := by rw [e_2]; exact zk_fu F (Or.inl rfl)
      have m_14 : 0 ≤ (g3 214 13) ∧ (g3 214 13) ≤ 400 := I_3.1 214 13
      have m_15 : g3 214 13 = g 214 13 := by rw [e_2]; exact zi_u_ne (by decide)
      intro g4 e_11
      have I_12 : zk_I g4 := by rw [e_11]; exact zk_upd (L := 0) (H := 400) rfl rfl I_3 ⟨by omega, by omega⟩
      have F_13 : zk_fr fr_M_types g0 g4 := by rw [e_11]; exact zk_fu F_4 (Or.inr ⟨rfl, rfl⟩)
      have m_16 : 0 ≤ (g4 214 13) ∧ (g4 214 13) ≤ 400 := I_12.1 214 13
      have m_17 : g4 214 13 = (g3 214 13) + 1 := by rw [e_11]; exact zi_u_eq
      exact k_M_types_l3 q1 hK39 hQ n I_12 F_13 ⟨by omega, by omega⟩ (by omega) (by omega) (by omega) (by omega)
set_option maxRecDepth 100000 in
set_option maxHeartbeats 4000000 in
theorem k_M_types {l1 : Int} {g : zi_M} {Q : Int → zi_M → Prop} (I : zk_I g) (p1 : (-2147483648) ≤ l1 ∧ l1 ≤ 2147483647) (px0 : g 214 13 ≤ 396) (hQ : ∀ g' : zi_M, zk_I g' → zk_fr fr_M_types g g' → (g' 214 13 = g 214 13 + 4) → Q 0 g') : w_M_types l1 g Q := by
  unfold w_M_types
  have m_22 : 0 ≤ (g 214 13) ∧ (g 214 13) ≤ 400 := I.1 214 13
  refine ⟨((24 - (-8) : Int).toNat + 1), k_M_types_l3 (l1 := l1) ⟨by omega, by omega⟩ (fun g6 I_18 F_19 b_20 => ?_) hQ ((24 - (-8) : Int).toNat + 1) I (zk_f0 _) ⟨by omega, by omega⟩ (by omega) (by omega) (by omega) (by omega)⟩
  have m_21 : 0 ≤ (g6 214 13) ∧ (g6 214 13) ≤ 400 := I_18.1 214 13
  exact hQ _ I_18 F_19 (by omega)
-- SpoutNewsModel.feed(IIIII)I
noncomputable def fr_M_feed (a : Nat) (i : Int) : Prop := a = 222 ∨ (a = 214 ∧ i = 0) ∨ (a = 214 ∧ i = 13)
set_option maxRecDepth 100000 in
set_option maxHeartbeats 4000000 in
theorem k_M_feed {l1 : Int} {l2 : Int} {l3 : Int} {l4 : Int} {l5 : Int} {g : zi_M} {Q : Int → zi_M → Prop} (I : zk_I g) (p1 : (-2147483648) ≤ l1 ∧ l1 ≤ 2147483647) (p2 : (-2147483648) ≤ l2 ∧ l2 ≤ 2147483647) (p3 : (-2147483648) ≤ l3 ∧ l3 ≤ 2147483647) (p4 : (-2147483648) ≤ l4 ∧ l4 ≤ 2147483647) (p5 : (-2147483648) ≤ l5 ∧ l5 ≤ 2147483647) (hQ : ∀ (v : Int) (g' : zi_M), zk_I g' → zk_fr fr_M_feed g g' → ((-1) ≤ v ∧ v ≤ 400) → (g 214 13 ≤ 380 → v = g 214 13 + 20 ∧ g' 214 13 = g 214 13 + 20) → (380 < g 214 13 → v = -1 ∧ g' 214 13 = g 214 13) → Q v g') : w_M_feed l1 l2 l3 l4 l5 g Q := by
  unfold w_M_feed
  intro g1 e_1
  have I_2 : zk_I g1 := by rw [e_1]; exact zk_upd (L := (-2147483648)) (H := 2147483647) rfl rfl I ⟨by omega, by omega⟩
  have F_3 : zk_fr fr_M_feed g g1 := by rw [e_1]; exact zk_fu (zk_f0 _) (Or.inr (Or.inl ⟨rfl, rfl⟩))
  have m_4 : 0 ≤ (g1 214 13) ∧ (g1 214 13) ≤ 400 := I_2.1 214 13
  have m_5 : g1 214 13 = g 214 13 := by rw [e_1]; exact zi_u_ni (by decide)
  have m_6 : 0 ≤ (g 214 13) ∧ (g 214 13) ≤ 400 := I.1 214 13
  refine ⟨⟨by omega, by omega⟩, ?_⟩
  refine ⟨fun c18 => ?_, fun c18 => ?_⟩
  · refine k_M_types I_2 ⟨by omega, by omega⟩ (by omega) (fun g4 I_8 F_9 b_7 => ?_)
    have F_10 : zk_fr fr_M_feed g g4 := zk_ft F_3 F_9 (fun a i => (fun h => Or.elim h (fun h => (Or.inl h)) (fun h => (Or.inr (Or.inr h)))))
    have m_11 : 0 ≤ (g4 214 13) ∧ (g4 214 13) ≤ 400 := I_8.1 214 13
    refine k_M_types I_8 ⟨by omega, by omega⟩ (by omega) (fun g7 I_13 F_14 b_12 => ?_)
    have F_15 : zk_fr fr_M_feed g g7 := zk_ft F_10 F_14 (fun a i => (fun h => Or.elim h (fun h => (Or.inl h)) (fun h => (Or.inr (Or.inr h)))))
    have m_16 : 0 ≤ (g7 214 13) ∧ (g7 214 13) ≤ 400 := I_13.1 214 13
    refine k_M_types I_13 ⟨by omega, by omega⟩ (by omega) (fun g10 I_18 F_19 b_17 => ?_)
    have F_20 : zk_fr fr_M_feed g g10 := zk_ft F_15 F_19 (fun a i => (fun h => Or.elim h (fun h => (Or.inl h)) (fun h => (Or.inr (Or.inr h)))))
    have m_21 : 0 ≤ (g10 214 13) ∧ (g10 214 13) ≤ 400 := I_18.1 214 13
    refine k_M_types I_18 ⟨by omega, by omega⟩ (by omega) (fun g13 I_23 F_24 b_22 => ?_)
    have F_25 : zk_fr fr_M_feed g g13 := zk_ft F_20 F_24 (fun a i => (fun h => Or.elim h (fun h => (Or.inl h)) (fun h => (Or.inr (Or.inr h)))))
    have m_26 : 0 ≤ (g13 214 13) ∧ (g13 214 13) ≤ 400 := I_23.1 214 13
    refine k_M_types I_23 ⟨by omega, by omega⟩ (by omega) (fun g16 I_28 F_29 b_27 => ?_)
    have F_30 : zk_fr fr_M_feed g g16 := zk_ft F_25 F_29 (fun a i => (fun h => Or.elim h (fun h => (Or.inl h)) (fun h => (Or.inr (Or.inr h)))))
    have m_31 : 0 ≤ (g16 214 13) ∧ (g16 214 13) ≤ 400 := I_28.1 214 13
    exact hQ _ _ I_28 F_30 ⟨by omega, by omega⟩ (by omega) (by omega)
  · exact hQ _ _ I_2 F_3 ⟨by omega, by omega⟩ (by omega) (by omega)
-- SpoutNews.end(I)Z
noncomputable def fr_S_end (a : Nat) (i : Int) : Prop := (a = 0 ∧ i = 8)
set_option maxRecDepth 100000 in
set_option maxHeartbeats 4000000 in
theorem k_S_end {l1 : Int} {g : zi_M} {Q : Int → zi_M → Prop} (I : zk_I g) (p1 : (-2147483648) ≤ l1 ∧ l1 ≤ 2147483647) (hQ : ∀ (v : Int) (g' : zi_M), zk_I g' → zk_fr fr_S_end g g' → (0 ≤ v ∧ v ≤ 1) → (0 ≤ l1 ∧ l1 ≤ g 0 8 → v = 1 ∧ g' 0 8 = l1) → (¬ (0 ≤ l1 ∧ l1 ≤ g 0 8) → v = 0 ∧ g' 0 8 = g 0 8) → Q v g') : w_S_end l1 g Q := by
  unfold w_S_end
  refine ⟨⟨by omega, by omega⟩, ?_⟩
  refine ⟨fun c5 => ?_, fun c5 => ?_⟩
  · have m_1 : 0 ≤ (g 0 8) ∧ (g 0 8) ≤ 400 := I.1 0 8
    exact hQ _ _ I (zk_f0 _) ⟨by omega, by omega⟩ (by omega) (by omega)
  · have m_2 : 0 ≤ (g 0 8) ∧ (g 0 8) ≤ 400 := I.1 0 8
    refine ⟨⟨by omega, by omega⟩, ?_⟩
    refine ⟨fun c4 => ?_, fun c4 => ?_⟩
    · intro g3 e_3
      have I_4 : zk_I g3 := by rw [e_3]; exact zk_upd (L := 0) (H := 400) rfl rfl I ⟨by omega, by omega⟩
      have F_5 : zk_fr fr_S_end g g3 := by rw [e_3]; exact zk_fu (zk_f0 _) ⟨rfl, rfl⟩
      have m_6 : 0 ≤ (g3 0 8) ∧ (g3 0 8) ≤ 400 := I_4.1 0 8
      have m_7 : g3 0 8 = l1 := by rw [e_3]; exact zi_u_eq
      exact hQ _ _ I_4 F_5 ⟨by omega, by omega⟩ (by omega) (by omega)
    · exact hQ _ _ I (zk_f0 _) ⟨by omega, by omega⟩ (by omega) (by omega)
-- SpoutNewsModel.end(I)Z
noncomputable def fr_M_end (a : Nat) (i : Int) : Prop := (a = 214 ∧ i = 0) ∨ (a = 214 ∧ i = 13)
set_option maxRecDepth 100000 in
set_option maxHeartbeats 4000000 in
theorem k_M_end {l1 : Int} {g : zi_M} {Q : Int → zi_M → Prop} (I : zk_I g) (p1 : (-2147483648) ≤ l1 ∧ l1 ≤ 2147483647) (hQ : ∀ (v : Int) (g' : zi_M), zk_I g' → zk_fr fr_M_end g g' → (0 ≤ v ∧ v ≤ 1) → (0 ≤ l1 ∧ l1 ≤ g 214 13 → v = 1 ∧ g' 214 13 = l1) → (¬ (0 ≤ l1 ∧ l1 ≤ g 214 13) → v = 0 ∧ g' 214 13 = g 214 13) → Q v g') : w_M_end l1 g Q := by
  unfold w_M_end
  intro g1 e_1
  have I_2 : zk_I g1 := by rw [e_1]; exact zk_upd (L := (-2147483648)) (H := 2147483647) rfl rfl I ⟨by omega, by omega⟩
  have F_3 : zk_fr fr_M_end g g1 := by rw [e_1]; exact zk_fu (zk_f0 _) (Or.inl ⟨rfl, rfl⟩)
  have m_4 : 0 ≤ (g1 214 13) ∧ (g1 214 13) ≤ 400 := I_2.1 214 13
  have m_5 : g1 214 13 = g 214 13 := by rw [e_1]; exact zi_u_ni (by decide)
  have m_6 : 0 ≤ (g 214 13) ∧ (g 214 13) ≤ 400 := I.1 214 13
  refine k_M_isIn I_2 ⟨by omega, by omega⟩ ⟨by omega, by omega⟩ ⟨by omega, by omega⟩ (fun v2 b_7 b_8 b_9 => ?_)
  refine ⟨fun c6 => ?_, fun c6 => ?_⟩
  · intro g5 e_10
    have I_11 : zk_I g5 := by rw [e_10]; exact zk_upd (L := 0) (H := 400) rfl rfl I_2 ⟨by omega, by omega⟩
    have F_12 : zk_fr fr_M_end g g5 := by rw [e_10]; exact zk_fu F_3 (Or.inr ⟨rfl, rfl⟩)
    have m_13 : 0 ≤ (g5 214 13) ∧ (g5 214 13) ≤ 400 := I_11.1 214 13
    have m_14 : g5 214 13 = l1 := by rw [e_10]; exact zi_u_eq
    exact hQ _ _ I_11 F_12 ⟨by omega, by omega⟩ (by omega) (by omega)
  · exact hQ _ _ I_2 F_3 ⟨by omega, by omega⟩ (by omega) (by omega)
-- SpoutNews$Tokens.clear()V
noncomputable def fr_Tokens_clear (a : Nat) (i : Int) : Prop := (a = 191 ∧ i = 3) ∨ (a = 191 ∧ i = 4) ∨ (a = 191 ∧ i = 5) ∨ (a = 191 ∧ i = 6)
set_option maxRecDepth 100000 in
set_option maxHeartbeats 4000000 in
theorem k_Tokens_clear {g : zi_M} {Q : Int → zi_M → Prop} (I : zk_I g) (hQ : ∀ g' : zi_M, zk_I g' → zk_fr fr_Tokens_clear g g' → Q 0 g') : w_Tokens_clear g Q := by
  unfold w_Tokens_clear
  intro g1 e_1
  have I_2 : zk_I g1 := by rw [e_1]; exact zk_upd (L := 0) (H := 401) rfl rfl I ⟨by omega, by omega⟩
  have F_3 : zk_fr fr_Tokens_clear g g1 := by rw [e_1]; exact zk_fu (zk_f0 _) (Or.inl ⟨rfl, rfl⟩)
  intro g2 e_4
  have I_5 : zk_I g2 := by rw [e_4]; exact zk_upd (L := 0) (H := 401) rfl rfl I_2 ⟨by omega, by omega⟩
  have F_6 : zk_fr fr_Tokens_clear g g2 := by rw [e_4]; exact zk_fu F_3 (Or.inr (Or.inl ⟨rfl, rfl⟩))
  intro g3 e_7
  have I_8 : zk_I g3 := by rw [e_7]; exact zk_upd (L := 0) (H := 3) rfl rfl I_5 ⟨by omega, by omega⟩
  have F_9 : zk_fr fr_Tokens_clear g g3 := by rw [e_7]; exact zk_fu F_6 (Or.inr (Or.inr (Or.inl ⟨rfl, rfl⟩)))
  intro g4 e_10
  have I_11 : zk_I g4 := by rw [e_10]; exact zk_upd (L := (-1)) (H := 400) rfl rfl I_8 ⟨by omega, by omega⟩
  have F_12 : zk_fr fr_Tokens_clear g g4 := by rw [e_10]; exact zk_fu F_9 (Or.inr (Or.inr (Or.inr ⟨rfl, rfl⟩)))
  exact hQ _ I_11 F_12
-- SpoutNews$Tokens.isLetter(I)Z
set_option maxRecDepth 100000 in
set_option maxHeartbeats 4000000 in
theorem k_Tokens_isLetter_b12 {l0 : Int} {Q : Int → zi_M → Prop} {g : zi_M} (I : zk_I g) (p0 : 0 ≤ l0 ∧ l0 ≤ 255) (ix0 : ¬ (97 ≤ l0 ∧ l0 ≤ 122)) (hQ : ∀ v : Int, (l0 < 97 → l0 < 65 → v = 0) → (l0 < 97 → 65 ≤ l0 → 90 < l0 → v = 0) → (l0 < 97 → 65 ≤ l0 → l0 ≤ 90 → v = 1) → (97 ≤ l0 → l0 ≤ 122 → v = 1) → (97 ≤ l0 → 122 < l0 → l0 < 65 → v = 0) → (97 ≤ l0 → 122 < l0 → 65 ≤ l0 → 90 < l0 → v = 0) → (97 ≤ l0 → 122 < l0 → 65 ≤ l0 → l0 ≤ 90 → v = 1) → Q v g) : w_Tokens_isLetter_b12 l0 g Q := by
  unfold w_Tokens_isLetter_b12
  refine ⟨⟨by omega, by omega⟩, ?_⟩
  refine ⟨fun c4 => ?_, fun c4 => ?_⟩
  · exact hQ _ (by intros; omega) (by intros; omega) (by intros; omega) (by intros; omega) (by intros; omega) (by intros; omega) (by intros; omega)
  · refine ⟨fun c3 => ?_, fun c3 => ?_⟩
    · exact hQ _ (by intros; omega) (by intros; omega) (by intros; omega) (by intros; omega) (by intros; omega) (by intros; omega) (by intros; omega)
    · exact hQ _ (by intros; omega) (by intros; omega) (by intros; omega) (by intros; omega) (by intros; omega) (by intros; omega) (by intros; omega)
set_option maxRecDepth 100000 in
set_option maxHeartbeats 4000000 in
theorem k_Tokens_isLetter {l0 : Int} {g : zi_M} {Q : Int → zi_M → Prop} (I : zk_I g) (p0 : 0 ≤ l0 ∧ l0 ≤ 255) (hQ : ∀ v : Int, (l0 < 97 → l0 < 65 → v = 0) → (l0 < 97 → 65 ≤ l0 → 90 < l0 → v = 0) → (l0 < 97 → 65 ≤ l0 → l0 ≤ 90 → v = 1) → (97 ≤ l0 → l0 ≤ 122 → v = 1) → (97 ≤ l0 → 122 < l0 → l0 < 65 → v = 0) → (97 ≤ l0 → 122 < l0 → 65 ≤ l0 → 90 < l0 → v = 0) → (97 ≤ l0 → 122 < l0 → 65 ≤ l0 → l0 ≤ 90 → v = 1) → Q v g) : w_Tokens_isLetter l0 g Q := by
  unfold w_Tokens_isLetter
  refine ⟨⟨by omega, by omega⟩, ?_⟩
  refine ⟨fun c6 => ?_, fun c6 => ?_⟩
  · exact k_Tokens_isLetter_b12 I ⟨by omega, by omega⟩ (by omega) hQ
  · refine ⟨fun c5 => ?_, fun c5 => ?_⟩
    · exact hQ _ (by intros; omega) (by intros; omega) (by intros; omega) (by intros; omega) (by intros; omega) (by intros; omega) (by intros; omega)
    · exact k_Tokens_isLetter_b12 I ⟨by omega, by omega⟩ (by omega) hQ
-- SpoutNews$Tokens.isDigit(I)Z
set_option maxRecDepth 100000 in
set_option maxHeartbeats 4000000 in
theorem k_Tokens_isDigit {l0 : Int} {g : zi_M} {Q : Int → zi_M → Prop} (I : zk_I g) (p0 : 0 ≤ l0 ∧ l0 ≤ 255) (hQ : ∀ v : Int, (l0 < 48 → v = 0) → (48 ≤ l0 → 57 < l0 → v = 0) → (48 ≤ l0 → l0 ≤ 57 → v = 1) → Q v g) : w_Tokens_isDigit l0 g Q := by
  unfold w_Tokens_isDigit
  refine ⟨⟨by omega, by omega⟩, ?_⟩
  refine ⟨fun c3 => ?_, fun c3 => ?_⟩
  · exact hQ _ (by intros; omega) (by intros; omega) (by intros; omega)
  · refine ⟨fun c2 => ?_, fun c2 => ?_⟩
    · exact hQ _ (by intros; omega) (by intros; omega) (by intros; omega)
    · exact hQ _ (by intros; omega) (by intros; omega) (by intros; omega)
-- SpoutNews$Tokens.isSignOfLaw(I)Z
set_option maxRecDepth 100000 in
set_option maxHeartbeats 4000000 in
theorem k_Tokens_isSignOfLaw {l0 : Int} {g : zi_M} {Q : Int → zi_M → Prop} (I : zk_I g) (p0 : 0 ≤ l0 ∧ l0 ≤ 255) (hQ : ∀ v : Int, (l0 = 59 → v = 1) → (¬ l0 = 59 → l0 = 43 → v = 1) → (¬ l0 = 59 → ¬ l0 = 43 → l0 = 45 → v = 1) → (¬ l0 = 59 → ¬ l0 = 43 → ¬ l0 = 45 → l0 = 42 → v = 1) → (¬ l0 = 59 → ¬ l0 = 43 → ¬ l0 = 45 → ¬ l0 = 42 → l0 = 47 → v = 1) → (¬ l0 = 59 → ¬ l0 = 43 → ¬ l0 = 45 → ¬ l0 = 42 → ¬ l0 = 47 → l0 = 40 → v = 1) → (¬ l0 = 59 → ¬ l0 = 43 → ¬ l0 = 45 → ¬ l0 = 42 → ¬ l0 = 47 → ¬ l0 = 40 → l0 = 41 → v = 1) → (¬ l0 = 59 → ¬ l0 = 43 → ¬ l0 = 45 → ¬ l0 = 42 → ¬ l0 = 47 → ¬ l0 = 40 → ¬ l0 = 41 → l0 = 60 → v = 1) → (¬ l0 = 59 → ¬ l0 = 43 → ¬ l0 = 45 → ¬ l0 = 42 → ¬ l0 = 47 → ¬ l0 = 40 → ¬ l0 = 41 → ¬ l0 = 60 → l0 = 61 → v = 1) → (¬ l0 = 59 → ¬ l0 = 43 → ¬ l0 = 45 → ¬ l0 = 42 → ¬ l0 = 47 → ¬ l0 = 40 → ¬ l0 = 41 → ¬ l0 = 60 → ¬ l0 = 61 → ¬ l0 = 62 → v = 0) → (¬ l0 = 59 → ¬ l0 = 43 → ¬ l0 = 45 → ¬ l0 = 42 → ¬ l0 = 47 → ¬ l0 = 40 → ¬ l0 = 41 → ¬ l0 = 60 → ¬ l0 = 61 → l0 = 62 → v = 1) → Q v g) : w_Tokens_isSignOfLaw l0 g Q := by
  unfold w_Tokens_isSignOfLaw
  refine ⟨⟨by omega, by omega⟩, ?_⟩
  refine ⟨fun c11 => ?_, fun c11 => ?_⟩
  · exact hQ _ (by intros; omega) (by intros; omega) (by intros; omega) (by intros; omega) (by intros; omega) (by intros; omega) (by intros; omega) (by intros; omega) (by intros; omega) (by intros; omega) (by intros; omega)
  · refine ⟨fun c10 => ?_, fun c10 => ?_⟩
    · exact hQ _ (by intros; omega) (by intros; omega) (by intros; omega) (by intros; omega) (by intros; omega) (by intros; omega) (by intros; omega) (by intros; omega) (by intros; omega) (by intros; omega) (by intros; omega)
    · refine ⟨fun c9 => ?_, fun c9 => ?_⟩
      · exact hQ _ (by intros; omega) (by intros; omega) (by intros; omega) (by intros; omega) (by intros; omega) (by intros; omega) (by intros; omega) (by intros; omega) (by intros; omega) (by intros; omega) (by intros; omega)
      · refine ⟨fun c8 => ?_, fun c8 => ?_⟩
        · exact hQ _ (by intros; omega) (by intros; omega) (by intros; omega) (by intros; omega) (by intros; omega) (by intros; omega) (by intros; omega) (by intros; omega) (by intros; omega) (by intros; omega) (by intros; omega)
        · refine ⟨fun c7 => ?_, fun c7 => ?_⟩
          · exact hQ _ (by intros; omega) (by intros; omega) (by intros; omega) (by intros; omega) (by intros; omega) (by intros; omega) (by intros; omega) (by intros; omega) (by intros; omega) (by intros; omega) (by intros; omega)
          · refine ⟨fun c6 => ?_, fun c6 => ?_⟩
            · exact hQ _ (by intros; omega) (by intros; omega) (by intros; omega) (by intros; omega) (by intros; omega) (by intros; omega) (by intros; omega) (by intros; omega) (by intros; omega) (by intros; omega) (by intros; omega)
            · refine ⟨fun c5 => ?_, fun c5 => ?_⟩
              · exact hQ _ (by intros; omega) (by intros; omega) (by intros; omega) (by intros; omega) (by intros; omega) (by intros; omega) (by intros; omega) (by intros; omega) (by intros; omega) (by intros; omega) (by intros; omega)
              · refine ⟨fun c4 => ?_, fun c4 => ?_⟩
                · exact hQ _ (by intros; omega) (by intros; omega) (by intros; omega) (by intros; omega) (by intros; omega) (by intros; omega) (by intros; omega) (by intros; omega) (by intros; omega) (by intros; omega) (by intros; omega)
                · refine ⟨fun c3 => ?_, fun c3 => ?_⟩
                  · exact hQ _ (by intros; omega) (by intros; omega) (by intros; omega) (by intros; omega) (by intros; omega) (by intros; omega) (by intros; omega) (by intros; omega) (by intros; omega) (by intros; omega) (by intros; omega)
                  · refine ⟨fun c2 => ?_, fun c2 => ?_⟩
                    · exact hQ _ (by intros; omega) (by intros; omega) (by intros; omega) (by intros; omega) (by intros; omega) (by intros; omega) (by intros; omega) (by intros; omega) (by intros; omega) (by intros; omega) (by intros; omega)
                    · exact hQ _ (by intros; omega) (by intros; omega) (by intros; omega) (by intros; omega) (by intros; omega) (by intros; omega) (by intros; omega) (by intros; omega) (by intros; omega) (by intros; omega) (by intros; omega)
-- SpoutNews$Tokens.add(III)V
noncomputable def fr_Tokens_add (a : Nat) (i : Int) : Prop := a = 192 ∨ a = 193 ∨ a = 194 ∨ (a = 191 ∧ i = 3)
set_option maxRecDepth 100000 in
set_option maxHeartbeats 4000000 in
theorem k_Tokens_add {l1 : Int} {l2 : Int} {l3 : Int} {g : zi_M} {Q : Int → zi_M → Prop} (I : zk_I g) (p1 : 0 ≤ l1 ∧ l1 ≤ 4) (p2 : (-1) ≤ l2 ∧ l2 ≤ 9999) (p3 : 0 ≤ l3 ∧ l3 ≤ 400) (hQ : ∀ g' : zi_M, zk_I g' → zk_fr fr_Tokens_add g g' → Q 0 g') : w_Tokens_add l1 l2 l3 g Q := by
  unfold w_Tokens_add
  have m_1 : 0 ≤ (g 191 3) ∧ (g 191 3) ≤ 401 := I.1 191 3
  refine ⟨⟨by omega, by omega⟩, ?_⟩
  refine ⟨fun c9 => ?_, fun c9 => ?_⟩
  · exact hQ _ I (zk_f0 _)
  · refine ⟨⟨by omega, by omega⟩, ?_⟩
    intro g3 e_2
    have I_3 : zk_I g3 := by rw [e_2]; exact zk_upd (L := 0) (H := 4) rfl rfl I ⟨by omega, by omega⟩
    have F_4 : zk_fr fr_Tokens_add g g3 := by rw [e_2]; exact zk_fu (zk_f0 _) (Or.inl rfl)
    have m_8 : 0 ≤ (g3 191 3) ∧ (g3 191 3) ≤ 401 := I_3.1 191 3
    have m_9 : g3 191 3 = g 191 3 := by rw [e_2]; exact zi_u_ne (by decide)
    refine ⟨⟨by omega, by omega⟩, ?_⟩
    intro g5 e_5
    have I_6 : zk_I g5 := by rw [e_5]; exact zk_upd (L := (-1)) (H := 9999) rfl rfl I_3 ⟨by omega, by omega⟩
    have F_7 : zk_fr fr_Tokens_add g g5 := by rw [e_5]; exact zk_fu F_4 (Or.inr (Or.inl rfl))
    have m_13 : 0 ≤ (g5 191 3) ∧ (g5 191 3) ≤ 401 := I_6.1 191 3
    have m_14 : g5 191 3 = g3 191 3 := by rw [e_5]; exact zi_u_ne (by decide)
    refine ⟨⟨by omega, by omega⟩, ?_⟩
    intro g7 e_10
    have I_11 : zk_I g7 := by rw [e_10]; exact zk_upd (L := 0) (H := 400) rfl rfl I_6 ⟨by omega, by omega⟩
    have F_12 : zk_fr fr_Tokens_add g g7 := by rw [e_10]; exact zk_fu F_7 (Or.inr (Or.inr (Or.inl rfl)))
    have m_18 : 0 ≤ (g7 191 3) ∧ (g7 191 3) ≤ 401 := I_11.1 191 3
    have m_19 : g7 191 3 = g5 191 3 := by rw [e_10]; exact zi_u_ne (by decide)
    intro g8 e_15
    have I_16 : zk_I g8 := by rw [e_15]; exact zk_upd (L := 0) (H := 401) rfl rfl I_11 ⟨by omega, by omega⟩
    have F_17 : zk_fr fr_Tokens_add g g8 := by rw [e_15]; exact zk_fu F_12 (Or.inr (Or.inr (Or.inr ⟨rfl, rfl⟩)))
    exact hQ _ I_16 F_17
-- SpoutNews$Tokens.numberAt([III)I
set_option maxRecDepth 100000 in
set_option maxHeartbeats 4000000 in
theorem k_Tokens_numberAt_l5 {g : zi_M} (I : zk_I g) {l1 : Int} {l2 : Int} {K29 : zi_M → Prop} {K50 : Int → zi_M → Prop} {Q : Int → zi_M → Prop} (q1 : 0 ≤ l1 ∧ l1 ≤ 399) (q2 : 1 ≤ l2 ∧ l2 ≤ 400) (hK29 : K29 g) (hK50 : ∀ (k3 : Int), (0 ≤ k3 ∧ k3 ≤ 9999) → K50 k3 g) (hQ : ∀ v : Int, ((-1) ≤ v ∧ v ≤ 9999) → Q v g) : ∀ (n : Nat) {l3 : Int} {l4 : Int}, (0 ≤ l3 ∧ l3 ≤ 9999) → (0 ≤ l4 ∧ l4 ≤ 400) → (l1 ≤ l4) → (l4 ≤ l1 + 4) → (l4 = l1 → l3 = 0) → (l4 = l1 + 1 → l3 ≤ 9) → (l4 = l1 + 2 → l3 ≤ 99) → (l4 = l1 + 3 → l3 ≤ 999) → 400 - l4 < (n : Int) → w_Tokens_numberAt_l5 l1 l2 K29 K50 Q n l3 l4 g
  | 0, l3, l4, b0, b1, b2, b3, b4, b5, b6, b7, hm => by exfalso; omega
  | n + 1, l3, l4, b0, b1, b2, b3, b4, b5, b6, b7, hm => by
    unfold w_Tokens_numberAt_l5
    refine ⟨⟨by omega, by omega⟩, ⟨by omega, by omega⟩, ?_⟩
    refine ⟨fun c10 => ?_, fun c10 => ?_⟩
    · exact hK50 _ ⟨by omega, by omega⟩
    · refine ⟨⟨by omega, by omega⟩, ?_⟩
      have m_1 : 0 ≤ (g 190 l4) ∧ (g 190 l4) ≤ 255 := I.1 190 l4
      refine k_Tokens_isDigit I ⟨by omega, by omega⟩ (fun v4 b_2 b_3 b_4 => ?_)
      refine ⟨fun c9 => ?_, fun c9 => ?_⟩
      · exact hK50 _ ⟨by omega, by omega⟩
      · refine ⟨⟨by omega, by omega⟩, ?_⟩
        refine ⟨fun c8 => ?_, fun c8 => ?_⟩
        · exact k_Tokens_numberAt_l5 I q1 q2 hK29 hK50 hQ n ⟨by omega, by omega⟩ ⟨by omega, by omega⟩ (by omega) (by omega) (by omega) (by omega) (by omega) (by omega) (by omega)
        · exact hK29
set_option maxRecDepth 100000 in
set_option maxHeartbeats 4000000 in
theorem k_Tokens_numberAt {l1 : Int} {l2 : Int} {g : zi_M} {Q : Int → zi_M → Prop} (I : zk_I g) (p1 : 0 ≤ l1 ∧ l1 ≤ 399) (p2 : 1 ≤ l2 ∧ l2 ≤ 400) (hQ : ∀ v : Int, ((-1) ≤ v ∧ v ≤ 9999) → Q v g) : w_Tokens_numberAt l1 l2 g Q := by
  unfold w_Tokens_numberAt
  refine ⟨((400 - l1 : Int).toNat + 1), k_Tokens_numberAt_l5 (l1 := l1) (l2 := l2) I ⟨by omega, by omega⟩ ⟨by omega, by omega⟩ (?_) (fun k12 b_5 => ?_) hQ ((400 - l1 : Int).toNat + 1) ⟨by omega, by omega⟩ ⟨by omega, by omega⟩ (by omega) (by omega) (by omega) (by omega) (by omega) (by omega) (by omega)⟩
  · exact hQ _ ⟨by omega, by omega⟩
  · exact hQ _ ⟨by omega, by omega⟩
-- SpoutNews$Tokens.sameLetters([IILjava/lang/String;II)Z
set_option maxRecDepth 100000 in
set_option maxHeartbeats 4000000 in
theorem k_Tokens_sameLetters_l3 {g : zi_M} {r2 : Nat} (hr2 : zs_str r2) (I : zk_I g) {l1 : Int} {l3 : Int} {l4 : Int} {K27 : zi_M → Prop} {K35 : zi_M → Prop} {Q : Int → zi_M → Prop} (q1 : 0 ≤ l1 ∧ l1 ≤ 399) (q3 : 0 ≤ l3 ∧ l3 ≤ 80) (q4 : 0 ≤ l4 ∧ l4 ≤ 80) (hK27 : K27 g) (hK35 : K35 g) (hQ : ∀ v : Int, (0 ≤ v ∧ v ≤ 1) → Q v g) : ∀ (n : Nat) {l5 : Int}, (0 ≤ l5 ∧ l5 ≤ 80) → (l1 + l4 - l3 ≤ 400) → (l4 ≤ zs_sl r2) → (l3 ≤ l5) → 80 - l5 < (n : Int) → w_Tokens_sameLetters_l3 r2 l1 l3 l4 K27 K35 Q n l5 g
  | 0, l5, b0, b1, b2, b3, hm => by exfalso; omega
  | n + 1, l5, b0, b1, b2, b3, hm => by
    unfold w_Tokens_sameLetters_l3
    refine ⟨⟨by omega, by omega⟩, ⟨by omega, by omega⟩, ?_⟩
    refine ⟨fun c7 => ?_, fun c7 => ?_⟩
    · exact hK35
    · refine ⟨⟨by omega, by omega⟩, ?_⟩
      have m_1 := zs_slb hr2
      refine ⟨⟨by omega, by omega⟩, ?_⟩
      have m_2 : 0 ≤ (g 190 ((l1 + l5) - l3)) ∧ (g 190 ((l1 + l5) - l3)) ≤ 255 := I.1 190 ((l1 + l5) - l3)
      refine ⟨⟨by omega, by omega⟩, ?_⟩
      have m_3 := zs_scb r2 l5
      refine ⟨fun c6 => ?_, fun c6 => ?_⟩
      · exact k_Tokens_sameLetters_l3 hr2 I q1 q3 q4 hK27 hK35 hQ n ⟨by omega, by omega⟩ (by omega) (by omega) (by omega) (by omega)
      · exact hK27
set_option maxRecDepth 100000 in
set_option maxHeartbeats 4000000 in
theorem k_Tokens_sameLetters {r2 : Nat} (hr2 : zs_str r2) {l1 : Int} {l3 : Int} {l4 : Int} {g : zi_M} {Q : Int → zi_M → Prop} (I : zk_I g) (p1 : 0 ≤ l1 ∧ l1 ≤ 399) (p3 : 0 ≤ l3 ∧ l3 ≤ 80) (p4 : 0 ≤ l4 ∧ l4 ≤ 80) (px0 : l1 + l4 - l3 ≤ 400) (px1 : l4 ≤ zs_sl r2) (px2 : l3 ≤ l4) (hQ : ∀ v : Int, (0 ≤ v ∧ v ≤ 1) → Q v g) : w_Tokens_sameLetters r2 l1 l3 l4 g Q := by
  unfold w_Tokens_sameLetters
  refine ⟨((80 - l3 : Int).toNat + 1), k_Tokens_sameLetters_l3 (l1 := l1) (l3 := l3) (l4 := l4) hr2 I ⟨by omega, by omega⟩ ⟨by omega, by omega⟩ ⟨by omega, by omega⟩ (?_) (?_) hQ ((80 - l3 : Int).toNat + 1) ⟨by omega, by omega⟩ (by omega) (by omega) (by omega) (by omega)⟩
  · exact hQ _ ⟨by omega, by omega⟩
  · exact hQ _ ⟨by omega, by omega⟩
-- SpoutNews$Tokens.keywordAt([IIILjava/lang/String;)I
set_option maxRecDepth 100000 in
set_option maxHeartbeats 4000000 in
theorem k_Tokens_keywordAt_b74 {r3 : Nat} (hr3 : zs_str r3) {l1 : Int} {l2 : Int} {l4 : Int} {l5 : Int} {l6 : Int} {s0 : Int} {H : Int → Int → Int → zi_M → Prop} {K94 : Int → zi_M → Prop} {K112 : zi_M → Prop} {Q : Int → zi_M → Prop} {g : zi_M} (I : zk_I g) (p1 : 0 ≤ l1 ∧ l1 ≤ 399) (p2 : 1 ≤ l2 ∧ l2 ≤ 400) (p4 : 0 ≤ l4 ∧ l4 ≤ 81) (p5 : 0 ≤ l5 ∧ l5 ≤ 81) (p6 : 0 ≤ l6 ∧ l6 ≤ 80) (ix0 : l5 ≤ l6) (ix1 : l4 ≤ l6) (ix2 : l6 ≤ zs_sl r3) (ix3 : ¬ s0 = 0 → l1 + l6 - l5 ≤ l2) (ps0 : 0 ≤ s0 ∧ s0 ≤ 1) (M : Int) (hM : 81 - l6 ≤ M) (hH : ∀ (m4 : Int) (m5 : Int) (m6 : Int), (0 ≤ m4 ∧ m4 ≤ 81) → (0 ≤ m5 ∧ m5 ≤ 81) → (0 ≤ m6 ∧ m6 ≤ 81) → (m5 ≤ m6) → (m4 ≤ m6) → 81 - m6 < M → H m4 m5 m6 g) (hK94 : ∀ (k4 : Int), (0 ≤ k4 ∧ k4 ≤ 81) → K94 k4 g) (hK112 : K112 g) (hQ : ∀ v : Int, ((-1) ≤ v ∧ v ≤ 81) → Q v g) : w_Tokens_keywordAt_b74 r3 l1 l2 l4 l5 l6 s0 g H K94 K112 Q := by
  unfold w_Tokens_keywordAt_b74
  refine ⟨⟨by omega, by omega⟩, ?_⟩
  refine ⟨fun c9 => ?_, fun c9 => ?_⟩
  · exact hH _ _ _ ⟨by omega, by omega⟩ ⟨by omega, by omega⟩ ⟨by omega, by omega⟩ (by omega) (by omega) (by omega)
  · refine k_Tokens_sameLetters hr3 I ⟨by omega, by omega⟩ ⟨by omega, by omega⟩ ⟨by omega, by omega⟩ (by omega) (by omega) (by omega) (fun v5 b_2 => ?_)
    refine ⟨fun c8 => ?_, fun c8 => ?_⟩
    · exact hH _ _ _ ⟨by omega, by omega⟩ ⟨by omega, by omega⟩ ⟨by omega, by omega⟩ (by omega) (by omega) (by omega)
    · exact hK94 _ ⟨by omega, by omega⟩
set_option maxRecDepth 100000 in
set_option maxHeartbeats 4000000 in
theorem k_Tokens_keywordAt_b38 {r3 : Nat} (hr3 : zs_str r3) {l1 : Int} {l2 : Int} {l4 : Int} {l5 : Int} {l6 : Int} {H : Int → Int → Int → zi_M → Prop} {K94 : Int → zi_M → Prop} {K112 : zi_M → Prop} {Q : Int → zi_M → Prop} {g : zi_M} (I : zk_I g) (p1 : 0 ≤ l1 ∧ l1 ≤ 399) (p2 : 1 ≤ l2 ∧ l2 ≤ 400) (p4 : 0 ≤ l4 ∧ l4 ≤ 81) (p5 : 0 ≤ l5 ∧ l5 ≤ 81) (p6 : 0 ≤ l6 ∧ l6 ≤ 80) (ix0 : l5 ≤ l6) (ix1 : l4 ≤ l6) (ix2 : l6 ≤ zs_sl r3) (M : Int) (hM : 81 - l6 ≤ M) (hH : ∀ (m4 : Int) (m5 : Int) (m6 : Int), (0 ≤ m4 ∧ m4 ≤ 81) → (0 ≤ m5 ∧ m5 ≤ 81) → (0 ≤ m6 ∧ m6 ≤ 81) → (m5 ≤ m6) → (m4 ≤ m6) → 81 - m6 < M → H m4 m5 m6 g) (hK94 : ∀ (k4 : Int), (0 ≤ k4 ∧ k4 ≤ 81) → K94 k4 g) (hK112 : K112 g) (hQ : ∀ v : Int, ((-1) ≤ v ∧ v ≤ 81) → Q v g) : w_Tokens_keywordAt_b38 r3 l1 l2 l4 l5 l6 g H K94 K112 Q := by
  unfold w_Tokens_keywordAt_b38
  refine ⟨⟨by omega, by omega⟩, ⟨by omega, by omega⟩, ?_⟩
  refine ⟨fun c16 => ?_, fun c16 => ?_⟩
  · exact k_Tokens_keywordAt_b74 hr3 I ⟨by omega, by omega⟩ ⟨by omega, by omega⟩ ⟨by omega, by omega⟩ ⟨by omega, by omega⟩ ⟨by omega, by omega⟩ (by omega) (by omega) (by omega) (by omega) ⟨by omega, by omega⟩ M (by omega) hH hK94 hK112 hQ
  · refine ⟨fun c15 => ?_, fun c15 => ?_⟩
    · exact k_Tokens_keywordAt_b74 hr3 I ⟨by omega, by omega⟩ ⟨by omega, by omega⟩ ⟨by omega, by omega⟩ ⟨by omega, by omega⟩ ⟨by omega, by omega⟩ (by omega) (by omega) (by omega) (by omega) ⟨by omega, by omega⟩ M (by omega) hH hK94 hK112 hQ
    · refine ⟨⟨by omega, by omega⟩, ?_⟩
      have m_3 : 0 ≤ (g 190 ((l1 + l6) - l5)) ∧ (g 190 ((l1 + l6) - l5)) ≤ 255 := I.1 190 ((l1 + l6) - l5)
      refine k_Tokens_isLetter I ⟨by omega, by omega⟩ (fun v11 b_4 b_5 b_6 b_7 b_8 b_9 b_10 => ?_)
      refine ⟨fun c14 => ?_, fun c14 => ?_⟩
      · exact k_Tokens_keywordAt_b74 hr3 I ⟨by omega, by omega⟩ ⟨by omega, by omega⟩ ⟨by omega, by omega⟩ ⟨by omega, by omega⟩ ⟨by omega, by omega⟩ (by omega) (by omega) (by omega) (by omega) ⟨by omega, by omega⟩ M (by omega) hH hK94 hK112 hQ
      · exact k_Tokens_keywordAt_b74 hr3 I ⟨by omega, by omega⟩ ⟨by omega, by omega⟩ ⟨by omega, by omega⟩ ⟨by omega, by omega⟩ ⟨by omega, by omega⟩ (by omega) (by omega) (by omega) (by omega) ⟨by omega, by omega⟩ M (by omega) hH hK94 hK112 hQ
set_option maxRecDepth 100000 in
set_option maxHeartbeats 4000000 in
theorem k_Tokens_keywordAt_l9 {g : zi_M} {r3 : Nat} (hr3 : zs_str r3) (I : zk_I g) {l1 : Int} {l2 : Int} {K94 : Int → zi_M → Prop} {K112 : zi_M → Prop} {Q : Int → zi_M → Prop} (q1 : 0 ≤ l1 ∧ l1 ≤ 399) (q2 : 1 ≤ l2 ∧ l2 ≤ 400) (hK94 : ∀ (k4 : Int), (0 ≤ k4 ∧ k4 ≤ 81) → K94 k4 g) (hK112 : K112 g) (hQ : ∀ v : Int, ((-1) ≤ v ∧ v ≤ 81) → Q v g) : ∀ (n : Nat) {l4 : Int} {l5 : Int} {l6 : Int}, (0 ≤ l4 ∧ l4 ≤ 81) → (0 ≤ l5 ∧ l5 ≤ 81) → (0 ≤ l6 ∧ l6 ≤ 81) → (l5 ≤ l6) → (l4 ≤ l6) → 81 - l6 < (n : Int) → w_Tokens_keywordAt_l9 r3 l1 l2 K94 K112 Q n l4 l5 l6 g
  | 0, l4, l5, l6, b0, b1, b2, b3, b4, hm => by exfalso; omega
  | n + 1, l4, l5, l6, b0, b1, b2, b3, b4, hm => by
    unfold w_Tokens_keywordAt_l9
    refine ⟨⟨by omega, by omega⟩, ?_⟩
    have m_1 := zs_slb hr3
    refine ⟨fun c20 => ?_, fun c20 => ?_⟩
    · exact hK112
    · refine ⟨fun c19 => ?_, fun c19 => ?_⟩
      · exact k_Tokens_keywordAt_b38 hr3 I ⟨by omega, by omega⟩ ⟨by omega, by omega⟩ ⟨by omega, by omega⟩ ⟨by omega, by omega⟩ ⟨by omega, by omega⟩ (by omega) (by omega) (by omega) (n : Int) (by omega) (fun _ _ _ b0 b1 b2 b3 b4 hm => k_Tokens_keywordAt_l9 hr3 I q1 q2 hK94 hK112 hQ n b0 b1 b2 b3 b4 hm) hK94 hK112 hQ
      · refine ⟨⟨by omega, by omega⟩, ?_⟩
        have m_11 := zs_scb r3 l6
        refine ⟨fun c18 => ?_, fun c18 => ?_⟩
        · exact k_Tokens_keywordAt_l9 hr3 I q1 q2 hK94 hK112 hQ n ⟨by omega, by omega⟩ ⟨by omega, by omega⟩ ⟨by omega, by omega⟩ (by omega) (by omega) (by omega)
        · exact k_Tokens_keywordAt_b38 hr3 I ⟨by omega, by omega⟩ ⟨by omega, by omega⟩ ⟨by omega, by omega⟩ ⟨by omega, by omega⟩ ⟨by omega, by omega⟩ (by omega) (by omega) (by omega) (n : Int) (by omega) (fun _ _ _ b0 b1 b2 b3 b4 hm => k_Tokens_keywordAt_l9 hr3 I q1 q2 hK94 hK112 hQ n b0 b1 b2 b3 b4 hm) hK94 hK112 hQ
set_option maxRecDepth 100000 in
set_option maxHeartbeats 4000000 in
theorem k_Tokens_keywordAt {r3 : Nat} (hr3 : zs_str r3) {l1 : Int} {l2 : Int} {g : zi_M} {Q : Int → zi_M → Prop} (I : zk_I g) (p1 : 0 ≤ l1 ∧ l1 ≤ 399) (p2 : 1 ≤ l2 ∧ l2 ≤ 400) (hQ : ∀ v : Int, ((-1) ≤ v ∧ v ≤ 81) → Q v g) : w_Tokens_keywordAt r3 l1 l2 g Q := by
  unfold w_Tokens_keywordAt
  refine ⟨((81 - 0 : Int).toNat + 1), k_Tokens_keywordAt_l9 (l1 := l1) (l2 := l2) hr3 I ⟨by omega, by omega⟩ ⟨by omega, by omega⟩ (fun k21 b_12 => ?_) (?_) hQ ((81 - 0 : Int).toNat + 1) ⟨by omega, by omega⟩ ⟨by omega, by omega⟩ ⟨by omega, by omega⟩ (by omega) (by omega) (by omega)⟩
  · exact hQ _ ⟨by omega, by omega⟩
  · exact hQ _ ⟨by omega, by omega⟩
-- SpoutNews$Tokens.split([IILjava/lang/String;)V
noncomputable def fr_Tokens_split (r3 : Nat) (a : Nat) (i : Int) : Prop := a = 192 ∨ a = 193 ∨ a = 194 ∨ (a = 191 ∧ i = 3) ∨ (a = 191 ∧ i = 4) ∨ (a = 191 ∧ i = 5) ∨ (a = 191 ∧ i = 6)
set_option maxRecDepth 100000 in
set_option maxHeartbeats 4000000 in
theorem k_Tokens_split_b67 {r3 : Nat} (hr3 : zs_str r3) {l2 : Int} {l4 : Int} {s0 : Int} {H : Int → zi_M → Prop} {K209 : zi_M → Prop} {Q : Int → zi_M → Prop} {g : zi_M} {g0 : zi_M} (I : zk_I g) (F : zk_fr (fr_Tokens_split r3) g0 g) (p2 : 1 ≤ l2 ∧ l2 ≤ 400) (p4 : 0 ≤ l4 ∧ l4 ≤ 399) (ps0 : 0 ≤ s0 ∧ s0 ≤ 1) (M : Int) (hM : 400 - l4 ≤ M) (hH : ∀ (m4 : Int) (g : zi_M), zk_I g → zk_fr (fr_Tokens_split r3) g0 g → (0 ≤ m4 ∧ m4 ≤ 400) → 400 - m4 < M → H m4 g) (hK209 : ∀ (g : zi_M), zk_I g → zk_fr (fr_Tokens_split r3) g0 g → K209 g) (hQ : ∀ g' : zi_M, zk_I g' → zk_fr (fr_Tokens_split r3) g0 g' → Q 0 g') : w_Tokens_split_b67 r3 l2 l4 s0 g H K209 Q := by
  unfold w_Tokens_split_b67
  refine ⟨⟨by omega, by omega⟩, ?_⟩
  refine ⟨fun c51 => ?_, fun c51 => ?_⟩
  · exact hH _ _ I F ⟨by omega, by omega⟩ (by omega)
  · refine ⟨⟨by omega, by omega⟩, ?_⟩
    have m_4 : 0 ≤ (g 190 l4) ∧ (g 190 l4) ≤ 255 := I.1 190 l4
    refine ⟨⟨by omega, by omega⟩, ?_⟩
    refine ⟨fun c50 => ?_, fun c50 => ?_⟩
    · exact hH _ _ I F ⟨by omega, by omega⟩ (by omega)
    · refine ⟨fun c49 => ?_, fun c49 => ?_⟩
      · refine k_Tokens_isLetter I ⟨by omega, by omega⟩ (fun v9 b_5 b_6 b_7 b_8 b_9 b_10 b_11 => ?_)
        refine ⟨fun c48 => ?_, fun c48 => ?_⟩
        · refine k_Tokens_isDigit I ⟨by omega, by omega⟩ (fun v12 b_12 b_13 b_14 => ?_)
          refine ⟨fun c36 => ?_, fun c36 => ?_⟩
          · refine k_Tokens_isSignOfLaw I ⟨by omega, by omega⟩ (fun v15 b_15 b_16 b_17 b_18 b_19 b_20 b_21 b_22 b_23 b_24 b_25 => ?_)
            refine ⟨fun c24 => ?_, fun c24 => ?_⟩
            · refine k_Tokens_add I ⟨by omega, by omega⟩ ⟨by omega, by omega⟩ ⟨by omega, by omega⟩ (fun g19 I_26 F_27 => ?_)
              have F_28 : zk_fr (fr_Tokens_split r3) g0 g19 := zk_ft F F_27 (fun a i => (fun h => Or.elim h (fun h => (Or.inl h)) (fun h => Or.elim h (fun h => (Or.inr (Or.inl h))) (fun h => Or.elim h (fun h => (Or.inr (Or.inr (Or.inl h)))) (fun h => (Or.inr (Or.inr (Or.inr (Or.inl h)))))))))
              exact hH _ _ I_26 F_28 ⟨by omega, by omega⟩ (by omega)
            · refine k_Tokens_add I ⟨by omega, by omega⟩ ⟨by omega, by omega⟩ ⟨by omega, by omega⟩ (fun g22 I_29 F_30 => ?_)
              have F_31 : zk_fr (fr_Tokens_split r3) g0 g22 := zk_ft F F_30 (fun a i => (fun h => Or.elim h (fun h => (Or.inl h)) (fun h => Or.elim h (fun h => (Or.inr (Or.inl h))) (fun h => Or.elim h (fun h => (Or.inr (Or.inr (Or.inl h)))) (fun h => (Or.inr (Or.inr (Or.inr (Or.inl h)))))))))
              exact hH _ _ I_29 F_31 ⟨by omega, by omega⟩ (by omega)
          · refine k_Tokens_numberAt I ⟨by omega, by omega⟩ ⟨by omega, by omega⟩ (fun v25 b_32 => ?_)
            refine ⟨⟨by omega, by omega⟩, ?_⟩
            refine ⟨fun c35 => ?_, fun c35 => ?_⟩
            · refine k_Tokens_add I ⟨by omega, by omega⟩ ⟨by omega, by omega⟩ ⟨by omega, by omega⟩ (fun g30 I_33 F_34 => ?_)
              have F_35 : zk_fr (fr_Tokens_split r3) g0 g30 := zk_ft F F_34 (fun a i => (fun h => Or.elim h (fun h => (Or.inl h)) (fun h => Or.elim h (fun h => (Or.inr (Or.inl h))) (fun h => Or.elim h (fun h => (Or.inr (Or.inr (Or.inl h)))) (fun h => (Or.inr (Or.inr (Or.inr (Or.inl h)))))))))
              exact hH _ _ I_33 F_35 ⟨by omega, by omega⟩ (by omega)
            · refine k_Tokens_add I ⟨by omega, by omega⟩ ⟨by omega, by omega⟩ ⟨by omega, by omega⟩ (fun g33 I_36 F_37 => ?_)
              have F_38 : zk_fr (fr_Tokens_split r3) g0 g33 := zk_ft F F_37 (fun a i => (fun h => Or.elim h (fun h => (Or.inl h)) (fun h => Or.elim h (fun h => (Or.inr (Or.inl h))) (fun h => Or.elim h (fun h => (Or.inr (Or.inr (Or.inl h)))) (fun h => (Or.inr (Or.inr (Or.inr (Or.inl h)))))))))
              exact hH _ _ I_36 F_38 ⟨by omega, by omega⟩ (by omega)
        · refine k_Tokens_keywordAt hr3 I ⟨by omega, by omega⟩ ⟨by omega, by omega⟩ (fun v37 b_39 => ?_)
          refine ⟨⟨by omega, by omega⟩, ?_⟩
          refine ⟨fun c47 => ?_, fun c47 => ?_⟩
          · refine k_Tokens_add I ⟨by omega, by omega⟩ ⟨by omega, by omega⟩ ⟨by omega, by omega⟩ (fun g42 I_40 F_41 => ?_)
            have F_42 : zk_fr (fr_Tokens_split r3) g0 g42 := zk_ft F F_41 (fun a i => (fun h => Or.elim h (fun h => (Or.inl h)) (fun h => Or.elim h (fun h => (Or.inr (Or.inl h))) (fun h => Or.elim h (fun h => (Or.inr (Or.inr (Or.inl h)))) (fun h => (Or.inr (Or.inr (Or.inr (Or.inl h)))))))))
            exact hH _ _ I_40 F_42 ⟨by omega, by omega⟩ (by omega)
          · refine k_Tokens_add I ⟨by omega, by omega⟩ ⟨by omega, by omega⟩ ⟨by omega, by omega⟩ (fun g45 I_43 F_44 => ?_)
            have F_45 : zk_fr (fr_Tokens_split r3) g0 g45 := zk_ft F F_44 (fun a i => (fun h => Or.elim h (fun h => (Or.inl h)) (fun h => Or.elim h (fun h => (Or.inr (Or.inl h))) (fun h => Or.elim h (fun h => (Or.inr (Or.inr (Or.inl h)))) (fun h => (Or.inr (Or.inr (Or.inr (Or.inl h)))))))))
            exact hH _ _ I_43 F_45 ⟨by omega, by omega⟩ (by omega)
      · exact hH _ _ I F ⟨by omega, by omega⟩ (by omega)
set_option maxRecDepth 100000 in
set_option maxHeartbeats 4000000 in
theorem k_Tokens_split_b40 {r3 : Nat} (hr3 : zs_str r3) {l2 : Int} {l4 : Int} {H : Int → zi_M → Prop} {K209 : zi_M → Prop} {Q : Int → zi_M → Prop} {g : zi_M} {g0 : zi_M} (I : zk_I g) (F : zk_fr (fr_Tokens_split r3) g0 g) (p2 : 1 ≤ l2 ∧ l2 ≤ 400) (p4 : 1 ≤ l4 ∧ l4 ≤ 399) (M : Int) (hM : 400 - l4 ≤ M) (hH : ∀ (m4 : Int) (g : zi_M), zk_I g → zk_fr (fr_Tokens_split r3) g0 g → (0 ≤ m4 ∧ m4 ≤ 400) → 400 - m4 < M → H m4 g) (hK209 : ∀ (g : zi_M), zk_I g → zk_fr (fr_Tokens_split r3) g0 g → K209 g) (hQ : ∀ g' : zi_M, zk_I g' → zk_fr (fr_Tokens_split r3) g0 g' → Q 0 g') : w_Tokens_split_b40 r3 l2 l4 g H K209 Q := by
  unfold w_Tokens_split_b40
  refine ⟨⟨by omega, by omega⟩, ?_⟩
  have m_54 : 0 ≤ (g 190 l4) ∧ (g 190 l4) ≤ 255 := I.1 190 l4
  refine k_Tokens_isDigit I ⟨by omega, by omega⟩ (fun v57 b_55 b_56 b_57 => ?_)
  refine ⟨fun c65 => ?_, fun c65 => ?_⟩
  · exact k_Tokens_split_b67 hr3 I F ⟨by omega, by omega⟩ ⟨by omega, by omega⟩ ⟨by omega, by omega⟩ M (by omega) hH hK209 hQ
  · refine ⟨⟨by omega, by omega⟩, ?_⟩
    have m_58 : 0 ≤ (g 190 (l4 - 1)) ∧ (g 190 (l4 - 1)) ≤ 255 := I.1 190 (l4 - 1)
    refine k_Tokens_isDigit I ⟨by omega, by omega⟩ (fun v61 b_59 b_60 b_61 => ?_)
    refine ⟨fun c64 => ?_, fun c64 => ?_⟩
    · exact k_Tokens_split_b67 hr3 I F ⟨by omega, by omega⟩ ⟨by omega, by omega⟩ ⟨by omega, by omega⟩ M (by omega) hH hK209 hQ
    · exact k_Tokens_split_b67 hr3 I F ⟨by omega, by omega⟩ ⟨by omega, by omega⟩ ⟨by omega, by omega⟩ M (by omega) hH hK209 hQ
set_option maxRecDepth 100000 in
set_option maxHeartbeats 4000000 in
theorem k_Tokens_split_l7 {r3 : Nat} (hr3 : zs_str r3) {l2 : Int} {K209 : zi_M → Prop} {Q : Int → zi_M → Prop} {g0 : zi_M} (q2 : 0 ≤ l2 ∧ l2 ≤ 400) (hK209 : ∀ (g : zi_M), zk_I g → zk_fr (fr_Tokens_split r3) g0 g → K209 g) (hQ : ∀ g' : zi_M, zk_I g' → zk_fr (fr_Tokens_split r3) g0 g' → Q 0 g') : ∀ (n : Nat) {l4 : Int} {g : zi_M}, zk_I g → zk_fr (fr_Tokens_split r3) g0 g → (0 ≤ l4 ∧ l4 ≤ 400) → 400 - l4 < (n : Int) → w_Tokens_split_l7 r3 l2 K209 Q n l4 g
  | 0, l4, g, I, F, b0, hm => by exfalso; omega
  | n + 1, l4, g, I, F, b0, hm => by
    unfold w_Tokens_split_l7
    refine ⟨⟨by omega, by omega⟩, ⟨by omega, by omega⟩, ?_⟩
    refine ⟨fun c73 => ?_, fun c73 => ?_⟩
    · exact hK209 _ I F
    · refine ⟨fun c72 => ?_, fun c72 => ?_⟩
      · exact k_Tokens_split_b67 hr3 I F ⟨by omega, by omega⟩ ⟨by omega, by omega⟩ ⟨by omega, by omega⟩ (n : Int) (by omega) (fun _ _ I F b0 hm => k_Tokens_split_l7 hr3 q2 hK209 hQ n I F b0 hm) hK209 hQ
      · refine ⟨⟨by omega, by omega⟩, ?_⟩
        have m_46 : 0 ≤ (g 190 l4) ∧ (g 190 l4) ≤ 255 := I.1 190 l4
        refine k_Tokens_isLetter I ⟨by omega, by omega⟩ (fun v53 b_47 b_48 b_49 b_50 b_51 b_52 b_53 => ?_)
        refine ⟨fun c71 => ?_, fun c71 => ?_⟩
        · exact k_Tokens_split_b40 hr3 I F ⟨by omega, by omega⟩ ⟨by omega, by omega⟩ (n : Int) (by omega) (fun _ _ I F b0 hm => k_Tokens_split_l7 hr3 q2 hK209 hQ n I F b0 hm) hK209 hQ
        · refine ⟨⟨by omega, by omega⟩, ?_⟩
          have m_62 : 0 ≤ (g 190 (l4 - 1)) ∧ (g 190 (l4 - 1)) ≤ 255 := I.1 190 (l4 - 1)
          refine k_Tokens_isLetter I ⟨by omega, by omega⟩ (fun v67 b_63 b_64 b_65 b_66 b_67 b_68 b_69 => ?_)
          refine ⟨fun c70 => ?_, fun c70 => ?_⟩
          · exact k_Tokens_split_b67 hr3 I F ⟨by omega, by omega⟩ ⟨by omega, by omega⟩ ⟨by omega, by omega⟩ (n : Int) (by omega) (fun _ _ I F b0 hm => k_Tokens_split_l7 hr3 q2 hK209 hQ n I F b0 hm) hK209 hQ
          · exact k_Tokens_split_b40 hr3 I F ⟨by omega, by omega⟩ ⟨by omega, by omega⟩ (n : Int) (by omega) (fun _ _ I F b0 hm => k_Tokens_split_l7 hr3 q2 hK209 hQ n I F b0 hm) hK209 hQ
set_option maxRecDepth 100000 in
set_option maxHeartbeats 4000000 in
theorem k_Tokens_split {r3 : Nat} (hr3 : zs_str r3) {l2 : Int} {g : zi_M} {Q : Int → zi_M → Prop} (I : zk_I g) (p2 : 0 ≤ l2 ∧ l2 ≤ 400) (hQ : ∀ g' : zi_M, zk_I g' → zk_fr (fr_Tokens_split r3) g g' → Q 0 g') : w_Tokens_split r3 l2 g Q := by
  unfold w_Tokens_split
  refine k_Tokens_clear I (fun g2 I_1 F_2 => ?_)
  have F_3 : zk_fr (fr_Tokens_split r3) g g2 := zk_ft (zk_f0 _) F_2 (fun a i => (fun h => Or.elim h (fun h => (Or.inr (Or.inr (Or.inr (Or.inl h))))) (fun h => Or.elim h (fun h => (Or.inr (Or.inr (Or.inr (Or.inr (Or.inl h)))))) (fun h => Or.elim h (fun h => (Or.inr (Or.inr (Or.inr (Or.inr (Or.inr (Or.inl h))))))) (fun h => (Or.inr (Or.inr (Or.inr (Or.inr (Or.inr (Or.inr h)))))))))))
  refine ⟨((400 - 0 : Int).toNat + 1), k_Tokens_split_l7 (l2 := l2) hr3 ⟨by omega, by omega⟩ (fun g74 I_70 F_71 => ?_) hQ ((400 - 0 : Int).toNat + 1) I_1 F_3 ⟨by omega, by omega⟩ (by omega)⟩
  refine k_Tokens_add I_70 ⟨by omega, by omega⟩ ⟨by omega, by omega⟩ ⟨by omega, by omega⟩ (fun g76 I_72 F_73 => ?_)
  have F_74 : zk_fr (fr_Tokens_split r3) g g76 := zk_ft F_71 F_73 (fun a i => (fun h => Or.elim h (fun h => (Or.inl h)) (fun h => Or.elim h (fun h => (Or.inr (Or.inl h))) (fun h => Or.elim h (fun h => (Or.inr (Or.inr (Or.inl h)))) (fun h => (Or.inr (Or.inr (Or.inr (Or.inl h)))))))))
  exact hQ _ I_72 F_74
