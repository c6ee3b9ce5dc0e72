-- by program (wip/gen/mkz.py)
-- SpoutNews$World.heardSet(I)I
set_option maxRecDepth 100000 in
set_option maxHeartbeats 4000000 in
theorem k_World_heardSet_l4 {g : zi_M} {r0 : Nat} (hr0 : zs_sh r0 = some (10, 20)) (I : zk_I g) {l1 : Int} {K31 : Int → zi_M → Prop} {Q : Int → zi_M → Prop} (q1 : 0 ≤ l1 ∧ l1 ≤ 9) (hK31 : ∀ (k2 : Int), (0 ≤ k2 ∧ k2 ≤ 65535) → (zHF r0 g l1 k2) → K31 k2 g) (hQ : ∀ v : Int, (0 ≤ v ∧ v ≤ 65535) → (zHF r0 g l1 v) → Q v g) : ∀ (n : Nat) {l2 : Int} {l3 : Int}, (0 ≤ l2 ∧ l2 ≤ 65535) → (0 ≤ l3 ∧ l3 ≤ 20) → (l3 ≤ g (r0 + 6) l1) → (zHS r0 g l1 l3 l2) → 20 - l3 < (n : Int) → w_World_heardSet_l4 r0 l1 K31 Q n l2 l3 g
  | 0, l2, l3, b0, b1, b2, b3, hm => by exfalso; omega
  | n + 1, l2, l3, b0, b1, b2, b3, hm => by
    unfold w_World_heardSet_l4
    refine ⟨⟨by omega, by omega⟩, ?_⟩
    have m_1 := zk_a10_6 hr0 I l1
    refine ⟨⟨by omega, by omega⟩, ⟨by omega, by omega⟩, ?_⟩
    refine ⟨fun c7 => ?_, fun c7 => ?_⟩
    · exact hK31 _ ⟨by omega, by omega⟩ (by exact zHS_x (by assumption) (by assumption) (by omega))
    · have m_7 := zk_c10_8 hr0 I
      have m_8 := zk_a10_7 hr0 I ((l1 * 20) + l3)
      refine k_World_wordAt hr0 I ⟨by omega, by omega⟩ ⟨by omega, by omega⟩ (fun v4 b_2 b_3 b_4 b_5 b_6 => ?_)
      try simp only [Nat.reduceAdd] at b_2 b_3 b_4 b_5 b_6
      have m_9 := zi_r_shl 1 v4
      try have m_10 := (zi_shl_f v4).2.1 ⟨by omega, by omega⟩
      first | have m_11 := (zi_shl_f v4).2.2.1 ⟨by omega, by omega⟩ | have m_12 := (zi_shl_f v4).2.2.2.1 ⟨by omega, by omega⟩ | have m_13 := (zi_shl_f v4).2.2.2.2.1 ⟨by omega, by omega⟩ | have m_14 := (zi_shl_f v4).2.2.2.2.2.1 ⟨by omega, by omega⟩ | have m_15 := (zi_shl_f v4).2.2.2.2.2.2 ⟨by omega, by omega⟩ | skip
      first | have m_16 := (zi_or_f l2 (zi_shl 1 v4)).2.1 ⟨by omega, by omega, by omega, by omega⟩ | have m_16 := (zi_or_f l2 (zi_shl 1 v4)).2.2.1 ⟨by omega, by omega, by omega, by omega⟩ | have m_16 := (zi_or_f l2 (zi_shl 1 v4)).2.2.2.1 ⟨by omega, by omega, by omega, by omega⟩ | have m_16 := (zi_or_f l2 (zi_shl 1 v4)).2.2.2.2.1 ⟨by omega, by omega, by omega, by omega⟩ | have m_16 := (zi_or_f l2 (zi_shl 1 v4)).2.2.2.2.2 ⟨by omega, by omega, by omega, by omega⟩ | have m_16 := zi_r_or l2 (zi_shl 1 v4)
      exact k_World_heardSet_l4 hr0 I q1 hK31 hQ n ⟨by omega, by omega⟩ ⟨by omega, by omega⟩ (by first | omega | (have hz := zk_a10_6 hr0 I l1; omega)) (by first | exact zHS_0 | exact zHS_s (by assumption) (by assumption) (by assumption) (by omega) (by omega)) (by omega)
set_option maxRecDepth 100000 in
set_option maxHeartbeats 4000000 in
theorem k_World_heardSet {r0 : Nat} (hr0 : zs_sh r0 = some (10, 20)) {l1 : Int} {g : zi_M} {Q : Int → zi_M → Prop} (I : zk_I g) (p1 : 0 ≤ l1 ∧ l1 ≤ 9) (hQ : ∀ v : Int, (0 ≤ v ∧ v ≤ 65535) → (zHF r0 g l1 v) → Q v g) : w_World_heardSet r0 l1 g Q := by
  unfold w_World_heardSet
  refine ⟨((20 - 0 : Int).toNat + 1), k_World_heardSet_l4 (l1 := l1) hr0 I ⟨by omega, by omega⟩ (fun k8 b_17 b_18 => ?_) hQ ((20 - 0 : Int).toNat + 1) ⟨by omega, by omega⟩ ⟨by omega, by omega⟩ (by first | omega | (have hz := zk_a10_6 hr0 I l1; omega)) (by first | exact zHS_0 | exact zHS_s (by assumption) (by assumption) (by assumption) (by omega) (by omega)) (by omega)⟩
  exact hQ _ ⟨by omega, by omega⟩ (by assumption)
-- SpoutNews$World.takeIn(II)Z
set_option maxRecDepth 100000 in
set_option maxHeartbeats 4000000 in
theorem k_World_takeIn {r0 : Nat} (hr0 : zs_sh r0 = some (10, 20)) {l1 : Int} {l2 : Int} {g : zi_M} {Q : Int → zi_M → Prop} (I : zk_I g) (p1 : 0 ≤ l1 ∧ l1 ≤ 9) (p2 : 0 ≤ l2 ∧ l2 ≤ 15) (hQ : ∀ (v : Int) (g' : zi_M), zk_I g' → zk_fr (fr_World_takeIn r0) g g' → (0 ≤ v ∧ v ≤ 1) → (zTi r0 l1 l2 g g' v) → Q v g') : w_World_takeIn r0 l1 l2 g Q := by
  unfold w_World_takeIn
  refine ⟨⟨by omega, by omega⟩, ?_⟩
  have m_1 := zk_a10_6 hr0 I l1
  refine ⟨⟨by omega, by omega⟩, ?_⟩
  refine ⟨fun c10 => ?_, fun c10 => ?_⟩
  · exact hQ _ _ I (zk_f0 _) ⟨by omega, by omega⟩ (by first | exact zTi_a (by assumption) (by assumption) | exact zTi_c (by assumption) (by assumption) | exact zTi_b hr0 (by assumption) (by assumption) (by assumption) (by assumption) (by omega) (by assumption) (by assumption))
  · refine k_World_heardSet hr0 I ⟨by omega, by omega⟩ (fun v3 b_2 b_3 => ?_)
    have m_4 := zi_r_shr v3 l2
    try have m_5 := (zi_shr_f v3 l2).2 ⟨by omega, by omega⟩
    have m_6 := zi_r_and (zi_shr v3 l2) 1
    try have m_7 := (zi_and_f (zi_shr v3 l2) 1).2.1 ⟨by omega, by omega⟩
    try have m_8 := (zi_and_f (zi_shr v3 l2) 1).2.2 ⟨by omega, by omega⟩
    refine ⟨fun c9 => ?_, fun c9 => ?_⟩
    · refine ⟨⟨by omega, by omega⟩, ?_⟩
      intro g7 e_9
      have I_10 : zk_I g7 := by rw [e_9]; exact zk_upd (zk_la10_7 hr0).1 (zk_la10_7 hr0).2 I ⟨by omega, by omega⟩ (zj_a10_7 hr0)
      have F_11 : zk_fr (fr_World_takeIn r0) g g7 := by rw [e_9]; exact zk_fu (zk_f0 _) (Or.inr rfl)
      intro g8 e_12
      have I_13 : zk_I g8 := by rw [e_12]; exact zk_upd (zk_la10_6 hr0).1 (zk_la10_6 hr0).2 I_10 ⟨by omega, by omega⟩ (zj_a10_6 hr0)
      have F_14 : zk_fr (fr_World_takeIn r0) g g8 := by rw [e_12]; exact zk_fu F_11 (Or.inl rfl)
      exact hQ _ _ I_13 F_14 ⟨by omega, by omega⟩ (by first | exact zTi_a (by assumption) (by assumption) | exact zTi_c (by assumption) (by assumption) | exact zTi_b hr0 (by assumption) (by assumption) (by assumption) (by assumption) (by omega) (by assumption) (by assumption))
    · exact hQ _ _ I (zk_f0 _) ⟨by omega, by omega⟩ (by first | exact zTi_a (by assumption) (by assumption) | exact zTi_c (by assumption) (by assumption) | exact zTi_b hr0 (by assumption) (by assumption) (by assumption) (by assumption) (by omega) (by assumption) (by assumption))
-- SpoutNews$DayRun.leadOn(LSpoutNews$World;LSpoutNews$Book;)V
set_option maxRecDepth 100000 in
set_option maxHeartbeats 4000000 in
theorem k_DayRun_leadOn_l2 {r1 : Nat} (hr1 : zs_sh r1 = some (10, 20)) {K64 : zi_M → Prop} {Q : Int → zi_M → Prop} {g0 : zi_M} (hK64 : ∀ (g : zi_M), zk_I g → zk_fr (fr_DayRun_leadOn r1) g0 g → (zWL r1 g0 g) → K64 g) (hQ : ∀ g' : zi_M, zk_I g' → zk_fr (fr_DayRun_leadOn r1) g0 g' → (zWL r1 g0 g') → Q 0 g') : ∀ (n : Nat) {l3 : Int} {g : zi_M}, zk_I g → zk_fr (fr_DayRun_leadOn r1) g0 g → (0 ≤ l3 ∧ l3 ≤ 90) → (l3 ≤ g0 177 2) → (zWl r1 l3 g0 g) → 90 - l3 < (n : Int) → w_DayRun_leadOn_l2 r1 K64 Q n l3 g
  | 0, l3, g, I, F, b0, b1, b2, hm => by exfalso; omega
  | n + 1, l3, g, I, F, b0, b1, b2, hm => by
    unfold w_DayRun_leadOn_l2
    have m_1 : 0 ≤ (g 177 2) ∧ (g 177 2) ≤ 90 := I.1 177 2
    refine ⟨⟨by omega, by omega⟩, ⟨by omega, by omega⟩, ?_⟩
    refine ⟨fun c14 => ?_, fun c14 => ?_⟩
    · exact hK64 _ I F (by exact zWl_x b2 (by have hf := (zLfr_of hr1 F).1 177 2 (by omega); omega))
    · refine ⟨⟨by omega, by omega⟩, ?_⟩
      have m_2 : 0 ≤ (g 179 l3) ∧ (g 179 l3) ≤ 9 := I.1 179 l3
      refine ⟨⟨by omega, by omega⟩, ?_⟩
      have m_3 := zk_a10_4 hr1 I (g 179 l3)
      refine ⟨⟨by omega, by omega⟩, ?_⟩
      refine ⟨fun c13 => ?_, fun c13 => ?_⟩
      · exact k_DayRun_leadOn_l2 hr1 hK64 hQ n I F ⟨by omega, by omega⟩ (by first | omega | (have hf := (zLfr_of hr1 F).1 177 2 (by omega); omega) | (have hz := zk_r177 I; omega)) (by first | exact zWl_0 | exact zWl_a b2 (zLfr_of hr1 F) (by omega) (by omega) ⟨by omega, by omega⟩ (by assumption) | exact zWl_b b2 (zLfr_of hr1 F) (by omega) (by omega) (by have hf := (zLfr_of hr1 F).1 177 2 (by omega); omega) ⟨by omega, by omega⟩ (by assumption) (by assumption) (by assumption) | exact zWl_c b2 (zLfr_of hr1 F) (by omega) (by omega) (by have hf := (zLfr_of hr1 F).1 177 2 (by omega); omega) ⟨by omega, by omega⟩ (by assumption) (by assumption) (by assumption) (zLfr_of hr1 (by assumption)) (by assumption)) (by omega)
      · have m_4 : 0 ≤ (g 178 l3) ∧ (g 178 l3) ≤ 15 := I.1 178 l3
        refine k_World_takeIn hr1 I ⟨by omega, by omega⟩ ⟨by omega, by omega⟩ (fun v6 g7 I_7 F_8 b_5 b_6 => ?_)
        have F_9 : zk_fr (fr_DayRun_leadOn r1) g0 g7 := zk_ft F F_8 (fun a i => (fun h => Or.elim h (fun h => (Or.inl h)) (fun h => (Or.inr (Or.inl h)))))
        refine ⟨fun c12 => ?_, fun c12 => ?_⟩
        · exact k_DayRun_leadOn_l2 hr1 hK64 hQ n I_7 F_9 ⟨by omega, by omega⟩ (by first | omega | (have hf := (zLfr_of hr1 F).1 177 2 (by omega); omega) | (have hz := zk_r177 I; omega)) (by first | exact zWl_0 | exact zWl_a b2 (zLfr_of hr1 F) (by omega) (by omega) ⟨by omega, by omega⟩ (by assumption) | exact zWl_b b2 (zLfr_of hr1 F) (by omega) (by omega) (by have hf := (zLfr_of hr1 F).1 177 2 (by omega); omega) ⟨by omega, by omega⟩ (by assumption) (by assumption) (by assumption) | exact zWl_c b2 (zLfr_of hr1 F) (by omega) (by omega) (by have hf := (zLfr_of hr1 F).1 177 2 (by omega); omega) ⟨by omega, by omega⟩ (by assumption) (by assumption) (by assumption) (zLfr_of hr1 (by assumption)) (by assumption)) (by omega)
        · have m_10 : 0 ≤ (g7 178 l3) ∧ (g7 178 l3) ≤ 15 := I_7.1 178 l3
          refine k_Book_write hr1 I_7 ⟨by omega, by omega⟩ ⟨by omega, by omega⟩ ⟨by omega, by omega⟩ (fun g10 I_12 F_13 b_11 => ?_)
          have F_14 : zk_fr (fr_DayRun_leadOn r1) g0 g10 := zk_ft F_9 F_13 (fun a i => (fun h => Or.elim h (fun h => (Or.inr (Or.inr (Or.inl h)))) (fun h => Or.elim h (fun h => (Or.inr (Or.inr (Or.inr (Or.inl h))))) (fun h => Or.elim h (fun h => (Or.inr (Or.inr (Or.inr (Or.inr (Or.inl h)))))) (fun h => Or.elim h (fun h => (Or.inr (Or.inr (Or.inr (Or.inr (Or.inr (Or.inl h))))))) (fun h => (Or.inr (Or.inr (Or.inr (Or.inr (Or.inr (Or.inr h))))))))))))
          exact k_DayRun_leadOn_l2 hr1 hK64 hQ n I_12 F_14 ⟨by omega, by omega⟩ (by first | omega | (have hf := (zLfr_of hr1 F).1 177 2 (by omega); omega) | (have hz := zk_r177 I; omega)) (by first | exact zWl_0 | exact zWl_a b2 (zLfr_of hr1 F) (by omega) (by omega) ⟨by omega, by omega⟩ (by assumption) | exact zWl_b b2 (zLfr_of hr1 F) (by omega) (by omega) (by have hf := (zLfr_of hr1 F).1 177 2 (by omega); omega) ⟨by omega, by omega⟩ (by assumption) (by assumption) (by assumption) | exact zWl_c b2 (zLfr_of hr1 F) (by omega) (by omega) (by have hf := (zLfr_of hr1 F).1 177 2 (by omega); omega) ⟨by omega, by omega⟩ (by assumption) (by assumption) (by assumption) (zLfr_of hr1 (by assumption)) (by assumption)) (by omega)
set_option maxRecDepth 100000 in
set_option maxHeartbeats 4000000 in
theorem k_DayRun_leadOn {r1 : Nat} (hr1 : zs_sh r1 = some (10, 20)) {g : zi_M} {Q : Int → zi_M → Prop} (I : zk_I g) (hQ : ∀ g' : zi_M, zk_I g' → zk_fr (fr_DayRun_leadOn r1) g g' → (zWL r1 g g') → Q 0 g') : w_DayRun_leadOn r1 g Q := by
  unfold w_DayRun_leadOn
  refine ⟨((90 - 0 : Int).toNat + 1), k_DayRun_leadOn_l2 hr1 (fun g15 I_15 F_16 b_17 => ?_) hQ ((90 - 0 : Int).toNat + 1) I (zk_f0 _) ⟨by omega, by omega⟩ (by first | omega | (have hf := (zLfr_of hr1 F).1 177 2 (by omega); omega) | (have hz := zk_r177 I; omega)) (by first | exact zWl_0 | exact zWl_a b2 (zLfr_of hr1 F) (by omega) (by omega) ⟨by omega, by omega⟩ (by assumption) | exact zWl_b b2 (zLfr_of hr1 F) (by omega) (by omega) (by have hf := (zLfr_of hr1 F).1 177 2 (by omega); omega) ⟨by omega, by omega⟩ (by assumption) (by assumption) (by assumption) | exact zWl_c b2 (zLfr_of hr1 F) (by omega) (by omega) (by have hf := (zLfr_of hr1 F).1 177 2 (by omega); omega) ⟨by omega, by omega⟩ (by assumption) (by assumption) (by assumption) (zLfr_of hr1 (by assumption)) (by assumption)) (by omega)⟩
  exact hQ _ I_15 F_16 (by assumption)
-- SpoutNews$DayRun.passWet(LSpoutNews$World;LSpoutNews$Texts;LSpoutNews$Book;)V
set_option maxRecDepth 100000 in
set_option maxHeartbeats 4000000 in
theorem k_DayRun_passWet_l53 {r1 : Nat} (hr1 : zs_sh r1 = some (10, 20)) {l4 : Int} {l5 : Int} {K75 : zi_M → Prop} {Q : Int → zi_M → Prop} {g0 : zi_M} (q4 : 0 ≤ l4 ∧ l4 ≤ 9) (q5 : 0 ≤ l5 ∧ l5 ≤ 20) (hK75 : ∀ (g : zi_M), zk_I g → zk_fr (fr_DayRun_passWet r1) g0 g → (zWp r1 (l4 + 1) g0 g) → (zWX r1 g0 g) → (l4 < g0 r1 8) → K75 g) (hQ : ∀ g' : zi_M, zk_I g' → zk_fr (fr_DayRun_passWet r1) g0 g' → (zWY r1 g0 g') → Q 0 g') : ∀ (n : Nat) {l6 : Int} {g : zi_M}, zk_I g → zk_fr (fr_DayRun_passWet r1) g0 g → (0 ≤ l6 ∧ l6 ≤ 20) → (l4 < g0 r1 8) → (l5 ≤ g (r1 + 6) l4 + l6) → (l6 ≤ l5 ∨ (l6 = 0 ∧ l5 ≤ 0)) → (zWm r1 l4 l5 g0) → (zWn r1 l4 l6 g0 g) → (zWX r1 g0 g) → 20 - l6 < (n : Int) → w_DayRun_passWet_l53 r1 l4 l5 K75 Q n l6 g
  | 0, l6, g, I, F, b0, b1, b2, b3, b4, b5, b6, hm => by exfalso; omega
  | n + 1, l6, g, I, F, b0, b1, b2, b3, b4, b5, b6, hm => by
    unfold w_DayRun_passWet_l53
    refine ⟨⟨by omega, by omega⟩, ⟨by omega, by omega⟩, ?_⟩
    refine ⟨fun c18 => ?_, fun c18 => ?_⟩
    · exact hK75 _ I F (by exact zWn_x (by assumption) (by assumption) ⟨by omega, by omega⟩ (by omega)) (by assumption) (by assumption)
    · refine k_DayRun_sayFirst hr1 I ⟨by omega, by omega⟩ (fun g16 I_18 F_19 b_17 => ?_)
      have F_20 : zk_fr (fr_DayRun_passWet r1) g0 g16 := zk_ft F F_19 (fun a i => (fun h => Or.elim h (fun h => (Or.inl h)) (fun h => Or.elim h (fun h => (Or.inr (Or.inr (Or.inl h)))) (fun h => Or.elim h (fun h => (Or.inr (Or.inr (Or.inr (Or.inl h))))) (fun h => Or.elim h (fun h => (Or.inr (Or.inr (Or.inr (Or.inr (Or.inl h)))))) (fun h => Or.elim h (fun h => (Or.inr (Or.inr (Or.inr (Or.inr (Or.inr (Or.inl h))))))) (fun h => Or.elim h (fun h => (Or.inr (Or.inr (Or.inr (Or.inr (Or.inr (Or.inr (Or.inl h)))))))) (fun h => Or.elim h (fun h => (Or.inr (Or.inr (Or.inr (Or.inr (Or.inr (Or.inr (Or.inr (Or.inl h))))))))) (fun h => Or.elim h (fun h => (Or.inr (Or.inr (Or.inr (Or.inr (Or.inr (Or.inr (Or.inr (Or.inr (Or.inl h)))))))))) (fun h => Or.elim h (fun h => (Or.inr (Or.inr (Or.inr (Or.inr (Or.inr (Or.inr (Or.inr (Or.inr (Or.inr (Or.inl h))))))))))) (fun h => Or.elim h (fun h => (Or.inr (Or.inr (Or.inr (Or.inr (Or.inr (Or.inr (Or.inr (Or.inr (Or.inr (Or.inr (Or.inl h)))))))))))) (fun h => Or.elim h (fun h => (Or.inr (Or.inr (Or.inr (Or.inr (Or.inr (Or.inr (Or.inr (Or.inr (Or.inr (Or.inr (Or.inr (Or.inl h))))))))))))) (fun h => Or.elim h (fun h => (Or.inr (Or.inr (Or.inr (Or.inr (Or.inr (Or.inr (Or.inr (Or.inr (Or.inr (Or.inr (Or.inr (Or.inr (Or.inl h)))))))))))))) (fun h => Or.elim h (fun h => (Or.inr (Or.inr (Or.inr (Or.inr (Or.inr (Or.inr (Or.inr (Or.inr (Or.inr (Or.inr (Or.inr (Or.inr (Or.inr (Or.inl h))))))))))))))) (fun h => Or.elim h (fun h => (Or.inr (Or.inr (Or.inr (Or.inr (Or.inr (Or.inr (Or.inr (Or.inr (Or.inr (Or.inr (Or.inr (Or.inr (Or.inr (Or.inr (Or.inl h)))))))))))))))) (fun h => Or.elim h (fun h => (Or.inr (Or.inr (Or.inr (Or.inr (Or.inr (Or.inr (Or.inr (Or.inr (Or.inr (Or.inr (Or.inr (Or.inr (Or.inr (Or.inr (Or.inr (Or.inl h))))))))))))))))) (fun h => (Or.inr (Or.inr (Or.inr (Or.inr (Or.inr (Or.inr (Or.inr (Or.inr (Or.inr (Or.inr (Or.inr (Or.inr (Or.inr (Or.inr (Or.inr (Or.inr h)))))))))))))))))))))))))))))))))
      exact k_DayRun_passWet_l53 hr1 q4 q5 hK75 hQ n I_18 F_20 ⟨by omega, by omega⟩ (by first | assumption | (have hf := (zWfr_of hr1 F).2.2.2.1; omega)) (by first | omega | (have hx := zWx_c (p := l4) hr1 I ⟨by omega, by omega⟩ (by have hf := (zWfr_of hr1 F).2.2.2.1; omega) (by omega) (by assumption); omega)) (by omega) (by first | assumption | exact zWm_0 hr1 (by assumption) (zWfr_of hr1 F) ⟨by omega, by omega⟩ ⟨by assumption, by assumption⟩ (by assumption) (by assumption) (by assumption)) (by first | exact zWn_0 hr1 (by assumption) (by assumption) | exact zWn_s (m := l5) (by assumption) (zWfr_of hr1 F) (by omega) (by assumption) (by omega) (by assumption)) (by first | exact zWx_k (by assumption) (by assumption) hr1 | exact zWx_v (p := l4) hr1 I (by assumption) (zWfr_of hr1 F) ⟨by omega, by omega⟩ (by assumption) (by omega) (by assumption) (by assumption)) (by omega)
set_option maxRecDepth 100000 in
set_option maxHeartbeats 4000000 in
theorem k_DayRun_passWet_l8 {r1 : Nat} (hr1 : zs_sh r1 = some (10, 20)) {K81 : zi_M → Prop} {Q : Int → zi_M → Prop} {g0 : zi_M} (hK81 : ∀ (g : zi_M), zk_I g → zk_fr (fr_DayRun_passWet r1) g0 g → (zWQ r1 g0 g) → (zWX r1 g0 g) → K81 g) (hQ : ∀ g' : zi_M, zk_I g' → zk_fr (fr_DayRun_passWet r1) g0 g' → (zWY r1 g0 g') → Q 0 g') : ∀ (n : Nat) {l4 : Int} {g : zi_M}, zk_I g → zk_fr (fr_DayRun_passWet r1) g0 g → (0 ≤ l4 ∧ l4 ≤ 10) → (l4 ≤ g0 r1 8) → (zWp r1 l4 g0 g) → (zWX r1 g0 g) → 10 - l4 < (n : Int) → w_DayRun_passWet_l8 r1 K81 Q n l4 g
  | 0, l4, g, I, F, b0, b1, b2, b3, hm => by exfalso; omega
  | n + 1, l4, g, I, F, b0, b1, b2, b3, hm => by
    unfold w_DayRun_passWet_l8
    have m_4 := zk_c10_8 hr1 I
    refine ⟨⟨by omega, by omega⟩, ⟨by omega, by omega⟩, ?_⟩
    refine ⟨fun c22 => ?_, fun c22 => ?_⟩
    · exact hK81 _ I F (by exact zWp_x b2 (by have hf := (zWfr_of hr1 F).2.2.2.1; omega)) (by assumption)
    · have m_9 := zk_a10_4 hr1 I (l4)
      have m_10 := zk_c10_14 hr1 I
      refine k_World_speaks hr1 I ⟨by omega, by omega⟩ (fun v4 b_5 b_6 b_7 b_8 => ?_)
      try simp only [Nat.reduceAdd] at b_5 b_6 b_7 b_8
      refine ⟨fun c21 => ?_, fun c21 => ?_⟩
      · exact k_DayRun_passWet_l8 hr1 hK81 hQ n I F ⟨by omega, by omega⟩ (by first | omega | (have hz := zk_c10_8 hr1 I; have hf := (zWfr_of hr1 F).2.2.2.1; omega) | (have hz := zk_c10_8 hr1 I; omega)) (by first | assumption | exact zWp_0 hr1 (by assumption) | exact zWp_n b2 (zWfr_of hr1 F) ⟨by omega, by omega⟩ ⟨by assumption, by assumption⟩ (by assumption) | exact zWp_n b2 (zWfr_of hr1 F) ⟨by omega, by omega⟩ ⟨by assumption, by assumption⟩ (by omega)) (by first | assumption | exact zWx_0 (by assumption)) (by omega)
      · refine k_Law_tells hr1 I ⟨by omega, by omega⟩ ⟨by omega, by omega⟩ ⟨by omega, by omega⟩ (fun v7 g8 I_13 F_14 b_11 b_12 => ?_)
        have F_15 : zk_fr (fr_DayRun_passWet r1) g0 g8 := zk_ft F F_14 (fun a i => (fun h => Or.elim h (fun h => (Or.inr (Or.inr (Or.inr (Or.inr (Or.inr (Or.inr (Or.inr (Or.inr (Or.inr (Or.inr (Or.inl h)))))))))))) (fun h => (Or.inr (Or.inr (Or.inr (Or.inr (Or.inr (Or.inr (Or.inr (Or.inr (Or.inr (Or.inr (Or.inr (Or.inl h)))))))))))))))
        refine ⟨⟨by omega, by omega⟩, ?_⟩
        have m_16 := zk_a10_6 hr1 I_13 l4
        refine ⟨⟨by omega, by omega⟩, ⟨by omega, by omega⟩, ?_⟩
        refine ⟨((20 - 0 : Int).toNat + 1), k_DayRun_passWet_l53 (l4 := l4) (l5 := (min v7 (g8 (r1 + 6) l4))) hr1 ⟨by omega, by omega⟩ ⟨by omega, by omega⟩ (fun g19 I_21 F_22 b_23 b_24 b_25 => ?_) hQ ((20 - 0 : Int).toNat + 1) I_13 F_15 ⟨by omega, by omega⟩ (by first | assumption | (have hf := (zWfr_of hr1 F).2.2.2.1; omega)) (by first | omega | (have hx := zWx_c (p := l4) hr1 I ⟨by omega, by omega⟩ (by have hf := (zWfr_of hr1 F).2.2.2.1; omega) (by omega) (by assumption); omega)) (by omega) (by first | assumption | exact zWm_0 hr1 (by assumption) (zWfr_of hr1 F) ⟨by omega, by omega⟩ ⟨by assumption, by assumption⟩ (by assumption) (by assumption) (by assumption)) (by first | exact zWn_0 hr1 (by assumption) (by assumption) | exact zWn_s (m := l5) (by assumption) (zWfr_of hr1 F) (by omega) (by assumption) (by omega) (by assumption)) (by first | exact zWx_k (by assumption) (by assumption) hr1 | exact zWx_v (p := l4) hr1 I (by assumption) (zWfr_of hr1 F) ⟨by omega, by omega⟩ (by assumption) (by omega) (by assumption) (by assumption)) (by omega)⟩
        exact k_DayRun_passWet_l8 hr1 hK81 hQ n I_21 F_22 ⟨by omega, by omega⟩ (by first | omega | (have hz := zk_c10_8 hr1 I; have hf := (zWfr_of hr1 F).2.2.2.1; omega) | (have hz := zk_c10_8 hr1 I; omega)) (by first | assumption | exact zWp_0 hr1 (by assumption) | exact zWp_n b2 (zWfr_of hr1 F) ⟨by omega, by omega⟩ ⟨by assumption, by assumption⟩ (by assumption) | exact zWp_n b2 (zWfr_of hr1 F) ⟨by omega, by omega⟩ ⟨by assumption, by assumption⟩ (by omega)) (by first | assumption | exact zWx_0 (by assumption)) (by omega)
set_option maxRecDepth 100000 in
set_option maxHeartbeats 4000000 in
theorem k_DayRun_passWet_l90 {r1 : Nat} (hr1 : zs_sh r1 = some (10, 20)) {K113 : zi_M → Prop} {Q : Int → zi_M → Prop} {g0 : zi_M} (hK113 : ∀ (g : zi_M), zk_I g → zk_fr (fr_DayRun_passWet r1) g0 g → (zWY r1 g0 g) → K113 g) (hQ : ∀ g' : zi_M, zk_I g' → zk_fr (fr_DayRun_passWet r1) g0 g' → (zWY r1 g0 g') → Q 0 g') : ∀ (n : Nat) {l4 : Int} {g : zi_M}, zk_I g → zk_fr (fr_DayRun_passWet r1) g0 g → (0 ≤ l4 ∧ l4 ≤ 10) → (l4 ≤ g0 r1 8) → (zWe r1 l4 g0 g) → 10 - l4 < (n : Int) → w_DayRun_passWet_l90 r1 K113 Q n l4 g
  | 0, l4, g, I, F, b0, b1, b2, hm => by exfalso; omega
  | n + 1, l4, g, I, F, b0, b1, b2, hm => by
    unfold w_DayRun_passWet_l90
    have m_34 := zk_c10_8 hr1 I
    refine ⟨⟨by omega, by omega⟩, ⟨by omega, by omega⟩, ?_⟩
    refine ⟨fun c31 => ?_, fun c31 => ?_⟩
    · exact hK113 _ I F (by exact zWe_x (by assumption) (by have hf := (zWfr_of hr1 F).2.2.2.1; omega))
    · refine ⟨⟨by omega, by omega⟩, ?_⟩
      intro g30 e_35
      have I_36 : zk_I g30 := by rw [e_35]; exact zk_upd (zk_la10_5 hr1).1 (zk_la10_5 hr1).2 I ⟨by omega, by omega⟩ (zj_a10_5 hr1)
      have F_37 : zk_fr (fr_DayRun_passWet r1) g0 g30 := by rw [e_35]; exact zk_fu F (Or.inr (Or.inl rfl))
      exact k_DayRun_passWet_l90 hr1 hK113 hQ n I_36 F_37 ⟨by omega, by omega⟩ (by first | omega | (have hz := zk_c10_8 hr1 I; have hf := (zWfr_of hr1 F).2.2.2.1; omega) | (have hz := zk_c10_8 hr1 I; omega)) (by first | exact zWe_0 (by assumption) (by assumption) (zWfr_of hr1 (by assumption)) (by assumption) | exact zWe_s hr1 (by assumption) (by omega) (by omega) (by assumption)) (by omega)
set_option maxRecDepth 100000 in
set_option maxHeartbeats 4000000 in
theorem k_DayRun_passWet {r1 : Nat} (hr1 : zs_sh r1 = some (10, 20)) {g : zi_M} {Q : Int → zi_M → Prop} (I : zk_I g) (hQ : ∀ g' : zi_M, zk_I g' → zk_fr (fr_DayRun_passWet r1) g g' → (zWY r1 g g') → Q 0 g') : w_DayRun_passWet r1 g Q := by
  unfold w_DayRun_passWet
  intro g1 e_1
  have I_2 : zk_I g1 := by rw [e_1]; exact zk_upd (L := 0) (H := 90) rfl rfl I ⟨by omega, by omega⟩
  have F_3 : zk_fr (fr_DayRun_passWet r1) g g1 := by rw [e_1]; exact zk_fu (zk_f0 _) (Or.inr (Or.inr (Or.inr (Or.inr (Or.inr (Or.inr (Or.inr (Or.inr (Or.inr (Or.inr (Or.inr (Or.inr (Or.inr (Or.inr (Or.inr (Or.inr ⟨rfl, rfl⟩))))))))))))))))
  refine ⟨((10 - 0 : Int).toNat + 1), k_DayRun_passWet_l8 hr1 (fun g23 I_26 F_27 b_28 b_29 => ?_) hQ ((10 - 0 : Int).toNat + 1) I_2 F_3 ⟨by omega, by omega⟩ (by first | omega | (have hz := zk_c10_8 hr1 I; have hf := (zWfr_of hr1 F).2.2.2.1; omega) | (have hz := zk_c10_8 hr1 I; omega)) (by first | assumption | exact zWp_0 hr1 (by assumption) | exact zWp_n b2 (zWfr_of hr1 F) ⟨by omega, by omega⟩ ⟨by assumption, by assumption⟩ (by assumption) | exact zWp_n b2 (zWfr_of hr1 F) ⟨by omega, by omega⟩ ⟨by assumption, by assumption⟩ (by omega)) (by first | assumption | exact zWx_0 (by assumption)) (by omega)⟩
  refine k_DayRun_leadOn hr1 I_26 (fun g25 I_31 F_32 b_30 => ?_)
  have F_33 : zk_fr (fr_DayRun_passWet r1) g g25 := zk_ft F_27 F_32 (fun a i => (fun h => Or.elim h (fun h => (Or.inr (Or.inr (Or.inl h)))) (fun h => Or.elim h (fun h => (Or.inr (Or.inr (Or.inr (Or.inl h))))) (fun h => Or.elim h (fun h => (Or.inr (Or.inr (Or.inr (Or.inr (Or.inl h)))))) (fun h => Or.elim h (fun h => (Or.inr (Or.inr (Or.inr (Or.inr (Or.inr (Or.inl h))))))) (fun h => Or.elim h (fun h => (Or.inr (Or.inr (Or.inr (Or.inr (Or.inr (Or.inr (Or.inl h)))))))) (fun h => Or.elim h (fun h => (Or.inr (Or.inr (Or.inr (Or.inr (Or.inr (Or.inr (Or.inr (Or.inr (Or.inr (Or.inl h))))))))))) (fun h => (Or.inr (Or.inr (Or.inr (Or.inr (Or.inr (Or.inr (Or.inr (Or.inr (Or.inr (Or.inr (Or.inr (Or.inr (Or.inr (Or.inr (Or.inr (Or.inl h))))))))))))))))))))))))
  refine ⟨((10 - 0 : Int).toNat + 1), k_DayRun_passWet_l90 hr1 (fun g32 I_38 F_39 b_40 => ?_) hQ ((10 - 0 : Int).toNat + 1) I_31 F_33 ⟨by omega, by omega⟩ (by first | omega | (have hz := zk_c10_8 hr1 I; have hf := (zWfr_of hr1 F).2.2.2.1; omega) | (have hz := zk_c10_8 hr1 I; omega)) (by first | exact zWe_0 (by assumption) (by assumption) (zWfr_of hr1 (by assumption)) (by assumption) | exact zWe_s hr1 (by assumption) (by omega) (by omega) (by assumption)) (by omega)⟩
  exact hQ _ I_38 F_39 (by assumption)
-- SpoutNews$DayRun.listen(LSpoutNews$World;LSpoutNews$Texts;LSpoutNews$Book;II)V
set_option maxRecDepth 100000 in
set_option maxHeartbeats 4000000 in
theorem k_DayRun_listen_l17 {r1 : Nat} (hr1 : zs_sh r1 = some (10, 20)) {l4 : Int} {l5 : Int} {K70 : zi_M → Prop} {Q : Int → zi_M → Prop} {g0 : zi_M} (q4 : 0 ≤ l4 ∧ l4 ≤ 9) (q5 : (-2147483648) ≤ l5 ∧ l5 ≤ 2147483647) (hK70 : ∀ (g : zi_M), zk_I g → zk_fr (fr_DayRun_listen r1) g0 g → (zLF r1 l4 l5 g0 g) → K70 g) (hQ : ∀ g' : zi_M, zk_I g' → zk_fr (fr_DayRun_listen r1) g0 g' → (zLF r1 l4 l5 g0 g') → Q 0 g') : ∀ (n : Nat) {l6 : Int} {l7 : Int} {g : zi_M}, zk_I g → zk_fr (fr_DayRun_listen r1) g0 g → (0 ≤ l6 ∧ l6 ≤ 1000) → (0 ≤ l7 ∧ l7 ≤ 16) → (zLI r1 l4 l5 g0 g l6 l7) → 16 - l7 < (n : Int) → w_DayRun_listen_l17 r1 l4 l5 K70 Q n l6 l7 g
  | 0, l6, l7, g, I, F, b0, b1, b2, hm => by exfalso; omega
  | n + 1, l6, l7, g, I, F, b0, b1, b2, hm => by
    unfold w_DayRun_listen_l17
    refine ⟨⟨by omega, by omega⟩, ?_⟩
    refine ⟨fun c15 => ?_, fun c15 => ?_⟩
    · exact hK70 _ I F (by first | exact zLI_x (by assumption) (Or.inl (by assumption)) | exact zLI_x (by assumption) (Or.inr (by assumption)))
    · refine ⟨⟨by omega, by omega⟩, ?_⟩
      refine ⟨fun c14 => ?_, fun c14 => ?_⟩
      · exact hK70 _ I F (by first | exact zLI_x (by assumption) (Or.inl (by assumption)) | exact zLI_x (by assumption) (Or.inr (by assumption)))
      · have m_6 := zi_r_shr l5 l7
        try have m_7 := (zi_shr_f l5 l7).2 ⟨by omega, by omega⟩
        have m_8 := zi_r_and (zi_shr l5 l7) 1
        try have m_9 := (zi_and_f (zi_shr l5 l7) 1).2.1 ⟨by omega, by omega⟩
        try have m_10 := (zi_and_f (zi_shr l5 l7) 1).2.2 ⟨by omega, by omega⟩
        refine ⟨fun c13 => ?_, fun c13 => ?_⟩
        · exact k_DayRun_listen_l17 hr1 q4 q5 hK70 hQ n I F ⟨by omega, by omega⟩ ⟨by omega, by omega⟩ (by first | exact zLI_0 hr1 (by assumption) (by assumption) | exact zLI_a (by assumption) (by assumption) (by assumption) | exact zLI_b (by assumption) (by assumption) (by assumption) (by assumption) (zLf_8 hr1 F).1 | exact zLI_c (by assumption) (by assumption) (by assumption) (by assumption) (by assumption) (by assumption) (by assumption) (zLf_8 hr1 F).1 (zLf_8 hr1 (by assumption)).2) (by omega)
        · refine k_World_takeIn hr1 I ⟨by omega, by omega⟩ ⟨by omega, by omega⟩ (fun v6 g7 I_13 F_14 b_11 b_12 => ?_)
          have F_15 : zk_fr (fr_DayRun_listen r1) g0 g7 := zk_ft F F_14 (fun a i => (fun h => Or.elim h (fun h => (Or.inl h)) (fun h => (Or.inr (Or.inl h)))))
          refine ⟨fun c12 => ?_, fun c12 => ?_⟩
          · exact k_DayRun_listen_l17 hr1 q4 q5 hK70 hQ n I_13 F_15 ⟨by omega, by omega⟩ ⟨by omega, by omega⟩ (by first | exact zLI_0 hr1 (by assumption) (by assumption) | exact zLI_a (by assumption) (by assumption) (by assumption) | exact zLI_b (by assumption) (by assumption) (by assumption) (by assumption) (zLf_8 hr1 F).1 | exact zLI_c (by assumption) (by assumption) (by assumption) (by assumption) (by assumption) (by assumption) (by assumption) (zLf_8 hr1 F).1 (zLf_8 hr1 (by assumption)).2) (by omega)
          · refine k_Book_write hr1 I_13 ⟨by omega, by omega⟩ ⟨by omega, by omega⟩ ⟨by omega, by omega⟩ (fun g10 I_17 F_18 b_16 => ?_)
            have F_19 : zk_fr (fr_DayRun_listen r1) g0 g10 := zk_ft F_15 F_18 (fun a i => (fun h => Or.elim h (fun h => (Or.inr (Or.inr (Or.inl h)))) (fun h => Or.elim h (fun h => (Or.inr (Or.inr (Or.inr (Or.inl h))))) (fun h => Or.elim h (fun h => (Or.inr (Or.inr (Or.inr (Or.inr (Or.inl h)))))) (fun h => Or.elim h (fun h => (Or.inr (Or.inr (Or.inr (Or.inr (Or.inr (Or.inl h))))))) (fun h => (Or.inr (Or.inr (Or.inr (Or.inr (Or.inr (Or.inr (Or.inr (Or.inr h))))))))))))))
            exact k_DayRun_listen_l17 hr1 q4 q5 hK70 hQ n I_17 F_19 ⟨by omega, by omega⟩ ⟨by omega, by omega⟩ (by first | exact zLI_0 hr1 (by assumption) (by assumption) | exact zLI_a (by assumption) (by assumption) (by assumption) | exact zLI_b (by assumption) (by assumption) (by assumption) (by assumption) (zLf_8 hr1 F).1 | exact zLI_c (by assumption) (by assumption) (by assumption) (by assumption) (by assumption) (by assumption) (by assumption) (zLf_8 hr1 F).1 (zLf_8 hr1 (by assumption)).2) (by omega)
set_option maxRecDepth 100000 in
set_option maxHeartbeats 4000000 in
theorem k_DayRun_listen {r1 : Nat} (hr1 : zs_sh r1 = some (10, 20)) {l4 : Int} {l5 : Int} {g : zi_M} {Q : Int → zi_M → Prop} (I : zk_I g) (p4 : 0 ≤ l4 ∧ l4 ≤ 9) (p5 : (-2147483648) ≤ l5 ∧ l5 ≤ 2147483647) (hQ : ∀ g' : zi_M, zk_I g' → zk_fr (fr_DayRun_listen r1) g g' → (zLF r1 l4 l5 g g') → Q 0 g') : w_DayRun_listen r1 l4 l5 g Q := by
  unfold w_DayRun_listen
  refine k_Law_tells hr1 I ⟨by omega, by omega⟩ ⟨by omega, by omega⟩ ⟨by omega, by omega⟩ (fun v1 g2 I_3 F_4 b_1 b_2 => ?_)
  have F_5 : zk_fr (fr_DayRun_listen r1) g g2 := zk_ft (zk_f0 _) F_4 (fun a i => (fun h => Or.elim h (fun h => (Or.inr (Or.inr (Or.inr (Or.inr (Or.inr (Or.inr (Or.inl h)))))))) (fun h => (Or.inr (Or.inr (Or.inr (Or.inr (Or.inr (Or.inr (Or.inr (Or.inl h)))))))))))
  refine ⟨((16 - 0 : Int).toNat + 1), k_DayRun_listen_l17 (l4 := l4) (l5 := l5) hr1 ⟨by omega, by omega⟩ ⟨by omega, by omega⟩ (fun g16 I_20 F_21 b_22 => ?_) hQ ((16 - 0 : Int).toNat + 1) I_3 F_5 ⟨by omega, by omega⟩ ⟨by omega, by omega⟩ (by first | exact zLI_0 hr1 (by assumption) (by assumption) | exact zLI_a (by assumption) (by assumption) (by assumption) | exact zLI_b (by assumption) (by assumption) (by assumption) (by assumption) (zLf_8 hr1 F).1 | exact zLI_c (by assumption) (by assumption) (by assumption) (by assumption) (by assumption) (by assumption) (by assumption) (zLf_8 hr1 F).1 (zLf_8 hr1 (by assumption)).2) (by omega)⟩
  exact hQ _ I_20 F_21 (by assumption)
