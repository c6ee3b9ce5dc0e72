-- by program (wip/gen/mkz.py)
-- SpoutNews$Tokens.takeBelow(I)I
def fr_Tokens_takeBelow (a : Nat) (i : Int) : Prop := (a = 191 ∧ i = 4) ∨ (a = 191 ∧ i = 5) ∨ (a = 191 ∧ i = 6)
set_option maxRecDepth 100000 in
set_option maxHeartbeats 400000 in
theorem k_Tokens_takeBelow {l1 : Int} {g : zi_M} {Q : Int → zi_M → Prop} (I : zk_I g) (p1 : 0 ≤ l1 ∧ l1 ≤ 1000) (hQ : ∀ (v : Int) (g' : zi_M), zk_I g' → zk_fr fr_Tokens_takeBelow g g' → ((-1) ≤ v ∧ v ≤ 999) → Q v g') : w_Tokens_takeBelow l1 g Q := by
  unfold w_Tokens_takeBelow
  have m_4 : 0 ≤ (g 191 4) ∧ (g 191 4) ≤ 401 := I 191 4
  have m_5 : 0 ≤ (g 191 3) ∧ (g 191 3) ≤ 401 := I 191 3
  have m_6 : 0 ≤ (g 192 (g 191 4)) ∧ (g 192 (g 191 4)) ≤ 4 := I 192 (g 191 4)
  have m_7 : (-1) ≤ (g 193 (g 191 4)) ∧ (g 193 (g 191 4)) ≤ 9999 := I 193 (g 191 4)
  refine k_Tokens_number I (fun v1 b_1 b_2 b_3 => ?_)
  refine ⟨⟨by omega, by omega⟩, ?_⟩
  refine ⟨fun c16 => ?_, fun c16 => ?_⟩
  · refine ⟨⟨by omega, by omega⟩, ?_⟩
    refine ⟨fun c12 => ?_, fun c12 => ?_⟩
    · refine k_Tokens_step I (fun g7 I_8 F_9 => ?_)
      have F_10 : zk_fr fr_Tokens_takeBelow g g7 := zk_ft (zk_f0 _) F_9 (fun a i => (fun h => (Or.inl h)))
      exact hQ _ _ I_8 F_10 ⟨by omega, by omega⟩
    · refine k_Tokens_refuse I ⟨by omega, by omega⟩ (fun v9 g10 I_12 F_13 b_11 => ?_)
      have F_14 : zk_fr fr_Tokens_takeBelow g g10 := zk_ft (zk_f0 _) F_13 (fun a i => (fun h => Or.elim h (fun h => (Or.inr (Or.inl h))) (fun h => (Or.inr (Or.inr h)))))
      exact hQ _ _ I_12 F_14 ⟨by omega, by omega⟩
  · refine k_Tokens_refuse I ⟨by omega, by omega⟩ (fun v13 g14 I_16 F_17 b_15 => ?_)
    have F_18 : zk_fr fr_Tokens_takeBelow g g14 := zk_ft (zk_f0 _) F_17 (fun a i => (fun h => Or.elim h (fun h => (Or.inr (Or.inl h))) (fun h => (Or.inr (Or.inr h)))))
    exact hQ _ _ I_16 F_18 ⟨by omega, by omega⟩
-- SpoutNews$Texts.readGutters(LSpoutNews$Tokens;LSpoutNews$World;)Z
def fr_Texts_readGutters (a : Nat) (i : Int) : Prop := a = 205 ∨ (a = 191 ∧ i = 4) ∨ (a = 191 ∧ i = 5) ∨ (a = 191 ∧ i = 6) ∨ (a = 195 ∧ i = 2)
set_option maxRecDepth 100000 in
set_option maxHeartbeats 400000 in
theorem k_Texts_readGutters {g : zi_M} {Q : Int → zi_M → Prop} (I : zk_I g) (hQ : ∀ (v : Int) (g' : zi_M), zk_I g' → zk_fr fr_Texts_readGutters g g' → (0 ≤ v ∧ v ≤ 1) → Q v g') : w_Texts_readGutters g Q := by
  sorry
-- SpoutNews$Texts.copyGutters(LSpoutNews$Texts;)V
def fr_Texts_copyGutters (r0 : Nat) (r1 : Nat) (a : Nat) (i : Int) : Prop := a = r0 + 10 ∨ (a = r0 ∧ i = 2)
set_option maxRecDepth 100000 in
set_option maxHeartbeats 400000 in
theorem k_Texts_copyGutters {r0 : Nat} (hr0 : zs_sh r0 = some (6, 11)) {r1 : Nat} (hr1 : zs_sh r1 = some (6, 11)) {g : zi_M} {Q : Int → zi_M → Prop} (I : zk_I g) (hQ : ∀ g' : zi_M, zk_I g' → zk_fr (fr_Texts_copyGutters r0 r1) g g' → Q 0 g') : w_Texts_copyGutters r0 r1 g Q := by
  sorry
-- SpoutNews$Texts.readWeather(LSpoutNews$Tokens;)Z
def fr_Texts_readWeather (a : Nat) (i : Int) : Prop := a = 206 ∨ a = 207 ∨ (a = 191 ∧ i = 4) ∨ (a = 191 ∧ i = 5) ∨ (a = 191 ∧ i = 6) ∨ (a = 195 ∧ i = 5)
set_option maxRecDepth 100000 in
set_option maxHeartbeats 400000 in
theorem k_Texts_readWeather {g : zi_M} {Q : Int → zi_M → Prop} (I : zk_I g) (hQ : ∀ (v : Int) (g' : zi_M), zk_I g' → zk_fr fr_Texts_readWeather g g' → (0 ≤ v ∧ v ≤ 1) → Q v g') : w_Texts_readWeather g Q := by
  sorry
-- SpoutNews$Texts.copyWeather(LSpoutNews$Texts;)V
def fr_Texts_copyWeather (r0 : Nat) (r1 : Nat) (a : Nat) (i : Int) : Prop := a = r0 + 11 ∨ a = r0 + 12 ∨ (a = r0 ∧ i = 5)
set_option maxRecDepth 100000 in
set_option maxHeartbeats 400000 in
theorem k_Texts_copyWeather {r0 : Nat} (hr0 : zs_sh r0 = some (6, 11)) {r1 : Nat} (hr1 : zs_sh r1 = some (6, 11)) {g : zi_M} {Q : Int → zi_M → Prop} (I : zk_I g) (hQ : ∀ g' : zi_M, zk_I g' → zk_fr (fr_Texts_copyWeather r0 r1) g g' → Q 0 g') : w_Texts_copyWeather r0 r1 g Q := by
  sorry
-- SpoutNews$Texts.readDeed(LSpoutNews$Tokens;LSpoutNews$World;I)Z
def fr_Texts_readDeed (a : Nat) (i : Int) : Prop := a = 209 ∨ a = 210 ∨ a = 211 ∨ (a = 191 ∧ i = 4) ∨ (a = 191 ∧ i = 5) ∨ (a = 191 ∧ i = 6)
set_option maxRecDepth 100000 in
set_option maxHeartbeats 400000 in
theorem k_Texts_readDeed {l3 : Int} {g : zi_M} {Q : Int → zi_M → Prop} (I : zk_I g) (p3 : 0 ≤ l3) (hQ : ∀ (v : Int) (g' : zi_M), zk_I g' → zk_fr fr_Texts_readDeed g g' → (0 ≤ v ∧ v ≤ 1) → Q v g') : w_Texts_readDeed l3 g Q := by
  sorry
-- SpoutNews$Texts.readPlan(LSpoutNews$Tokens;LSpoutNews$World;)Z
def fr_Texts_readPlan (a : Nat) (i : Int) : Prop := a = 208 ∨ a = 209 ∨ a = 210 ∨ a = 211 ∨ (a = 191 ∧ i = 4) ∨ (a = 191 ∧ i = 5) ∨ (a = 191 ∧ i = 6) ∨ (a = 195 ∧ i = 10)
set_option maxRecDepth 100000 in
set_option maxHeartbeats 400000 in
theorem k_Texts_readPlan_l7 {K36 : zi_M → Prop} {K73 : zi_M → Prop} {K96 : zi_M → Prop} {Q : Int → zi_M → Prop} {g0 : zi_M} (hK36 : ∀ (g : zi_M), zk_I g → zk_fr fr_Texts_readPlan g0 g → K36 g) (hK73 : ∀ (g : zi_M), zk_I g → zk_fr fr_Texts_readPlan g0 g → K73 g) (hK96 : ∀ (g : zi_M), zk_I g → zk_fr fr_Texts_readPlan g0 g → K96 g) (hQ : ∀ (v : Int) (g' : zi_M), zk_I g' → zk_fr fr_Texts_readPlan g0 g' → (0 ≤ v ∧ v ≤ 1) → Q v g') : ∀ (n : Nat) {l3 : Int} {g : zi_M}, zk_I g → zk_fr fr_Texts_readPlan g0 g → (0 ≤ l3 ∧ l3 ≤ 16) → 16 - l3 < (n : Int) → w_Texts_readPlan_l7 K36 K73 K96 Q n l3 g
  | 0, l3, g, I, F, b0, hm => by exfalso; omega
  | n + 1, l3, g, I, F, b0, hm => by
    unfold w_Texts_readPlan_l7
    refine ⟨⟨by omega, by omega⟩, ?_⟩
    refine ⟨fun c28 => ?_, fun c28 => ?_⟩
    · exact hK96 _ I F
    · have m_7 : 0 ≤ (g 191 4) ∧ (g 191 4) ≤ 401 := I 191 4
      have m_8 : 0 ≤ (g 191 3) ∧ (g 191 3) ≤ 401 := I 191 3
      have m_9 : 0 ≤ (g 192 (g 191 4)) ∧ (g 192 (g 191 4)) ≤ 4 := I 192 (g 191 4)
      refine k_Tokens_isAtEnd I (fun v3 b_4 b_5 b_6 => ?_)
      refine ⟨fun c27 => ?_, fun c27 => ?_⟩
      · exact hK96 _ I F
      · refine k_Tokens_takeLineStart I ⟨by omega, by omega⟩ (by omega) (fun v6 g7 I_11 F_12 b_10 => ?_)
        have F_13 : zk_fr fr_Texts_readPlan g0 g7 := zk_ft F F_12 (fun a i => (fun h => Or.elim h (fun h => (Or.inr (Or.inr (Or.inr (Or.inr (Or.inl h)))))) (fun h => Or.elim h (fun h => (Or.inr (Or.inr (Or.inr (Or.inr (Or.inr (Or.inl h))))))) (fun h => (Or.inr (Or.inr (Or.inr (Or.inr (Or.inr (Or.inr (Or.inl h)))))))))))
        refine ⟨fun c26 => ?_, fun c26 => ?_⟩
        · exact hK36 _ I_11 F_13
        · refine ⟨fun c25 => ?_, fun c25 => ?_⟩
          · refine k_Tokens_takeBelow I_11 ⟨by omega, by omega⟩ (fun v9 g10 I_15 F_16 b_14 => ?_)
            have F_17 : zk_fr fr_Texts_readPlan g0 g10 := zk_ft F_13 F_16 (fun a i => (fun h => Or.elim h (fun h => (Or.inr (Or.inr (Or.inr (Or.inr (Or.inl h)))))) (fun h => Or.elim h (fun h => (Or.inr (Or.inr (Or.inr (Or.inr (Or.inr (Or.inl h))))))) (fun h => (Or.inr (Or.inr (Or.inr (Or.inr (Or.inr (Or.inr (Or.inl h)))))))))))
            refine ⟨⟨by omega, by omega⟩, ?_⟩
            refine ⟨fun c24 => ?_, fun c24 => ?_⟩
            · exact hK73 _ I_15 F_17
            · refine k_Texts_readDeed I_15 (by omega) (fun v13 g14 I_19 F_20 b_18 => ?_)
              have F_21 : zk_fr fr_Texts_readPlan g0 g14 := zk_ft F_17 F_20 (fun a i => (fun h => Or.elim h (fun h => (Or.inr (Or.inl h))) (fun h => Or.elim h (fun h => (Or.inr (Or.inr (Or.inl h)))) (fun h => Or.elim h (fun h => (Or.inr (Or.inr (Or.inr (Or.inl h))))) (fun h => Or.elim h (fun h => (Or.inr (Or.inr (Or.inr (Or.inr (Or.inl h)))))) (fun h => Or.elim h (fun h => (Or.inr (Or.inr (Or.inr (Or.inr (Or.inr (Or.inl h))))))) (fun h => (Or.inr (Or.inr (Or.inr (Or.inr (Or.inr (Or.inr (Or.inl h))))))))))))))
              refine ⟨fun c23 => ?_, fun c23 => ?_⟩
              · exact hK73 _ I_19 F_21
              · refine k_Tokens_take I_19 ⟨by omega, by omega⟩ ⟨by omega, by omega⟩ (fun v16 g17 I_23 F_24 b_22 => ?_)
                have F_25 : zk_fr fr_Texts_readPlan g0 g17 := zk_ft F_21 F_24 (fun a i => (fun h => Or.elim h (fun h => (Or.inr (Or.inr (Or.inr (Or.inr (Or.inl h)))))) (fun h => Or.elim h (fun h => (Or.inr (Or.inr (Or.inr (Or.inr (Or.inr (Or.inl h))))))) (fun h => (Or.inr (Or.inr (Or.inr (Or.inr (Or.inr (Or.inr (Or.inl h)))))))))))
                refine ⟨fun c22 => ?_, fun c22 => ?_⟩
                · refine ⟨⟨by omega, by omega⟩, ?_⟩
                  intro g20 e_26
                  have I_27 : zk_I g20 := by rw [e_26]; exact zk_upd (L := (-2147483648)) (H := 2147483647) rfl rfl I_23 ⟨by omega, by omega⟩
                  have F_28 : zk_fr fr_Texts_readPlan g0 g20 := by rw [e_26]; exact zk_fu F_25 (Or.inl rfl)
                  intro g21 e_29
                  have I_30 : zk_I g21 := by rw [e_29]; exact zk_upd (L := 0) (H := 16) rfl rfl I_27 ⟨by omega, by omega⟩
                  have F_31 : zk_fr fr_Texts_readPlan g0 g21 := by rw [e_29]; exact zk_fu F_28 (Or.inr (Or.inr (Or.inr (Or.inr (Or.inr (Or.inr (Or.inr ⟨rfl, rfl⟩)))))))
                  exact k_Texts_readPlan_l7 hK36 hK73 hK96 hQ n I_30 F_31 ⟨by omega, by omega⟩ (by omega)
                · exact hK73 _ I_23 F_25
          · exact hK36 _ I_11 F_13
set_option maxRecDepth 100000 in
set_option maxHeartbeats 400000 in
theorem k_Texts_readPlan {g : zi_M} {Q : Int → zi_M → Prop} (I : zk_I g) (hQ : ∀ (v : Int) (g' : zi_M), zk_I g' → zk_fr fr_Texts_readPlan g g' → (0 ≤ v ∧ v ≤ 1) → Q v g') : w_Texts_readPlan g Q := by
  unfold w_Texts_readPlan
  intro g1 e_1
  have I_2 : zk_I g1 := by rw [e_1]; exact zk_upd (L := 0) (H := 16) rfl rfl I ⟨by omega, by omega⟩
  have F_3 : zk_fr fr_Texts_readPlan g g1 := by rw [e_1]; exact zk_fu (zk_f0 _) (Or.inr (Or.inr (Or.inr (Or.inr (Or.inr (Or.inr (Or.inr ⟨rfl, rfl⟩)))))))
  refine ⟨((16 - 0 : Int).toNat + 1), k_Texts_readPlan_l7 (fun g29 I_32 F_33 => ?_) (fun g30 I_34 F_35 => ?_) (fun g31 I_36 F_37 => ?_) hQ ((16 - 0 : Int).toNat + 1) I_2 F_3 ⟨by omega, by omega⟩ (by omega)⟩
  · exact hQ _ _ I_32 F_33 ⟨by omega, by omega⟩
  · exact hQ _ _ I_34 F_35 ⟨by omega, by omega⟩
  · exact hQ _ _ I_36 F_37 ⟨by omega, by omega⟩
-- SpoutNews$Texts.copyPlan(LSpoutNews$Texts;)V
def fr_Texts_copyPlan (r0 : Nat) (r1 : Nat) (a : Nat) (i : Int) : Prop := a = r0 + 13 ∨ a = r0 + 14 ∨ a = r0 + 15 ∨ a = r0 + 16 ∨ (a = r0 ∧ i = 10)
set_option maxRecDepth 100000 in
set_option maxHeartbeats 400000 in
theorem k_Texts_copyPlan {r0 : Nat} (hr0 : zs_sh r0 = some (6, 11)) {r1 : Nat} (hr1 : zs_sh r1 = some (6, 11)) {g : zi_M} {Q : Int → zi_M → Prop} (I : zk_I g) (hQ : ∀ g' : zi_M, zk_I g' → zk_fr (fr_Texts_copyPlan r0 r1) g g' → Q 0 g') : w_Texts_copyPlan r0 r1 g Q := by
  sorry
-- SpoutNewsModel.takesOther(II)V
def fr_M_takesOther (a : Nat) (i : Int) : Prop := a = 232 ∨ a = 233 ∨ a = 234 ∨ (a = 214 ∧ i = 3) ∨ (a = 214 ∧ i = 35) ∨ (a = 214 ∧ i = 37) ∨ (a = 214 ∧ i = 39)
set_option maxRecDepth 100000 in
set_option maxHeartbeats 400000 in
theorem k_M_takesOther_l85 {l2 : Int} {K113 : zi_M → Prop} {Q : Int → zi_M → Prop} {g0 : zi_M} (q2 : 0 ≤ l2 ∧ l2 ≤ 16) (hK113 : ∀ (g : zi_M), zk_I g → zk_fr fr_M_takesOther g0 g → K113 g) (hQ : ∀ g' : zi_M, zk_I g' → zk_fr fr_M_takesOther g0 g' → Q 0 g') : ∀ (n : Nat) {l3 : Int} {g : zi_M}, zk_I g → zk_fr fr_M_takesOther g0 g → (0 ≤ l3 ∧ l3 ≤ 64) → 64 - l3 < (n : Int) → w_M_takesOther_l85 l2 K113 Q n l3 g
  | 0, l3, g, I, F, b0, hm => by exfalso; omega
  | n + 1, l3, g, I, F, b0, hm => by
    unfold w_M_takesOther_l85
    refine ⟨⟨by omega, by omega⟩, ⟨by omega, by omega⟩, ?_⟩
    refine ⟨fun c7 => ?_, fun c7 => ?_⟩
    · exact hK113 _ I F
    · refine ⟨⟨by omega, by omega⟩, ?_⟩
      refine ⟨⟨by omega, by omega⟩, ?_⟩
      have m_4 : (-2147483648) ≤ (g 234 (64 + l3)) ∧ (g 234 (64 + l3)) ≤ 2147483647 := I 234 (64 + l3)
      intro g6 e_1
      have I_2 : zk_I g6 := by rw [e_1]; exact zk_upd (L := (-2147483648)) (H := 2147483647) rfl rfl I ⟨by omega, by omega⟩
      have F_3 : zk_fr fr_M_takesOther g0 g6 := by rw [e_1]; exact zk_fu F (Or.inr (Or.inr (Or.inl rfl)))
      exact k_M_takesOther_l85 q2 hK113 hQ n I_2 F_3 ⟨by omega, by omega⟩ (by omega)
set_option maxRecDepth 100000 in
set_option maxHeartbeats 400000 in
theorem k_M_takesOther_l47 {l2 : Int} {K75 : zi_M → Prop} {Q : Int → zi_M → Prop} {g0 : zi_M} (q2 : 0 ≤ l2 ∧ l2 ≤ 16) (hK75 : ∀ (g : zi_M), zk_I g → zk_fr fr_M_takesOther g0 g → K75 g) (hQ : ∀ g' : zi_M, zk_I g' → zk_fr fr_M_takesOther g0 g' → Q 0 g') : ∀ (n : Nat) {l3 : Int} {g : zi_M}, zk_I g → zk_fr fr_M_takesOther g0 g → (0 ≤ l3 ∧ l3 ≤ 32) → 32 - l3 < (n : Int) → w_M_takesOther_l47 l2 K75 Q n l3 g
  | 0, l3, g, I, F, b0, hm => by exfalso; omega
  | n + 1, l3, g, I, F, b0, hm => by
    unfold w_M_takesOther_l47
    refine ⟨⟨by omega, by omega⟩, ⟨by omega, by omega⟩, ?_⟩
    refine ⟨fun c17 => ?_, fun c17 => ?_⟩
    · exact hK75 _ I F
    · refine ⟨⟨by omega, by omega⟩, ?_⟩
      refine ⟨⟨by omega, by omega⟩, ?_⟩
      have m_16 : (-2147483648) ≤ (g 233 (32 + l3)) ∧ (g 233 (32 + l3)) ≤ 2147483647 := I 233 (32 + l3)
      intro g16 e_13
      have I_14 : zk_I g16 := by rw [e_13]; exact zk_upd (L := (-2147483648)) (H := 2147483647) rfl rfl I ⟨by omega, by omega⟩
      have F_15 : zk_fr fr_M_takesOther g0 g16 := by rw [e_13]; exact zk_fu F (Or.inr (Or.inl rfl))
      exact k_M_takesOther_l47 q2 hK75 hQ n I_14 F_15 ⟨by omega, by omega⟩ (by omega)
set_option maxRecDepth 100000 in
set_option maxHeartbeats 400000 in
theorem k_M_takesOther_l7 {K34 : zi_M → Prop} {Q : Int → zi_M → Prop} {g0 : zi_M} (hK34 : ∀ (g : zi_M), zk_I g → zk_fr fr_M_takesOther g0 g → K34 g) (hQ : ∀ g' : zi_M, zk_I g' → zk_fr fr_M_takesOther g0 g' → Q 0 g') : ∀ (n : Nat) {l3 : Int} {g : zi_M}, zk_I g → zk_fr fr_M_takesOther g0 g → (0 ≤ l3 ∧ l3 ≤ 10) → 10 - l3 < (n : Int) → w_M_takesOther_l7 K34 Q n l3 g
  | 0, l3, g, I, F, b0, hm => by exfalso; omega
  | n + 1, l3, g, I, F, b0, hm => by
    unfold w_M_takesOther_l7
    refine ⟨⟨by omega, by omega⟩, ?_⟩
    refine ⟨fun c27 => ?_, fun c27 => ?_⟩
    · exact hK34 _ I F
    · refine ⟨⟨by omega, by omega⟩, ?_⟩
      refine ⟨⟨by omega, by omega⟩, ?_⟩
      have m_28 : 0 ≤ (g 232 (10 + l3)) ∧ (g 232 (10 + l3)) ≤ 10 := I 232 (10 + l3)
      intro g26 e_25
      have I_26 : zk_I g26 := by rw [e_25]; exact zk_upd (L := 0) (H := 10) rfl rfl I ⟨by omega, by omega⟩
      have F_27 : zk_fr fr_M_takesOther g0 g26 := by rw [e_25]; exact zk_fu F (Or.inl rfl)
      exact k_M_takesOther_l7 hK34 hQ n I_26 F_27 ⟨by omega, by omega⟩ (by omega)
set_option maxRecDepth 100000 in
set_option maxHeartbeats 400000 in
theorem k_M_takesOther {l1 : Int} {l2 : Int} {g : zi_M} {Q : Int → zi_M → Prop} (I : zk_I g) (p1 : (-2147483648) ≤ l1 ∧ l1 ≤ 2147483647) (p2 : 0 ≤ l2 ∧ l2 ≤ 16) (hQ : ∀ g' : zi_M, zk_I g' → zk_fr fr_M_takesOther g g' → Q 0 g') : w_M_takesOther l1 l2 g Q := by
  unfold w_M_takesOther
  refine ⟨⟨by omega, by omega⟩, ?_⟩
  refine ⟨fun c31 => ?_, fun c31 => ?_⟩
  · refine ⟨fun c22 => ?_, fun c22 => ?_⟩
    · refine ⟨((64 - 0 : Int).toNat + 1), k_M_takesOther_l85 (l2 := l2) ⟨by omega, by omega⟩ (fun g8 I_5 F_6 => ?_) hQ ((64 - 0 : Int).toNat + 1) I (zk_f0 _) ⟨by omega, by omega⟩ (by omega)⟩
      intro g9 e_7
      have I_8 : zk_I g9 := by rw [e_7]; exact zk_upd (L := 0) (H := 16) rfl rfl I_5 ⟨by omega, by omega⟩
      have F_9 : zk_fr fr_M_takesOther g g9 := by rw [e_7]; exact zk_fu F_6 (Or.inr (Or.inr (Or.inr (Or.inr (Or.inr (Or.inr ⟨rfl, rfl⟩))))))
      intro g10 e_10
      have I_11 : zk_I g10 := by rw [e_10]; exact zk_upd (L := 0) (H := 6) rfl rfl I_8 ⟨by omega, by omega⟩
      have F_12 : zk_fr fr_M_takesOther g g10 := by rw [e_10]; exact zk_fu F_9 (Or.inr (Or.inr (Or.inr (Or.inl ⟨rfl, rfl⟩))))
      exact hQ _ I_11 F_12
    · refine ⟨((32 - 0 : Int).toNat + 1), k_M_takesOther_l47 (l2 := l2) ⟨by omega, by omega⟩ (fun g18 I_17 F_18 => ?_) hQ ((32 - 0 : Int).toNat + 1) I (zk_f0 _) ⟨by omega, by omega⟩ (by omega)⟩
      intro g19 e_19
      have I_20 : zk_I g19 := by rw [e_19]; exact zk_upd (L := 0) (H := 16) rfl rfl I_17 ⟨by omega, by omega⟩
      have F_21 : zk_fr fr_M_takesOther g g19 := by rw [e_19]; exact zk_fu F_18 (Or.inr (Or.inr (Or.inr (Or.inr (Or.inr (Or.inl ⟨rfl, rfl⟩))))))
      intro g20 e_22
      have I_23 : zk_I g20 := by rw [e_22]; exact zk_upd (L := 0) (H := 6) rfl rfl I_20 ⟨by omega, by omega⟩
      have F_24 : zk_fr fr_M_takesOther g g20 := by rw [e_22]; exact zk_fu F_21 (Or.inr (Or.inr (Or.inr (Or.inl ⟨rfl, rfl⟩))))
      exact hQ _ I_23 F_24
  · refine ⟨((10 - 0 : Int).toNat + 1), k_M_takesOther_l7 (fun g28 I_29 F_30 => ?_) hQ ((10 - 0 : Int).toNat + 1) I (zk_f0 _) ⟨by omega, by omega⟩ (by omega)⟩
    intro g29 e_31
    have I_32 : zk_I g29 := by rw [e_31]; exact zk_upd (L := 0) (H := 16) rfl rfl I_29 ⟨by omega, by omega⟩
    have F_33 : zk_fr fr_M_takesOther g g29 := by rw [e_31]; exact zk_fu F_30 (Or.inr (Or.inr (Or.inr (Or.inr (Or.inl ⟨rfl, rfl⟩)))))
    exact hQ _ I_32 F_33
-- SpoutNewsModel.takesLaw(I)V
def fr_M_takesLaw (a : Nat) (i : Int) : Prop := a = 224 ∨ a = 225 ∨ a = 226 ∨ a = 227 ∨ a = 228 ∨ a = 229 ∨ a = 230
set_option maxRecDepth 100000 in
set_option maxHeartbeats 400000 in
theorem k_M_takesLaw_l2 {l1 : Int} {K105 : zi_M → Prop} {Q : Int → zi_M → Prop} {g0 : zi_M} (q1 : 0 ≤ l1 ∧ l1 ≤ 16) (hK105 : ∀ (g : zi_M), zk_I g → zk_fr fr_M_takesLaw g0 g → K105 g) (hQ : ∀ g' : zi_M, zk_I g' → zk_fr fr_M_takesLaw g0 g' → Q 0 g') : ∀ (n : Nat) {l2 : Int} {g : zi_M}, zk_I g → zk_fr fr_M_takesLaw g0 g → (0 ≤ l2 ∧ l2 ≤ 16) → 16 - l2 < (n : Int) → w_M_takesLaw_l2 l1 K105 Q n l2 g
  | 0, l2, g, I, F, b0, hm => by exfalso; omega
  | n + 1, l2, g, I, F, b0, hm => by
    unfold w_M_takesLaw_l2
    refine ⟨⟨by omega, by omega⟩, ⟨by omega, by omega⟩, ?_⟩
    refine ⟨fun c12 => ?_, fun c12 => ?_⟩
    · exact hK105 _ I F
    · refine ⟨⟨by omega, by omega⟩, ?_⟩
      have m_4 : 0 ≤ (g 214 26) ∧ (g 214 26) ≤ 0 := I 214 26
      refine ⟨⟨by omega, by omega⟩, ?_⟩
      have m_5 : (-2147483648) ≤ (g 225 (32 + l2)) ∧ (g 225 (32 + l2)) ≤ 2147483647 := I 225 (32 + l2)
      intro g5 e_1
      have I_2 : zk_I g5 := by rw [e_1]; exact zk_upd (L := (-2147483648)) (H := 2147483647) rfl rfl I ⟨by omega, by omega⟩
      have F_3 : zk_fr fr_M_takesLaw g0 g5 := by rw [e_1]; exact zk_fu F (Or.inr (Or.inl rfl))
      have m_9 : 0 ≤ (g5 214 26) ∧ (g5 214 26) ≤ 0 := I_2 214 26
      have m_10 : g5 214 26 = g 214 26 := by rw [e_1]; exact zi_u_ne (by decide)
      refine ⟨⟨by omega, by omega⟩, ?_⟩
      have m_11 : 0 ≤ (g5 226 (32 + l2)) ∧ (g5 226 (32 + l2)) ≤ 400 := I_2 226 (32 + l2)
      have m_12 : g5 226 (32 + l2) = g 226 (32 + l2) := by rw [e_1]; exact zi_u_ne (by decide)
      have m_13 : 0 ≤ (g 226 (32 + l2)) ∧ (g 226 (32 + l2)) ≤ 400 := I 226 (32 + l2)
      intro g7 e_6
      have I_7 : zk_I g7 := by rw [e_6]; exact zk_upd (L := 0) (H := 400) rfl rfl I_2 ⟨by omega, by omega⟩
      have F_8 : zk_fr fr_M_takesLaw g0 g7 := by rw [e_6]; exact zk_fu F_3 (Or.inr (Or.inr (Or.inl rfl)))
      have m_17 : 0 ≤ (g7 214 26) ∧ (g7 214 26) ≤ 0 := I_7 214 26
      have m_18 : g7 214 26 = g5 214 26 := by rw [e_6]; exact zi_u_ne (by decide)
      refine ⟨⟨by omega, by omega⟩, ?_⟩
      have m_19 : 0 ≤ (g7 227 (32 + l2)) ∧ (g7 227 (32 + l2)) ≤ 400 := I_7 227 (32 + l2)
      have m_20 : g7 227 (32 + l2) = g5 227 (32 + l2) := by rw [e_6]; exact zi_u_ne (by decide)
      have m_21 : 0 ≤ (g5 227 (32 + l2)) ∧ (g5 227 (32 + l2)) ≤ 400 := I_2 227 (32 + l2)
      have m_22 : g5 227 (32 + l2) = g 227 (32 + l2) := by rw [e_1]; exact zi_u_ne (by decide)
      have m_23 : 0 ≤ (g 227 (32 + l2)) ∧ (g 227 (32 + l2)) ≤ 400 := I 227 (32 + l2)
      intro g9 e_14
      have I_15 : zk_I g9 := by rw [e_14]; exact zk_upd (L := 0) (H := 400) rfl rfl I_7 ⟨by omega, by omega⟩
      have F_16 : zk_fr fr_M_takesLaw g0 g9 := by rw [e_14]; exact zk_fu F_8 (Or.inr (Or.inr (Or.inr (Or.inl rfl))))
      have m_27 : 0 ≤ (g9 214 26) ∧ (g9 214 26) ≤ 0 := I_15 214 26
      have m_28 : g9 214 26 = g7 214 26 := by rw [e_14]; exact zi_u_ne (by decide)
      refine ⟨⟨by omega, by omega⟩, ?_⟩
      have m_29 : 0 ≤ (g9 228 (32 + l2)) ∧ (g9 228 (32 + l2)) ≤ 400 := I_15 228 (32 + l2)
      have m_30 : g9 228 (32 + l2) = g7 228 (32 + l2) := by rw [e_14]; exact zi_u_ne (by decide)
      have m_31 : 0 ≤ (g7 228 (32 + l2)) ∧ (g7 228 (32 + l2)) ≤ 400 := I_7 228 (32 + l2)
      have m_32 : g7 228 (32 + l2) = g5 228 (32 + l2) := by rw [e_6]; exact zi_u_ne (by decide)
      have m_33 : 0 ≤ (g5 228 (32 + l2)) ∧ (g5 228 (32 + l2)) ≤ 400 := I_2 228 (32 + l2)
      have m_34 : g5 228 (32 + l2) = g 228 (32 + l2) := by rw [e_1]; exact zi_u_ne (by decide)
      have m_35 : 0 ≤ (g 228 (32 + l2)) ∧ (g 228 (32 + l2)) ≤ 400 := I 228 (32 + l2)
      intro g11 e_24
      have I_25 : zk_I g11 := by rw [e_24]; exact zk_upd (L := 0) (H := 400) rfl rfl I_15 ⟨by omega, by omega⟩
      have F_26 : zk_fr fr_M_takesLaw g0 g11 := by rw [e_24]; exact zk_fu F_16 (Or.inr (Or.inr (Or.inr (Or.inr (Or.inl rfl)))))
      exact k_M_takesLaw_l2 q1 hK105 hQ n I_25 F_26 ⟨by omega, by omega⟩ (by omega)
set_option maxRecDepth 100000 in
set_option maxHeartbeats 400000 in
theorem k_M_takesLaw_l107 {K171 : zi_M → Prop} {Q : Int → zi_M → Prop} {g0 : zi_M} (hK171 : ∀ (g : zi_M), zk_I g → zk_fr fr_M_takesLaw g0 g → K171 g) (hQ : ∀ g' : zi_M, zk_I g' → zk_fr fr_M_takesLaw g0 g' → Q 0 g') : ∀ (n : Nat) {l2 : Int} {g : zi_M}, zk_I g → zk_fr fr_M_takesLaw g0 g → (0 ≤ l2 ∧ l2 ≤ 400) → 400 - l2 < (n : Int) → w_M_takesLaw_l107 K171 Q n l2 g
  | 0, l2, g, I, F, b0, hm => by exfalso; omega
  | n + 1, l2, g, I, F, b0, hm => by
    unfold w_M_takesLaw_l107
    have m_38 : 0 ≤ (g 214 27) ∧ (g 214 27) ≤ 400 := I 214 27
    refine ⟨⟨by omega, by omega⟩, ⟨by omega, by omega⟩, ?_⟩
    refine ⟨fun c21 => ?_, fun c21 => ?_⟩
    · exact hK171 _ I F
    · refine ⟨⟨by omega, by omega⟩, ?_⟩
      have m_42 : 0 ≤ (g 214 26) ∧ (g 214 26) ≤ 0 := I 214 26
      refine ⟨⟨by omega, by omega⟩, ?_⟩
      have m_43 : (-2147483648) ≤ (g 229 (800 + l2)) ∧ (g 229 (800 + l2)) ≤ 2147483647 := I 229 (800 + l2)
      intro g18 e_39
      have I_40 : zk_I g18 := by rw [e_39]; exact zk_upd (L := (-2147483648)) (H := 2147483647) rfl rfl I ⟨by omega, by omega⟩
      have F_41 : zk_fr fr_M_takesLaw g0 g18 := by rw [e_39]; exact zk_fu F (Or.inr (Or.inr (Or.inr (Or.inr (Or.inr (Or.inl rfl))))))
      have m_47 : 0 ≤ (g18 214 26) ∧ (g18 214 26) ≤ 0 := I_40 214 26
      have m_48 : g18 214 26 = g 214 26 := by rw [e_39]; exact zi_u_ne (by decide)
      refine ⟨⟨by omega, by omega⟩, ?_⟩
      have m_49 : (-2147483648) ≤ (g18 230 (800 + l2)) ∧ (g18 230 (800 + l2)) ≤ 2147483647 := I_40 230 (800 + l2)
      have m_50 : g18 230 (800 + l2) = g 230 (800 + l2) := by rw [e_39]; exact zi_u_ne (by decide)
      have m_51 : (-2147483648) ≤ (g 230 (800 + l2)) ∧ (g 230 (800 + l2)) ≤ 2147483647 := I 230 (800 + l2)
      intro g20 e_44
      have I_45 : zk_I g20 := by rw [e_44]; exact zk_upd (L := (-2147483648)) (H := 2147483647) rfl rfl I_40 ⟨by omega, by omega⟩
      have F_46 : zk_fr fr_M_takesLaw g0 g20 := by rw [e_44]; exact zk_fu F_41 (Or.inr (Or.inr (Or.inr (Or.inr (Or.inr (Or.inr rfl))))))
      exact k_M_takesLaw_l107 hK171 hQ n I_45 F_46 ⟨by omega, by omega⟩ (by omega)
set_option maxRecDepth 100000 in
set_option maxHeartbeats 400000 in
theorem k_M_takesLaw {l1 : Int} {g : zi_M} {Q : Int → zi_M → Prop} (I : zk_I g) (p1 : 0 ≤ l1 ∧ l1 ≤ 16) (hQ : ∀ g' : zi_M, zk_I g' → zk_fr fr_M_takesLaw g g' → Q 0 g') : w_M_takesLaw l1 g Q := by
  unfold w_M_takesLaw
  refine ⟨((16 - 0 : Int).toNat + 1), k_M_takesLaw_l2 (l1 := l1) ⟨by omega, by omega⟩ (fun g13 I_36 F_37 => ?_) hQ ((16 - 0 : Int).toNat + 1) I (zk_f0 _) ⟨by omega, by omega⟩ (by omega)⟩
  refine ⟨((400 - 0 : Int).toNat + 1), k_M_takesLaw_l107 (fun g22 I_52 F_53 => ?_) hQ ((400 - 0 : Int).toNat + 1) I_36 F_37 ⟨by omega, by omega⟩ (by omega)⟩
  have m_57 : 0 ≤ (g22 214 26) ∧ (g22 214 26) ≤ 0 := I_52 214 26
  refine ⟨⟨by omega, by omega⟩, ?_⟩
  intro g24 e_54
  have I_55 : zk_I g24 := by rw [e_54]; exact zk_upd (L := 0) (H := 16) rfl rfl I_52 ⟨by omega, by omega⟩
  have F_56 : zk_fr fr_M_takesLaw g g24 := by rw [e_54]; exact zk_fu F_53 (Or.inl rfl)
  exact hQ _ I_55 F_56
-- SpoutNewsModel.raw(I)I
set_option maxRecDepth 100000 in
set_option maxHeartbeats 400000 in
theorem k_M_raw {l1 : Int} {g : zi_M} {Q : Int → zi_M → Prop} (I : zk_I g) (p1 : 0 ≤ l1 ∧ l1 ≤ 400) (hQ : ∀ v : Int, ((g 214 13) ≤ l1 → v = (-1)) → (l1 < (g 214 13) → v = g 222 l1) → Q v g) : w_M_raw l1 g Q := by
  unfold w_M_raw
  have m_1 : 0 ≤ (g 214 13) ∧ (g 214 13) ≤ 400 := I 214 13
  refine ⟨⟨by omega, by omega⟩, ⟨by omega, by omega⟩, ?_⟩
  refine ⟨fun c4 => ?_, fun c4 => ?_⟩
  · have m_2 : 0 ≤ (g 222 l1) ∧ (g 222 l1) ≤ 255 := I 222 l1
    exact hQ _ (by intros; omega) (by intros; omega)
  · refine ⟨⟨by omega, by omega⟩, ?_⟩
    have m_3 : 0 ≤ (g 222 l1) ∧ (g 222 l1) ≤ 255 := I 222 l1
    exact hQ _ (by intros; omega) (by intros; omega)
-- SpoutNewsModel.isLetter(I)Z
set_option maxRecDepth 100000 in
set_option maxHeartbeats 400000 in
theorem k_M_isLetter {l1 : Int} {g : zi_M} {Q : Int → zi_M → Prop} (I : zk_I g) (p1 : (-1) ≤ l1 ∧ l1 ≤ 255) (hQ : ∀ v : Int, (l1 < 97 → l1 < 65 → v = 0) → (l1 < 97 → 65 ≤ l1 → 90 < l1 → v = 0) → (l1 < 97 → 65 ≤ l1 → l1 ≤ 90 → v = 1) → (97 ≤ l1 → 122 < l1 → l1 < 65 → v = 0) → (97 ≤ l1 → 122 < l1 → 65 ≤ l1 → 90 < l1 → v = 0) → (97 ≤ l1 → 122 < l1 → 65 ≤ l1 → l1 ≤ 90 → v = 1) → (97 ≤ l1 → l1 ≤ 122 → v = 1) → Q v g) : w_M_isLetter l1 g Q := by
  unfold w_M_isLetter
  refine k_M_isIn I ⟨by omega, by omega⟩ ⟨by omega, by omega⟩ ⟨by omega, by omega⟩ (fun v1 b_1 b_2 b_3 => ?_)
  refine ⟨fun c8 => ?_, fun c8 => ?_⟩
  · exact hQ _ (by intros; omega) (by intros; omega) (by intros; omega) (by intros; omega) (by intros; omega) (by intros; omega) (by intros; omega)
  · refine k_M_isIn I ⟨by omega, by omega⟩ ⟨by omega, by omega⟩ ⟨by omega, by omega⟩ (fun v4 b_4 b_5 b_6 => ?_)
    refine ⟨fun c7 => ?_, fun c7 => ?_⟩
    · exact hQ _ (by intros; omega) (by intros; omega) (by intros; omega) (by intros; omega) (by intros; omega) (by intros; omega) (by intros; omega)
    · exact hQ _ (by intros; omega) (by intros; omega) (by intros; omega) (by intros; omega) (by intros; omega) (by intros; omega) (by intros; omega)
-- SpoutNewsModel.isDigit(I)Z
set_option maxRecDepth 100000 in
set_option maxHeartbeats 400000 in
theorem k_M_isDigit {l1 : Int} {g : zi_M} {Q : Int → zi_M → Prop} (I : zk_I g) (p1 : (-1) ≤ l1 ∧ l1 ≤ 255) (hQ : ∀ v : Int, (l1 < 48 → v = 0) → (48 ≤ l1 → 57 < l1 → v = 0) → (48 ≤ l1 → l1 ≤ 57 → v = 1) → Q v g) : w_M_isDigit l1 g Q := by
  unfold w_M_isDigit
  refine k_M_isIn I ⟨by omega, by omega⟩ ⟨by omega, by omega⟩ ⟨by omega, by omega⟩ (fun v1 b_1 b_2 b_3 => ?_)
  exact hQ _ (by intros; omega) (by intros; omega) (by intros; omega)
-- SpoutNewsModel.isMarkSign(I)Z
set_option maxRecDepth 100000 in
set_option maxHeartbeats 400000 in
theorem k_M_isMarkSign {l1 : Int} {g : zi_M} {Q : Int → zi_M → Prop} (I : zk_I g) (p1 : 0 ≤ l1 ∧ l1 ≤ 255) (hQ : ∀ v : Int, (l1 = 59 → v = 1) → (¬ l1 = 59 → l1 = 43 → v = 1) → (¬ l1 = 59 → ¬ l1 = 43 → l1 = 45 → v = 1) → (¬ l1 = 59 → ¬ l1 = 43 → ¬ l1 = 45 → l1 = 42 → v = 1) → (¬ l1 = 59 → ¬ l1 = 43 → ¬ l1 = 45 → ¬ l1 = 42 → l1 = 47 → v = 1) → (¬ l1 = 59 → ¬ l1 = 43 → ¬ l1 = 45 → ¬ l1 = 42 → ¬ l1 = 47 → l1 = 40 → v = 1) → (¬ l1 = 59 → ¬ l1 = 43 → ¬ l1 = 45 → ¬ l1 = 42 → ¬ l1 = 47 → ¬ l1 = 40 → l1 = 41 → v = 1) → (¬ l1 = 59 → ¬ l1 = 43 → ¬ l1 = 45 → ¬ l1 = 42 → ¬ l1 = 47 → ¬ l1 = 40 → ¬ l1 = 41 → l1 = 60 → v = 1) → (¬ l1 = 59 → ¬ l1 = 43 → ¬ l1 = 45 → ¬ l1 = 42 → ¬ l1 = 47 → ¬ l1 = 40 → ¬ l1 = 41 → ¬ l1 = 60 → l1 = 61 → v = 1) → (¬ l1 = 59 → ¬ l1 = 43 → ¬ l1 = 45 → ¬ l1 = 42 → ¬ l1 = 47 → ¬ l1 = 40 → ¬ l1 = 41 → ¬ l1 = 60 → ¬ l1 = 61 → ¬ l1 = 62 → v = 0) → (¬ l1 = 59 → ¬ l1 = 43 → ¬ l1 = 45 → ¬ l1 = 42 → ¬ l1 = 47 → ¬ l1 = 40 → ¬ l1 = 41 → ¬ l1 = 60 → ¬ l1 = 61 → l1 = 62 → v = 1) → Q v g) : w_M_isMarkSign l1 g Q := by
  unfold w_M_isMarkSign
  refine ⟨⟨by omega, by omega⟩, ?_⟩
  refine ⟨fun c11 => ?_, fun c11 => ?_⟩
  · exact hQ _ (by intros; omega) (by intros; omega) (by intros; omega) (by intros; omega) (by intros; omega) (by intros; omega) (by intros; omega) (by intros; omega) (by intros; omega) (by intros; omega) (by intros; omega)
  · refine ⟨fun c10 => ?_, fun c10 => ?_⟩
    · exact hQ _ (by intros; omega) (by intros; omega) (by intros; omega) (by intros; omega) (by intros; omega) (by intros; omega) (by intros; omega) (by intros; omega) (by intros; omega) (by intros; omega) (by intros; omega)
    · refine ⟨fun c9 => ?_, fun c9 => ?_⟩
      · exact hQ _ (by intros; omega) (by intros; omega) (by intros; omega) (by intros; omega) (by intros; omega) (by intros; omega) (by intros; omega) (by intros; omega) (by intros; omega) (by intros; omega) (by intros; omega)
      · refine ⟨fun c8 => ?_, fun c8 => ?_⟩
        · exact hQ _ (by intros; omega) (by intros; omega) (by intros; omega) (by intros; omega) (by intros; omega) (by intros; omega) (by intros; omega) (by intros; omega) (by intros; omega) (by intros; omega) (by intros; omega)
        · refine ⟨fun c7 => ?_, fun c7 => ?_⟩
          · exact hQ _ (by intros; omega) (by intros; omega) (by intros; omega) (by intros; omega) (by intros; omega) (by intros; omega) (by intros; omega) (by intros; omega) (by intros; omega) (by intros; omega) (by intros; omega)
          · refine ⟨fun c6 => ?_, fun c6 => ?_⟩
            · exact hQ _ (by intros; omega) (by intros; omega) (by intros; omega) (by intros; omega) (by intros; omega) (by intros; omega) (by intros; omega) (by intros; omega) (by intros; omega) (by intros; omega) (by intros; omega)
            · refine ⟨fun c5 => ?_, fun c5 => ?_⟩
              · exact hQ _ (by intros; omega) (by intros; omega) (by intros; omega) (by intros; omega) (by intros; omega) (by intros; omega) (by intros; omega) (by intros; omega) (by intros; omega) (by intros; omega) (by intros; omega)
              · refine ⟨fun c4 => ?_, fun c4 => ?_⟩
                · exact hQ _ (by intros; omega) (by intros; omega) (by intros; omega) (by intros; omega) (by intros; omega) (by intros; omega) (by intros; omega) (by intros; omega) (by intros; omega) (by intros; omega) (by intros; omega)
                · refine ⟨fun c3 => ?_, fun c3 => ?_⟩
                  · exact hQ _ (by intros; omega) (by intros; omega) (by intros; omega) (by intros; omega) (by intros; omega) (by intros; omega) (by intros; omega) (by intros; omega) (by intros; omega) (by intros; omega) (by intros; omega)
                  · refine ⟨fun c2 => ?_, fun c2 => ?_⟩
                    · exact hQ _ (by intros; omega) (by intros; omega) (by intros; omega) (by intros; omega) (by intros; omega) (by intros; omega) (by intros; omega) (by intros; omega) (by intros; omega) (by intros; omega) (by intros; omega)
                    · exact hQ _ (by intros; omega) (by intros; omega) (by intros; omega) (by intros; omega) (by intros; omega) (by intros; omega) (by intros; omega) (by intros; omega) (by intros; omega) (by intros; omega) (by intros; omega)
