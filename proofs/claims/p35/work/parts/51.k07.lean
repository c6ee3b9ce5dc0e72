-- by program (wip/gen/mkz.py)
-- SpoutNews$Texts.copyGutters(LSpoutNews$Texts;)V
noncomputable def fr_Texts_copyGutters (r0 : Nat) (r1 : Nat) (a : Nat) (i : Int) : Prop := a = r0 + 10 ∨ (a = r0 ∧ i = 2)
set_option maxRecDepth 100000 in
set_option maxHeartbeats 4000000 in
theorem k_Texts_copyGutters {r0 : Nat} (hr0 : zs_sh r0 = some (6, 11)) {r1 : Nat} (hr1 : zs_sh r1 = some (6, 11)) {g : zi_M} {Q : Int → zi_M → Prop} (I : zk_I g) (hQ : ∀ g' : zi_M, zk_I g' → zk_fr (fr_Texts_copyGutters r0 r1) g g' → Q 0 g') : w_Texts_copyGutters r0 r1 g Q := by
  unfold w_Texts_copyGutters
  intro g2 e_1
  have I_2 : zk_I g2 := by rw [e_1]; exact zk_cp (L := (-1)) (H := 9) (fun i => zk_la6_10 hr1 (i := i)) (fun i => zk_la6_10 hr0 (i := i)) I (zj_a6_10 hr0)
  have F_3 : zk_fr (fr_Texts_copyGutters r0 r1) g g2 := by rw [e_1]; exact zk_fc (zk_f0 _) (fun i => (Or.inl rfl))
  have m_7 := zk_c6_2 hr1 I_2
  intro g3 e_4
  have I_5 : zk_I g3 := by rw [e_4]; exact zk_upd (zk_lc6_2 hr0).1 (zk_lc6_2 hr0).2 I_2 ⟨by omega, by omega⟩ (zj_w6 hr0)
  have F_6 : zk_fr (fr_Texts_copyGutters r0 r1) g g3 := by rw [e_4]; exact zk_fu F_3 (Or.inr ⟨rfl, rfl⟩)
  exact hQ _ I_5 F_6
-- SpoutNews.takeGutters(I)I
noncomputable def fr_S_takeGutters (a : Nat) (i : Int) : Prop := a = 192 ∨ a = 193 ∨ a = 194 ∨ a = 205 ∨ a = 29 ∨ (a = 19 ∧ i = 2) ∨ (a = 191 ∧ i = 3) ∨ (a = 191 ∧ i = 4) ∨ (a = 191 ∧ i = 5) ∨ (a = 191 ∧ i = 6) ∨ (a = 195 ∧ i = 2)
set_option maxRecDepth 100000 in
set_option maxHeartbeats 4000000 in
theorem k_S_takeGutters {l1 : Int} {g : zi_M} {Q : Int → zi_M → Prop} (I : zk_I g) (p1 : 0 ≤ l1 ∧ l1 ≤ 400) (hQ : ∀ (v : Int) (g' : zi_M), zk_I g' → zk_fr fr_S_takeGutters g g' → ((-1) ≤ v ∧ v ≤ 17) → Q v g') : w_S_takeGutters l1 g Q := by
  unfold w_S_takeGutters
  refine k_Tokens_split (show zs_str 1000000002 from rfl) I ⟨by omega, by omega⟩ (fun g2 I_1 F_2 => ?_)
  have F_3 : zk_fr fr_S_takeGutters g g2 := zk_ft (zk_f0 _) F_2 (fun a i => (fun h => Or.elim h (fun h => (Or.inl h)) (fun h => Or.elim h (fun h => (Or.inr (Or.inl h))) (fun h => Or.elim h (fun h => (Or.inr (Or.inr (Or.inl h)))) (fun h => Or.elim h (fun h => (Or.inr (Or.inr (Or.inr (Or.inr (Or.inr (Or.inr (Or.inl h)))))))) (fun h => Or.elim h (fun h => (Or.inr (Or.inr (Or.inr (Or.inr (Or.inr (Or.inr (Or.inr (Or.inl h))))))))) (fun h => Or.elim h (fun h => (Or.inr (Or.inr (Or.inr (Or.inr (Or.inr (Or.inr (Or.inr (Or.inr (Or.inl h)))))))))) (fun h => (Or.inr (Or.inr (Or.inr (Or.inr (Or.inr (Or.inr (Or.inr (Or.inr (Or.inr (Or.inl h))))))))))))))))))
  refine k_Texts_readGutters I_1 (fun v4 g5 I_5 F_6 b_4 => ?_)
  have F_7 : zk_fr fr_S_takeGutters g g5 := zk_ft F_3 F_6 (fun a i => (fun h => Or.elim h (fun h => (Or.inr (Or.inr (Or.inr (Or.inl h))))) (fun h => Or.elim h (fun h => (Or.inr (Or.inr (Or.inr (Or.inr (Or.inr (Or.inr (Or.inr (Or.inl h))))))))) (fun h => Or.elim h (fun h => (Or.inr (Or.inr (Or.inr (Or.inr (Or.inr (Or.inr (Or.inr (Or.inr (Or.inl h)))))))))) (fun h => Or.elim h (fun h => (Or.inr (Or.inr (Or.inr (Or.inr (Or.inr (Or.inr (Or.inr (Or.inr (Or.inr (Or.inl h))))))))))) (fun h => (Or.inr (Or.inr (Or.inr (Or.inr (Or.inr (Or.inr (Or.inr (Or.inr (Or.inr (Or.inr h))))))))))))))))
  refine ⟨fun c10 => ?_, fun c10 => ?_⟩
  · refine k_Texts_copyGutters rfl rfl I_5 (fun g8 I_8 F_9 => ?_)
    have F_10 : zk_fr fr_S_takeGutters g g8 := zk_ft F_7 F_9 (fun a i => (fun h => Or.elim h (fun h => (Or.inr (Or.inr (Or.inr (Or.inr (Or.inl h)))))) (fun h => (Or.inr (Or.inr (Or.inr (Or.inr (Or.inr (Or.inl h)))))))))
    have m_11 : 0 ≤ (g8 195 2) ∧ (g8 195 2) ≤ 17 := I_8.1 195 2
    have m_12 : g8 195 2 = g5 195 2 := F_9 _ _ (by unfold fr_Texts_copyGutters; omega)
    have m_13 : 0 ≤ (g5 195 2) ∧ (g5 195 2) ≤ 17 := I_5.1 195 2
    exact hQ _ _ I_8 F_10 ⟨by omega, by omega⟩
  · exact hQ _ _ I_5 F_7 ⟨by omega, by omega⟩
-- SpoutNews$Texts.readWeather(LSpoutNews$Tokens;)Z
noncomputable def fr_Texts_readWeather (a : Nat) (i : Int) : Prop := a = 206 ∨ a = 207 ∨ (a = 191 ∧ i = 4) ∨ (a = 191 ∧ i = 5) ∨ (a = 191 ∧ i = 6) ∨ (a = 195 ∧ i = 5)
set_option maxRecDepth 100000 in
set_option maxHeartbeats 4000000 in
theorem k_Texts_readWeather_l7 {K29 : zi_M → Prop} {K53 : zi_M → Prop} {K85 : zi_M → Prop} {K115 : zi_M → Prop} {Q : Int → zi_M → Prop} {g0 : zi_M} (hK29 : ∀ (g : zi_M), zk_I g → zk_fr fr_Texts_readWeather g0 g → K29 g) (hK53 : ∀ (g : zi_M), zk_I g → zk_fr fr_Texts_readWeather g0 g → K53 g) (hK85 : ∀ (g : zi_M), zk_I g → zk_fr fr_Texts_readWeather g0 g → K85 g) (hK115 : ∀ (g : zi_M), zk_I g → zk_fr fr_Texts_readWeather g0 g → K115 g) (hQ : ∀ (v : Int) (g' : zi_M), zk_I g' → zk_fr fr_Texts_readWeather g0 g' → (0 ≤ v ∧ v ≤ 1) → Q v g') : ∀ (n : Nat) {l2 : Int} {g : zi_M}, zk_I g → zk_fr fr_Texts_readWeather g0 g → (0 ≤ l2 ∧ l2 ≤ 16) → 16 - l2 < (n : Int) → w_Texts_readWeather_l7 K29 K53 K85 K115 Q n l2 g
  | 0, l2, g, I, F, b0, hm => by exfalso; omega
  | n + 1, l2, g, I, F, b0, hm => by
    unfold w_Texts_readWeather_l7
    refine ⟨⟨by omega, by omega⟩, ?_⟩
    refine ⟨fun c34 => ?_, fun c34 => ?_⟩
    · exact hK115 _ I F
    · have m_7 : 0 ≤ (g 191 4) ∧ (g 191 4) ≤ 401 := I.1 191 4
      have m_8 : 0 ≤ (g 191 3) ∧ (g 191 3) ≤ 401 := I.1 191 3
      have m_9 : 0 ≤ (g 192 (g 191 4)) ∧ (g 192 (g 191 4)) ≤ 4 := I.1 192 (g 191 4)
      refine k_Tokens_isAtEnd I (fun v3 b_4 b_5 b_6 => ?_)
      refine ⟨fun c33 => ?_, fun c33 => ?_⟩
      · exact hK115 _ I F
      · refine k_Tokens_takeLineStart I ⟨by omega, by omega⟩ ⟨by omega, by omega⟩ (fun v6 g7 I_11 F_12 b_10 => ?_)
        have F_13 : zk_fr fr_Texts_readWeather g0 g7 := zk_ft F F_12 (fun a i => (fun h => Or.elim h (fun h => (Or.inr (Or.inr (Or.inl h)))) (fun h => Or.elim h (fun h => (Or.inr (Or.inr (Or.inr (Or.inl h))))) (fun h => (Or.inr (Or.inr (Or.inr (Or.inr (Or.inl h)))))))))
        refine ⟨fun c32 => ?_, fun c32 => ?_⟩
        · refine k_Tokens_takeBelow I_11 ⟨by omega, by omega⟩ (fun v9 g10 I_16 F_17 b_14 b_15 => ?_)
          have F_18 : zk_fr fr_Texts_readWeather g0 g10 := zk_ft F_13 F_17 (fun a i => (fun h => Or.elim h (fun h => (Or.inr (Or.inr (Or.inl h)))) (fun h => Or.elim h (fun h => (Or.inr (Or.inr (Or.inr (Or.inl h))))) (fun h => (Or.inr (Or.inr (Or.inr (Or.inr (Or.inl h)))))))))
          refine ⟨⟨by omega, by omega⟩, ?_⟩
          refine ⟨fun c31 => ?_, fun c31 => ?_⟩
          · exact hK53 _ I_16 F_18
          · refine k_Tokens_take I_16 ⟨by omega, by omega⟩ ⟨by omega, by omega⟩ (fun v13 g14 I_20 F_21 b_19 => ?_)
            have F_22 : zk_fr fr_Texts_readWeather g0 g14 := zk_ft F_18 F_21 (fun a i => (fun h => Or.elim h (fun h => (Or.inr (Or.inr (Or.inl h)))) (fun h => Or.elim h (fun h => (Or.inr (Or.inr (Or.inr (Or.inl h))))) (fun h => (Or.inr (Or.inr (Or.inr (Or.inr (Or.inl h)))))))))
            refine ⟨fun c30 => ?_, fun c30 => ?_⟩
            · refine k_Tokens_takeBelow I_20 ⟨by omega, by omega⟩ (fun v16 g17 I_25 F_26 b_23 b_24 => ?_)
              have F_27 : zk_fr fr_Texts_readWeather g0 g17 := zk_ft F_22 F_26 (fun a i => (fun h => Or.elim h (fun h => (Or.inr (Or.inr (Or.inl h)))) (fun h => Or.elim h (fun h => (Or.inr (Or.inr (Or.inr (Or.inl h))))) (fun h => (Or.inr (Or.inr (Or.inr (Or.inr (Or.inl h)))))))))
              refine ⟨⟨by omega, by omega⟩, ?_⟩
              refine ⟨fun c29 => ?_, fun c29 => ?_⟩
              · exact hK85 _ I_25 F_27
              · refine k_Tokens_take I_25 ⟨by omega, by omega⟩ ⟨by omega, by omega⟩ (fun v20 g21 I_29 F_30 b_28 => ?_)
                have F_31 : zk_fr fr_Texts_readWeather g0 g21 := zk_ft F_27 F_30 (fun a i => (fun h => Or.elim h (fun h => (Or.inr (Or.inr (Or.inl h)))) (fun h => Or.elim h (fun h => (Or.inr (Or.inr (Or.inr (Or.inl h))))) (fun h => (Or.inr (Or.inr (Or.inr (Or.inr (Or.inl h)))))))))
                refine ⟨fun c28 => ?_, fun c28 => ?_⟩
                · exact hK85 _ I_29 F_31
                · refine ⟨fun c27 => ?_, fun c27 => ?_⟩
                  · refine ⟨⟨by omega, by omega⟩, ?_⟩
                    intro g24 e_32
                    have I_33 : zk_I g24 := by rw [e_32]; exact zk_upd (L := (-2147483648)) (H := 2147483647) rfl rfl I_29 ⟨by omega, by omega⟩
                    have F_34 : zk_fr fr_Texts_readWeather g0 g24 := by rw [e_32]; exact zk_fu F_31 (Or.inl rfl)
                    intro g25 e_35
                    have I_36 : zk_I g25 := by rw [e_35]; exact zk_upd (L := 0) (H := 9) rfl rfl I_33 ⟨by omega, by omega⟩
                    have F_37 : zk_fr fr_Texts_readWeather g0 g25 := by rw [e_35]; exact zk_fu F_34 (Or.inr (Or.inl rfl))
                    intro g26 e_38
                    have I_39 : zk_I g26 := by rw [e_38]; exact zk_upd (L := 0) (H := 16) rfl rfl I_36 ⟨by omega, by omega⟩
                    have F_40 : zk_fr fr_Texts_readWeather g0 g26 := by rw [e_38]; exact zk_fu F_37 (Or.inr (Or.inr (Or.inr (Or.inr (Or.inr ⟨rfl, rfl⟩)))))
                    exact k_Texts_readWeather_l7 hK29 hK53 hK85 hK115 hQ n I_39 F_40 ⟨by omega, by omega⟩ (by omega)
                  · exact hK85 _ I_29 F_31
            · exact hK53 _ I_20 F_22
        · exact hK29 _ I_11 F_13
set_option maxRecDepth 100000 in
set_option maxHeartbeats 4000000 in
theorem k_Texts_readWeather {g : zi_M} {Q : Int → zi_M → Prop} (I : zk_I g) (hQ : ∀ (v : Int) (g' : zi_M), zk_I g' → zk_fr fr_Texts_readWeather g g' → (0 ≤ v ∧ v ≤ 1) → Q v g') : w_Texts_readWeather g Q := by
  unfold w_Texts_readWeather
  intro g1 e_1
  have I_2 : zk_I g1 := by rw [e_1]; exact zk_upd (L := 0) (H := 16) rfl rfl I ⟨by omega, by omega⟩
  have F_3 : zk_fr fr_Texts_readWeather g g1 := by rw [e_1]; exact zk_fu (zk_f0 _) (Or.inr (Or.inr (Or.inr (Or.inr (Or.inr ⟨rfl, rfl⟩)))))
  refine ⟨((16 - 0 : Int).toNat + 1), k_Texts_readWeather_l7 (fun g35 I_41 F_42 => ?_) (fun g36 I_43 F_44 => ?_) (fun g37 I_45 F_46 => ?_) (fun g38 I_47 F_48 => ?_) hQ ((16 - 0 : Int).toNat + 1) I_2 F_3 ⟨by omega, by omega⟩ (by omega)⟩
  · exact hQ _ _ I_41 F_42 ⟨by omega, by omega⟩
  · exact hQ _ _ I_43 F_44 ⟨by omega, by omega⟩
  · exact hQ _ _ I_45 F_46 ⟨by omega, by omega⟩
  · exact hQ _ _ I_47 F_48 ⟨by omega, by omega⟩
-- SpoutNews$Texts.copyWeather(LSpoutNews$Texts;)V
noncomputable def fr_Texts_copyWeather (r0 : Nat) (r1 : Nat) (a : Nat) (i : Int) : Prop := a = r0 + 11 ∨ a = r0 + 12 ∨ (a = r0 ∧ i = 5)
set_option maxRecDepth 100000 in
set_option maxHeartbeats 4000000 in
theorem k_Texts_copyWeather {r0 : Nat} (hr0 : zs_sh r0 = some (6, 11)) {r1 : Nat} (hr1 : zs_sh r1 = some (6, 11)) {g : zi_M} {Q : Int → zi_M → Prop} (I : zk_I g) (hQ : ∀ g' : zi_M, zk_I g' → zk_fr (fr_Texts_copyWeather r0 r1) g g' → Q 0 g') : w_Texts_copyWeather r0 r1 g Q := by
  unfold w_Texts_copyWeather
  intro g2 e_1
  have I_2 : zk_I g2 := by rw [e_1]; exact zk_cp (L := (-2147483648)) (H := 2147483647) (fun i => zk_la6_11 hr1 (i := i)) (fun i => zk_la6_11 hr0 (i := i)) I (zj_a6_11 hr0)
  have F_3 : zk_fr (fr_Texts_copyWeather r0 r1) g g2 := by rw [e_1]; exact zk_fc (zk_f0 _) (fun i => (Or.inl rfl))
  intro g4 e_4
  have I_5 : zk_I g4 := by rw [e_4]; exact zk_cp (L := 0) (H := 9) (fun i => zk_la6_12 hr1 (i := i)) (fun i => zk_la6_12 hr0 (i := i)) I_2 (zj_a6_12 hr0)
  have F_6 : zk_fr (fr_Texts_copyWeather r0 r1) g g4 := by rw [e_4]; exact zk_fc F_3 (fun i => (Or.inr (Or.inl rfl)))
  have m_10 := zk_c6_5 hr1 I_5
  intro g5 e_7
  have I_8 : zk_I g5 := by rw [e_7]; exact zk_upd (zk_lc6_5 hr0).1 (zk_lc6_5 hr0).2 I_5 ⟨by omega, by omega⟩ (zj_w6 hr0)
  have F_9 : zk_fr (fr_Texts_copyWeather r0 r1) g g5 := by rw [e_7]; exact zk_fu F_6 (Or.inr (Or.inr ⟨rfl, rfl⟩))
  exact hQ _ I_8 F_9
-- SpoutNews.takeWeather(I)I
noncomputable def fr_S_takeWeather (a : Nat) (i : Int) : Prop := a = 192 ∨ a = 193 ∨ a = 194 ∨ a = 206 ∨ a = 207 ∨ a = 30 ∨ a = 31 ∨ (a = 19 ∧ i = 5) ∨ (a = 191 ∧ i = 3) ∨ (a = 191 ∧ i = 4) ∨ (a = 191 ∧ i = 5) ∨ (a = 191 ∧ i = 6) ∨ (a = 195 ∧ i = 5) ∨ (a = 91 ∧ i = 1)
set_option maxRecDepth 100000 in
set_option maxHeartbeats 4000000 in
theorem k_S_takeWeather {l1 : Int} {g : zi_M} {Q : Int → zi_M → Prop} (I : zk_I g) (p1 : 0 ≤ l1 ∧ l1 ≤ 400) (hQ : ∀ (v : Int) (g' : zi_M), zk_I g' → zk_fr fr_S_takeWeather g g' → ((-1) ≤ v ∧ v ≤ 16) → (g' 91 1 = 0 ∨ g' 91 1 = g 91 1) → Q v g') : w_S_takeWeather l1 g Q := by
  unfold w_S_takeWeather
  refine k_Tokens_split (show zs_str 1000000003 from rfl) I ⟨by omega, by omega⟩ (fun g2 I_1 F_2 => ?_)
  have F_3 : zk_fr fr_S_takeWeather g g2 := zk_ft (zk_f0 _) F_2 (fun a i => (fun h => Or.elim h (fun h => (Or.inl h)) (fun h => Or.elim h (fun h => (Or.inr (Or.inl h))) (fun h => Or.elim h (fun h => (Or.inr (Or.inr (Or.inl h)))) (fun h => Or.elim h (fun h => (Or.inr (Or.inr (Or.inr (Or.inr (Or.inr (Or.inr (Or.inr (Or.inr (Or.inl h)))))))))) (fun h => Or.elim h (fun h => (Or.inr (Or.inr (Or.inr (Or.inr (Or.inr (Or.inr (Or.inr (Or.inr (Or.inr (Or.inl h))))))))))) (fun h => Or.elim h (fun h => (Or.inr (Or.inr (Or.inr (Or.inr (Or.inr (Or.inr (Or.inr (Or.inr (Or.inr (Or.inr (Or.inl h)))))))))))) (fun h => (Or.inr (Or.inr (Or.inr (Or.inr (Or.inr (Or.inr (Or.inr (Or.inr (Or.inr (Or.inr (Or.inr (Or.inl h))))))))))))))))))))
  refine k_Texts_readWeather I_1 (fun v4 g5 I_5 F_6 b_4 => ?_)
  have F_7 : zk_fr fr_S_takeWeather g g5 := zk_ft F_3 F_6 (fun a i => (fun h => Or.elim h (fun h => (Or.inr (Or.inr (Or.inr (Or.inl h))))) (fun h => Or.elim h (fun h => (Or.inr (Or.inr (Or.inr (Or.inr (Or.inl h)))))) (fun h => Or.elim h (fun h => (Or.inr (Or.inr (Or.inr (Or.inr (Or.inr (Or.inr (Or.inr (Or.inr (Or.inr (Or.inl h))))))))))) (fun h => Or.elim h (fun h => (Or.inr (Or.inr (Or.inr (Or.inr (Or.inr (Or.inr (Or.inr (Or.inr (Or.inr (Or.inr (Or.inl h)))))))))))) (fun h => Or.elim h (fun h => (Or.inr (Or.inr (Or.inr (Or.inr (Or.inr (Or.inr (Or.inr (Or.inr (Or.inr (Or.inr (Or.inr (Or.inl h))))))))))))) (fun h => (Or.inr (Or.inr (Or.inr (Or.inr (Or.inr (Or.inr (Or.inr (Or.inr (Or.inr (Or.inr (Or.inr (Or.inr (Or.inl h))))))))))))))))))))
  refine ⟨fun c13 => ?_, fun c13 => ?_⟩
  · refine k_Texts_copyWeather rfl rfl I_5 (fun g8 I_8 F_9 => ?_)
    have F_10 : zk_fr fr_S_takeWeather g g8 := zk_ft F_7 F_9 (fun a i => (fun h => Or.elim h (fun h => (Or.inr (Or.inr (Or.inr (Or.inr (Or.inr (Or.inl h))))))) (fun h => Or.elim h (fun h => (Or.inr (Or.inr (Or.inr (Or.inr (Or.inr (Or.inr (Or.inl h)))))))) (fun h => (Or.inr (Or.inr (Or.inr (Or.inr (Or.inr (Or.inr (Or.inr (Or.inl h))))))))))))
    refine k_Past_forget I_8 (fun g11 I_12 F_13 b_11 => ?_)
    have F_14 : zk_fr fr_S_takeWeather g g11 := zk_ft F_10 F_13 (fun a i => (fun h => (Or.inr (Or.inr (Or.inr (Or.inr (Or.inr (Or.inr (Or.inr (Or.inr (Or.inr (Or.inr (Or.inr (Or.inr (Or.inr h)))))))))))))))
    have m_15 : 0 ≤ (g11 195 5) ∧ (g11 195 5) ≤ 16 := I_12.1 195 5
    have m_16 : g11 195 5 = g8 195 5 := F_13 _ _ (by unfold fr_Past_forget; omega)
    have m_17 : 0 ≤ (g8 195 5) ∧ (g8 195 5) ≤ 16 := I_8.1 195 5
    have m_18 : g8 195 5 = g5 195 5 := F_9 _ _ (by unfold fr_Texts_copyWeather; omega)
    have m_19 : 0 ≤ (g5 195 5) ∧ (g5 195 5) ≤ 16 := I_5.1 195 5
    have m_20 : 0 ≤ (g11 91 1) ∧ (g11 91 1) ≤ 6 := I_12.1 91 1
    exact hQ _ _ I_12 F_14 ⟨by omega, by omega⟩ (by omega)
  · have m_21 : 0 ≤ (g5 91 1) ∧ (g5 91 1) ≤ 6 := I_5.1 91 1
    have m_22 : g5 91 1 = g2 91 1 := F_6 _ _ (by unfold fr_Texts_readWeather; omega)
    have m_23 : 0 ≤ (g2 91 1) ∧ (g2 91 1) ≤ 6 := I_1.1 91 1
    have m_24 : g2 91 1 = g 91 1 := F_2 _ _ (by unfold fr_Tokens_split; omega)
    have m_25 : 0 ≤ (g 91 1) ∧ (g 91 1) ≤ 6 := I.1 91 1
    exact hQ _ _ I_5 F_7 ⟨by omega, by omega⟩ (by omega)
-- SpoutNews$Texts.readDeed(LSpoutNews$Tokens;LSpoutNews$World;I)Z
noncomputable def fr_Texts_readDeed (a : Nat) (i : Int) : Prop := a = 209 ∨ a = 210 ∨ a = 211 ∨ (a = 191 ∧ i = 4) ∨ (a = 191 ∧ i = 5) ∨ (a = 191 ∧ i = 6)
set_option maxRecDepth 100000 in
set_option maxHeartbeats 4000000 in
theorem k_Texts_readDeed_b92 {l3 : Int} {l4 : Int} {l5 : Int} {l6 : Int} {Q : Int → zi_M → Prop} {g : zi_M} {g0 : zi_M} (I : zk_I g) (F : zk_fr fr_Texts_readDeed g0 g) (p3 : 0 ≤ l3 ∧ l3 ≤ 15) (p4 : 0 ≤ l4 ∧ l4 ≤ 6) (p5 : 0 ≤ l5 ∧ l5 ≤ 999) (p6 : (-1) ≤ l6 ∧ l6 ≤ 999) (hQ : ∀ (v : Int) (g' : zi_M), zk_I g' → zk_fr fr_Texts_readDeed g0 g' → (0 ≤ v ∧ v ≤ 1) → Q v g') : w_Texts_readDeed_b92 l3 l4 l5 l6 g Q := by
  unfold w_Texts_readDeed_b92
  refine ⟨⟨by omega, by omega⟩, ?_⟩
  intro g23 e_37
  have I_38 : zk_I g23 := by rw [e_37]; exact zk_upd (L := (-2147483648)) (H := 2147483647) rfl rfl I ⟨by omega, by omega⟩
  have F_39 : zk_fr fr_Texts_readDeed g0 g23 := by rw [e_37]; exact zk_fu F (Or.inl rfl)
  intro g24 e_40
  have I_41 : zk_I g24 := by rw [e_40]; exact zk_upd (L := (-2147483648)) (H := 2147483647) rfl rfl I_38 ⟨by omega, by omega⟩
  have F_42 : zk_fr fr_Texts_readDeed g0 g24 := by rw [e_40]; exact zk_fu F_39 (Or.inr (Or.inl rfl))
  intro g25 e_43
  have I_44 : zk_I g25 := by rw [e_43]; exact zk_upd (L := (-2147483648)) (H := 2147483647) rfl rfl I_41 ⟨by omega, by omega⟩
  have F_45 : zk_fr fr_Texts_readDeed g0 g25 := by rw [e_43]; exact zk_fu F_42 (Or.inr (Or.inr (Or.inl rfl)))
  refine ⟨⟨by omega, by omega⟩, ?_⟩
  refine ⟨fun c27 => ?_, fun c27 => ?_⟩
  · exact hQ _ _ I_44 F_45 ⟨by omega, by omega⟩
  · exact hQ _ _ I_44 F_45 ⟨by omega, by omega⟩
set_option maxRecDepth 100000 in
set_option maxHeartbeats 4000000 in
theorem k_Texts_readDeed {l3 : Int} {g : zi_M} {Q : Int → zi_M → Prop} (I : zk_I g) (p3 : 0 ≤ l3 ∧ l3 ≤ 15) (hQ : ∀ (v : Int) (g' : zi_M), zk_I g' → zk_fr fr_Texts_readDeed g g' → (0 ≤ v ∧ v ≤ 1) → Q v g') : w_Texts_readDeed l3 g Q := by
  unfold w_Texts_readDeed
  have m_4 : 0 ≤ (g 191 4) ∧ (g 191 4) ≤ 401 := I.1 191 4
  have m_5 : 0 ≤ (g 191 3) ∧ (g 191 3) ≤ 401 := I.1 191 3
  have m_6 : 0 ≤ (g 192 (g 191 4)) ∧ (g 192 (g 191 4)) ≤ 4 := I.1 192 (g 191 4)
  have m_7 : (-1) ≤ (g 193 (g 191 4)) ∧ (g 193 (g 191 4)) ≤ 9999 := I.1 193 (g 191 4)
  refine k_Tokens_keyword I (fun v1 b_1 b_2 b_3 => ?_)
  refine ⟨⟨by omega, by omega⟩, ?_⟩
  refine ⟨fun c45 => ?_, fun c45 => ?_⟩
  · refine k_Tokens_refuse I ⟨by omega, by omega⟩ (fun v5 g6 I_9 F_10 b_8 => ?_)
    have F_11 : zk_fr fr_Texts_readDeed g g6 := zk_ft (zk_f0 _) F_10 (fun a i => (fun h => Or.elim h (fun h => (Or.inr (Or.inr (Or.inr (Or.inr (Or.inl h)))))) (fun h => (Or.inr (Or.inr (Or.inr (Or.inr (Or.inr h))))))))
    exact hQ _ _ I_9 F_11 ⟨by omega, by omega⟩
  · refine ⟨fun c44 => ?_, fun c44 => ?_⟩
    · refine k_Tokens_step I (fun g9 I_12 F_13 => ?_)
      have F_14 : zk_fr fr_Texts_readDeed g g9 := zk_ft (zk_f0 _) F_13 (fun a i => (fun h => (Or.inr (Or.inr (Or.inr (Or.inl h))))))
      have m_20 : 0 ≤ (g9 2 11) ∧ (g9 2 11) ≤ 8 := I_12.1 2 11
      have m_21 : g9 2 11 = g 2 11 := F_13 _ _ (by unfold fr_Tokens_step; omega)
      have m_22 : 0 ≤ (g 2 11) ∧ (g 2 11) ≤ 8 := I.1 2 11
      have m_23 : 0 ≤ (g9 2 8) ∧ (g9 2 8) ≤ 10 := I_12.1 2 8
      have m_24 : g9 2 8 = g 2 8 := F_13 _ _ (by unfold fr_Tokens_step; omega)
      have m_25 : 0 ≤ (g 2 8) ∧ (g 2 8) ≤ 10 := I.1 2 8
      refine k_World_countOfWho rfl I_12 ⟨by omega, by omega⟩ (fun v11 b_15 b_16 b_17 b_18 b_19 => ?_)
      try simp only [Nat.reduceAdd] at b_15 b_16 b_17 b_18 b_19
      refine k_Tokens_takeBelow I_12 ⟨by omega, by omega⟩ (fun v14 g15 I_28 F_29 b_26 b_27 => ?_)
      have F_30 : zk_fr fr_Texts_readDeed g g15 := zk_ft F_14 F_29 (fun a i => (fun h => Or.elim h (fun h => (Or.inr (Or.inr (Or.inr (Or.inl h))))) (fun h => Or.elim h (fun h => (Or.inr (Or.inr (Or.inr (Or.inr (Or.inl h)))))) (fun h => (Or.inr (Or.inr (Or.inr (Or.inr (Or.inr h)))))))))
      refine ⟨⟨by omega, by omega⟩, ?_⟩
      refine ⟨fun c40 => ?_, fun c40 => ?_⟩
      · have m_35 : 0 ≤ (g15 2 8) ∧ (g15 2 8) ≤ 10 := I_28.1 2 8
        have m_36 : g15 2 8 = g9 2 8 := F_29 _ _ (by unfold fr_Tokens_takeBelow; omega)
        refine k_World_countOfWhat rfl I_28 ⟨by omega, by omega⟩ (fun v18 b_31 b_32 b_33 b_34 => ?_)
        try simp only [Nat.reduceAdd] at b_31 b_32 b_33 b_34
        refine ⟨⟨by omega, by omega⟩, ?_⟩
        refine ⟨fun c39 => ?_, fun c39 => ?_⟩
        · exact k_Texts_readDeed_b92 I_28 F_30 ⟨by omega, by omega⟩ ⟨by omega, by omega⟩ ⟨by omega, by omega⟩ ⟨by omega, by omega⟩ hQ
        · refine ⟨fun c38 => ?_, fun c38 => ?_⟩
          · refine k_Tokens_takeBelow I_28 ⟨by omega, by omega⟩ (fun v28 g29 I_48 F_49 b_46 b_47 => ?_)
            have F_50 : zk_fr fr_Texts_readDeed g g29 := zk_ft F_30 F_49 (fun a i => (fun h => Or.elim h (fun h => (Or.inr (Or.inr (Or.inr (Or.inl h))))) (fun h => Or.elim h (fun h => (Or.inr (Or.inr (Or.inr (Or.inr (Or.inl h)))))) (fun h => (Or.inr (Or.inr (Or.inr (Or.inr (Or.inr h)))))))))
            exact k_Texts_readDeed_b92 I_48 F_50 ⟨by omega, by omega⟩ ⟨by omega, by omega⟩ ⟨by omega, by omega⟩ ⟨by omega, by omega⟩ hQ
          · refine k_Tokens_take I_28 ⟨by omega, by omega⟩ ⟨by omega, by omega⟩ (fun v31 g32 I_52 F_53 b_51 => ?_)
            have F_54 : zk_fr fr_Texts_readDeed g g32 := zk_ft F_30 F_53 (fun a i => (fun h => Or.elim h (fun h => (Or.inr (Or.inr (Or.inr (Or.inl h))))) (fun h => Or.elim h (fun h => (Or.inr (Or.inr (Or.inr (Or.inr (Or.inl h)))))) (fun h => (Or.inr (Or.inr (Or.inr (Or.inr (Or.inr h)))))))))
            refine ⟨fun c37 => ?_, fun c37 => ?_⟩
            · refine k_Tokens_takeBelow I_52 ⟨by omega, by omega⟩ (fun v34 g35 I_57 F_58 b_55 b_56 => ?_)
              have F_59 : zk_fr fr_Texts_readDeed g g35 := zk_ft F_54 F_58 (fun a i => (fun h => Or.elim h (fun h => (Or.inr (Or.inr (Or.inr (Or.inl h))))) (fun h => Or.elim h (fun h => (Or.inr (Or.inr (Or.inr (Or.inr (Or.inl h)))))) (fun h => (Or.inr (Or.inr (Or.inr (Or.inr (Or.inr h)))))))))
              exact k_Texts_readDeed_b92 I_57 F_59 ⟨by omega, by omega⟩ ⟨by omega, by omega⟩ ⟨by omega, by omega⟩ ⟨by omega, by omega⟩ hQ
            · exact hQ _ _ I_52 F_54 ⟨by omega, by omega⟩
      · exact hQ _ _ I_28 F_30 ⟨by omega, by omega⟩
    · refine k_Tokens_refuse I ⟨by omega, by omega⟩ (fun v41 g42 I_61 F_62 b_60 => ?_)
      have F_63 : zk_fr fr_Texts_readDeed g g42 := zk_ft (zk_f0 _) F_62 (fun a i => (fun h => Or.elim h (fun h => (Or.inr (Or.inr (Or.inr (Or.inr (Or.inl h)))))) (fun h => (Or.inr (Or.inr (Or.inr (Or.inr (Or.inr h))))))))
      exact hQ _ _ I_61 F_63 ⟨by omega, by omega⟩
-- SpoutNews$Texts.readPlan(LSpoutNews$Tokens;LSpoutNews$World;)Z
noncomputable def fr_Texts_readPlan (a : Nat) (i : Int) : Prop := a = 208 ∨ a = 209 ∨ a = 210 ∨ a = 211 ∨ (a = 191 ∧ i = 4) ∨ (a = 191 ∧ i = 5) ∨ (a = 191 ∧ i = 6) ∨ (a = 195 ∧ i = 10)
set_option maxRecDepth 100000 in
set_option maxHeartbeats 4000000 in
theorem k_Texts_readPlan_l7 {K36 : zi_M → Prop} {K73 : zi_M → Prop} {K96 : zi_M → Prop} {Q : Int → zi_M → Prop} {g0 : zi_M} (hK36 : ∀ (g : zi_M), zk_I g → zk_fr fr_Texts_readPlan g0 g → K36 g) (hK73 : ∀ (g : zi_M), zk_I g → zk_fr fr_Texts_readPlan g0 g → K73 g) (hK96 : ∀ (g : zi_M), zk_I g → zk_fr fr_Texts_readPlan g0 g → K96 g) (hQ : ∀ (v : Int) (g' : zi_M), zk_I g' → zk_fr fr_Texts_readPlan g0 g' → (0 ≤ v ∧ v ≤ 1) → Q v g') : ∀ (n : Nat) {l3 : Int} {g : zi_M}, zk_I g → zk_fr fr_Texts_readPlan g0 g → (0 ≤ l3 ∧ l3 ≤ 16) → 16 - l3 < (n : Int) → w_Texts_readPlan_l7 K36 K73 K96 Q n l3 g
  | 0, l3, g, I, F, b0, hm => by exfalso; omega
  | n + 1, l3, g, I, F, b0, hm => by
    unfold w_Texts_readPlan_l7
    refine ⟨⟨by omega, by omega⟩, ?_⟩
    refine ⟨fun c28 => ?_, fun c28 => ?_⟩
    · exact hK96 _ I F
    · have m_7 : 0 ≤ (g 191 4) ∧ (g 191 4) ≤ 401 := I.1 191 4
      have m_8 : 0 ≤ (g 191 3) ∧ (g 191 3) ≤ 401 := I.1 191 3
      have m_9 : 0 ≤ (g 192 (g 191 4)) ∧ (g 192 (g 191 4)) ≤ 4 := I.1 192 (g 191 4)
      refine k_Tokens_isAtEnd I (fun v3 b_4 b_5 b_6 => ?_)
      refine ⟨fun c27 => ?_, fun c27 => ?_⟩
      · exact hK96 _ I F
      · refine k_Tokens_takeLineStart I ⟨by omega, by omega⟩ ⟨by omega, by omega⟩ (fun v6 g7 I_11 F_12 b_10 => ?_)
        have F_13 : zk_fr fr_Texts_readPlan g0 g7 := zk_ft F F_12 (fun a i => (fun h => Or.elim h (fun h => (Or.inr (Or.inr (Or.inr (Or.inr (Or.inl h)))))) (fun h => Or.elim h (fun h => (Or.inr (Or.inr (Or.inr (Or.inr (Or.inr (Or.inl h))))))) (fun h => (Or.inr (Or.inr (Or.inr (Or.inr (Or.inr (Or.inr (Or.inl h)))))))))))
        refine ⟨fun c26 => ?_, fun c26 => ?_⟩
        · exact hK36 _ I_11 F_13
        · refine ⟨fun c25 => ?_, fun c25 => ?_⟩
          · refine k_Tokens_takeBelow I_11 ⟨by omega, by omega⟩ (fun v9 g10 I_16 F_17 b_14 b_15 => ?_)
            have F_18 : zk_fr fr_Texts_readPlan g0 g10 := zk_ft F_13 F_17 (fun a i => (fun h => Or.elim h (fun h => (Or.inr (Or.inr (Or.inr (Or.inr (Or.inl h)))))) (fun h => Or.elim h (fun h => (Or.inr (Or.inr (Or.inr (Or.inr (Or.inr (Or.inl h))))))) (fun h => (Or.inr (Or.inr (Or.inr (Or.inr (Or.inr (Or.inr (Or.inl h)))))))))))
            refine ⟨⟨by omega, by omega⟩, ?_⟩
            refine ⟨fun c24 => ?_, fun c24 => ?_⟩
            · exact hK73 _ I_16 F_18
            · refine k_Texts_readDeed I_16 ⟨by omega, by omega⟩ (fun v13 g14 I_20 F_21 b_19 => ?_)
              have F_22 : zk_fr fr_Texts_readPlan g0 g14 := zk_ft F_18 F_21 (fun a i => (fun h => Or.elim h (fun h => (Or.inr (Or.inl h))) (fun h => Or.elim h (fun h => (Or.inr (Or.inr (Or.inl h)))) (fun h => Or.elim h (fun h => (Or.inr (Or.inr (Or.inr (Or.inl h))))) (fun h => Or.elim h (fun h => (Or.inr (Or.inr (Or.inr (Or.inr (Or.inl h)))))) (fun h => Or.elim h (fun h => (Or.inr (Or.inr (Or.inr (Or.inr (Or.inr (Or.inl h))))))) (fun h => (Or.inr (Or.inr (Or.inr (Or.inr (Or.inr (Or.inr (Or.inl h))))))))))))))
              refine ⟨fun c23 => ?_, fun c23 => ?_⟩
              · exact hK73 _ I_20 F_22
              · refine k_Tokens_take I_20 ⟨by omega, by omega⟩ ⟨by omega, by omega⟩ (fun v16 g17 I_24 F_25 b_23 => ?_)
                have F_26 : zk_fr fr_Texts_readPlan g0 g17 := zk_ft F_22 F_25 (fun a i => (fun h => Or.elim h (fun h => (Or.inr (Or.inr (Or.inr (Or.inr (Or.inl h)))))) (fun h => Or.elim h (fun h => (Or.inr (Or.inr (Or.inr (Or.inr (Or.inr (Or.inl h))))))) (fun h => (Or.inr (Or.inr (Or.inr (Or.inr (Or.inr (Or.inr (Or.inl h)))))))))))
                refine ⟨fun c22 => ?_, fun c22 => ?_⟩
                · refine ⟨⟨by omega, by omega⟩, ?_⟩
                  intro g20 e_27
                  have I_28 : zk_I g20 := by rw [e_27]; exact zk_upd (L := (-2147483648)) (H := 2147483647) rfl rfl I_24 ⟨by omega, by omega⟩
                  have F_29 : zk_fr fr_Texts_readPlan g0 g20 := by rw [e_27]; exact zk_fu F_26 (Or.inl rfl)
                  intro g21 e_30
                  have I_31 : zk_I g21 := by rw [e_30]; exact zk_upd (L := 0) (H := 16) rfl rfl I_28 ⟨by omega, by omega⟩
                  have F_32 : zk_fr fr_Texts_readPlan g0 g21 := by rw [e_30]; exact zk_fu F_29 (Or.inr (Or.inr (Or.inr (Or.inr (Or.inr (Or.inr (Or.inr ⟨rfl, rfl⟩)))))))
                  exact k_Texts_readPlan_l7 hK36 hK73 hK96 hQ n I_31 F_32 ⟨by omega, by omega⟩ (by omega)
                · exact hK73 _ I_24 F_26
          · exact hK36 _ I_11 F_13
set_option maxRecDepth 100000 in
set_option maxHeartbeats 4000000 in
theorem k_Texts_readPlan {g : zi_M} {Q : Int → zi_M → Prop} (I : zk_I g) (hQ : ∀ (v : Int) (g' : zi_M), zk_I g' → zk_fr fr_Texts_readPlan g g' → (0 ≤ v ∧ v ≤ 1) → Q v g') : w_Texts_readPlan g Q := by
  unfold w_Texts_readPlan
  intro g1 e_1
  have I_2 : zk_I g1 := by rw [e_1]; exact zk_upd (L := 0) (H := 16) rfl rfl I ⟨by omega, by omega⟩
  have F_3 : zk_fr fr_Texts_readPlan g g1 := by rw [e_1]; exact zk_fu (zk_f0 _) (Or.inr (Or.inr (Or.inr (Or.inr (Or.inr (Or.inr (Or.inr ⟨rfl, rfl⟩)))))))
  refine ⟨((16 - 0 : Int).toNat + 1), k_Texts_readPlan_l7 (fun g29 I_33 F_34 => ?_) (fun g30 I_35 F_36 => ?_) (fun g31 I_37 F_38 => ?_) hQ ((16 - 0 : Int).toNat + 1) I_2 F_3 ⟨by omega, by omega⟩ (by omega)⟩
  · exact hQ _ _ I_33 F_34 ⟨by omega, by omega⟩
  · exact hQ _ _ I_35 F_36 ⟨by omega, by omega⟩
  · exact hQ _ _ I_37 F_38 ⟨by omega, by omega⟩
-- SpoutNews$Texts.copyPlan(LSpoutNews$Texts;)V
noncomputable def fr_Texts_copyPlan (r0 : Nat) (r1 : Nat) (a : Nat) (i : Int) : Prop := a = r0 + 13 ∨ a = r0 + 14 ∨ a = r0 + 15 ∨ a = r0 + 16 ∨ (a = r0 ∧ i = 10)
set_option maxRecDepth 100000 in
set_option maxHeartbeats 4000000 in
theorem k_Texts_copyPlan {r0 : Nat} (hr0 : zs_sh r0 = some (6, 11)) {r1 : Nat} (hr1 : zs_sh r1 = some (6, 11)) {g : zi_M} {Q : Int → zi_M → Prop} (I : zk_I g) (hQ : ∀ g' : zi_M, zk_I g' → zk_fr (fr_Texts_copyPlan r0 r1) g g' → Q 0 g') : w_Texts_copyPlan r0 r1 g Q := by
  unfold w_Texts_copyPlan
  intro g2 e_1
  have I_2 : zk_I g2 := by rw [e_1]; exact zk_cp (L := (-2147483648)) (H := 2147483647) (fun i => zk_la6_13 hr1 (i := i)) (fun i => zk_la6_13 hr0 (i := i)) I (zj_a6_13 hr0)
  have F_3 : zk_fr (fr_Texts_copyPlan r0 r1) g g2 := by rw [e_1]; exact zk_fc (zk_f0 _) (fun i => (Or.inl rfl))
  intro g4 e_4
  have I_5 : zk_I g4 := by rw [e_4]; exact zk_cp (L := (-2147483648)) (H := 2147483647) (fun i => zk_la6_14 hr1 (i := i)) (fun i => zk_la6_14 hr0 (i := i)) I_2 (zj_a6_14 hr0)
  have F_6 : zk_fr (fr_Texts_copyPlan r0 r1) g g4 := by rw [e_4]; exact zk_fc F_3 (fun i => (Or.inr (Or.inl rfl)))
  intro g6 e_7
  have I_8 : zk_I g6 := by rw [e_7]; exact zk_cp (L := (-2147483648)) (H := 2147483647) (fun i => zk_la6_15 hr1 (i := i)) (fun i => zk_la6_15 hr0 (i := i)) I_5 (zj_a6_15 hr0)
  have F_9 : zk_fr (fr_Texts_copyPlan r0 r1) g g6 := by rw [e_7]; exact zk_fc F_6 (fun i => (Or.inr (Or.inr (Or.inl rfl))))
  intro g8 e_10
  have I_11 : zk_I g8 := by rw [e_10]; exact zk_cp (L := (-2147483648)) (H := 2147483647) (fun i => zk_la6_16 hr1 (i := i)) (fun i => zk_la6_16 hr0 (i := i)) I_8 (zj_a6_16 hr0)
  have F_12 : zk_fr (fr_Texts_copyPlan r0 r1) g g8 := by rw [e_10]; exact zk_fc F_9 (fun i => (Or.inr (Or.inr (Or.inr (Or.inl rfl)))))
  have m_16 := zk_c6_10 hr1 I_11
  intro g9 e_13
  have I_14 : zk_I g9 := by rw [e_13]; exact zk_upd (zk_lc6_10 hr0).1 (zk_lc6_10 hr0).2 I_11 ⟨by omega, by omega⟩ (zj_w6 hr0)
  have F_15 : zk_fr (fr_Texts_copyPlan r0 r1) g g9 := by rw [e_13]; exact zk_fu F_12 (Or.inr (Or.inr (Or.inr (Or.inr ⟨rfl, rfl⟩))))
  exact hQ _ I_14 F_15
-- SpoutNews.takePlan(I)I
noncomputable def fr_S_takePlan (a : Nat) (i : Int) : Prop := a = 192 ∨ a = 193 ∨ a = 194 ∨ a = 208 ∨ a = 209 ∨ a = 210 ∨ a = 211 ∨ a = 32 ∨ a = 33 ∨ a = 34 ∨ a = 35 ∨ (a = 19 ∧ i = 10) ∨ (a = 191 ∧ i = 3) ∨ (a = 191 ∧ i = 4) ∨ (a = 191 ∧ i = 5) ∨ (a = 191 ∧ i = 6) ∨ (a = 195 ∧ i = 10) ∨ (a = 91 ∧ i = 1)
set_option maxRecDepth 100000 in
set_option maxHeartbeats 4000000 in
theorem k_S_takePlan {l1 : Int} {g : zi_M} {Q : Int → zi_M → Prop} (I : zk_I g) (p1 : 0 ≤ l1 ∧ l1 ≤ 400) (hQ : ∀ (v : Int) (g' : zi_M), zk_I g' → zk_fr fr_S_takePlan g g' → ((-1) ≤ v ∧ v ≤ 16) → (g' 91 1 = 0 ∨ g' 91 1 = g 91 1) → Q v g') : w_S_takePlan l1 g Q := by
  unfold w_S_takePlan
  refine k_Tokens_split (show zs_str 1000000004 from rfl) I ⟨by omega, by omega⟩ (fun g2 I_1 F_2 => ?_)
  have F_3 : zk_fr fr_S_takePlan g g2 := zk_ft (zk_f0 _) F_2 (fun a i => (fun h => Or.elim h (fun h => (Or.inl h)) (fun h => Or.elim h (fun h => (Or.inr (Or.inl h))) (fun h => Or.elim h (fun h => (Or.inr (Or.inr (Or.inl h)))) (fun h => Or.elim h (fun h => (Or.inr (Or.inr (Or.inr (Or.inr (Or.inr (Or.inr (Or.inr (Or.inr (Or.inr (Or.inr (Or.inr (Or.inr (Or.inl h)))))))))))))) (fun h => Or.elim h (fun h => (Or.inr (Or.inr (Or.inr (Or.inr (Or.inr (Or.inr (Or.inr (Or.inr (Or.inr (Or.inr (Or.inr (Or.inr (Or.inr (Or.inl h))))))))))))))) (fun h => Or.elim h (fun h => (Or.inr (Or.inr (Or.inr (Or.inr (Or.inr (Or.inr (Or.inr (Or.inr (Or.inr (Or.inr (Or.inr (Or.inr (Or.inr (Or.inr (Or.inl h)))))))))))))))) (fun h => (Or.inr (Or.inr (Or.inr (Or.inr (Or.inr (Or.inr (Or.inr (Or.inr (Or.inr (Or.inr (Or.inr (Or.inr (Or.inr (Or.inr (Or.inr (Or.inl h))))))))))))))))))))))))
  refine k_Texts_readPlan I_1 (fun v4 g5 I_5 F_6 b_4 => ?_)
  have F_7 : zk_fr fr_S_takePlan g g5 := zk_ft F_3 F_6 (fun a i => (fun h => Or.elim h (fun h => (Or.inr (Or.inr (Or.inr (Or.inl h))))) (fun h => Or.elim h (fun h => (Or.inr (Or.inr (Or.inr (Or.inr (Or.inl h)))))) (fun h => Or.elim h (fun h => (Or.inr (Or.inr (Or.inr (Or.inr (Or.inr (Or.inl h))))))) (fun h => Or.elim h (fun h => (Or.inr (Or.inr (Or.inr (Or.inr (Or.inr (Or.inr (Or.inl h)))))))) (fun h => Or.elim h (fun h => (Or.inr (Or.inr (Or.inr (Or.inr (Or.inr (Or.inr (Or.inr (Or.inr (Or.inr (Or.inr (Or.inr (Or.inr (Or.inr (Or.inl h))))))))))))))) (fun h => Or.elim h (fun h => (Or.inr (Or.inr (Or.inr (Or.inr (Or.inr (Or.inr (Or.inr (Or.inr (Or.inr (Or.inr (Or.inr (Or.inr (Or.inr (Or.inr (Or.inl h)))))))))))))))) (fun h => Or.elim h (fun h => (Or.inr (Or.inr (Or.inr (Or.inr (Or.inr (Or.inr (Or.inr (Or.inr (Or.inr (Or.inr (Or.inr (Or.inr (Or.inr (Or.inr (Or.inr (Or.inl h))))))))))))))))) (fun h => (Or.inr (Or.inr (Or.inr (Or.inr (Or.inr (Or.inr (Or.inr (Or.inr (Or.inr (Or.inr (Or.inr (Or.inr (Or.inr (Or.inr (Or.inr (Or.inr (Or.inl h))))))))))))))))))))))))))
  refine ⟨fun c13 => ?_, fun c13 => ?_⟩
  · refine k_Texts_copyPlan rfl rfl I_5 (fun g8 I_8 F_9 => ?_)
    have F_10 : zk_fr fr_S_takePlan g g8 := zk_ft F_7 F_9 (fun a i => (fun h => Or.elim h (fun h => (Or.inr (Or.inr (Or.inr (Or.inr (Or.inr (Or.inr (Or.inr (Or.inl h))))))))) (fun h => Or.elim h (fun h => (Or.inr (Or.inr (Or.inr (Or.inr (Or.inr (Or.inr (Or.inr (Or.inr (Or.inl h)))))))))) (fun h => Or.elim h (fun h => (Or.inr (Or.inr (Or.inr (Or.inr (Or.inr (Or.inr (Or.inr (Or.inr (Or.inr (Or.inl h))))))))))) (fun h => Or.elim h (fun h => (Or.inr (Or.inr (Or.inr (Or.inr (Or.inr (Or.inr (Or.inr (Or.inr (Or.inr (Or.inr (Or.inl h)))))))))))) (fun h => (Or.inr (Or.inr (Or.inr (Or.inr (Or.inr (Or.inr (Or.inr (Or.inr (Or.inr (Or.inr (Or.inr (Or.inl h))))))))))))))))))
    refine k_Past_forget I_8 (fun g11 I_12 F_13 b_11 => ?_)
    have F_14 : zk_fr fr_S_takePlan g g11 := zk_ft F_10 F_13 (fun a i => (fun h => (Or.inr (Or.inr (Or.inr (Or.inr (Or.inr (Or.inr (Or.inr (Or.inr (Or.inr (Or.inr (Or.inr (Or.inr (Or.inr (Or.inr (Or.inr (Or.inr (Or.inr h)))))))))))))))))))
    have m_15 : 0 ≤ (g11 195 10) ∧ (g11 195 10) ≤ 16 := I_12.1 195 10
    have m_16 : g11 195 10 = g8 195 10 := F_13 _ _ (by unfold fr_Past_forget; omega)
    have m_17 : 0 ≤ (g8 195 10) ∧ (g8 195 10) ≤ 16 := I_8.1 195 10
    have m_18 : g8 195 10 = g5 195 10 := F_9 _ _ (by unfold fr_Texts_copyPlan; omega)
    have m_19 : 0 ≤ (g5 195 10) ∧ (g5 195 10) ≤ 16 := I_5.1 195 10
    have m_20 : 0 ≤ (g11 91 1) ∧ (g11 91 1) ≤ 6 := I_12.1 91 1
    exact hQ _ _ I_12 F_14 ⟨by omega, by omega⟩ (by omega)
  · have m_21 : 0 ≤ (g5 91 1) ∧ (g5 91 1) ≤ 6 := I_5.1 91 1
    have m_22 : g5 91 1 = g2 91 1 := F_6 _ _ (by unfold fr_Texts_readPlan; omega)
    have m_23 : 0 ≤ (g2 91 1) ∧ (g2 91 1) ≤ 6 := I_1.1 91 1
    have m_24 : g2 91 1 = g 91 1 := F_2 _ _ (by unfold fr_Tokens_split; omega)
    have m_25 : 0 ≤ (g 91 1) ∧ (g 91 1) ≤ 6 := I.1 91 1
    exact hQ _ _ I_5 F_7 ⟨by omega, by omega⟩ (by omega)
-- SpoutNews.text(I)I
noncomputable def fr_S_text (a : Nat) (i : Int) : Prop := a = 192 ∨ a = 193 ∨ a = 194 ∨ a = 197 ∨ a = 198 ∨ a = 199 ∨ a = 200 ∨ a = 201 ∨ a = 202 ∨ a = 205 ∨ a = 206 ∨ a = 207 ∨ a = 208 ∨ a = 209 ∨ a = 21 ∨ a = 210 ∨ a = 211 ∨ a = 213 ∨ a = 22 ∨ a = 23 ∨ a = 24 ∨ a = 25 ∨ a = 26 ∨ a = 29 ∨ a = 30 ∨ a = 31 ∨ a = 32 ∨ a = 33 ∨ a = 34 ∨ a = 35 ∨ (a = 0 ∧ i = 8) ∨ (a = 19 ∧ i = 10) ∨ (a = 19 ∧ i = 2) ∨ (a = 19 ∧ i = 5) ∨ (a = 191 ∧ i = 3) ∨ (a = 191 ∧ i = 4) ∨ (a = 191 ∧ i = 5) ∨ (a = 191 ∧ i = 6) ∨ (a = 195 ∧ i = 10) ∨ (a = 195 ∧ i = 2) ∨ (a = 195 ∧ i = 5) ∨ (a = 196 ∧ i = 2) ∨ (a = 196 ∧ i = 7) ∨ (a = 20 ∧ i = 2) ∨ (a = 20 ∧ i = 7) ∨ (a = 212 ∧ i = 1) ∨ (a = 212 ∧ i = 2) ∨ (a = 212 ∧ i = 3) ∨ (a = 91 ∧ i = 1)
set_option maxRecDepth 100000 in
set_option maxHeartbeats 4000000 in
theorem k_S_text {l1 : Int} {g : zi_M} {Q : Int → zi_M → Prop} (I : zk_I g) (p1 : (-2147483648) ≤ l1 ∧ l1 ≤ 2147483647) (hQ : ∀ (v : Int) (g' : zi_M), zk_I g' → zk_fr fr_S_text g g' → ((-1) ≤ v ∧ v ≤ 17) → (g' 0 8 = 0) → (g' 91 1 = 0 ∨ g' 91 1 = g 91 1) → Q v g') : w_S_text l1 g Q := by
  unfold w_S_text
  intro g1 e_1
  have I_2 : zk_I g1 := by rw [e_1]; exact zk_upd (L := 0) (H := 400) rfl rfl I ⟨by omega, by omega⟩
  have F_3 : zk_fr fr_S_text g g1 := by rw [e_1]; exact zk_fu (zk_f0 _) (Or.inr (Or.inr (Or.inr (Or.inr (Or.inr (Or.inr (Or.inr (Or.inr (Or.inr (Or.inr (Or.inr (Or.inr (Or.inr (Or.inr (Or.inr (Or.inr (Or.inr (Or.inr (Or.inr (Or.inr (Or.inr (Or.inr (Or.inr (Or.inr (Or.inr (Or.inr (Or.inr (Or.inr (Or.inr (Or.inr (Or.inl ⟨rfl, rfl⟩)))))))))))))))))))))))))))))))
  refine ⟨⟨by omega, by omega⟩, ?_⟩
  refine ⟨fun c3 => ?_, fun c3 => ?_, fun c3 => ?_, fun c3 => ?_, fun c3 => ?_⟩
  · refine k_Tokens_clear I_2 (fun g5 I_4 F_5 => ?_)
    have F_6 : zk_fr fr_S_text g g5 := zk_ft F_3 F_5 (fun a i => (fun h => Or.elim h (fun h => (Or.inr (Or.inr (Or.inr (Or.inr (Or.inr (Or.inr (Or.inr (Or.inr (Or.inr (Or.inr (Or.inr (Or.inr (Or.inr (Or.inr (Or.inr (Or.inr (Or.inr (Or.inr (Or.inr (Or.inr (Or.inr (Or.inr (Or.inr (Or.inr (Or.inr (Or.inr (Or.inr (Or.inr (Or.inr (Or.inr (Or.inr (Or.inr (Or.inr (Or.inr (Or.inl h)))))))))))))))))))))))))))))))))))) (fun h => Or.elim h (fun h => (Or.inr (Or.inr (Or.inr (Or.inr (Or.inr (Or.inr (Or.inr (Or.inr (Or.inr (Or.inr (Or.inr (Or.inr (Or.inr (Or.inr (Or.inr (Or.inr (Or.inr (Or.inr (Or.inr (Or.inr (Or.inr (Or.inr (Or.inr (Or.inr (Or.inr (Or.inr (Or.inr (Or.inr (Or.inr (Or.inr (Or.inr (Or.inr (Or.inr (Or.inr (Or.inr (Or.inl h))))))))))))))))))))))))))))))))))))) (fun h => Or.elim h (fun h => (Or.inr (Or.inr (Or.inr (Or.inr (Or.inr (Or.inr (Or.inr (Or.inr (Or.inr (Or.inr (Or.inr (Or.inr (Or.inr (Or.inr (Or.inr (Or.inr (Or.inr (Or.inr (Or.inr (Or.inr (Or.inr (Or.inr (Or.inr (Or.inr (Or.inr (Or.inr (Or.inr (Or.inr (Or.inr (Or.inr (Or.inr (Or.inr (Or.inr (Or.inr (Or.inr (Or.inr (Or.inl h)))))))))))))))))))))))))))))))))))))) (fun h => (Or.inr (Or.inr (Or.inr (Or.inr (Or.inr (Or.inr (Or.inr (Or.inr (Or.inr (Or.inr (Or.inr (Or.inr (Or.inr (Or.inr (Or.inr (Or.inr (Or.inr (Or.inr (Or.inr (Or.inr (Or.inr (Or.inr (Or.inr (Or.inr (Or.inr (Or.inr (Or.inr (Or.inr (Or.inr (Or.inr (Or.inr (Or.inr (Or.inr (Or.inr (Or.inr (Or.inr (Or.inr (Or.inl h)))))))))))))))))))))))))))))))))))))))))))
    have m_7 : 0 ≤ (g5 0 8) ∧ (g5 0 8) ≤ 400 := I_4.1 0 8
    have m_8 : g5 0 8 = g1 0 8 := F_5 _ _ (by unfold fr_Tokens_clear; omega)
    have m_9 : 0 ≤ (g1 0 8) ∧ (g1 0 8) ≤ 400 := I_2.1 0 8
    have m_10 : g1 0 8 = 0 := by rw [e_1]; exact zi_u_eq
    have m_11 : 0 ≤ (g5 91 1) ∧ (g5 91 1) ≤ 6 := I_4.1 91 1
    have m_12 : g5 91 1 = g1 91 1 := F_5 _ _ (by unfold fr_Tokens_clear; omega)
    have m_13 : 0 ≤ (g1 91 1) ∧ (g1 91 1) ≤ 6 := I_2.1 91 1
    have m_14 : g1 91 1 = g 91 1 := by rw [e_1]; exact zi_u_ne (by decide)
    have m_15 : 0 ≤ (g 91 1) ∧ (g 91 1) ≤ 6 := I.1 91 1
    exact hQ _ _ I_4 F_6 ⟨by omega, by omega⟩ (by omega) (by omega)
  · have m_16 : 0 ≤ (g 0 8) ∧ (g 0 8) ≤ 400 := I.1 0 8
    refine k_S_takeLaw I_2 ⟨by omega, by omega⟩ (fun v7 g8 I_18 F_19 b_17 => ?_)
    have F_20 : zk_fr fr_S_text g g8 := zk_ft F_3 F_19 (fun a i => (fun h => Or.elim h (fun h => (Or.inl h)) (fun h => Or.elim h (fun h => (Or.inr (Or.inl h))) (fun h => Or.elim h (fun h => (Or.inr (Or.inr (Or.inl h)))) (fun h => Or.elim h (fun h => (Or.inr (Or.inr (Or.inr (Or.inl h))))) (fun h => Or.elim h (fun h => (Or.inr (Or.inr (Or.inr (Or.inr (Or.inl h)))))) (fun h => Or.elim h (fun h => (Or.inr (Or.inr (Or.inr (Or.inr (Or.inr (Or.inl h))))))) (fun h => Or.elim h (fun h => (Or.inr (Or.inr (Or.inr (Or.inr (Or.inr (Or.inr (Or.inl h)))))))) (fun h => Or.elim h (fun h => (Or.inr (Or.inr (Or.inr (Or.inr (Or.inr (Or.inr (Or.inr (Or.inl h))))))))) (fun h => Or.elim h (fun h => (Or.inr (Or.inr (Or.inr (Or.inr (Or.inr (Or.inr (Or.inr (Or.inr (Or.inl h)))))))))) (fun h => Or.elim h (fun h => (Or.inr (Or.inr (Or.inr (Or.inr (Or.inr (Or.inr (Or.inr (Or.inr (Or.inr (Or.inr (Or.inr (Or.inr (Or.inr (Or.inr (Or.inl h)))))))))))))))) (fun h => Or.elim h (fun h => (Or.inr (Or.inr (Or.inr (Or.inr (Or.inr (Or.inr (Or.inr (Or.inr (Or.inr (Or.inr (Or.inr (Or.inr (Or.inr (Or.inr (Or.inr (Or.inr (Or.inr (Or.inl h))))))))))))))))))) (fun h => Or.elim h (fun h => (Or.inr (Or.inr (Or.inr (Or.inr (Or.inr (Or.inr (Or.inr (Or.inr (Or.inr (Or.inr (Or.inr (Or.inr (Or.inr (Or.inr (Or.inr (Or.inr (Or.inr (Or.inr (Or.inl h)))))))))))))))))))) (fun h => Or.elim h (fun h => (Or.inr (Or.inr (Or.inr (Or.inr (Or.inr (Or.inr (Or.inr (Or.inr (Or.inr (Or.inr (Or.inr (Or.inr (Or.inr (Or.inr (Or.inr (Or.inr (Or.inr (Or.inr (Or.inr (Or.inl h))))))))))))))))))))) (fun h => Or.elim h (fun h => (Or.inr (Or.inr (Or.inr (Or.inr (Or.inr (Or.inr (Or.inr (Or.inr (Or.inr (Or.inr (Or.inr (Or.inr (Or.inr (Or.inr (Or.inr (Or.inr (Or.inr (Or.inr (Or.inr (Or.inr (Or.inl h)))))))))))))))))))))) (fun h => Or.elim h (fun h => (Or.inr (Or.inr (Or.inr (Or.inr (Or.inr (Or.inr (Or.inr (Or.inr (Or.inr (Or.inr (Or.inr (Or.inr (Or.inr (Or.inr (Or.inr (Or.inr (Or.inr (Or.inr (Or.inr (Or.inr (Or.inr (Or.inl h))))))))))))))))))))))) (fun h => Or.elim h (fun h => (Or.inr (Or.inr (Or.inr (Or.inr (Or.inr (Or.inr (Or.inr (Or.inr (Or.inr (Or.inr (Or.inr (Or.inr (Or.inr (Or.inr (Or.inr (Or.inr (Or.inr (Or.inr (Or.inr (Or.inr (Or.inr (Or.inr (Or.inl h)))))))))))))))))))))))) (fun h => Or.elim h (fun h => (Or.inr (Or.inr (Or.inr (Or.inr (Or.inr (Or.inr (Or.inr (Or.inr (Or.inr (Or.inr (Or.inr (Or.inr (Or.inr (Or.inr (Or.inr (Or.inr (Or.inr (Or.inr (Or.inr (Or.inr (Or.inr (Or.inr (Or.inr (Or.inr (Or.inr (Or.inr (Or.inr (Or.inr (Or.inr (Or.inr (Or.inr (Or.inr (Or.inr (Or.inr (Or.inl h)))))))))))))))))))))))))))))))))))) (fun h => Or.elim h (fun h => (Or.inr (Or.inr (Or.inr (Or.inr (Or.inr (Or.inr (Or.inr (Or.inr (Or.inr (Or.inr (Or.inr (Or.inr (Or.inr (Or.inr (Or.inr (Or.inr (Or.inr (Or.inr (Or.inr (Or.inr (Or.inr (Or.inr (Or.inr (Or.inr (Or.inr (Or.inr (Or.inr (Or.inr (Or.inr (Or.inr (Or.inr (Or.inr (Or.inr (Or.inr (Or.inr (Or.inl h))))))))))))))))))))))))))))))))))))) (fun h => Or.elim h (fun h => (Or.inr (Or.inr (Or.inr (Or.inr (Or.inr (Or.inr (Or.inr (Or.inr (Or.inr (Or.inr (Or.inr (Or.inr (Or.inr (Or.inr (Or.inr (Or.inr (Or.inr (Or.inr (Or.inr (Or.inr (Or.inr (Or.inr (Or.inr (Or.inr (Or.inr (Or.inr (Or.inr (Or.inr (Or.inr (Or.inr (Or.inr (Or.inr (Or.inr (Or.inr (Or.inr (Or.inr (Or.inl h)))))))))))))))))))))))))))))))))))))) (fun h => Or.elim h (fun h => (Or.inr (Or.inr (Or.inr (Or.inr (Or.inr (Or.inr (Or.inr (Or.inr (Or.inr (Or.inr (Or.inr (Or.inr (Or.inr (Or.inr (Or.inr (Or.inr (Or.inr (Or.inr (Or.inr (Or.inr (Or.inr (Or.inr (Or.inr (Or.inr (Or.inr (Or.inr (Or.inr (Or.inr (Or.inr (Or.inr (Or.inr (Or.inr (Or.inr (Or.inr (Or.inr (Or.inr (Or.inr (Or.inl h))))))))))))))))))))))))))))))))))))))) (fun h => Or.elim h (fun h => (Or.inr (Or.inr (Or.inr (Or.inr (Or.inr (Or.inr (Or.inr (Or.inr (Or.inr (Or.inr (Or.inr (Or.inr (Or.inr (Or.inr (Or.inr (Or.inr (Or.inr (Or.inr (Or.inr (Or.inr (Or.inr (Or.inr (Or.inr (Or.inr (Or.inr (Or.inr (Or.inr (Or.inr (Or.inr (Or.inr (Or.inr (Or.inr (Or.inr (Or.inr (Or.inr (Or.inr (Or.inr (Or.inr (Or.inr (Or.inr (Or.inr (Or.inl h))))))))))))))))))))))))))))))))))))))))))) (fun h => Or.elim h (fun h => (Or.inr (Or.inr (Or.inr (Or.inr (Or.inr (Or.inr (Or.inr (Or.inr (Or.inr (Or.inr (Or.inr (Or.inr (Or.inr (Or.inr (Or.inr (Or.inr (Or.inr (Or.inr (Or.inr (Or.inr (Or.inr (Or.inr (Or.inr (Or.inr (Or.inr (Or.inr (Or.inr (Or.inr (Or.inr (Or.inr (Or.inr (Or.inr (Or.inr (Or.inr (Or.inr (Or.inr (Or.inr (Or.inr (Or.inr (Or.inr (Or.inr (Or.inr (Or.inl h)))))))))))))))))))))))))))))))))))))))))))) (fun h => Or.elim h (fun h => (Or.inr (Or.inr (Or.inr (Or.inr (Or.inr (Or.inr (Or.inr (Or.inr (Or.inr (Or.inr (Or.inr (Or.inr (Or.inr (Or.inr (Or.inr (Or.inr (Or.inr (Or.inr (Or.inr (Or.inr (Or.inr (Or.inr (Or.inr (Or.inr (Or.inr (Or.inr (Or.inr (Or.inr (Or.inr (Or.inr (Or.inr (Or.inr (Or.inr (Or.inr (Or.inr (Or.inr (Or.inr (Or.inr (Or.inr (Or.inr (Or.inr (Or.inr (Or.inr (Or.inl h))))))))))))))))))))))))))))))))))))))))))))) (fun h => Or.elim h (fun h => (Or.inr (Or.inr (Or.inr (Or.inr (Or.inr (Or.inr (Or.inr (Or.inr (Or.inr (Or.inr (Or.inr (Or.inr (Or.inr (Or.inr (Or.inr (Or.inr (Or.inr (Or.inr (Or.inr (Or.inr (Or.inr (Or.inr (Or.inr (Or.inr (Or.inr (Or.inr (Or.inr (Or.inr (Or.inr (Or.inr (Or.inr (Or.inr (Or.inr (Or.inr (Or.inr (Or.inr (Or.inr (Or.inr (Or.inr (Or.inr (Or.inr (Or.inr (Or.inr (Or.inr (Or.inl h)))))))))))))))))))))))))))))))))))))))))))))) (fun h => Or.elim h (fun h => (Or.inr (Or.inr (Or.inr (Or.inr (Or.inr (Or.inr (Or.inr (Or.inr (Or.inr (Or.inr (Or.inr (Or.inr (Or.inr (Or.inr (Or.inr (Or.inr (Or.inr (Or.inr (Or.inr (Or.inr (Or.inr (Or.inr (Or.inr (Or.inr (Or.inr (Or.inr (Or.inr (Or.inr (Or.inr (Or.inr (Or.inr (Or.inr (Or.inr (Or.inr (Or.inr (Or.inr (Or.inr (Or.inr (Or.inr (Or.inr (Or.inr (Or.inr (Or.inr (Or.inr (Or.inr (Or.inl h))))))))))))))))))))))))))))))))))))))))))))))) (fun h => Or.elim h (fun h => (Or.inr (Or.inr (Or.inr (Or.inr (Or.inr (Or.inr (Or.inr (Or.inr (Or.inr (Or.inr (Or.inr (Or.inr (Or.inr (Or.inr (Or.inr (Or.inr (Or.inr (Or.inr (Or.inr (Or.inr (Or.inr (Or.inr (Or.inr (Or.inr (Or.inr (Or.inr (Or.inr (Or.inr (Or.inr (Or.inr (Or.inr (Or.inr (Or.inr (Or.inr (Or.inr (Or.inr (Or.inr (Or.inr (Or.inr (Or.inr (Or.inr (Or.inr (Or.inr (Or.inr (Or.inr (Or.inr (Or.inl h)))))))))))))))))))))))))))))))))))))))))))))))) (fun h => (Or.inr (Or.inr (Or.inr (Or.inr (Or.inr (Or.inr (Or.inr (Or.inr (Or.inr (Or.inr (Or.inr (Or.inr (Or.inr (Or.inr (Or.inr (Or.inr (Or.inr (Or.inr (Or.inr (Or.inr (Or.inr (Or.inr (Or.inr (Or.inr (Or.inr (Or.inr (Or.inr (Or.inr (Or.inr (Or.inr (Or.inr (Or.inr (Or.inr (Or.inr (Or.inr (Or.inr (Or.inr (Or.inr (Or.inr (Or.inr (Or.inr (Or.inr (Or.inr (Or.inr (Or.inr (Or.inr (Or.inr (Or.inl h))))))))))))))))))))))))))))))))))))))))))))))))))))))))))))))))))))))))))))
    have m_21 : 0 ≤ (g8 0 8) ∧ (g8 0 8) ≤ 400 := I_18.1 0 8
    have m_22 : g8 0 8 = g1 0 8 := F_19 _ _ (by unfold fr_S_takeLaw; omega)
    have m_23 : 0 ≤ (g1 0 8) ∧ (g1 0 8) ≤ 400 := I_2.1 0 8
    have m_24 : g1 0 8 = 0 := by rw [e_1]; exact zi_u_eq
    have m_25 : 0 ≤ (g8 91 1) ∧ (g8 91 1) ≤ 6 := I_18.1 91 1
    have m_26 : g8 91 1 = g1 91 1 := F_19 _ _ (by unfold fr_S_takeLaw; omega)
    have m_27 : 0 ≤ (g1 91 1) ∧ (g1 91 1) ≤ 6 := I_2.1 91 1
    have m_28 : g1 91 1 = g 91 1 := by rw [e_1]; exact zi_u_ne (by decide)
    have m_29 : 0 ≤ (g 91 1) ∧ (g 91 1) ≤ 6 := I.1 91 1
    exact hQ _ _ I_18 F_20 ⟨by omega, by omega⟩ (by omega) (by omega)
  · have m_30 : 0 ≤ (g 0 8) ∧ (g 0 8) ≤ 400 := I.1 0 8
    refine k_S_takeGutters I_2 ⟨by omega, by omega⟩ (fun v10 g11 I_32 F_33 b_31 => ?_)
    have F_34 : zk_fr fr_S_text g g11 := zk_ft F_3 F_33 (fun a i => (fun h => Or.elim h (fun h => (Or.inl h)) (fun h => Or.elim h (fun h => (Or.inr (Or.inl h))) (fun h => Or.elim h (fun h => (Or.inr (Or.inr (Or.inl h)))) (fun h => Or.elim h (fun h => (Or.inr (Or.inr (Or.inr (Or.inr (Or.inr (Or.inr (Or.inr (Or.inr (Or.inr (Or.inl h))))))))))) (fun h => Or.elim h (fun h => (Or.inr (Or.inr (Or.inr (Or.inr (Or.inr (Or.inr (Or.inr (Or.inr (Or.inr (Or.inr (Or.inr (Or.inr (Or.inr (Or.inr (Or.inr (Or.inr (Or.inr (Or.inr (Or.inr (Or.inr (Or.inr (Or.inr (Or.inr (Or.inl h))))))))))))))))))))))))) (fun h => Or.elim h (fun h => (Or.inr (Or.inr (Or.inr (Or.inr (Or.inr (Or.inr (Or.inr (Or.inr (Or.inr (Or.inr (Or.inr (Or.inr (Or.inr (Or.inr (Or.inr (Or.inr (Or.inr (Or.inr (Or.inr (Or.inr (Or.inr (Or.inr (Or.inr (Or.inr (Or.inr (Or.inr (Or.inr (Or.inr (Or.inr (Or.inr (Or.inr (Or.inr (Or.inl h)))))))))))))))))))))))))))))))))) (fun h => Or.elim h (fun h => (Or.inr (Or.inr (Or.inr (Or.inr (Or.inr (Or.inr (Or.inr (Or.inr (Or.inr (Or.inr (Or.inr (Or.inr (Or.inr (Or.inr (Or.inr (Or.inr (Or.inr (Or.inr (Or.inr (Or.inr (Or.inr (Or.inr (Or.inr (Or.inr (Or.inr (Or.inr (Or.inr (Or.inr (Or.inr (Or.inr (Or.inr (Or.inr (Or.inr (Or.inr (Or.inl h)))))))))))))))))))))))))))))))))))) (fun h => Or.elim h (fun h => (Or.inr (Or.inr (Or.inr (Or.inr (Or.inr (Or.inr (Or.inr (Or.inr (Or.inr (Or.inr (Or.inr (Or.inr (Or.inr (Or.inr (Or.inr (Or.inr (Or.inr (Or.inr (Or.inr (Or.inr (Or.inr (Or.inr (Or.inr (Or.inr (Or.inr (Or.inr (Or.inr (Or.inr (Or.inr (Or.inr (Or.inr (Or.inr (Or.inr (Or.inr (Or.inr (Or.inl h))))))))))))))))))))))))))))))))))))) (fun h => Or.elim h (fun h => (Or.inr (Or.inr (Or.inr (Or.inr (Or.inr (Or.inr (Or.inr (Or.inr (Or.inr (Or.inr (Or.inr (Or.inr (Or.inr (Or.inr (Or.inr (Or.inr (Or.inr (Or.inr (Or.inr (Or.inr (Or.inr (Or.inr (Or.inr (Or.inr (Or.inr (Or.inr (Or.inr (Or.inr (Or.inr (Or.inr (Or.inr (Or.inr (Or.inr (Or.inr (Or.inr (Or.inr (Or.inl h)))))))))))))))))))))))))))))))))))))) (fun h => Or.elim h (fun h => (Or.inr (Or.inr (Or.inr (Or.inr (Or.inr (Or.inr (Or.inr (Or.inr (Or.inr (Or.inr (Or.inr (Or.inr (Or.inr (Or.inr (Or.inr (Or.inr (Or.inr (Or.inr (Or.inr (Or.inr (Or.inr (Or.inr (Or.inr (Or.inr (Or.inr (Or.inr (Or.inr (Or.inr (Or.inr (Or.inr (Or.inr (Or.inr (Or.inr (Or.inr (Or.inr (Or.inr (Or.inr (Or.inl h))))))))))))))))))))))))))))))))))))))) (fun h => (Or.inr (Or.inr (Or.inr (Or.inr (Or.inr (Or.inr (Or.inr (Or.inr (Or.inr (Or.inr (Or.inr (Or.inr (Or.inr (Or.inr (Or.inr (Or.inr (Or.inr (Or.inr (Or.inr (Or.inr (Or.inr (Or.inr (Or.inr (Or.inr (Or.inr (Or.inr (Or.inr (Or.inr (Or.inr (Or.inr (Or.inr (Or.inr (Or.inr (Or.inr (Or.inr (Or.inr (Or.inr (Or.inr (Or.inr (Or.inl h))))))))))))))))))))))))))))))))))))))))))))))))))))
    have m_35 : 0 ≤ (g11 0 8) ∧ (g11 0 8) ≤ 400 := I_32.1 0 8
    have m_36 : g11 0 8 = g1 0 8 := F_33 _ _ (by unfold fr_S_takeGutters; omega)
    have m_37 : 0 ≤ (g1 0 8) ∧ (g1 0 8) ≤ 400 := I_2.1 0 8
    have m_38 : g1 0 8 = 0 := by rw [e_1]; exact zi_u_eq
    have m_39 : 0 ≤ (g11 91 1) ∧ (g11 91 1) ≤ 6 := I_32.1 91 1
    have m_40 : g11 91 1 = g1 91 1 := F_33 _ _ (by unfold fr_S_takeGutters; omega)
    have m_41 : 0 ≤ (g1 91 1) ∧ (g1 91 1) ≤ 6 := I_2.1 91 1
    have m_42 : g1 91 1 = g 91 1 := by rw [e_1]; exact zi_u_ne (by decide)
    have m_43 : 0 ≤ (g 91 1) ∧ (g 91 1) ≤ 6 := I.1 91 1
    exact hQ _ _ I_32 F_34 ⟨by omega, by omega⟩ (by omega) (by omega)
  · have m_44 : 0 ≤ (g 0 8) ∧ (g 0 8) ≤ 400 := I.1 0 8
    have m_45 : 0 ≤ (g1 91 1) ∧ (g1 91 1) ≤ 6 := I_2.1 91 1
    have m_46 : g1 91 1 = g 91 1 := by rw [e_1]; exact zi_u_ne (by decide)
    have m_47 : 0 ≤ (g 91 1) ∧ (g 91 1) ≤ 6 := I.1 91 1
    refine k_S_takeWeather I_2 ⟨by omega, by omega⟩ (fun v13 g14 I_50 F_51 b_48 b_49 => ?_)
    have F_52 : zk_fr fr_S_text g g14 := zk_ft F_3 F_51 (fun a i => (fun h => Or.elim h (fun h => (Or.inl h)) (fun h => Or.elim h (fun h => (Or.inr (Or.inl h))) (fun h => Or.elim h (fun h => (Or.inr (Or.inr (Or.inl h)))) (fun h => Or.elim h (fun h => (Or.inr (Or.inr (Or.inr (Or.inr (Or.inr (Or.inr (Or.inr (Or.inr (Or.inr (Or.inr (Or.inl h)))))))))))) (fun h => Or.elim h (fun h => (Or.inr (Or.inr (Or.inr (Or.inr (Or.inr (Or.inr (Or.inr (Or.inr (Or.inr (Or.inr (Or.inr (Or.inl h))))))))))))) (fun h => Or.elim h (fun h => (Or.inr (Or.inr (Or.inr (Or.inr (Or.inr (Or.inr (Or.inr (Or.inr (Or.inr (Or.inr (Or.inr (Or.inr (Or.inr (Or.inr (Or.inr (Or.inr (Or.inr (Or.inr (Or.inr (Or.inr (Or.inr (Or.inr (Or.inr (Or.inr (Or.inl h)))))))))))))))))))))))))) (fun h => Or.elim h (fun h => (Or.inr (Or.inr (Or.inr (Or.inr (Or.inr (Or.inr (Or.inr (Or.inr (Or.inr (Or.inr (Or.inr (Or.inr (Or.inr (Or.inr (Or.inr (Or.inr (Or.inr (Or.inr (Or.inr (Or.inr (Or.inr (Or.inr (Or.inr (Or.inr (Or.inr (Or.inl h))))))))))))))))))))))))))) (fun h => Or.elim h (fun h => (Or.inr (Or.inr (Or.inr (Or.inr (Or.inr (Or.inr (Or.inr (Or.inr (Or.inr (Or.inr (Or.inr (Or.inr (Or.inr (Or.inr (Or.inr (Or.inr (Or.inr (Or.inr (Or.inr (Or.inr (Or.inr (Or.inr (Or.inr (Or.inr (Or.inr (Or.inr (Or.inr (Or.inr (Or.inr (Or.inr (Or.inr (Or.inr (Or.inr (Or.inl h))))))))))))))))))))))))))))))))))) (fun h => Or.elim h (fun h => (Or.inr (Or.inr (Or.inr (Or.inr (Or.inr (Or.inr (Or.inr (Or.inr (Or.inr (Or.inr (Or.inr (Or.inr (Or.inr (Or.inr (Or.inr (Or.inr (Or.inr (Or.inr (Or.inr (Or.inr (Or.inr (Or.inr (Or.inr (Or.inr (Or.inr (Or.inr (Or.inr (Or.inr (Or.inr (Or.inr (Or.inr (Or.inr (Or.inr (Or.inr (Or.inl h)))))))))))))))))))))))))))))))))))) (fun h => Or.elim h (fun h => (Or.inr (Or.inr (Or.inr (Or.inr (Or.inr (Or.inr (Or.inr (Or.inr (Or.inr (Or.inr (Or.inr (Or.inr (Or.inr (Or.inr (Or.inr (Or.inr (Or.inr (Or.inr (Or.inr (Or.inr (Or.inr (Or.inr (Or.inr (Or.inr (Or.inr (Or.inr (Or.inr (Or.inr (Or.inr (Or.inr (Or.inr (Or.inr (Or.inr (Or.inr (Or.inr (Or.inl h))))))))))))))))))))))))))))))))))))) (fun h => Or.elim h (fun h => (Or.inr (Or.inr (Or.inr (Or.inr (Or.inr (Or.inr (Or.inr (Or.inr (Or.inr (Or.inr (Or.inr (Or.inr (Or.inr (Or.inr (Or.inr (Or.inr (Or.inr (Or.inr (Or.inr (Or.inr (Or.inr (Or.inr (Or.inr (Or.inr (Or.inr (Or.inr (Or.inr (Or.inr (Or.inr (Or.inr (Or.inr (Or.inr (Or.inr (Or.inr (Or.inr (Or.inr (Or.inl h)))))))))))))))))))))))))))))))))))))) (fun h => Or.elim h (fun h => (Or.inr (Or.inr (Or.inr (Or.inr (Or.inr (Or.inr (Or.inr (Or.inr (Or.inr (Or.inr (Or.inr (Or.inr (Or.inr (Or.inr (Or.inr (Or.inr (Or.inr (Or.inr (Or.inr (Or.inr (Or.inr (Or.inr (Or.inr (Or.inr (Or.inr (Or.inr (Or.inr (Or.inr (Or.inr (Or.inr (Or.inr (Or.inr (Or.inr (Or.inr (Or.inr (Or.inr (Or.inr (Or.inl h))))))))))))))))))))))))))))))))))))))) (fun h => Or.elim h (fun h => (Or.inr (Or.inr (Or.inr (Or.inr (Or.inr (Or.inr (Or.inr (Or.inr (Or.inr (Or.inr (Or.inr (Or.inr (Or.inr (Or.inr (Or.inr (Or.inr (Or.inr (Or.inr (Or.inr (Or.inr (Or.inr (Or.inr (Or.inr (Or.inr (Or.inr (Or.inr (Or.inr (Or.inr (Or.inr (Or.inr (Or.inr (Or.inr (Or.inr (Or.inr (Or.inr (Or.inr (Or.inr (Or.inr (Or.inr (Or.inr (Or.inl h)))))))))))))))))))))))))))))))))))))))))) (fun h => (Or.inr (Or.inr (Or.inr (Or.inr (Or.inr (Or.inr (Or.inr (Or.inr (Or.inr (Or.inr (Or.inr (Or.inr (Or.inr (Or.inr (Or.inr (Or.inr (Or.inr (Or.inr (Or.inr (Or.inr (Or.inr (Or.inr (Or.inr (Or.inr (Or.inr (Or.inr (Or.inr (Or.inr (Or.inr (Or.inr (Or.inr (Or.inr (Or.inr (Or.inr (Or.inr (Or.inr (Or.inr (Or.inr (Or.inr (Or.inr (Or.inr (Or.inr (Or.inr (Or.inr (Or.inr (Or.inr (Or.inr (Or.inr h)))))))))))))))))))))))))))))))))))))))))))))))))))))))))))))))
    have m_53 : 0 ≤ (g14 0 8) ∧ (g14 0 8) ≤ 400 := I_50.1 0 8
    have m_54 : g14 0 8 = g1 0 8 := F_51 _ _ (by unfold fr_S_takeWeather; omega)
    have m_55 : 0 ≤ (g1 0 8) ∧ (g1 0 8) ≤ 400 := I_2.1 0 8
    have m_56 : g1 0 8 = 0 := by rw [e_1]; exact zi_u_eq
    have m_57 : 0 ≤ (g14 91 1) ∧ (g14 91 1) ≤ 6 := I_50.1 91 1
    exact hQ _ _ I_50 F_52 ⟨by omega, by omega⟩ (by omega) (by omega)
  · have m_58 : 0 ≤ (g 0 8) ∧ (g 0 8) ≤ 400 := I.1 0 8
    have m_59 : 0 ≤ (g1 91 1) ∧ (g1 91 1) ≤ 6 := I_2.1 91 1
    have m_60 : g1 91 1 = g 91 1 := by rw [e_1]; exact zi_u_ne (by decide)
    have m_61 : 0 ≤ (g 91 1) ∧ (g 91 1) ≤ 6 := I.1 91 1
    refine k_S_takePlan I_2 ⟨by omega, by omega⟩ (fun v16 g17 I_64 F_65 b_62 b_63 => ?_)
    have F_66 : zk_fr fr_S_text g g17 := zk_ft F_3 F_65 (fun a i => (fun h => Or.elim h (fun h => (Or.inl h)) (fun h => Or.elim h (fun h => (Or.inr (Or.inl h))) (fun h => Or.elim h (fun h => (Or.inr (Or.inr (Or.inl h)))) (fun h => Or.elim h (fun h => (Or.inr (Or.inr (Or.inr (Or.inr (Or.inr (Or.inr (Or.inr (Or.inr (Or.inr (Or.inr (Or.inr (Or.inr (Or.inl h)))))))))))))) (fun h => Or.elim h (fun h => (Or.inr (Or.inr (Or.inr (Or.inr (Or.inr (Or.inr (Or.inr (Or.inr (Or.inr (Or.inr (Or.inr (Or.inr (Or.inr (Or.inl h))))))))))))))) (fun h => Or.elim h (fun h => (Or.inr (Or.inr (Or.inr (Or.inr (Or.inr (Or.inr (Or.inr (Or.inr (Or.inr (Or.inr (Or.inr (Or.inr (Or.inr (Or.inr (Or.inr (Or.inl h))))))))))))))))) (fun h => Or.elim h (fun h => (Or.inr (Or.inr (Or.inr (Or.inr (Or.inr (Or.inr (Or.inr (Or.inr (Or.inr (Or.inr (Or.inr (Or.inr (Or.inr (Or.inr (Or.inr (Or.inr (Or.inl h)))))))))))))))))) (fun h => Or.elim h (fun h => (Or.inr (Or.inr (Or.inr (Or.inr (Or.inr (Or.inr (Or.inr (Or.inr (Or.inr (Or.inr (Or.inr (Or.inr (Or.inr (Or.inr (Or.inr (Or.inr (Or.inr (Or.inr (Or.inr (Or.inr (Or.inr (Or.inr (Or.inr (Or.inr (Or.inr (Or.inr (Or.inl h)))))))))))))))))))))))))))) (fun h => Or.elim h (fun h => (Or.inr (Or.inr (Or.inr (Or.inr (Or.inr (Or.inr (Or.inr (Or.inr (Or.inr (Or.inr (Or.inr (Or.inr (Or.inr (Or.inr (Or.inr (Or.inr (Or.inr (Or.inr (Or.inr (Or.inr (Or.inr (Or.inr (Or.inr (Or.inr (Or.inr (Or.inr (Or.inr (Or.inl h))))))))))))))))))))))))))))) (fun h => Or.elim h (fun h => (Or.inr (Or.inr (Or.inr (Or.inr (Or.inr (Or.inr (Or.inr (Or.inr (Or.inr (Or.inr (Or.inr (Or.inr (Or.inr (Or.inr (Or.inr (Or.inr (Or.inr (Or.inr (Or.inr (Or.inr (Or.inr (Or.inr (Or.inr (Or.inr (Or.inr (Or.inr (Or.inr (Or.inr (Or.inl h)))))))))))))))))))))))))))))) (fun h => Or.elim h (fun h => (Or.inr (Or.inr (Or.inr (Or.inr (Or.inr (Or.inr (Or.inr (Or.inr (Or.inr (Or.inr (Or.inr (Or.inr (Or.inr (Or.inr (Or.inr (Or.inr (Or.inr (Or.inr (Or.inr (Or.inr (Or.inr (Or.inr (Or.inr (Or.inr (Or.inr (Or.inr (Or.inr (Or.inr (Or.inr (Or.inl h))))))))))))))))))))))))))))))) (fun h => Or.elim h (fun h => (Or.inr (Or.inr (Or.inr (Or.inr (Or.inr (Or.inr (Or.inr (Or.inr (Or.inr (Or.inr (Or.inr (Or.inr (Or.inr (Or.inr (Or.inr (Or.inr (Or.inr (Or.inr (Or.inr (Or.inr (Or.inr (Or.inr (Or.inr (Or.inr (Or.inr (Or.inr (Or.inr (Or.inr (Or.inr (Or.inr (Or.inr (Or.inl h))))))))))))))))))))))))))))))))) (fun h => Or.elim h (fun h => (Or.inr (Or.inr (Or.inr (Or.inr (Or.inr (Or.inr (Or.inr (Or.inr (Or.inr (Or.inr (Or.inr (Or.inr (Or.inr (Or.inr (Or.inr (Or.inr (Or.inr (Or.inr (Or.inr (Or.inr (Or.inr (Or.inr (Or.inr (Or.inr (Or.inr (Or.inr (Or.inr (Or.inr (Or.inr (Or.inr (Or.inr (Or.inr (Or.inr (Or.inr (Or.inl h)))))))))))))))))))))))))))))))))))) (fun h => Or.elim h (fun h => (Or.inr (Or.inr (Or.inr (Or.inr (Or.inr (Or.inr (Or.inr (Or.inr (Or.inr (Or.inr (Or.inr (Or.inr (Or.inr (Or.inr (Or.inr (Or.inr (Or.inr (Or.inr (Or.inr (Or.inr (Or.inr (Or.inr (Or.inr (Or.inr (Or.inr (Or.inr (Or.inr (Or.inr (Or.inr (Or.inr (Or.inr (Or.inr (Or.inr (Or.inr (Or.inr (Or.inl h))))))))))))))))))))))))))))))))))))) (fun h => Or.elim h (fun h => (Or.inr (Or.inr (Or.inr (Or.inr (Or.inr (Or.inr (Or.inr (Or.inr (Or.inr (Or.inr (Or.inr (Or.inr (Or.inr (Or.inr (Or.inr (Or.inr (Or.inr (Or.inr (Or.inr (Or.inr (Or.inr (Or.inr (Or.inr (Or.inr (Or.inr (Or.inr (Or.inr (Or.inr (Or.inr (Or.inr (Or.inr (Or.inr (Or.inr (Or.inr (Or.inr (Or.inr (Or.inl h)))))))))))))))))))))))))))))))))))))) (fun h => Or.elim h (fun h => (Or.inr (Or.inr (Or.inr (Or.inr (Or.inr (Or.inr (Or.inr (Or.inr (Or.inr (Or.inr (Or.inr (Or.inr (Or.inr (Or.inr (Or.inr (Or.inr (Or.inr (Or.inr (Or.inr (Or.inr (Or.inr (Or.inr (Or.inr (Or.inr (Or.inr (Or.inr (Or.inr (Or.inr (Or.inr (Or.inr (Or.inr (Or.inr (Or.inr (Or.inr (Or.inr (Or.inr (Or.inr (Or.inl h))))))))))))))))))))))))))))))))))))))) (fun h => Or.elim h (fun h => (Or.inr (Or.inr (Or.inr (Or.inr (Or.inr (Or.inr (Or.inr (Or.inr (Or.inr (Or.inr (Or.inr (Or.inr (Or.inr (Or.inr (Or.inr (Or.inr (Or.inr (Or.inr (Or.inr (Or.inr (Or.inr (Or.inr (Or.inr (Or.inr (Or.inr (Or.inr (Or.inr (Or.inr (Or.inr (Or.inr (Or.inr (Or.inr (Or.inr (Or.inr (Or.inr (Or.inr (Or.inr (Or.inr (Or.inl h)))))))))))))))))))))))))))))))))))))))) (fun h => (Or.inr (Or.inr (Or.inr (Or.inr (Or.inr (Or.inr (Or.inr (Or.inr (Or.inr (Or.inr (Or.inr (Or.inr (Or.inr (Or.inr (Or.inr (Or.inr (Or.inr (Or.inr (Or.inr (Or.inr (Or.inr (Or.inr (Or.inr (Or.inr (Or.inr (Or.inr (Or.inr (Or.inr (Or.inr (Or.inr (Or.inr (Or.inr (Or.inr (Or.inr (Or.inr (Or.inr (Or.inr (Or.inr (Or.inr (Or.inr (Or.inr (Or.inr (Or.inr (Or.inr (Or.inr (Or.inr (Or.inr (Or.inr h)))))))))))))))))))))))))))))))))))))))))))))))))))))))))))))))))))
    have m_67 : 0 ≤ (g17 0 8) ∧ (g17 0 8) ≤ 400 := I_64.1 0 8
    have m_68 : g17 0 8 = g1 0 8 := F_65 _ _ (by unfold fr_S_takePlan; omega)
    have m_69 : 0 ≤ (g1 0 8) ∧ (g1 0 8) ≤ 400 := I_2.1 0 8
    have m_70 : g1 0 8 = 0 := by rw [e_1]; exact zi_u_eq
    have m_71 : 0 ≤ (g17 91 1) ∧ (g17 91 1) ≤ 6 := I_64.1 91 1
    exact hQ _ _ I_64 F_66 ⟨by omega, by omega⟩ (by omega) (by omega)
-- SpoutNewsModel.takesOther(II)V
noncomputable def fr_M_takesOther (a : Nat) (i : Int) : Prop := a = 232 ∨ a = 233 ∨ a = 234 ∨ (a = 214 ∧ i = 3) ∨ (a = 214 ∧ i = 35) ∨ (a = 214 ∧ i = 37) ∨ (a = 214 ∧ i = 39)
theorem k_M_takesOther_l85 {g0 : zi_M} {l2 : Int} {K : zi_M → Prop} {Q : Int → zi_M → Prop} (q2 : 0 ≤ l2 ∧ l2 ≤ 16) (hK : ∀ g, zk_b g → (∀ a, a ≠ 234 → g a = g0 a) → zR 234 64 (4 * l2) g0 g → K g) :
    ∀ (n : Nat) (l3 : Int) (g : zi_M), 0 ≤ l3 → l3 ≤ 4 * l2 → zk_b g → (∀ a, a ≠ 234 → g a = g0 a) → zR 234 64 l3 g0 g → 64 - l3 < (n : Int) → w_M_takesOther_l85 l2 K Q n l3 g
  | 0, l3, g, h0, h1, B, F, R, hm => by exfalso; omega
  | n + 1, l3, g, h0, h1, B, F, R, hm => by
    unfold w_M_takesOther_l85
    refine ⟨⟨by omega, by omega⟩, ⟨by omega, by omega⟩, fun h => ?_, fun h => ⟨⟨by omega, by omega⟩, ⟨by omega, by omega⟩, ?_⟩⟩
    · have e : l3 = 4 * l2 := by omega
      rw [e] at R
      exact hK g B F R
    · intro g6 e6
      refine k_M_takesOther_l85 q2 hK n (l3 + 1) g6 (by omega) (by omega) (by rw [e6]; exact zk_updb (L := -2147483648) (H := 2147483647) rfl rfl B (B 234 (64 + l3))) (fun a ha => ?_) (zR_s R h0 (by omega) e6) (by omega)
      rw [e6, zi_u_row ha]
      exact F a ha
theorem k_M_takesOther_l47 {g0 : zi_M} {l2 : Int} {K : zi_M → Prop} {Q : Int → zi_M → Prop} (q2 : 0 ≤ l2 ∧ l2 ≤ 16) (hK : ∀ g, zk_I g → zk_fr fr_M_takesOther g0 g → K g) :
    ∀ (n : Nat) (l3 : Int) (g : zi_M), 0 ≤ l3 → l3 ≤ 2 * l2 → zk_I g → zk_fr fr_M_takesOther g0 g → 32 - l3 < (n : Int) → w_M_takesOther_l47 l2 K Q n l3 g
  | 0, l3, g, h0, h1, I, F, hm => by exfalso; omega
  | n + 1, l3, g, h0, h1, I, F, hm => by
    unfold w_M_takesOther_l47
    refine ⟨⟨by omega, by omega⟩, ⟨by omega, by omega⟩, fun h => hK g I F, fun h => ⟨⟨by omega, by omega⟩, ⟨by omega, by omega⟩, ?_⟩⟩
    intro g6 e6
    exact k_M_takesOther_l47 q2 hK n (l3 + 1) g6 (by omega) (by omega) (by rw [e6]; exact zk_upd (L := -2147483648) (H := 2147483647) rfl rfl I (I.1 233 (32 + l3))) (by rw [e6]; exact zk_fu F (Or.inr (Or.inl rfl))) (by omega)
theorem k_M_takesOther_l7 {g0 : zi_M} {K : zi_M → Prop} {Q : Int → zi_M → Prop} (hK : ∀ g, zk_I g → zk_fr fr_M_takesOther g0 g → K g) :
    ∀ (n : Nat) (l3 : Int) (g : zi_M), 0 ≤ l3 → l3 ≤ 10 → zk_I g → zk_fr fr_M_takesOther g0 g → 10 - l3 < (n : Int) → w_M_takesOther_l7 K Q n l3 g
  | 0, l3, g, h0, h1, I, F, hm => by exfalso; omega
  | n + 1, l3, g, h0, h1, I, F, hm => by
    unfold w_M_takesOther_l7
    refine ⟨⟨by omega, by omega⟩, fun h => hK g I F, fun h => ⟨⟨by omega, by omega⟩, ⟨by omega, by omega⟩, ?_⟩⟩
    intro g6 e6
    exact k_M_takesOther_l7 hK n (l3 + 1) g6 (by omega) (by omega) (by rw [e6]; exact zk_upd (L := 0) (H := 10) rfl rfl I (I.1 232 (10 + l3))) (by rw [e6]; exact zk_fu F (Or.inl rfl)) (by omega)
theorem k_M_takesOther {l1 : Int} {l2 : Int} {g : zi_M} {Q : Int → zi_M → Prop} (I : zk_I g) (p1 : (-2147483648) ≤ l1 ∧ l1 ≤ 2147483647) (p2 : 0 ≤ l2 ∧ l2 ≤ 16) (px0 : 1 ≤ l1 ∧ l1 ≤ 3) (px1 : l1 = 3 → zd g l2) (hQ : ∀ g' : zi_M, zk_I g' → zk_fr fr_M_takesOther g g' → Q 0 g') : w_M_takesOther l1 l2 g Q := by
  unfold w_M_takesOther
  refine ⟨⟨by omega, by omega⟩, fun n1 => ⟨fun n2 => ⟨65, ?_⟩, fun e2 => ⟨33, ?_⟩⟩, fun e1 => ⟨11, ?_⟩⟩
  · refine k_M_takesOther_l85 p2 (fun g8 B8 F8 R8 => ?_) 65 0 g (by omega) (by omega) I.1 (fun _ _ => rfl) (zR_0 _ _ _) (by omega)
    have hd := px1 (by omega)
    have J8 : zj g8 := by
      obtain ⟨h1, h2, h3, h4, h5, h6⟩ := I.2
      refine ⟨?_, ?_, ?_, ?_, ?_, ?_⟩
      · rw [F8 224 (by decide), F8 226 (by decide), F8 227 (by decide), F8 228 (by decide), F8 229 (by decide), F8 230 (by decide)]; exact h1
      · intro k k0 k1
        by_cases hk : k < l2
        · rw [zR_p R8 (by omega) (by omega), zR_p R8 (by omega) (by omega), zR_p R8 (by omega) (by omega)]
          have := hd k k0 hk
          rw [show (64 : Int) + 4 * k + 1 = 64 + (4 * k + 1) by omega, show (64 : Int) + 4 * k + 2 = 64 + (4 * k + 2) by omega, show (64 : Int) + 4 * k + 3 = 64 + (4 * k + 3) by omega] at this
          exact this
        · rw [zR_o R8 (by omega), zR_o R8 (by omega), zR_o R8 (by omega)]
          exact h2 k k0 k1
      · rw [F8 244 (by decide)]; exact h3
      · rw [F8 250 (by decide)]; exact h4
      · rw [F8 250 (by decide)]; exact h5
      · rw [F8 250 (by decide)]; exact h6
    have I8 : zk_I g8 := ⟨B8, J8⟩
    have G8 : zk_fr fr_M_takesOther g g8 := fun a i ha => by rw [F8 a (fun e => ha (Or.inr (Or.inr (Or.inl e))))]
    intro g9 e9 g10 e10
    refine hQ g10 ?_ ?_
    · rw [e10]; refine zk_upd (L := 0) (H := 6) rfl rfl ?_ ⟨by decide, by decide⟩
      rw [e9]; exact zk_upd (L := 0) (H := 16) rfl rfl I8 ⟨by omega, by omega⟩
    · rw [e10, e9]; exact zk_fu (zk_fu G8 (Or.inr (Or.inr (Or.inr (Or.inr (Or.inr (Or.inr ⟨rfl, rfl⟩))))))) (Or.inr (Or.inr (Or.inr (Or.inl ⟨rfl, rfl⟩))))
  · refine k_M_takesOther_l47 p2 (fun g8 I8 G8 => ?_) 33 0 g (by omega) (by omega) I (zk_f0 _) (by omega)
    intro g9 e9 g10 e10
    refine hQ g10 ?_ ?_
    · rw [e10]; refine zk_upd (L := 0) (H := 6) rfl rfl ?_ ⟨by decide, by decide⟩
      rw [e9]; exact zk_upd (L := 0) (H := 16) rfl rfl I8 ⟨by omega, by omega⟩
    · rw [e10, e9]; exact zk_fu (zk_fu G8 (Or.inr (Or.inr (Or.inr (Or.inr (Or.inr (Or.inl ⟨rfl, rfl⟩))))))) (Or.inr (Or.inr (Or.inr (Or.inl ⟨rfl, rfl⟩))))
  · refine k_M_takesOther_l7 (fun g8 I8 G8 => ?_) 11 0 g (by omega) (by omega) I (zk_f0 _) (by omega)
    intro g9 e9
    refine hQ g9 ?_ ?_
    · rw [e9]; exact zk_upd (L := 0) (H := 16) rfl rfl I8 ⟨by omega, by omega⟩
    · rw [e9]; exact zk_fu G8 (Or.inr (Or.inr (Or.inr (Or.inr (Or.inl ⟨rfl, rfl⟩)))))

