-- by program (wip/gen/mkz.py)
-- SpoutNews$LawReader.readLaw(LSpoutNews$Tokens;LSpoutNews$Law;)Z
noncomputable def fr_LawReader_readLaw (a : Nat) (i : Int) : Prop := a = 197 ∨ a = 198 ∨ a = 199 ∨ a = 200 ∨ a = 201 ∨ a = 202 ∨ a = 213 ∨ (a = 191 ∧ i = 4) ∨ (a = 191 ∧ i = 5) ∨ (a = 191 ∧ i = 6) ∨ (a = 196 ∧ i = 2) ∨ (a = 196 ∧ i = 7) ∨ (a = 212 ∧ i = 1) ∨ (a = 212 ∧ i = 2) ∨ (a = 212 ∧ i = 3)
set_option maxRecDepth 100000 in
set_option maxHeartbeats 4000000 in
theorem k_LawReader_readLaw_b98 {l3 : Int} {l4 : Int} {l5 : Int} {l6 : Int} {H : Int → zi_M → Prop} {K36 : zi_M → Prop} {K67 : zi_M → Prop} {K96 : zi_M → Prop} {K108 : zi_M → Prop} {K126 : zi_M → Prop} {Q : Int → zi_M → Prop} {g : zi_M} {g0 : zi_M} (I : zk_I g) (F : zk_fr fr_LawReader_readLaw g0 g) (p3 : 0 ≤ l3 ∧ l3 ≤ 16) (p4 : 0 ≤ l4 ∧ l4 ≤ 2) (p5 : 0 ≤ l5 ∧ l5 ≤ 400) (p6 : 0 ≤ l6 ∧ l6 ≤ 400) (M : Int) (hM : 17 - l3 ≤ M) (hH : ∀ (m3 : Int) (g : zi_M), zk_I g → zk_fr fr_LawReader_readLaw g0 g → (0 ≤ m3 ∧ m3 ≤ 17) → 17 - m3 < M → H m3 g) (hK36 : ∀ (g : zi_M), zk_I g → zk_fr fr_LawReader_readLaw g0 g → K36 g) (hK67 : ∀ (g : zi_M), zk_I g → zk_fr fr_LawReader_readLaw g0 g → K67 g) (hK96 : ∀ (g : zi_M), zk_I g → zk_fr fr_LawReader_readLaw g0 g → K96 g) (hK108 : ∀ (g : zi_M), zk_I g → zk_fr fr_LawReader_readLaw g0 g → K108 g) (hK126 : ∀ (g : zi_M), zk_I g → zk_fr fr_LawReader_readLaw g0 g → K126 g) (hQ : ∀ (v : Int) (g' : zi_M), zk_I g' → zk_fr fr_LawReader_readLaw g0 g' → (0 ≤ v ∧ v ≤ 1) → Q v g') : w_LawReader_readLaw_b98 l3 l4 l5 l6 g H K36 K67 K96 K108 K126 Q := by
  unfold w_LawReader_readLaw_b98
  refine k_Tokens_take I ⟨by omega, by omega⟩ ⟨by omega, by omega⟩ (fun v22 g23 I_41 F_42 b_40 => ?_)
  have F_43 : zk_fr fr_LawReader_readLaw g0 g23 := zk_ft F F_42 (fun a i => (fun h => Or.elim h (fun h => (Or.inr (Or.inr (Or.inr (Or.inr (Or.inr (Or.inr (Or.inr (Or.inl h))))))))) (fun h => Or.elim h (fun h => (Or.inr (Or.inr (Or.inr (Or.inr (Or.inr (Or.inr (Or.inr (Or.inr (Or.inl h)))))))))) (fun h => (Or.inr (Or.inr (Or.inr (Or.inr (Or.inr (Or.inr (Or.inr (Or.inr (Or.inr (Or.inl h))))))))))))))
  refine ⟨fun c28 => ?_, fun c28 => ?_⟩
  · refine k_Law_addLine I_41 ⟨by omega, by omega⟩ ⟨by omega, by omega⟩ ⟨by omega, by omega⟩ (fun g26 I_44 F_45 => ?_)
    have F_46 : zk_fr fr_LawReader_readLaw g0 g26 := zk_ft F_43 F_45 (fun a i => (fun h => Or.elim h (fun h => (Or.inr (Or.inr (Or.inl h)))) (fun h => Or.elim h (fun h => (Or.inr (Or.inr (Or.inr (Or.inl h))))) (fun h => Or.elim h (fun h => (Or.inr (Or.inr (Or.inr (Or.inr (Or.inl h)))))) (fun h => Or.elim h (fun h => (Or.inr (Or.inr (Or.inr (Or.inr (Or.inr (Or.inl h))))))) (fun h => (Or.inr (Or.inr (Or.inr (Or.inr (Or.inr (Or.inr (Or.inr (Or.inr (Or.inr (Or.inr (Or.inr (Or.inl h))))))))))))))))))
    exact hH _ _ I_44 F_46 ⟨by omega, by omega⟩ (by omega)
  · exact hK108 _ I_41 F_43
set_option maxRecDepth 100000 in
set_option maxHeartbeats 4000000 in
theorem k_LawReader_readLaw_l6 {K36 : zi_M → Prop} {K67 : zi_M → Prop} {K96 : zi_M → Prop} {K108 : zi_M → Prop} {K126 : zi_M → Prop} {Q : Int → zi_M → Prop} {g0 : zi_M} (hK36 : ∀ (g : zi_M), zk_I g → zk_fr fr_LawReader_readLaw g0 g → K36 g) (hK67 : ∀ (g : zi_M), zk_I g → zk_fr fr_LawReader_readLaw g0 g → K67 g) (hK96 : ∀ (g : zi_M), zk_I g → zk_fr fr_LawReader_readLaw g0 g → K96 g) (hK108 : ∀ (g : zi_M), zk_I g → zk_fr fr_LawReader_readLaw g0 g → K108 g) (hK126 : ∀ (g : zi_M), zk_I g → zk_fr fr_LawReader_readLaw g0 g → K126 g) (hQ : ∀ (v : Int) (g' : zi_M), zk_I g' → zk_fr fr_LawReader_readLaw g0 g' → (0 ≤ v ∧ v ≤ 1) → Q v g') : ∀ (n : Nat) {l3 : Int} {g : zi_M}, zk_I g → zk_fr fr_LawReader_readLaw g0 g → (0 ≤ l3 ∧ l3 ≤ 17) → 17 - l3 < (n : Int) → w_LawReader_readLaw_l6 K36 K67 K96 K108 K126 Q n l3 g
  | 0, l3, g, I, F, b0, hm => by exfalso; omega
  | n + 1, l3, g, I, F, b0, hm => by
    unfold w_LawReader_readLaw_l6
    refine ⟨⟨by omega, by omega⟩, ?_⟩
    refine ⟨fun c42 => ?_, fun c42 => ?_⟩
    · exact hK126 _ I F
    · have m_7 : 0 ≤ (g 191 4) ∧ (g 191 4) ≤ 401 := I.1 191 4
      have m_8 : 0 ≤ (g 191 3) ∧ (g 191 3) ≤ 401 := I.1 191 3
      have m_9 : 0 ≤ (g 192 (g 191 4)) ∧ (g 192 (g 191 4)) ≤ 4 := I.1 192 (g 191 4)
      refine k_Tokens_isAtEnd I (fun v5 b_4 b_5 b_6 => ?_)
      refine ⟨fun c41 => ?_, fun c41 => ?_⟩
      · exact hK126 _ I F
      · have m_13 : (-1) ≤ (g 193 (g 191 4)) ∧ (g 193 (g 191 4)) ≤ 9999 := I.1 193 (g 191 4)
        refine k_Tokens_keyword I (fun v8 b_10 b_11 b_12 => ?_)
        refine ⟨⟨by omega, by omega⟩, ?_⟩
        refine ⟨fun c40 => ?_, fun c40 => ?_⟩
        · exact hK36 _ I F
        · refine ⟨fun c39 => ?_, fun c39 => ?_⟩
          · refine k_Tokens_takeLineStart I ⟨by omega, by omega⟩ ⟨by omega, by omega⟩ (fun v12 g13 I_15 F_16 b_14 => ?_)
            have F_17 : zk_fr fr_LawReader_readLaw g0 g13 := zk_ft F F_16 (fun a i => (fun h => Or.elim h (fun h => (Or.inr (Or.inr (Or.inr (Or.inr (Or.inr (Or.inr (Or.inr (Or.inl h))))))))) (fun h => Or.elim h (fun h => (Or.inr (Or.inr (Or.inr (Or.inr (Or.inr (Or.inr (Or.inr (Or.inr (Or.inl h)))))))))) (fun h => (Or.inr (Or.inr (Or.inr (Or.inr (Or.inr (Or.inr (Or.inr (Or.inr (Or.inr (Or.inl h))))))))))))))
            refine ⟨fun c38 => ?_, fun c38 => ?_⟩
            · exact hK67 _ I_15 F_17
            · refine k_LawReader_sum I_15 (fun v15 g16 I_19 F_20 b_18 => ?_)
              have F_21 : zk_fr fr_LawReader_readLaw g0 g16 := zk_ft F_17 F_20 (fun a i => (fun h => Or.elim h (fun h => (Or.inl h)) (fun h => Or.elim h (fun h => (Or.inr (Or.inl h))) (fun h => Or.elim h (fun h => (Or.inr (Or.inr (Or.inr (Or.inr (Or.inr (Or.inr (Or.inr (Or.inl h))))))))) (fun h => Or.elim h (fun h => (Or.inr (Or.inr (Or.inr (Or.inr (Or.inr (Or.inr (Or.inr (Or.inr (Or.inl h)))))))))) (fun h => Or.elim h (fun h => (Or.inr (Or.inr (Or.inr (Or.inr (Or.inr (Or.inr (Or.inr (Or.inr (Or.inr (Or.inl h))))))))))) (fun h => (Or.inr (Or.inr (Or.inr (Or.inr (Or.inr (Or.inr (Or.inr (Or.inr (Or.inr (Or.inr (Or.inl h))))))))))))))))))
              refine ⟨fun c37 => ?_, fun c37 => ?_⟩
              · have m_25 : 0 ≤ (g16 191 4) ∧ (g16 191 4) ≤ 401 := I_19.1 191 4
                have m_26 : 0 ≤ (g16 191 3) ∧ (g16 191 3) ≤ 401 := I_19.1 191 3
                have m_27 : g16 191 3 = g13 191 3 := F_20 _ _ (by unfold fr_LawReader_sum; omega)
                have m_28 : 0 ≤ (g13 191 3) ∧ (g13 191 3) ≤ 401 := I_15.1 191 3
                have m_29 : g13 191 3 = g 191 3 := F_16 _ _ (by unfold fr_Tokens_takeLineStart; omega)
                have m_30 : 0 ≤ (g16 192 (g16 191 4)) ∧ (g16 192 (g16 191 4)) ≤ 4 := I_19.1 192 (g16 191 4)
                have m_31 : g16 192 (g16 191 4) = g13 192 (g16 191 4) := F_20 _ _ (by unfold fr_LawReader_sum; omega)
                have m_32 : 0 ≤ (g13 192 (g16 191 4)) ∧ (g13 192 (g16 191 4)) ≤ 4 := I_15.1 192 (g16 191 4)
                have m_33 : g13 192 (g16 191 4) = g 192 (g16 191 4) := F_16 _ _ (by unfold fr_Tokens_takeLineStart; omega)
                have m_34 : 0 ≤ (g 192 (g16 191 4)) ∧ (g 192 (g16 191 4)) ≤ 4 := I.1 192 (g16 191 4)
                have m_35 : (-1) ≤ (g16 193 (g16 191 4)) ∧ (g16 193 (g16 191 4)) ≤ 9999 := I_19.1 193 (g16 191 4)
                have m_36 : g16 193 (g16 191 4) = g13 193 (g16 191 4) := F_20 _ _ (by unfold fr_LawReader_sum; omega)
                have m_37 : (-1) ≤ (g13 193 (g16 191 4)) ∧ (g13 193 (g16 191 4)) ≤ 9999 := I_15.1 193 (g16 191 4)
                have m_38 : g13 193 (g16 191 4) = g 193 (g16 191 4) := F_16 _ _ (by unfold fr_Tokens_takeLineStart; omega)
                have m_39 : (-1) ≤ (g 193 (g16 191 4)) ∧ (g 193 (g16 191 4)) ≤ 9999 := I.1 193 (g16 191 4)
                refine k_Tokens_keyword I_19 (fun v18 b_22 b_23 b_24 => ?_)
                refine ⟨⟨by omega, by omega⟩, ?_⟩
                refine ⟨fun c36 => ?_, fun c36 => ?_⟩
                · have m_47 : 0 ≤ (g 196 2) ∧ (g 196 2) ≤ 400 := I.1 196 2
                  have m_48 : 0 ≤ (g16 196 2) ∧ (g16 196 2) ≤ 400 := I_19.1 196 2
                  exact k_LawReader_readLaw_b98 I_19 F_21 ⟨by omega, by omega⟩ ⟨by omega, by omega⟩ ⟨by omega, by omega⟩ ⟨by omega, by omega⟩ (n : Int) (by omega) (fun _ _ I F b0 hm => k_LawReader_readLaw_l6 hK36 hK67 hK96 hK108 hK126 hQ n I F b0 hm) hK36 hK67 hK96 hK108 hK126 hQ
                · refine k_Tokens_step I_19 (fun g30 I_49 F_50 => ?_)
                  have F_51 : zk_fr fr_LawReader_readLaw g0 g30 := zk_ft F_21 F_50 (fun a i => (fun h => (Or.inr (Or.inr (Or.inr (Or.inr (Or.inr (Or.inr (Or.inr (Or.inl h))))))))))
                  refine k_LawReader_conditions I_49 (fun v32 g33 I_53 F_54 b_52 => ?_)
                  have F_55 : zk_fr fr_LawReader_readLaw g0 g33 := zk_ft F_51 F_54 (fun a i => (fun h => Or.elim h (fun h => (Or.inl h)) (fun h => Or.elim h (fun h => (Or.inr (Or.inl h))) (fun h => Or.elim h (fun h => (Or.inr (Or.inr (Or.inr (Or.inr (Or.inr (Or.inr (Or.inl h)))))))) (fun h => Or.elim h (fun h => (Or.inr (Or.inr (Or.inr (Or.inr (Or.inr (Or.inr (Or.inr (Or.inl h))))))))) (fun h => Or.elim h (fun h => (Or.inr (Or.inr (Or.inr (Or.inr (Or.inr (Or.inr (Or.inr (Or.inr (Or.inl h)))))))))) (fun h => Or.elim h (fun h => (Or.inr (Or.inr (Or.inr (Or.inr (Or.inr (Or.inr (Or.inr (Or.inr (Or.inr (Or.inl h))))))))))) (fun h => Or.elim h (fun h => (Or.inr (Or.inr (Or.inr (Or.inr (Or.inr (Or.inr (Or.inr (Or.inr (Or.inr (Or.inr (Or.inl h)))))))))))) (fun h => Or.elim h (fun h => (Or.inr (Or.inr (Or.inr (Or.inr (Or.inr (Or.inr (Or.inr (Or.inr (Or.inr (Or.inr (Or.inr (Or.inr (Or.inl h)))))))))))))) (fun h => Or.elim h (fun h => (Or.inr (Or.inr (Or.inr (Or.inr (Or.inr (Or.inr (Or.inr (Or.inr (Or.inr (Or.inr (Or.inr (Or.inr (Or.inr (Or.inl h))))))))))))))) (fun h => (Or.inr (Or.inr (Or.inr (Or.inr (Or.inr (Or.inr (Or.inr (Or.inr (Or.inr (Or.inr (Or.inr (Or.inr (Or.inr (Or.inr h)))))))))))))))))))))))))
                  refine ⟨fun c35 => ?_, fun c35 => ?_⟩
                  · have m_56 : 0 ≤ (g 196 2) ∧ (g 196 2) ≤ 400 := I.1 196 2
                    have m_57 : 0 ≤ (g16 196 2) ∧ (g16 196 2) ≤ 400 := I_19.1 196 2
                    exact k_LawReader_readLaw_b98 I_53 F_55 ⟨by omega, by omega⟩ ⟨by omega, by omega⟩ ⟨by omega, by omega⟩ ⟨by omega, by omega⟩ (n : Int) (by omega) (fun _ _ I F b0 hm => k_LawReader_readLaw_l6 hK36 hK67 hK96 hK108 hK126 hQ n I F b0 hm) hK36 hK67 hK96 hK108 hK126 hQ
                  · exact hK96 _ I_53 F_55
              · exact hK67 _ I_19 F_21
          · exact hK36 _ I F
set_option maxRecDepth 100000 in
set_option maxHeartbeats 4000000 in
theorem k_LawReader_readLaw {g : zi_M} {Q : Int → zi_M → Prop} (I : zk_I g) (hQ : ∀ (v : Int) (g' : zi_M), zk_I g' → zk_fr fr_LawReader_readLaw g g' → (0 ≤ v ∧ v ≤ 1) → Q v g') : w_LawReader_readLaw g Q := by
  unfold w_LawReader_readLaw
  refine k_Law_clear I (fun g2 I_1 F_2 => ?_)
  have F_3 : zk_fr fr_LawReader_readLaw g g2 := zk_ft (zk_f0 _) F_2 (fun a i => (fun h => Or.elim h (fun h => (Or.inr (Or.inr (Or.inr (Or.inr (Or.inr (Or.inr (Or.inr (Or.inr (Or.inr (Or.inr (Or.inl h)))))))))))) (fun h => (Or.inr (Or.inr (Or.inr (Or.inr (Or.inr (Or.inr (Or.inr (Or.inr (Or.inr (Or.inr (Or.inr (Or.inl h)))))))))))))))
  refine ⟨((17 - 0 : Int).toNat + 1), k_LawReader_readLaw_l6 (fun g43 I_58 F_59 => ?_) (fun g47 I_64 F_65 => ?_) (fun g48 I_66 F_67 => ?_) (fun g49 I_68 F_69 => ?_) (fun g50 I_70 F_71 => ?_) hQ ((17 - 0 : Int).toNat + 1) I_1 F_3 ⟨by omega, by omega⟩ (by omega)⟩
  · refine k_Tokens_refuse I_58 ⟨by omega, by omega⟩ (fun v44 g45 I_61 F_62 b_60 => ?_)
    have F_63 : zk_fr fr_LawReader_readLaw g g45 := zk_ft F_59 F_62 (fun a i => (fun h => Or.elim h (fun h => (Or.inr (Or.inr (Or.inr (Or.inr (Or.inr (Or.inr (Or.inr (Or.inr (Or.inl h)))))))))) (fun h => (Or.inr (Or.inr (Or.inr (Or.inr (Or.inr (Or.inr (Or.inr (Or.inr (Or.inr (Or.inl h)))))))))))))
    exact hQ _ _ I_61 F_63 ⟨by omega, by omega⟩
  · exact hQ _ _ I_64 F_65 ⟨by omega, by omega⟩
  · exact hQ _ _ I_66 F_67 ⟨by omega, by omega⟩
  · exact hQ _ _ I_68 F_69 ⟨by omega, by omega⟩
  · exact hQ _ _ I_70 F_71 ⟨by omega, by omega⟩
-- SpoutNews$Law.copyFrom(LSpoutNews$Law;)V
noncomputable def fr_Law_copyFrom (r0 : Nat) (r1 : Nat) (a : Nat) (i : Int) : Prop := a = r0 + 1 ∨ a = r0 + 2 ∨ a = r0 + 3 ∨ a = r0 + 4 ∨ a = r0 + 5 ∨ a = r0 + 6 ∨ (a = r0 ∧ i = 2) ∨ (a = r0 ∧ i = 7)
set_option maxRecDepth 100000 in
set_option maxHeartbeats 4000000 in
theorem k_Law_copyFrom {r0 : Nat} (hr0 : zs_sh r0 = some (3, 10)) {r1 : Nat} (hr1 : zs_sh r1 = some (3, 10)) {g : zi_M} {Q : Int → zi_M → Prop} (I : zk_I g) (hQ : ∀ g' : zi_M, zk_I g' → zk_fr (fr_Law_copyFrom r0 r1) g g' → Q 0 g') : w_Law_copyFrom r0 r1 g Q := by
  unfold w_Law_copyFrom
  have m_4 := zk_c3_2 hr1 I
  refine ⟨⟨⟨by omega, by omega, by omega⟩, by omega, by omega⟩, ?_⟩
  intro g2 e_1
  have I_2 : zk_I g2 := by rw [e_1]; exact zk_cp (L := (-2147483648)) (H := 2147483647) (fun i => zk_la3_1 hr1 (i := i)) (fun i => zk_la3_1 hr0 (i := i)) I (zj_a3_1 hr0)
  have F_3 : zk_fr (fr_Law_copyFrom r0 r1) g g2 := by rw [e_1]; exact zk_fc (zk_f0 _) (fun i => (Or.inl rfl))
  have m_8 := zk_c3_2 hr1 I_2
  refine ⟨⟨⟨by omega, by omega, by omega⟩, by omega, by omega⟩, ?_⟩
  intro g4 e_5
  have I_6 : zk_I g4 := by rw [e_5]; exact zk_cp (L := 0) (H := 9999) (fun i => zk_la3_2 hr1 (i := i)) (fun i => zk_la3_2 hr0 (i := i)) I_2 (zj_a3_2 hr0)
  have F_7 : zk_fr (fr_Law_copyFrom r0 r1) g g4 := by rw [e_5]; exact zk_fc F_3 (fun i => (Or.inr (Or.inl rfl)))
  have m_12 := zk_c3_2 hr1 I_6
  intro g5 e_9
  have I_10 : zk_I g5 := by rw [e_9]; exact zk_upd (zk_lc3_2 hr0).1 (zk_lc3_2 hr0).2 I_6 ⟨by omega, by omega⟩ (zj_w3 hr0)
  have F_11 : zk_fr (fr_Law_copyFrom r0 r1) g g5 := by rw [e_9]; exact zk_fu F_7 (Or.inr (Or.inr (Or.inr (Or.inr (Or.inr (Or.inr (Or.inl ⟨rfl, rfl⟩)))))))
  intro g7 e_13
  have I_14 : zk_I g7 := by rw [e_13]; exact zk_cp (L := (-2147483648)) (H := 2147483647) (fun i => zk_la3_3 hr1 (i := i)) (fun i => zk_la3_3 hr0 (i := i)) I_10 (zj_a3_3 hr0)
  have F_15 : zk_fr (fr_Law_copyFrom r0 r1) g g7 := by rw [e_13]; exact zk_fc F_11 (fun i => (Or.inr (Or.inr (Or.inl rfl))))
  intro g9 e_16
  have I_17 : zk_I g9 := by rw [e_16]; exact zk_cp (L := 0) (H := 400) (fun i => zk_la3_4 hr1 (i := i)) (fun i => zk_la3_4 hr0 (i := i)) I_14 (zj_a3_4 hr0)
  have F_18 : zk_fr (fr_Law_copyFrom r0 r1) g g9 := by rw [e_16]; exact zk_fc F_15 (fun i => (Or.inr (Or.inr (Or.inr (Or.inl rfl)))))
  intro g11 e_19
  have I_20 : zk_I g11 := by rw [e_19]; exact zk_cp (L := 0) (H := 400) (fun i => zk_la3_5 hr1 (i := i)) (fun i => zk_la3_5 hr0 (i := i)) I_17 (zj_a3_5 hr0)
  have F_21 : zk_fr (fr_Law_copyFrom r0 r1) g g11 := by rw [e_19]; exact zk_fc F_18 (fun i => (Or.inr (Or.inr (Or.inr (Or.inr (Or.inl rfl))))))
  intro g13 e_22
  have I_23 : zk_I g13 := by rw [e_22]; exact zk_cp (L := 0) (H := 400) (fun i => zk_la3_6 hr1 (i := i)) (fun i => zk_la3_6 hr0 (i := i)) I_20 (zj_a3_6 hr0)
  have F_24 : zk_fr (fr_Law_copyFrom r0 r1) g g13 := by rw [e_22]; exact zk_fc F_21 (fun i => (Or.inr (Or.inr (Or.inr (Or.inr (Or.inr (Or.inl rfl)))))))
  have m_28 := zk_c3_7 hr1 I_23
  intro g14 e_25
  have I_26 : zk_I g14 := by rw [e_25]; exact zk_upd (zk_lc3_7 hr0).1 (zk_lc3_7 hr0).2 I_23 ⟨by omega, by omega⟩ (zj_w3 hr0)
  have F_27 : zk_fr (fr_Law_copyFrom r0 r1) g g14 := by rw [e_25]; exact zk_fu F_24 (Or.inr (Or.inr (Or.inr (Or.inr (Or.inr (Or.inr (Or.inr ⟨rfl, rfl⟩)))))))
  exact hQ _ I_26 F_27
-- SpoutNews.takeLaw(I)I
noncomputable def fr_S_takeLaw (a : Nat) (i : Int) : Prop := a = 192 ∨ a = 193 ∨ a = 194 ∨ a = 197 ∨ a = 198 ∨ a = 199 ∨ a = 200 ∨ a = 201 ∨ a = 202 ∨ a = 21 ∨ a = 213 ∨ a = 22 ∨ a = 23 ∨ a = 24 ∨ a = 25 ∨ a = 26 ∨ (a = 191 ∧ i = 3) ∨ (a = 191 ∧ i = 4) ∨ (a = 191 ∧ i = 5) ∨ (a = 191 ∧ i = 6) ∨ (a = 196 ∧ i = 2) ∨ (a = 196 ∧ i = 7) ∨ (a = 20 ∧ i = 2) ∨ (a = 20 ∧ i = 7) ∨ (a = 212 ∧ i = 1) ∨ (a = 212 ∧ i = 2) ∨ (a = 212 ∧ i = 3)
set_option maxRecDepth 100000 in
set_option maxHeartbeats 4000000 in
theorem k_S_takeLaw {l1 : Int} {g : zi_M} {Q : Int → zi_M → Prop} (I : zk_I g) (p1 : 0 ≤ l1 ∧ l1 ≤ 400) (hQ : ∀ (v : Int) (g' : zi_M), zk_I g' → zk_fr fr_S_takeLaw g g' → ((-1) ≤ v ∧ v ≤ 16) → Q v g') : w_S_takeLaw l1 g Q := by
  unfold w_S_takeLaw
  refine k_Tokens_split (show zs_str 1000000001 from rfl) I ⟨by omega, by omega⟩ (fun g2 I_1 F_2 => ?_)
  have F_3 : zk_fr fr_S_takeLaw g g2 := zk_ft (zk_f0 _) F_2 (fun a i => (fun h => Or.elim h (fun h => (Or.inl h)) (fun h => Or.elim h (fun h => (Or.inr (Or.inl h))) (fun h => Or.elim h (fun h => (Or.inr (Or.inr (Or.inl h)))) (fun h => Or.elim h (fun h => (Or.inr (Or.inr (Or.inr (Or.inr (Or.inr (Or.inr (Or.inr (Or.inr (Or.inr (Or.inr (Or.inr (Or.inr (Or.inr (Or.inr (Or.inr (Or.inr (Or.inl h)))))))))))))))))) (fun h => Or.elim h (fun h => (Or.inr (Or.inr (Or.inr (Or.inr (Or.inr (Or.inr (Or.inr (Or.inr (Or.inr (Or.inr (Or.inr (Or.inr (Or.inr (Or.inr (Or.inr (Or.inr (Or.inr (Or.inl h))))))))))))))))))) (fun h => Or.elim h (fun h => (Or.inr (Or.inr (Or.inr (Or.inr (Or.inr (Or.inr (Or.inr (Or.inr (Or.inr (Or.inr (Or.inr (Or.inr (Or.inr (Or.inr (Or.inr (Or.inr (Or.inr (Or.inr (Or.inl h)))))))))))))))))))) (fun h => (Or.inr (Or.inr (Or.inr (Or.inr (Or.inr (Or.inr (Or.inr (Or.inr (Or.inr (Or.inr (Or.inr (Or.inr (Or.inr (Or.inr (Or.inr (Or.inr (Or.inr (Or.inr (Or.inr (Or.inl h))))))))))))))))))))))))))))
  refine k_LawReader_readLaw I_1 (fun v4 g5 I_5 F_6 b_4 => ?_)
  have F_7 : zk_fr fr_S_takeLaw g g5 := zk_ft F_3 F_6 (fun a i => (fun h => Or.elim h (fun h => (Or.inr (Or.inr (Or.inr (Or.inl h))))) (fun h => Or.elim h (fun h => (Or.inr (Or.inr (Or.inr (Or.inr (Or.inl h)))))) (fun h => Or.elim h (fun h => (Or.inr (Or.inr (Or.inr (Or.inr (Or.inr (Or.inl h))))))) (fun h => Or.elim h (fun h => (Or.inr (Or.inr (Or.inr (Or.inr (Or.inr (Or.inr (Or.inl h)))))))) (fun h => Or.elim h (fun h => (Or.inr (Or.inr (Or.inr (Or.inr (Or.inr (Or.inr (Or.inr (Or.inl h))))))))) (fun h => Or.elim h (fun h => (Or.inr (Or.inr (Or.inr (Or.inr (Or.inr (Or.inr (Or.inr (Or.inr (Or.inl h)))))))))) (fun h => Or.elim h (fun h => (Or.inr (Or.inr (Or.inr (Or.inr (Or.inr (Or.inr (Or.inr (Or.inr (Or.inr (Or.inr (Or.inl h)))))))))))) (fun h => Or.elim h (fun h => (Or.inr (Or.inr (Or.inr (Or.inr (Or.inr (Or.inr (Or.inr (Or.inr (Or.inr (Or.inr (Or.inr (Or.inr (Or.inr (Or.inr (Or.inr (Or.inr (Or.inr (Or.inl h))))))))))))))))))) (fun h => Or.elim h (fun h => (Or.inr (Or.inr (Or.inr (Or.inr (Or.inr (Or.inr (Or.inr (Or.inr (Or.inr (Or.inr (Or.inr (Or.inr (Or.inr (Or.inr (Or.inr (Or.inr (Or.inr (Or.inr (Or.inl h)))))))))))))))))))) (fun h => Or.elim h (fun h => (Or.inr (Or.inr (Or.inr (Or.inr (Or.inr (Or.inr (Or.inr (Or.inr (Or.inr (Or.inr (Or.inr (Or.inr (Or.inr (Or.inr (Or.inr (Or.inr (Or.inr (Or.inr (Or.inr (Or.inl h))))))))))))))))))))) (fun h => Or.elim h (fun h => (Or.inr (Or.inr (Or.inr (Or.inr (Or.inr (Or.inr (Or.inr (Or.inr (Or.inr (Or.inr (Or.inr (Or.inr (Or.inr (Or.inr (Or.inr (Or.inr (Or.inr (Or.inr (Or.inr (Or.inr (Or.inl h)))))))))))))))))))))) (fun h => Or.elim h (fun h => (Or.inr (Or.inr (Or.inr (Or.inr (Or.inr (Or.inr (Or.inr (Or.inr (Or.inr (Or.inr (Or.inr (Or.inr (Or.inr (Or.inr (Or.inr (Or.inr (Or.inr (Or.inr (Or.inr (Or.inr (Or.inr (Or.inl h))))))))))))))))))))))) (fun h => Or.elim h (fun h => (Or.inr (Or.inr (Or.inr (Or.inr (Or.inr (Or.inr (Or.inr (Or.inr (Or.inr (Or.inr (Or.inr (Or.inr (Or.inr (Or.inr (Or.inr (Or.inr (Or.inr (Or.inr (Or.inr (Or.inr (Or.inr (Or.inr (Or.inr (Or.inr (Or.inl h)))))))))))))))))))))))))) (fun h => Or.elim h (fun h => (Or.inr (Or.inr (Or.inr (Or.inr (Or.inr (Or.inr (Or.inr (Or.inr (Or.inr (Or.inr (Or.inr (Or.inr (Or.inr (Or.inr (Or.inr (Or.inr (Or.inr (Or.inr (Or.inr (Or.inr (Or.inr (Or.inr (Or.inr (Or.inr (Or.inr (Or.inl h))))))))))))))))))))))))))) (fun h => (Or.inr (Or.inr (Or.inr (Or.inr (Or.inr (Or.inr (Or.inr (Or.inr (Or.inr (Or.inr (Or.inr (Or.inr (Or.inr (Or.inr (Or.inr (Or.inr (Or.inr (Or.inr (Or.inr (Or.inr (Or.inr (Or.inr (Or.inr (Or.inr (Or.inr (Or.inr h))))))))))))))))))))))))))))))))))))))))))
  refine ⟨fun c10 => ?_, fun c10 => ?_⟩
  · refine k_Law_copyFrom rfl rfl I_5 (fun g8 I_8 F_9 => ?_)
    have F_10 : zk_fr fr_S_takeLaw g g8 := zk_ft F_7 F_9 (fun a i => (fun h => Or.elim h (fun h => (Or.inr (Or.inr (Or.inr (Or.inr (Or.inr (Or.inr (Or.inr (Or.inr (Or.inr (Or.inl h))))))))))) (fun h => Or.elim h (fun h => (Or.inr (Or.inr (Or.inr (Or.inr (Or.inr (Or.inr (Or.inr (Or.inr (Or.inr (Or.inr (Or.inr (Or.inl h))))))))))))) (fun h => Or.elim h (fun h => (Or.inr (Or.inr (Or.inr (Or.inr (Or.inr (Or.inr (Or.inr (Or.inr (Or.inr (Or.inr (Or.inr (Or.inr (Or.inl h)))))))))))))) (fun h => Or.elim h (fun h => (Or.inr (Or.inr (Or.inr (Or.inr (Or.inr (Or.inr (Or.inr (Or.inr (Or.inr (Or.inr (Or.inr (Or.inr (Or.inr (Or.inl h))))))))))))))) (fun h => Or.elim h (fun h => (Or.inr (Or.inr (Or.inr (Or.inr (Or.inr (Or.inr (Or.inr (Or.inr (Or.inr (Or.inr (Or.inr (Or.inr (Or.inr (Or.inr (Or.inl h)))))))))))))))) (fun h => Or.elim h (fun h => (Or.inr (Or.inr (Or.inr (Or.inr (Or.inr (Or.inr (Or.inr (Or.inr (Or.inr (Or.inr (Or.inr (Or.inr (Or.inr (Or.inr (Or.inr (Or.inl h))))))))))))))))) (fun h => Or.elim h (fun h => (Or.inr (Or.inr (Or.inr (Or.inr (Or.inr (Or.inr (Or.inr (Or.inr (Or.inr (Or.inr (Or.inr (Or.inr (Or.inr (Or.inr (Or.inr (Or.inr (Or.inr (Or.inr (Or.inr (Or.inr (Or.inr (Or.inr (Or.inl h)))))))))))))))))))))))) (fun h => (Or.inr (Or.inr (Or.inr (Or.inr (Or.inr (Or.inr (Or.inr (Or.inr (Or.inr (Or.inr (Or.inr (Or.inr (Or.inr (Or.inr (Or.inr (Or.inr (Or.inr (Or.inr (Or.inr (Or.inr (Or.inr (Or.inr (Or.inr (Or.inl h)))))))))))))))))))))))))))))))))
    have m_11 : 0 ≤ (g8 196 7) ∧ (g8 196 7) ≤ 16 := I_8.1 196 7
    have m_12 : g8 196 7 = g5 196 7 := F_9 _ _ (by unfold fr_Law_copyFrom; omega)
    have m_13 : 0 ≤ (g5 196 7) ∧ (g5 196 7) ≤ 16 := I_5.1 196 7
    exact hQ _ _ I_8 F_10 ⟨by omega, by omega⟩
  · exact hQ _ _ I_5 F_7 ⟨by omega, by omega⟩
-- SpoutNews$Tokens.takeBelow(I)I
noncomputable def fr_Tokens_takeBelow (a : Nat) (i : Int) : Prop := (a = 191 ∧ i = 4) ∨ (a = 191 ∧ i = 5) ∨ (a = 191 ∧ i = 6)
set_option maxRecDepth 100000 in
set_option maxHeartbeats 4000000 in
theorem k_Tokens_takeBelow {l1 : Int} {g : zi_M} {Q : Int → zi_M → Prop} (I : zk_I g) (p1 : 0 ≤ l1 ∧ l1 ≤ 1000) (hQ : ∀ (v : Int) (g' : zi_M), zk_I g' → zk_fr fr_Tokens_takeBelow g g' → ((-1) ≤ v ∧ v ≤ 999) → (¬ v = -1 → v < l1) → Q v g') : w_Tokens_takeBelow l1 g Q := by
  unfold w_Tokens_takeBelow
  have m_4 : 0 ≤ (g 191 4) ∧ (g 191 4) ≤ 401 := I.1 191 4
  have m_5 : 0 ≤ (g 191 3) ∧ (g 191 3) ≤ 401 := I.1 191 3
  have m_6 : 0 ≤ (g 192 (g 191 4)) ∧ (g 192 (g 191 4)) ≤ 4 := I.1 192 (g 191 4)
  have m_7 : (-1) ≤ (g 193 (g 191 4)) ∧ (g 193 (g 191 4)) ≤ 9999 := I.1 193 (g 191 4)
  refine k_Tokens_number I (fun v1 b_1 b_2 b_3 => ?_)
  refine ⟨⟨by omega, by omega⟩, ?_⟩
  refine ⟨fun c16 => ?_, fun c16 => ?_⟩
  · refine ⟨⟨by omega, by omega⟩, ?_⟩
    refine ⟨fun c12 => ?_, fun c12 => ?_⟩
    · refine k_Tokens_step I (fun g7 I_8 F_9 => ?_)
      have F_10 : zk_fr fr_Tokens_takeBelow g g7 := zk_ft (zk_f0 _) F_9 (fun a i => (fun h => (Or.inl h)))
      exact hQ _ _ I_8 F_10 ⟨by omega, by omega⟩ (by omega)
    · refine k_Tokens_refuse I ⟨by omega, by omega⟩ (fun v9 g10 I_12 F_13 b_11 => ?_)
      have F_14 : zk_fr fr_Tokens_takeBelow g g10 := zk_ft (zk_f0 _) F_13 (fun a i => (fun h => Or.elim h (fun h => (Or.inr (Or.inl h))) (fun h => (Or.inr (Or.inr h)))))
      exact hQ _ _ I_12 F_14 ⟨by omega, by omega⟩ (by omega)
  · refine k_Tokens_refuse I ⟨by omega, by omega⟩ (fun v13 g14 I_16 F_17 b_15 => ?_)
    have F_18 : zk_fr fr_Tokens_takeBelow g g14 := zk_ft (zk_f0 _) F_17 (fun a i => (fun h => Or.elim h (fun h => (Or.inr (Or.inl h))) (fun h => (Or.inr (Or.inr h)))))
    exact hQ _ _ I_16 F_18 ⟨by omega, by omega⟩ (by omega)
-- SpoutNews$Texts.readGutters(LSpoutNews$Tokens;LSpoutNews$World;)Z
noncomputable def fr_Texts_readGutters (a : Nat) (i : Int) : Prop := a = 205 ∨ (a = 191 ∧ i = 4) ∨ (a = 191 ∧ i = 5) ∨ (a = 191 ∧ i = 6) ∨ (a = 195 ∧ i = 2)
set_option maxRecDepth 100000 in
set_option maxHeartbeats 4000000 in
theorem k_Texts_readGutters_l15 {K37 : zi_M → Prop} {K64 : zi_M → Prop} {K75 : zi_M → Prop} {K107 : zi_M → Prop} {K131 : zi_M → Prop} {Q : Int → zi_M → Prop} {g0 : zi_M} (hK37 : ∀ (g : zi_M), zk_I g → zk_fr fr_Texts_readGutters g0 g → K37 g) (hK64 : ∀ (g : zi_M), zk_I g → zk_fr fr_Texts_readGutters g0 g → K64 g) (hK75 : ∀ (g : zi_M), zk_I g → zk_fr fr_Texts_readGutters g0 g → K75 g) (hK107 : ∀ (g : zi_M), zk_I g → zk_fr fr_Texts_readGutters g0 g → K107 g) (hK131 : ∀ (g : zi_M), zk_I g → zk_fr fr_Texts_readGutters g0 g → K131 g) (hQ : ∀ (v : Int) (g' : zi_M), zk_I g' → zk_fr fr_Texts_readGutters g0 g' → (0 ≤ v ∧ v ≤ 1) → Q v g') : ∀ (n : Nat) {l3 : Int} {g : zi_M}, zk_I g → zk_fr fr_Texts_readGutters g0 g → (0 ≤ l3 ∧ l3 ≤ 17) → 17 - l3 < (n : Int) → w_Texts_readGutters_l15 K37 K64 K75 K107 K131 Q n l3 g
  | 0, l3, g, I, F, b0, hm => by exfalso; omega
  | n + 1, l3, g, I, F, b0, hm => by
    unfold w_Texts_readGutters_l15
    refine ⟨⟨by omega, by omega⟩, ?_⟩
    refine ⟨fun c38 => ?_, fun c38 => ?_⟩
    · exact hK131 _ I F
    · have m_10 : 0 ≤ (g 191 4) ∧ (g 191 4) ≤ 401 := I.1 191 4
      have m_11 : 0 ≤ (g 191 3) ∧ (g 191 3) ≤ 401 := I.1 191 3
      have m_12 : 0 ≤ (g 192 (g 191 4)) ∧ (g 192 (g 191 4)) ≤ 4 := I.1 192 (g 191 4)
      refine k_Tokens_isAtEnd I (fun v4 b_7 b_8 b_9 => ?_)
      refine ⟨fun c37 => ?_, fun c37 => ?_⟩
      · exact hK131 _ I F
      · refine k_Tokens_takeLineStart I ⟨by omega, by omega⟩ ⟨by omega, by omega⟩ (fun v7 g8 I_14 F_15 b_13 => ?_)
        have F_16 : zk_fr fr_Texts_readGutters g0 g8 := zk_ft F F_15 (fun a i => (fun h => Or.elim h (fun h => (Or.inr (Or.inl h))) (fun h => Or.elim h (fun h => (Or.inr (Or.inr (Or.inl h)))) (fun h => (Or.inr (Or.inr (Or.inr (Or.inl h))))))))
        refine ⟨fun c36 => ?_, fun c36 => ?_⟩
        · have m_17 : 0 ≤ (g8 2 8) ∧ (g8 2 8) ≤ 10 := I_14.1 2 8
          have m_18 : g8 2 8 = g 2 8 := F_15 _ _ (by unfold fr_Tokens_takeLineStart; omega)
          have m_19 : 0 ≤ (g 2 8) ∧ (g 2 8) ≤ 10 := I.1 2 8
          refine k_Tokens_takeBelow I_14 ⟨by omega, by omega⟩ (fun v10 g11 I_22 F_23 b_20 b_21 => ?_)
          have F_24 : zk_fr fr_Texts_readGutters g0 g11 := zk_ft F_16 F_23 (fun a i => (fun h => Or.elim h (fun h => (Or.inr (Or.inl h))) (fun h => Or.elim h (fun h => (Or.inr (Or.inr (Or.inl h)))) (fun h => (Or.inr (Or.inr (Or.inr (Or.inl h))))))))
          refine ⟨⟨by omega, by omega⟩, ?_⟩
          refine ⟨fun c35 => ?_, fun c35 => ?_⟩
          · exact hK64 _ I_22 F_24
          · refine k_Tokens_take I_22 ⟨by omega, by omega⟩ ⟨by omega, by omega⟩ (fun v14 g15 I_26 F_27 b_25 => ?_)
            have F_28 : zk_fr fr_Texts_readGutters g0 g15 := zk_ft F_24 F_27 (fun a i => (fun h => Or.elim h (fun h => (Or.inr (Or.inl h))) (fun h => Or.elim h (fun h => (Or.inr (Or.inr (Or.inl h)))) (fun h => (Or.inr (Or.inr (Or.inr (Or.inl h))))))))
            refine ⟨fun c34 => ?_, fun c34 => ?_⟩
            · have m_32 : 0 ≤ (g15 191 4) ∧ (g15 191 4) ≤ 401 := I_26.1 191 4
              have m_33 : 0 ≤ (g15 191 3) ∧ (g15 191 3) ≤ 401 := I_26.1 191 3
              have m_34 : g15 191 3 = g11 191 3 := F_27 _ _ (by unfold fr_Tokens_take; omega)
              have m_35 : 0 ≤ (g11 191 3) ∧ (g11 191 3) ≤ 401 := I_22.1 191 3
              have m_36 : g11 191 3 = g8 191 3 := F_23 _ _ (by unfold fr_Tokens_takeBelow; omega)
              have m_37 : 0 ≤ (g8 191 3) ∧ (g8 191 3) ≤ 401 := I_14.1 191 3
              have m_38 : g8 191 3 = g 191 3 := F_15 _ _ (by unfold fr_Tokens_takeLineStart; omega)
              have m_39 : 0 ≤ (g15 192 (g15 191 4)) ∧ (g15 192 (g15 191 4)) ≤ 4 := I_26.1 192 (g15 191 4)
              have m_40 : g15 192 (g15 191 4) = g11 192 (g15 191 4) := F_27 _ _ (by unfold fr_Tokens_take; omega)
              have m_41 : 0 ≤ (g11 192 (g15 191 4)) ∧ (g11 192 (g15 191 4)) ≤ 4 := I_22.1 192 (g15 191 4)
              have m_42 : g11 192 (g15 191 4) = g8 192 (g15 191 4) := F_23 _ _ (by unfold fr_Tokens_takeBelow; omega)
              have m_43 : 0 ≤ (g8 192 (g15 191 4)) ∧ (g8 192 (g15 191 4)) ≤ 4 := I_14.1 192 (g15 191 4)
              have m_44 : g8 192 (g15 191 4) = g 192 (g15 191 4) := F_15 _ _ (by unfold fr_Tokens_takeLineStart; omega)
              have m_45 : 0 ≤ (g 192 (g15 191 4)) ∧ (g 192 (g15 191 4)) ≤ 4 := I.1 192 (g15 191 4)
              have m_46 : (-1) ≤ (g15 193 (g15 191 4)) ∧ (g15 193 (g15 191 4)) ≤ 9999 := I_26.1 193 (g15 191 4)
              have m_47 : g15 193 (g15 191 4) = g11 193 (g15 191 4) := F_27 _ _ (by unfold fr_Tokens_take; omega)
              have m_48 : (-1) ≤ (g11 193 (g15 191 4)) ∧ (g11 193 (g15 191 4)) ≤ 9999 := I_22.1 193 (g15 191 4)
              have m_49 : g11 193 (g15 191 4) = g8 193 (g15 191 4) := F_23 _ _ (by unfold fr_Tokens_takeBelow; omega)
              have m_50 : (-1) ≤ (g8 193 (g15 191 4)) ∧ (g8 193 (g15 191 4)) ≤ 9999 := I_14.1 193 (g15 191 4)
              have m_51 : g8 193 (g15 191 4) = g 193 (g15 191 4) := F_15 _ _ (by unfold fr_Tokens_takeLineStart; omega)
              have m_52 : (-1) ≤ (g 193 (g15 191 4)) ∧ (g 193 (g15 191 4)) ≤ 9999 := I.1 193 (g15 191 4)
              refine k_Tokens_number I_26 (fun v17 b_29 b_30 b_31 => ?_)
              refine ⟨⟨by omega, by omega⟩, ?_⟩
              refine ⟨fun c33 => ?_, fun c33 => ?_⟩
              · have m_53 : 0 ≤ (g15 2 8) ∧ (g15 2 8) ≤ 10 := I_26.1 2 8
                have m_54 : g15 2 8 = g11 2 8 := F_27 _ _ (by unfold fr_Tokens_take; omega)
                have m_55 : 0 ≤ (g11 2 8) ∧ (g11 2 8) ≤ 10 := I_22.1 2 8
                have m_56 : g11 2 8 = g8 2 8 := F_23 _ _ (by unfold fr_Tokens_takeBelow; omega)
                refine k_Tokens_takeBelow I_26 ⟨by omega, by omega⟩ (fun v21 g22 I_59 F_60 b_57 b_58 => ?_)
                have F_61 : zk_fr fr_Texts_readGutters g0 g22 := zk_ft F_28 F_60 (fun a i => (fun h => Or.elim h (fun h => (Or.inr (Or.inl h))) (fun h => Or.elim h (fun h => (Or.inr (Or.inr (Or.inl h)))) (fun h => (Or.inr (Or.inr (Or.inr (Or.inl h))))))))
                refine ⟨⟨by omega, by omega⟩, ?_⟩
                refine ⟨fun c32 => ?_, fun c32 => ?_⟩
                · exact hK107 _ I_59 F_61
                · refine k_Tokens_take I_59 ⟨by omega, by omega⟩ ⟨by omega, by omega⟩ (fun v25 g26 I_63 F_64 b_62 => ?_)
                  have F_65 : zk_fr fr_Texts_readGutters g0 g26 := zk_ft F_61 F_64 (fun a i => (fun h => Or.elim h (fun h => (Or.inr (Or.inl h))) (fun h => Or.elim h (fun h => (Or.inr (Or.inr (Or.inl h)))) (fun h => (Or.inr (Or.inr (Or.inr (Or.inl h))))))))
                  refine ⟨fun c31 => ?_, fun c31 => ?_⟩
                  · refine ⟨⟨by omega, by omega⟩, ?_⟩
                    intro g29 e_66
                    have I_67 : zk_I g29 := by rw [e_66]; exact zk_upd (L := (-1)) (H := 9) rfl rfl I_63 ⟨by omega, by omega⟩
                    have F_68 : zk_fr fr_Texts_readGutters g0 g29 := by rw [e_66]; exact zk_fu F_65 (Or.inl rfl)
                    intro g30 e_69
                    have I_70 : zk_I g30 := by rw [e_69]; exact zk_upd (L := 0) (H := 17) rfl rfl I_67 ⟨by omega, by omega⟩
                    have F_71 : zk_fr fr_Texts_readGutters g0 g30 := by rw [e_69]; exact zk_fu F_68 (Or.inr (Or.inr (Or.inr (Or.inr ⟨rfl, rfl⟩))))
                    exact k_Texts_readGutters_l15 hK37 hK64 hK75 hK107 hK131 hQ n I_70 F_71 ⟨by omega, by omega⟩ (by omega)
                  · exact hK107 _ I_63 F_65
              · exact hK75 _ I_26 F_28
            · exact hK64 _ I_26 F_28
        · exact hK37 _ I_14 F_16
set_option maxRecDepth 100000 in
set_option maxHeartbeats 4000000 in
theorem k_Texts_readGutters {g : zi_M} {Q : Int → zi_M → Prop} (I : zk_I g) (hQ : ∀ (v : Int) (g' : zi_M), zk_I g' → zk_fr fr_Texts_readGutters g g' → (0 ≤ v ∧ v ≤ 1) → Q v g') : w_Texts_readGutters g Q := by
  unfold w_Texts_readGutters
  intro g1 e_1
  have I_2 : zk_I g1 := by rw [e_1]; exact zk_fill (L := (-1)) (H := 9) (fun _ => rfl) (fun _ => rfl) I ⟨by omega, by omega⟩
  have F_3 : zk_fr fr_Texts_readGutters g g1 := by rw [e_1]; exact zk_ff (zk_f0 _) (fun i => (Or.inl rfl))
  intro g2 e_4
  have I_5 : zk_I g2 := by rw [e_4]; exact zk_upd (L := 0) (H := 17) rfl rfl I_2 ⟨by omega, by omega⟩
  have F_6 : zk_fr fr_Texts_readGutters g g2 := by rw [e_4]; exact zk_fu F_3 (Or.inr (Or.inr (Or.inr (Or.inr ⟨rfl, rfl⟩))))
  refine ⟨((17 - 0 : Int).toNat + 1), k_Texts_readGutters_l15 (fun g39 I_72 F_73 => ?_) (fun g40 I_74 F_75 => ?_) (fun g41 I_76 F_77 => ?_) (fun g45 I_82 F_83 => ?_) (fun g46 I_84 F_85 => ?_) hQ ((17 - 0 : Int).toNat + 1) I_5 F_6 ⟨by omega, by omega⟩ (by omega)⟩
  · exact hQ _ _ I_72 F_73 ⟨by omega, by omega⟩
  · exact hQ _ _ I_74 F_75 ⟨by omega, by omega⟩
  · refine k_Tokens_refuse I_76 ⟨by omega, by omega⟩ (fun v42 g43 I_79 F_80 b_78 => ?_)
    have F_81 : zk_fr fr_Texts_readGutters g g43 := zk_ft F_77 F_80 (fun a i => (fun h => Or.elim h (fun h => (Or.inr (Or.inr (Or.inl h)))) (fun h => (Or.inr (Or.inr (Or.inr (Or.inl h)))))))
    exact hQ _ _ I_79 F_81 ⟨by omega, by omega⟩
  · exact hQ _ _ I_82 F_83 ⟨by omega, by omega⟩
  · exact hQ _ _ I_84 F_85 ⟨by omega, by omega⟩
-- SpoutNews$Texts.copyGutters(LSpoutNews$Texts;)V
noncomputable def fr_Texts_copyGutters (r0 : Nat) (r1 : Nat) (a : Nat) (i : Int) : Prop := a = r0 + 10 ∨ (a = r0 ∧ i = 2)
set_option maxRecDepth 100000 in
set_option maxHeartbeats 4000000 in
theorem k_Texts_copyGutters {r0 : Nat} (hr0 : zs_sh r0 = some (6, 11)) {r1 : Nat} (hr1 : zs_sh r1 = some (6, 11)) {g : zi_M} {Q : Int → zi_M → Prop} (I : zk_I g) (hQ : ∀ g' : zi_M, zk_I g' → zk_fr (fr_Texts_copyGutters r0 r1) g g' → Q 0 g') : w_Texts_copyGutters r0 r1 g Q := by
  unfold w_Texts_copyGutters
  intro g2 e_1
  have I_2 : zk_I g2 := by rw [e_1]; exact zk_cp (L := (-1)) (H := 9) (fun i => zk_la6_10 hr1 (i := i)) (fun i => zk_la6_10 hr0 (i := i)) I (zj_a6_10 hr0)
  have F_3 : zk_fr (fr_Texts_copyGutters r0 r1) g g2 := by rw [e_1]; exact zk_fc (zk_f0 _) (fun i => (Or.inl rfl))
  have m_7 := zk_c6_2 hr1 I_2
  intro g3 e_4
  have I_5 : zk_I g3 := by rw [e_4]; exact zk_upd (zk_lc6_2 hr0).1 (zk_lc6_2 hr0).2 I_2 ⟨by omega, by omega⟩ (zj_w6 hr0)
  have F_6 : zk_fr (fr_Texts_copyGutters r0 r1) g g3 := by rw [e_4]; exact zk_fu F_3 (Or.inr ⟨rfl, rfl⟩)
  exact hQ _ I_5 F_6
-- SpoutNews.takeGutters(I)I
noncomputable def fr_S_takeGutters (a : Nat) (i : Int) : Prop := a = 192 ∨ a = 193 ∨ a = 194 ∨ a = 205 ∨ a = 29 ∨ (a = 19 ∧ i = 2) ∨ (a = 191 ∧ i = 3) ∨ (a = 191 ∧ i = 4) ∨ (a = 191 ∧ i = 5) ∨ (a = 191 ∧ i = 6) ∨ (a = 195 ∧ i = 2)
set_option maxRecDepth 100000 in
set_option maxHeartbeats 4000000 in
theorem k_S_takeGutters {l1 : Int} {g : zi_M} {Q : Int → zi_M → Prop} (I : zk_I g) (p1 : 0 ≤ l1 ∧ l1 ≤ 400) (hQ : ∀ (v : Int) (g' : zi_M), zk_I g' → zk_fr fr_S_takeGutters g g' → ((-1) ≤ v ∧ v ≤ 17) → Q v g') : w_S_takeGutters l1 g Q := by
  unfold w_S_takeGutters
  refine k_Tokens_split (show zs_str 1000000002 from rfl) I ⟨by omega, by omega⟩ (fun g2 I_1 F_2 => ?_)
  have F_3 : zk_fr fr_S_takeGutters g g2 := zk_ft (zk_f0 _) F_2 (fun a i => (fun h => Or.elim h (fun h => (Or.inl h)) (fun h => Or.elim h (fun h => (Or.inr (Or.inl h))) (fun h => Or.elim h (fun h => (Or.inr (Or.inr (Or.inl h)))) (fun h => Or.elim h (fun h => (Or.inr (Or.inr (Or.inr (Or.inr (Or.inr (Or.inr (Or.inl h)))))))) (fun h => Or.elim h (fun h => (Or.inr (Or.inr (Or.inr (Or.inr (Or.inr (Or.inr (Or.inr (Or.inl h))))))))) (fun h => Or.elim h (fun h => (Or.inr (Or.inr (Or.inr (Or.inr (Or.inr (Or.inr (Or.inr (Or.inr (Or.inl h)))))))))) (fun h => (Or.inr (Or.inr (Or.inr (Or.inr (Or.inr (Or.inr (Or.inr (Or.inr (Or.inr (Or.inl h))))))))))))))))))
  refine k_Texts_readGutters I_1 (fun v4 g5 I_5 F_6 b_4 => ?_)
  have F_7 : zk_fr fr_S_takeGutters g g5 := zk_ft F_3 F_6 (fun a i => (fun h => Or.elim h (fun h => (Or.inr (Or.inr (Or.inr (Or.inl h))))) (fun h => Or.elim h (fun h => (Or.inr (Or.inr (Or.inr (Or.inr (Or.inr (Or.inr (Or.inr (Or.inl h))))))))) (fun h => Or.elim h (fun h => (Or.inr (Or.inr (Or.inr (Or.inr (Or.inr (Or.inr (Or.inr (Or.inr (Or.inl h)))))))))) (fun h => Or.elim h (fun h => (Or.inr (Or.inr (Or.inr (Or.inr (Or.inr (Or.inr (Or.inr (Or.inr (Or.inr (Or.inl h))))))))))) (fun h => (Or.inr (Or.inr (Or.inr (Or.inr (Or.inr (Or.inr (Or.inr (Or.inr (Or.inr (Or.inr h))))))))))))))))
  refine ⟨fun c10 => ?_, fun c10 => ?_⟩
  · refine k_Texts_copyGutters rfl rfl I_5 (fun g8 I_8 F_9 => ?_)
    have F_10 : zk_fr fr_S_takeGutters g g8 := zk_ft F_7 F_9 (fun a i => (fun h => Or.elim h (fun h => (Or.inr (Or.inr (Or.inr (Or.inr (Or.inl h)))))) (fun h => (Or.inr (Or.inr (Or.inr (Or.inr (Or.inr (Or.inl h)))))))))
    have m_11 : 0 ≤ (g8 195 2) ∧ (g8 195 2) ≤ 17 := I_8.1 195 2
    have m_12 : g8 195 2 = g5 195 2 := F_9 _ _ (by unfold fr_Texts_copyGutters; omega)
    have m_13 : 0 ≤ (g5 195 2) ∧ (g5 195 2) ≤ 17 := I_5.1 195 2
    exact hQ _ _ I_8 F_10 ⟨by omega, by omega⟩
  · exact hQ _ _ I_5 F_7 ⟨by omega, by omega⟩
-- SpoutNews$Texts.readWeather(LSpoutNews$Tokens;)Z
noncomputable def fr_Texts_readWeather (a : Nat) (i : Int) : Prop := a = 206 ∨ a = 207 ∨ (a = 191 ∧ i = 4) ∨ (a = 191 ∧ i = 5) ∨ (a = 191 ∧ i = 6) ∨ (a = 195 ∧ i = 5)
set_option maxRecDepth 100000 in
set_option maxHeartbeats 4000000 in
theorem k_Texts_readWeather_l7 {K29 : zi_M → Prop} {K53 : zi_M → Prop} {K85 : zi_M → Prop} {K115 : zi_M → Prop} {Q : Int → zi_M → Prop} {g0 : zi_M} (hK29 : ∀ (g : zi_M), zk_I g → zk_fr fr_Texts_readWeather g0 g → K29 g) (hK53 : ∀ (g : zi_M), zk_I g → zk_fr fr_Texts_readWeather g0 g → K53 g) (hK85 : ∀ (g : zi_M), zk_I g → zk_fr fr_Texts_readWeather g0 g → K85 g) (hK115 : ∀ (g : zi_M), zk_I g → zk_fr fr_Texts_readWeather g0 g → K115 g) (hQ : ∀ (v : Int) (g' : zi_M), zk_I g' → zk_fr fr_Texts_readWeather g0 g' → (0 ≤ v ∧ v ≤ 1) → Q v g') : ∀ (n : Nat) {l2 : Int} {g : zi_M}, zk_I g → zk_fr fr_Texts_readWeather g0 g → (0 ≤ l2 ∧ l2 ≤ 16) → 16 - l2 < (n : Int) → w_Texts_readWeather_l7 K29 K53 K85 K115 Q n l2 g
  | 0, l2, g, I, F, b0, hm => by exfalso; omega
  | n + 1, l2, g, I, F, b0, hm => by
    unfold w_Texts_readWeather_l7
    refine ⟨⟨by omega, by omega⟩, ?_⟩
    refine ⟨fun c34 => ?_, fun c34 => ?_⟩
    · exact hK115 _ I F
    · have m_7 : 0 ≤ (g 191 4) ∧ (g 191 4) ≤ 401 := I.1 191 4
      have m_8 : 0 ≤ (g 191 3) ∧ (g 191 3) ≤ 401 := I.1 191 3
      have m_9 : 0 ≤ (g 192 (g 191 4)) ∧ (g 192 (g 191 4)) ≤ 4 := I.1 192 (g 191 4)
      refine k_Tokens_isAtEnd I (fun v3 b_4 b_5 b_6 => ?_)
      refine ⟨fun c33 => ?_, fun c33 => ?_⟩
      · exact hK115 _ I F
      · refine k_Tokens_takeLineStart I ⟨by omega, by omega⟩ ⟨by omega, by omega⟩ (fun v6 g7 I_11 F_12 b_10 => ?_)
        have F_13 : zk_fr fr_Texts_readWeather g0 g7 := zk_ft F F_12 (fun a i => (fun h => Or.elim h (fun h => (Or.inr (Or.inr (Or.inl h)))) (fun h => Or.elim h (fun h => (Or.inr (Or.inr (Or.inr (Or.inl h))))) (fun h => (Or.inr (Or.inr (Or.inr (Or.inr (Or.inl h)))))))))
        refine ⟨fun c32 => ?_, fun c32 => ?_⟩
        · refine k_Tokens_takeBelow I_11 ⟨by omega, by omega⟩ (fun v9 g10 I_16 F_17 b_14 b_15 => ?_)
          have F_18 : zk_fr fr_Texts_readWeather g0 g10 := zk_ft F_13 F_17 (fun a i => (fun h => Or.elim h (fun h => (Or.inr (Or.inr (Or.inl h)))) (fun h => Or.elim h (fun h => (Or.inr (Or.inr (Or.inr (Or.inl h))))) (fun h => (Or.inr (Or.inr (Or.inr (Or.inr (Or.inl h)))))))))
          refine ⟨⟨by omega, by omega⟩, ?_⟩
          refine ⟨fun c31 => ?_, fun c31 => ?_⟩
          · exact hK53 _ I_16 F_18
          · refine k_Tokens_take I_16 ⟨by omega, by omega⟩ ⟨by omega, by omega⟩ (fun v13 g14 I_20 F_21 b_19 => ?_)
            have F_22 : zk_fr fr_Texts_readWeather g0 g14 := zk_ft F_18 F_21 (fun a i => (fun h => Or.elim h (fun h => (Or.inr (Or.inr (Or.inl h)))) (fun h => Or.elim h (fun h => (Or.inr (Or.inr (Or.inr (Or.inl h))))) (fun h => (Or.inr (Or.inr (Or.inr (Or.inr (Or.inl h)))))))))
            refine ⟨fun c30 => ?_, fun c30 => ?_⟩
            · refine k_Tokens_takeBelow I_20 ⟨by omega, by omega⟩ (fun v16 g17 I_25 F_26 b_23 b_24 => ?_)
              have F_27 : zk_fr fr_Texts_readWeather g0 g17 := zk_ft F_22 F_26 (fun a i => (fun h => Or.elim h (fun h => (Or.inr (Or.inr (Or.inl h)))) (fun h => Or.elim h (fun h => (Or.inr (Or.inr (Or.inr (Or.inl h))))) (fun h => (Or.inr (Or.inr (Or.inr (Or.inr (Or.inl h)))))))))
              refine ⟨⟨by omega, by omega⟩, ?_⟩
              refine ⟨fun c29 => ?_, fun c29 => ?_⟩
              · exact hK85 _ I_25 F_27
              · refine k_Tokens_take I_25 ⟨by omega, by omega⟩ ⟨by omega, by omega⟩ (fun v20 g21 I_29 F_30 b_28 => ?_)
                have F_31 : zk_fr fr_Texts_readWeather g0 g21 := zk_ft F_27 F_30 (fun a i => (fun h => Or.elim h (fun h => (Or.inr (Or.inr (Or.inl h)))) (fun h => Or.elim h (fun h => (Or.inr (Or.inr (Or.inr (Or.inl h))))) (fun h => (Or.inr (Or.inr (Or.inr (Or.inr (Or.inl h)))))))))
                refine ⟨fun c28 => ?_, fun c28 => ?_⟩
                · exact hK85 _ I_29 F_31
                · refine ⟨fun c27 => ?_, fun c27 => ?_⟩
                  · refine ⟨⟨by omega, by omega⟩, ?_⟩
                    intro g24 e_32
                    have I_33 : zk_I g24 := by rw [e_32]; exact zk_upd (L := (-2147483648)) (H := 2147483647) rfl rfl I_29 ⟨by omega, by omega⟩
                    have F_34 : zk_fr fr_Texts_readWeather g0 g24 := by rw [e_32]; exact zk_fu F_31 (Or.inl rfl)
                    intro g25 e_35
                    have I_36 : zk_I g25 := by rw [e_35]; exact zk_upd (L := 0) (H := 9) rfl rfl I_33 ⟨by omega, by omega⟩
                    have F_37 : zk_fr fr_Texts_readWeather g0 g25 := by rw [e_35]; exact zk_fu F_34 (Or.inr (Or.inl rfl))
                    intro g26 e_38
                    have I_39 : zk_I g26 := by rw [e_38]; exact zk_upd (L := 0) (H := 16) rfl rfl I_36 ⟨by omega, by omega⟩
                    have F_40 : zk_fr fr_Texts_readWeather g0 g26 := by rw [e_38]; exact zk_fu F_37 (Or.inr (Or.inr (Or.inr (Or.inr (Or.inr ⟨rfl, rfl⟩)))))
                    exact k_Texts_readWeather_l7 hK29 hK53 hK85 hK115 hQ n I_39 F_40 ⟨by omega, by omega⟩ (by omega)
                  · exact hK85 _ I_29 F_31
            · exact hK53 _ I_20 F_22
        · exact hK29 _ I_11 F_13
set_option maxRecDepth 100000 in
set_option maxHeartbeats 4000000 in
theorem k_Texts_readWeather {g : zi_M} {Q : Int → zi_M → Prop} (I : zk_I g) (hQ : ∀ (v : Int) (g' : zi_M), zk_I g' → zk_fr fr_Texts_readWeather g g' → (0 ≤ v ∧ v ≤ 1) → Q v g') : w_Texts_readWeather g Q := by
  unfold w_Texts_readWeather
  intro g1 e_1
  have I_2 : zk_I g1 := by rw [e_1]; exact zk_upd (L := 0) (H := 16) rfl rfl I ⟨by omega, by omega⟩
  have F_3 : zk_fr fr_Texts_readWeather g g1 := by rw [e_1]; exact zk_fu (zk_f0 _) (Or.inr (Or.inr (Or.inr (Or.inr (Or.inr ⟨rfl, rfl⟩)))))
  refine ⟨((16 - 0 : Int).toNat + 1), k_Texts_readWeather_l7 (fun g35 I_41 F_42 => ?_) (fun g36 I_43 F_44 => ?_) (fun g37 I_45 F_46 => ?_) (fun g38 I_47 F_48 => ?_) hQ ((16 - 0 : Int).toNat + 1) I_2 F_3 ⟨by omega, by omega⟩ (by omega)⟩
  · exact hQ _ _ I_41 F_42 ⟨by omega, by omega⟩
  · exact hQ _ _ I_43 F_44 ⟨by omega, by omega⟩
  · exact hQ _ _ I_45 F_46 ⟨by omega, by omega⟩
  · exact hQ _ _ I_47 F_48 ⟨by omega, by omega⟩
-- SpoutNews$Texts.copyWeather(LSpoutNews$Texts;)V
noncomputable def fr_Texts_copyWeather (r0 : Nat) (r1 : Nat) (a : Nat) (i : Int) : Prop := a = r0 + 11 ∨ a = r0 + 12 ∨ (a = r0 ∧ i = 5)
set_option maxRecDepth 100000 in
set_option maxHeartbeats 4000000 in
theorem k_Texts_copyWeather {r0 : Nat} (hr0 : zs_sh r0 = some (6, 11)) {r1 : Nat} (hr1 : zs_sh r1 = some (6, 11)) {g : zi_M} {Q : Int → zi_M → Prop} (I : zk_I g) (hQ : ∀ g' : zi_M, zk_I g' → zk_fr (fr_Texts_copyWeather r0 r1) g g' → Q 0 g') : w_Texts_copyWeather r0 r1 g Q := by
  unfold w_Texts_copyWeather
  intro g2 e_1
  have I_2 : zk_I g2 := by rw [e_1]; exact zk_cp (L := (-2147483648)) (H := 2147483647) (fun i => zk_la6_11 hr1 (i := i)) (fun i => zk_la6_11 hr0 (i := i)) I (zj_a6_11 hr0)
  have F_3 : zk_fr (fr_Texts_copyWeather r0 r1) g g2 := by rw [e_1]; exact zk_fc (zk_f0 _) (fun i => (Or.inl rfl))
  intro g4 e_4
  have I_5 : zk_I g4 := by rw [e_4]; exact zk_cp (L := 0) (H := 9) (fun i => zk_la6_12 hr1 (i := i)) (fun i => zk_la6_12 hr0 (i := i)) I_2 (zj_a6_12 hr0)
  have F_6 : zk_fr (fr_Texts_copyWeather r0 r1) g g4 := by rw [e_4]; exact zk_fc F_3 (fun i => (Or.inr (Or.inl rfl)))
  have m_10 := zk_c6_5 hr1 I_5
  intro g5 e_7
  have I_8 : zk_I g5 := by rw [e_7]; exact zk_upd (zk_lc6_5 hr0).1 (zk_lc6_5 hr0).2 I_5 ⟨by omega, by omega⟩ (zj_w6 hr0)
  have F_9 : zk_fr (fr_Texts_copyWeather r0 r1) g g5 := by rw [e_7]; exact zk_fu F_6 (Or.inr (Or.inr ⟨rfl, rfl⟩))
  exact hQ _ I_8 F_9
-- SpoutNews.takeWeather(I)I
noncomputable def fr_S_takeWeather (a : Nat) (i : Int) : Prop := a = 192 ∨ a = 193 ∨ a = 194 ∨ a = 206 ∨ a = 207 ∨ a = 30 ∨ a = 31 ∨ (a = 19 ∧ i = 5) ∨ (a = 191 ∧ i = 3) ∨ (a = 191 ∧ i = 4) ∨ (a = 191 ∧ i = 5) ∨ (a = 191 ∧ i = 6) ∨ (a = 195 ∧ i = 5) ∨ (a = 91 ∧ i = 1)
set_option maxRecDepth 100000 in
set_option maxHeartbeats 4000000 in
theorem k_S_takeWeather {l1 : Int} {g : zi_M} {Q : Int → zi_M → Prop} (I : zk_I g) (p1 : 0 ≤ l1 ∧ l1 ≤ 400) (hQ : ∀ (v : Int) (g' : zi_M), zk_I g' → zk_fr fr_S_takeWeather g g' → ((-1) ≤ v ∧ v ≤ 16) → (g' 91 1 = 0 ∨ g' 91 1 = g 91 1) → Q v g') : w_S_takeWeather l1 g Q := by
  unfold w_S_takeWeather
  refine k_Tokens_split (show zs_str 1000000003 from rfl) I ⟨by omega, by omega⟩ (fun g2 I_1 F_2 => ?_)
  have F_3 : zk_fr fr_S_takeWeather g g2 := zk_ft (zk_f0 _) F_2 (fun a i => (fun h => Or.elim h (fun h => (Or.inl h)) (fun h => Or.elim h (fun h => (Or.inr (Or.inl h))) (fun h => Or.elim h (fun h => (Or.inr (Or.inr (Or.inl h)))) (fun h => Or.elim h (fun h => (Or.inr (Or.inr (Or.inr (Or.inr (Or.inr (Or.inr (Or.inr (Or.inr (Or.inl h)))))))))) (fun h => Or.elim h (fun h => (Or.inr (Or.inr (Or.inr (Or.inr (Or.inr (Or.inr (Or.inr (Or.inr (Or.inr (Or.inl h))))))))))) (fun h => Or.elim h (fun h => (Or.inr (Or.inr (Or.inr (Or.inr (Or.inr (Or.inr (Or.inr (Or.inr (Or.inr (Or.inr (Or.inl h)))))))))))) (fun h => (Or.inr (Or.inr (Or.inr (Or.inr (Or.inr (Or.inr (Or.inr (Or.inr (Or.inr (Or.inr (Or.inr (Or.inl h))))))))))))))))))))
  refine k_Texts_readWeather I_1 (fun v4 g5 I_5 F_6 b_4 => ?_)
  have F_7 : zk_fr fr_S_takeWeather g g5 := zk_ft F_3 F_6 (fun a i => (fun h => Or.elim h (fun h => (Or.inr (Or.inr (Or.inr (Or.inl h))))) (fun h => Or.elim h (fun h => (Or.inr (Or.inr (Or.inr (Or.inr (Or.inl h)))))) (fun h => Or.elim h (fun h => (Or.inr (Or.inr (Or.inr (Or.inr (Or.inr (Or.inr (Or.inr (Or.inr (Or.inr (Or.inl h))))))))))) (fun h => Or.elim h (fun h => (Or.inr (Or.inr (Or.inr (Or.inr (Or.inr (Or.inr (Or.inr (Or.inr (Or.inr (Or.inr (Or.inl h)))))))))))) (fun h => Or.elim h (fun h => (Or.inr (Or.inr (Or.inr (Or.inr (Or.inr (Or.inr (Or.inr (Or.inr (Or.inr (Or.inr (Or.inr (Or.inl h))))))))))))) (fun h => (Or.inr (Or.inr (Or.inr (Or.inr (Or.inr (Or.inr (Or.inr (Or.inr (Or.inr (Or.inr (Or.inr (Or.inr (Or.inl h))))))))))))))))))))
  refine ⟨fun c13 => ?_, fun c13 => ?_⟩
  · refine k_Texts_copyWeather rfl rfl I_5 (fun g8 I_8 F_9 => ?_)
    have F_10 : zk_fr fr_S_takeWeather g g8 := zk_ft F_7 F_9 (fun a i => (fun h => Or.elim h (fun h => (Or.inr (Or.inr (Or.inr (Or.inr (Or.inr (Or.inl h))))))) (fun h => Or.elim h (fun h => (Or.inr (Or.inr (Or.inr (Or.inr (Or.inr (Or.inr (Or.inl h)))))))) (fun h => (Or.inr (Or.inr (Or.inr (Or.inr (Or.inr (Or.inr (Or.inr (Or.inl h))))))))))))
    refine k_Past_forget I_8 (fun g11 I_12 F_13 b_11 => ?_)
    have F_14 : zk_fr fr_S_takeWeather g g11 := zk_ft F_10 F_13 (fun a i => (fun h => (Or.inr (Or.inr (Or.inr (Or.inr (Or.inr (Or.inr (Or.inr (Or.inr (Or.inr (Or.inr (Or.inr (Or.inr (Or.inr h)))))))))))))))
    have m_15 : 0 ≤ (g11 195 5) ∧ (g11 195 5) ≤ 16 := I_12.1 195 5
    have m_16 : g11 195 5 = g8 195 5 := F_13 _ _ (by unfold fr_Past_forget; omega)
    have m_17 : 0 ≤ (g8 195 5) ∧ (g8 195 5) ≤ 16 := I_8.1 195 5
    have m_18 : g8 195 5 = g5 195 5 := F_9 _ _ (by unfold fr_Texts_copyWeather; omega)
    have m_19 : 0 ≤ (g5 195 5) ∧ (g5 195 5) ≤ 16 := I_5.1 195 5
    have m_20 : 0 ≤ (g11 91 1) ∧ (g11 91 1) ≤ 6 := I_12.1 91 1
    exact hQ _ _ I_12 F_14 ⟨by omega, by omega⟩ (by omega)
  · have m_21 : 0 ≤ (g5 91 1) ∧ (g5 91 1) ≤ 6 := I_5.1 91 1
    have m_22 : g5 91 1 = g2 91 1 := F_6 _ _ (by unfold fr_Texts_readWeather; omega)
    have m_23 : 0 ≤ (g2 91 1) ∧ (g2 91 1) ≤ 6 := I_1.1 91 1
    have m_24 : g2 91 1 = g 91 1 := F_2 _ _ (by unfold fr_Tokens_split; omega)
    have m_25 : 0 ≤ (g 91 1) ∧ (g 91 1) ≤ 6 := I.1 91 1
    exact hQ _ _ I_5 F_7 ⟨by omega, by omega⟩ (by omega)
-- SpoutNews$Texts.readDeed(LSpoutNews$Tokens;LSpoutNews$World;I)Z
noncomputable def fr_Texts_readDeed (a : Nat) (i : Int) : Prop := a = 209 ∨ a = 210 ∨ a = 211 ∨ (a = 191 ∧ i = 4) ∨ (a = 191 ∧ i = 5) ∨ (a = 191 ∧ i = 6)
set_option maxRecDepth 100000 in
set_option maxHeartbeats 4000000 in
theorem k_Texts_readDeed_b92 {l3 : Int} {l4 : Int} {l5 : Int} {l6 : Int} {Q : Int → zi_M → Prop} {g : zi_M} {g0 : zi_M} (I : zk_I g) (F : zk_fr fr_Texts_readDeed g0 g) (p3 : 0 ≤ l3 ∧ l3 ≤ 15) (p4 : 0 ≤ l4 ∧ l4 ≤ 6) (p5 : 0 ≤ l5 ∧ l5 ≤ 999) (p6 : (-1) ≤ l6 ∧ l6 ≤ 999) (hQ : ∀ (v : Int) (g' : zi_M), zk_I g' → zk_fr fr_Texts_readDeed g0 g' → (0 ≤ v ∧ v ≤ 1) → Q v g') : w_Texts_readDeed_b92 l3 l4 l5 l6 g Q := by
  unfold w_Texts_readDeed_b92
  refine ⟨⟨by omega, by omega⟩, ?_⟩
  intro g23 e_35
  have I_36 : zk_I g23 := by rw [e_35]; exact zk_upd (L := (-2147483648)) (H := 2147483647) rfl rfl I ⟨by omega, by omega⟩
  have F_37 : zk_fr fr_Texts_readDeed g0 g23 := by rw [e_35]; exact zk_fu F (Or.inl rfl)
  intro g24 e_38
  have I_39 : zk_I g24 := by rw [e_38]; exact zk_upd (L := (-2147483648)) (H := 2147483647) rfl rfl I_36 ⟨by omega, by omega⟩
  have F_40 : zk_fr fr_Texts_readDeed g0 g24 := by rw [e_38]; exact zk_fu F_37 (Or.inr (Or.inl rfl))
  intro g25 e_41
  have I_42 : zk_I g25 := by rw [e_41]; exact zk_upd (L := (-2147483648)) (H := 2147483647) rfl rfl I_39 ⟨by omega, by omega⟩
  have F_43 : zk_fr fr_Texts_readDeed g0 g25 := by rw [e_41]; exact zk_fu F_40 (Or.inr (Or.inr (Or.inl rfl)))
  refine ⟨⟨by omega, by omega⟩, ?_⟩
  refine ⟨fun c27 => ?_, fun c27 => ?_⟩
  · exact hQ _ _ I_42 F_43 ⟨by omega, by omega⟩
  · exact hQ _ _ I_42 F_43 ⟨by omega, by omega⟩
set_option maxRecDepth 100000 in
set_option maxHeartbeats 4000000 in
theorem k_Texts_readDeed {l3 : Int} {g : zi_M} {Q : Int → zi_M → Prop} (I : zk_I g) (p3 : 0 ≤ l3 ∧ l3 ≤ 15) (hQ : ∀ (v : Int) (g' : zi_M), zk_I g' → zk_fr fr_Texts_readDeed g g' → (0 ≤ v ∧ v ≤ 1) → Q v g') : w_Texts_readDeed l3 g Q := by
  unfold w_Texts_readDeed
  have m_4 : 0 ≤ (g 191 4) ∧ (g 191 4) ≤ 401 := I.1 191 4
  have m_5 : 0 ≤ (g 191 3) ∧ (g 191 3) ≤ 401 := I.1 191 3
  have m_6 : 0 ≤ (g 192 (g 191 4)) ∧ (g 192 (g 191 4)) ≤ 4 := I.1 192 (g 191 4)
  have m_7 : (-1) ≤ (g 193 (g 191 4)) ∧ (g 193 (g 191 4)) ≤ 9999 := I.1 193 (g 191 4)
  refine k_Tokens_keyword I (fun v1 b_1 b_2 b_3 => ?_)
  refine ⟨⟨by omega, by omega⟩, ?_⟩
  refine ⟨fun c45 => ?_, fun c45 => ?_⟩
  · refine k_Tokens_refuse I ⟨by omega, by omega⟩ (fun v5 g6 I_9 F_10 b_8 => ?_)
    have F_11 : zk_fr fr_Texts_readDeed g g6 := zk_ft (zk_f0 _) F_10 (fun a i => (fun h => Or.elim h (fun h => (Or.inr (Or.inr (Or.inr (Or.inr (Or.inl h)))))) (fun h => (Or.inr (Or.inr (Or.inr (Or.inr (Or.inr h))))))))
    exact hQ _ _ I_9 F_11 ⟨by omega, by omega⟩
  · refine ⟨fun c44 => ?_, fun c44 => ?_⟩
    · refine k_Tokens_step I (fun g9 I_12 F_13 => ?_)
      have F_14 : zk_fr fr_Texts_readDeed g g9 := zk_ft (zk_f0 _) F_13 (fun a i => (fun h => (Or.inr (Or.inr (Or.inr (Or.inl h))))))
      have m_19 : 0 ≤ (g9 2 11) ∧ (g9 2 11) ≤ 8 := I_12.1 2 11
      have m_20 : g9 2 11 = g 2 11 := F_13 _ _ (by unfold fr_Tokens_step; omega)
      have m_21 : 0 ≤ (g 2 11) ∧ (g 2 11) ≤ 8 := I.1 2 11
      have m_22 : 0 ≤ (g9 2 8) ∧ (g9 2 8) ≤ 10 := I_12.1 2 8
      have m_23 : g9 2 8 = g 2 8 := F_13 _ _ (by unfold fr_Tokens_step; omega)
      have m_24 : 0 ≤ (g 2 8) ∧ (g 2 8) ≤ 10 := I.1 2 8
      refine k_World_countOfWho rfl I_12 ⟨by omega, by omega⟩ (fun v11 b_15 b_16 b_17 b_18 => ?_)
      try simp only [Nat.reduceAdd] at b_15 b_16 b_17 b_18
      refine k_Tokens_takeBelow I_12 ⟨by omega, by omega⟩ (fun v14 g15 I_27 F_28 b_25 b_26 => ?_)
      have F_29 : zk_fr fr_Texts_readDeed g g15 := zk_ft F_14 F_28 (fun a i => (fun h => Or.elim h (fun h => (Or.inr (Or.inr (Or.inr (Or.inl h))))) (fun h => Or.elim h (fun h => (Or.inr (Or.inr (Or.inr (Or.inr (Or.inl h)))))) (fun h => (Or.inr (Or.inr (Or.inr (Or.inr (Or.inr h)))))))))
      refine ⟨⟨by omega, by omega⟩, ?_⟩
      refine ⟨fun c40 => ?_, fun c40 => ?_⟩
      · have m_33 : 0 ≤ (g15 2 8) ∧ (g15 2 8) ≤ 10 := I_27.1 2 8
        have m_34 : g15 2 8 = g9 2 8 := F_28 _ _ (by unfold fr_Tokens_takeBelow; omega)
        refine k_World_countOfWhat rfl I_27 ⟨by omega, by omega⟩ (fun v18 b_30 b_31 b_32 => ?_)
        try simp only [Nat.reduceAdd] at b_30 b_31 b_32
        refine ⟨⟨by omega, by omega⟩, ?_⟩
        refine ⟨fun c39 => ?_, fun c39 => ?_⟩
        · exact k_Texts_readDeed_b92 I_27 F_29 ⟨by omega, by omega⟩ ⟨by omega, by omega⟩ ⟨by omega, by omega⟩ ⟨by omega, by omega⟩ hQ
        · refine ⟨fun c38 => ?_, fun c38 => ?_⟩
          · refine k_Tokens_takeBelow I_27 ⟨by omega, by omega⟩ (fun v28 g29 I_46 F_47 b_44 b_45 => ?_)
            have F_48 : zk_fr fr_Texts_readDeed g g29 := zk_ft F_29 F_47 (fun a i => (fun h => Or.elim h (fun h => (Or.inr (Or.inr (Or.inr (Or.inl h))))) (fun h => Or.elim h (fun h => (Or.inr (Or.inr (Or.inr (Or.inr (Or.inl h)))))) (fun h => (Or.inr (Or.inr (Or.inr (Or.inr (Or.inr h)))))))))
            exact k_Texts_readDeed_b92 I_46 F_48 ⟨by omega, by omega⟩ ⟨by omega, by omega⟩ ⟨by omega, by omega⟩ ⟨by omega, by omega⟩ hQ
          · refine k_Tokens_take I_27 ⟨by omega, by omega⟩ ⟨by omega, by omega⟩ (fun v31 g32 I_50 F_51 b_49 => ?_)
            have F_52 : zk_fr fr_Texts_readDeed g g32 := zk_ft F_29 F_51 (fun a i => (fun h => Or.elim h (fun h => (Or.inr (Or.inr (Or.inr (Or.inl h))))) (fun h => Or.elim h (fun h => (Or.inr (Or.inr (Or.inr (Or.inr (Or.inl h)))))) (fun h => (Or.inr (Or.inr (Or.inr (Or.inr (Or.inr h)))))))))
            refine ⟨fun c37 => ?_, fun c37 => ?_⟩
            · refine k_Tokens_takeBelow I_50 ⟨by omega, by omega⟩ (fun v34 g35 I_55 F_56 b_53 b_54 => ?_)
              have F_57 : zk_fr fr_Texts_readDeed g g35 := zk_ft F_52 F_56 (fun a i => (fun h => Or.elim h (fun h => (Or.inr (Or.inr (Or.inr (Or.inl h))))) (fun h => Or.elim h (fun h => (Or.inr (Or.inr (Or.inr (Or.inr (Or.inl h)))))) (fun h => (Or.inr (Or.inr (Or.inr (Or.inr (Or.inr h)))))))))
              exact k_Texts_readDeed_b92 I_55 F_57 ⟨by omega, by omega⟩ ⟨by omega, by omega⟩ ⟨by omega, by omega⟩ ⟨by omega, by omega⟩ hQ
            · exact hQ _ _ I_50 F_52 ⟨by omega, by omega⟩
      · exact hQ _ _ I_27 F_29 ⟨by omega, by omega⟩
    · refine k_Tokens_refuse I ⟨by omega, by omega⟩ (fun v41 g42 I_59 F_60 b_58 => ?_)
      have F_61 : zk_fr fr_Texts_readDeed g g42 := zk_ft (zk_f0 _) F_60 (fun a i => (fun h => Or.elim h (fun h => (Or.inr (Or.inr (Or.inr (Or.inr (Or.inl h)))))) (fun h => (Or.inr (Or.inr (Or.inr (Or.inr (Or.inr h))))))))
      exact hQ _ _ I_59 F_61 ⟨by omega, by omega⟩
-- SpoutNews$Texts.readPlan(LSpoutNews$Tokens;LSpoutNews$World;)Z
noncomputable def fr_Texts_readPlan (a : Nat) (i : Int) : Prop := a = 208 ∨ a = 209 ∨ a = 210 ∨ a = 211 ∨ (a = 191 ∧ i = 4) ∨ (a = 191 ∧ i = 5) ∨ (a = 191 ∧ i = 6) ∨ (a = 195 ∧ i = 10)
set_option maxRecDepth 100000 in
set_option maxHeartbeats 4000000 in
theorem k_Texts_readPlan_l7 {K36 : zi_M → Prop} {K73 : zi_M → Prop} {K96 : zi_M → Prop} {Q : Int → zi_M → Prop} {g0 : zi_M} (hK36 : ∀ (g : zi_M), zk_I g → zk_fr fr_Texts_readPlan g0 g → K36 g) (hK73 : ∀ (g : zi_M), zk_I g → zk_fr fr_Texts_readPlan g0 g → K73 g) (hK96 : ∀ (g : zi_M), zk_I g → zk_fr fr_Texts_readPlan g0 g → K96 g) (hQ : ∀ (v : Int) (g' : zi_M), zk_I g' → zk_fr fr_Texts_readPlan g0 g' → (0 ≤ v ∧ v ≤ 1) → Q v g') : ∀ (n : Nat) {l3 : Int} {g : zi_M}, zk_I g → zk_fr fr_Texts_readPlan g0 g → (0 ≤ l3 ∧ l3 ≤ 16) → 16 - l3 < (n : Int) → w_Texts_readPlan_l7 K36 K73 K96 Q n l3 g
  | 0, l3, g, I, F, b0, hm => by exfalso; omega
  | n + 1, l3, g, I, F, b0, hm => by
    unfold w_Texts_readPlan_l7
    refine ⟨⟨by omega, by omega⟩, ?_⟩
    refine ⟨fun c28 => ?_, fun c28 => ?_⟩
    · exact hK96 _ I F
    · have m_7 : 0 ≤ (g 191 4) ∧ (g 191 4) ≤ 401 := I.1 191 4
      have m_8 : 0 ≤ (g 191 3) ∧ (g 191 3) ≤ 401 := I.1 191 3
      have m_9 : 0 ≤ (g 192 (g 191 4)) ∧ (g 192 (g 191 4)) ≤ 4 := I.1 192 (g 191 4)
      refine k_Tokens_isAtEnd I (fun v3 b_4 b_5 b_6 => ?_)
      refine ⟨fun c27 => ?_, fun c27 => ?_⟩
      · exact hK96 _ I F
      · refine k_Tokens_takeLineStart I ⟨by omega, by omega⟩ ⟨by omega, by omega⟩ (fun v6 g7 I_11 F_12 b_10 => ?_)
        have F_13 : zk_fr fr_Texts_readPlan g0 g7 := zk_ft F F_12 (fun a i => (fun h => Or.elim h (fun h => (Or.inr (Or.inr (Or.inr (Or.inr (Or.inl h)))))) (fun h => Or.elim h (fun h => (Or.inr (Or.inr (Or.inr (Or.inr (Or.inr (Or.inl h))))))) (fun h => (Or.inr (Or.inr (Or.inr (Or.inr (Or.inr (Or.inr (Or.inl h)))))))))))
        refine ⟨fun c26 => ?_, fun c26 => ?_⟩
        · exact hK36 _ I_11 F_13
        · refine ⟨fun c25 => ?_, fun c25 => ?_⟩
          · refine k_Tokens_takeBelow I_11 ⟨by omega, by omega⟩ (fun v9 g10 I_16 F_17 b_14 b_15 => ?_)
            have F_18 : zk_fr fr_Texts_readPlan g0 g10 := zk_ft F_13 F_17 (fun a i => (fun h => Or.elim h (fun h => (Or.inr (Or.inr (Or.inr (Or.inr (Or.inl h)))))) (fun h => Or.elim h (fun h => (Or.inr (Or.inr (Or.inr (Or.inr (Or.inr (Or.inl h))))))) (fun h => (Or.inr (Or.inr (Or.inr (Or.inr (Or.inr (Or.inr (Or.inl h)))))))))))
            refine ⟨⟨by omega, by omega⟩, ?_⟩
            refine ⟨fun c24 => ?_, fun c24 => ?_⟩
            · exact hK73 _ I_16 F_18
            · refine k_Texts_readDeed I_16 ⟨by omega, by omega⟩ (fun v13 g14 I_20 F_21 b_19 => ?_)
              have F_22 : zk_fr fr_Texts_readPlan g0 g14 := zk_ft F_18 F_21 (fun a i => (fun h => Or.elim h (fun h => (Or.inr (Or.inl h))) (fun h => Or.elim h (fun h => (Or.inr (Or.inr (Or.inl h)))) (fun h => Or.elim h (fun h => (Or.inr (Or.inr (Or.inr (Or.inl h))))) (fun h => Or.elim h (fun h => (Or.inr (Or.inr (Or.inr (Or.inr (Or.inl h)))))) (fun h => Or.elim h (fun h => (Or.inr (Or.inr (Or.inr (Or.inr (Or.inr (Or.inl h))))))) (fun h => (Or.inr (Or.inr (Or.inr (Or.inr (Or.inr (Or.inr (Or.inl h))))))))))))))
              refine ⟨fun c23 => ?_, fun c23 => ?_⟩
              · exact hK73 _ I_20 F_22
              · refine k_Tokens_take I_20 ⟨by omega, by omega⟩ ⟨by omega, by omega⟩ (fun v16 g17 I_24 F_25 b_23 => ?_)
                have F_26 : zk_fr fr_Texts_readPlan g0 g17 := zk_ft F_22 F_25 (fun a i => (fun h => Or.elim h (fun h => (Or.inr (Or.inr (Or.inr (Or.inr (Or.inl h)))))) (fun h => Or.elim h (fun h => (Or.inr (Or.inr (Or.inr (Or.inr (Or.inr (Or.inl h))))))) (fun h => (Or.inr (Or.inr (Or.inr (Or.inr (Or.inr (Or.inr (Or.inl h)))))))))))
                refine ⟨fun c22 => ?_, fun c22 => ?_⟩
                · refine ⟨⟨by omega, by omega⟩, ?_⟩
                  intro g20 e_27
                  have I_28 : zk_I g20 := by rw [e_27]; exact zk_upd (L := (-2147483648)) (H := 2147483647) rfl rfl I_24 ⟨by omega, by omega⟩
                  have F_29 : zk_fr fr_Texts_readPlan g0 g20 := by rw [e_27]; exact zk_fu F_26 (Or.inl rfl)
                  intro g21 e_30
                  have I_31 : zk_I g21 := by rw [e_30]; exact zk_upd (L := 0) (H := 16) rfl rfl I_28 ⟨by omega, by omega⟩
                  have F_32 : zk_fr fr_Texts_readPlan g0 g21 := by rw [e_30]; exact zk_fu F_29 (Or.inr (Or.inr (Or.inr (Or.inr (Or.inr (Or.inr (Or.inr ⟨rfl, rfl⟩)))))))
                  exact k_Texts_readPlan_l7 hK36 hK73 hK96 hQ n I_31 F_32 ⟨by omega, by omega⟩ (by omega)
                · exact hK73 _ I_24 F_26
          · exact hK36 _ I_11 F_13
set_option maxRecDepth 100000 in
set_option maxHeartbeats 4000000 in
theorem k_Texts_readPlan {g : zi_M} {Q : Int → zi_M → Prop} (I : zk_I g) (hQ : ∀ (v : Int) (g' : zi_M), zk_I g' → zk_fr fr_Texts_readPlan g g' → (0 ≤ v ∧ v ≤ 1) → Q v g') : w_Texts_readPlan g Q := by
  unfold w_Texts_readPlan
  intro g1 e_1
  have I_2 : zk_I g1 := by rw [e_1]; exact zk_upd (L := 0) (H := 16) rfl rfl I ⟨by omega, by omega⟩
  have F_3 : zk_fr fr_Texts_readPlan g g1 := by rw [e_1]; exact zk_fu (zk_f0 _) (Or.inr (Or.inr (Or.inr (Or.inr (Or.inr (Or.inr (Or.inr ⟨rfl, rfl⟩)))))))
  refine ⟨((16 - 0 : Int).toNat + 1), k_Texts_readPlan_l7 (fun g29 I_33 F_34 => ?_) (fun g30 I_35 F_36 => ?_) (fun g31 I_37 F_38 => ?_) hQ ((16 - 0 : Int).toNat + 1) I_2 F_3 ⟨by omega, by omega⟩ (by omega)⟩
  · exact hQ _ _ I_33 F_34 ⟨by omega, by omega⟩
  · exact hQ _ _ I_35 F_36 ⟨by omega, by omega⟩
  · exact hQ _ _ I_37 F_38 ⟨by omega, by omega⟩
