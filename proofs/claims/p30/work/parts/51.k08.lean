-- by program (wip/gen/mkz.py)
-- SpoutNews$LawReader.readLaw(LSpoutNews$Tokens;LSpoutNews$Law;)Z
def fr_LawReader_readLaw (a : Nat) (i : Int) : Prop := a = 197 ∨ a = 198 ∨ a = 199 ∨ a = 200 ∨ a = 201 ∨ a = 202 ∨ a = 213 ∨ (a = 191 ∧ i = 4) ∨ (a = 191 ∧ i = 5) ∨ (a = 191 ∧ i = 6) ∨ (a = 196 ∧ i = 2) ∨ (a = 196 ∧ i = 7) ∨ (a = 212 ∧ i = 1) ∨ (a = 212 ∧ i = 2) ∨ (a = 212 ∧ i = 3)
set_option maxRecDepth 100000 in
set_option maxHeartbeats 400000 in
theorem k_LawReader_readLaw_b98 {l3 : Int} {l4 : Int} {l5 : Int} {l6 : Int} {H : Int → zi_M → Prop} {K36 : zi_M → Prop} {K67 : zi_M → Prop} {K96 : zi_M → Prop} {K108 : zi_M → Prop} {K126 : zi_M → Prop} {Q : Int → zi_M → Prop} {g : zi_M} {g0 : zi_M} (I : zk_I g) (F : zk_fr fr_LawReader_readLaw g0 g) (p3 : 0 ≤ l3 ∧ l3 ≤ 16) (p4 : 0 ≤ l4 ∧ l4 ≤ 2) (p5 : 0 ≤ l5 ∧ l5 ≤ 400) (p6 : 0 ≤ l6 ∧ l6 ≤ 400) (M : Int) (hM : 17 - l3 ≤ M) (hH : ∀ (m3 : Int) (g : zi_M), zk_I g → zk_fr fr_LawReader_readLaw g0 g → (0 ≤ m3 ∧ m3 ≤ 17) → 17 - m3 < M → H m3 g) (hK36 : ∀ (g : zi_M), zk_I g → zk_fr fr_LawReader_readLaw g0 g → K36 g) (hK67 : ∀ (g : zi_M), zk_I g → zk_fr fr_LawReader_readLaw g0 g → K67 g) (hK96 : ∀ (g : zi_M), zk_I g → zk_fr fr_LawReader_readLaw g0 g → K96 g) (hK108 : ∀ (g : zi_M), zk_I g → zk_fr fr_LawReader_readLaw g0 g → K108 g) (hK126 : ∀ (g : zi_M), zk_I g → zk_fr fr_LawReader_readLaw g0 g → K126 g) (hQ : ∀ (v : Int) (g' : zi_M), zk_I g' → zk_fr fr_LawReader_readLaw g0 g' → (0 ≤ v ∧ v ≤ 1) → Q v g') : w_LawReader_readLaw_b98 l3 l4 l5 l6 g H K36 K67 K96 K108 K126 Q := by
  unfold w_LawReader_readLaw_b98
  refine k_Tokens_take I ⟨by omega, by omega⟩ ⟨by omega, by omega⟩ (fun v22 g23 I_41 F_42 b_40 => ?_)
  have F_43 : zk_fr fr_LawReader_readLaw g0 g23 := zk_ft F F_42 (by intro a i h; unfold fr_Tokens_take at h; unfold fr_LawReader_readLaw; omega)
  refine ⟨fun c28 => ?_, fun c28 => ?_⟩
  · refine k_Law_addLine I_41 ⟨by omega, by omega⟩ ⟨by omega, by omega⟩ ⟨by omega, by omega⟩ (fun g26 I_44 F_45 => ?_)
    have F_46 : zk_fr fr_LawReader_readLaw g0 g26 := zk_ft F_43 F_45 (by intro a i h; unfold fr_Law_addLine at h; unfold fr_LawReader_readLaw; omega)
    exact hH _ _ I_44 F_46 ⟨by omega, by omega⟩ (by omega)
  · exact hK108 _ I_41 F_43
set_option maxRecDepth 100000 in
set_option maxHeartbeats 400000 in
theorem k_LawReader_readLaw_l6 {K36 : zi_M → Prop} {K67 : zi_M → Prop} {K96 : zi_M → Prop} {K108 : zi_M → Prop} {K126 : zi_M → Prop} {Q : Int → zi_M → Prop} {g0 : zi_M} (hK36 : ∀ (g : zi_M), zk_I g → zk_fr fr_LawReader_readLaw g0 g → K36 g) (hK67 : ∀ (g : zi_M), zk_I g → zk_fr fr_LawReader_readLaw g0 g → K67 g) (hK96 : ∀ (g : zi_M), zk_I g → zk_fr fr_LawReader_readLaw g0 g → K96 g) (hK108 : ∀ (g : zi_M), zk_I g → zk_fr fr_LawReader_readLaw g0 g → K108 g) (hK126 : ∀ (g : zi_M), zk_I g → zk_fr fr_LawReader_readLaw g0 g → K126 g) (hQ : ∀ (v : Int) (g' : zi_M), zk_I g' → zk_fr fr_LawReader_readLaw g0 g' → (0 ≤ v ∧ v ≤ 1) → Q v g') : ∀ (n : Nat) {l3 : Int} {g : zi_M}, zk_I g → zk_fr fr_LawReader_readLaw g0 g → (0 ≤ l3 ∧ l3 ≤ 17) → 17 - l3 < (n : Int) → w_LawReader_readLaw_l6 K36 K67 K96 K108 K126 Q n l3 g
  | 0, l3, g, I, F, b0, hm => by exfalso; omega
  | n + 1, l3, g, I, F, b0, hm => by
    unfold w_LawReader_readLaw_l6
    refine ⟨⟨by omega, by omega⟩, ?_⟩
    refine ⟨fun c42 => ?_, fun c42 => ?_⟩
    · exact hK126 _ I F
    · have m_7 : 0 ≤ (g 191 4) ∧ (g 191 4) ≤ 401 := I 191 4
      have m_8 : 0 ≤ (g 191 3) ∧ (g 191 3) ≤ 401 := I 191 3
      have m_9 : 0 ≤ (g 192 (g 191 4)) ∧ (g 192 (g 191 4)) ≤ 4 := I 192 (g 191 4)
      refine k_Tokens_isAtEnd I (fun v5 b_4 b_5 b_6 => ?_)
      refine ⟨fun c41 => ?_, fun c41 => ?_⟩
      · exact hK126 _ I F
      · have m_13 : (-1) ≤ (g 193 (g 191 4)) ∧ (g 193 (g 191 4)) ≤ 9999 := I 193 (g 191 4)
        refine k_Tokens_keyword I (fun v8 b_10 b_11 b_12 => ?_)
        refine ⟨⟨by omega, by omega⟩, ?_⟩
        refine ⟨fun c40 => ?_, fun c40 => ?_⟩
        · exact hK36 _ I F
        · refine ⟨fun c39 => ?_, fun c39 => ?_⟩
          · refine k_Tokens_takeLineStart I ⟨by omega, by omega⟩ (by omega) (fun v12 g13 I_15 F_16 b_14 => ?_)
            have F_17 : zk_fr fr_LawReader_readLaw g0 g13 := zk_ft F F_16 (by intro a i h; unfold fr_Tokens_takeLineStart at h; unfold fr_LawReader_readLaw; omega)
            refine ⟨fun c38 => ?_, fun c38 => ?_⟩
            · exact hK67 _ I_15 F_17
            · refine k_LawReader_sum I_15 (fun v15 g16 I_19 F_20 b_18 => ?_)
              have F_21 : zk_fr fr_LawReader_readLaw g0 g16 := zk_ft F_17 F_20 (by intro a i h; unfold fr_LawReader_sum at h; unfold fr_LawReader_readLaw; omega)
              refine ⟨fun c37 => ?_, fun c37 => ?_⟩
              · have m_25 : 0 ≤ (g16 191 4) ∧ (g16 191 4) ≤ 401 := I_19 191 4
                have m_26 : 0 ≤ (g16 191 3) ∧ (g16 191 3) ≤ 401 := I_19 191 3
                have m_27 : g16 191 3 = g13 191 3 := F_20 _ _ (by unfold fr_LawReader_sum; omega)
                have m_28 : 0 ≤ (g13 191 3) ∧ (g13 191 3) ≤ 401 := I_15 191 3
                have m_29 : g13 191 3 = g 191 3 := F_16 _ _ (by unfold fr_Tokens_takeLineStart; omega)
                have m_30 : 0 ≤ (g16 192 (g16 191 4)) ∧ (g16 192 (g16 191 4)) ≤ 4 := I_19 192 (g16 191 4)
                have m_31 : g16 192 (g16 191 4) = g13 192 (g16 191 4) := F_20 _ _ (by unfold fr_LawReader_sum; omega)
                have m_32 : 0 ≤ (g13 192 (g16 191 4)) ∧ (g13 192 (g16 191 4)) ≤ 4 := I_15 192 (g16 191 4)
                have m_33 : g13 192 (g16 191 4) = g 192 (g16 191 4) := F_16 _ _ (by unfold fr_Tokens_takeLineStart; omega)
                have m_34 : 0 ≤ (g 192 (g16 191 4)) ∧ (g 192 (g16 191 4)) ≤ 4 := I 192 (g16 191 4)
                have m_35 : (-1) ≤ (g16 193 (g16 191 4)) ∧ (g16 193 (g16 191 4)) ≤ 9999 := I_19 193 (g16 191 4)
                have m_36 : g16 193 (g16 191 4) = g13 193 (g16 191 4) := F_20 _ _ (by unfold fr_LawReader_sum; omega)
                have m_37 : (-1) ≤ (g13 193 (g16 191 4)) ∧ (g13 193 (g16 191 4)) ≤ 9999 := I_15 193 (g16 191 4)
                have m_38 : g13 193 (g16 191 4) = g 193 (g16 191 4) := F_16 _ _ (by unfold fr_Tokens_takeLineStart; omega)
                have m_39 : (-1) ≤ (g 193 (g16 191 4)) ∧ (g 193 (g16 191 4)) ≤ 9999 := I 193 (g16 191 4)
                refine k_Tokens_keyword I_19 (fun v18 b_22 b_23 b_24 => ?_)
                refine ⟨⟨by omega, by omega⟩, ?_⟩
                refine ⟨fun c36 => ?_, fun c36 => ?_⟩
                · have m_47 : 0 ≤ (g 196 2) ∧ (g 196 2) ≤ 400 := I 196 2
                  have m_48 : 0 ≤ (g16 196 2) ∧ (g16 196 2) ≤ 400 := I_19 196 2
                  exact k_LawReader_readLaw_b98 I_19 F_21 ⟨by omega, by omega⟩ ⟨by omega, by omega⟩ ⟨by omega, by omega⟩ ⟨by omega, by omega⟩ (n : Int) (by omega) (fun _ _ I F b0 hm => k_LawReader_readLaw_l6 hK36 hK67 hK96 hK108 hK126 hQ n I F b0 hm) hK36 hK67 hK96 hK108 hK126 hQ
                · refine k_Tokens_step I_19 (fun g30 I_49 F_50 => ?_)
                  have F_51 : zk_fr fr_LawReader_readLaw g0 g30 := zk_ft F_21 F_50 (by intro a i h; unfold fr_Tokens_step at h; unfold fr_LawReader_readLaw; omega)
                  refine k_LawReader_conditions I_49 (fun v32 g33 I_53 F_54 b_52 => ?_)
                  have F_55 : zk_fr fr_LawReader_readLaw g0 g33 := zk_ft F_51 F_54 (by intro a i h; unfold fr_LawReader_conditions at h; unfold fr_LawReader_readLaw; omega)
                  refine ⟨fun c35 => ?_, fun c35 => ?_⟩
                  · have m_56 : 0 ≤ (g 196 2) ∧ (g 196 2) ≤ 400 := I 196 2
                    have m_57 : 0 ≤ (g16 196 2) ∧ (g16 196 2) ≤ 400 := I_19 196 2
                    exact k_LawReader_readLaw_b98 I_53 F_55 ⟨by omega, by omega⟩ ⟨by omega, by omega⟩ ⟨by omega, by omega⟩ ⟨by omega, by omega⟩ (n : Int) (by omega) (fun _ _ I F b0 hm => k_LawReader_readLaw_l6 hK36 hK67 hK96 hK108 hK126 hQ n I F b0 hm) hK36 hK67 hK96 hK108 hK126 hQ
                  · exact hK96 _ I_53 F_55
              · exact hK67 _ I_19 F_21
          · exact hK36 _ I F
set_option maxRecDepth 100000 in
set_option maxHeartbeats 400000 in
theorem k_LawReader_readLaw {g : zi_M} {Q : Int → zi_M → Prop} (I : zk_I g) (hQ : ∀ (v : Int) (g' : zi_M), zk_I g' → zk_fr fr_LawReader_readLaw g g' → (0 ≤ v ∧ v ≤ 1) → Q v g') : w_LawReader_readLaw g Q := by
  unfold w_LawReader_readLaw
  refine k_Law_clear I (fun g2 I_1 F_2 => ?_)
  have F_3 : zk_fr fr_LawReader_readLaw g g2 := zk_ft (zk_f0 _) F_2 (by intro a i h; unfold fr_Law_clear at h; unfold fr_LawReader_readLaw; omega)
  refine ⟨((17 - 0).toNat + 1), k_LawReader_readLaw_l6 (fun g43 I_58 F_59 => ?_) (fun g47 I_64 F_65 => ?_) (fun g48 I_66 F_67 => ?_) (fun g49 I_68 F_69 => ?_) (fun g50 I_70 F_71 => ?_) hQ ((17 - 0).toNat + 1) I_1 F_3 ⟨by omega, by omega⟩ (by omega)⟩
  · refine k_Tokens_refuse I_58 ⟨by omega, by omega⟩ (fun v44 g45 I_61 F_62 b_60 => ?_)
    have F_63 : zk_fr fr_LawReader_readLaw g g45 := zk_ft F_59 F_62 (by intro a i h; unfold fr_Tokens_refuse at h; unfold fr_LawReader_readLaw; omega)
    exact hQ _ _ I_61 F_63 ⟨by omega, by omega⟩
  · exact hQ _ _ I_64 F_65 ⟨by omega, by omega⟩
  · exact hQ _ _ I_66 F_67 ⟨by omega, by omega⟩
  · exact hQ _ _ I_68 F_69 ⟨by omega, by omega⟩
  · exact hQ _ _ I_70 F_71 ⟨by omega, by omega⟩
-- SpoutNews$Law.copyFrom(LSpoutNews$Law;)V
def fr_Law_copyFrom (r0 : Nat) (r1 : Nat) (a : Nat) (i : Int) : Prop := a = r0 + 1 ∨ a = r0 + 2 ∨ a = r0 + 3 ∨ a = r0 + 4 ∨ a = r0 + 5 ∨ a = r0 + 6 ∨ (a = r0 ∧ i = 2) ∨ (a = r0 ∧ i = 7)
set_option maxRecDepth 100000 in
set_option maxHeartbeats 400000 in
theorem k_Law_copyFrom {r0 : Nat} (hr0 : zs_sh r0 = some (3, 10)) {r1 : Nat} (hr1 : zs_sh r1 = some (3, 10)) {g : zi_M} {Q : Int → zi_M → Prop} (I : zk_I g) (hQ : ∀ g' : zi_M, zk_I g' → zk_fr (fr_Law_copyFrom r0 r1) g g' → Q 0 g') : w_Law_copyFrom r0 r1 g Q := by
  sorry
-- SpoutNews$Tokens.takeBelow(I)I
def fr_Tokens_takeBelow (a : Nat) (i : Int) : Prop := (a = 191 ∧ i = 4) ∨ (a = 191 ∧ i = 5) ∨ (a = 191 ∧ i = 6)
set_option maxRecDepth 100000 in
set_option maxHeartbeats 400000 in
theorem k_Tokens_takeBelow {l1 : Int} {g : zi_M} {Q : Int → zi_M → Prop} (I : zk_I g) (p1 : 0 ≤ l1 ∧ l1 ≤ 1000) (hQ : ∀ (v : Int) (g' : zi_M), zk_I g' → zk_fr fr_Tokens_takeBelow g g' → ((-1) ≤ v ∧ v ≤ 999) → Q v g') : w_Tokens_takeBelow l1 g Q := by
  unfold w_Tokens_takeBelow
  have m_4 : 0 ≤ (g 191 4) ∧ (g 191 4) ≤ 401 := I 191 4
  have m_5 : 0 ≤ (g 191 3) ∧ (g 191 3) ≤ 401 := I 191 3
  have m_6 : 0 ≤ (g 192 (g 191 4)) ∧ (g 192 (g 191 4)) ≤ 4 := I 192 (g 191 4)
  have m_7 : (-1) ≤ (g 193 (g 191 4)) ∧ (g 193 (g 191 4)) ≤ 9999 := I 193 (g 191 4)
  refine k_Tokens_number I (fun v1 b_1 b_2 b_3 => ?_)
  refine ⟨⟨by omega, by omega⟩, ?_⟩
  refine ⟨fun c16 => ?_, fun c16 => ?_⟩
  · refine ⟨⟨by omega, by omega⟩, ?_⟩
    refine ⟨fun c12 => ?_, fun c12 => ?_⟩
    · refine k_Tokens_step I (fun g7 I_8 F_9 => ?_)
      have F_10 : zk_fr fr_Tokens_takeBelow g g7 := zk_ft (zk_f0 _) F_9 (by intro a i h; unfold fr_Tokens_step at h; unfold fr_Tokens_takeBelow; omega)
      exact hQ _ _ I_8 F_10 ⟨by omega, by omega⟩
    · refine k_Tokens_refuse I ⟨by omega, by omega⟩ (fun v9 g10 I_12 F_13 b_11 => ?_)
      have F_14 : zk_fr fr_Tokens_takeBelow g g10 := zk_ft (zk_f0 _) F_13 (by intro a i h; unfold fr_Tokens_refuse at h; unfold fr_Tokens_takeBelow; omega)
      exact hQ _ _ I_12 F_14 ⟨by omega, by omega⟩
  · refine k_Tokens_refuse I ⟨by omega, by omega⟩ (fun v13 g14 I_16 F_17 b_15 => ?_)
    have F_18 : zk_fr fr_Tokens_takeBelow g g14 := zk_ft (zk_f0 _) F_17 (by intro a i h; unfold fr_Tokens_refuse at h; unfold fr_Tokens_takeBelow; omega)
    exact hQ _ _ I_16 F_18 ⟨by omega, by omega⟩
-- SpoutNews$Texts.readGutters(LSpoutNews$Tokens;LSpoutNews$World;)Z
def fr_Texts_readGutters (a : Nat) (i : Int) : Prop := a = 205 ∨ (a = 191 ∧ i = 4) ∨ (a = 191 ∧ i = 5) ∨ (a = 191 ∧ i = 6) ∨ (a = 195 ∧ i = 2)
set_option maxRecDepth 100000 in
set_option maxHeartbeats 400000 in
theorem k_Texts_readGutters_l15 {K37 : zi_M → Prop} {K64 : zi_M → Prop} {K75 : zi_M → Prop} {K107 : zi_M → Prop} {K131 : zi_M → Prop} {Q : Int → zi_M → Prop} {g0 : zi_M} (hK37 : ∀ (g : zi_M), zk_I g → zk_fr fr_Texts_readGutters g0 g → K37 g) (hK64 : ∀ (g : zi_M), zk_I g → zk_fr fr_Texts_readGutters g0 g → K64 g) (hK75 : ∀ (g : zi_M), zk_I g → zk_fr fr_Texts_readGutters g0 g → K75 g) (hK107 : ∀ (g : zi_M), zk_I g → zk_fr fr_Texts_readGutters g0 g → K107 g) (hK131 : ∀ (g : zi_M), zk_I g → zk_fr fr_Texts_readGutters g0 g → K131 g) (hQ : ∀ (v : Int) (g' : zi_M), zk_I g' → zk_fr fr_Texts_readGutters g0 g' → (0 ≤ v ∧ v ≤ 1) → Q v g') : ∀ (n : Nat) {l3 : Int} {g : zi_M}, zk_I g → zk_fr fr_Texts_readGutters g0 g → (0 ≤ l3 ∧ l3 ≤ 17) → 17 - l3 < (n : Int) → w_Texts_readGutters_l15 K37 K64 K75 K107 K131 Q n l3 g
  | 0, l3, g, I, F, b0, hm => by exfalso; omega
  | n + 1, l3, g, I, F, b0, hm => by
    unfold w_Texts_readGutters_l15
    refine ⟨⟨by omega, by omega⟩, ?_⟩
    refine ⟨fun c38 => ?_, fun c38 => ?_⟩
    · exact hK131 _ I F
    · have m_10 : 0 ≤ (g 191 4) ∧ (g 191 4) ≤ 401 := I 191 4
      have m_11 : 0 ≤ (g 191 3) ∧ (g 191 3) ≤ 401 := I 191 3
      have m_12 : 0 ≤ (g 192 (g 191 4)) ∧ (g 192 (g 191 4)) ≤ 4 := I 192 (g 191 4)
      refine k_Tokens_isAtEnd I (fun v4 b_7 b_8 b_9 => ?_)
      refine ⟨fun c37 => ?_, fun c37 => ?_⟩
      · exact hK131 _ I F
      · refine k_Tokens_takeLineStart I ⟨by omega, by omega⟩ (by omega) (fun v7 g8 I_14 F_15 b_13 => ?_)
        have F_16 : zk_fr fr_Texts_readGutters g0 g8 := zk_ft F F_15 (by intro a i h; unfold fr_Tokens_takeLineStart at h; unfold fr_Texts_readGutters; omega)
        refine ⟨fun c36 => ?_, fun c36 => ?_⟩
        · have m_17 : 0 ≤ (g8 2 8) ∧ (g8 2 8) ≤ 10 := I_14 2 8
          have m_18 : g8 2 8 = g 2 8 := F_15 _ _ (by unfold fr_Tokens_takeLineStart; omega)
          have m_19 : 0 ≤ (g 2 8) ∧ (g 2 8) ≤ 10 := I 2 8
          refine k_Tokens_takeBelow I_14 ⟨by omega, by omega⟩ (fun v10 g11 I_21 F_22 b_20 => ?_)
          have F_23 : zk_fr fr_Texts_readGutters g0 g11 := zk_ft F_16 F_22 (by intro a i h; unfold fr_Tokens_takeBelow at h; unfold fr_Texts_readGutters; omega)
          refine ⟨⟨by omega, by omega⟩, ?_⟩
          refine ⟨fun c35 => ?_, fun c35 => ?_⟩
          · exact hK64 _ I_21 F_23
          · refine k_Tokens_take I_21 ⟨by omega, by omega⟩ ⟨by omega, by omega⟩ (fun v14 g15 I_25 F_26 b_24 => ?_)
            have F_27 : zk_fr fr_Texts_readGutters g0 g15 := zk_ft F_23 F_26 (by intro a i h; unfold fr_Tokens_take at h; unfold fr_Texts_readGutters; omega)
            refine ⟨fun c34 => ?_, fun c34 => ?_⟩
            · have m_31 : 0 ≤ (g15 191 4) ∧ (g15 191 4) ≤ 401 := I_25 191 4
              have m_32 : 0 ≤ (g15 191 3) ∧ (g15 191 3) ≤ 401 := I_25 191 3
              have m_33 : g15 191 3 = g11 191 3 := F_26 _ _ (by unfold fr_Tokens_take; omega)
              have m_34 : 0 ≤ (g11 191 3) ∧ (g11 191 3) ≤ 401 := I_21 191 3
              have m_35 : g11 191 3 = g8 191 3 := F_22 _ _ (by unfold fr_Tokens_takeBelow; omega)
              have m_36 : 0 ≤ (g8 191 3) ∧ (g8 191 3) ≤ 401 := I_14 191 3
              have m_37 : g8 191 3 = g 191 3 := F_15 _ _ (by unfold fr_Tokens_takeLineStart; omega)
              have m_38 : 0 ≤ (g15 192 (g15 191 4)) ∧ (g15 192 (g15 191 4)) ≤ 4 := I_25 192 (g15 191 4)
              have m_39 : g15 192 (g15 191 4) = g11 192 (g15 191 4) := F_26 _ _ (by unfold fr_Tokens_take; omega)
              have m_40 : 0 ≤ (g11 192 (g15 191 4)) ∧ (g11 192 (g15 191 4)) ≤ 4 := I_21 192 (g15 191 4)
              have m_41 : g11 192 (g15 191 4) = g8 192 (g15 191 4) := F_22 _ _ (by unfold fr_Tokens_takeBelow; omega)
              have m_42 : 0 ≤ (g8 192 (g15 191 4)) ∧ (g8 192 (g15 191 4)) ≤ 4 := I_14 192 (g15 191 4)
              have m_43 : g8 192 (g15 191 4) = g 192 (g15 191 4) := F_15 _ _ (by unfold fr_Tokens_takeLineStart; omega)
              have m_44 : 0 ≤ (g 192 (g15 191 4)) ∧ (g 192 (g15 191 4)) ≤ 4 := I 192 (g15 191 4)
              have m_45 : (-1) ≤ (g15 193 (g15 191 4)) ∧ (g15 193 (g15 191 4)) ≤ 9999 := I_25 193 (g15 191 4)
              have m_46 : g15 193 (g15 191 4) = g11 193 (g15 191 4) := F_26 _ _ (by unfold fr_Tokens_take; omega)
              have m_47 : (-1) ≤ (g11 193 (g15 191 4)) ∧ (g11 193 (g15 191 4)) ≤ 9999 := I_21 193 (g15 191 4)
              have m_48 : g11 193 (g15 191 4) = g8 193 (g15 191 4) := F_22 _ _ (by unfold fr_Tokens_takeBelow; omega)
              have m_49 : (-1) ≤ (g8 193 (g15 191 4)) ∧ (g8 193 (g15 191 4)) ≤ 9999 := I_14 193 (g15 191 4)
              have m_50 : g8 193 (g15 191 4) = g 193 (g15 191 4) := F_15 _ _ (by unfold fr_Tokens_takeLineStart; omega)
              have m_51 : (-1) ≤ (g 193 (g15 191 4)) ∧ (g 193 (g15 191 4)) ≤ 9999 := I 193 (g15 191 4)
              refine k_Tokens_number I_25 (fun v17 b_28 b_29 b_30 => ?_)
              refine ⟨⟨by omega, by omega⟩, ?_⟩
              refine ⟨fun c33 => ?_, fun c33 => ?_⟩
              · have m_52 : 0 ≤ (g15 2 8) ∧ (g15 2 8) ≤ 10 := I_25 2 8
                have m_53 : g15 2 8 = g11 2 8 := F_26 _ _ (by unfold fr_Tokens_take; omega)
                have m_54 : 0 ≤ (g11 2 8) ∧ (g11 2 8) ≤ 10 := I_21 2 8
                have m_55 : g11 2 8 = g8 2 8 := F_22 _ _ (by unfold fr_Tokens_takeBelow; omega)
                refine k_Tokens_takeBelow I_25 ⟨by omega, by omega⟩ (fun v21 g22 I_57 F_58 b_56 => ?_)
                have F_59 : zk_fr fr_Texts_readGutters g0 g22 := zk_ft F_27 F_58 (by intro a i h; unfold fr_Tokens_takeBelow at h; unfold fr_Texts_readGutters; omega)
                refine ⟨⟨by omega, by omega⟩, ?_⟩
                refine ⟨fun c32 => ?_, fun c32 => ?_⟩
                · exact hK107 _ I_57 F_59
                · refine k_Tokens_take I_57 ⟨by omega, by omega⟩ ⟨by omega, by omega⟩ (fun v25 g26 I_61 F_62 b_60 => ?_)
                  have F_63 : zk_fr fr_Texts_readGutters g0 g26 := zk_ft F_59 F_62 (by intro a i h; unfold fr_Tokens_take at h; unfold fr_Texts_readGutters; omega)
                  refine ⟨fun c31 => ?_, fun c31 => ?_⟩
                  · refine ⟨⟨by omega, by omega⟩, ?_⟩
                    intro g29 e_64
                    have I_65 : zk_I g29 := by rw [e_64]; exact zk_upd (L := (-1)) (H := 9) rfl rfl I_61 ⟨by omega, by omega⟩
                    have F_66 : zk_fr fr_Texts_readGutters g0 g29 := by rw [e_64]; exact zk_fu F_63 (by unfold fr_Texts_readGutters; omega)
                    intro g30 e_67
                    have I_68 : zk_I g30 := by rw [e_67]; exact zk_upd (L := 0) (H := 17) rfl rfl I_65 ⟨by omega, by omega⟩
                    have F_69 : zk_fr fr_Texts_readGutters g0 g30 := by rw [e_67]; exact zk_fu F_66 (by unfold fr_Texts_readGutters; omega)
                    exact k_Texts_readGutters_l15 hK37 hK64 hK75 hK107 hK131 hQ n I_68 F_69 ⟨by omega, by omega⟩ (by omega)
                  · exact hK107 _ I_61 F_63
              · exact hK75 _ I_25 F_27
            · exact hK64 _ I_25 F_27
        · exact hK37 _ I_14 F_16
set_option maxRecDepth 100000 in
set_option maxHeartbeats 400000 in
theorem k_Texts_readGutters {g : zi_M} {Q : Int → zi_M → Prop} (I : zk_I g) (hQ : ∀ (v : Int) (g' : zi_M), zk_I g' → zk_fr fr_Texts_readGutters g g' → (0 ≤ v ∧ v ≤ 1) → Q v g') : w_Texts_readGutters g Q := by
  unfold w_Texts_readGutters
  intro g1 e_1
  have I_2 : zk_I g1 := by rw [e_1]; exact zk_fill (L := (-1)) (H := 9) (fun _ => rfl) (fun _ => rfl) I ⟨by omega, by omega⟩
  have F_3 : zk_fr fr_Texts_readGutters g g1 := by rw [e_1]; exact zk_ff (zk_f0 _) (fun i => by unfold fr_Texts_readGutters; omega)
  intro g2 e_4
  have I_5 : zk_I g2 := by rw [e_4]; exact zk_upd (L := 0) (H := 17) rfl rfl I_2 ⟨by omega, by omega⟩
  have F_6 : zk_fr fr_Texts_readGutters g g2 := by rw [e_4]; exact zk_fu F_3 (by unfold fr_Texts_readGutters; omega)
  refine ⟨((17 - 0).toNat + 1), k_Texts_readGutters_l15 (fun g39 I_70 F_71 => ?_) (fun g40 I_72 F_73 => ?_) (fun g41 I_74 F_75 => ?_) (fun g45 I_80 F_81 => ?_) (fun g46 I_82 F_83 => ?_) hQ ((17 - 0).toNat + 1) I_5 F_6 ⟨by omega, by omega⟩ (by omega)⟩
  · exact hQ _ _ I_70 F_71 ⟨by omega, by omega⟩
  · exact hQ _ _ I_72 F_73 ⟨by omega, by omega⟩
  · refine k_Tokens_refuse I_74 ⟨by omega, by omega⟩ (fun v42 g43 I_77 F_78 b_76 => ?_)
    have F_79 : zk_fr fr_Texts_readGutters g g43 := zk_ft F_75 F_78 (by intro a i h; unfold fr_Tokens_refuse at h; unfold fr_Texts_readGutters; omega)
    exact hQ _ _ I_77 F_79 ⟨by omega, by omega⟩
  · exact hQ _ _ I_80 F_81 ⟨by omega, by omega⟩
  · exact hQ _ _ I_82 F_83 ⟨by omega, by omega⟩
-- SpoutNews$Texts.copyGutters(LSpoutNews$Texts;)V
def fr_Texts_copyGutters (r0 : Nat) (r1 : Nat) (a : Nat) (i : Int) : Prop := a = r0 + 10 ∨ (a = r0 ∧ i = 2)
set_option maxRecDepth 100000 in
set_option maxHeartbeats 400000 in
theorem k_Texts_copyGutters {r0 : Nat} (hr0 : zs_sh r0 = some (6, 11)) {r1 : Nat} (hr1 : zs_sh r1 = some (6, 11)) {g : zi_M} {Q : Int → zi_M → Prop} (I : zk_I g) (hQ : ∀ g' : zi_M, zk_I g' → zk_fr (fr_Texts_copyGutters r0 r1) g g' → Q 0 g') : w_Texts_copyGutters r0 r1 g Q := by
  sorry
-- SpoutNews$Texts.readWeather(LSpoutNews$Tokens;)Z
def fr_Texts_readWeather (a : Nat) (i : Int) : Prop := a = 206 ∨ a = 207 ∨ (a = 191 ∧ i = 4) ∨ (a = 191 ∧ i = 5) ∨ (a = 191 ∧ i = 6) ∨ (a = 195 ∧ i = 5)
set_option maxRecDepth 100000 in
set_option maxHeartbeats 400000 in
theorem k_Texts_readWeather_l7 {K29 : zi_M → Prop} {K53 : zi_M → Prop} {K85 : zi_M → Prop} {K115 : zi_M → Prop} {Q : Int → zi_M → Prop} {g0 : zi_M} (hK29 : ∀ (g : zi_M), zk_I g → zk_fr fr_Texts_readWeather g0 g → K29 g) (hK53 : ∀ (g : zi_M), zk_I g → zk_fr fr_Texts_readWeather g0 g → K53 g) (hK85 : ∀ (g : zi_M), zk_I g → zk_fr fr_Texts_readWeather g0 g → K85 g) (hK115 : ∀ (g : zi_M), zk_I g → zk_fr fr_Texts_readWeather g0 g → K115 g) (hQ : ∀ (v : Int) (g' : zi_M), zk_I g' → zk_fr fr_Texts_readWeather g0 g' → (0 ≤ v ∧ v ≤ 1) → Q v g') : ∀ (n : Nat) {l2 : Int} {g : zi_M}, zk_I g → zk_fr fr_Texts_readWeather g0 g → (0 ≤ l2 ∧ l2 ≤ 16) → 16 - l2 < (n : Int) → w_Texts_readWeather_l7 K29 K53 K85 K115 Q n l2 g
  | 0, l2, g, I, F, b0, hm => by exfalso; omega
  | n + 1, l2, g, I, F, b0, hm => by
    unfold w_Texts_readWeather_l7
    refine ⟨⟨by omega, by omega⟩, ?_⟩
    refine ⟨fun c34 => ?_, fun c34 => ?_⟩
    · exact hK115 _ I F
    · have m_7 : 0 ≤ (g 191 4) ∧ (g 191 4) ≤ 401 := I 191 4
      have m_8 : 0 ≤ (g 191 3) ∧ (g 191 3) ≤ 401 := I 191 3
      have m_9 : 0 ≤ (g 192 (g 191 4)) ∧ (g 192 (g 191 4)) ≤ 4 := I 192 (g 191 4)
      refine k_Tokens_isAtEnd I (fun v3 b_4 b_5 b_6 => ?_)
      refine ⟨fun c33 => ?_, fun c33 => ?_⟩
      · exact hK115 _ I F
      · refine k_Tokens_takeLineStart I ⟨by omega, by omega⟩ (by omega) (fun v6 g7 I_11 F_12 b_10 => ?_)
        have F_13 : zk_fr fr_Texts_readWeather g0 g7 := zk_ft F F_12 (by intro a i h; unfold fr_Tokens_takeLineStart at h; unfold fr_Texts_readWeather; omega)
        refine ⟨fun c32 => ?_, fun c32 => ?_⟩
        · refine k_Tokens_takeBelow I_11 ⟨by omega, by omega⟩ (fun v9 g10 I_15 F_16 b_14 => ?_)
          have F_17 : zk_fr fr_Texts_readWeather g0 g10 := zk_ft F_13 F_16 (by intro a i h; unfold fr_Tokens_takeBelow at h; unfold fr_Texts_readWeather; omega)
          refine ⟨⟨by omega, by omega⟩, ?_⟩
          refine ⟨fun c31 => ?_, fun c31 => ?_⟩
          · exact hK53 _ I_15 F_17
          · refine k_Tokens_take I_15 ⟨by omega, by omega⟩ ⟨by omega, by omega⟩ (fun v13 g14 I_19 F_20 b_18 => ?_)
            have F_21 : zk_fr fr_Texts_readWeather g0 g14 := zk_ft F_17 F_20 (by intro a i h; unfold fr_Tokens_take at h; unfold fr_Texts_readWeather; omega)
            refine ⟨fun c30 => ?_, fun c30 => ?_⟩
            · refine k_Tokens_takeBelow I_19 ⟨by omega, by omega⟩ (fun v16 g17 I_23 F_24 b_22 => ?_)
              have F_25 : zk_fr fr_Texts_readWeather g0 g17 := zk_ft F_21 F_24 (by intro a i h; unfold fr_Tokens_takeBelow at h; unfold fr_Texts_readWeather; omega)
              refine ⟨⟨by omega, by omega⟩, ?_⟩
              refine ⟨fun c29 => ?_, fun c29 => ?_⟩
              · exact hK85 _ I_23 F_25
              · refine k_Tokens_take I_23 ⟨by omega, by omega⟩ ⟨by omega, by omega⟩ (fun v20 g21 I_27 F_28 b_26 => ?_)
                have F_29 : zk_fr fr_Texts_readWeather g0 g21 := zk_ft F_25 F_28 (by intro a i h; unfold fr_Tokens_take at h; unfold fr_Texts_readWeather; omega)
                refine ⟨fun c28 => ?_, fun c28 => ?_⟩
                · exact hK85 _ I_27 F_29
                · refine ⟨fun c27 => ?_, fun c27 => ?_⟩
                  · refine ⟨⟨by omega, by omega⟩, ?_⟩
                    intro g24 e_30
                    have I_31 : zk_I g24 := by rw [e_30]; exact zk_upd (L := (-2147483648)) (H := 2147483647) rfl rfl I_27 ⟨by omega, by omega⟩
                    have F_32 : zk_fr fr_Texts_readWeather g0 g24 := by rw [e_30]; exact zk_fu F_29 (by unfold fr_Texts_readWeather; omega)
                    intro g25 e_33
                    have I_34 : zk_I g25 := by rw [e_33]; exact zk_upd (L := 0) (H := 9) rfl rfl I_31 ⟨by omega, by omega⟩
                    have F_35 : zk_fr fr_Texts_readWeather g0 g25 := by rw [e_33]; exact zk_fu F_32 (by unfold fr_Texts_readWeather; omega)
                    intro g26 e_36
                    have I_37 : zk_I g26 := by rw [e_36]; exact zk_upd (L := 0) (H := 16) rfl rfl I_34 ⟨by omega, by omega⟩
                    have F_38 : zk_fr fr_Texts_readWeather g0 g26 := by rw [e_36]; exact zk_fu F_35 (by unfold fr_Texts_readWeather; omega)
                    exact k_Texts_readWeather_l7 hK29 hK53 hK85 hK115 hQ n I_37 F_38 ⟨by omega, by omega⟩ (by omega)
                  · exact hK85 _ I_27 F_29
            · exact hK53 _ I_19 F_21
        · exact hK29 _ I_11 F_13
set_option maxRecDepth 100000 in
set_option maxHeartbeats 400000 in
theorem k_Texts_readWeather {g : zi_M} {Q : Int → zi_M → Prop} (I : zk_I g) (hQ : ∀ (v : Int) (g' : zi_M), zk_I g' → zk_fr fr_Texts_readWeather g g' → (0 ≤ v ∧ v ≤ 1) → Q v g') : w_Texts_readWeather g Q := by
  unfold w_Texts_readWeather
  intro g1 e_1
  have I_2 : zk_I g1 := by rw [e_1]; exact zk_upd (L := 0) (H := 16) rfl rfl I ⟨by omega, by omega⟩
  have F_3 : zk_fr fr_Texts_readWeather g g1 := by rw [e_1]; exact zk_fu (zk_f0 _) (by unfold fr_Texts_readWeather; omega)
  refine ⟨((16 - 0).toNat + 1), k_Texts_readWeather_l7 (fun g35 I_39 F_40 => ?_) (fun g36 I_41 F_42 => ?_) (fun g37 I_43 F_44 => ?_) (fun g38 I_45 F_46 => ?_) hQ ((16 - 0).toNat + 1) I_2 F_3 ⟨by omega, by omega⟩ (by omega)⟩
  · exact hQ _ _ I_39 F_40 ⟨by omega, by omega⟩
  · exact hQ _ _ I_41 F_42 ⟨by omega, by omega⟩
  · exact hQ _ _ I_43 F_44 ⟨by omega, by omega⟩
  · exact hQ _ _ I_45 F_46 ⟨by omega, by omega⟩
-- SpoutNews$Texts.copyWeather(LSpoutNews$Texts;)V
def fr_Texts_copyWeather (r0 : Nat) (r1 : Nat) (a : Nat) (i : Int) : Prop := a = r0 + 11 ∨ a = r0 + 12 ∨ (a = r0 ∧ i = 5)
set_option maxRecDepth 100000 in
set_option maxHeartbeats 400000 in
theorem k_Texts_copyWeather {r0 : Nat} (hr0 : zs_sh r0 = some (6, 11)) {r1 : Nat} (hr1 : zs_sh r1 = some (6, 11)) {g : zi_M} {Q : Int → zi_M → Prop} (I : zk_I g) (hQ : ∀ g' : zi_M, zk_I g' → zk_fr (fr_Texts_copyWeather r0 r1) g g' → Q 0 g') : w_Texts_copyWeather r0 r1 g Q := by
  sorry
-- SpoutNews$Texts.readDeed(LSpoutNews$Tokens;LSpoutNews$World;I)Z
def fr_Texts_readDeed (a : Nat) (i : Int) : Prop := a = 209 ∨ a = 210 ∨ a = 211 ∨ (a = 191 ∧ i = 4) ∨ (a = 191 ∧ i = 5) ∨ (a = 191 ∧ i = 6)
set_option maxRecDepth 100000 in
set_option maxHeartbeats 400000 in
theorem k_Texts_readDeed_b92 {l3 : Int} {l4 : Int} {l5 : Int} {l6 : Int} {Q : Int → zi_M → Prop} {g : zi_M} {g0 : zi_M} (I : zk_I g) (F : zk_fr fr_Texts_readDeed g0 g) (p3 : 0 ≤ l3) (p4 : 0 ≤ l4 ∧ l4 ≤ 6) (p5 : 0 ≤ l5 ∧ l5 ≤ 999) (p6 : (-1) ≤ l6 ∧ l6 ≤ 999) (hQ : ∀ (v : Int) (g' : zi_M), zk_I g' → zk_fr fr_Texts_readDeed g0 g' → (0 ≤ v ∧ v ≤ 1) → Q v g') : w_Texts_readDeed_b92 l3 l4 l5 l6 g Q := by
  unfold w_Texts_readDeed_b92
  refine ⟨⟨by omega, by omega⟩, ?_⟩
  intro g23 e_34
  have I_35 : zk_I g23 := by rw [e_34]; exact zk_upd (L := (-2147483648)) (H := 2147483647) rfl rfl I ⟨by omega, by omega⟩
  have F_36 : zk_fr fr_Texts_readDeed g0 g23 := by rw [e_34]; exact zk_fu F (by unfold fr_Texts_readDeed; omega)
  intro g24 e_37
  have I_38 : zk_I g24 := by rw [e_37]; exact zk_upd (L := (-2147483648)) (H := 2147483647) rfl rfl I_35 ⟨by omega, by omega⟩
  have F_39 : zk_fr fr_Texts_readDeed g0 g24 := by rw [e_37]; exact zk_fu F_36 (by unfold fr_Texts_readDeed; omega)
  intro g25 e_40
  have I_41 : zk_I g25 := by rw [e_40]; exact zk_upd (L := (-2147483648)) (H := 2147483647) rfl rfl I_38 ⟨by omega, by omega⟩
  have F_42 : zk_fr fr_Texts_readDeed g0 g25 := by rw [e_40]; exact zk_fu F_39 (by unfold fr_Texts_readDeed; omega)
  refine ⟨⟨by omega, by omega⟩, ?_⟩
  refine ⟨fun c27 => ?_, fun c27 => ?_⟩
  · exact hQ _ _ I_41 F_42 ⟨by omega, by omega⟩
  · exact hQ _ _ I_41 F_42 ⟨by omega, by omega⟩
set_option maxRecDepth 100000 in
set_option maxHeartbeats 400000 in
theorem k_Texts_readDeed {l3 : Int} {g : zi_M} {Q : Int → zi_M → Prop} (I : zk_I g) (p3 : 0 ≤ l3) (hQ : ∀ (v : Int) (g' : zi_M), zk_I g' → zk_fr fr_Texts_readDeed g g' → (0 ≤ v ∧ v ≤ 1) → Q v g') : w_Texts_readDeed l3 g Q := by
  unfold w_Texts_readDeed
  have m_4 : 0 ≤ (g 191 4) ∧ (g 191 4) ≤ 401 := I 191 4
  have m_5 : 0 ≤ (g 191 3) ∧ (g 191 3) ≤ 401 := I 191 3
  have m_6 : 0 ≤ (g 192 (g 191 4)) ∧ (g 192 (g 191 4)) ≤ 4 := I 192 (g 191 4)
  have m_7 : (-1) ≤ (g 193 (g 191 4)) ∧ (g 193 (g 191 4)) ≤ 9999 := I 193 (g 191 4)
  refine k_Tokens_keyword I (fun v1 b_1 b_2 b_3 => ?_)
  refine ⟨⟨by omega, by omega⟩, ?_⟩
  refine ⟨fun c45 => ?_, fun c45 => ?_⟩
  · refine k_Tokens_refuse I ⟨by omega, by omega⟩ (fun v5 g6 I_9 F_10 b_8 => ?_)
    have F_11 : zk_fr fr_Texts_readDeed g g6 := zk_ft (zk_f0 _) F_10 (by intro a i h; unfold fr_Tokens_refuse at h; unfold fr_Texts_readDeed; omega)
    exact hQ _ _ I_9 F_11 ⟨by omega, by omega⟩
  · refine ⟨fun c44 => ?_, fun c44 => ?_⟩
    · refine k_Tokens_step I (fun g9 I_12 F_13 => ?_)
      have F_14 : zk_fr fr_Texts_readDeed g g9 := zk_ft (zk_f0 _) F_13 (by intro a i h; unfold fr_Tokens_step at h; unfold fr_Texts_readDeed; omega)
      have m_19 : 0 ≤ (g9 2 11) ∧ (g9 2 11) ≤ 8 := I_12 2 11
      have m_20 : g9 2 11 = g 2 11 := F_13 _ _ (by unfold fr_Tokens_step; omega)
      have m_21 : 0 ≤ (g 2 11) ∧ (g 2 11) ≤ 8 := I 2 11
      have m_22 : 0 ≤ (g9 2 8) ∧ (g9 2 8) ≤ 10 := I_12 2 8
      have m_23 : g9 2 8 = g 2 8 := F_13 _ _ (by unfold fr_Tokens_step; omega)
      have m_24 : 0 ≤ (g 2 8) ∧ (g 2 8) ≤ 10 := I 2 8
      refine k_World_countOfWho rfl I_12 ⟨by omega, by omega⟩ (fun v11 b_15 b_16 b_17 b_18 => ?_)
      refine k_Tokens_takeBelow I_12 ⟨by omega, by omega⟩ (fun v14 g15 I_26 F_27 b_25 => ?_)
      have F_28 : zk_fr fr_Texts_readDeed g g15 := zk_ft F_14 F_27 (by intro a i h; unfold fr_Tokens_takeBelow at h; unfold fr_Texts_readDeed; omega)
      refine ⟨⟨by omega, by omega⟩, ?_⟩
      refine ⟨fun c40 => ?_, fun c40 => ?_⟩
      · have m_32 : 0 ≤ (g15 2 8) ∧ (g15 2 8) ≤ 10 := I_26 2 8
        have m_33 : g15 2 8 = g9 2 8 := F_27 _ _ (by unfold fr_Tokens_takeBelow; omega)
        refine k_World_countOfWhat rfl I_26 ⟨by omega, by omega⟩ (fun v18 b_29 b_30 b_31 => ?_)
        refine ⟨⟨by omega, by omega⟩, ?_⟩
        refine ⟨fun c39 => ?_, fun c39 => ?_⟩
        · exact k_Texts_readDeed_b92 I_26 F_28 (by omega) ⟨by omega, by omega⟩ ⟨by omega, by omega⟩ ⟨by omega, by omega⟩ hQ
        · refine ⟨fun c38 => ?_, fun c38 => ?_⟩
          · refine k_Tokens_takeBelow I_26 ⟨by omega, by omega⟩ (fun v28 g29 I_44 F_45 b_43 => ?_)
            have F_46 : zk_fr fr_Texts_readDeed g g29 := zk_ft F_28 F_45 (by intro a i h; unfold fr_Tokens_takeBelow at h; unfold fr_Texts_readDeed; omega)
            exact k_Texts_readDeed_b92 I_44 F_46 (by omega) ⟨by omega, by omega⟩ ⟨by omega, by omega⟩ ⟨by omega, by omega⟩ hQ
          · refine k_Tokens_take I_26 ⟨by omega, by omega⟩ ⟨by omega, by omega⟩ (fun v31 g32 I_48 F_49 b_47 => ?_)
            have F_50 : zk_fr fr_Texts_readDeed g g32 := zk_ft F_28 F_49 (by intro a i h; unfold fr_Tokens_take at h; unfold fr_Texts_readDeed; omega)
            refine ⟨fun c37 => ?_, fun c37 => ?_⟩
            · refine k_Tokens_takeBelow I_48 ⟨by omega, by omega⟩ (fun v34 g35 I_52 F_53 b_51 => ?_)
              have F_54 : zk_fr fr_Texts_readDeed g g35 := zk_ft F_50 F_53 (by intro a i h; unfold fr_Tokens_takeBelow at h; unfold fr_Texts_readDeed; omega)
              exact k_Texts_readDeed_b92 I_52 F_54 (by omega) ⟨by omega, by omega⟩ ⟨by omega, by omega⟩ ⟨by omega, by omega⟩ hQ
            · exact hQ _ _ I_48 F_50 ⟨by omega, by omega⟩
      · exact hQ _ _ I_26 F_28 ⟨by omega, by omega⟩
    · refine k_Tokens_refuse I ⟨by omega, by omega⟩ (fun v41 g42 I_56 F_57 b_55 => ?_)
      have F_58 : zk_fr fr_Texts_readDeed g g42 := zk_ft (zk_f0 _) F_57 (by intro a i h; unfold fr_Tokens_refuse at h; unfold fr_Texts_readDeed; omega)
      exact hQ _ _ I_56 F_58 ⟨by omega, by omega⟩
