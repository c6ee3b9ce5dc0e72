-- by program (wip/gen/mkz.py)
-- SpoutNewsModel.end(I)Z
noncomputable def fr_M_end (a : Nat) (i : Int) : Prop := (a = 214 ∧ i = 0) ∨ (a = 214 ∧ i = 13)
set_option maxRecDepth 100000 in
set_option maxHeartbeats 4000000 in
theorem k_M_end {l1 : Int} {g : zi_M} {Q : Int → zi_M → Prop} (I : zk_I g) (p1 : (-2147483648) ≤ l1 ∧ l1 ≤ 2147483647) (hQ : ∀ (v : Int) (g' : zi_M), zk_I g' → zk_fr fr_M_end g g' → (0 ≤ v ∧ v ≤ 1) → (0 ≤ l1 ∧ l1 ≤ g 214 13 → v = 1 ∧ g' 214 13 = l1) → (¬ (0 ≤ l1 ∧ l1 ≤ g 214 13) → v = 0 ∧ g' 214 13 = g 214 13) → Q v g') : w_M_end l1 g Q := by
  unfold w_M_end
  intro g1 e_1
  have I_2 : zk_I g1 := by rw [e_1]; exact zk_upd (L := (-2147483648)) (H := 2147483647) rfl rfl I ⟨by omega, by omega⟩
  have F_3 : zk_fr fr_M_end g g1 := by rw [e_1]; exact zk_fu (zk_f0 _) (Or.inl ⟨rfl, rfl⟩)
  have m_4 : 0 ≤ (g1 214 13) ∧ (g1 214 13) ≤ 400 := I_2.1 214 13
  have m_5 : g1 214 13 = g 214 13 := by rw [e_1]; exact zi_u_ni (by decide)
  have m_6 : 0 ≤ (g 214 13) ∧ (g 214 13) ≤ 400 := I.1 214 13
  refine k_M_isIn I_2 ⟨by omega, by omega⟩ ⟨by omega, by omega⟩ ⟨by omega, by omega⟩ (fun v2 b_7 b_8 b_9 => ?_)
  refine ⟨fun c6 => ?_, fun c6 => ?_⟩
  · intro g5 e_10
    have I_11 : zk_I g5 := by rw [e_10]; exact zk_upd (L := 0) (H := 400) rfl rfl I_2 ⟨by omega, by omega⟩
    have F_12 : zk_fr fr_M_end g g5 := by rw [e_10]; exact zk_fu F_3 (Or.inr ⟨rfl, rfl⟩)
    have m_13 : 0 ≤ (g5 214 13) ∧ (g5 214 13) ≤ 400 := I_11.1 214 13
    have m_14 : g5 214 13 = l1 := by rw [e_10]; exact zi_u_eq
    exact hQ _ _ I_11 F_12 ⟨by omega, by omega⟩ (by omega) (by omega)
  · exact hQ _ _ I_2 F_3 ⟨by omega, by omega⟩ (by omega) (by omega)
-- SpoutNews$Tokens.clear()V
noncomputable def fr_Tokens_clear (a : Nat) (i : Int) : Prop := (a = 191 ∧ i = 3) ∨ (a = 191 ∧ i = 4) ∨ (a = 191 ∧ i = 5) ∨ (a = 191 ∧ i = 6)
set_option maxRecDepth 100000 in
set_option maxHeartbeats 4000000 in
theorem k_Tokens_clear {g : zi_M} {Q : Int → zi_M → Prop} (I : zk_I g) (hQ : ∀ g' : zi_M, zk_I g' → zk_fr fr_Tokens_clear g g' → Q 0 g') : w_Tokens_clear g Q := by
  unfold w_Tokens_clear
  intro g1 e_1
  have I_2 : zk_I g1 := by rw [e_1]; exact zk_upd (L := 0) (H := 401) rfl rfl I ⟨by omega, by omega⟩
  have F_3 : zk_fr fr_Tokens_clear g g1 := by rw [e_1]; exact zk_fu (zk_f0 _) (Or.inl ⟨rfl, rfl⟩)
  intro g2 e_4
  have I_5 : zk_I g2 := by rw [e_4]; exact zk_upd (L := 0) (H := 401) rfl rfl I_2 ⟨by omega, by omega⟩
  have F_6 : zk_fr fr_Tokens_clear g g2 := by rw [e_4]; exact zk_fu F_3 (Or.inr (Or.inl ⟨rfl, rfl⟩))
  intro g3 e_7
  have I_8 : zk_I g3 := by rw [e_7]; exact zk_upd (L := 0) (H := 3) rfl rfl I_5 ⟨by omega, by omega⟩
  have F_9 : zk_fr fr_Tokens_clear g g3 := by rw [e_7]; exact zk_fu F_6 (Or.inr (Or.inr (Or.inl ⟨rfl, rfl⟩)))
  intro g4 e_10
  have I_11 : zk_I g4 := by rw [e_10]; exact zk_upd (L := (-1)) (H := 400) rfl rfl I_8 ⟨by omega, by omega⟩
  have F_12 : zk_fr fr_Tokens_clear g g4 := by rw [e_10]; exact zk_fu F_9 (Or.inr (Or.inr (Or.inr ⟨rfl, rfl⟩)))
  exact hQ _ I_11 F_12
-- SpoutNews$Tokens.isLetter(I)Z
set_option maxRecDepth 100000 in
set_option maxHeartbeats 4000000 in
theorem k_Tokens_isLetter_b12 {l0 : Int} {Q : Int → zi_M → Prop} {g : zi_M} (I : zk_I g) (p0 : 0 ≤ l0 ∧ l0 ≤ 255) (ix0 : ¬ (97 ≤ l0 ∧ l0 ≤ 122)) (hQ : ∀ v : Int, (l0 < 97 → l0 < 65 → v = 0) → (l0 < 97 → 65 ≤ l0 → 90 < l0 → v = 0) → (l0 < 97 → 65 ≤ l0 → l0 ≤ 90 → v = 1) → (97 ≤ l0 → l0 ≤ 122 → v = 1) → (97 ≤ l0 → 122 < l0 → l0 < 65 → v = 0) → (97 ≤ l0 → 122 < l0 → 65 ≤ l0 → 90 < l0 → v = 0) → (97 ≤ l0 → 122 < l0 → 65 ≤ l0 → l0 ≤ 90 → v = 1) → Q v g) : w_Tokens_isLetter_b12 l0 g Q := by
  unfold w_Tokens_isLetter_b12
  refine ⟨⟨by omega, by omega⟩, ?_⟩
  refine ⟨fun c4 => ?_, fun c4 => ?_⟩
  · exact hQ _ (by intros; omega) (by intros; omega) (by intros; omega) (by intros; omega) (by intros; omega) (by intros; omega) (by intros; omega)
  · refine ⟨fun c3 => ?_, fun c3 => ?_⟩
    · exact hQ _ (by intros; omega) (by intros; omega) (by intros; omega) (by intros; omega) (by intros; omega) (by intros; omega) (by intros; omega)
    · exact hQ _ (by intros; omega) (by intros; omega) (by intros; omega) (by intros; omega) (by intros; omega) (by intros; omega) (by intros; omega)
set_option maxRecDepth 100000 in
set_option maxHeartbeats 4000000 in
theorem k_Tokens_isLetter {l0 : Int} {g : zi_M} {Q : Int → zi_M → Prop} (I : zk_I g) (p0 : 0 ≤ l0 ∧ l0 ≤ 255) (hQ : ∀ v : Int, (l0 < 97 → l0 < 65 → v = 0) → (l0 < 97 → 65 ≤ l0 → 90 < l0 → v = 0) → (l0 < 97 → 65 ≤ l0 → l0 ≤ 90 → v = 1) → (97 ≤ l0 → l0 ≤ 122 → v = 1) → (97 ≤ l0 → 122 < l0 → l0 < 65 → v = 0) → (97 ≤ l0 → 122 < l0 → 65 ≤ l0 → 90 < l0 → v = 0) → (97 ≤ l0 → 122 < l0 → 65 ≤ l0 → l0 ≤ 90 → v = 1) → Q v g) : w_Tokens_isLetter l0 g Q := by
  unfold w_Tokens_isLetter
  refine ⟨⟨by omega, by omega⟩, ?_⟩
  refine ⟨fun c6 => ?_, fun c6 => ?_⟩
  · exact k_Tokens_isLetter_b12 I ⟨by omega, by omega⟩ (by omega) hQ
  · refine ⟨fun c5 => ?_, fun c5 => ?_⟩
    · exact hQ _ (by intros; omega) (by intros; omega) (by intros; omega) (by intros; omega) (by intros; omega) (by intros; omega) (by intros; omega)
    · exact k_Tokens_isLetter_b12 I ⟨by omega, by omega⟩ (by omega) hQ
-- SpoutNews$Tokens.isDigit(I)Z
set_option maxRecDepth 100000 in
set_option maxHeartbeats 4000000 in
theorem k_Tokens_isDigit {l0 : Int} {g : zi_M} {Q : Int → zi_M → Prop} (I : zk_I g) (p0 : 0 ≤ l0 ∧ l0 ≤ 255) (hQ : ∀ v : Int, (l0 < 48 → v = 0) → (48 ≤ l0 → 57 < l0 → v = 0) → (48 ≤ l0 → l0 ≤ 57 → v = 1) → Q v g) : w_Tokens_isDigit l0 g Q := by
  unfold w_Tokens_isDigit
  refine ⟨⟨by omega, by omega⟩, ?_⟩
  refine ⟨fun c3 => ?_, fun c3 => ?_⟩
  · exact hQ _ (by intros; omega) (by intros; omega) (by intros; omega)
  · refine ⟨fun c2 => ?_, fun c2 => ?_⟩
    · exact hQ _ (by intros; omega) (by intros; omega) (by intros; omega)
    · exact hQ _ (by intros; omega) (by intros; omega) (by intros; omega)
-- SpoutNews$Tokens.isSignOfLaw(I)Z
set_option maxRecDepth 100000 in
set_option maxHeartbeats 4000000 in
theorem k_Tokens_isSignOfLaw {l0 : Int} {g : zi_M} {Q : Int → zi_M → Prop} (I : zk_I g) (p0 : 0 ≤ l0 ∧ l0 ≤ 255) (hQ : ∀ v : Int, (l0 = 59 → v = 1) → (¬ l0 = 59 → l0 = 43 → v = 1) → (¬ l0 = 59 → ¬ l0 = 43 → l0 = 45 → v = 1) → (¬ l0 = 59 → ¬ l0 = 43 → ¬ l0 = 45 → l0 = 42 → v = 1) → (¬ l0 = 59 → ¬ l0 = 43 → ¬ l0 = 45 → ¬ l0 = 42 → l0 = 47 → v = 1) → (¬ l0 = 59 → ¬ l0 = 43 → ¬ l0 = 45 → ¬ l0 = 42 → ¬ l0 = 47 → l0 = 40 → v = 1) → (¬ l0 = 59 → ¬ l0 = 43 → ¬ l0 = 45 → ¬ l0 = 42 → ¬ l0 = 47 → ¬ l0 = 40 → l0 = 41 → v = 1) → (¬ l0 = 59 → ¬ l0 = 43 → ¬ l0 = 45 → ¬ l0 = 42 → ¬ l0 = 47 → ¬ l0 = 40 → ¬ l0 = 41 → l0 = 60 → v = 1) → (¬ l0 = 59 → ¬ l0 = 43 → ¬ l0 = 45 → ¬ l0 = 42 → ¬ l0 = 47 → ¬ l0 = 40 → ¬ l0 = 41 → ¬ l0 = 60 → l0 = 61 → v = 1) → (¬ l0 = 59 → ¬ l0 = 43 → ¬ l0 = 45 → ¬ l0 = 42 → ¬ l0 = 47 → ¬ l0 = 40 → ¬ l0 = 41 → ¬ l0 = 60 → ¬ l0 = 61 → ¬ l0 = 62 → v = 0) → (¬ l0 = 59 → ¬ l0 = 43 → ¬ l0 = 45 → ¬ l0 = 42 → ¬ l0 = 47 → ¬ l0 = 40 → ¬ l0 = 41 → ¬ l0 = 60 → ¬ l0 = 61 → l0 = 62 → v = 1) → Q v g) : w_Tokens_isSignOfLaw l0 g Q := by
  unfold w_Tokens_isSignOfLaw
  refine ⟨⟨by omega, by omega⟩, ?_⟩
  refine ⟨fun c11 => ?_, fun c11 => ?_⟩
  · exact hQ _ (by intros; omega) (by intros; omega) (by intros; omega) (by intros; omega) (by intros; omega) (by intros; omega) (by intros; omega) (by intros; omega) (by intros; omega) (by intros; omega) (by intros; omega)
  · refine ⟨fun c10 => ?_, fun c10 => ?_⟩
    · exact hQ _ (by intros; omega) (by intros; omega) (by intros; omega) (by intros; omega) (by intros; omega) (by intros; omega) (by intros; omega) (by intros; omega) (by intros; omega) (by intros; omega) (by intros; omega)
    · refine ⟨fun c9 => ?_, fun c9 => ?_⟩
      · exact hQ _ (by intros; omega) (by intros; omega) (by intros; omega) (by intros; omega) (by intros; omega) (by intros; omega) (by intros; omega) (by intros; omega) (by intros; omega) (by intros; omega) (by intros; omega)
      · refine ⟨fun c8 => ?_, fun c8 => ?_⟩
        · exact hQ _ (by intros; omega) (by intros; omega) (by intros; omega) (by intros; omega) (by intros; omega) (by intros; omega) (by intros; omega) (by intros; omega) (by intros; omega) (by intros; omega) (by intros; omega)
        · refine ⟨fun c7 => ?_, fun c7 => ?_⟩
          · exact hQ _ (by intros; omega) (by intros; omega) (by intros; omega) (by intros; omega) (by intros; omega) (by intros; omega) (by intros; omega) (by intros; omega) (by intros; omega) (by intros; omega) (by intros; omega)
          · refine ⟨fun c6 => ?_, fun c6 => ?_⟩
            · exact hQ _ (by intros; omega) (by intros; omega) (by intros; omega) (by intros; omega) (by intros; omega) (by intros; omega) (by intros; omega) (by intros; omega) (by intros; omega) (by intros; omega) (by intros; omega)
            · refine ⟨fun c5 => ?_, fun c5 => ?_⟩
              · exact hQ _ (by intros; omega) (by intros; omega) (by intros; omega) (by intros; omega) (by intros; omega) (by intros; omega) (by intros; omega) (by intros; omega) (by intros; omega) (by intros; omega) (by intros; omega)
              · refine ⟨fun c4 => ?_, fun c4 => ?_⟩
                · exact hQ _ (by intros; omega) (by intros; omega) (by intros; omega) (by intros; omega) (by intros; omega) (by intros; omega) (by intros; omega) (by intros; omega) (by intros; omega) (by intros; omega) (by intros; omega)
                · refine ⟨fun c3 => ?_, fun c3 => ?_⟩
                  · exact hQ _ (by intros; omega) (by intros; omega) (by intros; omega) (by intros; omega) (by intros; omega) (by intros; omega) (by intros; omega) (by intros; omega) (by intros; omega) (by intros; omega) (by intros; omega)
                  · refine ⟨fun c2 => ?_, fun c2 => ?_⟩
                    · exact hQ _ (by intros; omega) (by intros; omega) (by intros; omega) (by intros; omega) (by intros; omega) (by intros; omega) (by intros; omega) (by intros; omega) (by intros; omega) (by intros; omega) (by intros; omega)
                    · exact hQ _ (by intros; omega) (by intros; omega) (by intros; omega) (by intros; omega) (by intros; omega) (by intros; omega) (by intros; omega) (by intros; omega) (by intros; omega) (by intros; omega) (by intros; omega)
-- SpoutNews$Tokens.add(III)V
noncomputable def fr_Tokens_add (a : Nat) (i : Int) : Prop := a = 192 ∨ a = 193 ∨ a = 194 ∨ (a = 191 ∧ i = 3)
set_option maxRecDepth 100000 in
set_option maxHeartbeats 4000000 in
theorem k_Tokens_add {l1 : Int} {l2 : Int} {l3 : Int} {g : zi_M} {Q : Int → zi_M → Prop} (I : zk_I g) (p1 : 0 ≤ l1 ∧ l1 ≤ 4) (p2 : (-1) ≤ l2 ∧ l2 ≤ 9999) (p3 : 0 ≤ l3 ∧ l3 ≤ 400) (hQ : ∀ g' : zi_M, zk_I g' → zk_fr fr_Tokens_add g g' → Q 0 g') : w_Tokens_add l1 l2 l3 g Q := by
  unfold w_Tokens_add
  have m_1 : 0 ≤ (g 191 3) ∧ (g 191 3) ≤ 401 := I.1 191 3
  refine ⟨⟨by omega, by omega⟩, ?_⟩
  refine ⟨fun c9 => ?_, fun c9 => ?_⟩
  · exact hQ _ I (zk_f0 _)
  · refine ⟨⟨by omega, by omega⟩, ?_⟩
    intro g3 e_2
    have I_3 : zk_I g3 := by rw [e_2]; exact zk_upd (L := 0) (H := 4) rfl rfl I ⟨by omega, by omega⟩
    have F_4 : zk_fr fr_Tokens_add g g3 := by rw [e_2]; exact zk_fu (zk_f0 _) (Or.inl rfl)
    have m_8 : 0 ≤ (g3 191 3) ∧ (g3 191 3) ≤ 401 := I_3.1 191 3
    have m_9 : g3 191 3 = g 191 3 := by rw [e_2]; exact zi_u_ne (by decide)
    refine ⟨⟨by omega, by omega⟩, ?_⟩
    intro g5 e_5
    have I_6 : zk_I g5 := by rw [e_5]; exact zk_upd (L := (-1)) (H := 9999) rfl rfl I_3 ⟨by omega, by omega⟩
    have F_7 : zk_fr fr_Tokens_add g g5 := by rw [e_5]; exact zk_fu F_4 (Or.inr (Or.inl rfl))
    have m_13 : 0 ≤ (g5 191 3) ∧ (g5 191 3) ≤ 401 := I_6.1 191 3
    have m_14 : g5 191 3 = g3 191 3 := by rw [e_5]; exact zi_u_ne (by decide)
    refine ⟨⟨by omega, by omega⟩, ?_⟩
    intro g7 e_10
    have I_11 : zk_I g7 := by rw [e_10]; exact zk_upd (L := 0) (H := 400) rfl rfl I_6 ⟨by omega, by omega⟩
    have F_12 : zk_fr fr_Tokens_add g g7 := by rw [e_10]; exact zk_fu F_7 (Or.inr (Or.inr (Or.inl rfl)))
    have m_18 : 0 ≤ (g7 191 3) ∧ (g7 191 3) ≤ 401 := I_11.1 191 3
    have m_19 : g7 191 3 = g5 191 3 := by rw [e_10]; exact zi_u_ne (by decide)
    intro g8 e_15
    have I_16 : zk_I g8 := by rw [e_15]; exact zk_upd (L := 0) (H := 401) rfl rfl I_11 ⟨by omega, by omega⟩
    have F_17 : zk_fr fr_Tokens_add g g8 := by rw [e_15]; exact zk_fu F_12 (Or.inr (Or.inr (Or.inr ⟨rfl, rfl⟩)))
    exact hQ _ I_16 F_17
-- SpoutNews$Tokens.numberAt([III)I
set_option maxRecDepth 100000 in
set_option maxHeartbeats 4000000 in
theorem k_Tokens_numberAt_l5 {g : zi_M} (I : zk_I g) {l1 : Int} {l2 : Int} {K29 : zi_M → Prop} {K50 : Int → zi_M → Prop} {Q : Int → zi_M → Prop} (q1 : 0 ≤ l1 ∧ l1 ≤ 399) (q2 : 1 ≤ l2 ∧ l2 ≤ 400) (hK29 : K29 g) (hK50 : ∀ (k3 : Int), (0 ≤ k3 ∧ k3 ≤ 9999) → K50 k3 g) (hQ : ∀ v : Int, ((-1) ≤ v ∧ v ≤ 9999) → Q v g) : ∀ (n : Nat) {l3 : Int} {l4 : Int}, (0 ≤ l3 ∧ l3 ≤ 9999) → (0 ≤ l4 ∧ l4 ≤ 400) → (l1 ≤ l4) → (l4 ≤ l1 + 4) → (l4 = l1 → l3 = 0) → (l4 = l1 + 1 → l3 ≤ 9) → (l4 = l1 + 2 → l3 ≤ 99) → (l4 = l1 + 3 → l3 ≤ 999) → 400 - l4 < (n : Int) → w_Tokens_numberAt_l5 l1 l2 K29 K50 Q n l3 l4 g
  | 0, l3, l4, b0, b1, b2, b3, b4, b5, b6, b7, hm => by exfalso; omega
  | n + 1, l3, l4, b0, b1, b2, b3, b4, b5, b6, b7, hm => by
    unfold w_Tokens_numberAt_l5
    refine ⟨⟨by omega, by omega⟩, ⟨by omega, by omega⟩, ?_⟩
    refine ⟨fun c10 => ?_, fun c10 => ?_⟩
    · exact hK50 _ ⟨by omega, by omega⟩
    · refine ⟨⟨by omega, by omega⟩, ?_⟩
      have m_1 : 0 ≤ (g 190 l4) ∧ (g 190 l4) ≤ 255 := I.1 190 l4
      refine k_Tokens_isDigit I ⟨by omega, by omega⟩ (fun v4 b_2 b_3 b_4 => ?_)
      refine ⟨fun c9 => ?_, fun c9 => ?_⟩
      · exact hK50 _ ⟨by omega, by omega⟩
      · refine ⟨⟨by omega, by omega⟩, ?_⟩
        refine ⟨fun c8 => ?_, fun c8 => ?_⟩
        · exact k_Tokens_numberAt_l5 I q1 q2 hK29 hK50 hQ n ⟨by omega, by omega⟩ ⟨by omega, by omega⟩ (by omega) (by omega) (by omega) (by omega) (by omega) (by omega) (by omega)
        · exact hK29
set_option maxRecDepth 100000 in
set_option maxHeartbeats 4000000 in
theorem k_Tokens_numberAt {l1 : Int} {l2 : Int} {g : zi_M} {Q : Int → zi_M → Prop} (I : zk_I g) (p1 : 0 ≤ l1 ∧ l1 ≤ 399) (p2 : 1 ≤ l2 ∧ l2 ≤ 400) (hQ : ∀ v : Int, ((-1) ≤ v ∧ v ≤ 9999) → Q v g) : w_Tokens_numberAt l1 l2 g Q := by
  unfold w_Tokens_numberAt
  refine ⟨((400 - l1 : Int).toNat + 1), k_Tokens_numberAt_l5 (l1 := l1) (l2 := l2) I ⟨by omega, by omega⟩ ⟨by omega, by omega⟩ (?_) (fun k12 b_5 => ?_) hQ ((400 - l1 : Int).toNat + 1) ⟨by omega, by omega⟩ ⟨by omega, by omega⟩ (by omega) (by omega) (by omega) (by omega) (by omega) (by omega) (by omega)⟩
  · exact hQ _ ⟨by omega, by omega⟩
  · exact hQ _ ⟨by omega, by omega⟩
-- SpoutNews$Tokens.sameLetters([IILjava/lang/String;II)Z
set_option maxRecDepth 100000 in
set_option maxHeartbeats 4000000 in
theorem k_Tokens_sameLetters_l3 {g : zi_M} {r2 : Nat} (hr2 : zs_str r2) (I : zk_I g) {l1 : Int} {l3 : Int} {l4 : Int} {K27 : zi_M → Prop} {K35 : zi_M → Prop} {Q : Int → zi_M → Prop} (q1 : 0 ≤ l1 ∧ l1 ≤ 399) (q3 : 0 ≤ l3 ∧ l3 ≤ 80) (q4 : 0 ≤ l4 ∧ l4 ≤ 80) (hK27 : K27 g) (hK35 : K35 g) (hQ : ∀ v : Int, (0 ≤ v ∧ v ≤ 1) → Q v g) : ∀ (n : Nat) {l5 : Int}, (0 ≤ l5 ∧ l5 ≤ 80) → (l1 + l4 - l3 ≤ 400) → (l4 ≤ zs_sl r2) → (l3 ≤ l5) → 80 - l5 < (n : Int) → w_Tokens_sameLetters_l3 r2 l1 l3 l4 K27 K35 Q n l5 g
  | 0, l5, b0, b1, b2, b3, hm => by exfalso; omega
  | n + 1, l5, b0, b1, b2, b3, hm => by
    unfold w_Tokens_sameLetters_l3
    refine ⟨⟨by omega, by omega⟩, ⟨by omega, by omega⟩, ?_⟩
    refine ⟨fun c7 => ?_, fun c7 => ?_⟩
    · exact hK35
    · refine ⟨⟨by omega, by omega⟩, ?_⟩
      have m_1 := zs_slb hr2
      refine ⟨⟨by omega, by omega⟩, ?_⟩
      have m_2 : 0 ≤ (g 190 ((l1 + l5) - l3)) ∧ (g 190 ((l1 + l5) - l3)) ≤ 255 := I.1 190 ((l1 + l5) - l3)
      refine ⟨⟨by omega, by omega⟩, ?_⟩
      have m_3 := zs_scb r2 l5
      refine ⟨fun c6 => ?_, fun c6 => ?_⟩
      · exact k_Tokens_sameLetters_l3 hr2 I q1 q3 q4 hK27 hK35 hQ n ⟨by omega, by omega⟩ (by omega) (by omega) (by omega) (by omega)
      · exact hK27
set_option maxRecDepth 100000 in
set_option maxHeartbeats 4000000 in
theorem k_Tokens_sameLetters {r2 : Nat} (hr2 : zs_str r2) {l1 : Int} {l3 : Int} {l4 : Int} {g : zi_M} {Q : Int → zi_M → Prop} (I : zk_I g) (p1 : 0 ≤ l1 ∧ l1 ≤ 399) (p3 : 0 ≤ l3 ∧ l3 ≤ 80) (p4 : 0 ≤ l4 ∧ l4 ≤ 80) (px0 : l1 + l4 - l3 ≤ 400) (px1 : l4 ≤ zs_sl r2) (px2 : l3 ≤ l4) (hQ : ∀ v : Int, (0 ≤ v ∧ v ≤ 1) → Q v g) : w_Tokens_sameLetters r2 l1 l3 l4 g Q := by
  unfold w_Tokens_sameLetters
  refine ⟨((80 - l3 : Int).toNat + 1), k_Tokens_sameLetters_l3 (l1 := l1) (l3 := l3) (l4 := l4) hr2 I ⟨by omega, by omega⟩ ⟨by omega, by omega⟩ ⟨by omega, by omega⟩ (?_) (?_) hQ ((80 - l3 : Int).toNat + 1) ⟨by omega, by omega⟩ (by omega) (by omega) (by omega) (by omega)⟩
  · exact hQ _ ⟨by omega, by omega⟩
  · exact hQ _ ⟨by omega, by omega⟩
-- SpoutNews$Tokens.keywordAt([IIILjava/lang/String;)I
set_option maxRecDepth 100000 in
set_option maxHeartbeats 4000000 in
theorem k_Tokens_keywordAt_b74 {r3 : Nat} (hr3 : zs_str r3) {l1 : Int} {l2 : Int} {l4 : Int} {l5 : Int} {l6 : Int} {s0 : Int} {H : Int → Int → Int → zi_M → Prop} {K94 : Int → zi_M → Prop} {K112 : zi_M → Prop} {Q : Int → zi_M → Prop} {g : zi_M} (I : zk_I g) (p1 : 0 ≤ l1 ∧ l1 ≤ 399) (p2 : 1 ≤ l2 ∧ l2 ≤ 400) (p4 : 0 ≤ l4 ∧ l4 ≤ 81) (p5 : 0 ≤ l5 ∧ l5 ≤ 81) (p6 : 0 ≤ l6 ∧ l6 ≤ 80) (ix0 : l5 ≤ l6) (ix1 : l4 ≤ l6) (ix2 : l6 ≤ zs_sl r3) (ix3 : ¬ s0 = 0 → l1 + l6 - l5 ≤ l2) (ps0 : 0 ≤ s0 ∧ s0 ≤ 1) (M : Int) (hM : 81 - l6 ≤ M) (hH : ∀ (m4 : Int) (m5 : Int) (m6 : Int), (0 ≤ m4 ∧ m4 ≤ 81) → (0 ≤ m5 ∧ m5 ≤ 81) → (0 ≤ m6 ∧ m6 ≤ 81) → (m5 ≤ m6) → (m4 ≤ m6) → 81 - m6 < M → H m4 m5 m6 g) (hK94 : ∀ (k4 : Int), (0 ≤ k4 ∧ k4 ≤ 81) → K94 k4 g) (hK112 : K112 g) (hQ : ∀ v : Int, ((-1) ≤ v ∧ v ≤ 81) → Q v g) : w_Tokens_keywordAt_b74 r3 l1 l2 l4 l5 l6 s0 g H K94 K112 Q := by
  unfold w_Tokens_keywordAt_b74
  refine ⟨⟨by omega, by omega⟩, ?_⟩
  refine ⟨fun c9 => ?_, fun c9 => ?_⟩
  · exact hH _ _ _ ⟨by omega, by omega⟩ ⟨by omega, by omega⟩ ⟨by omega, by omega⟩ (by omega) (by omega) (by omega)
  · refine k_Tokens_sameLetters hr3 I ⟨by omega, by omega⟩ ⟨by omega, by omega⟩ ⟨by omega, by omega⟩ (by omega) (by omega) (by omega) (fun v5 b_2 => ?_)
    refine ⟨fun c8 => ?_, fun c8 => ?_⟩
    · exact hH _ _ _ ⟨by omega, by omega⟩ ⟨by omega, by omega⟩ ⟨by omega, by omega⟩ (by omega) (by omega) (by omega)
    · exact hK94 _ ⟨by omega, by omega⟩
set_option maxRecDepth 100000 in
set_option maxHeartbeats 4000000 in
theorem k_Tokens_keywordAt_b38 {r3 : Nat} (hr3 : zs_str r3) {l1 : Int} {l2 : Int} {l4 : Int} {l5 : Int} {l6 : Int} {H : Int → Int → Int → zi_M → Prop} {K94 : Int → zi_M → Prop} {K112 : zi_M → Prop} {Q : Int → zi_M → Prop} {g : zi_M} (I : zk_I g) (p1 : 0 ≤ l1 ∧ l1 ≤ 399) (p2 : 1 ≤ l2 ∧ l2 ≤ 400) (p4 : 0 ≤ l4 ∧ l4 ≤ 81) (p5 : 0 ≤ l5 ∧ l5 ≤ 81) (p6 : 0 ≤ l6 ∧ l6 ≤ 80) (ix0 : l5 ≤ l6) (ix1 : l4 ≤ l6) (ix2 : l6 ≤ zs_sl r3) (M : Int) (hM : 81 - l6 ≤ M) (hH : ∀ (m4 : Int) (m5 : Int) (m6 : Int), (0 ≤ m4 ∧ m4 ≤ 81) → (0 ≤ m5 ∧ m5 ≤ 81) → (0 ≤ m6 ∧ m6 ≤ 81) → (m5 ≤ m6) → (m4 ≤ m6) → 81 - m6 < M → H m4 m5 m6 g) (hK94 : ∀ (k4 : Int), (0 ≤ k4 ∧ k4 ≤ 81) → K94 k4 g) (hK112 : K112 g) (hQ : ∀ v : Int, ((-1) ≤ v ∧ v ≤ 81) → Q v g) : w_Tokens_keywordAt_b38 r3 l1 l2 l4 l5 l6 g H K94 K112 Q := by
  unfold w_Tokens_keywordAt_b38
  refine ⟨⟨by omega, by omega⟩, ⟨by omega, by omega⟩, ?_⟩
  refine ⟨fun c16 => ?_, fun c16 => ?_⟩
  · exact k_Tokens_keywordAt_b74 hr3 I ⟨by omega, by omega⟩ ⟨by omega, by omega⟩ ⟨by omega, by omega⟩ ⟨by omega, by omega⟩ ⟨by omega, by omega⟩ (by omega) (by omega) (by omega) (by omega) ⟨by omega, by omega⟩ M (by omega) hH hK94 hK112 hQ
  · refine ⟨fun c15 => ?_, fun c15 => ?_⟩
    · exact k_Tokens_keywordAt_b74 hr3 I ⟨by omega, by omega⟩ ⟨by omega, by omega⟩ ⟨by omega, by omega⟩ ⟨by omega, by omega⟩ ⟨by omega, by omega⟩ (by omega) (by omega) (by omega) (by omega) ⟨by omega, by omega⟩ M (by omega) hH hK94 hK112 hQ
    · refine ⟨⟨by omega, by omega⟩, ?_⟩
      have m_3 : 0 ≤ (g 190 ((l1 + l6) - l5)) ∧ (g 190 ((l1 + l6) - l5)) ≤ 255 := I.1 190 ((l1 + l6) - l5)
      refine k_Tokens_isLetter I ⟨by omega, by omega⟩ (fun v11 b_4 b_5 b_6 b_7 b_8 b_9 b_10 => ?_)
      refine ⟨fun c14 => ?_, fun c14 => ?_⟩
      · exact k_Tokens_keywordAt_b74 hr3 I ⟨by omega, by omega⟩ ⟨by omega, by omega⟩ ⟨by omega, by omega⟩ ⟨by omega, by omega⟩ ⟨by omega, by omega⟩ (by omega) (by omega) (by omega) (by omega) ⟨by omega, by omega⟩ M (by omega) hH hK94 hK112 hQ
      · exact k_Tokens_keywordAt_b74 hr3 I ⟨by omega, by omega⟩ ⟨by omega, by omega⟩ ⟨by omega, by omega⟩ ⟨by omega, by omega⟩ ⟨by omega, by omega⟩ (by omega) (by omega) (by omega) (by omega) ⟨by omega, by omega⟩ M (by omega) hH hK94 hK112 hQ
set_option maxRecDepth 100000 in
set_option maxHeartbeats 4000000 in
theorem k_Tokens_keywordAt_l9 {g : zi_M} {r3 : Nat} (hr3 : zs_str r3) (I : zk_I g) {l1 : Int} {l2 : Int} {K94 : Int → zi_M → Prop} {K112 : zi_M → Prop} {Q : Int → zi_M → Prop} (q1 : 0 ≤ l1 ∧ l1 ≤ 399) (q2 : 1 ≤ l2 ∧ l2 ≤ 400) (hK94 : ∀ (k4 : Int), (0 ≤ k4 ∧ k4 ≤ 81) → K94 k4 g) (hK112 : K112 g) (hQ : ∀ v : Int, ((-1) ≤ v ∧ v ≤ 81) → Q v g) : ∀ (n : Nat) {l4 : Int} {l5 : Int} {l6 : Int}, (0 ≤ l4 ∧ l4 ≤ 81) → (0 ≤ l5 ∧ l5 ≤ 81) → (0 ≤ l6 ∧ l6 ≤ 81) → (l5 ≤ l6) → (l4 ≤ l6) → 81 - l6 < (n : Int) → w_Tokens_keywordAt_l9 r3 l1 l2 K94 K112 Q n l4 l5 l6 g
  | 0, l4, l5, l6, b0, b1, b2, b3, b4, hm => by exfalso; omega
  | n + 1, l4, l5, l6, b0, b1, b2, b3, b4, hm => by
    unfold w_Tokens_keywordAt_l9
    refine ⟨⟨by omega, by omega⟩, ?_⟩
    have m_1 := zs_slb hr3
    refine ⟨fun c20 => ?_, fun c20 => ?_⟩
    · exact hK112
    · refine ⟨fun c19 => ?_, fun c19 => ?_⟩
      · exact k_Tokens_keywordAt_b38 hr3 I ⟨by omega, by omega⟩ ⟨by omega, by omega⟩ ⟨by omega, by omega⟩ ⟨by omega, by omega⟩ ⟨by omega, by omega⟩ (by omega) (by omega) (by omega) (n : Int) (by omega) (fun _ _ _ b0 b1 b2 b3 b4 hm => k_Tokens_keywordAt_l9 hr3 I q1 q2 hK94 hK112 hQ n b0 b1 b2 b3 b4 hm) hK94 hK112 hQ
      · refine ⟨⟨by omega, by omega⟩, ?_⟩
        have m_11 := zs_scb r3 l6
        refine ⟨fun c18 => ?_, fun c18 => ?_⟩
        · exact k_Tokens_keywordAt_l9 hr3 I q1 q2 hK94 hK112 hQ n ⟨by omega, by omega⟩ ⟨by omega, by omega⟩ ⟨by omega, by omega⟩ (by omega) (by omega) (by omega)
        · exact k_Tokens_keywordAt_b38 hr3 I ⟨by omega, by omega⟩ ⟨by omega, by omega⟩ ⟨by omega, by omega⟩ ⟨by omega, by omega⟩ ⟨by omega, by omega⟩ (by omega) (by omega) (by omega) (n : Int) (by omega) (fun _ _ _ b0 b1 b2 b3 b4 hm => k_Tokens_keywordAt_l9 hr3 I q1 q2 hK94 hK112 hQ n b0 b1 b2 b3 b4 hm) hK94 hK112 hQ
set_option maxRecDepth 100000 in
set_option maxHeartbeats 4000000 in
theorem k_Tokens_keywordAt {r3 : Nat} (hr3 : zs_str r3) {l1 : Int} {l2 : Int} {g : zi_M} {Q : Int → zi_M → Prop} (I : zk_I g) (p1 : 0 ≤ l1 ∧ l1 ≤ 399) (p2 : 1 ≤ l2 ∧ l2 ≤ 400) (hQ : ∀ v : Int, ((-1) ≤ v ∧ v ≤ 81) → Q v g) : w_Tokens_keywordAt r3 l1 l2 g Q := by
  unfold w_Tokens_keywordAt
  refine ⟨((81 - 0 : Int).toNat + 1), k_Tokens_keywordAt_l9 (l1 := l1) (l2 := l2) hr3 I ⟨by omega, by omega⟩ ⟨by omega, by omega⟩ (fun k21 b_12 => ?_) (?_) hQ ((81 - 0 : Int).toNat + 1) ⟨by omega, by omega⟩ ⟨by omega, by omega⟩ ⟨by omega, by omega⟩ (by omega) (by omega) (by omega)⟩
  · exact hQ _ ⟨by omega, by omega⟩
  · exact hQ _ ⟨by omega, by omega⟩
-- SpoutNews$Tokens.split([IILjava/lang/String;)V
noncomputable def fr_Tokens_split (r3 : Nat) (a : Nat) (i : Int) : Prop := a = 192 ∨ a = 193 ∨ a = 194 ∨ (a = 191 ∧ i = 3) ∨ (a = 191 ∧ i = 4) ∨ (a = 191 ∧ i = 5) ∨ (a = 191 ∧ i = 6)
set_option maxRecDepth 100000 in
set_option maxHeartbeats 4000000 in
theorem k_Tokens_split_b67 {r3 : Nat} (hr3 : zs_str r3) {l2 : Int} {l4 : Int} {s0 : Int} {H : Int → zi_M → Prop} {K209 : zi_M → Prop} {Q : Int → zi_M → Prop} {g : zi_M} {g0 : zi_M} (I : zk_I g) (F : zk_fr (fr_Tokens_split r3) g0 g) (p2 : 1 ≤ l2 ∧ l2 ≤ 400) (p4 : 0 ≤ l4 ∧ l4 ≤ 399) (ps0 : 0 ≤ s0 ∧ s0 ≤ 1) (M : Int) (hM : 400 - l4 ≤ M) (hH : ∀ (m4 : Int) (g : zi_M), zk_I g → zk_fr (fr_Tokens_split r3) g0 g → (0 ≤ m4 ∧ m4 ≤ 400) → 400 - m4 < M → H m4 g) (hK209 : ∀ (g : zi_M), zk_I g → zk_fr (fr_Tokens_split r3) g0 g → K209 g) (hQ : ∀ g' : zi_M, zk_I g' → zk_fr (fr_Tokens_split r3) g0 g' → Q 0 g') : w_Tokens_split_b67 r3 l2 l4 s0 g H K209 Q := by
  unfold w_Tokens_split_b67
  refine ⟨⟨by omega, by omega⟩, ?_⟩
  refine ⟨fun c51 => ?_, fun c51 => ?_⟩
  · exact hH _ _ I F ⟨by omega, by omega⟩ (by omega)
  · refine ⟨⟨by omega, by omega⟩, ?_⟩
    have m_4 : 0 ≤ (g 190 l4) ∧ (g 190 l4) ≤ 255 := I.1 190 l4
    refine ⟨⟨by omega, by omega⟩, ?_⟩
    refine ⟨fun c50 => ?_, fun c50 => ?_⟩
    · exact hH _ _ I F ⟨by omega, by omega⟩ (by omega)
    · refine ⟨fun c49 => ?_, fun c49 => ?_⟩
      · refine k_Tokens_isLetter I ⟨by omega, by omega⟩ (fun v9 b_5 b_6 b_7 b_8 b_9 b_10 b_11 => ?_)
        refine ⟨fun c48 => ?_, fun c48 => ?_⟩
        · refine k_Tokens_isDigit I ⟨by omega, by omega⟩ (fun v12 b_12 b_13 b_14 => ?_)
          refine ⟨fun c36 => ?_, fun c36 => ?_⟩
          · refine k_Tokens_isSignOfLaw I ⟨by omega, by omega⟩ (fun v15 b_15 b_16 b_17 b_18 b_19 b_20 b_21 b_22 b_23 b_24 b_25 => ?_)
            refine ⟨fun c24 => ?_, fun c24 => ?_⟩
            · refine k_Tokens_add I ⟨by omega, by omega⟩ ⟨by omega, by omega⟩ ⟨by omega, by omega⟩ (fun g19 I_26 F_27 => ?_)
              have F_28 : zk_fr (fr_Tokens_split r3) g0 g19 := zk_ft F F_27 (fun a i => (fun h => Or.elim h (fun h => (Or.inl h)) (fun h => Or.elim h (fun h => (Or.inr (Or.inl h))) (fun h => Or.elim h (fun h => (Or.inr (Or.inr (Or.inl h)))) (fun h => (Or.inr (Or.inr (Or.inr (Or.inl h)))))))))
              exact hH _ _ I_26 F_28 ⟨by omega, by omega⟩ (by omega)
            · refine k_Tokens_add I ⟨by omega, by omega⟩ ⟨by omega, by omega⟩ ⟨by omega, by omega⟩ (fun g22 I_29 F_30 => ?_)
              have F_31 : zk_fr (fr_Tokens_split r3) g0 g22 := zk_ft F F_30 (fun a i => (fun h => Or.elim h (fun h => (Or.inl h)) (fun h => Or.elim h (fun h => (Or.inr (Or.inl h))) (fun h => Or.elim h (fun h => (Or.inr (Or.inr (Or.inl h)))) (fun h => (Or.inr (Or.inr (Or.inr (Or.inl h)))))))))
              exact hH _ _ I_29 F_31 ⟨by omega, by omega⟩ (by omega)
          · refine k_Tokens_numberAt I ⟨by omega, by omega⟩ ⟨by omega, by omega⟩ (fun v25 b_32 => ?_)
            refine ⟨⟨by omega, by omega⟩, ?_⟩
            refine ⟨fun c35 => ?_, fun c35 => ?_⟩
            · refine k_Tokens_add I ⟨by omega, by omega⟩ ⟨by omega, by omega⟩ ⟨by omega, by omega⟩ (fun g30 I_33 F_34 => ?_)
              have F_35 : zk_fr (fr_Tokens_split r3) g0 g30 := zk_ft F F_34 (fun a i => (fun h => Or.elim h (fun h => (Or.inl h)) (fun h => Or.elim h (fun h => (Or.inr (Or.inl h))) (fun h => Or.elim h (fun h => (Or.inr (Or.inr (Or.inl h)))) (fun h => (Or.inr (Or.inr (Or.inr (Or.inl h)))))))))
              exact hH _ _ I_33 F_35 ⟨by omega, by omega⟩ (by omega)
            · refine k_Tokens_add I ⟨by omega, by omega⟩ ⟨by omega, by omega⟩ ⟨by omega, by omega⟩ (fun g33 I_36 F_37 => ?_)
              have F_38 : zk_fr (fr_Tokens_split r3) g0 g33 := zk_ft F F_37 (fun a i => (fun h => Or.elim h (fun h => (Or.inl h)) (fun h => Or.elim h (fun h => (Or.inr (Or.inl h))) (fun h => Or.elim h (fun h => (Or.inr (Or.inr (Or.inl h)))) (fun h => (Or.inr (Or.inr (Or.inr (Or.inl h)))))))))
              exact hH _ _ I_36 F_38 ⟨by omega, by omega⟩ (by omega)
        · refine k_Tokens_keywordAt hr3 I ⟨by omega, by omega⟩ ⟨by omega, by omega⟩ (fun v37 b_39 => ?_)
          refine ⟨⟨by omega, by omega⟩, ?_⟩
          refine ⟨fun c47 => ?_, fun c47 => ?_⟩
          · refine k_Tokens_add I ⟨by omega, by omega⟩ ⟨by omega, by omega⟩ ⟨by omega, by omega⟩ (fun g42 I_40 F_41 => ?_)
            have F_42 : zk_fr (fr_Tokens_split r3) g0 g42 := zk_ft F F_41 (fun a i => (fun h => Or.elim h (fun h => (Or.inl h)) (fun h => Or.elim h (fun h => (Or.inr (Or.inl h))) (fun h => Or.elim h (fun h => (Or.inr (Or.inr (Or.inl h)))) (fun h => (Or.inr (Or.inr (Or.inr (Or.inl h)))))))))
            exact hH _ _ I_40 F_42 ⟨by omega, by omega⟩ (by omega)
          · refine k_Tokens_add I ⟨by omega, by omega⟩ ⟨by omega, by omega⟩ ⟨by omega, by omega⟩ (fun g45 I_43 F_44 => ?_)
            have F_45 : zk_fr (fr_Tokens_split r3) g0 g45 := zk_ft F F_44 (fun a i => (fun h => Or.elim h (fun h => (Or.inl h)) (fun h => Or.elim h (fun h => (Or.inr (Or.inl h))) (fun h => Or.elim h (fun h => (Or.inr (Or.inr (Or.inl h)))) (fun h => (Or.inr (Or.inr (Or.inr (Or.inl h)))))))))
            exact hH _ _ I_43 F_45 ⟨by omega, by omega⟩ (by omega)
      · exact hH _ _ I F ⟨by omega, by omega⟩ (by omega)
set_option maxRecDepth 100000 in
set_option maxHeartbeats 4000000 in
theorem k_Tokens_split_b40 {r3 : Nat} (hr3 : zs_str r3) {l2 : Int} {l4 : Int} {H : Int → zi_M → Prop} {K209 : zi_M → Prop} {Q : Int → zi_M → Prop} {g : zi_M} {g0 : zi_M} (I : zk_I g) (F : zk_fr (fr_Tokens_split r3) g0 g) (p2 : 1 ≤ l2 ∧ l2 ≤ 400) (p4 : 1 ≤ l4 ∧ l4 ≤ 399) (M : Int) (hM : 400 - l4 ≤ M) (hH : ∀ (m4 : Int) (g : zi_M), zk_I g → zk_fr (fr_Tokens_split r3) g0 g → (0 ≤ m4 ∧ m4 ≤ 400) → 400 - m4 < M → H m4 g) (hK209 : ∀ (g : zi_M), zk_I g → zk_fr (fr_Tokens_split r3) g0 g → K209 g) (hQ : ∀ g' : zi_M, zk_I g' → zk_fr (fr_Tokens_split r3) g0 g' → Q 0 g') : w_Tokens_split_b40 r3 l2 l4 g H K209 Q := by
  unfold w_Tokens_split_b40
  refine ⟨⟨by omega, by omega⟩, ?_⟩
  have m_54 : 0 ≤ (g 190 l4) ∧ (g 190 l4) ≤ 255 := I.1 190 l4
  refine k_Tokens_isDigit I ⟨by omega, by omega⟩ (fun v57 b_55 b_56 b_57 => ?_)
  refine ⟨fun c65 => ?_, fun c65 => ?_⟩
  · exact k_Tokens_split_b67 hr3 I F ⟨by omega, by omega⟩ ⟨by omega, by omega⟩ ⟨by omega, by omega⟩ M (by omega) hH hK209 hQ
  · refine ⟨⟨by omega, by omega⟩, ?_⟩
    have m_58 : 0 ≤ (g 190 (l4 - 1)) ∧ (g 190 (l4 - 1)) ≤ 255 := I.1 190 (l4 - 1)
    refine k_Tokens_isDigit I ⟨by omega, by omega⟩ (fun v61 b_59 b_60 b_61 => ?_)
    refine ⟨fun c64 => ?_, fun c64 => ?_⟩
    · exact k_Tokens_split_b67 hr3 I F ⟨by omega, by omega⟩ ⟨by omega, by omega⟩ ⟨by omega, by omega⟩ M (by omega) hH hK209 hQ
    · exact k_Tokens_split_b67 hr3 I F ⟨by omega, by omega⟩ ⟨by omega, by omega⟩ ⟨by omega, by omega⟩ M (by omega) hH hK209 hQ
set_option maxRecDepth 100000 in
set_option maxHeartbeats 4000000 in
theorem k_Tokens_split_l7 {r3 : Nat} (hr3 : zs_str r3) {l2 : Int} {K209 : zi_M → Prop} {Q : Int → zi_M → Prop} {g0 : zi_M} (q2 : 0 ≤ l2 ∧ l2 ≤ 400) (hK209 : ∀ (g : zi_M), zk_I g → zk_fr (fr_Tokens_split r3) g0 g → K209 g) (hQ : ∀ g' : zi_M, zk_I g' → zk_fr (fr_Tokens_split r3) g0 g' → Q 0 g') : ∀ (n : Nat) {l4 : Int} {g : zi_M}, zk_I g → zk_fr (fr_Tokens_split r3) g0 g → (0 ≤ l4 ∧ l4 ≤ 400) → 400 - l4 < (n : Int) → w_Tokens_split_l7 r3 l2 K209 Q n l4 g
  | 0, l4, g, I, F, b0, hm => by exfalso; omega
  | n + 1, l4, g, I, F, b0, hm => by
    unfold w_Tokens_split_l7
    refine ⟨⟨by omega, by omega⟩, ⟨by omega, by omega⟩, ?_⟩
    refine ⟨fun c73 => ?_, fun c73 => ?_⟩
    · exact hK209 _ I F
    · refine ⟨fun c72 => ?_, fun c72 => ?_⟩
      · exact k_Tokens_split_b67 hr3 I F ⟨by omega, by omega⟩ ⟨by omega, by omega⟩ ⟨by omega, by omega⟩ (n : Int) (by omega) (fun _ _ I F b0 hm => k_Tokens_split_l7 hr3 q2 hK209 hQ n I F b0 hm) hK209 hQ
      · refine ⟨⟨by omega, by omega⟩, ?_⟩
        have m_46 : 0 ≤ (g 190 l4) ∧ (g 190 l4) ≤ 255 := I.1 190 l4
        refine k_Tokens_isLetter I ⟨by omega, by omega⟩ (fun v53 b_47 b_48 b_49 b_50 b_51 b_52 b_53 => ?_)
        refine ⟨fun c71 => ?_, fun c71 => ?_⟩
        · exact k_Tokens_split_b40 hr3 I F ⟨by omega, by omega⟩ ⟨by omega, by omega⟩ (n : Int) (by omega) (fun _ _ I F b0 hm => k_Tokens_split_l7 hr3 q2 hK209 hQ n I F b0 hm) hK209 hQ
        · refine ⟨⟨by omega, by omega⟩, ?_⟩
          have m_62 : 0 ≤ (g 190 (l4 - 1)) ∧ (g 190 (l4 - 1)) ≤ 255 := I.1 190 (l4 - 1)
          refine k_Tokens_isLetter I ⟨by omega, by omega⟩ (fun v67 b_63 b_64 b_65 b_66 b_67 b_68 b_69 => ?_)
          refine ⟨fun c70 => ?_, fun c70 => ?_⟩
          · exact k_Tokens_split_b67 hr3 I F ⟨by omega, by omega⟩ ⟨by omega, by omega⟩ ⟨by omega, by omega⟩ (n : Int) (by omega) (fun _ _ I F b0 hm => k_Tokens_split_l7 hr3 q2 hK209 hQ n I F b0 hm) hK209 hQ
          · exact k_Tokens_split_b40 hr3 I F ⟨by omega, by omega⟩ ⟨by omega, by omega⟩ (n : Int) (by omega) (fun _ _ I F b0 hm => k_Tokens_split_l7 hr3 q2 hK209 hQ n I F b0 hm) hK209 hQ
set_option maxRecDepth 100000 in
set_option maxHeartbeats 4000000 in
theorem k_Tokens_split {r3 : Nat} (hr3 : zs_str r3) {l2 : Int} {g : zi_M} {Q : Int → zi_M → Prop} (I : zk_I g) (p2 : 0 ≤ l2 ∧ l2 ≤ 400) (hQ : ∀ g' : zi_M, zk_I g' → zk_fr (fr_Tokens_split r3) g g' → Q 0 g') : w_Tokens_split r3 l2 g Q := by
  unfold w_Tokens_split
  refine k_Tokens_clear I (fun g2 I_1 F_2 => ?_)
  have F_3 : zk_fr (fr_Tokens_split r3) g g2 := zk_ft (zk_f0 _) F_2 (fun a i => (fun h => Or.elim h (fun h => (Or.inr (Or.inr (Or.inr (Or.inl h))))) (fun h => Or.elim h (fun h => (Or.inr (Or.inr (Or.inr (Or.inr (Or.inl h)))))) (fun h => Or.elim h (fun h => (Or.inr (Or.inr (Or.inr (Or.inr (Or.inr (Or.inl h))))))) (fun h => (Or.inr (Or.inr (Or.inr (Or.inr (Or.inr (Or.inr h)))))))))))
  refine ⟨((400 - 0 : Int).toNat + 1), k_Tokens_split_l7 (l2 := l2) hr3 ⟨by omega, by omega⟩ (fun g74 I_70 F_71 => ?_) hQ ((400 - 0 : Int).toNat + 1) I_1 F_3 ⟨by omega, by omega⟩ (by omega)⟩
  refine k_Tokens_add I_70 ⟨by omega, by omega⟩ ⟨by omega, by omega⟩ ⟨by omega, by omega⟩ (fun g76 I_72 F_73 => ?_)
  have F_74 : zk_fr (fr_Tokens_split r3) g g76 := zk_ft F_71 F_73 (fun a i => (fun h => Or.elim h (fun h => (Or.inl h)) (fun h => Or.elim h (fun h => (Or.inr (Or.inl h))) (fun h => Or.elim h (fun h => (Or.inr (Or.inr (Or.inl h)))) (fun h => (Or.inr (Or.inr (Or.inr (Or.inl h)))))))))
  exact hQ _ I_72 F_74
-- SpoutNews$Law.clear()V
noncomputable def fr_Law_clear (a : Nat) (i : Int) : Prop := (a = 196 ∧ i = 2) ∨ (a = 196 ∧ i = 7)
set_option maxRecDepth 100000 in
set_option maxHeartbeats 4000000 in
theorem k_Law_clear {g : zi_M} {Q : Int → zi_M → Prop} (I : zk_I g) (hQ : ∀ g' : zi_M, zk_I g' → zk_fr fr_Law_clear g g' → Q 0 g') : w_Law_clear g Q := by
  unfold w_Law_clear
  intro g1 e_1
  have I_2 : zk_I g1 := by rw [e_1]; exact zk_upd (L := 0) (H := 400) rfl rfl I ⟨by omega, by omega⟩
  have F_3 : zk_fr fr_Law_clear g g1 := by rw [e_1]; exact zk_fu (zk_f0 _) (Or.inl ⟨rfl, rfl⟩)
  intro g2 e_4
  have I_5 : zk_I g2 := by rw [e_4]; exact zk_upd (L := 0) (H := 16) rfl rfl I_2 ⟨by omega, by omega⟩
  have F_6 : zk_fr fr_Law_clear g g2 := by rw [e_4]; exact zk_fu F_3 (Or.inr ⟨rfl, rfl⟩)
  exact hQ _ I_5 F_6
-- SpoutNews$Tokens.isAtEnd()Z
set_option maxRecDepth 100000 in
set_option maxHeartbeats 4000000 in
theorem k_Tokens_isAtEnd {g : zi_M} {Q : Int → zi_M → Prop} (I : zk_I g) (hQ : ∀ v : Int, ((g 191 3) ≤ (g 191 4) → v = 1) → ((g 191 4) < (g 191 3) → ¬ (g 192 (g 191 4)) = 4 → v = 0) → ((g 191 4) < (g 191 3) → (g 192 (g 191 4)) = 4 → v = 1) → Q v g) : w_Tokens_isAtEnd g Q := by
  unfold w_Tokens_isAtEnd
  have m_1 : 0 ≤ (g 191 4) ∧ (g 191 4) ≤ 401 := I.1 191 4
  have m_2 : 0 ≤ (g 191 3) ∧ (g 191 3) ≤ 401 := I.1 191 3
  refine ⟨⟨by omega, by omega⟩, ⟨by omega, by omega⟩, ?_⟩
  refine ⟨fun c6 => ?_, fun c6 => ?_⟩
  · have m_3 : 0 ≤ (g 192 (g 191 4)) ∧ (g 192 (g 191 4)) ≤ 4 := I.1 192 (g 191 4)
    exact hQ _ (by intros; omega) (by intros; omega) (by intros; omega)
  · refine ⟨⟨by omega, by omega⟩, ?_⟩
    have m_4 : 0 ≤ (g 192 (g 191 4)) ∧ (g 192 (g 191 4)) ≤ 4 := I.1 192 (g 191 4)
    refine ⟨⟨by omega, by omega⟩, ?_⟩
    refine ⟨fun c5 => ?_, fun c5 => ?_⟩
    · exact hQ _ (by intros; omega) (by intros; omega) (by intros; omega)
    · exact hQ _ (by intros; omega) (by intros; omega) (by intros; omega)
-- SpoutNews$Tokens.keyword()I
set_option maxRecDepth 100000 in
set_option maxHeartbeats 4000000 in
theorem k_Tokens_keyword {g : zi_M} {Q : Int → zi_M → Prop} (I : zk_I g) (hQ : ∀ v : Int, ((g 191 3) ≤ (g 191 4) → v = (-1)) → ((g 191 4) < (g 191 3) → ¬ (g 192 (g 191 4)) = 2 → v = (-1)) → ((g 191 4) < (g 191 3) → (g 192 (g 191 4)) = 2 → v = g 193 (g 191 4)) → Q v g) : w_Tokens_keyword g Q := by
  unfold w_Tokens_keyword
  have m_1 : 0 ≤ (g 191 4) ∧ (g 191 4) ≤ 401 := I.1 191 4
  have m_2 : 0 ≤ (g 191 3) ∧ (g 191 3) ≤ 401 := I.1 191 3
  refine ⟨⟨by omega, by omega⟩, ⟨by omega, by omega⟩, ?_⟩
  refine ⟨fun c6 => ?_, fun c6 => ?_⟩
  · have m_3 : 0 ≤ (g 192 (g 191 4)) ∧ (g 192 (g 191 4)) ≤ 4 := I.1 192 (g 191 4)
    have m_4 : (-1) ≤ (g 193 (g 191 4)) ∧ (g 193 (g 191 4)) ≤ 9999 := I.1 193 (g 191 4)
    exact hQ _ (by intros; omega) (by intros; omega) (by intros; omega)
  · refine ⟨⟨by omega, by omega⟩, ?_⟩
    have m_5 : 0 ≤ (g 192 (g 191 4)) ∧ (g 192 (g 191 4)) ≤ 4 := I.1 192 (g 191 4)
    refine ⟨⟨by omega, by omega⟩, ?_⟩
    refine ⟨fun c5 => ?_, fun c5 => ?_⟩
    · have m_6 : (-1) ≤ (g 193 (g 191 4)) ∧ (g 193 (g 191 4)) ≤ 9999 := I.1 193 (g 191 4)
      exact hQ _ (by intros; omega) (by intros; omega) (by intros; omega)
    · have m_7 : (-1) ≤ (g 193 (g 191 4)) ∧ (g 193 (g 191 4)) ≤ 9999 := I.1 193 (g 191 4)
      exact hQ _ (by intros; omega) (by intros; omega) (by intros; omega)
-- SpoutNews$Tokens.isAt(II)Z
set_option maxRecDepth 100000 in
set_option maxHeartbeats 4000000 in
theorem k_Tokens_isAt {l1 : Int} {l2 : Int} {g : zi_M} {Q : Int → zi_M → Prop} (I : zk_I g) (p1 : 2 ≤ l1 ∧ l1 ≤ 3) (p2 : 0 ≤ l2 ∧ l2 ≤ 62) (hQ : ∀ v : Int, ((g 191 3) ≤ (g 191 4) → v = 0) → ((g 191 4) < (g 191 3) → ¬ (g 192 (g 191 4)) = l1 → v = 0) → ((g 191 4) < (g 191 3) → (g 192 (g 191 4)) = l1 → ¬ (g 193 (g 191 4)) = l2 → v = 0) → ((g 191 4) < (g 191 3) → (g 192 (g 191 4)) = l1 → (g 193 (g 191 4)) = l2 → v = 1) → Q v g) : w_Tokens_isAt l1 l2 g Q := by
  unfold w_Tokens_isAt
  have m_1 : 0 ≤ (g 191 4) ∧ (g 191 4) ≤ 401 := I.1 191 4
  have m_2 : 0 ≤ (g 191 3) ∧ (g 191 3) ≤ 401 := I.1 191 3
  refine ⟨⟨by omega, by omega⟩, ⟨by omega, by omega⟩, ?_⟩
  refine ⟨fun c10 => ?_, fun c10 => ?_⟩
  · have m_3 : 0 ≤ (g 192 (g 191 4)) ∧ (g 192 (g 191 4)) ≤ 4 := I.1 192 (g 191 4)
    have m_4 : (-1) ≤ (g 193 (g 191 4)) ∧ (g 193 (g 191 4)) ≤ 9999 := I.1 193 (g 191 4)
    exact hQ _ (by intros; omega) (by intros; omega) (by intros; omega) (by intros; omega)
  · refine ⟨⟨by omega, by omega⟩, ?_⟩
    have m_5 : 0 ≤ (g 192 (g 191 4)) ∧ (g 192 (g 191 4)) ≤ 4 := I.1 192 (g 191 4)
    refine ⟨⟨by omega, by omega⟩, ⟨by omega, by omega⟩, ?_⟩
    refine ⟨fun c9 => ?_, fun c9 => ?_⟩
    · have m_6 : (-1) ≤ (g 193 (g 191 4)) ∧ (g 193 (g 191 4)) ≤ 9999 := I.1 193 (g 191 4)
      exact hQ _ (by intros; omega) (by intros; omega) (by intros; omega) (by intros; omega)
    · have m_7 : (-1) ≤ (g 193 (g 191 4)) ∧ (g 193 (g 191 4)) ≤ 9999 := I.1 193 (g 191 4)
      refine ⟨⟨by omega, by omega⟩, ⟨by omega, by omega⟩, ?_⟩
      refine ⟨fun c8 => ?_, fun c8 => ?_⟩
      · exact hQ _ (by intros; omega) (by intros; omega) (by intros; omega) (by intros; omega)
      · exact hQ _ (by intros; omega) (by intros; omega) (by intros; omega) (by intros; omega)
-- SpoutNews$Tokens.step()V
noncomputable def fr_Tokens_step (a : Nat) (i : Int) : Prop := (a = 191 ∧ i = 4)
set_option maxRecDepth 100000 in
set_option maxHeartbeats 4000000 in
theorem k_Tokens_step {g : zi_M} {Q : Int → zi_M → Prop} (I : zk_I g) (hQ : ∀ g' : zi_M, zk_I g' → zk_fr fr_Tokens_step g g' → Q 0 g') : w_Tokens_step g Q := by
  unfold w_Tokens_step
  have m_1 : 0 ≤ (g 191 4) ∧ (g 191 4) ≤ 401 := I.1 191 4
  have m_2 : 0 ≤ (g 191 3) ∧ (g 191 3) ≤ 401 := I.1 191 3
  refine ⟨⟨by omega, by omega⟩, ⟨by omega, by omega⟩, ?_⟩
  refine ⟨fun c4 => ?_, fun c4 => ?_⟩
  · exact hQ _ I (zk_f0 _)
  · intro g3 e_3
    have I_4 : zk_I g3 := by rw [e_3]; exact zk_upd (L := 0) (H := 401) rfl rfl I ⟨by omega, by omega⟩
    have F_5 : zk_fr fr_Tokens_step g g3 := by rw [e_3]; exact zk_fu (zk_f0 _) ⟨rfl, rfl⟩
    exact hQ _ I_4 F_5
-- SpoutNews$Tokens.refuse(I)Z
noncomputable def fr_Tokens_refuse (a : Nat) (i : Int) : Prop := (a = 191 ∧ i = 5) ∨ (a = 191 ∧ i = 6)
set_option maxRecDepth 100000 in
set_option maxHeartbeats 4000000 in
theorem k_Tokens_refuse {l1 : Int} {g : zi_M} {Q : Int → zi_M → Prop} (I : zk_I g) (p1 : 1 ≤ l1 ∧ l1 ≤ 3) (hQ : ∀ (v : Int) (g' : zi_M), zk_I g' → zk_fr fr_Tokens_refuse g g' → (0 ≤ v ∧ v ≤ 0) → Q v g') : w_Tokens_refuse l1 g Q := by
  unfold w_Tokens_refuse
  intro g1 e_1
  have I_2 : zk_I g1 := by rw [e_1]; exact zk_upd (L := 0) (H := 3) rfl rfl I ⟨by omega, by omega⟩
  have F_3 : zk_fr fr_Tokens_refuse g g1 := by rw [e_1]; exact zk_fu (zk_f0 _) (Or.inl ⟨rfl, rfl⟩)
  have m_4 : 0 ≤ (g1 191 4) ∧ (g1 191 4) ≤ 401 := I_2.1 191 4
  have m_5 : g1 191 4 = g 191 4 := by rw [e_1]; exact zi_u_ni (by decide)
  have m_6 : 0 ≤ (g 191 4) ∧ (g 191 4) ≤ 401 := I.1 191 4
  have m_7 : 0 ≤ (g1 191 3) ∧ (g1 191 3) ≤ 401 := I_2.1 191 3
  have m_8 : g1 191 3 = g 191 3 := by rw [e_1]; exact zi_u_ni (by decide)
  have m_9 : 0 ≤ (g 191 3) ∧ (g 191 3) ≤ 401 := I.1 191 3
  refine ⟨⟨by omega, by omega⟩, ⟨by omega, by omega⟩, ?_⟩
  refine ⟨fun c7 => ?_, fun c7 => ?_⟩
  · intro g4 e_10
    have I_11 : zk_I g4 := by rw [e_10]; exact zk_upd (L := (-1)) (H := 400) rfl rfl I_2 ⟨by omega, by omega⟩
    have F_12 : zk_fr fr_Tokens_refuse g g4 := by rw [e_10]; exact zk_fu F_3 (Or.inr ⟨rfl, rfl⟩)
    exact hQ _ _ I_11 F_12 ⟨by omega, by omega⟩
  · refine ⟨⟨by omega, by omega⟩, ?_⟩
    have m_16 : 0 ≤ (g1 194 (g1 191 4)) ∧ (g1 194 (g1 191 4)) ≤ 400 := I_2.1 194 (g1 191 4)
    have m_17 : g1 194 (g1 191 4) = g 194 (g1 191 4) := by rw [e_1]; exact zi_u_ne (by decide)
    have m_18 : 0 ≤ (g 194 (g1 191 4)) ∧ (g 194 (g1 191 4)) ≤ 400 := I.1 194 (g1 191 4)
    intro g6 e_13
    have I_14 : zk_I g6 := by rw [e_13]; exact zk_upd (L := (-1)) (H := 400) rfl rfl I_2 ⟨by omega, by omega⟩
    have F_15 : zk_fr fr_Tokens_refuse g g6 := by rw [e_13]; exact zk_fu F_3 (Or.inr ⟨rfl, rfl⟩)
    exact hQ _ _ I_14 F_15 ⟨by omega, by omega⟩
-- SpoutNews$Tokens.take(II)Z
noncomputable def fr_Tokens_take (a : Nat) (i : Int) : Prop := (a = 191 ∧ i = 4) ∨ (a = 191 ∧ i = 5) ∨ (a = 191 ∧ i = 6)
set_option maxRecDepth 100000 in
set_option maxHeartbeats 4000000 in
theorem k_Tokens_take {l1 : Int} {l2 : Int} {g : zi_M} {Q : Int → zi_M → Prop} (I : zk_I g) (p1 : 2 ≤ l1 ∧ l1 ≤ 3) (p2 : 0 ≤ l2 ∧ l2 ≤ 59) (hQ : ∀ (v : Int) (g' : zi_M), zk_I g' → zk_fr fr_Tokens_take g g' → (0 ≤ v ∧ v ≤ 1) → Q v g') : w_Tokens_take l1 l2 g Q := by
  unfold w_Tokens_take
  have m_5 : 0 ≤ (g 191 4) ∧ (g 191 4) ≤ 401 := I.1 191 4
  have m_6 : 0 ≤ (g 191 3) ∧ (g 191 3) ≤ 401 := I.1 191 3
  have m_7 : 0 ≤ (g 192 (g 191 4)) ∧ (g 192 (g 191 4)) ≤ 4 := I.1 192 (g 191 4)
  have m_8 : (-1) ≤ (g 193 (g 191 4)) ∧ (g 193 (g 191 4)) ≤ 9999 := I.1 193 (g 191 4)
  refine k_Tokens_isAt I ⟨by omega, by omega⟩ ⟨by omega, by omega⟩ (fun v1 b_1 b_2 b_3 b_4 => ?_)
  refine ⟨fun c10 => ?_, fun c10 => ?_⟩
  · refine k_Tokens_step I (fun g5 I_9 F_10 => ?_)
    have F_11 : zk_fr fr_Tokens_take g g5 := zk_ft (zk_f0 _) F_10 (fun a i => (fun h => (Or.inl h)))
    exact hQ _ _ I_9 F_11 ⟨by omega, by omega⟩
  · refine k_Tokens_refuse I ⟨by omega, by omega⟩ (fun v7 g8 I_13 F_14 b_12 => ?_)
    have F_15 : zk_fr fr_Tokens_take g g8 := zk_ft (zk_f0 _) F_14 (fun a i => (fun h => Or.elim h (fun h => (Or.inr (Or.inl h))) (fun h => (Or.inr (Or.inr h)))))
    exact hQ _ _ I_13 F_15 ⟨by omega, by omega⟩
-- SpoutNews$Tokens.takeLineStart(II)Z
noncomputable def fr_Tokens_takeLineStart (a : Nat) (i : Int) : Prop := (a = 191 ∧ i = 4) ∨ (a = 191 ∧ i = 5) ∨ (a = 191 ∧ i = 6)
set_option maxRecDepth 100000 in
set_option maxHeartbeats 4000000 in
theorem k_Tokens_takeLineStart {l1 : Int} {l2 : Int} {g : zi_M} {Q : Int → zi_M → Prop} (I : zk_I g) (p1 : 0 ≤ l1 ∧ l1 ≤ 7) (p2 : 0 ≤ l2 ∧ l2 ≤ 17) (hQ : ∀ (v : Int) (g' : zi_M), zk_I g' → zk_fr fr_Tokens_takeLineStart g g' → (0 ≤ v ∧ v ≤ 1) → Q v g') : w_Tokens_takeLineStart l1 l2 g Q := by
  unfold w_Tokens_takeLineStart
  have m_5 : 0 ≤ (g 191 4) ∧ (g 191 4) ≤ 401 := I.1 191 4
  have m_6 : 0 ≤ (g 191 3) ∧ (g 191 3) ≤ 401 := I.1 191 3
  have m_7 : 0 ≤ (g 192 (g 191 4)) ∧ (g 192 (g 191 4)) ≤ 4 := I.1 192 (g 191 4)
  have m_8 : (-1) ≤ (g 193 (g 191 4)) ∧ (g 193 (g 191 4)) ≤ 9999 := I.1 193 (g 191 4)
  refine k_Tokens_isAt I ⟨by omega, by omega⟩ ⟨by omega, by omega⟩ (fun v1 b_1 b_2 b_3 b_4 => ?_)
  refine ⟨fun c15 => ?_, fun c15 => ?_⟩
  · refine k_Tokens_take I ⟨by omega, by omega⟩ ⟨by omega, by omega⟩ (fun v4 g5 I_10 F_11 b_9 => ?_)
    have F_12 : zk_fr fr_Tokens_takeLineStart g g5 := zk_ft (zk_f0 _) F_11 (fun a i => (fun h => Or.elim h (fun h => (Or.inl h)) (fun h => Or.elim h (fun h => (Or.inr (Or.inl h))) (fun h => (Or.inr (Or.inr h))))))
    exact hQ _ _ I_10 F_12 ⟨by omega, by omega⟩
  · refine ⟨⟨by omega, by omega⟩, ?_⟩
    refine ⟨fun c14 => ?_, fun c14 => ?_⟩
    · refine k_Tokens_take I ⟨by omega, by omega⟩ ⟨by omega, by omega⟩ (fun v8 g9 I_14 F_15 b_13 => ?_)
      have F_16 : zk_fr fr_Tokens_takeLineStart g g9 := zk_ft (zk_f0 _) F_15 (fun a i => (fun h => Or.elim h (fun h => (Or.inl h)) (fun h => Or.elim h (fun h => (Or.inr (Or.inl h))) (fun h => (Or.inr (Or.inr h))))))
      exact hQ _ _ I_14 F_16 ⟨by omega, by omega⟩
    · refine k_Tokens_refuse I ⟨by omega, by omega⟩ (fun v11 g12 I_18 F_19 b_17 => ?_)
      have F_20 : zk_fr fr_Tokens_takeLineStart g g12 := zk_ft (zk_f0 _) F_19 (fun a i => (fun h => Or.elim h (fun h => (Or.inr (Or.inl h))) (fun h => (Or.inr (Or.inr h)))))
      exact hQ _ _ I_18 F_20 ⟨by omega, by omega⟩
-- SpoutNews$Tokens.number()I
set_option maxRecDepth 100000 in
set_option maxHeartbeats 4000000 in
theorem k_Tokens_number {g : zi_M} {Q : Int → zi_M → Prop} (I : zk_I g) (hQ : ∀ v : Int, ((g 191 3) ≤ (g 191 4) → v = (-1)) → ((g 191 4) < (g 191 3) → ¬ (g 192 (g 191 4)) = 1 → v = (-1)) → ((g 191 4) < (g 191 3) → (g 192 (g 191 4)) = 1 → v = g 193 (g 191 4)) → Q v g) : w_Tokens_number g Q := by
  unfold w_Tokens_number
  have m_1 : 0 ≤ (g 191 4) ∧ (g 191 4) ≤ 401 := I.1 191 4
  have m_2 : 0 ≤ (g 191 3) ∧ (g 191 3) ≤ 401 := I.1 191 3
  refine ⟨⟨by omega, by omega⟩, ⟨by omega, by omega⟩, ?_⟩
  refine ⟨fun c6 => ?_, fun c6 => ?_⟩
  · have m_3 : 0 ≤ (g 192 (g 191 4)) ∧ (g 192 (g 191 4)) ≤ 4 := I.1 192 (g 191 4)
    have m_4 : (-1) ≤ (g 193 (g 191 4)) ∧ (g 193 (g 191 4)) ≤ 9999 := I.1 193 (g 191 4)
    exact hQ _ (by intros; omega) (by intros; omega) (by intros; omega)
  · refine ⟨⟨by omega, by omega⟩, ?_⟩
    have m_5 : 0 ≤ (g 192 (g 191 4)) ∧ (g 192 (g 191 4)) ≤ 4 := I.1 192 (g 191 4)
    refine ⟨⟨by omega, by omega⟩, ?_⟩
    refine ⟨fun c5 => ?_, fun c5 => ?_⟩
    · have m_6 : (-1) ≤ (g 193 (g 191 4)) ∧ (g 193 (g 191 4)) ≤ 9999 := I.1 193 (g 191 4)
      exact hQ _ (by intros; omega) (by intros; omega) (by intros; omega)
    · have m_7 : (-1) ≤ (g 193 (g 191 4)) ∧ (g 193 (g 191 4)) ≤ 9999 := I.1 193 (g 191 4)
      exact hQ _ (by intros; omega) (by intros; omega) (by intros; omega)
-- SpoutNews$Law.add(II)V
noncomputable def fr_Law_add (a : Nat) (i : Int) : Prop := a = 197 ∨ a = 198 ∨ (a = 196 ∧ i = 2)
set_option maxRecDepth 100000 in
set_option maxHeartbeats 4000000 in
theorem k_Law_add {l1 : Int} {l2 : Int} {g : zi_M} {Q : Int → zi_M → Prop} (I : zk_I g) (p1 : 0 ≤ l1 ∧ l1 ≤ 11) (p2 : 0 ≤ l2 ∧ l2 ≤ 9999) (hQ : ∀ g' : zi_M, zk_I g' → zk_fr fr_Law_add g g' → Q 0 g') : w_Law_add l1 l2 g Q := by
  unfold w_Law_add
  have m_1 : 0 ≤ (g 196 2) ∧ (g 196 2) ≤ 400 := I.1 196 2
  refine ⟨⟨by omega, by omega⟩, ?_⟩
  refine ⟨fun c7 => ?_, fun c7 => ?_⟩
  · exact hQ _ I (zk_f0 _)
  · refine ⟨⟨by omega, by omega⟩, ?_⟩
    intro g3 e_2
    have I_3 : zk_I g3 := by rw [e_2]; exact zk_upd (L := (-2147483648)) (H := 2147483647) rfl rfl I ⟨by omega, by omega⟩
    have F_4 : zk_fr fr_Law_add g g3 := by rw [e_2]; exact zk_fu (zk_f0 _) (Or.inl rfl)
    have m_8 : 0 ≤ (g3 196 2) ∧ (g3 196 2) ≤ 400 := I_3.1 196 2
    have m_9 : g3 196 2 = g 196 2 := by rw [e_2]; exact zi_u_ne (by decide)
    refine ⟨⟨by omega, by omega⟩, ?_⟩
    intro g5 e_5
    have I_6 : zk_I g5 := by rw [e_5]; exact zk_upd (L := 0) (H := 9999) rfl rfl I_3 ⟨by omega, by omega⟩
    have F_7 : zk_fr fr_Law_add g g5 := by rw [e_5]; exact zk_fu F_4 (Or.inr (Or.inl rfl))
    have m_13 : 0 ≤ (g5 196 2) ∧ (g5 196 2) ≤ 400 := I_6.1 196 2
    have m_14 : g5 196 2 = g3 196 2 := by rw [e_5]; exact zi_u_ne (by decide)
    intro g6 e_10
    have I_11 : zk_I g6 := by rw [e_10]; exact zk_upd (L := 0) (H := 400) rfl rfl I_6 ⟨by omega, by omega⟩
    have F_12 : zk_fr fr_Law_add g g6 := by rw [e_10]; exact zk_fu F_7 (Or.inr (Or.inr ⟨rfl, rfl⟩))
    exact hQ _ I_11 F_12
-- SpoutNews$LawReader.unit(LSpoutNews$Tokens;LSpoutNews$Law;)Z
noncomputable def fr_LawReader_unit (a : Nat) (i : Int) : Prop := a = 197 ∨ a = 198 ∨ (a = 191 ∧ i = 4) ∨ (a = 191 ∧ i = 5) ∨ (a = 191 ∧ i = 6) ∨ (a = 196 ∧ i = 2)
set_option maxRecDepth 100000 in
set_option maxHeartbeats 4000000 in
theorem k_LawReader_unit {g : zi_M} {Q : Int → zi_M → Prop} (I : zk_I g) (hQ : ∀ (v : Int) (g' : zi_M), zk_I g' → zk_fr fr_LawReader_unit g g' → (0 ≤ v ∧ v ≤ 1) → Q v g') : w_LawReader_unit g Q := by
  unfold w_LawReader_unit
  have m_4 : 0 ≤ (g 191 4) ∧ (g 191 4) ≤ 401 := I.1 191 4
  have m_5 : 0 ≤ (g 191 3) ∧ (g 191 3) ≤ 401 := I.1 191 3
  have m_6 : 0 ≤ (g 192 (g 191 4)) ∧ (g 192 (g 191 4)) ≤ 4 := I.1 192 (g 191 4)
  have m_7 : (-1) ≤ (g 193 (g 191 4)) ∧ (g 193 (g 191 4)) ≤ 9999 := I.1 193 (g 191 4)
  refine k_Tokens_number I (fun v1 b_1 b_2 b_3 => ?_)
  refine ⟨⟨by omega, by omega⟩, ?_⟩
  refine ⟨fun c31 => ?_, fun c31 => ?_⟩
  · refine k_Tokens_keyword I (fun v5 b_8 b_9 b_10 => ?_)
    refine ⟨⟨by omega, by omega⟩, ?_⟩
    refine ⟨fun c21 => ?_, fun c21 => ?_⟩
    · refine k_Tokens_refuse I ⟨by omega, by omega⟩ (fun v9 g10 I_12 F_13 b_11 => ?_)
      have F_14 : zk_fr fr_LawReader_unit g g10 := zk_ft (zk_f0 _) F_13 (fun a i => (fun h => Or.elim h (fun h => (Or.inr (Or.inr (Or.inr (Or.inl h))))) (fun h => (Or.inr (Or.inr (Or.inr (Or.inr (Or.inl h))))))))
      exact hQ _ _ I_12 F_14 ⟨by omega, by omega⟩
    · refine k_Tokens_keyword I (fun v12 b_15 b_16 b_17 => ?_)
      refine k_Law_add I ⟨by omega, by omega⟩ ⟨by omega, by omega⟩ (fun g16 I_18 F_19 => ?_)
      have F_20 : zk_fr fr_LawReader_unit g g16 := zk_ft (zk_f0 _) F_19 (fun a i => (fun h => Or.elim h (fun h => (Or.inl h)) (fun h => Or.elim h (fun h => (Or.inr (Or.inl h))) (fun h => (Or.inr (Or.inr (Or.inr (Or.inr (Or.inr h)))))))))
      refine k_Tokens_step I_18 (fun g19 I_21 F_22 => ?_)
      have F_23 : zk_fr fr_LawReader_unit g g19 := zk_ft F_20 F_22 (fun a i => (fun h => (Or.inr (Or.inr (Or.inl h)))))
      exact hQ _ _ I_21 F_23 ⟨by omega, by omega⟩
  · refine k_Tokens_number I (fun v22 b_24 b_25 b_26 => ?_)
    refine k_Law_add I ⟨by omega, by omega⟩ ⟨by omega, by omega⟩ (fun g26 I_27 F_28 => ?_)
    have F_29 : zk_fr fr_LawReader_unit g g26 := zk_ft (zk_f0 _) F_28 (fun a i => (fun h => Or.elim h (fun h => (Or.inl h)) (fun h => Or.elim h (fun h => (Or.inr (Or.inl h))) (fun h => (Or.inr (Or.inr (Or.inr (Or.inr (Or.inr h)))))))))
    refine k_Tokens_step I_27 (fun g29 I_30 F_31 => ?_)
    have F_32 : zk_fr fr_LawReader_unit g g29 := zk_ft F_29 F_31 (fun a i => (fun h => (Or.inr (Or.inr (Or.inl h)))))
    exact hQ _ _ I_30 F_32 ⟨by omega, by omega⟩
-- SpoutNews$LawReader.addLate(LSpoutNews$Law;I)V
noncomputable def fr_LawReader_addLate (a : Nat) (i : Int) : Prop := a = 197 ∨ a = 198 ∨ (a = 196 ∧ i = 2)
set_option maxRecDepth 100000 in
set_option maxHeartbeats 4000000 in
theorem k_LawReader_addLate {l2 : Int} {g : zi_M} {Q : Int → zi_M → Prop} (I : zk_I g) (p2 : (-1) ≤ l2 ∧ l2 ≤ 3) (hQ : ∀ g' : zi_M, zk_I g' → zk_fr fr_LawReader_addLate g g' → Q 0 g') : w_LawReader_addLate l2 g Q := by
  unfold w_LawReader_addLate
  refine ⟨⟨by omega, by omega⟩, ?_⟩
  refine ⟨fun c5 => ?_, fun c5 => ?_⟩
  · exact hQ _ I (zk_f0 _)
  · refine k_Law_add I ⟨by omega, by omega⟩ ⟨by omega, by omega⟩ (fun g3 I_1 F_2 => ?_)
    have F_3 : zk_fr fr_LawReader_addLate g g3 := zk_ft (zk_f0 _) F_2 (fun a i => (fun h => Or.elim h (fun h => (Or.inl h)) (fun h => Or.elim h (fun h => (Or.inr (Or.inl h))) (fun h => (Or.inr (Or.inr h))))))
    exact hQ _ I_1 F_3
-- SpoutNews$LawReader.part(LSpoutNews$Tokens;LSpoutNews$Law;)Z
noncomputable def fr_LawReader_part (a : Nat) (i : Int) : Prop := a = 197 ∨ a = 198 ∨ (a = 191 ∧ i = 4) ∨ (a = 191 ∧ i = 5) ∨ (a = 191 ∧ i = 6) ∨ (a = 196 ∧ i = 2)
set_option maxRecDepth 100000 in
set_option maxHeartbeats 4000000 in
theorem k_LawReader_part {g : zi_M} {Q : Int → zi_M → Prop} (I : zk_I g) (hQ : ∀ (v : Int) (g' : zi_M), zk_I g' → zk_fr fr_LawReader_part g g' → (0 ≤ v ∧ v ≤ 1) → Q v g') : w_LawReader_part g Q := by
  unfold w_LawReader_part
  have m_4 : 0 ≤ (g 191 4) ∧ (g 191 4) ≤ 401 := I.1 191 4
  have m_5 : 0 ≤ (g 191 3) ∧ (g 191 3) ≤ 401 := I.1 191 3
  have m_6 : 0 ≤ (g 192 (g 191 4)) ∧ (g 192 (g 191 4)) ≤ 4 := I.1 192 (g 191 4)
  have m_7 : (-1) ≤ (g 193 (g 191 4)) ∧ (g 193 (g 191 4)) ≤ 9999 := I.1 193 (g 191 4)
  refine k_Tokens_number I (fun v1 b_1 b_2 b_3 => ?_)
  refine ⟨⟨by omega, by omega⟩, ?_⟩
  refine ⟨fun c18 => ?_, fun c18 => ?_⟩
  · refine k_Law_add I ⟨by omega, by omega⟩ ⟨by omega, by omega⟩ (fun g6 I_8 F_9 => ?_)
    have F_10 : zk_fr fr_LawReader_part g g6 := zk_ft (zk_f0 _) F_9 (fun a i => (fun h => Or.elim h (fun h => (Or.inl h)) (fun h => Or.elim h (fun h => (Or.inr (Or.inl h))) (fun h => (Or.inr (Or.inr (Or.inr (Or.inr (Or.inr h)))))))))
    refine k_Tokens_step I_8 (fun g9 I_11 F_12 => ?_)
    have F_13 : zk_fr fr_LawReader_part g g9 := zk_ft F_10 F_12 (fun a i => (fun h => (Or.inr (Or.inr (Or.inl h)))))
    exact hQ _ _ I_11 F_13 ⟨by omega, by omega⟩
  · refine ⟨fun c17 => ?_, fun c17 => ?_⟩
    · refine k_Tokens_refuse I ⟨by omega, by omega⟩ (fun v11 g12 I_15 F_16 b_14 => ?_)
      have F_17 : zk_fr fr_LawReader_part g g12 := zk_ft (zk_f0 _) F_16 (fun a i => (fun h => Or.elim h (fun h => (Or.inr (Or.inr (Or.inr (Or.inl h))))) (fun h => (Or.inr (Or.inr (Or.inr (Or.inr (Or.inl h))))))))
      exact hQ _ _ I_15 F_17 ⟨by omega, by omega⟩
    · refine k_Tokens_refuse I ⟨by omega, by omega⟩ (fun v14 g15 I_19 F_20 b_18 => ?_)
      have F_21 : zk_fr fr_LawReader_part g g15 := zk_ft (zk_f0 _) F_20 (fun a i => (fun h => Or.elim h (fun h => (Or.inr (Or.inr (Or.inr (Or.inl h))))) (fun h => (Or.inr (Or.inr (Or.inr (Or.inr (Or.inl h))))))))
      exact hQ _ _ I_19 F_21 ⟨by omega, by omega⟩
-- SpoutNews$LawReader.sum(LSpoutNews$Tokens;LSpoutNews$Law;)Z
noncomputable def fr_LawReader_sum (a : Nat) (i : Int) : Prop := a = 197 ∨ a = 198 ∨ (a = 191 ∧ i = 4) ∨ (a = 191 ∧ i = 5) ∨ (a = 191 ∧ i = 6) ∨ (a = 196 ∧ i = 2)
set_option maxRecDepth 100000 in
set_option maxHeartbeats 4000000 in
theorem k_LawReader_sum_b99 {l4 : Int} {l5 : Int} {H : Int → Int → Int → zi_M → Prop} {K140 : Int → Int → zi_M → Prop} {Q : Int → zi_M → Prop} {g : zi_M} {g0 : zi_M} (I : zk_I g) (F : zk_fr fr_LawReader_sum g0 g) (p4 : (-1) ≤ l4 ∧ l4 ≤ 3) (p5 : 0 ≤ l5 ∧ l5 ≤ 399) (M : Int) (hM : 400 - l5 ≤ M) (hH : ∀ (m3 : Int) (m4 : Int) (m5 : Int) (g : zi_M), zk_I g → zk_fr fr_LawReader_sum g0 g → (0 ≤ m3 ∧ m3 ≤ 1) → ((-1) ≤ m4 ∧ m4 ≤ 3) → (0 ≤ m5 ∧ m5 ≤ 400) → 400 - m5 < M → H m3 m4 m5 g) (hK140 : ∀ (k3 : Int) (k4 : Int) (g : zi_M), zk_I g → zk_fr fr_LawReader_sum g0 g → (0 ≤ k3 ∧ k3 ≤ 1) → ((-1) ≤ k4 ∧ k4 ≤ 3) → K140 k3 k4 g) (hQ : ∀ (v : Int) (g' : zi_M), zk_I g' → zk_fr fr_LawReader_sum g0 g' → (0 ≤ v ∧ v ≤ 1) → Q v g') : w_LawReader_sum_b99 l4 l5 g H K140 Q := by
  unfold w_LawReader_sum_b99
  refine k_LawReader_addLate I ⟨by omega, by omega⟩ (fun g16 I_21 F_22 => ?_)
  have F_23 : zk_fr fr_LawReader_sum g0 g16 := zk_ft F F_22 (fun a i => (fun h => Or.elim h (fun h => (Or.inl h)) (fun h => Or.elim h (fun h => (Or.inr (Or.inl h))) (fun h => (Or.inr (Or.inr (Or.inr (Or.inr (Or.inr h)))))))))
  have m_28 : 0 ≤ (g16 191 4) ∧ (g16 191 4) ≤ 401 := I_21.1 191 4
  have m_29 : g16 191 4 = g 191 4 := F_22 _ _ (by unfold fr_LawReader_addLate; omega)
  have m_30 : 0 ≤ (g 191 4) ∧ (g 191 4) ≤ 401 := I.1 191 4
  have m_31 : 0 ≤ (g16 191 3) ∧ (g16 191 3) ≤ 401 := I_21.1 191 3
  have m_32 : g16 191 3 = g 191 3 := F_22 _ _ (by unfold fr_LawReader_addLate; omega)
  have m_33 : 0 ≤ (g 191 3) ∧ (g 191 3) ≤ 401 := I.1 191 3
  have m_34 : 0 ≤ (g16 192 (g16 191 4)) ∧ (g16 192 (g16 191 4)) ≤ 4 := I_21.1 192 (g16 191 4)
  have m_35 : g16 192 (g16 191 4) = g 192 (g16 191 4) := F_22 _ _ (by unfold fr_LawReader_addLate; omega)
  have m_36 : 0 ≤ (g 192 (g16 191 4)) ∧ (g 192 (g16 191 4)) ≤ 4 := I.1 192 (g16 191 4)
  have m_37 : (-1) ≤ (g16 193 (g16 191 4)) ∧ (g16 193 (g16 191 4)) ≤ 9999 := I_21.1 193 (g16 191 4)
  have m_38 : g16 193 (g16 191 4) = g 193 (g16 191 4) := F_22 _ _ (by unfold fr_LawReader_addLate; omega)
  have m_39 : (-1) ≤ (g 193 (g16 191 4)) ∧ (g 193 (g16 191 4)) ≤ 9999 := I.1 193 (g16 191 4)
  refine k_Tokens_isAt I_21 ⟨by omega, by omega⟩ ⟨by omega, by omega⟩ (fun v18 b_24 b_25 b_26 b_27 => ?_)
  refine ⟨fun c33 => ?_, fun c33 => ?_⟩
  · refine k_Tokens_step I_21 (fun g22 I_40 F_41 => ?_)
    have F_42 : zk_fr fr_LawReader_sum g0 g22 := zk_ft F_23 F_41 (fun a i => (fun h => (Or.inr (Or.inr (Or.inl h)))))
    refine k_LawReader_unit I_40 (fun v24 g25 I_44 F_45 b_43 => ?_)
    have F_46 : zk_fr fr_LawReader_sum g0 g25 := zk_ft F_42 F_45 (fun a i => (fun h => Or.elim h (fun h => (Or.inl h)) (fun h => Or.elim h (fun h => (Or.inr (Or.inl h))) (fun h => Or.elim h (fun h => (Or.inr (Or.inr (Or.inl h)))) (fun h => Or.elim h (fun h => (Or.inr (Or.inr (Or.inr (Or.inl h))))) (fun h => Or.elim h (fun h => (Or.inr (Or.inr (Or.inr (Or.inr (Or.inl h)))))) (fun h => (Or.inr (Or.inr (Or.inr (Or.inr (Or.inr h))))))))))))
    exact hH _ _ _ _ I_44 F_46 ⟨by omega, by omega⟩ ⟨by omega, by omega⟩ ⟨by omega, by omega⟩ (by omega)
  · refine k_Tokens_step I_21 (fun g28 I_47 F_48 => ?_)
    have F_49 : zk_fr fr_LawReader_sum g0 g28 := zk_ft F_23 F_48 (fun a i => (fun h => (Or.inr (Or.inr (Or.inl h)))))
    refine k_LawReader_unit I_47 (fun v30 g31 I_51 F_52 b_50 => ?_)
    have F_53 : zk_fr fr_LawReader_sum g0 g31 := zk_ft F_49 F_52 (fun a i => (fun h => Or.elim h (fun h => (Or.inl h)) (fun h => Or.elim h (fun h => (Or.inr (Or.inl h))) (fun h => Or.elim h (fun h => (Or.inr (Or.inr (Or.inl h)))) (fun h => Or.elim h (fun h => (Or.inr (Or.inr (Or.inr (Or.inl h))))) (fun h => Or.elim h (fun h => (Or.inr (Or.inr (Or.inr (Or.inr (Or.inl h)))))) (fun h => (Or.inr (Or.inr (Or.inr (Or.inr (Or.inr h))))))))))))
    exact hH _ _ _ _ I_51 F_53 ⟨by omega, by omega⟩ ⟨by omega, by omega⟩ ⟨by omega, by omega⟩ (by omega)
set_option maxRecDepth 100000 in
set_option maxHeartbeats 4000000 in
theorem k_LawReader_sum_l13 {K140 : Int → Int → zi_M → Prop} {Q : Int → zi_M → Prop} {g0 : zi_M} (hK140 : ∀ (k3 : Int) (k4 : Int) (g : zi_M), zk_I g → zk_fr fr_LawReader_sum g0 g → (0 ≤ k3 ∧ k3 ≤ 1) → ((-1) ≤ k4 ∧ k4 ≤ 3) → K140 k3 k4 g) (hQ : ∀ (v : Int) (g' : zi_M), zk_I g' → zk_fr fr_LawReader_sum g0 g' → (0 ≤ v ∧ v ≤ 1) → Q v g') : ∀ (n : Nat) {l3 : Int} {l4 : Int} {l5 : Int} {g : zi_M}, zk_I g → zk_fr fr_LawReader_sum g0 g → (0 ≤ l3 ∧ l3 ≤ 1) → ((-1) ≤ l4 ∧ l4 ≤ 3) → (0 ≤ l5 ∧ l5 ≤ 400) → 400 - l5 < (n : Int) → w_LawReader_sum_l13 K140 Q n l3 l4 l5 g
  | 0, l3, l4, l5, g, I, F, b0, b1, b2, hm => by exfalso; omega
  | n + 1, l3, l4, l5, g, I, F, b0, b1, b2, hm => by
    unfold w_LawReader_sum_l13
    refine ⟨⟨by omega, by omega⟩, ?_⟩
    refine ⟨fun c57 => ?_, fun c57 => ?_⟩
    · exact hK140 _ _ _ I F ⟨by omega, by omega⟩ ⟨by omega, by omega⟩
    · refine ⟨⟨by omega, by omega⟩, ?_⟩
      refine ⟨fun c56 => ?_, fun c56 => ?_⟩
      · exact hK140 _ _ _ I F ⟨by omega, by omega⟩ ⟨by omega, by omega⟩
      · have m_9 : 0 ≤ (g 191 4) ∧ (g 191 4) ≤ 401 := I.1 191 4
        have m_10 : 0 ≤ (g 191 3) ∧ (g 191 3) ≤ 401 := I.1 191 3
        have m_11 : 0 ≤ (g 192 (g 191 4)) ∧ (g 192 (g 191 4)) ≤ 4 := I.1 192 (g 191 4)
        have m_12 : (-1) ≤ (g 193 (g 191 4)) ∧ (g 193 (g 191 4)) ≤ 9999 := I.1 193 (g 191 4)
        refine k_Tokens_isAt I ⟨by omega, by omega⟩ ⟨by omega, by omega⟩ (fun v6 b_5 b_6 b_7 b_8 => ?_)
        refine ⟨fun c55 => ?_, fun c55 => ?_⟩
        · refine k_Tokens_isAt I ⟨by omega, by omega⟩ ⟨by omega, by omega⟩ (fun v9 b_13 b_14 b_15 b_16 => ?_)
          refine ⟨fun c45 => ?_, fun c45 => ?_⟩
          · refine k_Tokens_isAt I ⟨by omega, by omega⟩ ⟨by omega, by omega⟩ (fun v12 b_17 b_18 b_19 b_20 => ?_)
            refine ⟨fun c38 => ?_, fun c38 => ?_⟩
            · exact k_LawReader_sum_b99 I F ⟨by omega, by omega⟩ ⟨by omega, by omega⟩ (n : Int) (by omega) (fun _ _ _ _ I F b0 b1 b2 hm => k_LawReader_sum_l13 hK140 hQ n I F b0 b1 b2 hm) hK140 hQ
            · refine k_Tokens_isAt I ⟨by omega, by omega⟩ ⟨by omega, by omega⟩ (fun v34 b_54 b_55 b_56 b_57 => ?_)
              refine ⟨fun c37 => ?_, fun c37 => ?_⟩
              · exact hK140 _ _ _ I F ⟨by omega, by omega⟩ ⟨by omega, by omega⟩
              · exact k_LawReader_sum_b99 I F ⟨by omega, by omega⟩ ⟨by omega, by omega⟩ (n : Int) (by omega) (fun _ _ _ _ I F b0 b1 b2 hm => k_LawReader_sum_l13 hK140 hQ n I F b0 b1 b2 hm) hK140 hQ
          · refine k_Tokens_step I (fun g40 I_58 F_59 => ?_)
            have F_60 : zk_fr fr_LawReader_sum g0 g40 := zk_ft F F_59 (fun a i => (fun h => (Or.inr (Or.inr (Or.inl h)))))
            refine k_LawReader_part I_58 (fun v42 g43 I_62 F_63 b_61 => ?_)
            have F_64 : zk_fr fr_LawReader_sum g0 g43 := zk_ft F_60 F_63 (fun a i => (fun h => Or.elim h (fun h => (Or.inl h)) (fun h => Or.elim h (fun h => (Or.inr (Or.inl h))) (fun h => Or.elim h (fun h => (Or.inr (Or.inr (Or.inl h)))) (fun h => Or.elim h (fun h => (Or.inr (Or.inr (Or.inr (Or.inl h))))) (fun h => Or.elim h (fun h => (Or.inr (Or.inr (Or.inr (Or.inr (Or.inl h)))))) (fun h => (Or.inr (Or.inr (Or.inr (Or.inr (Or.inr h))))))))))))
            exact k_LawReader_sum_l13 hK140 hQ n I_62 F_64 ⟨by omega, by omega⟩ ⟨by omega, by omega⟩ ⟨by omega, by omega⟩ (by omega)
        · refine k_Tokens_step I (fun g47 I_65 F_66 => ?_)
          have F_67 : zk_fr fr_LawReader_sum g0 g47 := zk_ft F F_66 (fun a i => (fun h => (Or.inr (Or.inr (Or.inl h)))))
          refine k_LawReader_unit I_65 (fun v49 g50 I_69 F_70 b_68 => ?_)
          have F_71 : zk_fr fr_LawReader_sum g0 g50 := zk_ft F_67 F_70 (fun a i => (fun h => Or.elim h (fun h => (Or.inl h)) (fun h => Or.elim h (fun h => (Or.inr (Or.inl h))) (fun h => Or.elim h (fun h => (Or.inr (Or.inr (Or.inl h)))) (fun h => Or.elim h (fun h => (Or.inr (Or.inr (Or.inr (Or.inl h))))) (fun h => Or.elim h (fun h => (Or.inr (Or.inr (Or.inr (Or.inr (Or.inl h)))))) (fun h => (Or.inr (Or.inr (Or.inr (Or.inr (Or.inr h))))))))))))
          refine k_Law_add I_69 ⟨by omega, by omega⟩ ⟨by omega, by omega⟩ (fun g53 I_72 F_73 => ?_)
          have F_74 : zk_fr fr_LawReader_sum g0 g53 := zk_ft F_71 F_73 (fun a i => (fun h => Or.elim h (fun h => (Or.inl h)) (fun h => Or.elim h (fun h => (Or.inr (Or.inl h))) (fun h => (Or.inr (Or.inr (Or.inr (Or.inr (Or.inr h)))))))))
          exact k_LawReader_sum_l13 hK140 hQ n I_72 F_74 ⟨by omega, by omega⟩ ⟨by omega, by omega⟩ ⟨by omega, by omega⟩ (by omega)
set_option maxRecDepth 100000 in
set_option maxHeartbeats 4000000 in
theorem k_LawReader_sum {g : zi_M} {Q : Int → zi_M → Prop} (I : zk_I g) (hQ : ∀ (v : Int) (g' : zi_M), zk_I g' → zk_fr fr_LawReader_sum g g' → (0 ≤ v ∧ v ≤ 1) → Q v g') : w_LawReader_sum g Q := by
  unfold w_LawReader_sum
  refine k_LawReader_unit I (fun v1 g2 I_2 F_3 b_1 => ?_)
  have F_4 : zk_fr fr_LawReader_sum g g2 := zk_ft (zk_f0 _) F_3 (fun a i => (fun h => Or.elim h (fun h => (Or.inl h)) (fun h => Or.elim h (fun h => (Or.inr (Or.inl h))) (fun h => Or.elim h (fun h => (Or.inr (Or.inr (Or.inl h)))) (fun h => Or.elim h (fun h => (Or.inr (Or.inr (Or.inr (Or.inl h))))) (fun h => Or.elim h (fun h => (Or.inr (Or.inr (Or.inr (Or.inr (Or.inl h)))))) (fun h => (Or.inr (Or.inr (Or.inr (Or.inr (Or.inr h))))))))))))
  refine ⟨((400 - 0 : Int).toNat + 1), k_LawReader_sum_l13 (fun k58 k59 g60 I_75 F_76 b_77 b_78 => ?_) hQ ((400 - 0 : Int).toNat + 1) I_2 F_4 ⟨by omega, by omega⟩ ⟨by omega, by omega⟩ ⟨by omega, by omega⟩ (by omega)⟩
  refine k_LawReader_addLate I_75 ⟨by omega, by omega⟩ (fun g62 I_79 F_80 => ?_)
  have F_81 : zk_fr fr_LawReader_sum g g62 := zk_ft F_76 F_80 (fun a i => (fun h => Or.elim h (fun h => (Or.inl h)) (fun h => Or.elim h (fun h => (Or.inr (Or.inl h))) (fun h => (Or.inr (Or.inr (Or.inr (Or.inr (Or.inr h)))))))))
  refine ⟨(by omega), ?_⟩
  exact hQ _ _ I_79 F_81 ⟨by omega, by omega⟩
