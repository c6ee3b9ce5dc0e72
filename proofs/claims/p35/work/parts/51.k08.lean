-- by program (wip/gen/mkz.py)
-- SpoutNewsModel.takesLaw(I)V
noncomputable def fr_M_takesLaw (a : Nat) (i : Int) : Prop := a = 224 ∨ a = 225 ∨ a = 226 ∨ a = 227 ∨ a = 228 ∨ a = 229 ∨ a = 230
theorem k_M_takesLaw_l2 {g0 : zi_M} {l1 : Int} {K : zi_M → Prop} {Q : Int → zi_M → Prop} (q1 : 0 ≤ l1 ∧ l1 ≤ 16) (hK : ∀ g, zk_b g → (∀ a, a ≠ 225 → a ≠ 226 → a ≠ 227 → a ≠ 228 → g a = g0 a) → zR 226 32 l1 g0 g → zR 227 32 l1 g0 g → zR 228 32 l1 g0 g → K g) :
    ∀ (n : Nat) (l2 : Int) (g : zi_M), 0 ≤ l2 → l2 ≤ l1 → zk_b g → (∀ a, a ≠ 225 → a ≠ 226 → a ≠ 227 → a ≠ 228 → g a = g0 a) → zR 226 32 l2 g0 g → zR 227 32 l2 g0 g → zR 228 32 l2 g0 g → 16 - l2 < (n : Int) → w_M_takesLaw_l2 l1 K Q n l2 g
  | 0, l2, g, h0, h1, B, F, R1, R2, R3, hm => by exfalso; omega
  | n + 1, l2, g, h0, h1, B, F, R1, R2, R3, hm => by
    have wb := B 214 26
    have wz : g 214 26 = 0 := by
      have a1 : (0 : Int) ≤ g 214 26 := wb.1
      have a2 : g 214 26 ≤ 0 := wb.2
      omega
    unfold w_M_takesLaw_l2
    refine ⟨⟨by omega, by omega⟩, ⟨by omega, by omega⟩, fun h => ?_, fun h => ⟨⟨by omega, by omega⟩, ⟨by omega, by omega⟩, ?_⟩⟩
    · have e : l2 = l1 := by omega
      rw [e] at R1 R2 R3
      exact hK g B F R1 R2 R3
    · intro g5 e5
      have w5 : g5 214 26 = 0 := by rw [e5, zi_u_ne (by decide)]; exact wz
      refine ⟨⟨by omega, by omega⟩, ?_⟩
      intro g7 e7
      have w7 : g7 214 26 = 0 := by rw [e7, zi_u_ne (by decide)]; exact w5
      refine ⟨⟨by omega, by omega⟩, ?_⟩
      intro g9 e9
      have w9 : g9 214 26 = 0 := by rw [e9, zi_u_ne (by decide)]; exact w7
      refine ⟨⟨by omega, by omega⟩, ?_⟩
      intro g11 e11
      rw [wz, Int.mul_zero, Int.zero_add] at e5
      rw [w5, Int.mul_zero, Int.zero_add] at e7
      rw [w7, Int.mul_zero, Int.zero_add] at e9
      rw [w9, Int.mul_zero, Int.zero_add] at e11
      have B5 : zk_b g5 := by rw [e5]; exact zk_updb (L := -2147483648) (H := 2147483647) rfl rfl B (B 225 (32 + l2))
      have B7 : zk_b g7 := by rw [e7]; exact zk_updb (L := 0) (H := 400) rfl rfl B5 (B5 226 (32 + l2))
      have B9 : zk_b g9 := by rw [e9]; exact zk_updb (L := 0) (H := 400) rfl rfl B7 (B7 227 (32 + l2))
      have B11 : zk_b g11 := by rw [e11]; exact zk_updb (L := 0) (H := 400) rfl rfl B9 (B9 228 (32 + l2))
      refine k_M_takesLaw_l2 q1 hK n (l2 + 1) g11 (by omega) (by omega) B11 (fun a h1 h2 h3 h4 => ?_) ?_ ?_ ?_ (by omega)
      · rw [e11, zi_u_row h4, e9, zi_u_row h3, e7, zi_u_row h2, e5, zi_u_row h1]
        exact F a h1 h2 h3 h4
      · exact zR_n (zR_n (zR_s (zR_n R1 (by decide) e5) h0 (by omega) e7) (by decide) e9) (by decide) e11
      · exact zR_n (zR_s (zR_n (zR_n R2 (by decide) e5) (by decide) e7) h0 (by omega) e9) (by decide) e11
      · exact zR_s (zR_n (zR_n (zR_n R3 (by decide) e5) (by decide) e7) (by decide) e9) h0 (by omega) e11
theorem k_M_takesLaw_l107 {g0 : zi_M} {K : zi_M → Prop} {Q : Int → zi_M → Prop} (hK : ∀ g, zk_b g → (∀ a, a ≠ 229 → a ≠ 230 → g a = g0 a) → zR 229 800 (g0 214 27) g0 g → zR 230 800 (g0 214 27) g0 g → K g) :
    ∀ (n : Nat) (l2 : Int) (g : zi_M), 0 ≤ l2 → l2 ≤ g0 214 27 → zk_b g → (∀ a, a ≠ 229 → a ≠ 230 → g a = g0 a) → zR 229 800 l2 g0 g → zR 230 800 l2 g0 g → 400 - l2 < (n : Int) → w_M_takesLaw_l107 K Q n l2 g
  | 0, l2, g, h0, h1, B, F, R1, R2, hm => by
    have a2 : g 214 27 ≤ 400 := (B 214 27).2
    have : g 214 27 = g0 214 27 := by rw [F 214 (by decide) (by decide)]
    exfalso; omega
  | n + 1, l2, g, h0, h1, B, F, R1, R2, hm => by
    have wb := B 214 26
    have wz : g 214 26 = 0 := by
      have a1 : (0 : Int) ≤ g 214 26 := wb.1
      have a2 : g 214 26 ≤ 0 := wb.2
      omega
    have c2 : g 214 27 ≤ 400 := (B 214 27).2
    have ce : g 214 27 = g0 214 27 := by rw [F 214 (by decide) (by decide)]
    unfold w_M_takesLaw_l107
    refine ⟨⟨by omega, by omega⟩, ⟨by omega, by omega⟩, fun h => ?_, fun h => ⟨⟨by omega, by omega⟩, ⟨by omega, by omega⟩, ?_⟩⟩
    · have e : l2 = g0 214 27 := by omega
      rw [e] at R1 R2
      exact hK g B F R1 R2
    · intro g18 e18
      have w5 : g18 214 26 = 0 := by rw [e18, zi_u_ne (by decide)]; exact wz
      refine ⟨⟨by omega, by omega⟩, ?_⟩
      intro g20 e20
      rw [wz, Int.mul_zero, Int.zero_add] at e18
      rw [w5, Int.mul_zero, Int.zero_add] at e20
      have B18 : zk_b g18 := by rw [e18]; exact zk_updb (L := -2147483648) (H := 2147483647) rfl rfl B (B 229 (800 + l2))
      have B20 : zk_b g20 := by rw [e20]; exact zk_updb (L := -2147483648) (H := 2147483647) rfl rfl B18 (B18 230 (800 + l2))
      refine k_M_takesLaw_l107 hK n (l2 + 1) g20 (by omega) (by omega) B20 (fun a h1 h2 => ?_) ?_ ?_ (by omega)
      · rw [e20, zi_u_row h2, e18, zi_u_row h1]
        exact F a h1 h2
      · exact zR_n (zR_s R1 h0 (by omega) e18) (by decide) e20
      · exact zR_s (zR_n R2 (by decide) e18) h0 (by omega) e20
theorem k_M_takesLaw {l1 : Int} {g : zi_M} {Q : Int → zi_M → Prop} (I : zk_I g) (p1 : 0 ≤ l1 ∧ l1 ≤ 16) (px0 : zLd g l1) (hQ : ∀ g' : zi_M, zk_I g' → zk_fr fr_M_takesLaw g g' → Q 0 g') : w_M_takesLaw l1 g Q := by
  unfold w_M_takesLaw
  refine ⟨17, k_M_takesLaw_l2 p1 (fun g13 B13 F13 R1 R2 R3 => ?_) 17 0 g (by omega) (by omega) I.1 (fun _ _ _ _ _ => rfl) (zR_0 _ _ _) (zR_0 _ _ _) (zR_0 _ _ _) (by omega)⟩
  have c0 : 0 ≤ g13 214 27 := (B13 214 27).1
  have c2 : g13 214 27 ≤ 400 := (B13 214 27).2
  have ce : g13 214 27 = g 214 27 := by rw [F13 214 (by decide) (by decide) (by decide) (by decide)]
  refine ⟨401, k_M_takesLaw_l107 (fun g22 B22 F22 R4 R5 => ?_) 401 0 g13 (by omega) c0 B13 (fun _ _ _ => rfl) (zR_0 _ _ _) (zR_0 _ _ _) (by omega)⟩
  have wb := B22 214 26
  have wz : g22 214 26 = 0 := by
    have a1 : (0 : Int) ≤ g22 214 26 := wb.1
    have a2 : g22 214 26 ≤ 0 := wb.2
    omega
  refine ⟨⟨by omega, by omega⟩, ?_⟩
  intro g24 e24
  rw [wz] at e24
  have FF : ∀ a, a ≠ 224 → a ≠ 225 → a ≠ 226 → a ≠ 227 → a ≠ 228 → a ≠ 229 → a ≠ 230 → g24 a = g a := by
    intro a h0 h1 h2 h3 h4 h5 h6
    rw [e24, zi_u_row h0, F22 a h5 h6, F13 a h1 h2 h3 h4]
  refine hQ g24 ⟨by rw [e24]; exact zk_updb (L := 0) (H := 16) rfl rfl B22 ⟨p1.1, p1.2⟩, ?_⟩ (fun a i ha => by rw [FF a (fun e => ha (Or.inl e)) (fun e => ha (Or.inr (Or.inl e))) (fun e => ha (Or.inr (Or.inr (Or.inl e)))) (fun e => ha (Or.inr (Or.inr (Or.inr (Or.inl e))))) (fun e => ha (Or.inr (Or.inr (Or.inr (Or.inr (Or.inl e)))))) (fun e => ha (Or.inr (Or.inr (Or.inr (Or.inr (Or.inr (Or.inl e))))))) (fun e => ha (Or.inr (Or.inr (Or.inr (Or.inr (Or.inr (Or.inr e)))))))])
  obtain ⟨h1, h2, h3, h4, h5, h6⟩ := I.2
  refine ⟨?_, by rw [FF 234 (by decide) (by decide) (by decide) (by decide) (by decide) (by decide) (by decide)]; exact h2, by rw [FF 244 (by decide) (by decide) (by decide) (by decide) (by decide) (by decide) (by decide)]; exact h3, by rw [FF 250 (by decide) (by decide) (by decide) (by decide) (by decide) (by decide) (by decide)]; exact h4, by rw [FF 250 (by decide) (by decide) (by decide) (by decide) (by decide) (by decide) (by decide)]; exact h5, by rw [FF 250 (by decide) (by decide) (by decide) (by decide) (by decide) (by decide) (by decide)]; exact h6⟩
  have m24 : g24 224 0 = l1 := by rw [e24, zi_u_eq]
  rw [m24]
  intro l l0 ll
  have a1 : g24 226 l = g 226 (32 + l) := by rw [e24, zi_u_ne (by decide), F22 226 (by decide) (by decide)]; exact zR_p R1 l0 ll
  have a2 : g24 227 l = g 227 (32 + l) := by rw [e24, zi_u_ne (by decide), F22 227 (by decide) (by decide)]; exact zR_p R2 l0 ll
  have a3 : g24 228 l = g 228 (32 + l) := by rw [e24, zi_u_ne (by decide), F22 228 (by decide) (by decide)]; exact zR_p R3 l0 ll
  have ao : ∀ i, 0 ≤ i → i < g 214 27 → g24 229 i = g 229 (800 + i) := fun i i0 i1 => by
    rw [e24, zi_u_ne (by decide), zR_p R4 i0 (by omega), F13 229 (by decide) (by decide) (by decide) (by decide)]
  have aa : ∀ i, 0 ≤ i → i < g 214 27 → g24 230 i = g 230 (800 + i) := fun i i0 i1 => by
    rw [e24, zi_u_ne (by decide), zR_p R5 i0 (by omega), F13 230 (by decide) (by decide) (by decide) (by decide)]
  obtain ⟨⟨b1, b2, b3, b4⟩, s1, s2⟩ := px0 l l0 ll
  rw [a1, a2, a3]
  refine ⟨⟨b1, b2, b3, by omega⟩, ?_, ?_⟩
  · exact zj_segc s1 (fun k k1 k2 => ao k (by omega) (by omega)) (fun k k1 k2 => aa k (by omega) (by omega))
  · exact zj_segc s2 (fun k k1 k2 => ao k (by omega) (by omega)) (fun k k1 k2 => aa k (by omega) (by omega))

-- SpoutNewsModel.raw(I)I
set_option maxRecDepth 100000 in
set_option maxHeartbeats 4000000 in
theorem k_M_raw {l1 : Int} {g : zi_M} {Q : Int → zi_M → Prop} (I : zk_I g) (p1 : 0 ≤ l1 ∧ l1 ≤ 400) (hQ : ∀ v : Int, ((g 214 13) ≤ l1 → v = (-1)) → (l1 < (g 214 13) → v = g 222 l1) → Q v g) : w_M_raw l1 g Q := by
  unfold w_M_raw
  have m_1 : 0 ≤ (g 214 13) ∧ (g 214 13) ≤ 400 := I.1 214 13
  refine ⟨⟨by omega, by omega⟩, ⟨by omega, by omega⟩, ?_⟩
  refine ⟨fun c4 => ?_, fun c4 => ?_⟩
  · have m_2 : 0 ≤ (g 222 l1) ∧ (g 222 l1) ≤ 255 := I.1 222 l1
    exact hQ _ (by intros; omega) (by intros; omega)
  · refine ⟨⟨by omega, by omega⟩, ?_⟩
    have m_3 : 0 ≤ (g 222 l1) ∧ (g 222 l1) ≤ 255 := I.1 222 l1
    exact hQ _ (by intros; omega) (by intros; omega)
-- SpoutNewsModel.isLetter(I)Z
set_option maxRecDepth 100000 in
set_option maxHeartbeats 4000000 in
theorem k_M_isLetter {l1 : Int} {g : zi_M} {Q : Int → zi_M → Prop} (I : zk_I g) (p1 : (-1) ≤ l1 ∧ l1 ≤ 255) (hQ : ∀ v : Int, (0 ≤ v ∧ v ≤ 1) → (¬ v = 0 → 65 ≤ l1 ∧ l1 ≤ 122) → Q v g) : w_M_isLetter l1 g Q := by
  unfold w_M_isLetter
  refine k_M_isIn I ⟨by omega, by omega⟩ ⟨by omega, by omega⟩ ⟨by omega, by omega⟩ (fun v1 b_1 b_2 b_3 => ?_)
  refine ⟨fun c8 => ?_, fun c8 => ?_⟩
  · exact hQ _ ⟨by omega, by omega⟩ (by omega)
  · refine k_M_isIn I ⟨by omega, by omega⟩ ⟨by omega, by omega⟩ ⟨by omega, by omega⟩ (fun v4 b_4 b_5 b_6 => ?_)
    refine ⟨fun c7 => ?_, fun c7 => ?_⟩
    · exact hQ _ ⟨by omega, by omega⟩ (by omega)
    · exact hQ _ ⟨by omega, by omega⟩ (by omega)
-- SpoutNewsModel.isDigit(I)Z
set_option maxRecDepth 100000 in
set_option maxHeartbeats 4000000 in
theorem k_M_isDigit {l1 : Int} {g : zi_M} {Q : Int → zi_M → Prop} (I : zk_I g) (p1 : (-1) ≤ l1 ∧ l1 ≤ 255) (hQ : ∀ v : Int, (l1 < 48 → v = 0) → (48 ≤ l1 → 57 < l1 → v = 0) → (48 ≤ l1 → l1 ≤ 57 → v = 1) → Q v g) : w_M_isDigit l1 g Q := by
  unfold w_M_isDigit
  refine k_M_isIn I ⟨by omega, by omega⟩ ⟨by omega, by omega⟩ ⟨by omega, by omega⟩ (fun v1 b_1 b_2 b_3 => ?_)
  exact hQ _ (by intros; omega) (by intros; omega) (by intros; omega)
-- SpoutNewsModel.isMarkSign(I)Z
set_option maxRecDepth 100000 in
set_option maxHeartbeats 4000000 in
theorem k_M_isMarkSign {l1 : Int} {g : zi_M} {Q : Int → zi_M → Prop} (I : zk_I g) (p1 : 0 ≤ l1 ∧ l1 ≤ 255) (hQ : ∀ v : Int, (0 ≤ v ∧ v ≤ 1) → Q v g) : w_M_isMarkSign l1 g Q := by
  unfold w_M_isMarkSign
  refine ⟨⟨by omega, by omega⟩, ?_⟩
  refine ⟨fun c11 => ?_, fun c11 => ?_⟩
  · exact hQ _ ⟨by omega, by omega⟩
  · refine ⟨fun c10 => ?_, fun c10 => ?_⟩
    · exact hQ _ ⟨by omega, by omega⟩
    · refine ⟨fun c9 => ?_, fun c9 => ?_⟩
      · exact hQ _ ⟨by omega, by omega⟩
      · refine ⟨fun c8 => ?_, fun c8 => ?_⟩
        · exact hQ _ ⟨by omega, by omega⟩
        · refine ⟨fun c7 => ?_, fun c7 => ?_⟩
          · exact hQ _ ⟨by omega, by omega⟩
          · refine ⟨fun c6 => ?_, fun c6 => ?_⟩
            · exact hQ _ ⟨by omega, by omega⟩
            · refine ⟨fun c5 => ?_, fun c5 => ?_⟩
              · exact hQ _ ⟨by omega, by omega⟩
              · refine ⟨fun c4 => ?_, fun c4 => ?_⟩
                · exact hQ _ ⟨by omega, by omega⟩
                · refine ⟨fun c3 => ?_, fun c3 => ?_⟩
                  · exact hQ _ ⟨by omega, by omega⟩
                  · refine ⟨fun c2 => ?_, fun c2 => ?_⟩
                    · exact hQ _ ⟨by omega, by omega⟩
                    · exact hQ _ ⟨by omega, by omega⟩
-- SpoutNewsModel.wordAt(II)I
theorem k_M_wordAt_l94 {g : zi_M} (I : zk_I g) {K : Int → zi_M → Prop} {Q : Int → zi_M → Prop} (s : Int) (hs : 0 ≤ s) (hK : ∀ k, s ≤ k → k ≤ 128 → g 223 k = 32 → K k g) : ∀ (n : Nat) (l4 : Int), s ≤ l4 → l4 ≤ 128 → 128 - l4 < (n : Int) → w_M_wordAt_l94 K Q n l4 g
  | 0, l4, h1, h2, hm => by exfalso; omega
  | n + 1, l4, h1, h2, hm => by
    unfold w_M_wordAt_l94
    have wf := zk_wend I (i := l4)
    refine ⟨⟨by omega, by omega⟩, zk_rng I _ _, fun e => hK _ h1 h2 e, fun e => ?_⟩
    exact k_M_wordAt_l94 I s hs hK n (l4 + 1) (by omega) (by omega) (by omega)
theorem k_M_wordAt_l20 {g : zi_M} (I : zk_I g) {l1 l2 l4 : Int} {K : Int → zi_M → Prop} {Q : Int → zi_M → Prop} (q1 : 0 ≤ l1 ∧ l1 ≤ 400) (q2 : 0 ≤ l2 ∧ l2 ≤ 400) (q4 : 0 ≤ l4 ∧ l4 ≤ 127) (hz : zw_let g l1 l2) (hK : ∀ k, 0 ≤ k → l4 + 1 + k ≤ 128 → K k g) : ∀ (n : Nat) (l5 : Int), 0 ≤ l5 → l4 + 1 + l5 ≤ 128 → 128 - l5 < (n : Int) → w_M_wordAt_l20 l1 l2 l4 K Q n l5 g
  | 0, l5, h1, h2, hm => by exfalso; omega
  | n + 1, l5, h1, h2, hm => by
    unfold w_M_wordAt_l20
    have wf := zk_wend I (i := l4 + 1 + l5)
    have zf := hz (l1 + l5)
    refine ⟨⟨by omega, by omega⟩, ⟨by omega, by omega⟩, fun _ => hK _ h1 h2, fun c => ⟨⟨by omega, by omega⟩, ⟨by omega, by omega⟩, zk_rng I _ _, zk_rng I _ _, fun _ => hK _ h1 h2, fun e => ?_⟩⟩
    exact k_M_wordAt_l20 I q1 q2 q4 hz hK n (l5 + 1) (by omega) (by omega) (by omega)
theorem k_M_wordAt_l5 {g : zi_M} (I : zk_I g) {l1 l2 : Int} {K86 : Int → zi_M → Prop} {K118 : zi_M → Prop} {Q : Int → zi_M → Prop} (q1 : 0 ≤ l1 ∧ l1 ≤ 400) (q2 : 0 ≤ l2 ∧ l2 ≤ 400) (hz : zw_let g l1 l2) (hK86 : ∀ k, 0 ≤ k → k ≤ 26 → K86 k g) (hK118 : K118 g) : ∀ (n : Nat) (l3 l4 : Int), -1 ≤ l3 → l3 + 1 ≤ zw_nx l4 → 0 ≤ l4 → l4 ≤ 128 → zk_wd l4.toNat = 32 → 128 - l4 < (n : Int) → w_M_wordAt_l5 l1 l2 K86 K118 Q n l3 l4 g
  | 0, l3, l4, h1, h2, h3, h4, h5, hm => by exfalso; omega
  | n + 1, l3, l4, h1, h2, h3, h4, h5, hm => by
    unfold w_M_wordAt_l5
    refine ⟨⟨by omega, by omega⟩, fun _ => hK118, fun c => ⟨129, ?_⟩⟩
    have hx := zw_nxb l4 ⟨h3, c⟩ h5
    have next : ∃ f, w_M_wordAt_l94 (fun k g' => w_M_wordAt_l5 l1 l2 K86 K118 Q n (l3 + 1) k g') Q f (l4 + 1) g := by
      refine ⟨129, k_M_wordAt_l94 I (l4 + 1) (by omega) (fun k k1 k2 ke => ?_) 129 (l4 + 1) (by omega) (by omega) (by omega)⟩
      have hw : zk_wd k.toNat = 32 := by
        have h := I.1 223 k
        have a1 : zk_lo 223 k = zk_wd k.toNat := rfl
        have a2 : zk_hi 223 k = zk_wd k.toNat := rfl
        omega
      exact k_M_wordAt_l5 I q1 q2 hz hK86 hK118 n (l3 + 1) k (by omega) (by have := zw_nxs l4 k ⟨h3, by omega⟩ h5; omega) (by omega) k2 hw (by omega)
    refine k_M_wordAt_l20 I q1 q2 ⟨h3, by omega⟩ hz (fun k k1 k2 => ?_) 129 0 (by omega) (by omega) (by omega)
    unfold w_M_wordAt_b61
    refine ⟨⟨by omega, by omega⟩, ⟨by omega, by omega⟩, fun _ => next, fun _ => ⟨⟨by omega, by omega⟩, zk_rng I _ _, fun _ => next, fun _ => hK86 _ (by omega) (by omega)⟩⟩
set_option maxRecDepth 100000 in
theorem k_M_wordAt {l1 : Int} {l2 : Int} {g : zi_M} {Q : Int → zi_M → Prop} (I : zk_I g) (p1 : 0 ≤ l1 ∧ l1 ≤ 400) (p2 : 0 ≤ l2 ∧ l2 ≤ 400) (px0 : zw_let g l1 l2) (px1 : l1 ≤ l2) (hQ : ∀ v : Int, ((-1) ≤ v ∧ v ≤ 26) → Q v g) : w_M_wordAt l1 l2 g Q := by
  unfold w_M_wordAt
  exact ⟨129, k_M_wordAt_l5 I p1 p2 px0 (fun k k1 k2 => hQ _ ⟨by omega, by omega⟩) (hQ _ ⟨by omega, by omega⟩) 129 (-1) 0 (by omega) (by decide +kernel) (by omega) (by omega) (by decide +kernel) (by omega)⟩

-- SpoutNewsModel.reads()V
noncomputable def fr_M_reads (a : Nat) (i : Int) : Prop := (a = 214 ∧ i = 14) ∨ (a = 214 ∧ i = 15) ∨ (a = 214 ∧ i = 16) ∨ (a = 214 ∧ i = 17)
set_option maxRecDepth 100000 in
set_option maxHeartbeats 4000000 in
theorem k_M_reads_l0 {K39 : zi_M → Prop} {Q : Int → zi_M → Prop} {g0 : zi_M} (hK39 : ∀ (g : zi_M), zk_I g → zk_fr fr_M_reads g0 g → (g 214 14 ≤ g 214 13) → (g0 214 14 ≤ g 214 14) → K39 g) (hQ : ∀ g' : zi_M, zk_I g' → zk_fr fr_M_reads g0 g' → (g0 214 14 ≤ g' 214 15) → (g' 214 14 ≤ g' 214 13) → (g' 214 15 ≤ g' 214 14) → (zt3 g') → Q 0 g') : ∀ (n : Nat) {g : zi_M}, zk_I g → zk_fr fr_M_reads g0 g → (g 214 14 ≤ g 214 13) → (g0 214 14 ≤ g 214 14) → 400 - g 214 14 < (n : Int) → w_M_reads_l0 K39 Q n g
  | 0, g, I, F, b0, b1, hm => by have m_22 : 0 ≤ (g 214 14) ∧ (g 214 14) ≤ 400 := I.1 214 14; exfalso; omega
  | n + 1, g, I, F, b0, b1, hm => by
    unfold w_M_reads_l0
    have m_1 : 0 ≤ (g 214 14) ∧ (g 214 14) ≤ 400 := I.1 214 14
    have m_4 : 0 ≤ (g 214 13) ∧ (g 214 13) ≤ 400 := I.1 214 13
    have m_5 : 0 ≤ (g 222 ((g 214 14))) ∧ (g 222 ((g 214 14))) ≤ 255 := I.1 222 ((g 214 14))
    refine k_M_raw I ⟨by omega, by omega⟩ (fun v1 b_2 b_3 => ?_)
    refine ⟨⟨by omega, by omega⟩, ?_⟩
    refine ⟨fun c12 => ?_, fun c12 => ?_⟩
    · intro g5 e_6
      have I_7 : zk_I g5 := by rw [e_6]; exact zk_upd (L := 0) (H := 400) rfl rfl I ⟨by omega, by omega⟩
      have F_8 : zk_fr fr_M_reads g0 g5 := by rw [e_6]; exact zk_fu F (Or.inl ⟨rfl, rfl⟩)
      have m_9 : 0 ≤ (g5 214 14) ∧ (g5 214 14) ≤ 400 := I_7.1 214 14
      have m_10 : g5 214 14 = (g 214 14) + 1 := by rw [e_6]; exact zi_u_eq
      have m_11 : 0 ≤ (g5 214 13) ∧ (g5 214 13) ≤ 400 := I_7.1 214 13
      have m_12 : g5 214 13 = g 214 13 := by rw [e_6]; exact zi_u_ni (by decide)
      exact k_M_reads_l0 hK39 hQ n I_7 F_8 (by omega) (by omega) (by omega)
    · refine k_M_raw I ⟨by omega, by omega⟩ (fun v6 b_13 b_14 => ?_)
      refine ⟨⟨by omega, by omega⟩, ?_⟩
      refine ⟨fun c11 => ?_, fun c11 => ?_⟩
      · exact hK39 _ I F (by omega) (by omega)
      · intro g10 e_15
        have I_16 : zk_I g10 := by rw [e_15]; exact zk_upd (L := 0) (H := 400) rfl rfl I ⟨by omega, by omega⟩
        have F_17 : zk_fr fr_M_reads g0 g10 := by rw [e_15]; exact zk_fu F (Or.inl ⟨rfl, rfl⟩)
        have m_18 : 0 ≤ (g10 214 14) ∧ (g10 214 14) ≤ 400 := I_16.1 214 14
        have m_19 : g10 214 14 = (g 214 14) + 1 := by rw [e_15]; exact zi_u_eq
        have m_20 : 0 ≤ (g10 214 13) ∧ (g10 214 13) ≤ 400 := I_16.1 214 13
        have m_21 : g10 214 13 = g 214 13 := by rw [e_15]; exact zi_u_ni (by decide)
        exact k_M_reads_l0 hK39 hQ n I_16 F_17 (by omega) (by omega) (by omega)
set_option maxRecDepth 100000 in
set_option maxHeartbeats 4000000 in
theorem k_M_reads_l171 {K239 : zi_M → Prop} {Q : Int → zi_M → Prop} {g0 : zi_M} (hK239 : ∀ (g : zi_M), zk_I g → zk_fr fr_M_reads g0 g → (g 214 14 ≤ g 214 13) → (g0 214 14 ≤ g 214 15) → (g 214 15 < g 214 14) → (g 214 16 = 1) → (0 ≤ g 214 17) → (g 214 14 < g 214 15 + 5 → g 214 17 ≤ 9999) → K239 g) (hQ : ∀ g' : zi_M, zk_I g' → zk_fr fr_M_reads g0 g' → (g0 214 14 ≤ g' 214 15) → (g' 214 14 ≤ g' 214 13) → (g' 214 15 ≤ g' 214 14) → (zt3 g') → Q 0 g') : ∀ (n : Nat) {g : zi_M}, zk_I g → zk_fr fr_M_reads g0 g → (g 214 14 ≤ g 214 13) → (g0 214 14 ≤ g 214 15) → (g 214 15 < g 214 14) → (g 214 16 = 1) → (0 ≤ g 214 17) → (g 214 14 = g 214 15 + 1 → g 214 17 ≤ 9) → (g 214 14 = g 214 15 + 2 → g 214 17 ≤ 99) → (g 214 14 = g 214 15 + 3 → g 214 17 ≤ 999) → (g 214 14 = g 214 15 + 4 → g 214 17 ≤ 9999) → 400 - g 214 14 < (n : Int) → w_M_reads_l171 K239 Q n g
  | 0, g, I, F, b0, b1, b2, b3, b4, b5, b6, b7, b8, hm => by have m_190 : 0 ≤ (g 214 14) ∧ (g 214 14) ≤ 400 := I.1 214 14; exfalso; omega
  | n + 1, g, I, F, b0, b1, b2, b3, b4, b5, b6, b7, b8, hm => by
    unfold w_M_reads_l171
    have m_120 : 0 ≤ (g 214 14) ∧ (g 214 14) ≤ 400 := I.1 214 14
    have m_123 : 0 ≤ (g 214 13) ∧ (g 214 13) ≤ 400 := I.1 214 13
    have m_124 : 0 ≤ (g 222 ((g 214 14))) ∧ (g 222 ((g 214 14))) ≤ 255 := I.1 222 ((g 214 14))
    refine k_M_raw I ⟨by omega, by omega⟩ (fun v34 b_121 b_122 => ?_)
    refine k_M_isDigit I ⟨by omega, by omega⟩ (fun v37 b_125 b_126 b_127 => ?_)
    refine ⟨fun c49 => ?_, fun c49 => ?_⟩
    · have m_128 : 0 ≤ (g 214 15) ∧ (g 214 15) ≤ 400 := I.1 214 15
      have m_129 : 0 ≤ (g 214 16) ∧ (g 214 16) ≤ 4 := I.1 214 16
      have m_130 : (-1) ≤ (g 214 17) ∧ (g 214 17) ≤ 100000 := I.1 214 17
      exact hK239 _ I F (by omega) (by omega) (by omega) (by omega) (by omega) (by omega)
    · have m_131 : (-1) ≤ (g 214 17) ∧ (g 214 17) ≤ 100000 := I.1 214 17
      refine ⟨⟨by omega, by omega⟩, ?_⟩
      refine ⟨fun c48 => ?_, fun c48 => ?_⟩
      · intro g41 e_132
        have I_133 : zk_I g41 := by rw [e_132]; exact zk_upd (L := (-1)) (H := 100000) rfl rfl I ⟨by omega, by omega⟩
        have F_134 : zk_fr fr_M_reads g0 g41 := by rw [e_132]; exact zk_fu F (Or.inr (Or.inr (Or.inr ⟨rfl, rfl⟩)))
        have m_138 : 0 ≤ (g41 214 14) ∧ (g41 214 14) ≤ 400 := I_133.1 214 14
        have m_139 : g41 214 14 = g 214 14 := by rw [e_132]; exact zi_u_ni (by decide)
        intro g42 e_135
        have I_136 : zk_I g42 := by rw [e_135]; exact zk_upd (L := 0) (H := 400) rfl rfl I_133 ⟨by omega, by omega⟩
        have F_137 : zk_fr fr_M_reads g0 g42 := by rw [e_135]; exact zk_fu F_134 (Or.inl ⟨rfl, rfl⟩)
        have m_140 : 0 ≤ (g42 214 14) ∧ (g42 214 14) ≤ 400 := I_136.1 214 14
        have m_141 : g42 214 14 = (g41 214 14) + 1 := by rw [e_135]; exact zi_u_eq
        have m_142 : 0 ≤ (g42 214 13) ∧ (g42 214 13) ≤ 400 := I_136.1 214 13
        have m_143 : g42 214 13 = g41 214 13 := by rw [e_135]; exact zi_u_ni (by decide)
        have m_144 : 0 ≤ (g41 214 13) ∧ (g41 214 13) ≤ 400 := I_133.1 214 13
        have m_145 : g41 214 13 = g 214 13 := by rw [e_132]; exact zi_u_ni (by decide)
        have m_146 : 0 ≤ (g42 214 15) ∧ (g42 214 15) ≤ 400 := I_136.1 214 15
        have m_147 : g42 214 15 = g41 214 15 := by rw [e_135]; exact zi_u_ni (by decide)
        have m_148 : 0 ≤ (g41 214 15) ∧ (g41 214 15) ≤ 400 := I_133.1 214 15
        have m_149 : g41 214 15 = g 214 15 := by rw [e_132]; exact zi_u_ni (by decide)
        have m_150 : 0 ≤ (g 214 15) ∧ (g 214 15) ≤ 400 := I.1 214 15
        have m_151 : 0 ≤ (g42 214 16) ∧ (g42 214 16) ≤ 4 := I_136.1 214 16
        have m_152 : g42 214 16 = g41 214 16 := by rw [e_135]; exact zi_u_ni (by decide)
        have m_153 : 0 ≤ (g41 214 16) ∧ (g41 214 16) ≤ 4 := I_133.1 214 16
        have m_154 : g41 214 16 = g 214 16 := by rw [e_132]; exact zi_u_ni (by decide)
        have m_155 : 0 ≤ (g 214 16) ∧ (g 214 16) ≤ 4 := I.1 214 16
        have m_156 : (-1) ≤ (g42 214 17) ∧ (g42 214 17) ≤ 100000 := I_136.1 214 17
        have m_157 : g42 214 17 = g41 214 17 := by rw [e_135]; exact zi_u_ni (by decide)
        have m_158 : (-1) ≤ (g41 214 17) ∧ (g41 214 17) ≤ 100000 := I_133.1 214 17
        have m_159 : g41 214 17 = g 214 17 := by rw [e_132]; exact zi_u_eq
        exact k_M_reads_l171 hK239 hQ n I_136 F_137 (by omega) (by omega) (by omega) (by omega) (by omega) (by omega) (by omega) (by omega) (by omega) (by omega)
      · refine k_M_raw I ⟨by omega, by omega⟩ (fun v43 b_160 b_161 => ?_)
        intro g46 e_162
        have I_163 : zk_I g46 := by rw [e_162]; exact zk_upd (L := (-1)) (H := 100000) rfl rfl I ⟨by omega, by omega⟩
        have F_164 : zk_fr fr_M_reads g0 g46 := by rw [e_162]; exact zk_fu F (Or.inr (Or.inr (Or.inr ⟨rfl, rfl⟩)))
        have m_168 : 0 ≤ (g46 214 14) ∧ (g46 214 14) ≤ 400 := I_163.1 214 14
        have m_169 : g46 214 14 = g 214 14 := by rw [e_162]; exact zi_u_ni (by decide)
        intro g47 e_165
        have I_166 : zk_I g47 := by rw [e_165]; exact zk_upd (L := 0) (H := 400) rfl rfl I_163 ⟨by omega, by omega⟩
        have F_167 : zk_fr fr_M_reads g0 g47 := by rw [e_165]; exact zk_fu F_164 (Or.inl ⟨rfl, rfl⟩)
        have m_170 : 0 ≤ (g47 214 14) ∧ (g47 214 14) ≤ 400 := I_166.1 214 14
        have m_171 : g47 214 14 = (g46 214 14) + 1 := by rw [e_165]; exact zi_u_eq
        have m_172 : 0 ≤ (g47 214 13) ∧ (g47 214 13) ≤ 400 := I_166.1 214 13
        have m_173 : g47 214 13 = g46 214 13 := by rw [e_165]; exact zi_u_ni (by decide)
        have m_174 : 0 ≤ (g46 214 13) ∧ (g46 214 13) ≤ 400 := I_163.1 214 13
        have m_175 : g46 214 13 = g 214 13 := by rw [e_162]; exact zi_u_ni (by decide)
        have m_176 : 0 ≤ (g47 214 15) ∧ (g47 214 15) ≤ 400 := I_166.1 214 15
        have m_177 : g47 214 15 = g46 214 15 := by rw [e_165]; exact zi_u_ni (by decide)
        have m_178 : 0 ≤ (g46 214 15) ∧ (g46 214 15) ≤ 400 := I_163.1 214 15
        have m_179 : g46 214 15 = g 214 15 := by rw [e_162]; exact zi_u_ni (by decide)
        have m_180 : 0 ≤ (g 214 15) ∧ (g 214 15) ≤ 400 := I.1 214 15
        have m_181 : 0 ≤ (g47 214 16) ∧ (g47 214 16) ≤ 4 := I_166.1 214 16
        have m_182 : g47 214 16 = g46 214 16 := by rw [e_165]; exact zi_u_ni (by decide)
        have m_183 : 0 ≤ (g46 214 16) ∧ (g46 214 16) ≤ 4 := I_163.1 214 16
        have m_184 : g46 214 16 = g 214 16 := by rw [e_162]; exact zi_u_ni (by decide)
        have m_185 : 0 ≤ (g 214 16) ∧ (g 214 16) ≤ 4 := I.1 214 16
        have m_186 : (-1) ≤ (g47 214 17) ∧ (g47 214 17) ≤ 100000 := I_166.1 214 17
        have m_187 : g47 214 17 = g46 214 17 := by rw [e_165]; exact zi_u_ni (by decide)
        have m_188 : (-1) ≤ (g46 214 17) ∧ (g46 214 17) ≤ 100000 := I_163.1 214 17
        have m_189 : g46 214 17 = ((10 * (g 214 17)) + v43) - 48 := by rw [e_162]; exact zi_u_eq
        exact k_M_reads_l171 hK239 hQ n I_166 F_167 (by omega) (by omega) (by omega) (by omega) (by omega) (by omega) (by omega) (by omega) (by omega) (by omega)
set_option maxRecDepth 100000 in
set_option maxHeartbeats 4000000 in
theorem k_M_reads_l95 {K123 : zi_M → Prop} {Q : Int → zi_M → Prop} {g0 : zi_M} (hK123 : ∀ (g : zi_M), zk_I g → zk_fr fr_M_reads g0 g → (g 214 14 ≤ g 214 13) → (g0 214 14 ≤ g 214 15) → (g 214 15 < g 214 14) → (g 214 16 = 1) → (zw_let g (g 214 15) (g 214 14)) → K123 g) (hQ : ∀ g' : zi_M, zk_I g' → zk_fr fr_M_reads g0 g' → (g0 214 14 ≤ g' 214 15) → (g' 214 14 ≤ g' 214 13) → (g' 214 15 ≤ g' 214 14) → (zt3 g') → Q 0 g') : ∀ (n : Nat) {g : zi_M}, zk_I g → zk_fr fr_M_reads g0 g → (g 214 14 ≤ g 214 13) → (g0 214 14 ≤ g 214 15) → (g 214 15 < g 214 14) → (g 214 16 = 1) → (zw_let g (g 214 15) (g 214 14)) → 400 - g 214 14 < (n : Int) → w_M_reads_l95 K123 Q n g
  | 0, g, I, F, b0, b1, b2, b3, b4, hm => by have m_273 : 0 ≤ (g 214 14) ∧ (g 214 14) ≤ 400 := I.1 214 14; exfalso; omega
  | n + 1, g, I, F, b0, b1, b2, b3, b4, hm => by
    unfold w_M_reads_l95
    have m_251 : 0 ≤ (g 214 14) ∧ (g 214 14) ≤ 400 := I.1 214 14
    have m_254 : 0 ≤ (g 214 13) ∧ (g 214 13) ≤ 400 := I.1 214 13
    have m_255 : 0 ≤ (g 222 ((g 214 14))) ∧ (g 222 ((g 214 14))) ≤ 255 := I.1 222 ((g 214 14))
    refine k_M_raw I ⟨by omega, by omega⟩ (fun v56 b_252 b_253 => ?_)
    refine k_M_isLetter I ⟨by omega, by omega⟩ (fun v59 b_256 b_257 => ?_)
    refine ⟨fun c63 => ?_, fun c63 => ?_⟩
    · have m_258 : 0 ≤ (g 214 15) ∧ (g 214 15) ≤ 400 := I.1 214 15
      have m_259 : 0 ≤ (g 214 16) ∧ (g 214 16) ≤ 4 := I.1 214 16
      exact hK123 _ I F (by omega) (by omega) (by omega) (by omega) (by assumption)
    · intro g62 e_260
      have I_261 : zk_I g62 := by rw [e_260]; exact zk_upd (L := 0) (H := 400) rfl rfl I ⟨by omega, by omega⟩
      have F_262 : zk_fr fr_M_reads g0 g62 := by rw [e_260]; exact zk_fu F (Or.inl ⟨rfl, rfl⟩)
      have m_263 : 0 ≤ (g62 214 14) ∧ (g62 214 14) ≤ 400 := I_261.1 214 14
      have m_264 : g62 214 14 = (g 214 14) + 1 := by rw [e_260]; exact zi_u_eq
      have m_265 : 0 ≤ (g62 214 13) ∧ (g62 214 13) ≤ 400 := I_261.1 214 13
      have m_266 : g62 214 13 = g 214 13 := by rw [e_260]; exact zi_u_ni (by decide)
      have m_267 : 0 ≤ (g62 214 15) ∧ (g62 214 15) ≤ 400 := I_261.1 214 15
      have m_268 : g62 214 15 = g 214 15 := by rw [e_260]; exact zi_u_ni (by decide)
      have m_269 : 0 ≤ (g 214 15) ∧ (g 214 15) ≤ 400 := I.1 214 15
      have m_270 : 0 ≤ (g62 214 16) ∧ (g62 214 16) ≤ 4 := I_261.1 214 16
      have m_271 : g62 214 16 = g 214 16 := by rw [e_260]; exact zi_u_ni (by decide)
      have m_272 : 0 ≤ (g 214 16) ∧ (g 214 16) ≤ 4 := I.1 214 16
      exact k_M_reads_l95 hK123 hQ n I_261 F_262 (by omega) (by omega) (by omega) (by omega) (by first | exact zw_st (by assumption) (by assumption) (by omega) | exact zw_in (by assumption) (by assumption) (by assumption) (by assumption) (by omega)) (by omega)
set_option maxRecDepth 100000 in
set_option maxHeartbeats 4000000 in
theorem k_M_reads {g : zi_M} {Q : Int → zi_M → Prop} (I : zk_I g) (px0 : g 214 14 ≤ g 214 13) (hQ : ∀ g' : zi_M, zk_I g' → zk_fr fr_M_reads g g' → (g 214 14 ≤ g' 214 15) → (g' 214 14 ≤ g' 214 13) → (g' 214 15 ≤ g' 214 14) → (zt3 g') → Q 0 g') : w_M_reads g Q := by
  unfold w_M_reads
  have m_363 : 0 ≤ (g 214 14) ∧ (g 214 14) ≤ 400 := I.1 214 14
  have m_364 : 0 ≤ (g 214 13) ∧ (g 214 13) ≤ 400 := I.1 214 13
  refine ⟨((400 - g 214 14 : Int).toNat + 1), k_M_reads_l0 (fun g13 I_23 F_24 b_25 b_26 => ?_) hQ ((400 - g 214 14 : Int).toNat + 1) I (zk_f0 _) (by omega) (by omega) (by omega)⟩
  have m_30 : 0 ≤ (g13 214 14) ∧ (g13 214 14) ≤ 400 := I_23.1 214 14
  intro g14 e_27
  have I_28 : zk_I g14 := by rw [e_27]; exact zk_upd (L := 0) (H := 400) rfl rfl I_23 ⟨by omega, by omega⟩
  have F_29 : zk_fr fr_M_reads g g14 := by rw [e_27]; exact zk_fu F_24 (Or.inr (Or.inl ⟨rfl, rfl⟩))
  intro g15 e_31
  have I_32 : zk_I g15 := by rw [e_31]; exact zk_upd (L := 0) (H := 4) rfl rfl I_28 ⟨by omega, by omega⟩
  have F_33 : zk_fr fr_M_reads g g15 := by rw [e_31]; exact zk_fu F_29 (Or.inr (Or.inr (Or.inl ⟨rfl, rfl⟩)))
  have m_34 : 0 ≤ (g15 214 14) ∧ (g15 214 14) ≤ 400 := I_32.1 214 14
  have m_35 : g15 214 14 = g14 214 14 := by rw [e_31]; exact zi_u_ni (by decide)
  have m_36 : 0 ≤ (g14 214 14) ∧ (g14 214 14) ≤ 400 := I_28.1 214 14
  have m_37 : g14 214 14 = g13 214 14 := by rw [e_27]; exact zi_u_ni (by decide)
  have m_40 : 0 ≤ (g15 214 13) ∧ (g15 214 13) ≤ 400 := I_32.1 214 13
  have m_41 : g15 214 13 = g14 214 13 := by rw [e_31]; exact zi_u_ni (by decide)
  have m_42 : 0 ≤ (g14 214 13) ∧ (g14 214 13) ≤ 400 := I_28.1 214 13
  have m_43 : g14 214 13 = g13 214 13 := by rw [e_27]; exact zi_u_ni (by decide)
  have m_44 : 0 ≤ (g13 214 13) ∧ (g13 214 13) ≤ 400 := I_23.1 214 13
  have m_45 : 0 ≤ (g15 222 ((g15 214 14))) ∧ (g15 222 ((g15 214 14))) ≤ 255 := I_32.1 222 ((g15 214 14))
  have m_46 : g15 222 ((g15 214 14)) = g14 222 ((g15 214 14)) := by rw [e_31]; exact zi_u_ne (by decide)
  have m_47 : 0 ≤ (g14 222 ((g15 214 14))) ∧ (g14 222 ((g15 214 14))) ≤ 255 := I_28.1 222 ((g15 214 14))
  have m_48 : g14 222 ((g15 214 14)) = g13 222 ((g15 214 14)) := by rw [e_27]; exact zi_u_ne (by decide)
  have m_49 : 0 ≤ (g13 222 ((g15 214 14))) ∧ (g13 222 ((g15 214 14))) ≤ 255 := I_23.1 222 ((g15 214 14))
  refine k_M_raw I_32 ⟨by omega, by omega⟩ (fun v16 b_38 b_39 => ?_)
  refine ⟨⟨by omega, by omega⟩, ?_⟩
  refine ⟨fun c75 => ?_, fun c75 => ?_⟩
  · intro g20 e_50
    have I_51 : zk_I g20 := by rw [e_50]; exact zk_upd (L := 0) (H := 400) rfl rfl I_32 ⟨by omega, by omega⟩
    have F_52 : zk_fr fr_M_reads g g20 := by rw [e_50]; exact zk_fu F_33 (Or.inl ⟨rfl, rfl⟩)
    intro g21 e_53
    have I_54 : zk_I g21 := by rw [e_53]; exact zk_upd (L := (-1)) (H := 100000) rfl rfl I_51 ⟨by omega, by omega⟩
    have F_55 : zk_fr fr_M_reads g g21 := by rw [e_53]; exact zk_fu F_52 (Or.inr (Or.inr (Or.inr ⟨rfl, rfl⟩)))
    refine k_M_isLetter I_54 ⟨by omega, by omega⟩ (fun v22 b_56 b_57 => ?_)
    refine ⟨fun c73 => ?_, fun c73 => ?_⟩
    · refine k_M_isDigit I_54 ⟨by omega, by omega⟩ (fun v25 b_58 b_59 b_60 => ?_)
      refine ⟨fun c55 => ?_, fun c55 => ?_⟩
      · refine k_M_isMarkSign I_54 ⟨by omega, by omega⟩ (fun v28 b_61 => ?_)
        refine ⟨fun c32 => ?_, fun c32 => ?_⟩
        · have m_62 : 0 ≤ (g21 214 15) ∧ (g21 214 15) ≤ 400 := I_54.1 214 15
          have m_63 : g21 214 15 = g20 214 15 := by rw [e_53]; exact zi_u_ni (by decide)
          have m_64 : 0 ≤ (g20 214 15) ∧ (g20 214 15) ≤ 400 := I_51.1 214 15
          have m_65 : g20 214 15 = g15 214 15 := by rw [e_50]; exact zi_u_ni (by decide)
          have m_66 : 0 ≤ (g15 214 15) ∧ (g15 214 15) ≤ 400 := I_32.1 214 15
          have m_67 : g15 214 15 = g14 214 15 := by rw [e_31]; exact zi_u_ni (by decide)
          have m_68 : 0 ≤ (g14 214 15) ∧ (g14 214 15) ≤ 400 := I_28.1 214 15
          have m_69 : g14 214 15 = g13 214 14 := by rw [e_27]; exact zi_u_eq
          have m_70 : 0 ≤ (g21 214 14) ∧ (g21 214 14) ≤ 400 := I_54.1 214 14
          have m_71 : g21 214 14 = g20 214 14 := by rw [e_53]; exact zi_u_ni (by decide)
          have m_72 : 0 ≤ (g20 214 14) ∧ (g20 214 14) ≤ 400 := I_51.1 214 14
          have m_73 : g20 214 14 = (g15 214 14) + 1 := by rw [e_50]; exact zi_u_eq
          have m_74 : 0 ≤ (g21 214 13) ∧ (g21 214 13) ≤ 400 := I_54.1 214 13
          have m_75 : g21 214 13 = g20 214 13 := by rw [e_53]; exact zi_u_ni (by decide)
          have m_76 : 0 ≤ (g20 214 13) ∧ (g20 214 13) ≤ 400 := I_51.1 214 13
          have m_77 : g20 214 13 = g15 214 13 := by rw [e_50]; exact zi_u_ni (by decide)
          have m_78 : 0 ≤ (g21 214 16) ∧ (g21 214 16) ≤ 4 := I_54.1 214 16
          have m_79 : g21 214 16 = g20 214 16 := by rw [e_53]; exact zi_u_ni (by decide)
          have m_80 : 0 ≤ (g20 214 16) ∧ (g20 214 16) ≤ 4 := I_51.1 214 16
          have m_81 : g20 214 16 = g15 214 16 := by rw [e_50]; exact zi_u_ni (by decide)
          have m_82 : 0 ≤ (g15 214 16) ∧ (g15 214 16) ≤ 4 := I_32.1 214 16
          have m_83 : g15 214 16 = 1 := by rw [e_31]; exact zi_u_eq
          have m_84 : (-1) ≤ (g21 214 17) ∧ (g21 214 17) ≤ 100000 := I_54.1 214 17
          have m_85 : g21 214 17 = v16 := by rw [e_53]; exact zi_u_eq
          exact hQ _ I_54 F_55 (by omega) (by omega) (by omega) (by unfold zt3; refine ⟨?_, ?_, ?_⟩ <;> omega)
        · intro g31 e_86
          have I_87 : zk_I g31 := by rw [e_86]; exact zk_upd (L := 0) (H := 4) rfl rfl I_54 ⟨by omega, by omega⟩
          have F_88 : zk_fr fr_M_reads g g31 := by rw [e_86]; exact zk_fu F_55 (Or.inr (Or.inr (Or.inl ⟨rfl, rfl⟩)))
          have m_89 : 0 ≤ (g31 214 15) ∧ (g31 214 15) ≤ 400 := I_87.1 214 15
          have m_90 : g31 214 15 = g21 214 15 := by rw [e_86]; exact zi_u_ni (by decide)
          have m_91 : 0 ≤ (g21 214 15) ∧ (g21 214 15) ≤ 400 := I_54.1 214 15
          have m_92 : g21 214 15 = g20 214 15 := by rw [e_53]; exact zi_u_ni (by decide)
          have m_93 : 0 ≤ (g20 214 15) ∧ (g20 214 15) ≤ 400 := I_51.1 214 15
          have m_94 : g20 214 15 = g15 214 15 := by rw [e_50]; exact zi_u_ni (by decide)
          have m_95 : 0 ≤ (g15 214 15) ∧ (g15 214 15) ≤ 400 := I_32.1 214 15
          have m_96 : g15 214 15 = g14 214 15 := by rw [e_31]; exact zi_u_ni (by decide)
          have m_97 : 0 ≤ (g14 214 15) ∧ (g14 214 15) ≤ 400 := I_28.1 214 15
          have m_98 : g14 214 15 = g13 214 14 := by rw [e_27]; exact zi_u_eq
          have m_99 : 0 ≤ (g31 214 14) ∧ (g31 214 14) ≤ 400 := I_87.1 214 14
          have m_100 : g31 214 14 = g21 214 14 := by rw [e_86]; exact zi_u_ni (by decide)
          have m_101 : 0 ≤ (g21 214 14) ∧ (g21 214 14) ≤ 400 := I_54.1 214 14
          have m_102 : g21 214 14 = g20 214 14 := by rw [e_53]; exact zi_u_ni (by decide)
          have m_103 : 0 ≤ (g20 214 14) ∧ (g20 214 14) ≤ 400 := I_51.1 214 14
          have m_104 : g20 214 14 = (g15 214 14) + 1 := by rw [e_50]; exact zi_u_eq
          have m_105 : 0 ≤ (g31 214 13) ∧ (g31 214 13) ≤ 400 := I_87.1 214 13
          have m_106 : g31 214 13 = g21 214 13 := by rw [e_86]; exact zi_u_ni (by decide)
          have m_107 : 0 ≤ (g21 214 13) ∧ (g21 214 13) ≤ 400 := I_54.1 214 13
          have m_108 : g21 214 13 = g20 214 13 := by rw [e_53]; exact zi_u_ni (by decide)
          have m_109 : 0 ≤ (g20 214 13) ∧ (g20 214 13) ≤ 400 := I_51.1 214 13
          have m_110 : g20 214 13 = g15 214 13 := by rw [e_50]; exact zi_u_ni (by decide)
          have m_111 : 0 ≤ (g31 214 16) ∧ (g31 214 16) ≤ 4 := I_87.1 214 16
          have m_112 : g31 214 16 = 4 := by rw [e_86]; exact zi_u_eq
          have m_113 : (-1) ≤ (g31 214 17) ∧ (g31 214 17) ≤ 100000 := I_87.1 214 17
          have m_114 : g31 214 17 = g21 214 17 := by rw [e_86]; exact zi_u_ni (by decide)
          have m_115 : (-1) ≤ (g21 214 17) ∧ (g21 214 17) ≤ 100000 := I_54.1 214 17
          have m_116 : g21 214 17 = v16 := by rw [e_53]; exact zi_u_eq
          exact hQ _ I_87 F_88 (by omega) (by omega) (by omega) (by unfold zt3; refine ⟨?_, ?_, ?_⟩ <;> omega)
      · intro g33 e_117
        have I_118 : zk_I g33 := by rw [e_117]; exact zk_upd (L := (-1)) (H := 100000) rfl rfl I_54 ⟨by omega, by omega⟩
        have F_119 : zk_fr fr_M_reads g g33 := by rw [e_117]; exact zk_fu F_55 (Or.inr (Or.inr (Or.inr ⟨rfl, rfl⟩)))
        have m_219 : 0 ≤ (g33 214 14) ∧ (g33 214 14) ≤ 400 := I_118.1 214 14
        have m_220 : g33 214 14 = g21 214 14 := by rw [e_117]; exact zi_u_ni (by decide)
        have m_221 : 0 ≤ (g21 214 14) ∧ (g21 214 14) ≤ 400 := I_54.1 214 14
        have m_222 : g21 214 14 = g20 214 14 := by rw [e_53]; exact zi_u_ni (by decide)
        have m_223 : 0 ≤ (g20 214 14) ∧ (g20 214 14) ≤ 400 := I_51.1 214 14
        have m_224 : g20 214 14 = (g15 214 14) + 1 := by rw [e_50]; exact zi_u_eq
        have m_225 : 0 ≤ (g33 214 13) ∧ (g33 214 13) ≤ 400 := I_118.1 214 13
        have m_226 : g33 214 13 = g21 214 13 := by rw [e_117]; exact zi_u_ni (by decide)
        have m_227 : 0 ≤ (g21 214 13) ∧ (g21 214 13) ≤ 400 := I_54.1 214 13
        have m_228 : g21 214 13 = g20 214 13 := by rw [e_53]; exact zi_u_ni (by decide)
        have m_229 : 0 ≤ (g20 214 13) ∧ (g20 214 13) ≤ 400 := I_51.1 214 13
        have m_230 : g20 214 13 = g15 214 13 := by rw [e_50]; exact zi_u_ni (by decide)
        have m_231 : 0 ≤ (g33 214 15) ∧ (g33 214 15) ≤ 400 := I_118.1 214 15
        have m_232 : g33 214 15 = g21 214 15 := by rw [e_117]; exact zi_u_ni (by decide)
        have m_233 : 0 ≤ (g21 214 15) ∧ (g21 214 15) ≤ 400 := I_54.1 214 15
        have m_234 : g21 214 15 = g20 214 15 := by rw [e_53]; exact zi_u_ni (by decide)
        have m_235 : 0 ≤ (g20 214 15) ∧ (g20 214 15) ≤ 400 := I_51.1 214 15
        have m_236 : g20 214 15 = g15 214 15 := by rw [e_50]; exact zi_u_ni (by decide)
        have m_237 : 0 ≤ (g15 214 15) ∧ (g15 214 15) ≤ 400 := I_32.1 214 15
        have m_238 : g15 214 15 = g14 214 15 := by rw [e_31]; exact zi_u_ni (by decide)
        have m_239 : 0 ≤ (g14 214 15) ∧ (g14 214 15) ≤ 400 := I_28.1 214 15
        have m_240 : g14 214 15 = g13 214 14 := by rw [e_27]; exact zi_u_eq
        have m_241 : 0 ≤ (g33 214 16) ∧ (g33 214 16) ≤ 4 := I_118.1 214 16
        have m_242 : g33 214 16 = g21 214 16 := by rw [e_117]; exact zi_u_ni (by decide)
        have m_243 : 0 ≤ (g21 214 16) ∧ (g21 214 16) ≤ 4 := I_54.1 214 16
        have m_244 : g21 214 16 = g20 214 16 := by rw [e_53]; exact zi_u_ni (by decide)
        have m_245 : 0 ≤ (g20 214 16) ∧ (g20 214 16) ≤ 4 := I_51.1 214 16
        have m_246 : g20 214 16 = g15 214 16 := by rw [e_50]; exact zi_u_ni (by decide)
        have m_247 : 0 ≤ (g15 214 16) ∧ (g15 214 16) ≤ 4 := I_32.1 214 16
        have m_248 : g15 214 16 = 1 := by rw [e_31]; exact zi_u_eq
        have m_249 : (-1) ≤ (g33 214 17) ∧ (g33 214 17) ≤ 100000 := I_118.1 214 17
        have m_250 : g33 214 17 = v16 - 48 := by rw [e_117]; exact zi_u_eq
        refine ⟨((400 - g33 214 14 : Int).toNat + 1), k_M_reads_l171 (fun g50 I_191 F_192 b_193 b_194 b_195 b_196 b_197 b_198 => ?_) hQ ((400 - g33 214 14 : Int).toNat + 1) I_118 F_119 (by omega) (by omega) (by omega) (by omega) (by omega) (by omega) (by omega) (by omega) (by omega) (by omega)⟩
        have m_199 : 0 ≤ (g50 214 14) ∧ (g50 214 14) ≤ 400 := I_191.1 214 14
        have m_200 : 0 ≤ (g50 214 15) ∧ (g50 214 15) ≤ 400 := I_191.1 214 15
        refine ⟨⟨by omega, by omega⟩, ?_⟩
        refine ⟨fun c53 => ?_, fun c53 => ?_⟩
        · have m_201 : 0 ≤ (g50 214 13) ∧ (g50 214 13) ≤ 400 := I_191.1 214 13
          have m_202 : 0 ≤ (g50 214 16) ∧ (g50 214 16) ≤ 4 := I_191.1 214 16
          have m_203 : (-1) ≤ (g50 214 17) ∧ (g50 214 17) ≤ 100000 := I_191.1 214 17
          exact hQ _ I_191 F_192 (by omega) (by omega) (by omega) (by unfold zt3; refine ⟨?_, ?_, ?_⟩ <;> omega)
        · intro g52 e_204
          have I_205 : zk_I g52 := by rw [e_204]; exact zk_upd (L := 0) (H := 4) rfl rfl I_191 ⟨by omega, by omega⟩
          have F_206 : zk_fr fr_M_reads g g52 := by rw [e_204]; exact zk_fu F_192 (Or.inr (Or.inr (Or.inl ⟨rfl, rfl⟩)))
          have m_207 : 0 ≤ (g52 214 15) ∧ (g52 214 15) ≤ 400 := I_205.1 214 15
          have m_208 : g52 214 15 = g50 214 15 := by rw [e_204]; exact zi_u_ni (by decide)
          have m_209 : 0 ≤ (g52 214 14) ∧ (g52 214 14) ≤ 400 := I_205.1 214 14
          have m_210 : g52 214 14 = g50 214 14 := by rw [e_204]; exact zi_u_ni (by decide)
          have m_211 : 0 ≤ (g52 214 13) ∧ (g52 214 13) ≤ 400 := I_205.1 214 13
          have m_212 : g52 214 13 = g50 214 13 := by rw [e_204]; exact zi_u_ni (by decide)
          have m_213 : 0 ≤ (g50 214 13) ∧ (g50 214 13) ≤ 400 := I_191.1 214 13
          have m_214 : 0 ≤ (g52 214 16) ∧ (g52 214 16) ≤ 4 := I_205.1 214 16
          have m_215 : g52 214 16 = 3 := by rw [e_204]; exact zi_u_eq
          have m_216 : (-1) ≤ (g52 214 17) ∧ (g52 214 17) ≤ 100000 := I_205.1 214 17
          have m_217 : g52 214 17 = g50 214 17 := by rw [e_204]; exact zi_u_ni (by decide)
          have m_218 : (-1) ≤ (g50 214 17) ∧ (g50 214 17) ≤ 100000 := I_191.1 214 17
          exact hQ _ I_205 F_206 (by omega) (by omega) (by omega) (by unfold zt3; refine ⟨?_, ?_, ?_⟩ <;> omega)
    · have m_319 : 0 ≤ (g21 214 14) ∧ (g21 214 14) ≤ 400 := I_54.1 214 14
      have m_320 : g21 214 14 = g20 214 14 := by rw [e_53]; exact zi_u_ni (by decide)
      have m_321 : 0 ≤ (g20 214 14) ∧ (g20 214 14) ≤ 400 := I_51.1 214 14
      have m_322 : g20 214 14 = (g15 214 14) + 1 := by rw [e_50]; exact zi_u_eq
      have m_323 : 0 ≤ (g21 214 13) ∧ (g21 214 13) ≤ 400 := I_54.1 214 13
      have m_324 : g21 214 13 = g20 214 13 := by rw [e_53]; exact zi_u_ni (by decide)
      have m_325 : 0 ≤ (g20 214 13) ∧ (g20 214 13) ≤ 400 := I_51.1 214 13
      have m_326 : g20 214 13 = g15 214 13 := by rw [e_50]; exact zi_u_ni (by decide)
      have m_327 : 0 ≤ (g21 214 15) ∧ (g21 214 15) ≤ 400 := I_54.1 214 15
      have m_328 : g21 214 15 = g20 214 15 := by rw [e_53]; exact zi_u_ni (by decide)
      have m_329 : 0 ≤ (g20 214 15) ∧ (g20 214 15) ≤ 400 := I_51.1 214 15
      have m_330 : g20 214 15 = g15 214 15 := by rw [e_50]; exact zi_u_ni (by decide)
      have m_331 : 0 ≤ (g15 214 15) ∧ (g15 214 15) ≤ 400 := I_32.1 214 15
      have m_332 : g15 214 15 = g14 214 15 := by rw [e_31]; exact zi_u_ni (by decide)
      have m_333 : 0 ≤ (g14 214 15) ∧ (g14 214 15) ≤ 400 := I_28.1 214 15
      have m_334 : g14 214 15 = g13 214 14 := by rw [e_27]; exact zi_u_eq
      have m_335 : 0 ≤ (g21 214 16) ∧ (g21 214 16) ≤ 4 := I_54.1 214 16
      have m_336 : g21 214 16 = g20 214 16 := by rw [e_53]; exact zi_u_ni (by decide)
      have m_337 : 0 ≤ (g20 214 16) ∧ (g20 214 16) ≤ 4 := I_51.1 214 16
      have m_338 : g20 214 16 = g15 214 16 := by rw [e_50]; exact zi_u_ni (by decide)
      have m_339 : 0 ≤ (g15 214 16) ∧ (g15 214 16) ≤ 4 := I_32.1 214 16
      have m_340 : g15 214 16 = 1 := by rw [e_31]; exact zi_u_eq
      refine ⟨((400 - g21 214 14 : Int).toNat + 1), k_M_reads_l95 (fun g64 I_274 F_275 b_276 b_277 b_278 b_279 b_280 => ?_) hQ ((400 - g21 214 14 : Int).toNat + 1) I_54 F_55 (by omega) (by omega) (by omega) (by omega) (by first | exact zw_st (by assumption) (by assumption) (by omega) | exact zw_in (by assumption) (by assumption) (by assumption) (by assumption) (by omega)) (by omega)⟩
      have m_281 : 0 ≤ (g64 214 15) ∧ (g64 214 15) ≤ 400 := I_274.1 214 15
      have m_282 : 0 ≤ (g64 214 14) ∧ (g64 214 14) ≤ 400 := I_274.1 214 14
      refine k_M_wordAt I_274 ⟨by omega, by omega⟩ ⟨by omega, by omega⟩ (by assumption) (by omega) (fun v65 b_283 => ?_)
      intro g68 e_284
      have I_285 : zk_I g68 := by rw [e_284]; exact zk_upd (L := (-1)) (H := 100000) rfl rfl I_274 ⟨by omega, by omega⟩
      have F_286 : zk_fr fr_M_reads g g68 := by rw [e_284]; exact zk_fu F_275 (Or.inr (Or.inr (Or.inr ⟨rfl, rfl⟩)))
      have m_287 : (-1) ≤ (g68 214 17) ∧ (g68 214 17) ≤ 100000 := I_285.1 214 17
      have m_288 : g68 214 17 = v65 := by rw [e_284]; exact zi_u_eq
      refine ⟨⟨by omega, by omega⟩, ?_⟩
      refine ⟨fun c71 => ?_, fun c71 => ?_⟩
      · have m_289 : 0 ≤ (g68 214 15) ∧ (g68 214 15) ≤ 400 := I_285.1 214 15
        have m_290 : g68 214 15 = g64 214 15 := by rw [e_284]; exact zi_u_ni (by decide)
        have m_291 : 0 ≤ (g68 214 14) ∧ (g68 214 14) ≤ 400 := I_285.1 214 14
        have m_292 : g68 214 14 = g64 214 14 := by rw [e_284]; exact zi_u_ni (by decide)
        have m_293 : 0 ≤ (g68 214 13) ∧ (g68 214 13) ≤ 400 := I_285.1 214 13
        have m_294 : g68 214 13 = g64 214 13 := by rw [e_284]; exact zi_u_ni (by decide)
        have m_295 : 0 ≤ (g64 214 13) ∧ (g64 214 13) ≤ 400 := I_274.1 214 13
        have m_296 : 0 ≤ (g68 214 16) ∧ (g68 214 16) ≤ 4 := I_285.1 214 16
        have m_297 : g68 214 16 = g64 214 16 := by rw [e_284]; exact zi_u_ni (by decide)
        have m_298 : 0 ≤ (g64 214 16) ∧ (g64 214 16) ≤ 4 := I_274.1 214 16
        exact hQ _ I_285 F_286 (by omega) (by omega) (by omega) (by unfold zt3; refine ⟨?_, ?_, ?_⟩ <;> omega)
      · intro g70 e_299
        have I_300 : zk_I g70 := by rw [e_299]; exact zk_upd (L := 0) (H := 4) rfl rfl I_285 ⟨by omega, by omega⟩
        have F_301 : zk_fr fr_M_reads g g70 := by rw [e_299]; exact zk_fu F_286 (Or.inr (Or.inr (Or.inl ⟨rfl, rfl⟩)))
        have m_302 : 0 ≤ (g70 214 15) ∧ (g70 214 15) ≤ 400 := I_300.1 214 15
        have m_303 : g70 214 15 = g68 214 15 := by rw [e_299]; exact zi_u_ni (by decide)
        have m_304 : 0 ≤ (g68 214 15) ∧ (g68 214 15) ≤ 400 := I_285.1 214 15
        have m_305 : g68 214 15 = g64 214 15 := by rw [e_284]; exact zi_u_ni (by decide)
        have m_306 : 0 ≤ (g70 214 14) ∧ (g70 214 14) ≤ 400 := I_300.1 214 14
        have m_307 : g70 214 14 = g68 214 14 := by rw [e_299]; exact zi_u_ni (by decide)
        have m_308 : 0 ≤ (g68 214 14) ∧ (g68 214 14) ≤ 400 := I_285.1 214 14
        have m_309 : g68 214 14 = g64 214 14 := by rw [e_284]; exact zi_u_ni (by decide)
        have m_310 : 0 ≤ (g70 214 13) ∧ (g70 214 13) ≤ 400 := I_300.1 214 13
        have m_311 : g70 214 13 = g68 214 13 := by rw [e_299]; exact zi_u_ni (by decide)
        have m_312 : 0 ≤ (g68 214 13) ∧ (g68 214 13) ≤ 400 := I_285.1 214 13
        have m_313 : g68 214 13 = g64 214 13 := by rw [e_284]; exact zi_u_ni (by decide)
        have m_314 : 0 ≤ (g64 214 13) ∧ (g64 214 13) ≤ 400 := I_274.1 214 13
        have m_315 : 0 ≤ (g70 214 16) ∧ (g70 214 16) ≤ 4 := I_300.1 214 16
        have m_316 : g70 214 16 = 2 := by rw [e_299]; exact zi_u_eq
        have m_317 : (-1) ≤ (g70 214 17) ∧ (g70 214 17) ≤ 100000 := I_300.1 214 17
        have m_318 : g70 214 17 = g68 214 17 := by rw [e_299]; exact zi_u_ni (by decide)
        exact hQ _ I_300 F_301 (by omega) (by omega) (by omega) (by unfold zt3; refine ⟨?_, ?_, ?_⟩ <;> omega)
  · intro g74 e_341
    have I_342 : zk_I g74 := by rw [e_341]; exact zk_upd (L := 0) (H := 4) rfl rfl I_32 ⟨by omega, by omega⟩
    have F_343 : zk_fr fr_M_reads g g74 := by rw [e_341]; exact zk_fu F_33 (Or.inr (Or.inr (Or.inl ⟨rfl, rfl⟩)))
    have m_344 : 0 ≤ (g74 214 15) ∧ (g74 214 15) ≤ 400 := I_342.1 214 15
    have m_345 : g74 214 15 = g15 214 15 := by rw [e_341]; exact zi_u_ni (by decide)
    have m_346 : 0 ≤ (g15 214 15) ∧ (g15 214 15) ≤ 400 := I_32.1 214 15
    have m_347 : g15 214 15 = g14 214 15 := by rw [e_31]; exact zi_u_ni (by decide)
    have m_348 : 0 ≤ (g14 214 15) ∧ (g14 214 15) ≤ 400 := I_28.1 214 15
    have m_349 : g14 214 15 = g13 214 14 := by rw [e_27]; exact zi_u_eq
    have m_350 : 0 ≤ (g74 214 14) ∧ (g74 214 14) ≤ 400 := I_342.1 214 14
    have m_351 : g74 214 14 = g15 214 14 := by rw [e_341]; exact zi_u_ni (by decide)
    have m_352 : 0 ≤ (g74 214 13) ∧ (g74 214 13) ≤ 400 := I_342.1 214 13
    have m_353 : g74 214 13 = g15 214 13 := by rw [e_341]; exact zi_u_ni (by decide)
    have m_354 : 0 ≤ (g74 214 16) ∧ (g74 214 16) ≤ 4 := I_342.1 214 16
    have m_355 : g74 214 16 = 0 := by rw [e_341]; exact zi_u_eq
    have m_356 : (-1) ≤ (g74 214 17) ∧ (g74 214 17) ≤ 100000 := I_342.1 214 17
    have m_357 : g74 214 17 = g15 214 17 := by rw [e_341]; exact zi_u_ni (by decide)
    have m_358 : (-1) ≤ (g15 214 17) ∧ (g15 214 17) ≤ 100000 := I_32.1 214 17
    have m_359 : g15 214 17 = g14 214 17 := by rw [e_31]; exact zi_u_ni (by decide)
    have m_360 : (-1) ≤ (g14 214 17) ∧ (g14 214 17) ≤ 100000 := I_28.1 214 17
    have m_361 : g14 214 17 = g13 214 17 := by rw [e_27]; exact zi_u_ni (by decide)
    have m_362 : (-1) ≤ (g13 214 17) ∧ (g13 214 17) ≤ 100000 := I_23.1 214 17
    exact hQ _ I_342 F_343 (by omega) (by omega) (by omega) (by unfold zt3; refine ⟨?_, ?_, ?_⟩ <;> omega)
-- SpoutNewsModel.isLineWord()Z
set_option maxRecDepth 100000 in
set_option maxHeartbeats 4000000 in
theorem k_M_isLineWord {g : zi_M} {Q : Int → zi_M → Prop} (I : zk_I g) (hQ : ∀ v : Int, (0 ≤ v ∧ v ≤ 1) → (¬ v = 0 → g 214 16 = 2) → Q v g) : w_M_isLineWord g Q := by
  unfold w_M_isLineWord
  have m_1 : 0 ≤ (g 214 16) ∧ (g 214 16) ≤ 4 := I.1 214 16
  refine ⟨⟨by omega, by omega⟩, ?_⟩
  refine ⟨fun c6 => ?_, fun c6 => ?_⟩
  · exact hQ _ ⟨by omega, by omega⟩ (by omega)
  · have m_2 : (-1) ≤ (g 214 17) ∧ (g 214 17) ≤ 100000 := I.1 214 17
    refine k_M_isIn I ⟨by omega, by omega⟩ ⟨by omega, by omega⟩ ⟨by omega, by omega⟩ (fun v2 b_3 b_4 b_5 => ?_)
    refine ⟨fun c5 => ?_, fun c5 => ?_⟩
    · exact hQ _ ⟨by omega, by omega⟩ (by omega)
    · exact hQ _ ⟨by omega, by omega⟩ (by omega)
-- SpoutNewsModel.emits(II)V
noncomputable def fr_M_emits (a : Nat) (i : Int) : Prop := a = 229 ∨ a = 230 ∨ (a = 214 ∧ i = 27)
theorem k_M_emits {l1 : Int} {l2 : Int} {g : zi_M} {Q : Int → zi_M → Prop} (I : zk_I g) (p1 : 0 ≤ l1 ∧ l1 ≤ 11) (p2 : (-8) ≤ l2 ∧ l2 ≤ 100000) (px0 : g 214 27 ≤ 399) (hQ : ∀ g' : zi_M, zk_I g' → zk_fr fr_M_emits g g' → (g' 214 27 = g 214 27 + 1) → (g' 229 (800 + g 214 27) = l1) → (g' 230 (800 + g 214 27) = l2) → (∀ i : Int, ¬ i = 800 + g 214 27 → g' 229 i = g 229 i ∧ g' 230 i = g 230 i) → Q 0 g') : w_M_emits l1 l2 g Q := by
  unfold w_M_emits
  have hc := I.1 214 27
  have h1 : (0 : Int) ≤ g 214 27 := hc.1
  refine ⟨⟨by omega, by omega⟩, ?_⟩
  intro g2 e2
  have a1 : g2 214 27 = g 214 27 := by rw [e2]; exact zi_u_ne (by decide)
  have I2 : zk_I g2 := by rw [e2]; exact zk_u229 I (by omega) ⟨by omega, by omega⟩
  refine ⟨⟨by omega, by omega⟩, ?_⟩
  intro g4 e4
  have a2 : g4 214 27 = g 214 27 := by rw [e4, zi_u_ne (by decide)]; exact a1
  have I4 : zk_I g4 := by rw [e4]; exact zk_u230 I2 (by omega) ⟨by omega, by omega⟩
  intro g5 e5
  have I5 : zk_I g5 := by rw [e5]; exact zk_upd (L := 0) (H := 400) rfl rfl I4 ⟨by omega, by omega⟩
  have F2 : zk_fr fr_M_emits g g2 := by rw [e2]; exact zk_fu (zk_f0 _) (Or.inl rfl)
  have F4 : zk_fr fr_M_emits g g4 := by rw [e4]; exact zk_fu F2 (Or.inr (Or.inl rfl))
  have F5 : zk_fr fr_M_emits g g5 := by rw [e5]; exact zk_fu F4 (Or.inr (Or.inr ⟨rfl, rfl⟩))
  rw [a1] at e4
  refine hQ g5 I5 F5 ?_ ?_ ?_ ?_
  · rw [e5, zi_u_eq, a2]
  · rw [e5, zi_u_ne (by decide), e4, zi_u_ne (by decide), e2, zi_u_eq]
  · rw [e5, zi_u_ne (by decide), e4, zi_u_eq]
  · intro i hi
    constructor
    · rw [e5, zi_u_ne (by decide), e4, zi_u_ne (by decide), e2, zi_u_ni hi]
    · rw [e5, zi_u_ne (by decide), e4, zi_u_ni hi, e2, zi_u_ne (by decide)]

-- SpoutNewsModel.errs(I)I
noncomputable def fr_M_errs (a : Nat) (i : Int) : Prop := (a = 214 ∧ i = 31) ∨ (a = 214 ∧ i = 32)
set_option maxRecDepth 100000 in
set_option maxHeartbeats 4000000 in
theorem k_M_errs {l1 : Int} {g : zi_M} {Q : Int → zi_M → Prop} (I : zk_I g) (p1 : 1 ≤ l1 ∧ l1 ≤ 3) (hQ : ∀ (v : Int) (g' : zi_M), zk_I g' → zk_fr fr_M_errs g g' → ((-1) ≤ v ∧ v ≤ (-1)) → (zt3 g → zt3 g') → Q v g') : w_M_errs l1 g Q := by
  unfold w_M_errs
  intro g1 e_1
  have I_2 : zk_I g1 := by rw [e_1]; exact zk_upd (L := 0) (H := 3) rfl rfl I ⟨by omega, by omega⟩
  have F_3 : zk_fr fr_M_errs g g1 := by rw [e_1]; exact zk_fu (zk_f0 _) (Or.inl ⟨rfl, rfl⟩)
  have m_7 : 0 ≤ (g1 214 15) ∧ (g1 214 15) ≤ 400 := I_2.1 214 15
  have m_8 : g1 214 15 = g 214 15 := by rw [e_1]; exact zi_u_ni (by decide)
  have m_9 : 0 ≤ (g 214 15) ∧ (g 214 15) ≤ 400 := I.1 214 15
  intro g2 e_4
  have I_5 : zk_I g2 := by rw [e_4]; exact zk_upd (L := 0) (H := 400) rfl rfl I_2 ⟨by omega, by omega⟩
  have F_6 : zk_fr fr_M_errs g g2 := by rw [e_4]; exact zk_fu F_3 (Or.inr ⟨rfl, rfl⟩)
  have m_10 : 0 ≤ (g2 214 14) ∧ (g2 214 14) ≤ 400 := I_5.1 214 14
  have m_11 : g2 214 14 = g1 214 14 := by rw [e_4]; exact zi_u_ni (by decide)
  have m_12 : 0 ≤ (g1 214 14) ∧ (g1 214 14) ≤ 400 := I_2.1 214 14
  have m_13 : g1 214 14 = g 214 14 := by rw [e_1]; exact zi_u_ni (by decide)
  have m_14 : 0 ≤ (g 214 14) ∧ (g 214 14) ≤ 400 := I.1 214 14
  have m_15 : 0 ≤ (g2 214 15) ∧ (g2 214 15) ≤ 400 := I_5.1 214 15
  have m_16 : g2 214 15 = g1 214 15 := by rw [e_4]; exact zi_u_ni (by decide)
  have m_17 : 0 ≤ (g2 214 16) ∧ (g2 214 16) ≤ 4 := I_5.1 214 16
  have m_18 : g2 214 16 = g1 214 16 := by rw [e_4]; exact zi_u_ni (by decide)
  have m_19 : 0 ≤ (g1 214 16) ∧ (g1 214 16) ≤ 4 := I_2.1 214 16
  have m_20 : g1 214 16 = g 214 16 := by rw [e_1]; exact zi_u_ni (by decide)
  have m_21 : 0 ≤ (g 214 16) ∧ (g 214 16) ≤ 4 := I.1 214 16
  have m_22 : (-1) ≤ (g2 214 17) ∧ (g2 214 17) ≤ 100000 := I_5.1 214 17
  have m_23 : g2 214 17 = g1 214 17 := by rw [e_4]; exact zi_u_ni (by decide)
  have m_24 : (-1) ≤ (g1 214 17) ∧ (g1 214 17) ≤ 100000 := I_2.1 214 17
  have m_25 : g1 214 17 = g 214 17 := by rw [e_1]; exact zi_u_ni (by decide)
  have m_26 : (-1) ≤ (g 214 17) ∧ (g 214 17) ≤ 100000 := I.1 214 17
  exact hQ _ _ I_5 F_6 ⟨by omega, by omega⟩ (by intro h; exact zt3_e h (by omega) (by omega) (by omega) (by omega))
-- SpoutNewsModel.canAsk(I)Z
set_option maxRecDepth 100000 in
set_option maxHeartbeats 4000000 in
theorem k_M_canAsk {l1 : Int} {g : zi_M} {Q : Int → zi_M → Prop} (I : zk_I g) (p1 : (-1) ≤ l1 ∧ l1 ≤ 100000) (hQ : ∀ v : Int, (l1 < 7 → v = 0) → (7 ≤ l1 → 15 < l1 → v = 0) → (7 ≤ l1 → l1 ≤ 15 → v = 1) → Q v g) : w_M_canAsk l1 g Q := by
  unfold w_M_canAsk
  refine k_M_isIn I ⟨by omega, by omega⟩ ⟨by omega, by omega⟩ ⟨by omega, by omega⟩ (fun v1 b_1 b_2 b_3 => ?_)
  exact hQ _ (by intros; omega) (by intros; omega) (by intros; omega)
-- SpoutNewsModel.readUnit()I
noncomputable def fr_M_readUnit (a : Nat) (i : Int) : Prop := a = 229 ∨ a = 230 ∨ (a = 214 ∧ i = 14) ∨ (a = 214 ∧ i = 15) ∨ (a = 214 ∧ i = 16) ∨ (a = 214 ∧ i = 17) ∨ (a = 214 ∧ i = 27) ∨ (a = 214 ∧ i = 31) ∨ (a = 214 ∧ i = 32)
theorem k_M_readUnit_c {g : zi_M} {Q : Int → zi_M → Prop} (y : zy g) (hQ : ∀ g' : zi_M, zx 1 0 g g' → (g 214 16 = 3 → g' 229 (800 + g' 214 27 - 1) = 0 ∧ g' 230 (800 + g' 214 27 - 1) = g 214 17) → Q 0 g')
    {w v : Int} (hw : 0 ≤ w ∧ w ≤ 1) (hv : -8 ≤ v ∧ v ≤ 100000) (h1 : w = 1 → 0 ≤ v ∧ v ≤ 8) (ht : ¬ g 214 16 = 0) (h3 : g 214 16 = 3 → w = 0 ∧ v = g 214 17) :
    w_M_emits w v g (fun _ g5 => w_M_reads g5 (fun _ g8 => Q 0 g8)) := by
  have hlt := y.t3.1 ht
  have hsp := y.sp
  have hcf := y.cf
  have ht4 : g 214 13 ≤ 400 := (y.I.1 214 13).2
  refine k_M_emits y.I ⟨hw.1, by omega⟩ hv (by omega) (fun g5 I5 F5 c5 o5 a5 r5 => ?_)
  have x5 : zx 1 (-1) g g5 := zx_em y.r I5 F5 c5 o5 a5 r5 ⟨hw.1, by omega⟩ h1 (fun q => by omega) (fun q => by omega) (fun q => by omega) (by rw [if_pos hw.2]; rfl)
  have f15 : g5 214 15 = g 214 15 := F5 _ _ (by unfold fr_M_emits; omega)
  have f14 : g5 214 14 = g 214 14 := F5 _ _ (by unfold fr_M_emits; omega)
  refine k_M_reads I5 x5.sp (fun g8 I8 F8 p1 p2 p3 p4 => ?_)
  have x8 : zx 0 1 g5 g8 := zx_rd I8 F8 p1 p2 p3 p4 (by omega) (by omega)
  have c8 : g8 214 27 = g5 214 27 := F8 _ _ (by unfold fr_M_reads; omega)
  have b1 : g8 229 (800 + g8 214 27 - 1) = g5 229 (800 + g8 214 27 - 1) := F8 _ _ (by unfold fr_M_reads; omega)
  have b2 : g8 230 (800 + g8 214 27 - 1) = g5 230 (800 + g8 214 27 - 1) := F8 _ _ (by unfold fr_M_reads; omega)
  have e8 : 800 + g8 214 27 - 1 = 800 + g 214 27 := by omega
  refine hQ g8 (x5.t x8) (fun q => ?_)
  rw [b1, b2, e8, o5, a5]
  exact h3 q
theorem k_M_readUnit {g : zi_M} {Q : Int → zi_M → Prop} (I : zk_I g) (px0 : zy g) (hQ : ∀ (v : Int) (g' : zi_M), zk_I g' → zk_fr fr_M_readUnit g g' → ((-1) ≤ v ∧ v ≤ 0) → (¬ v = -1 → zx 1 0 g g') → (¬ v = -1 → g 214 16 = 3 → g' 229 (800 + g' 214 27 - 1) = 0 ∧ g' 230 (800 + g' 214 27 - 1) = g 214 17) → Q v g') : w_M_readUnit g Q := by
  have t := px0.t3
  have ok : ∀ g', zx 1 0 g g' → (g 214 16 = 3 → g' 229 (800 + g' 214 27 - 1) = 0 ∧ g' 230 (800 + g' 214 27 - 1) = g 214 17) → Q 0 g' := fun g' x l => hQ 0 g' x.I x.fr ⟨by decide, by decide⟩ (fun _ => x) (fun _ => l)
  have r16 := I.1 214 16
  have r17 : -1 ≤ g 214 17 ∧ g 214 17 ≤ 100000 := I.1 214 17
  have b43 : ∀ l : Int, 0 ≤ l ∧ l ≤ 1 → (l = 0 → g 214 16 = 3) → (¬ l = 0 → g 214 16 = 2 ∧ 7 ≤ g 214 17 ∧ g 214 17 ≤ 15) → w_M_readUnit_b43 l g Q := by
    intro l hl h0 h1
    unfold w_M_readUnit_b43
    refine ⟨⟨by omega, by omega⟩, fun e => ⟨fun _ => ?_, fun n => absurd e n⟩, fun n => ⟨fun e => absurd e n, fun _ => ?_⟩⟩
    · have := h0 e
      exact k_M_readUnit_c px0 ok ⟨by omega, by omega⟩ ⟨by omega, by omega⟩ (fun q => by omega) (by omega) (fun _ => ⟨rfl, rfl⟩)
    · have := h1 n
      exact k_M_readUnit_c px0 ok ⟨by omega, by omega⟩ ⟨by omega, by omega⟩ (fun q => by omega) (by omega) (fun q => by omega)
  have b24 : ∀ l : Int, 0 ≤ l ∧ l ≤ 1 → (¬ l = 0 → g 214 16 = 2 ∧ 7 ≤ g 214 17 ∧ g 214 17 ≤ 15) → w_M_readUnit_b24 l g Q := by
    intro l hl h1
    unfold w_M_readUnit_b24
    refine ⟨⟨by omega, by omega⟩, fun n => b43 l hl (fun e => absurd e n) h1, fun e => ⟨zk_rng I _ _, fun q => b43 l hl (fun _ => q) h1, fun q => ?_⟩⟩
    refine k_M_errs I ⟨by decide, by decide⟩ (fun v g' I' F' hv _ => ?_)
    exact hQ v g' I' (zk_ft (zk_f0 _) F' fr_XP) ⟨by omega, by omega⟩ (fun n => by omega) (fun n => by omega)
  unfold w_M_readUnit
  refine ⟨zk_rng I _ _, fun _ => b24 0 ⟨by decide, by decide⟩ (fun n => absurd rfl n), fun e => ?_⟩
  refine k_M_canAsk I ⟨by omega, by omega⟩ (fun v b1 b2 b3 => ⟨fun _ => b24 0 ⟨by decide, by decide⟩ (fun n => absurd rfl n), fun n => b24 1 ⟨by decide, by decide⟩ (fun _ => ?_)⟩)
  have := t.2.2 e
  refine ⟨e, ?_, ?_⟩ <;> omega

-- SpoutNewsModel.isSign(I)Z
set_option maxRecDepth 100000 in
set_option maxHeartbeats 4000000 in
theorem k_M_isSign {l1 : Int} {g : zi_M} {Q : Int → zi_M → Prop} (I : zk_I g) (p1 : 40 ≤ l1 ∧ l1 ≤ 62) (hQ : ∀ v : Int, (¬ (g 214 16) = 4 → v = 0) → ((g 214 16) = 4 → ¬ (g 214 17) = l1 → v = 0) → ((g 214 16) = 4 → (g 214 17) = l1 → v = 1) → Q v g) : w_M_isSign l1 g Q := by
  unfold w_M_isSign
  have m_1 : 0 ≤ (g 214 16) ∧ (g 214 16) ≤ 4 := I.1 214 16
  refine ⟨⟨by omega, by omega⟩, ?_⟩
  refine ⟨fun c5 => ?_, fun c5 => ?_⟩
  · have m_2 : (-1) ≤ (g 214 17) ∧ (g 214 17) ≤ 100000 := I.1 214 17
    exact hQ _ (by intros; omega) (by intros; omega) (by intros; omega)
  · have m_3 : (-1) ≤ (g 214 17) ∧ (g 214 17) ≤ 100000 := I.1 214 17
    refine ⟨⟨by omega, by omega⟩, ⟨by omega, by omega⟩, ?_⟩
    refine ⟨fun c4 => ?_, fun c4 => ?_⟩
    · exact hQ _ (by intros; omega) (by intros; omega) (by intros; omega)
    · exact hQ _ (by intros; omega) (by intros; omega) (by intros; omega)
-- SpoutNewsModel.readProduct()I
noncomputable def fr_M_readProduct (a : Nat) (i : Int) : Prop := a = 229 ∨ a = 230 ∨ (a = 214 ∧ i = 14) ∨ (a = 214 ∧ i = 15) ∨ (a = 214 ∧ i = 16) ∨ (a = 214 ∧ i = 17) ∨ (a = 214 ∧ i = 27) ∨ (a = 214 ∧ i = 31) ∨ (a = 214 ∧ i = 32)
theorem k_M_readProduct_l10 {g0 : zi_M} {K51 K68 K82 K101 : zi_M → Prop} {Q : Int → zi_M → Prop} (h0 : g0 214 27 ≤ g0 214 15) (hK51 : ∀ g, zk_I g → zk_fr fr_P g0 g → K51 g) (hK68 : ∀ g, zk_I g → zk_fr fr_P g0 g → K68 g) (hK82 : ∀ g, zk_I g → zk_fr fr_P g0 g → K82 g) (hK101 : ∀ g, zx 1 0 g0 g → K101 g) :
    ∀ (n : Nat) (g : zi_M), zx 1 0 g0 g → 400 - g 214 15 < (n : Int) → w_M_readProduct_l10 K51 K68 K82 K101 Q n g
  | 0, g, x, hm => by
    have a1 := x.fs; have a2 := x.sp
    have a3 : g 214 13 ≤ 400 := (x.I.1 214 13).2
    exfalso; omega
  | n + 1, g, x, hm => by
    have I := x.I
    have a1 := x.fs; have a2 := x.sp
    have a3 : g 214 13 ≤ 400 := (x.I.1 214 13).2
    have b28 : g 214 16 = 4 → (g 214 17 = 42 ∨ g 214 17 = 47) → w_M_readProduct_b28 g (w_M_readProduct_l10 K51 K68 K82 K101 Q n) K51 K68 K82 K101 Q := by
      intro ht hv
      have hlt := x.t3.1 (by omega)
      unfold w_M_readProduct_b28
      refine k_M_isSign I ⟨by decide, by decide⟩ (fun v8 c1 c2 c3 => ?_)
      refine k_M_reads I x.sp (fun g12 I12 F12 p1 p2 p3 p4 => ?_)
      have x1 : zx 0 1 g g12 := zx_rd I12 F12 p1 p2 p3 p4 (by omega) (by omega)
      have x2 : zx 1 1 g0 g12 := x.t x1
      have y12 := x2.y (by decide) h0
      have b74 : ∀ l : Int, 0 ≤ l ∧ l ≤ 1 → (l = 0 → g12 214 16 = 3 ∧ ¬ g12 214 17 = 0) → w_M_readProduct_b74 l g12 (w_M_readProduct_l10 K51 K68 K82 K101 Q n) K51 K68 K82 K101 Q := by
        intro l hl hz
        unfold w_M_readProduct_b74
        refine k_M_readUnit I12 y12 (fun v15 g16 I16 F16 hv15 hx hlast => ⟨⟨by omega, by omega⟩, fun n1 => ?_, fun e1 => hK82 _ I16 (zk_ft x2.fr F16 (fun _ _ e => e))⟩)
        have x3 := hx n1
        have x4 : zx 2 1 g0 g16 := x2.t x3
        have z1 := x4.fs; have z2 := x4.sp
        have z3 : g16 214 13 ≤ 400 := (I16.1 214 13).2
        have z4 := x4.cf
        have z5 := x3.ff
        have z6 := x2.cc
        have z7 : 0 ≤ g0 214 15 ∨ True := Or.inr trivial
        have z8 := x3.cf
        have go : ∀ w : Int, w = 4 ∨ w = 5 → (w = 5 → l = 0) → w_M_emits w 0 g16 (fun _ g' => w_M_readProduct_l10 K51 K68 K82 K101 Q n g') := by
          intro w hw hw5
          refine k_M_emits I16 ⟨by omega, by omega⟩ ⟨by decide, by decide⟩ (by omega) (fun g5 I5 F5 c5 o5 a5 r5 => ?_)
          have x5 : zx 1 (1 - 1) g0 g5 := zx_em x4 I5 F5 c5 o5 a5 r5 ⟨by omega, by omega⟩ (fun q => by omega) (fun q => by omega) (fun _ _ => by omega) (fun q => ?_) (by rw [if_neg (by omega), if_neg (by omega)]; rfl)
          · have f15 : g5 214 15 = g16 214 15 := F5 _ _ (by unfold fr_M_emits; omega)
            exact k_M_readProduct_l10 h0 hK51 hK68 hK82 hK101 n g5 x5 (by have := x1.ff; omega)
          · have hh := hz (hw5 q)
            have hl2 := hlast n1 hh.1
            have t12 := y12.t3.2.1 hh.1
            have dd := x3.dp _ _ (zp_nil (g := g12) (I12.1 214 27).1)
            have d2 := dd.2.2.2.2
            have ne : ¬ g12 214 27 = g16 214 27 := by
              intro e
              rw [e, Int.sub_self] at d2
              exact absurd d2 (show ¬ (0 : Int) = 0 + 1 by decide)
            have := x3.cc
            refine ⟨by omega, hl2.1, by rw [hl2.2]; omega⟩
        refine ⟨⟨by omega, by omega⟩, fun e => go 5 (Or.inr rfl) (fun _ => e), fun _ => go 4 (Or.inl rfl) (fun q => by omega)⟩
      have b57 : ∀ l : Int, 0 ≤ l ∧ l ≤ 1 → (l = 0 → g12 214 16 = 3) → w_M_readProduct_b57 l g12 (w_M_readProduct_l10 K51 K68 K82 K101 Q n) K51 K68 K82 K101 Q := by
        intro l hl hz
        unfold w_M_readProduct_b57
        refine ⟨⟨by omega, by omega⟩, fun n1 => b74 l hl (fun e => absurd e n1), fun e => ⟨zk_rng I12 _ _, fun n2 => b74 l hl (fun _ => ⟨hz e, n2⟩), fun _ => hK68 _ I12 x2.fr⟩⟩
      refine ⟨fun n1 => b57 v8 (by omega) (fun e => absurd e n1), fun e => ⟨zk_rng I12 _ _, fun q => b57 v8 (by omega) (fun _ => q), fun _ => hK51 _ I12 x2.fr⟩⟩
    unfold w_M_readProduct_l10
    refine k_M_isSign I ⟨by decide, by decide⟩ (fun v5 c1 c2 c3 => ⟨fun n1 => b28 (by omega) (by omega), fun e => ?_⟩)
    refine k_M_isSign I ⟨by decide, by decide⟩ (fun v34 d1 d2 d3 => ⟨fun _ => hK101 _ x, fun n2 => b28 (by omega) (by omega)⟩)
theorem k_M_readProduct {g : zi_M} {Q : Int → zi_M → Prop} (I : zk_I g) (px0 : zy g) (hQ : ∀ (v : Int) (g' : zi_M), zk_I g' → zk_fr fr_M_readProduct g g' → ((-1) ≤ v ∧ v ≤ 0) → (¬ v = -1 → zx 1 0 g g') → Q v g') : w_M_readProduct g Q := by
  unfold w_M_readProduct
  refine k_M_readUnit I px0 (fun v1 g2 I2 F2 hv1 hx hl => ⟨⟨by omega, by omega⟩, fun n1 => ?_, fun _ => hQ _ _ I2 F2 ⟨by decide, by decide⟩ (fun n => absurd rfl n)⟩)
  have x := hx n1
  have er : ∀ k : Int, 1 ≤ k ∧ k ≤ 3 → ∀ g', zk_I g' → zk_fr fr_P g g' → w_M_errs k g' (fun v g'' => Q v g'') := by
    intro k hk g' I' F'
    refine k_M_errs I' hk (fun v g'' I'' F'' hv _ => ?_)
    exact hQ _ _ I'' (zk_ft F' F'' fr_XP) ⟨by omega, by omega⟩ (fun n => by omega)
  have a3 : 0 ≤ g2 214 15 := (I2.1 214 15).1
  exact ⟨401, k_M_readProduct_l10 px0.cf (fun g' I' F' => er 1 ⟨by decide, by decide⟩ g' I' F') (fun g' I' F' => er 2 ⟨by decide, by decide⟩ g' I' F') (fun g' I' F' => hQ _ _ I' F' ⟨by decide, by decide⟩ (fun n => absurd rfl n)) (fun g' x' => hQ _ _ x'.I x'.fr ⟨by decide, by decide⟩ (fun _ => x')) 401 g2 x (by omega)⟩

