-- by program (wip/gen/mkz.py)
-- SpoutNewsModel.takesLaw(I)V
theorem k_M_takesLaw_l2 {g0 : zi_M} {l1 : Int} {K : zi_M → Prop} {Q : Int → zi_M → Prop} (q1 : 0 ≤ l1 ∧ l1 ≤ 16) (hK : ∀ g, zk_b g → (∀ a, a ≠ 225 → a ≠ 226 → a ≠ 227 → a ≠ 228 → g a = g0 a) → zR 226 32 l1 g0 g → zR 227 32 l1 g0 g → zR 228 32 l1 g0 g → K g) :
    ∀ (n : Nat) (l2 : Int) (g : zi_M), 0 ≤ l2 → l2 ≤ l1 → zk_b g → (∀ a, a ≠ 225 → a ≠ 226 → a ≠ 227 → a ≠ 228 → g a = g0 a) → zR 226 32 l2 g0 g → zR 227 32 l2 g0 g → zR 228 32 l2 g0 g → 16 - l2 < (n : Int) → w_M_takesLaw_l2 l1 K Q n l2 g
  | 0, l2, g, h0, h1, B, F, R1, R2, R3, hm => by exfalso; omega
  | n + 1, l2, g, h0, h1, B, F, R1, R2, R3, hm => by
    have wb := B 214 26
    have wz : g 214 26 = 0 := by
      have a1 : (0 : Int) ≤ g 214 26 := wb.1
      have a2 : g 214 26 ≤ 0 := wb.2
      omega
    unfold w_M_takesLaw_l2
    refine ⟨⟨by omega, by omega⟩, ⟨by omega, by omega⟩, fun h => ?_, fun h => ⟨⟨by omega, by omega⟩, ⟨by omega, by omega⟩, ?_⟩⟩
    · have e : l2 = l1 := by omega
      rw [e] at R1 R2 R3
      exact hK g B F R1 R2 R3
    · intro g5 e5
      have w5 : g5 214 26 = 0 := by rw [e5, zi_u_ne (by decide)]; exact wz
      refine ⟨⟨by omega, by omega⟩, ?_⟩
      intro g7 e7
      have w7 : g7 214 26 = 0 := by rw [e7, zi_u_ne (by decide)]; exact w5
      refine ⟨⟨by omega, by omega⟩, ?_⟩
      intro g9 e9
      have w9 : g9 214 26 = 0 := by rw [e9, zi_u_ne (by decide)]; exact w7
      refine ⟨⟨by omega, by omega⟩, ?_⟩
      intro g11 e11
      rw [wz, Int.mul_zero, Int.zero_add] at e5
      rw [w5, Int.mul_zero, Int.zero_add] at e7
      rw [w7, Int.mul_zero, Int.zero_add] at e9
      rw [w9, Int.mul_zero, Int.zero_add] at e11
      have B5 : zk_b g5 := by rw [e5]; exact zk_updb (L := -2147483648) (H := 2147483647) rfl rfl B (B 225 (32 + l2))
      have B7 : zk_b g7 := by rw [e7]; exact zk_updb (L := 0) (H := 400) rfl rfl B5 (B5 226 (32 + l2))
      have B9 : zk_b g9 := by rw [e9]; exact zk_updb (L := 0) (H := 400) rfl rfl B7 (B7 227 (32 + l2))
      have B11 : zk_b g11 := by rw [e11]; exact zk_updb (L := 0) (H := 400) rfl rfl B9 (B9 228 (32 + l2))
      refine k_M_takesLaw_l2 q1 hK n (l2 + 1) g11 (by omega) (by omega) B11 (fun a h1 h2 h3 h4 => ?_) ?_ ?_ ?_ (by omega)
      · rw [e11, zi_u_row h4, e9, zi_u_row h3, e7, zi_u_row h2, e5, zi_u_row h1]
        exact F a h1 h2 h3 h4
      · exact zR_n (zR_n (zR_s (zR_n R1 (by decide) e5) h0 (by omega) e7) (by decide) e9) (by decide) e11
      · exact zR_n (zR_s (zR_n (zR_n R2 (by decide) e5) (by decide) e7) h0 (by omega) e9) (by decide) e11
      · exact zR_s (zR_n (zR_n (zR_n R3 (by decide) e5) (by decide) e7) (by decide) e9) h0 (by omega) e11
theorem k_M_takesLaw_l107 {g0 : zi_M} {K : zi_M → Prop} {Q : Int → zi_M → Prop} (hK : ∀ g, zk_b g → (∀ a, a ≠ 229 → a ≠ 230 → g a = g0 a) → zR 229 800 (g0 214 27) g0 g → zR 230 800 (g0 214 27) g0 g → K g) :
    ∀ (n : Nat) (l2 : Int) (g : zi_M), 0 ≤ l2 → l2 ≤ g0 214 27 → zk_b g → (∀ a, a ≠ 229 → a ≠ 230 → g a = g0 a) → zR 229 800 l2 g0 g → zR 230 800 l2 g0 g → 400 - l2 < (n : Int) → w_M_takesLaw_l107 K Q n l2 g
  | 0, l2, g, h0, h1, B, F, R1, R2, hm => by
    have a2 : g 214 27 ≤ 400 := (B 214 27).2
    have : g 214 27 = g0 214 27 := by rw [F 214 (by decide) (by decide)]
    exfalso; omega
  | n + 1, l2, g, h0, h1, B, F, R1, R2, hm => by
    have wb := B 214 26
    have wz : g 214 26 = 0 := by
      have a1 : (0 : Int) ≤ g 214 26 := wb.1
      have a2 : g 214 26 ≤ 0 := wb.2
      omega
    have c2 : g 214 27 ≤ 400 := (B 214 27).2
    have ce : g 214 27 = g0 214 27 := by rw [F 214 (by decide) (by decide)]
    unfold w_M_takesLaw_l107
    refine ⟨⟨by omega, by omega⟩, ⟨by omega, by omega⟩, fun h => ?_, fun h => ⟨⟨by omega, by omega⟩, ⟨by omega, by omega⟩, ?_⟩⟩
    · have e : l2 = g0 214 27 := by omega
      rw [e] at R1 R2
      exact hK g B F R1 R2
    · intro g18 e18
      have w5 : g18 214 26 = 0 := by rw [e18, zi_u_ne (by decide)]; exact wz
      refine ⟨⟨by omega, by omega⟩, ?_⟩
      intro g20 e20
      rw [wz, Int.mul_zero, Int.zero_add] at e18
      rw [w5, Int.mul_zero, Int.zero_add] at e20
      have B18 : zk_b g18 := by rw [e18]; exact zk_updb (L := -2147483648) (H := 2147483647) rfl rfl B (B 229 (800 + l2))
      have B20 : zk_b g20 := by rw [e20]; exact zk_updb (L := -2147483648) (H := 2147483647) rfl rfl B18 (B18 230 (800 + l2))
      refine k_M_takesLaw_l107 hK n (l2 + 1) g20 (by omega) (by omega) B20 (fun a h1 h2 => ?_) ?_ ?_ (by omega)
      · rw [e20, zi_u_row h2, e18, zi_u_row h1]
        exact F a h1 h2
      · exact zR_n (zR_s R1 h0 (by omega) e18) (by decide) e20
      · exact zR_s (zR_n R2 (by decide) e18) h0 (by omega) e20
theorem k_M_takesLaw {l1 : Int} {g : zi_M} {Q : Int → zi_M → Prop} (I : zk_I g) (p1 : 0 ≤ l1 ∧ l1 ≤ 16) (px0 : zLd g l1) (hQ : ∀ g' : zi_M, zk_I g' → zk_fr fr_M_takesLaw g g' → Q 0 g') : w_M_takesLaw l1 g Q := by
  unfold w_M_takesLaw
  refine ⟨17, k_M_takesLaw_l2 p1 (fun g13 B13 F13 R1 R2 R3 => ?_) 17 0 g (by omega) (by omega) I.1 (fun _ _ _ _ _ => rfl) (zR_0 _ _ _) (zR_0 _ _ _) (zR_0 _ _ _) (by omega)⟩
  have c0 : 0 ≤ g13 214 27 := (B13 214 27).1
  have c2 : g13 214 27 ≤ 400 := (B13 214 27).2
  have ce : g13 214 27 = g 214 27 := by rw [F13 214 (by decide) (by decide) (by decide) (by decide)]
  refine ⟨401, k_M_takesLaw_l107 (fun g22 B22 F22 R4 R5 => ?_) 401 0 g13 (by omega) c0 B13 (fun _ _ _ => rfl) (zR_0 _ _ _) (zR_0 _ _ _) (by omega)⟩
  have wb := B22 214 26
  have wz : g22 214 26 = 0 := by
    have a1 : (0 : Int) ≤ g22 214 26 := wb.1
    have a2 : g22 214 26 ≤ 0 := wb.2
    omega
  refine ⟨⟨by omega, by omega⟩, ?_⟩
  intro g24 e24
  rw [wz] at e24
  have FF : ∀ a, a ≠ 224 → a ≠ 225 → a ≠ 226 → a ≠ 227 → a ≠ 228 → a ≠ 229 → a ≠ 230 → g24 a = g a := by
    intro a h0 h1 h2 h3 h4 h5 h6
    rw [e24, zi_u_row h0, F22 a h5 h6, F13 a h1 h2 h3 h4]
  refine hQ g24 ⟨by rw [e24]; exact zk_updb (L := 0) (H := 16) rfl rfl B22 ⟨p1.1, p1.2⟩, ?_⟩ (fun a i ha => by rw [FF a (fun e => ha (Or.inl e)) (fun e => ha (Or.inr (Or.inl e))) (fun e => ha (Or.inr (Or.inr (Or.inl e)))) (fun e => ha (Or.inr (Or.inr (Or.inr (Or.inl e))))) (fun e => ha (Or.inr (Or.inr (Or.inr (Or.inr (Or.inl e)))))) (fun e => ha (Or.inr (Or.inr (Or.inr (Or.inr (Or.inr (Or.inl e))))))) (fun e => ha (Or.inr (Or.inr (Or.inr (Or.inr (Or.inr (Or.inr e)))))))])
  obtain ⟨h1, h2, h3, h4, h5, h6⟩ := I.2
  refine ⟨?_, by rw [FF 234 (by decide) (by decide) (by decide) (by decide) (by decide) (by decide) (by decide)]; exact h2, by rw [FF 244 (by decide) (by decide) (by decide) (by decide) (by decide) (by decide) (by decide)]; exact h3, by rw [FF 250 (by decide) (by decide) (by decide) (by decide) (by decide) (by decide) (by decide)]; exact h4, by rw [FF 250 (by decide) (by decide) (by decide) (by decide) (by decide) (by decide) (by decide)]; exact h5, by rw [FF 250 (by decide) (by decide) (by decide) (by decide) (by decide) (by decide) (by decide)]; exact h6⟩
  have m24 : g24 224 0 = l1 := by rw [e24, zi_u_eq]
  rw [m24]
  intro l l0 ll
  have a1 : g24 226 l = g 226 (32 + l) := by rw [e24, zi_u_ne (by decide), F22 226 (by decide) (by decide)]; exact zR_p R1 l0 ll
  have a2 : g24 227 l = g 227 (32 + l) := by rw [e24, zi_u_ne (by decide), F22 227 (by decide) (by decide)]; exact zR_p R2 l0 ll
  have a3 : g24 228 l = g 228 (32 + l) := by rw [e24, zi_u_ne (by decide), F22 228 (by decide) (by decide)]; exact zR_p R3 l0 ll
  have ao : ∀ i, 0 ≤ i → i < g 214 27 → g24 229 i = g 229 (800 + i) := fun i i0 i1 => by
    rw [e24, zi_u_ne (by decide), zR_p R4 i0 (by omega), F13 229 (by decide) (by decide) (by decide) (by decide)]
  have aa : ∀ i, 0 ≤ i → i < g 214 27 → g24 230 i = g 230 (800 + i) := fun i i0 i1 => by
    rw [e24, zi_u_ne (by decide), zR_p R5 i0 (by omega), F13 230 (by decide) (by decide) (by decide) (by decide)]
  obtain ⟨⟨b1, b2, b3, b4⟩, s1, s2⟩ := px0 l l0 ll
  rw [a1, a2, a3]
  refine ⟨⟨b1, b2, b3, by omega⟩, ?_, ?_⟩
  · exact zj_segc s1 (fun k k1 k2 => ao k (by omega) (by omega)) (fun k k1 k2 => aa k (by omega) (by omega))
  · exact zj_segc s2 (fun k k1 k2 => ao k (by omega) (by omega)) (fun k k1 k2 => aa k (by omega) (by omega))

-- SpoutNewsModel.raw(I)I
set_option maxRecDepth 100000 in
set_option maxHeartbeats 4000000 in
theorem k_M_raw {l1 : Int} {g : zi_M} {Q : Int → zi_M → Prop} (I : zk_I g) (p1 : 0 ≤ l1 ∧ l1 ≤ 400) (hQ : ∀ v : Int, ((g 214 13) ≤ l1 → v = (-1)) → (l1 < (g 214 13) → v = g 222 l1) → Q v g) : w_M_raw l1 g Q := by
  unfold w_M_raw
  have m_1 : 0 ≤ (g 214 13) ∧ (g 214 13) ≤ 400 := I.1 214 13
  refine ⟨⟨by omega, by omega⟩, ⟨by omega, by omega⟩, ?_⟩
  refine ⟨fun c4 => ?_, fun c4 => ?_⟩
  · have m_2 : 0 ≤ (g 222 l1) ∧ (g 222 l1) ≤ 255 := I.1 222 l1
    exact hQ _ (by intros; omega) (by intros; omega)
  · refine ⟨⟨by omega, by omega⟩, ?_⟩
    have m_3 : 0 ≤ (g 222 l1) ∧ (g 222 l1) ≤ 255 := I.1 222 l1
    exact hQ _ (by intros; omega) (by intros; omega)
-- SpoutNewsModel.isLetter(I)Z
set_option maxRecDepth 100000 in
set_option maxHeartbeats 4000000 in
theorem k_M_isLetter {l1 : Int} {g : zi_M} {Q : Int → zi_M → Prop} (I : zk_I g) (p1 : (-1) ≤ l1 ∧ l1 ≤ 255) (hQ : ∀ v : Int, (0 ≤ v ∧ v ≤ 1) → (¬ v = 0 → 65 ≤ l1 ∧ l1 ≤ 122) → (zlt l1 → v = 1) → (¬ zlt l1 → v = 0) → Q v g) : w_M_isLetter l1 g Q := by
  unfold w_M_isLetter
  refine k_M_isIn I ⟨by omega, by omega⟩ ⟨by omega, by omega⟩ ⟨by omega, by omega⟩ (fun v1 b_1 b_2 b_3 => ?_)
  refine ⟨fun c8 => ?_, fun c8 => ?_⟩
  · exact hQ _ ⟨by omega, by omega⟩ (by omega) (by intro hv; unfold zlt at hv; omega) (by intro hv; unfold zlt at hv; omega)
  · refine k_M_isIn I ⟨by omega, by omega⟩ ⟨by omega, by omega⟩ ⟨by omega, by omega⟩ (fun v4 b_4 b_5 b_6 => ?_)
    refine ⟨fun c7 => ?_, fun c7 => ?_⟩
    · exact hQ _ ⟨by omega, by omega⟩ (by omega) (by intro hv; unfold zlt at hv; omega) (by intro hv; unfold zlt at hv; omega)
    · exact hQ _ ⟨by omega, by omega⟩ (by omega) (by intro hv; unfold zlt at hv; omega) (by intro hv; unfold zlt at hv; omega)
-- SpoutNewsModel.isDigit(I)Z
set_option maxRecDepth 100000 in
set_option maxHeartbeats 4000000 in
theorem k_M_isDigit {l1 : Int} {g : zi_M} {Q : Int → zi_M → Prop} (I : zk_I g) (p1 : (-1) ≤ l1 ∧ l1 ≤ 255) (hQ : ∀ v : Int, (l1 < 48 → v = 0) → (48 ≤ l1 → 57 < l1 → v = 0) → (48 ≤ l1 → l1 ≤ 57 → v = 1) → Q v g) : w_M_isDigit l1 g Q := by
  unfold w_M_isDigit
  refine k_M_isIn I ⟨by omega, by omega⟩ ⟨by omega, by omega⟩ ⟨by omega, by omega⟩ (fun v1 b_1 b_2 b_3 => ?_)
  exact hQ _ (by intros; omega) (by intros; omega) (by intros; omega)
-- SpoutNewsModel.isMarkSign(I)Z
set_option maxRecDepth 100000 in
set_option maxHeartbeats 4000000 in
theorem k_M_isMarkSign {l1 : Int} {g : zi_M} {Q : Int → zi_M → Prop} (I : zk_I g) (p1 : 0 ≤ l1 ∧ l1 ≤ 255) (hQ : ∀ v : Int, (0 ≤ v ∧ v ≤ 1) → (zsg l1 → v = 1) → (¬ zsg l1 → v = 0) → Q v g) : w_M_isMarkSign l1 g Q := by
  unfold w_M_isMarkSign
  refine ⟨⟨by omega, by omega⟩, ?_⟩
  refine ⟨fun c11 => ?_, fun c11 => ?_⟩
  · exact hQ _ ⟨by omega, by omega⟩ (by intro hv; unfold zsg at hv; omega) (by intro hv; unfold zsg at hv; omega)
  · refine ⟨fun c10 => ?_, fun c10 => ?_⟩
    · exact hQ _ ⟨by omega, by omega⟩ (by intro hv; unfold zsg at hv; omega) (by intro hv; unfold zsg at hv; omega)
    · refine ⟨fun c9 => ?_, fun c9 => ?_⟩
      · exact hQ _ ⟨by omega, by omega⟩ (by intro hv; unfold zsg at hv; omega) (by intro hv; unfold zsg at hv; omega)
      · refine ⟨fun c8 => ?_, fun c8 => ?_⟩
        · exact hQ _ ⟨by omega, by omega⟩ (by intro hv; unfold zsg at hv; omega) (by intro hv; unfold zsg at hv; omega)
        · refine ⟨fun c7 => ?_, fun c7 => ?_⟩
          · exact hQ _ ⟨by omega, by omega⟩ (by intro hv; unfold zsg at hv; omega) (by intro hv; unfold zsg at hv; omega)
          · refine ⟨fun c6 => ?_, fun c6 => ?_⟩
            · exact hQ _ ⟨by omega, by omega⟩ (by intro hv; unfold zsg at hv; omega) (by intro hv; unfold zsg at hv; omega)
            · refine ⟨fun c5 => ?_, fun c5 => ?_⟩
              · exact hQ _ ⟨by omega, by omega⟩ (by intro hv; unfold zsg at hv; omega) (by intro hv; unfold zsg at hv; omega)
              · refine ⟨fun c4 => ?_, fun c4 => ?_⟩
                · exact hQ _ ⟨by omega, by omega⟩ (by intro hv; unfold zsg at hv; omega) (by intro hv; unfold zsg at hv; omega)
                · refine ⟨fun c3 => ?_, fun c3 => ?_⟩
                  · exact hQ _ ⟨by omega, by omega⟩ (by intro hv; unfold zsg at hv; omega) (by intro hv; unfold zsg at hv; omega)
                  · refine ⟨fun c2 => ?_, fun c2 => ?_⟩
                    · exact hQ _ ⟨by omega, by omega⟩ (by intro hv; unfold zsg at hv; omega) (by intro hv; unfold zsg at hv; omega)
                    · exact hQ _ ⟨by omega, by omega⟩ (by intro hv; unfold zsg at hv; omega) (by intro hv; unfold zsg at hv; omega)
-- SpoutNewsModel.wordAt(II)I
theorem zk_wdv {g : zi_M} (I : zk_I g) (k : Int) : g 223 k = zk_wd k.toNat := by
  have h := I.1 223 k
  have a1 : zk_lo 223 k = zk_wd k.toNat := rfl
  have a2 : zk_hi 223 k = zk_wd k.toNat := rfl
  omega
theorem zw_nx1 (i k : Int) (hi : 0 ≤ i ∧ i < k) (hw : zk_wd i.toNat = 32) (hn : ∀ j : Int, i + 1 ≤ j → j < k → ¬ zk_wd j.toNat = 32) : zw_nx k = zw_nx i + 1 := by
  have st : ∀ m : Nat, i + 1 + (m : Int) ≤ k → zw_nn (i.toNat + 1 + m) = zw_nn i.toNat + 1 := by
    intro m
    induction m with
    | zero =>
      intro _
      show zw_nn i.toNat + (if zk_wd i.toNat = 32 then 1 else 0) = _
      rw [hw, if_pos rfl]
    | succ m ih =>
      intro hm
      show zw_nn (i.toNat + 1 + m) + (if zk_wd (i.toNat + 1 + m) = 32 then 1 else 0) = _
      have := hn (i + 1 + m) (by omega) (by omega)
      rw [show (i + 1 + (m : Int)).toNat = i.toNat + 1 + m by omega] at this
      rw [ih (by omega), if_neg this]
      omega
  have := st (k - i - 1).toNat (by omega)
  rw [show i.toNat + 1 + (k - i - 1).toNat = k.toNat by omega] at this
  exact this
/-- the word behind a space is that of the tape -/
noncomputable def zMt (f : Int → Int) (a b s : Int) : Prop := (∀ i : Int, 0 ≤ i → i < b - a → zk_wd (s + 1 + i).toNat = f (a + i)) ∧ zk_wd (s + 1 + (b - a)).toNat = 32
theorem k_M_wordAt_l94 {g : zi_M} (I : zk_I g) {K : Int → zi_M → Prop} {Q : Int → zi_M → Prop} (s : Int) (hs : 0 ≤ s) (hK : ∀ k, s ≤ k → k ≤ 128 → g 223 k = 32 → (∀ j : Int, s ≤ j → j < k → ¬ g 223 j = 32) → K k g) : ∀ (n : Nat) (l4 : Int), s ≤ l4 → l4 ≤ 128 → (∀ j : Int, s ≤ j → j < l4 → ¬ g 223 j = 32) → 128 - l4 < (n : Int) → w_M_wordAt_l94 K Q n l4 g
  | 0, l4, h1, h2, h3, hm => by exfalso; omega
  | n + 1, l4, h1, h2, h3, hm => by
    unfold w_M_wordAt_l94
    have wf := zk_wend I (i := l4)
    refine ⟨⟨by omega, by omega⟩, zk_rng I _ _, fun e => hK _ h1 h2 e h3, fun e => ?_⟩
    refine k_M_wordAt_l94 I s hs hK n (l4 + 1) (by omega) (by omega) (fun j j0 j1 => ?_) (by omega)
    by_cases q : j = l4
    · rw [q]; exact e
    · exact h3 j j0 (by omega)
theorem k_M_wordAt_l20 {g : zi_M} (I : zk_I g) {l1 l2 l4 : Int} {K : Int → zi_M → Prop} {Q : Int → zi_M → Prop} (q1 : 0 ≤ l1 ∧ l1 ≤ 400) (q2 : 0 ≤ l2 ∧ l2 ≤ 400) (q4 : 0 ≤ l4 ∧ l4 ≤ 127) (hz : zw_let g l1 l2) (hK : ∀ k, 0 ≤ k → l4 + 1 + k ≤ 128 → l1 + k ≤ l2 → (∀ i : Int, 0 ≤ i → i < k → g 223 (l4 + 1 + i) = g 222 (l1 + i)) → (l1 + k = l2 ∨ ¬ g 223 (l4 + 1 + k) = g 222 (l1 + k)) → K k g) : ∀ (n : Nat) (l5 : Int), 0 ≤ l5 → l4 + 1 + l5 ≤ 128 → l1 + l5 ≤ l2 → (∀ i : Int, 0 ≤ i → i < l5 → g 223 (l4 + 1 + i) = g 222 (l1 + i)) → 128 - l4 - l5 ≤ (n : Int) → w_M_wordAt_l20 l1 l2 l4 K Q n l5 g
  | 0, l5, h1, h2, h0, h3, hm => by exfalso; omega
  | n + 1, l5, h1, h2, h0, h3, hm => by
    unfold w_M_wordAt_l20
    have wf := zk_wend I (i := l4 + 1 + l5)
    have zf := hz (l1 + l5)
    refine ⟨⟨by omega, by omega⟩, ⟨by omega, by omega⟩, fun c => hK _ h1 h2 h0 h3 (Or.inl (by omega)), fun c => ⟨⟨by omega, by omega⟩, ⟨by omega, by omega⟩, zk_rng I _ _, zk_rng I _ _, fun ne => hK _ h1 h2 h0 h3 (Or.inr ne), fun e => ?_⟩⟩
    refine k_M_wordAt_l20 I q1 q2 q4 hz hK n (l5 + 1) (by omega) (by omega) (by omega) (fun i i0 i1 => ?_) (by omega)
    by_cases q : i = l5
    · rw [q]; exact e
    · exact h3 i i0 (by omega)
theorem k_M_wordAt_l5 {g : zi_M} (I : zk_I g) {l1 l2 : Int} {K86 : Int → zi_M → Prop} {K118 : zi_M → Prop} {Q : Int → zi_M → Prop} (q1 : 0 ≤ l1 ∧ l1 ≤ 400) (q2 : 0 ≤ l2 ∧ l2 ≤ 400) (q12 : l1 ≤ l2) (hz : zw_let g l1 l2) (hK86 : ∀ k, 0 ≤ k → k ≤ 26 → zWd (g 222) l1 l2 k → K86 k g) (hK118 : (∀ s : Int, 0 ≤ s → s < 128 → zk_wd s.toNat = 32 → ¬ zMt (g 222) l1 l2 s) → K118 g) :
    ∀ (n : Nat) (l3 l4 : Int), 0 ≤ l4 → l4 ≤ 128 → zk_wd l4.toNat = 32 → zw_nx l4 = l3 + 1 → (∀ s : Int, 0 ≤ s → s < l4 → zk_wd s.toNat = 32 → ¬ zMt (g 222) l1 l2 s) → 128 - l4 < (n : Int) → w_M_wordAt_l5 l1 l2 K86 K118 Q n l3 l4 g
  | 0, l3, l4, h3, h4, h5, h6, h7, hm => by exfalso; omega
  | n + 1, l3, l4, h3, h4, h5, h6, h7, hm => by
    unfold w_M_wordAt_l5
    refine ⟨⟨by omega, by omega⟩, fun c => hK118 (fun s s0 s1 => h7 s s0 (by omega)), fun c => ⟨129, ?_⟩⟩
    have hx := zw_nxb l4 ⟨h3, c⟩ h5
    have hx0 : 0 ≤ zw_nx l4 := by
      have h2 : ∀ n : Nat, n < 128 → 0 ≤ zw_nn n := by decide +kernel
      exact h2 l4.toNat (by omega)
    have next : ¬ zMt (g 222) l1 l2 l4 → ∃ f, w_M_wordAt_l94 (fun k g' => w_M_wordAt_l5 l1 l2 K86 K118 Q n (l3 + 1) k g') Q f (l4 + 1) g := by
      intro nm
      refine ⟨129, k_M_wordAt_l94 I (l4 + 1) (by omega) (fun k k1 k2 ke kn => ?_) 129 (l4 + 1) (by omega) (by omega) (fun j j0 j1 => by exfalso; omega) (by omega)⟩
      rw [zk_wdv I] at ke
      have kn' : ∀ j : Int, l4 + 1 ≤ j → j < k → ¬ zk_wd j.toNat = 32 := fun j j0 j1 => by rw [← zk_wdv I]; exact kn j j0 j1
      refine k_M_wordAt_l5 I q1 q2 q12 hz hK86 hK118 n (l3 + 1) k (by omega) k2 ke (by rw [zw_nx1 l4 k ⟨h3, by omega⟩ h5 kn']; omega) (fun s s0 s1 sw => ?_) (by omega)
      by_cases a : s < l4
      · exact h7 s s0 a sw
      · by_cases b : s = l4
        · rw [b]; exact nm
        · exact absurd sw (kn' s (by omega) s1)
    refine k_M_wordAt_l20 I q1 q2 ⟨h3, by omega⟩ hz (fun k k1 k2 k0 k3 k4 => ?_) 129 0 (by omega) (by omega) (by omega) (fun i i0 i1 => by exfalso; omega) (by omega)
    have r223 := zk_wdv I
    unfold w_M_wordAt_b61
    refine ⟨⟨by omega, by omega⟩, ⟨by omega, by omega⟩, fun ne => next (fun m => ?_), fun e => ⟨⟨by omega, by omega⟩, zk_rng I _ _, fun ne => next (fun m => ?_), fun e32 => hK86 _ (by omega) (by omega) ⟨l4, ⟨h3, c⟩, h5, by omega, fun i i0 i1 => ?_, ?_⟩⟩⟩
    · rcases k4 with w | w
      · exact ne w
      · exact w (by rw [r223]; exact m.1 k k1 (by omega))
    · apply ne
      rw [r223]
      have m2 := m.2
      rw [show l2 - l1 = k by omega] at m2
      exact m2
    · rw [← r223]; exact k3 i i0 (by omega)
    · rw [← r223, show l2 - l1 = k by omega]; exact e32
set_option maxRecDepth 100000 in
theorem k_M_wordAt {l1 : Int} {l2 : Int} {g : zi_M} {Q : Int → zi_M → Prop} (I : zk_I g) (p1 : 0 ≤ l1 ∧ l1 ≤ 400) (p2 : 0 ≤ l2 ∧ l2 ≤ 400) (px0 : zw_let g l1 l2) (px1 : l1 ≤ l2) (hQ : ∀ v : Int, ((-1) ≤ v ∧ v ≤ 26) → (0 ≤ v → zWd (g 222) l1 l2 v) → (v = -1 → ∀ w : Int, ¬ zWd (g 222) l1 l2 w) → Q v g) : w_M_wordAt l1 l2 g Q := by
  unfold w_M_wordAt
  exact ⟨129, k_M_wordAt_l5 I p1 p2 px1 px0 (fun k k1 k2 kw => hQ _ ⟨by omega, by omega⟩ (fun _ => kw) (fun e => by omega)) (fun h => hQ _ ⟨by omega, by omega⟩ (fun e => by omega) (fun _ w kw => by obtain ⟨s, s0, s1, s2, s3, s4⟩ := kw; exact h s s0.1 s0.2 s1 ⟨s3, s4⟩)) 129 (-1) 0 (by omega) (by omega) (by decide +kernel) (by decide +kernel) (fun s s0 s1 => by exfalso; omega) (by omega)⟩

-- SpoutNewsModel.reads()V
theorem zrn_1 {P : Int → Prop} {f : Int → Int} {n a b : Int} (h : (a < b ∧ b ≤ n) ∧ (∀ i : Int, a ≤ i → i < b → P (f i))) (hn : b < n → ¬ P (f b)) : zrn P f n a b := ⟨h.1, h.2, hn⟩
theorem k_M_reads_l0 {g0 : zi_M} {K : zi_M → Prop} {Q : Int → zi_M → Prop} (hK : ∀ g, zk_I g → zk_fr fr_M_reads g0 g → g0 214 14 ≤ g 214 14 → g 214 14 ≤ g0 214 13 → (∀ i : Int, g0 214 14 ≤ i → i < g 214 14 → zbk (g0 222 i)) → (g 214 14 < g0 214 13 → ¬ zbk (g0 222 (g 214 14))) → K g) :
    ∀ (m : Nat) (g : zi_M), zk_I g → zk_fr fr_M_reads g0 g → g0 214 14 ≤ g 214 14 → g 214 14 ≤ g0 214 13 → (∀ i : Int, g0 214 14 ≤ i → i < g 214 14 → zbk (g0 222 i)) → 400 - g 214 14 < (m : Int) → w_M_reads_l0 K Q m g
  | 0, g, I, F, h1, h2, h3, hm => by
    have b : 0 ≤ g 214 14 ∧ g 214 14 ≤ 400 := I.1 214 14
    exfalso; omega
  | m + 1, g, I, F, h1, h2, h3, hm => by
    have bs : 0 ≤ g 214 14 ∧ g 214 14 ≤ 400 := I.1 214 14
    have bn : 0 ≤ g 214 13 ∧ g 214 13 ≤ 400 := I.1 214 13
    have en : g 214 13 = g0 214 13 := F 214 13 (by unfold fr_M_reads; omega)
    have ef : g 222 = g0 222 := funext (fun i => F 222 i (by unfold fr_M_reads; omega))
    have r2 : 0 ≤ g 222 (g 214 14) ∧ g 222 (g 214 14) ≤ 255 := I.1 222 _
    have adv : g 214 14 < g 214 13 → zbk (g 222 (g 214 14)) → ∀ g5, g5 = zi_u g 214 14 (g 214 14 + 1) → w_M_reads_l0 K Q m g5 := by
      intro hl hb g5 e5
      have s5 : g5 214 14 = g 214 14 + 1 := by rw [e5, zi_u_eq]
      refine k_M_reads_l0 hK m g5 (by rw [e5]; exact zk_upd (L := 0) (H := 400) rfl rfl I ⟨by omega, by omega⟩) (by rw [e5]; exact zk_fu F (Or.inl ⟨rfl, rfl⟩)) (by omega) (by omega) (fun i i0 i1 => ?_) (by omega)
      by_cases q : i = g 214 14
      · rw [q, ← ef]; exact hb
      · exact h3 i i0 (by omega)
    unfold w_M_reads_l0
    refine k_M_raw I ⟨by omega, by omega⟩ (fun v1 a1 a2 => ⟨⟨by omega, by omega⟩, fun e => ?_, fun ne => ?_⟩)
    · have hl : g 214 14 < g 214 13 := by omega
      exact adv hl (Or.inl (by rw [← a2 hl]; exact e))
    · refine k_M_raw I ⟨by omega, by omega⟩ (fun v6 b1 b2 => ⟨⟨by omega, by omega⟩, fun ne2 => ?_, fun e => ?_⟩)
      · refine hK g I F h1 h2 h3 (fun hl hb => ?_)
        rw [← ef] at hb
        have hl' : g 214 14 < g 214 13 := by omega
        have := a2 hl'
        have := b2 hl'
        unfold zbk at hb
        omega
      · have hl : g 214 14 < g 214 13 := by omega
        exact adv hl (Or.inr (by rw [← b2 hl]; exact e))
theorem k_M_reads_l95 {g0 : zi_M} {K : zi_M → Prop} {Q : Int → zi_M → Prop} {a : Int} (hK : ∀ g, zk_I g → zk_fr fr_M_reads g0 g → g 214 15 = a → zrn zlt (g0 222) (g0 214 13) a (g 214 14) → g 214 16 = 1 → K g) :
    ∀ (m : Nat) (g : zi_M), zk_I g → zk_fr fr_M_reads g0 g → g 214 15 = a → g 214 16 = 1 → ((a < g 214 14 ∧ g 214 14 ≤ g0 214 13) ∧ ∀ i : Int, a ≤ i → i < g 214 14 → zlt (g0 222 i)) → 400 - g 214 14 < (m : Int) → w_M_reads_l95 K Q m g
  | 0, g, I, F, ha, hk, h, hm => by
    have b : 0 ≤ g 214 14 ∧ g 214 14 ≤ 400 := I.1 214 14
    exfalso; omega
  | m + 1, g, I, F, ha, hk, h, hm => by
    have bs : 0 ≤ g 214 14 ∧ g 214 14 ≤ 400 := I.1 214 14
    have bn : 0 ≤ g 214 13 ∧ g 214 13 ≤ 400 := I.1 214 13
    have en : g 214 13 = g0 214 13 := F 214 13 (by unfold fr_M_reads; omega)
    have ef : g 222 = g0 222 := funext (fun i => F 222 i (by unfold fr_M_reads; omega))
    have r2 : 0 ≤ g 222 (g 214 14) ∧ g 222 (g 214 14) ≤ 255 := I.1 222 _
    unfold w_M_reads_l95
    refine k_M_raw I ⟨by omega, by omega⟩ (fun v a1 a2 => ?_)
    refine k_M_isLetter I ⟨by omega, by omega⟩ (fun z z1 z2 z3 z4 => ⟨fun e => ?_, fun ne => ?_⟩)
    · refine hK g I F ha (zrn_1 h (fun hl hc => ?_)) hk
      rw [← ef, ← a2 (by omega)] at hc
      have := z3 hc
      omega
    · intro g5 e5
      have s5 : g5 214 14 = g 214 14 + 1 := by rw [e5, zi_u_eq]
      have lv : zlt v := Classical.byContradiction (fun q => ne (z4 q))
      have hl : g 214 14 < g 214 13 := by
        by_cases q : g 214 14 < g 214 13
        · exact q
        · have := a1 (by omega)
          unfold zlt at lv
          omega
      refine k_M_reads_l95 hK m g5 (by rw [e5]; exact zk_upd (L := 0) (H := 400) rfl rfl I ⟨by omega, by omega⟩) (by rw [e5]; exact zk_fu F (Or.inl ⟨rfl, rfl⟩)) (by rw [e5, zi_u_ni (by decide)]; exact ha) (by rw [e5, zi_u_ni (by decide)]; exact hk) ⟨⟨by omega, by omega⟩, fun i i0 i1 => ?_⟩ (by omega)
      by_cases q : i = g 214 14
      · rw [q, ← ef, ← a2 hl]; exact lv
      · exact h.2 i i0 (by omega)
theorem k_M_reads_l171 {g0 : zi_M} {K : zi_M → Prop} {Q : Int → zi_M → Prop} {a : Int} (hK : ∀ g, zk_I g → zk_fr fr_M_reads g0 g → g 214 15 = a → zrn zdt (g0 222) (g0 214 13) a (g 214 14) → g 214 16 = 1 → (g 214 14 - a < 5 → g 214 17 = zdec (g0 222) a (g 214 14 - a).toNat) → K g) :
    ∀ (m : Nat) (g : zi_M), zk_I g → zk_fr fr_M_reads g0 g → g 214 15 = a → g 214 16 = 1 → ((a < g 214 14 ∧ g 214 14 ≤ g0 214 13) ∧ ∀ i : Int, a ≤ i → i < g 214 14 → zdt (g0 222 i)) → 0 ≤ g 214 17 → (g 214 14 - a < 5 → g 214 17 = zdec (g0 222) a (g 214 14 - a).toNat) → (g 214 14 - a = 1 → g 214 17 ≤ 9) → (g 214 14 - a = 2 → g 214 17 ≤ 99) → (g 214 14 - a = 3 → g 214 17 ≤ 999) → (g 214 14 - a = 4 → g 214 17 ≤ 9999) → 400 - g 214 14 < (m : Int) → w_M_reads_l171 K Q m g
  | 0, g, I, F, ha, hk, h, h0, hd, c1, c2, c3, c4, hm => by
    have b : 0 ≤ g 214 14 ∧ g 214 14 ≤ 400 := I.1 214 14
    exfalso; omega
  | m + 1, g, I, F, ha, hk, h, h0, hd, c1, c2, c3, c4, hm => by
    have bs : 0 ≤ g 214 14 ∧ g 214 14 ≤ 400 := I.1 214 14
    have bn : 0 ≤ g 214 13 ∧ g 214 13 ≤ 400 := I.1 214 13
    have en : g 214 13 = g0 214 13 := F 214 13 (by unfold fr_M_reads; omega)
    have ef : g 222 = g0 222 := funext (fun i => F 222 i (by unfold fr_M_reads; omega))
    have r2 : 0 ≤ g 222 (g 214 14) ∧ g 222 (g 214 14) ≤ 255 := I.1 222 _
    have rv : -1 ≤ g 214 17 ∧ g 214 17 ≤ 100000 := I.1 214 17
    unfold w_M_reads_l171
    refine k_M_raw I ⟨by omega, by omega⟩ (fun v a1 a2 => ?_)
    refine k_M_isDigit I ⟨by omega, by omega⟩ (fun z z1 z2 z3 => ⟨fun e => ?_, fun ne => ⟨⟨by omega, by omega⟩, fun big => ?_, fun small => ?_⟩⟩)
    · refine hK g I F ha (zrn_1 h (fun hl hc => ?_)) hk hd
      rw [← ef, ← a2 (by omega)] at hc
      unfold zdt at hc
      omega
    · intro g5 e5 g6 e6
      have hl : g 214 14 < g 214 13 := by omega
      have s5 : ∀ i, g5 214 i = g 214 i := fun i => by
        rw [e5]
        by_cases q : i = 17
        · rw [q, zi_u_eq]
        · rw [zi_u_ni q]
      have s6 : g6 214 14 = g 214 14 + 1 := by rw [e6, zi_u_eq, s5]
      have t6 : ∀ i, ¬ i = 14 → g6 214 i = g 214 i := fun i hi => by rw [e6, zi_u_ni hi, s5]
      have v6 : g6 214 17 = g 214 17 := t6 17 (by decide)
      have I5 : zk_I g5 := by rw [e5]; exact zk_upd (L := -1) (H := 100000) rfl rfl I rv
      have dv : zdt (g0 222 (g 214 14)) := by
        rw [← ef, ← a2 hl]
        unfold zdt
        omega
      refine k_M_reads_l171 hK m g6 (by rw [e6]; exact zk_upd (L := 0) (H := 400) rfl rfl I5 (by rw [s5]; exact ⟨by omega, by omega⟩)) (by rw [e6, e5]; exact zk_fu (zk_fu F (Or.inr (Or.inr (Or.inr ⟨rfl, rfl⟩)))) (Or.inl ⟨rfl, rfl⟩)) (by rw [t6 15 (by decide)]; exact ha) (by rw [t6 16 (by decide)]; exact hk) ⟨⟨by omega, by omega⟩, fun i i0 i1 => ?_⟩ (by omega) (fun q => by exfalso; omega) (fun q => by exfalso; omega) (fun q => by exfalso; omega) (fun q => by exfalso; omega) (fun q => by exfalso; omega) (by omega)
      by_cases q : i = g 214 14
      · rw [q]; exact dv
      · exact h.2 i i0 (by omega)
    · refine k_M_raw I ⟨by omega, by omega⟩ (fun w d1 d2 => ?_)
      intro g5 e5 g6 e6
      have hl : g 214 14 < g 214 13 := by omega
      have w2 := d2 hl
      have v2 := a2 hl
      have s5 : g5 214 14 = g 214 14 := by rw [e5, zi_u_ni (by decide)]
      have s6 : g6 214 14 = g 214 14 + 1 := by rw [e6, zi_u_eq, s5]
      have v6 : g6 214 17 = 10 * g 214 17 + w - 48 := by rw [e6, zi_u_ni (by decide), e5, zi_u_eq]
      have I5 : zk_I g5 := by rw [e5]; exact zk_upd (L := -1) (H := 100000) rfl rfl I ⟨by omega, by omega⟩
      have dv : zdt (g0 222 (g 214 14)) := by
        rw [← ef, ← v2]
        unfold zdt
        omega
      refine k_M_reads_l171 hK m g6 (by rw [e6]; exact zk_upd (L := 0) (H := 400) rfl rfl I5 (by rw [s5]; exact ⟨by omega, by omega⟩)) (by rw [e6, e5]; exact zk_fu (zk_fu F (Or.inr (Or.inr (Or.inr ⟨rfl, rfl⟩)))) (Or.inl ⟨rfl, rfl⟩)) (by rw [e6, zi_u_ni (by decide), e5, zi_u_ni (by decide)]; exact ha) (by rw [e6, zi_u_ni (by decide), e5, zi_u_ni (by decide)]; exact hk) ⟨⟨by omega, by omega⟩, fun i i0 i1 => ?_⟩ (by omega) (fun q => ?_) (fun q => by omega) (fun q => by omega) (fun q => by omega) (fun q => by omega) (by omega)
      · by_cases q : i = g 214 14
        · rw [q]; exact dv
        · exact h.2 i i0 (by omega)
      · rw [v6, show (g6 214 14 - a).toNat = (g 214 14 - a).toNat + 1 by omega]
        unfold zdec
        rw [← hd (by omega), show a + ((g 214 14 - a).toNat : Int) = g 214 14 by omega, ← ef, ← w2]
theorem zTn_t3 {g : zi_M} {f : Int → Int} {n p : Int} (h : zTn f n p (g 214 15) (g 214 14) (g 214 16) (g 214 17)) (hv : g 214 16 = 3 → 0 ≤ g 214 17 ∧ g 214 17 ≤ 9999) : zt3 g := by
  obtain ⟨-, h5⟩ := h
  refine ⟨fun q => ?_, hv, fun q => ?_⟩
  · rcases h5 with ⟨x1, x2, x3⟩ | ⟨x1, x2, x3, x4⟩ | ⟨x1, x2, x3, x4⟩ | ⟨x1, x2, x3, x4, x5, x6⟩
    · exact absurd x3 q
    · exact x3.1.1
    · exact x3.1.1
    · omega
  · rcases h5 with ⟨x1, x2, x3⟩ | ⟨x1, x2, x3, x4⟩ | ⟨x1, x2, x3, x4⟩ | ⟨x1, x2, x3, x4, x5, x6⟩
    · exfalso; omega
    · rcases x4 with ⟨z1, z2⟩ | ⟨z1, z2⟩
      · exact zWd_26 z2
      · exfalso; omega
    · exfalso; omega
    · exfalso; omega
theorem k_M_reads {g : zi_M} {Q : Int → zi_M → Prop} (I : zk_I g) (px0 : g 214 14 ≤ g 214 13) (hQ : ∀ g' : zi_M, zk_I g' → zk_fr fr_M_reads g g' → (g 214 14 ≤ g' 214 15) → (g' 214 14 ≤ g' 214 13) → (g' 214 15 ≤ g' 214 14) → (zt3 g') → (zTn (g 222) (g 214 13) (g 214 14) (g' 214 15) (g' 214 14) (g' 214 16) (g' 214 17)) → Q 0 g') : w_M_reads g Q := by
  unfold w_M_reads
  refine ⟨401, k_M_reads_l0 (g0 := g) (fun g13 I13 F13 h1 h2 h3 h4 => ?_) 401 g I (zk_f0 _) (Int.le_refl _) px0 (fun i i0 i1 => by exfalso; omega) (by have b : 0 ≤ g 214 14 ∧ g 214 14 ≤ 400 := I.1 214 14; omega)⟩
  intro g14 e14 g15 e15
  have b0 : 0 ≤ g 214 14 ∧ g 214 14 ≤ 400 := I.1 214 14
  have bn : 0 ≤ g 214 13 ∧ g 214 13 ≤ 400 := I.1 214 13
  have bs : 0 ≤ g13 214 14 ∧ g13 214 14 ≤ 400 := I13.1 214 14
  have I14 : zk_I g14 := by rw [e14]; exact zk_upd (L := 0) (H := 400) rfl rfl I13 bs
  have I15 : zk_I g15 := by rw [e15]; exact zk_upd (L := 0) (H := 4) rfl rfl I14 ⟨by decide, by decide⟩
  have F15 : zk_fr fr_M_reads g g15 := by rw [e15, e14]; exact zk_fu (zk_fu F13 (Or.inr (Or.inl ⟨rfl, rfl⟩))) (Or.inr (Or.inr (Or.inl ⟨rfl, rfl⟩)))
  have s14 : g15 214 14 = g13 214 14 := by rw [e15, zi_u_ni (by decide), e14, zi_u_ni (by decide)]
  have s15 : g15 214 15 = g13 214 14 := by rw [e15, zi_u_ni (by decide), e14, zi_u_eq]
  have s16 : g15 214 16 = 1 := by rw [e15, zi_u_eq]
  have en : g15 214 13 = g 214 13 := F15 214 13 (by unfold fr_M_reads; omega)
  have ef : g15 222 = g 222 := funext (fun i => F15 222 i (by unfold fr_M_reads; omega))
  generalize ha : g13 214 14 = a at *
  have top : g 214 14 ≤ a ∧ a ≤ g 214 13 ∧ (∀ i : Int, g 214 14 ≤ i → i < a → zbk (g 222 i)) ∧ (a < g 214 13 → ¬ zbk (g 222 a)) := ⟨h1, h2, h3, h4⟩
  have ret : ∀ g', zk_I g' → zk_fr fr_M_reads g g' → g' 214 15 = a → g' 214 14 ≤ g 214 13 → a ≤ g' 214 14 → zTn (g 222) (g 214 13) (g 214 14) (g' 214 15) (g' 214 14) (g' 214 16) (g' 214 17) → (g' 214 16 = 3 → 0 ≤ g' 214 17 ∧ g' 214 17 ≤ 9999) → Q 0 g' := by
    intro g' I' F' x1 x2 x3 x4 x5
    have en' : g' 214 13 = g 214 13 := F' 214 13 (by unfold fr_M_reads; omega)
    exact hQ g' I' F' (by omega) (by omega) (by omega) (zTn_t3 x4 x5) x4
  rw [s14]
  have r2 : 0 ≤ g15 222 a ∧ g15 222 a ≤ 255 := I15.1 222 a
  refine k_M_raw I15 ⟨bs.1, by omega⟩ (fun v16 a1 a2 => ⟨⟨by omega, by omega⟩, fun ne => ?_, fun e => ?_⟩)
  · have hl : a < g 214 13 := by omega
    have cv : v16 = g 222 a := by rw [a2 (by omega), ef]
    intro g20 e20 g21 e21
    have I20 : zk_I g20 := by rw [e20]; exact zk_upd (L := 0) (H := 400) rfl rfl I15 ⟨by omega, by omega⟩
    have I21 : zk_I g21 := by rw [e21]; exact zk_upd (L := -1) (H := 100000) rfl rfl I20 ⟨by omega, by omega⟩
    have F21 : zk_fr fr_M_reads g g21 := by rw [e21, e20]; exact zk_fu (zk_fu F15 (Or.inl ⟨rfl, rfl⟩)) (Or.inr (Or.inr (Or.inr ⟨rfl, rfl⟩)))
    have t14 : g21 214 14 = a + 1 := by rw [e21, zi_u_ni (by decide), e20, zi_u_eq, s14]
    have t15 : g21 214 15 = a := by rw [e21, zi_u_ni (by decide), e20, zi_u_ni (by decide)]; exact s15
    have t16 : g21 214 16 = 1 := by rw [e21, zi_u_ni (by decide), e20, zi_u_ni (by decide)]; exact s16
    have t17 : g21 214 17 = v16 := by rw [e21, zi_u_eq]
    have one : ∀ P : Int → Prop, P (g 222 a) → ((a < g21 214 14 ∧ g21 214 14 ≤ g 214 13) ∧ ∀ i : Int, a ≤ i → i < g21 214 14 → P (g 222 i)) := fun P hp => ⟨⟨by omega, by omega⟩, fun i i0 i1 => by rw [show i = a by omega]; exact hp⟩
    refine k_M_isLetter I21 ⟨by omega, by omega⟩ (fun z z1 z2 z3 z4 => ⟨fun ez => ?_, fun nz => ?_⟩)
    · have nl : ¬ zlt (g 222 a) := fun q => by rw [← cv] at q; have := z3 q; omega
      refine k_M_isDigit I21 ⟨by omega, by omega⟩ (fun y y1 y2 y3 => ⟨fun ey => ?_, fun ny => ?_⟩)
      · have nd : ¬ zdt (g 222 a) := fun q => by rw [← cv] at q; unfold zdt at q; omega
        refine k_M_isMarkSign I21 ⟨by omega, by omega⟩ (fun x x1 x2 x3 => ⟨fun ex => ?_, fun nx => ?_⟩)
        · refine ret g21 I21 F21 t15 (by omega) (by omega) ?_ (fun q => by omega)
          rw [t14, t15, t16, t17]
          exact ⟨top, Or.inr (Or.inr (Or.inr ⟨hl, nl, nd, rfl, cv, Or.inr ⟨fun q => by rw [← cv] at q; have := x2 q; omega, rfl⟩⟩))⟩
        · intro g31 e31
          have u : ∀ i, ¬ i = 16 → g31 214 i = g21 214 i := fun i hi => by rw [e31]; exact zi_u_ni hi
          have u16 : g31 214 16 = 4 := by rw [e31, zi_u_eq]
          refine ret g31 (by rw [e31]; exact zk_upd (L := 0) (H := 4) rfl rfl I21 ⟨by decide, by decide⟩) (by rw [e31]; exact zk_fu F21 (Or.inr (Or.inr (Or.inl ⟨rfl, rfl⟩)))) (by rw [u 15 (by decide)]; exact t15) (by rw [u 14 (by decide)]; omega) (by rw [u 14 (by decide)]; omega) ?_ (fun q => by omega)
          rw [u 14 (by decide), u 15 (by decide), u 17 (by decide), u16, t14, t15, t17]
          exact ⟨top, Or.inr (Or.inr (Or.inr ⟨hl, nl, nd, rfl, cv, Or.inl ⟨by rw [← cv]; exact Classical.byContradiction (fun q => nx (x3 q)), rfl⟩⟩))⟩
      · have dg : zdt (g 222 a) := by
          rw [← cv]
          unfold zdt
          omega
        have dg' := dg
        unfold zdt at dg'
        intro g33 e33
        have I33 : zk_I g33 := by rw [e33]; exact zk_upd (L := -1) (H := 100000) rfl rfl I21 ⟨by omega, by omega⟩
        have F33 : zk_fr fr_M_reads g g33 := by rw [e33]; exact zk_fu F21 (Or.inr (Or.inr (Or.inr ⟨rfl, rfl⟩)))
        have u : ∀ i, ¬ i = 17 → g33 214 i = g21 214 i := fun i hi => by rw [e33]; exact zi_u_ni hi
        have u17 : g33 214 17 = v16 - 48 := by rw [e33, zi_u_eq]
        have w14 : g33 214 14 = a + 1 := by rw [u 14 (by decide), t14]
        have o1 := one zdt dg
        rw [t14] at o1
        refine ⟨401, k_M_reads_l171 (g0 := g) (a := a) (fun g50 I50 F50 x1 x2 x3 x4 => ?_) 401 g33 I33 F33 (by rw [u 15 (by decide)]; exact t15) (by rw [u 16 (by decide)]; exact t16) (by rw [w14]; exact o1) (by omega) (fun _ => ?_) (fun _ => by omega) (fun q => by exfalso; omega) (fun q => by exfalso; omega) (fun q => by exfalso; omega) (by omega)⟩
        · have b50 : 0 ≤ g50 214 14 ∧ g50 214 14 ≤ 400 := I50.1 214 14
          refine ⟨⟨by omega, by omega⟩, fun big => ?_, fun small => ?_⟩
          · refine ret g50 I50 F50 x1 x2.1.2 (by have := x2.1.1; omega) ?_ (fun q => by omega)
            rw [x1, x3]
            exact ⟨top, Or.inr (Or.inr (Or.inl ⟨hl, dg, x2, Or.inr ⟨by omega, rfl⟩⟩))⟩
          · intro g52 e52
            have y : ∀ i, ¬ i = 16 → g52 214 i = g50 214 i := fun i hi => by rw [e52]; exact zi_u_ni hi
            have y16 : g52 214 16 = 3 := by rw [e52, zi_u_eq]
            have vv := x4 (by omega)
            have dd : ∀ m : Nat, (m : Int) ≤ g50 214 14 - a → 0 ≤ zdec (g 222) a m ∧ (m = 0 → zdec (g 222) a m ≤ 0) ∧ (m = 1 → zdec (g 222) a m ≤ 9) ∧ (m = 2 → zdec (g 222) a m ≤ 99) ∧ (m = 3 → zdec (g 222) a m ≤ 999) ∧ (m = 4 → zdec (g 222) a m ≤ 9999) := by
              intro m
              induction m with
              | zero => intro _; unfold zdec; omega
              | succ m ih =>
                intro hm
                have i1 := ih (by omega)
                have i2 := x2.2.1 (a + m) (by omega) (by omega)
                unfold zdt at i2
                unfold zdec
                omega
            have d4 := dd (g50 214 14 - a).toNat (by have := x2.1.1; omega)
            have b1 := x2.1.1
            refine ret g52 (by rw [e52]; exact zk_upd (L := 0) (H := 4) rfl rfl I50 ⟨by decide, by decide⟩) (by rw [e52]; exact zk_fu F50 (Or.inr (Or.inr (Or.inl ⟨rfl, rfl⟩)))) (by rw [y 15 (by decide)]; exact x1) (by rw [y 14 (by decide)]; exact x2.1.2) (by rw [y 14 (by decide)]; omega) ?_ (fun _ => by rw [y 17 (by decide), vv]; omega)
            rw [y 15 (by decide), y 14 (by decide), y 17 (by decide), y16, x1]
            exact ⟨top, Or.inr (Or.inr (Or.inl ⟨hl, dg, x2, Or.inl ⟨by omega, rfl, vv⟩⟩))⟩
        · rw [u17, w14, show (a + 1 - a).toNat = 0 + 1 by omega]
          unfold zdec
          unfold zdec
          rw [show a + ((0 : Nat) : Int) = a by omega, ← cv]
          omega
    · have lt : zlt (g 222 a) := by rw [← cv]; exact Classical.byContradiction (fun q => nz (z4 q))
      have o1 := one zlt lt
      refine ⟨401, k_M_reads_l95 (g0 := g) (a := a) (fun g64 I64 F64 x1 x2 x3 => ?_) 401 g21 I21 F21 t15 t16 o1 (by omega)⟩
      have b64 : 0 ≤ g64 214 14 ∧ g64 214 14 ≤ 400 := I64.1 214 14
      have ef64 : g64 222 = g 222 := funext (fun i => F64 222 i (by unfold fr_M_reads; omega))
      have lets := x2.2.1
      refine k_M_wordAt I64 ⟨by omega, by omega⟩ ⟨by omega, by omega⟩ (fun j j0 j1 => ?_) (by have := x2.1.1; omega) (fun v65 c1 c2 c3 => ?_)
      · have := lets j (by omega) j1
        rw [ef64]
        unfold zlt at this
        omega
      rw [ef64, x1] at c2 c3
      intro g68 e68
      have I68 : zk_I g68 := by rw [e68]; exact zk_upd (L := -1) (H := 100000) rfl rfl I64 ⟨by omega, by omega⟩
      have F68 : zk_fr fr_M_reads g g68 := by rw [e68]; exact zk_fu F64 (Or.inr (Or.inr (Or.inr ⟨rfl, rfl⟩)))
      have u : ∀ i, ¬ i = 17 → g68 214 i = g64 214 i := fun i hi => by rw [e68]; exact zi_u_ni hi
      have u17 : g68 214 17 = v65 := by rw [e68, zi_u_eq]
      have b1 := x2.1.1
      refine ⟨zk_rng I68 _ _, fun en1 => ?_, fun nn1 => ?_⟩
      · refine ret g68 I68 F68 (by rw [u 15 (by decide)]; exact x1) (by rw [u 14 (by decide)]; exact x2.1.2) (by rw [u 14 (by decide)]; omega) ?_ (fun q => by rw [u 16 (by decide)] at q; omega)
        rw [u 15 (by decide), u 14 (by decide), u 16 (by decide), u17, x1, x3]
        exact ⟨top, Or.inr (Or.inl ⟨hl, lt, x2, Or.inr ⟨rfl, c3 (by omega)⟩⟩)⟩
      · intro g70 e70
        have y : ∀ i, ¬ i = 16 → g70 214 i = g68 214 i := fun i hi => by rw [e70]; exact zi_u_ni hi
        have y16 : g70 214 16 = 2 := by rw [e70, zi_u_eq]
        refine ret g70 (by rw [e70]; exact zk_upd (L := 0) (H := 4) rfl rfl I68 ⟨by decide, by decide⟩) (by rw [e70]; exact zk_fu F68 (Or.inr (Or.inr (Or.inl ⟨rfl, rfl⟩)))) (by rw [y 15 (by decide), u 15 (by decide)]; exact x1) (by rw [y 14 (by decide), u 14 (by decide)]; exact x2.1.2) (by rw [y 14 (by decide), u 14 (by decide)]; omega) ?_ (fun q => by omega)
        rw [y 15 (by decide), y 14 (by decide), y 17 (by decide), y16, u 15 (by decide), u 14 (by decide), u17, x1]
        exact ⟨top, Or.inr (Or.inl ⟨hl, lt, x2, Or.inl ⟨rfl, c2 (by omega)⟩⟩)⟩
  · have ea : a = g 214 13 := by
      by_cases q : a < g15 214 13
      · have := a2 q
        omega
      · omega
    intro g74 e74
    have u : ∀ i, ¬ i = 16 → g74 214 i = g15 214 i := fun i hi => by rw [e74]; exact zi_u_ni hi
    have u16 : g74 214 16 = 0 := by rw [e74, zi_u_eq]
    refine ret g74 (by rw [e74]; exact zk_upd (L := 0) (H := 4) rfl rfl I15 ⟨by decide, by decide⟩) (by rw [e74]; exact zk_fu F15 (Or.inr (Or.inr (Or.inl ⟨rfl, rfl⟩)))) (by rw [u 15 (by decide)]; exact s15) (by rw [u 14 (by decide), s14]; omega) (by rw [u 14 (by decide), s14]; omega) ?_ (fun q => by omega)
    rw [u 15 (by decide), u 14 (by decide), u16, s14, s15]
    exact ⟨top, Or.inl ⟨ea, rfl, rfl⟩⟩

-- SpoutNewsModel.isLineWord()Z
set_option maxRecDepth 100000 in
set_option maxHeartbeats 4000000 in
theorem k_M_isLineWord {g : zi_M} {Q : Int → zi_M → Prop} (I : zk_I g) (hQ : ∀ v : Int, (0 ≤ v ∧ v ≤ 1) → (¬ v = 0 → g 214 16 = 2) → Q v g) : w_M_isLineWord g Q := by
  unfold w_M_isLineWord
  have m_1 : 0 ≤ (g 214 16) ∧ (g 214 16) ≤ 4 := I.1 214 16
  refine ⟨⟨by omega, by omega⟩, ?_⟩
  refine ⟨fun c6 => ?_, fun c6 => ?_⟩
  · exact hQ _ ⟨by omega, by omega⟩ (by omega)
  · have m_2 : (-1) ≤ (g 214 17) ∧ (g 214 17) ≤ 100000 := I.1 214 17
    refine k_M_isIn I ⟨by omega, by omega⟩ ⟨by omega, by omega⟩ ⟨by omega, by omega⟩ (fun v2 b_3 b_4 b_5 => ?_)
    refine ⟨fun c5 => ?_, fun c5 => ?_⟩
    · exact hQ _ ⟨by omega, by omega⟩ (by omega)
    · exact hQ _ ⟨by omega, by omega⟩ (by omega)
-- SpoutNewsModel.emits(II)V
theorem k_M_emits {l1 : Int} {l2 : Int} {g : zi_M} {Q : Int → zi_M → Prop} (I : zk_I g) (p1 : 0 ≤ l1 ∧ l1 ≤ 11) (p2 : (-8) ≤ l2 ∧ l2 ≤ 100000) (px0 : g 214 27 ≤ 399) (hQ : ∀ g' : zi_M, zk_I g' → zk_fr fr_M_emits g g' → (g' 214 27 = g 214 27 + 1) → (g' 229 (800 + g 214 27) = l1) → (g' 230 (800 + g 214 27) = l2) → (∀ i : Int, ¬ i = 800 + g 214 27 → g' 229 i = g 229 i ∧ g' 230 i = g 230 i) → Q 0 g') : w_M_emits l1 l2 g Q := by
  unfold w_M_emits
  have hc := I.1 214 27
  have h1 : (0 : Int) ≤ g 214 27 := hc.1
  refine ⟨⟨by omega, by omega⟩, ?_⟩
  intro g2 e2
  have a1 : g2 214 27 = g 214 27 := by rw [e2]; exact zi_u_ne (by decide)
  have I2 : zk_I g2 := by rw [e2]; exact zk_u229 I (by omega) ⟨by omega, by omega⟩
  refine ⟨⟨by omega, by omega⟩, ?_⟩
  intro g4 e4
  have a2 : g4 214 27 = g 214 27 := by rw [e4, zi_u_ne (by decide)]; exact a1
  have I4 : zk_I g4 := by rw [e4]; exact zk_u230 I2 (by omega) ⟨by omega, by omega⟩
  intro g5 e5
  have I5 : zk_I g5 := by rw [e5]; exact zk_upd (L := 0) (H := 400) rfl rfl I4 ⟨by omega, by omega⟩
  have F2 : zk_fr fr_M_emits g g2 := by rw [e2]; exact zk_fu (zk_f0 _) (Or.inl rfl)
  have F4 : zk_fr fr_M_emits g g4 := by rw [e4]; exact zk_fu F2 (Or.inr (Or.inl rfl))
  have F5 : zk_fr fr_M_emits g g5 := by rw [e5]; exact zk_fu F4 (Or.inr (Or.inr ⟨rfl, rfl⟩))
  rw [a1] at e4
  refine hQ g5 I5 F5 ?_ ?_ ?_ ?_
  · rw [e5, zi_u_eq, a2]
  · rw [e5, zi_u_ne (by decide), e4, zi_u_ne (by decide), e2, zi_u_eq]
  · rw [e5, zi_u_ne (by decide), e4, zi_u_eq]
  · intro i hi
    constructor
    · rw [e5, zi_u_ne (by decide), e4, zi_u_ne (by decide), e2, zi_u_ni hi]
    · rw [e5, zi_u_ne (by decide), e4, zi_u_ni hi, e2, zi_u_ne (by decide)]

-- SpoutNewsModel.errs(I)I
theorem k_M_errs {l1 : Int} {g : zi_M} {Q : Int → zi_M → Prop} (I : zk_I g) (p1 : 1 ≤ l1 ∧ l1 ≤ 3) (hQ : ∀ (v : Int) (g' : zi_M), zk_I g' → zk_fr fr_M_errs g g' → ((-1) ≤ v ∧ v ≤ (-1)) → (zt3 g → zt3 g') → (∀ (r : Nat) (T : zyT) (t : Int), zyR r T g t → zyG T g' l1 t) → Q v g') : w_M_errs l1 g Q := by
  unfold w_M_errs
  intro g1 e1 g2 e2
  have b : 0 ≤ g 214 15 ∧ g 214 15 ≤ 400 := I.1 214 15
  have m : g1 214 15 = g 214 15 := by rw [e1]; exact zi_u_ni (by decide)
  have I1 : zk_I g1 := by rw [e1]; exact zk_upd (L := 0) (H := 3) rfl rfl I ⟨by omega, by omega⟩
  have I2 : zk_I g2 := by rw [e2]; exact zk_upd (L := 0) (H := 400) rfl rfl I1 ⟨by omega, by omega⟩
  have k : ∀ i : Int, ¬ i = 31 → ¬ i = 32 → g2 214 i = g 214 i := fun i h1 h2 => by rw [e2, zi_u_ni h2, e1, zi_u_ni h1]
  have F2 : zk_fr fr_M_errs g g2 := by rw [e2, e1]; exact zk_fu (zk_fu (zk_f0 _) (Or.inl ⟨rfl, rfl⟩)) (Or.inr ⟨rfl, rfl⟩)
  refine hQ (-1) g2 I2 F2 ⟨by decide, by decide⟩ (fun h => zt3_e h (k 14 (by decide) (by decide)) (k 15 (by decide) (by decide)) (k 16 (by decide) (by decide)) (k 17 (by decide) (by decide))) (fun r T t h => ⟨by rw [e2, zi_u_ni (by decide), e1, zi_u_eq], ?_⟩)
  rw [e2, zi_u_eq, m]
  exact h.2.2.1

-- SpoutNewsModel.canAsk(I)Z
set_option maxRecDepth 100000 in
set_option maxHeartbeats 4000000 in
theorem k_M_canAsk {l1 : Int} {g : zi_M} {Q : Int → zi_M → Prop} (I : zk_I g) (p1 : (-1) ≤ l1 ∧ l1 ≤ 100000) (hQ : ∀ v : Int, (l1 < 7 → v = 0) → (7 ≤ l1 → 15 < l1 → v = 0) → (7 ≤ l1 → l1 ≤ 15 → v = 1) → Q v g) : w_M_canAsk l1 g Q := by
  unfold w_M_canAsk
  refine k_M_isIn I ⟨by omega, by omega⟩ ⟨by omega, by omega⟩ ⟨by omega, by omega⟩ (fun v1 b_1 b_2 b_3 => ?_)
  exact hQ _ (by intros; omega) (by intros; omega) (by intros; omega)
-- SpoutNewsModel.readUnit()I
theorem k_M_readUnit_c {g : zi_M} {Q : Int → zi_M → Prop} (y : zy g) (hQ : ∀ g' : zi_M, zx 1 0 g g' → (g 214 16 = 3 → g' 229 (800 + g' 214 27 - 1) = 0 ∧ g' 230 (800 + g' 214 27 - 1) = g 214 17) → Q 0 g')
    {w v : Int} (hw : 0 ≤ w ∧ w ≤ 1) (hv : -8 ≤ v ∧ v ≤ 100000) (h1 : w = 1 → 0 ≤ v ∧ v ≤ 8) (ht : ¬ g 214 16 = 0) (h3 : g 214 16 = 3 → w = 0 ∧ v = g 214 17) :
    w_M_emits w v g (fun _ g5 => w_M_reads g5 (fun _ g8 => Q 0 g8)) := by
  have hlt := y.t3.1 ht
  have hsp := y.sp
  have hcf := y.cf
  have ht4 : g 214 13 ≤ 400 := (y.I.1 214 13).2
  refine k_M_emits y.I ⟨hw.1, by omega⟩ hv (by omega) (fun g5 I5 F5 c5 o5 a5 r5 => ?_)
  have x5 : zx 1 (-1) g g5 := zx_em y.r I5 F5 c5 o5 a5 r5 ⟨hw.1, by omega⟩ h1 (fun q => by omega) (fun q => by omega) (fun q => by omega) (by rw [if_pos hw.2]; rfl)
  have f15 : g5 214 15 = g 214 15 := F5 _ _ (by unfold fr_M_emits; omega)
  have f14 : g5 214 14 = g 214 14 := F5 _ _ (by unfold fr_M_emits; omega)
  refine k_M_reads I5 x5.sp (fun g8 I8 F8 p1 p2 p3 p4 _ => ?_)
  have x8 : zx 0 1 g5 g8 := zx_rd I8 F8 p1 p2 p3 p4 (by omega) (by omega)
  have c8 : g8 214 27 = g5 214 27 := F8 _ _ (by unfold fr_M_reads; omega)
  have b1 : g8 229 (800 + g8 214 27 - 1) = g5 229 (800 + g8 214 27 - 1) := F8 _ _ (by unfold fr_M_reads; omega)
  have b2 : g8 230 (800 + g8 214 27 - 1) = g5 230 (800 + g8 214 27 - 1) := F8 _ _ (by unfold fr_M_reads; omega)
  have e8 : 800 + g8 214 27 - 1 = 800 + g 214 27 := by omega
  refine hQ g8 (x5.t x8) (fun q => ?_)
  rw [b1, b2, e8, o5, a5]
  exact h3 q
theorem k_M_readUnit {g : zi_M} {Q : Int → zi_M → Prop} (I : zk_I g) (px0 : zy g) (hQ : ∀ (v : Int) (g' : zi_M), zk_I g' → zk_fr fr_M_readUnit g g' → ((-1) ≤ v ∧ v ≤ 0) → (¬ v = -1 → zx 1 0 g g') → (¬ v = -1 → g 214 16 = 3 → g' 229 (800 + g' 214 27 - 1) = 0 ∧ g' 230 (800 + g' 214 27 - 1) = g 214 17) → Q v g') : w_M_readUnit g Q := by
  have t := px0.t3
  have ok : ∀ g', zx 1 0 g g' → (g 214 16 = 3 → g' 229 (800 + g' 214 27 - 1) = 0 ∧ g' 230 (800 + g' 214 27 - 1) = g 214 17) → Q 0 g' := fun g' x l => hQ 0 g' x.I x.fr ⟨by decide, by decide⟩ (fun _ => x) (fun _ => l)
  have r16 := I.1 214 16
  have r17 : -1 ≤ g 214 17 ∧ g 214 17 ≤ 100000 := I.1 214 17
  have b43 : ∀ l : Int, 0 ≤ l ∧ l ≤ 1 → (l = 0 → g 214 16 = 3) → (¬ l = 0 → g 214 16 = 2 ∧ 7 ≤ g 214 17 ∧ g 214 17 ≤ 15) → w_M_readUnit_b43 l g Q := by
    intro l hl h0 h1
    unfold w_M_readUnit_b43
    refine ⟨⟨by omega, by omega⟩, fun e => ⟨fun _ => ?_, fun n => absurd e n⟩, fun n => ⟨fun e => absurd e n, fun _ => ?_⟩⟩
    · have := h0 e
      exact k_M_readUnit_c px0 ok ⟨by omega, by omega⟩ ⟨by omega, by omega⟩ (fun q => by omega) (by omega) (fun _ => ⟨rfl, rfl⟩)
    · have := h1 n
      exact k_M_readUnit_c px0 ok ⟨by omega, by omega⟩ ⟨by omega, by omega⟩ (fun q => by omega) (by omega) (fun q => by omega)
  have b24 : ∀ l : Int, 0 ≤ l ∧ l ≤ 1 → (¬ l = 0 → g 214 16 = 2 ∧ 7 ≤ g 214 17 ∧ g 214 17 ≤ 15) → w_M_readUnit_b24 l g Q := by
    intro l hl h1
    unfold w_M_readUnit_b24
    refine ⟨⟨by omega, by omega⟩, fun n => b43 l hl (fun e => absurd e n) h1, fun e => ⟨zk_rng I _ _, fun q => b43 l hl (fun _ => q) h1, fun q => ?_⟩⟩
    refine k_M_errs I ⟨by decide, by decide⟩ (fun v g' I' F' hv _ _ => ?_)
    exact hQ v g' I' (zk_ft (zk_f0 _) F' fr_XP) ⟨by omega, by omega⟩ (fun n => by omega) (fun n => by omega)
  unfold w_M_readUnit
  refine ⟨zk_rng I _ _, fun _ => b24 0 ⟨by decide, by decide⟩ (fun n => absurd rfl n), fun e => ?_⟩
  refine k_M_canAsk I ⟨by omega, by omega⟩ (fun v b1 b2 b3 => ⟨fun _ => b24 0 ⟨by decide, by decide⟩ (fun n => absurd rfl n), fun n => b24 1 ⟨by decide, by decide⟩ (fun _ => ?_)⟩)
  have := t.2.2 e
  refine ⟨e, ?_, ?_⟩ <;> omega

-- SpoutNewsModel.isSign(I)Z
set_option maxRecDepth 100000 in
set_option maxHeartbeats 4000000 in
theorem k_M_isSign {l1 : Int} {g : zi_M} {Q : Int → zi_M → Prop} (I : zk_I g) (p1 : 40 ≤ l1 ∧ l1 ≤ 62) (hQ : ∀ v : Int, (¬ (g 214 16) = 4 → v = 0) → ((g 214 16) = 4 → ¬ (g 214 17) = l1 → v = 0) → ((g 214 16) = 4 → (g 214 17) = l1 → v = 1) → Q v g) : w_M_isSign l1 g Q := by
  unfold w_M_isSign
  have m_1 : 0 ≤ (g 214 16) ∧ (g 214 16) ≤ 4 := I.1 214 16
  refine ⟨⟨by omega, by omega⟩, ?_⟩
  refine ⟨fun c5 => ?_, fun c5 => ?_⟩
  · have m_2 : (-1) ≤ (g 214 17) ∧ (g 214 17) ≤ 100000 := I.1 214 17
    exact hQ _ (by intros; omega) (by intros; omega) (by intros; omega)
  · have m_3 : (-1) ≤ (g 214 17) ∧ (g 214 17) ≤ 100000 := I.1 214 17
    refine ⟨⟨by omega, by omega⟩, ⟨by omega, by omega⟩, ?_⟩
    refine ⟨fun c4 => ?_, fun c4 => ?_⟩
    · exact hQ _ (by intros; omega) (by intros; omega) (by intros; omega)
    · exact hQ _ (by intros; omega) (by intros; omega) (by intros; omega)
-- SpoutNewsModel.readProduct()I
theorem k_M_readProduct_l10 {g0 : zi_M} {K51 K68 K82 K101 : zi_M → Prop} {Q : Int → zi_M → Prop} (h0 : g0 214 27 ≤ g0 214 15) (hK51 : ∀ g, zk_I g → zk_fr fr_P g0 g → K51 g) (hK68 : ∀ g, zk_I g → zk_fr fr_P g0 g → K68 g) (hK82 : ∀ g, zk_I g → zk_fr fr_P g0 g → K82 g) (hK101 : ∀ g, zx 1 0 g0 g → K101 g) :
    ∀ (n : Nat) (g : zi_M), zx 1 0 g0 g → 400 - g 214 15 < (n : Int) → w_M_readProduct_l10 K51 K68 K82 K101 Q n g
  | 0, g, x, hm => by
    have a1 := x.fs; have a2 := x.sp
    have a3 : g 214 13 ≤ 400 := (x.I.1 214 13).2
    exfalso; omega
  | n + 1, g, x, hm => by
    have I := x.I
    have a1 := x.fs; have a2 := x.sp
    have a3 : g 214 13 ≤ 400 := (x.I.1 214 13).2
    have b28 : g 214 16 = 4 → (g 214 17 = 42 ∨ g 214 17 = 47) → w_M_readProduct_b28 g (w_M_readProduct_l10 K51 K68 K82 K101 Q n) K51 K68 K82 K101 Q := by
      intro ht hv
      have hlt := x.t3.1 (by omega)
      unfold w_M_readProduct_b28
      refine k_M_isSign I ⟨by decide, by decide⟩ (fun v8 c1 c2 c3 => ?_)
      refine k_M_reads I x.sp (fun g12 I12 F12 p1 p2 p3 p4 _ => ?_)
      have x1 : zx 0 1 g g12 := zx_rd I12 F12 p1 p2 p3 p4 (by omega) (by omega)
      have x2 : zx 1 1 g0 g12 := x.t x1
      have y12 := x2.y (by decide) h0
      have b74 : ∀ l : Int, 0 ≤ l ∧ l ≤ 1 → (l = 0 → g12 214 16 = 3 ∧ ¬ g12 214 17 = 0) → w_M_readProduct_b74 l g12 (w_M_readProduct_l10 K51 K68 K82 K101 Q n) K51 K68 K82 K101 Q := by
        intro l hl hz
        unfold w_M_readProduct_b74
        refine k_M_readUnit I12 y12 (fun v15 g16 I16 F16 hv15 hx hlast => ⟨⟨by omega, by omega⟩, fun n1 => ?_, fun e1 => hK82 _ I16 (zk_ft x2.fr F16 (fun _ _ e => e))⟩)
        have x3 := hx n1
        have x4 : zx 2 1 g0 g16 := x2.t x3
        have z1 := x4.fs; have z2 := x4.sp
        have z3 : g16 214 13 ≤ 400 := (I16.1 214 13).2
        have z4 := x4.cf
        have z5 := x3.ff
        have z6 := x2.cc
        have z7 : 0 ≤ g0 214 15 ∨ True := Or.inr trivial
        have z8 := x3.cf
        have go : ∀ w : Int, w = 4 ∨ w = 5 → (w = 5 → l = 0) → w_M_emits w 0 g16 (fun _ g' => w_M_readProduct_l10 K51 K68 K82 K101 Q n g') := by
          intro w hw hw5
          refine k_M_emits I16 ⟨by omega, by omega⟩ ⟨by decide, by decide⟩ (by omega) (fun g5 I5 F5 c5 o5 a5 r5 => ?_)
          have x5 : zx 1 (1 - 1) g0 g5 := zx_em x4 I5 F5 c5 o5 a5 r5 ⟨by omega, by omega⟩ (fun q => by omega) (fun q => by omega) (fun _ _ => by omega) (fun q => ?_) (by rw [if_neg (by omega), if_neg (by omega)]; rfl)
          · have f15 : g5 214 15 = g16 214 15 := F5 _ _ (by unfold fr_M_emits; omega)
            exact k_M_readProduct_l10 h0 hK51 hK68 hK82 hK101 n g5 x5 (by have := x1.ff; omega)
          · have hh := hz (hw5 q)
            have hl2 := hlast n1 hh.1
            have t12 := y12.t3.2.1 hh.1
            have dd := x3.dp _ _ (zp_nil (g := g12) (I12.1 214 27).1)
            have d2 := dd.2.2.2.2
            have ne : ¬ g12 214 27 = g16 214 27 := by
              intro e
              rw [e, Int.sub_self] at d2
              exact absurd d2 (show ¬ (0 : Int) = 0 + 1 by decide)
            have := x3.cc
            refine ⟨by omega, hl2.1, by rw [hl2.2]; omega⟩
        refine ⟨⟨by omega, by omega⟩, fun e => go 5 (Or.inr rfl) (fun _ => e), fun _ => go 4 (Or.inl rfl) (fun q => by omega)⟩
      have b57 : ∀ l : Int, 0 ≤ l ∧ l ≤ 1 → (l = 0 → g12 214 16 = 3) → w_M_readProduct_b57 l g12 (w_M_readProduct_l10 K51 K68 K82 K101 Q n) K51 K68 K82 K101 Q := by
        intro l hl hz
        unfold w_M_readProduct_b57
        refine ⟨⟨by omega, by omega⟩, fun n1 => b74 l hl (fun e => absurd e n1), fun e => ⟨zk_rng I12 _ _, fun n2 => b74 l hl (fun _ => ⟨hz e, n2⟩), fun _ => hK68 _ I12 x2.fr⟩⟩
      refine ⟨fun n1 => b57 v8 (by omega) (fun e => absurd e n1), fun e => ⟨zk_rng I12 _ _, fun q => b57 v8 (by omega) (fun _ => q), fun _ => hK51 _ I12 x2.fr⟩⟩
    unfold w_M_readProduct_l10
    refine k_M_isSign I ⟨by decide, by decide⟩ (fun v5 c1 c2 c3 => ⟨fun n1 => b28 (by omega) (by omega), fun e => ?_⟩)
    refine k_M_isSign I ⟨by decide, by decide⟩ (fun v34 d1 d2 d3 => ⟨fun _ => hK101 _ x, fun n2 => b28 (by omega) (by omega)⟩)
theorem k_M_readProduct {g : zi_M} {Q : Int → zi_M → Prop} (I : zk_I g) (px0 : zy g) (hQ : ∀ (v : Int) (g' : zi_M), zk_I g' → zk_fr fr_M_readProduct g g' → ((-1) ≤ v ∧ v ≤ 0) → (¬ v = -1 → zx 1 0 g g') → Q v g') : w_M_readProduct g Q := by
  unfold w_M_readProduct
  refine k_M_readUnit I px0 (fun v1 g2 I2 F2 hv1 hx hl => ⟨⟨by omega, by omega⟩, fun n1 => ?_, fun _ => hQ _ _ I2 F2 ⟨by decide, by decide⟩ (fun n => absurd rfl n)⟩)
  have x := hx n1
  have er : ∀ k : Int, 1 ≤ k ∧ k ≤ 3 → ∀ g', zk_I g' → zk_fr fr_P g g' → w_M_errs k g' (fun v g'' => Q v g'') := by
    intro k hk g' I' F'
    refine k_M_errs I' hk (fun v g'' I'' F'' hv _ _ => ?_)
    exact hQ _ _ I'' (zk_ft F' F'' fr_XP) ⟨by omega, by omega⟩ (fun n => by omega)
  have a3 : 0 ≤ g2 214 15 := (I2.1 214 15).1
  exact ⟨401, k_M_readProduct_l10 px0.cf (fun g' I' F' => er 1 ⟨by decide, by decide⟩ g' I' F') (fun g' I' F' => er 2 ⟨by decide, by decide⟩ g' I' F') (fun g' I' F' => hQ _ _ I' F' ⟨by decide, by decide⟩ (fun n => absurd rfl n)) (fun g' x' => hQ _ _ x'.I x'.fr ⟨by decide, by decide⟩ (fun _ => x')) 401 g2 x (by omega)⟩

-- SpoutNewsModel.readSum()I
theorem k_M_readSum_l10 {g0 : zi_M} {K55 K66 : zi_M → Prop} {Q : Int → zi_M → Prop} (h0 : g0 214 27 ≤ g0 214 15) (hK55 : ∀ g, zk_I g → zk_fr fr_P g0 g → K55 g) (hK66 : ∀ g, zx 1 0 g0 g → K66 g) :
    ∀ (n : Nat) (g : zi_M), zx 1 0 g0 g → 400 - g 214 15 < (n : Int) → w_M_readSum_l10 K55 K66 Q n g
  | 0, g, x, hm => by
    have a1 := x.fs; have a2 := x.sp
    have a3 : g 214 13 ≤ 400 := (x.I.1 214 13).2
    exfalso; omega
  | n + 1, g, x, hm => by
    have I := x.I
    have a1 := x.fs; have a2 := x.sp
    have a3 : g 214 13 ≤ 400 := (x.I.1 214 13).2
    have b28 : g 214 16 = 4 → w_M_readSum_b28 g (w_M_readSum_l10 K55 K66 Q n) K55 K66 Q := by
      intro ht
      have hlt := x.t3.1 (by omega)
      have b42 : ∀ w : Int, 2 ≤ w ∧ w ≤ 3 → w_M_readSum_b42 w g (w_M_readSum_l10 K55 K66 Q n) K55 K66 Q := by
        intro w hw
        unfold w_M_readSum_b42
        refine k_M_reads I x.sp (fun g12 I12 F12 p1 p2 p3 p4 _ => ?_)
        have x1 : zx 0 1 g g12 := zx_rd I12 F12 p1 p2 p3 p4 (by omega) (by omega)
        have x2 : zx 1 1 g0 g12 := x.t x1
        have y12 := x2.y (by decide) h0
        refine k_M_readProduct I12 y12 (fun v15 g16 I16 F16 hv15 hx => ⟨⟨by omega, by omega⟩, fun n1 => ?_, fun e1 => hK55 _ I16 (zk_ft x2.fr F16 (fun _ _ e => e))⟩)
        have x3 := hx n1
        have x4 : zx 2 1 g0 g16 := x2.t x3
        have z1 := x4.fs; have z2 := x4.sp
        have z3 : g16 214 13 ≤ 400 := (I16.1 214 13).2
        have z4 := x4.cf
        have z5 := x3.ff
        have z8 := x1.ff
        refine k_M_emits I16 ⟨by omega, by omega⟩ ⟨by decide, by decide⟩ (by omega) (fun g5 I5 F5 c5 o5 a5 r5 => ?_)
        have x5 : zx 1 (1 - 1) g0 g5 := zx_em x4 I5 F5 c5 o5 a5 r5 ⟨by omega, by omega⟩ (fun q => by omega) (fun q => by omega) (fun _ _ => by omega) (fun q => by omega) (by rw [if_neg (by omega), if_neg (by omega)]; rfl)
        have f15 : g5 214 15 = g16 214 15 := F5 _ _ (by unfold fr_M_emits; omega)
        exact k_M_readSum_l10 h0 hK55 hK66 n g5 x5 (by omega)
      unfold w_M_readSum_b28
      exact ⟨zk_rng I _ _, fun _ => b42 3 ⟨by decide, by decide⟩, fun _ => b42 2 ⟨by decide, by decide⟩⟩
    unfold w_M_readSum_l10
    refine k_M_isSign I ⟨by decide, by decide⟩ (fun v5 c1 c2 c3 => ⟨fun n1 => b28 (by omega), fun e => ?_⟩)
    refine k_M_isSign I ⟨by decide, by decide⟩ (fun v34 d1 d2 d3 => ⟨fun _ => hK66 _ x, fun n2 => b28 (by omega)⟩)
theorem k_M_readSum {g : zi_M} {Q : Int → zi_M → Prop} (I : zk_I g) (px0 : zy g) (hQ : ∀ (v : Int) (g' : zi_M), zk_I g' → zk_fr fr_M_readSum g g' → ((-1) ≤ v ∧ v ≤ 0) → (¬ v = -1 → zx 1 0 g g') → Q v g') : w_M_readSum g Q := by
  unfold w_M_readSum
  refine k_M_readProduct I px0 (fun v1 g2 I2 F2 hv1 hx => ⟨⟨by omega, by omega⟩, fun n1 => ?_, fun _ => hQ _ _ I2 F2 ⟨by decide, by decide⟩ (fun n => absurd rfl n)⟩)
  have x := hx n1
  have a3 : 0 ≤ g2 214 15 := (I2.1 214 15).1
  exact ⟨401, k_M_readSum_l10 px0.cf (fun g' I' F' => hQ _ _ I' F' ⟨by decide, by decide⟩ (fun n => absurd rfl n)) (fun g' x' => hQ _ _ x'.I x'.fr ⟨by decide, by decide⟩ (fun _ => x')) 401 g2 x (by omega)⟩

-- SpoutNewsModel.isWord(I)Z
set_option maxRecDepth 100000 in
set_option maxHeartbeats 4000000 in
theorem k_M_isWord {l1 : Int} {g : zi_M} {Q : Int → zi_M → Prop} (I : zk_I g) (p1 : 3 ≤ l1 ∧ l1 ≤ 20) (hQ : ∀ v : Int, (¬ (g 214 16) = 2 → v = 0) → ((g 214 16) = 2 → ¬ (g 214 17) = l1 → v = 0) → ((g 214 16) = 2 → (g 214 17) = l1 → v = 1) → Q v g) : w_M_isWord l1 g Q := by
  unfold w_M_isWord
  have m_1 : 0 ≤ (g 214 16) ∧ (g 214 16) ≤ 4 := I.1 214 16
  refine ⟨⟨by omega, by omega⟩, ?_⟩
  refine ⟨fun c5 => ?_, fun c5 => ?_⟩
  · have m_2 : (-1) ≤ (g 214 17) ∧ (g 214 17) ≤ 100000 := I.1 214 17
    exact hQ _ (by intros; omega) (by intros; omega) (by intros; omega)
  · have m_3 : (-1) ≤ (g 214 17) ∧ (g 214 17) ≤ 100000 := I.1 214 17
    refine ⟨⟨by omega, by omega⟩, ⟨by omega, by omega⟩, ?_⟩
    refine ⟨fun c4 => ?_, fun c4 => ?_⟩
    · exact hQ _ (by intros; omega) (by intros; omega) (by intros; omega)
    · exact hQ _ (by intros; omega) (by intros; omega) (by intros; omega)
-- SpoutNewsModel.settles(I)V
theorem k_M_settles_l0 {w : Int} (hw : w = 9 ∨ w = 10 ∨ w = 11) {K : zi_M → Prop} {Q : Int → zi_M → Prop} : ∀ (P : List Int) (g : zi_M), zk_I g → zq g P → g 214 27 + P.length ≤ 400 → (w = 9 → zl_cnt 9 P ≤ g 214 28) → (∀ g', zS w P g g' → K g') → w_M_settles_l0 w K Q (P.length + 1) g
  | [], g, I, q, hc, ho, hK => by
    have z : g 214 30 = 0 := q.1
    show _ ∧ _
    refine ⟨zk_rng I _ _, fun _ => hK g (zS_0 I q (Or.inr rfl)), fun n => by omega⟩
  | x :: t, g, I, q, hc, ho, hK => by
    have z : g 214 30 = ((x :: t).length : Int) := q.1
    rw [List.length_cons] at z hc
    have zx : g 231 (t.length : Int) = x := q.2.1
    have hl : g 214 30 ≤ 40 := (I.1 214 30).2
    have ei : g 214 30 - 1 = (t.length : Int) := by omega
    rw [List.length_cons]
    show _ ∧ _
    refine ⟨zk_rng I _ _, fun n => by omega, fun _ => ⟨⟨by omega, by omega⟩, zk_rng I _ _, ⟨by omega, by omega⟩, fun n => ?_, fun e => ?_⟩⟩
    · refine hK g (zS_0 I q (Or.inl ?_))
      show x ≠ w
      intro e
      exact n (by rw [ei, zx, e])
    · rw [ei, zx] at e
      intro g5 e5
      have c0 : 0 ≤ g 214 27 := (I.1 214 27).1
      have I5 : zk_I g5 := by rw [e5]; exact zk_upd (L := 0) (H := 40) rfl rfl I ⟨by omega, by omega⟩
      have F5 : zk_fr fr_S g g5 := by rw [e5]; exact zk_fu (zk_f0 _) (Or.inr (Or.inr (Or.inr (Or.inr ⟨rfl, rfl⟩))))
      have a27 : g5 214 27 = g 214 27 := by rw [e5]; exact zi_u_ni (by decide)
      have a28 : g5 214 28 = g 214 28 := by rw [e5]; exact zi_u_ni (by decide)
      have a30 : g5 214 30 = (t.length : Int) := by rw [e5, zi_u_eq, ei]
      have a231 : ∀ i, g5 231 i = g 231 i := fun i => by rw [e5]; exact zi_u_ne (by decide)
      have a229 : ∀ i, g5 229 i = g 229 i ∧ g5 230 i = g 230 i := fun i => ⟨by rw [e5]; exact zi_u_ne (by decide), by rw [e5]; exact zi_u_ne (by decide)⟩
      refine k_M_emits I5 ⟨by omega, by omega⟩ ⟨by decide, by decide⟩ (by omega) (fun g7 I7 F7 c7 o7 v7 l7 => ?_)
      have F7' : zk_fr fr_S g g7 := zk_ft F5 F7 (fun a i h => h.elim Or.inl (fun h => h.elim (fun h => Or.inr (Or.inl h)) (fun h => Or.inr (Or.inr (Or.inl h)))))
      have b28 : g7 214 28 = g 214 28 := by rw [F7 214 28 (by unfold fr_M_emits; omega), a28]
      have b30 : g7 214 30 = (t.length : Int) := by rw [F7 214 30 (by unfold fr_M_emits; omega), a30]
      have b231 : ∀ i, g7 231 i = g 231 i := fun i => by rw [F7 231 i (by unfold fr_M_emits; omega), a231]
      rw [a27] at c7 o7 v7 l7
      have lw : ∀ i : Int, ¬ i = 800 + g 214 27 → g7 229 i = g 229 i ∧ g7 230 i = g 230 i := fun i hi => ⟨(l7 i hi).1.trans (a229 i).1, (l7 i hi).2.trans (a229 i).2⟩
      have cn : zl_cnt w (x :: t) = zl_cnt w t + 1 := by show (if x = w then _ else _) = _; rw [if_pos e]
      have cn0 := zl_cnt0 w t
      refine ⟨fun n9 => ?_, fun e9 => ?_⟩
      · refine k_M_settles_l0 hw t g7 I7 ⟨b30, zql_c q.2.2 (fun i _ _ => b231 i)⟩ (by omega) (fun q => absurd q n9) (fun g' s' => hK g' ?_)
        rw [e]
        exact zS_1 ⟨by omega, by omega, by omega⟩ I7 F7' c7 o7 v7 lw (by rw [b28, if_neg n9]; omega) s'
      · intro g9 e9'
        have ho9 := ho e9
        rw [← e9] at ho9
        have I9 : zk_I g9 := by
          rw [e9']
          have := (I7.1 214 28).2
          exact zk_upd (L := 0) (H := 8) rfl rfl I7 ⟨by omega, by have h8 : g7 214 28 ≤ 8 := this; omega⟩
        have F9 : zk_fr fr_S g g9 := by rw [e9']; exact zk_fu F7' (Or.inr (Or.inr (Or.inr (Or.inl ⟨rfl, rfl⟩))))
        have d27 : g9 214 27 = g7 214 27 := by rw [e9']; exact zi_u_ni (by decide)
        have d28 : g9 214 28 = g 214 28 - 1 := by rw [e9', zi_u_eq, b28]
        have d30 : g9 214 30 = (t.length : Int) := by rw [e9', zi_u_ni (by decide), b30]
        have d231 : ∀ i, g9 231 i = g 231 i := fun i => by rw [e9', zi_u_ne (by decide), b231]
        have d229 : ∀ i, g9 229 i = g7 229 i ∧ g9 230 i = g7 230 i := fun i => ⟨by rw [e9']; exact zi_u_ne (by decide), by rw [e9']; exact zi_u_ne (by decide)⟩
        refine k_M_settles_l0 hw t g9 I9 ⟨d30, zql_c q.2.2 (fun i _ _ => d231 i)⟩ (by omega) (fun _ => by rw [d28, ← e9]; omega) (fun g' s' => hK g' ?_)
        rw [e]
        exact zS_1 ⟨by omega, by omega, by omega⟩ I9 F9 (by rw [d27, c7]) (by rw [(d229 _).1, o7]) (by rw [(d229 _).2, v7]) (fun i hi => ⟨(d229 i).1.trans (lw i hi).1, (d229 i).2.trans (lw i hi).2⟩) (by rw [d28, if_pos e9]) s'
theorem k_M_settles {l1 : Int} {g : zi_M} {Q : Int → zi_M → Prop} (I : zk_I g) (p1 : 9 ≤ l1 ∧ l1 ≤ 11) (px0 : ∃ P, zq g P ∧ g 214 27 + P.length ≤ 400 ∧ (l1 = 9 → zl_cnt 9 P ≤ g 214 28)) (hQ : ∀ g' : zi_M, zk_I g' → zk_fr fr_M_settles g g' → (∀ P, zq g P → zS l1 P g g') → Q 0 g') : w_M_settles l1 g Q := by
  unfold w_M_settles
  obtain ⟨P, h1, h2, h3⟩ := px0
  exact ⟨P.length + 1, k_M_settles_l0 (by omega) P g I h1 h2 h3 (fun g' s => hQ g' s.I s.fr (fun P' q' => by rw [← zq_u h1 q']; exact s))⟩

