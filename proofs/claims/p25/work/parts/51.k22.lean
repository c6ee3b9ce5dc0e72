-- by program (wip/gen/mkz.py)
-- SpoutNewsModel.raw(I)I
set_option maxRecDepth 100000 in
set_option maxHeartbeats 4000000 in
theorem k_M_raw {l1 : Int} {g : zi_M} {Q : Int → zi_M → Prop} (I : zk_I g) (p1 : 0 ≤ l1 ∧ l1 ≤ 400) (hQ : ∀ v : Int, ((g 214 13) ≤ l1 → v = (-1)) → (l1 < (g 214 13) → v = g 222 l1) → Q v g) : w_M_raw l1 g Q := by
  unfold w_M_raw
  have m_1 : 0 ≤ (g 214 13) ∧ (g 214 13) ≤ 400 := I.1 214 13
  refine ⟨⟨by omega, by omega⟩, ⟨by omega, by omega⟩, ?_⟩
  refine ⟨fun c4 => ?_, fun c4 => ?_⟩
  · have m_2 : 0 ≤ (g 222 l1) ∧ (g 222 l1) ≤ 255 := I.1 222 l1
    exact hQ _ (by intros; omega) (by intros; omega)
  · refine ⟨⟨by omega, by omega⟩, ?_⟩
    have m_3 : 0 ≤ (g 222 l1) ∧ (g 222 l1) ≤ 255 := I.1 222 l1
    exact hQ _ (by intros; omega) (by intros; omega)
-- SpoutNewsModel.isLetter(I)Z
set_option maxRecDepth 100000 in
set_option maxHeartbeats 4000000 in
theorem k_M_isLetter {l1 : Int} {g : zi_M} {Q : Int → zi_M → Prop} (I : zk_I g) (p1 : (-1) ≤ l1 ∧ l1 ≤ 255) (hQ : ∀ v : Int, (0 ≤ v ∧ v ≤ 1) → (¬ v = 0 → 65 ≤ l1 ∧ l1 ≤ 122) → (zlt l1 → v = 1) → (¬ zlt l1 → v = 0) → Q v g) : w_M_isLetter l1 g Q := by
  unfold w_M_isLetter
  refine k_M_isIn I ⟨by omega, by omega⟩ ⟨by omega, by omega⟩ ⟨by omega, by omega⟩ (fun v1 b_1 b_2 b_3 => ?_)
  refine ⟨fun c8 => ?_, fun c8 => ?_⟩
  · exact hQ _ ⟨by omega, by omega⟩ (by omega) (by intro hv; unfold zlt at hv; omega) (by intro hv; unfold zlt at hv; omega)
  · refine k_M_isIn I ⟨by omega, by omega⟩ ⟨by omega, by omega⟩ ⟨by omega, by omega⟩ (fun v4 b_4 b_5 b_6 => ?_)
    refine ⟨fun c7 => ?_, fun c7 => ?_⟩
    · exact hQ _ ⟨by omega, by omega⟩ (by omega) (by intro hv; unfold zlt at hv; omega) (by intro hv; unfold zlt at hv; omega)
    · exact hQ _ ⟨by omega, by omega⟩ (by omega) (by intro hv; unfold zlt at hv; omega) (by intro hv; unfold zlt at hv; omega)
-- SpoutNewsModel.isDigit(I)Z
set_option maxRecDepth 100000 in
set_option maxHeartbeats 4000000 in
theorem k_M_isDigit {l1 : Int} {g : zi_M} {Q : Int → zi_M → Prop} (I : zk_I g) (p1 : (-1) ≤ l1 ∧ l1 ≤ 255) (hQ : ∀ v : Int, (l1 < 48 → v = 0) → (48 ≤ l1 → 57 < l1 → v = 0) → (48 ≤ l1 → l1 ≤ 57 → v = 1) → Q v g) : w_M_isDigit l1 g Q := by
  unfold w_M_isDigit
  refine k_M_isIn I ⟨by omega, by omega⟩ ⟨by omega, by omega⟩ ⟨by omega, by omega⟩ (fun v1 b_1 b_2 b_3 => ?_)
  exact hQ _ (by intros; omega) (by intros; omega) (by intros; omega)
-- SpoutNewsModel.isMarkSign(I)Z
set_option maxRecDepth 100000 in
set_option maxHeartbeats 4000000 in
theorem k_M_isMarkSign {l1 : Int} {g : zi_M} {Q : Int → zi_M → Prop} (I : zk_I g) (p1 : 0 ≤ l1 ∧ l1 ≤ 255) (hQ : ∀ v : Int, (0 ≤ v ∧ v ≤ 1) → (zsg l1 → v = 1) → (¬ zsg l1 → v = 0) → Q v g) : w_M_isMarkSign l1 g Q := by
  unfold w_M_isMarkSign
  refine ⟨⟨by omega, by omega⟩, ?_⟩
  refine ⟨fun c11 => ?_, fun c11 => ?_⟩
  · exact hQ _ ⟨by omega, by omega⟩ (by intro hv; unfold zsg at hv; omega) (by intro hv; unfold zsg at hv; omega)
  · refine ⟨fun c10 => ?_, fun c10 => ?_⟩
    · exact hQ _ ⟨by omega, by omega⟩ (by intro hv; unfold zsg at hv; omega) (by intro hv; unfold zsg at hv; omega)
    · refine ⟨fun c9 => ?_, fun c9 => ?_⟩
      · exact hQ _ ⟨by omega, by omega⟩ (by intro hv; unfold zsg at hv; omega) (by intro hv; unfold zsg at hv; omega)
      · refine ⟨fun c8 => ?_, fun c8 => ?_⟩
        · exact hQ _ ⟨by omega, by omega⟩ (by intro hv; unfold zsg at hv; omega) (by intro hv; unfold zsg at hv; omega)
        · refine ⟨fun c7 => ?_, fun c7 => ?_⟩
          · exact hQ _ ⟨by omega, by omega⟩ (by intro hv; unfold zsg at hv; omega) (by intro hv; unfold zsg at hv; omega)
          · refine ⟨fun c6 => ?_, fun c6 => ?_⟩
            · exact hQ _ ⟨by omega, by omega⟩ (by intro hv; unfold zsg at hv; omega) (by intro hv; unfold zsg at hv; omega)
            · refine ⟨fun c5 => ?_, fun c5 => ?_⟩
              · exact hQ _ ⟨by omega, by omega⟩ (by intro hv; unfold zsg at hv; omega) (by intro hv; unfold zsg at hv; omega)
              · refine ⟨fun c4 => ?_, fun c4 => ?_⟩
                · exact hQ _ ⟨by omega, by omega⟩ (by intro hv; unfold zsg at hv; omega) (by intro hv; unfold zsg at hv; omega)
                · refine ⟨fun c3 => ?_, fun c3 => ?_⟩
                  · exact hQ _ ⟨by omega, by omega⟩ (by intro hv; unfold zsg at hv; omega) (by intro hv; unfold zsg at hv; omega)
                  · refine ⟨fun c2 => ?_, fun c2 => ?_⟩
                    · exact hQ _ ⟨by omega, by omega⟩ (by intro hv; unfold zsg at hv; omega) (by intro hv; unfold zsg at hv; omega)
                    · exact hQ _ ⟨by omega, by omega⟩ (by intro hv; unfold zsg at hv; omega) (by intro hv; unfold zsg at hv; omega)
-- SpoutNewsModel.wordAt(II)I
theorem zk_wdv {g : zi_M} (I : zk_I g) (k : Int) : g 223 k = zk_wd k.toNat := by
  have h := I.1 223 k
  have a1 : zk_lo 223 k = zk_wd k.toNat := rfl
  have a2 : zk_hi 223 k = zk_wd k.toNat := rfl
  omega
theorem zw_nx1 (i k : Int) (hi : 0 ≤ i ∧ i < k) (hw : zk_wd i.toNat = 32) (hn : ∀ j : Int, i + 1 ≤ j → j < k → ¬ zk_wd j.toNat = 32) : zw_nx k = zw_nx i + 1 := by
  have st : ∀ m : Nat, i + 1 + (m : Int) ≤ k → zw_nn (i.toNat + 1 + m) = zw_nn i.toNat + 1 := by
    intro m
    induction m with
    | zero =>
      intro _
      show zw_nn i.toNat + (if zk_wd i.toNat = 32 then 1 else 0) = _
      rw [hw, if_pos rfl]
    | succ m ih =>
      intro hm
      show zw_nn (i.toNat + 1 + m) + (if zk_wd (i.toNat + 1 + m) = 32 then 1 else 0) = _
      have := hn (i + 1 + m) (by omega) (by omega)
      rw [show (i + 1 + (m : Int)).toNat = i.toNat + 1 + m by omega] at this
      rw [ih (by omega), if_neg this]
      omega
  have := st (k - i - 1).toNat (by omega)
  rw [show i.toNat + 1 + (k - i - 1).toNat = k.toNat by omega] at this
  exact this
/-- the word behind a space is that of the tape -/
noncomputable def zMt (f : Int → Int) (a b s : Int) : Prop := (∀ i : Int, 0 ≤ i → i < b - a → zk_wd (s + 1 + i).toNat = f (a + i)) ∧ zk_wd (s + 1 + (b - a)).toNat = 32
theorem k_M_wordAt_l94 {g : zi_M} (I : zk_I g) {K : Int → zi_M → Prop} {Q : Int → zi_M → Prop} (s : Int) (hs : 0 ≤ s) (hK : ∀ k, s ≤ k → k ≤ 128 → g 223 k = 32 → (∀ j : Int, s ≤ j → j < k → ¬ g 223 j = 32) → K k g) : ∀ (n : Nat) (l4 : Int), s ≤ l4 → l4 ≤ 128 → (∀ j : Int, s ≤ j → j < l4 → ¬ g 223 j = 32) → 128 - l4 < (n : Int) → w_M_wordAt_l94 K Q n l4 g
  | 0, l4, h1, h2, h3, hm => by exfalso; omega
  | n + 1, l4, h1, h2, h3, hm => by
    unfold w_M_wordAt_l94
    have wf := zk_wend I (i := l4)
    refine ⟨⟨by omega, by omega⟩, zk_rng I _ _, fun e => hK _ h1 h2 e h3, fun e => ?_⟩
    refine k_M_wordAt_l94 I s hs hK n (l4 + 1) (by omega) (by omega) (fun j j0 j1 => ?_) (by omega)
    by_cases q : j = l4
    · rw [q]; exact e
    · exact h3 j j0 (by omega)
theorem k_M_wordAt_l20 {g : zi_M} (I : zk_I g) {l1 l2 l4 : Int} {K : Int → zi_M → Prop} {Q : Int → zi_M → Prop} (q1 : 0 ≤ l1 ∧ l1 ≤ 400) (q2 : 0 ≤ l2 ∧ l2 ≤ 400) (q4 : 0 ≤ l4 ∧ l4 ≤ 127) (hz : zw_let g l1 l2) (hK : ∀ k, 0 ≤ k → l4 + 1 + k ≤ 128 → l1 + k ≤ l2 → (∀ i : Int, 0 ≤ i → i < k → g 223 (l4 + 1 + i) = g 222 (l1 + i)) → (l1 + k = l2 ∨ ¬ g 223 (l4 + 1 + k) = g 222 (l1 + k)) → K k g) : ∀ (n : Nat) (l5 : Int), 0 ≤ l5 → l4 + 1 + l5 ≤ 128 → l1 + l5 ≤ l2 → (∀ i : Int, 0 ≤ i → i < l5 → g 223 (l4 + 1 + i) = g 222 (l1 + i)) → 128 - l4 - l5 ≤ (n : Int) → w_M_wordAt_l20 l1 l2 l4 K Q n l5 g
  | 0, l5, h1, h2, h0, h3, hm => by exfalso; omega
  | n + 1, l5, h1, h2, h0, h3, hm => by
    unfold w_M_wordAt_l20
    have wf := zk_wend I (i := l4 + 1 + l5)
    have zf := hz (l1 + l5)
    refine ⟨⟨by omega, by omega⟩, ⟨by omega, by omega⟩, fun c => hK _ h1 h2 h0 h3 (Or.inl (by omega)), fun c => ⟨⟨by omega, by omega⟩, ⟨by omega, by omega⟩, zk_rng I _ _, zk_rng I _ _, fun ne => hK _ h1 h2 h0 h3 (Or.inr ne), fun e => ?_⟩⟩
    refine k_M_wordAt_l20 I q1 q2 q4 hz hK n (l5 + 1) (by omega) (by omega) (by omega) (fun i i0 i1 => ?_) (by omega)
    by_cases q : i = l5
    · rw [q]; exact e
    · exact h3 i i0 (by omega)
theorem k_M_wordAt_l5 {g : zi_M} (I : zk_I g) {l1 l2 : Int} {K86 : Int → zi_M → Prop} {K118 : zi_M → Prop} {Q : Int → zi_M → Prop} (q1 : 0 ≤ l1 ∧ l1 ≤ 400) (q2 : 0 ≤ l2 ∧ l2 ≤ 400) (q12 : l1 ≤ l2) (hz : zw_let g l1 l2) (hK86 : ∀ k, 0 ≤ k → k ≤ 26 → zWd (g 222) l1 l2 k → K86 k g) (hK118 : (∀ s : Int, 0 ≤ s → s < 128 → zk_wd s.toNat = 32 → ¬ zMt (g 222) l1 l2 s) → K118 g) :
    ∀ (n : Nat) (l3 l4 : Int), 0 ≤ l4 → l4 ≤ 128 → zk_wd l4.toNat = 32 → zw_nx l4 = l3 + 1 → (∀ s : Int, 0 ≤ s → s < l4 → zk_wd s.toNat = 32 → ¬ zMt (g 222) l1 l2 s) → 128 - l4 < (n : Int) → w_M_wordAt_l5 l1 l2 K86 K118 Q n l3 l4 g
  | 0, l3, l4, h3, h4, h5, h6, h7, hm => by exfalso; omega
  | n + 1, l3, l4, h3, h4, h5, h6, h7, hm => by
    unfold w_M_wordAt_l5
    refine ⟨⟨by omega, by omega⟩, fun c => hK118 (fun s s0 s1 => h7 s s0 (by omega)), fun c => ⟨129, ?_⟩⟩
    have hx := zw_nxb l4 ⟨h3, c⟩ h5
    have hx0 : 0 ≤ zw_nx l4 := by
      have h2 : ∀ n : Nat, n < 128 → 0 ≤ zw_nn n := by decide +kernel
      exact h2 l4.toNat (by omega)
    have next : ¬ zMt (g 222) l1 l2 l4 → ∃ f, w_M_wordAt_l94 (fun k g' => w_M_wordAt_l5 l1 l2 K86 K118 Q n (l3 + 1) k g') Q f (l4 + 1) g := by
      intro nm
      refine ⟨129, k_M_wordAt_l94 I (l4 + 1) (by omega) (fun k k1 k2 ke kn => ?_) 129 (l4 + 1) (by omega) (by omega) (fun j j0 j1 => by exfalso; omega) (by omega)⟩
      rw [zk_wdv I] at ke
      have kn' : ∀ j : Int, l4 + 1 ≤ j → j < k → ¬ zk_wd j.toNat = 32 := fun j j0 j1 => by rw [← zk_wdv I]; exact kn j j0 j1
      refine k_M_wordAt_l5 I q1 q2 q12 hz hK86 hK118 n (l3 + 1) k (by omega) k2 ke (by rw [zw_nx1 l4 k ⟨h3, by omega⟩ h5 kn']; omega) (fun s s0 s1 sw => ?_) (by omega)
      by_cases a : s < l4
      · exact h7 s s0 a sw
      · by_cases b : s = l4
        · rw [b]; exact nm
        · exact absurd sw (kn' s (by omega) s1)
    refine k_M_wordAt_l20 I q1 q2 ⟨h3, by omega⟩ hz (fun k k1 k2 k0 k3 k4 => ?_) 129 0 (by omega) (by omega) (by omega) (fun i i0 i1 => by exfalso; omega) (by omega)
    have r223 := zk_wdv I
    unfold w_M_wordAt_b61
    refine ⟨⟨by omega, by omega⟩, ⟨by omega, by omega⟩, fun ne => next (fun m => ?_), fun e => ⟨⟨by omega, by omega⟩, zk_rng I _ _, fun ne => next (fun m => ?_), fun e32 => hK86 _ (by omega) (by omega) ⟨l4, ⟨h3, c⟩, h5, by omega, fun i i0 i1 => ?_, ?_⟩⟩⟩
    · rcases k4 with w | w
      · exact ne w
      · exact w (by rw [r223]; exact m.1 k k1 (by omega))
    · apply ne
      rw [r223]
      have m2 := m.2
      rw [show l2 - l1 = k by omega] at m2
      exact m2
    · rw [← r223]; exact k3 i i0 (by omega)
    · rw [← r223, show l2 - l1 = k by omega]; exact e32
set_option maxRecDepth 100000 in
theorem k_M_wordAt {l1 : Int} {l2 : Int} {g : zi_M} {Q : Int → zi_M → Prop} (I : zk_I g) (p1 : 0 ≤ l1 ∧ l1 ≤ 400) (p2 : 0 ≤ l2 ∧ l2 ≤ 400) (px0 : zw_let g l1 l2) (px1 : l1 ≤ l2) (hQ : ∀ v : Int, ((-1) ≤ v ∧ v ≤ 26) → (0 ≤ v → zWd (g 222) l1 l2 v) → (v = -1 → ∀ w : Int, ¬ zWd (g 222) l1 l2 w) → Q v g) : w_M_wordAt l1 l2 g Q := by
  unfold w_M_wordAt
  exact ⟨129, k_M_wordAt_l5 I p1 p2 px1 px0 (fun k k1 k2 kw => hQ _ ⟨by omega, by omega⟩ (fun _ => kw) (fun e => by omega)) (fun h => hQ _ ⟨by omega, by omega⟩ (fun e => by omega) (fun _ w kw => by obtain ⟨s, s0, s1, s2, s3, s4⟩ := kw; exact h s s0.1 s0.2 s1 ⟨s3, s4⟩)) 129 (-1) 0 (by omega) (by omega) (by decide +kernel) (by decide +kernel) (fun s s0 s1 => by exfalso; omega) (by omega)⟩

-- SpoutNewsModel.reads()V
theorem zrn_1 {P : Int → Prop} {f : Int → Int} {n a b : Int} (h : (a < b ∧ b ≤ n) ∧ (∀ i : Int, a ≤ i → i < b → P (f i))) (hn : b < n → ¬ P (f b)) : zrn P f n a b := ⟨h.1, h.2, hn⟩
theorem k_M_reads_l0 {g0 : zi_M} {K : zi_M → Prop} {Q : Int → zi_M → Prop} (hK : ∀ g, zk_I g → zk_fr fr_M_reads g0 g → g0 214 14 ≤ g 214 14 → g 214 14 ≤ g0 214 13 → (∀ i : Int, g0 214 14 ≤ i → i < g 214 14 → zbk (g0 222 i)) → (g 214 14 < g0 214 13 → ¬ zbk (g0 222 (g 214 14))) → K g) :
    ∀ (m : Nat) (g : zi_M), zk_I g → zk_fr fr_M_reads g0 g → g0 214 14 ≤ g 214 14 → g 214 14 ≤ g0 214 13 → (∀ i : Int, g0 214 14 ≤ i → i < g 214 14 → zbk (g0 222 i)) → 400 - g 214 14 < (m : Int) → w_M_reads_l0 K Q m g
  | 0, g, I, F, h1, h2, h3, hm => by
    have b : 0 ≤ g 214 14 ∧ g 214 14 ≤ 400 := I.1 214 14
    exfalso; omega
  | m + 1, g, I, F, h1, h2, h3, hm => by
    have bs : 0 ≤ g 214 14 ∧ g 214 14 ≤ 400 := I.1 214 14
    have bn : 0 ≤ g 214 13 ∧ g 214 13 ≤ 400 := I.1 214 13
    have en : g 214 13 = g0 214 13 := F 214 13 (by unfold fr_M_reads; omega)
    have ef : g 222 = g0 222 := funext (fun i => F 222 i (by unfold fr_M_reads; omega))
    have r2 : 0 ≤ g 222 (g 214 14) ∧ g 222 (g 214 14) ≤ 255 := I.1 222 _
    have adv : g 214 14 < g 214 13 → zbk (g 222 (g 214 14)) → ∀ g5, g5 = zi_u g 214 14 (g 214 14 + 1) → w_M_reads_l0 K Q m g5 := by
      intro hl hb g5 e5
      have s5 : g5 214 14 = g 214 14 + 1 := by rw [e5, zi_u_eq]
      refine k_M_reads_l0 hK m g5 (by rw [e5]; exact zk_upd (L := 0) (H := 400) rfl rfl I ⟨by omega, by omega⟩) (by rw [e5]; exact zk_fu F (Or.inl ⟨rfl, rfl⟩)) (by omega) (by omega) (fun i i0 i1 => ?_) (by omega)
      by_cases q : i = g 214 14
      · rw [q, ← ef]; exact hb
      · exact h3 i i0 (by omega)
    unfold w_M_reads_l0
    refine k_M_raw I ⟨by omega, by omega⟩ (fun v1 a1 a2 => ⟨⟨by omega, by omega⟩, fun e => ?_, fun ne => ?_⟩)
    · have hl : g 214 14 < g 214 13 := by omega
      exact adv hl (Or.inl (by rw [← a2 hl]; exact e))
    · refine k_M_raw I ⟨by omega, by omega⟩ (fun v6 b1 b2 => ⟨⟨by omega, by omega⟩, fun ne2 => ?_, fun e => ?_⟩)
      · refine hK g I F h1 h2 h3 (fun hl hb => ?_)
        rw [← ef] at hb
        have hl' : g 214 14 < g 214 13 := by omega
        have := a2 hl'
        have := b2 hl'
        unfold zbk at hb
        omega
      · have hl : g 214 14 < g 214 13 := by omega
        exact adv hl (Or.inr (by rw [← b2 hl]; exact e))
theorem k_M_reads_l95 {g0 : zi_M} {K : zi_M → Prop} {Q : Int → zi_M → Prop} {a : Int} (hK : ∀ g, zk_I g → zk_fr fr_M_reads g0 g → g 214 15 = a → zrn zlt (g0 222) (g0 214 13) a (g 214 14) → g 214 16 = 1 → K g) :
    ∀ (m : Nat) (g : zi_M), zk_I g → zk_fr fr_M_reads g0 g → g 214 15 = a → g 214 16 = 1 → ((a < g 214 14 ∧ g 214 14 ≤ g0 214 13) ∧ ∀ i : Int, a ≤ i → i < g 214 14 → zlt (g0 222 i)) → 400 - g 214 14 < (m : Int) → w_M_reads_l95 K Q m g
  | 0, g, I, F, ha, hk, h, hm => by
    have b : 0 ≤ g 214 14 ∧ g 214 14 ≤ 400 := I.1 214 14
    exfalso; omega
  | m + 1, g, I, F, ha, hk, h, hm => by
    have bs : 0 ≤ g 214 14 ∧ g 214 14 ≤ 400 := I.1 214 14
    have bn : 0 ≤ g 214 13 ∧ g 214 13 ≤ 400 := I.1 214 13
    have en : g 214 13 = g0 214 13 := F 214 13 (by unfold fr_M_reads; omega)
    have ef : g 222 = g0 222 := funext (fun i => F 222 i (by unfold fr_M_reads; omega))
    have r2 : 0 ≤ g 222 (g 214 14) ∧ g 222 (g 214 14) ≤ 255 := I.1 222 _
    unfold w_M_reads_l95
    refine k_M_raw I ⟨by omega, by omega⟩ (fun v a1 a2 => ?_)
    refine k_M_isLetter I ⟨by omega, by omega⟩ (fun z z1 z2 z3 z4 => ⟨fun e => ?_, fun ne => ?_⟩)
    · refine hK g I F ha (zrn_1 h (fun hl hc => ?_)) hk
      rw [← ef, ← a2 (by omega)] at hc
      have := z3 hc
      omega
    · intro g5 e5
      have s5 : g5 214 14 = g 214 14 + 1 := by rw [e5, zi_u_eq]
      have lv : zlt v := Classical.byContradiction (fun q => ne (z4 q))
      have hl : g 214 14 < g 214 13 := by
        by_cases q : g 214 14 < g 214 13
        · exact q
        · have := a1 (by omega)
          unfold zlt at lv
          omega
      refine k_M_reads_l95 hK m g5 (by rw [e5]; exact zk_upd (L := 0) (H := 400) rfl rfl I ⟨by omega, by omega⟩) (by rw [e5]; exact zk_fu F (Or.inl ⟨rfl, rfl⟩)) (by rw [e5, zi_u_ni (by decide)]; exact ha) (by rw [e5, zi_u_ni (by decide)]; exact hk) ⟨⟨by omega, by omega⟩, fun i i0 i1 => ?_⟩ (by omega)
      by_cases q : i = g 214 14
      · rw [q, ← ef, ← a2 hl]; exact lv
      · exact h.2 i i0 (by omega)
theorem k_M_reads_l171 {g0 : zi_M} {K : zi_M → Prop} {Q : Int → zi_M → Prop} {a : Int} (hK : ∀ g, zk_I g → zk_fr fr_M_reads g0 g → g 214 15 = a → zrn zdt (g0 222) (g0 214 13) a (g 214 14) → g 214 16 = 1 → (g 214 14 - a < 5 → g 214 17 = zdec (g0 222) a (g 214 14 - a).toNat) → K g) :
    ∀ (m : Nat) (g : zi_M), zk_I g → zk_fr fr_M_reads g0 g → g 214 15 = a → g 214 16 = 1 → ((a < g 214 14 ∧ g 214 14 ≤ g0 214 13) ∧ ∀ i : Int, a ≤ i → i < g 214 14 → zdt (g0 222 i)) → 0 ≤ g 214 17 → (g 214 14 - a < 5 → g 214 17 = zdec (g0 222) a (g 214 14 - a).toNat) → (g 214 14 - a = 1 → g 214 17 ≤ 9) → (g 214 14 - a = 2 → g 214 17 ≤ 99) → (g 214 14 - a = 3 → g 214 17 ≤ 999) → (g 214 14 - a = 4 → g 214 17 ≤ 9999) → 400 - g 214 14 < (m : Int) → w_M_reads_l171 K Q m g
  | 0, g, I, F, ha, hk, h, h0, hd, c1, c2, c3, c4, hm => by
    have b : 0 ≤ g 214 14 ∧ g 214 14 ≤ 400 := I.1 214 14
    exfalso; omega
  | m + 1, g, I, F, ha, hk, h, h0, hd, c1, c2, c3, c4, hm => by
    have bs : 0 ≤ g 214 14 ∧ g 214 14 ≤ 400 := I.1 214 14
    have bn : 0 ≤ g 214 13 ∧ g 214 13 ≤ 400 := I.1 214 13
    have en : g 214 13 = g0 214 13 := F 214 13 (by unfold fr_M_reads; omega)
    have ef : g 222 = g0 222 := funext (fun i => F 222 i (by unfold fr_M_reads; omega))
    have r2 : 0 ≤ g 222 (g 214 14) ∧ g 222 (g 214 14) ≤ 255 := I.1 222 _
    have rv : -1 ≤ g 214 17 ∧ g 214 17 ≤ 100000 := I.1 214 17
    unfold w_M_reads_l171
    refine k_M_raw I ⟨by omega, by omega⟩ (fun v a1 a2 => ?_)
    refine k_M_isDigit I ⟨by omega, by omega⟩ (fun z z1 z2 z3 => ⟨fun e => ?_, fun ne => ⟨⟨by omega, by omega⟩, fun big => ?_, fun small => ?_⟩⟩)
    · refine hK g I F ha (zrn_1 h (fun hl hc => ?_)) hk hd
      rw [← ef, ← a2 (by omega)] at hc
      unfold zdt at hc
      omega
    · intro g5 e5 g6 e6
      have hl : g 214 14 < g 214 13 := by omega
      have s5 : ∀ i, g5 214 i = g 214 i := fun i => by
        rw [e5]
        by_cases q : i = 17
        · rw [q, zi_u_eq]
        · rw [zi_u_ni q]
      have s6 : g6 214 14 = g 214 14 + 1 := by rw [e6, zi_u_eq, s5]
      have t6 : ∀ i, ¬ i = 14 → g6 214 i = g 214 i := fun i hi => by rw [e6, zi_u_ni hi, s5]
      have v6 : g6 214 17 = g 214 17 := t6 17 (by decide)
      have I5 : zk_I g5 := by rw [e5]; exact zk_upd (L := -1) (H := 100000) rfl rfl I rv
      have dv : zdt (g0 222 (g 214 14)) := by
        rw [← ef, ← a2 hl]
        unfold zdt
        omega
      refine k_M_reads_l171 hK m g6 (by rw [e6]; exact zk_upd (L := 0) (H := 400) rfl rfl I5 (by rw [s5]; exact ⟨by omega, by omega⟩)) (by rw [e6, e5]; exact zk_fu (zk_fu F (Or.inr (Or.inr (Or.inr ⟨rfl, rfl⟩)))) (Or.inl ⟨rfl, rfl⟩)) (by rw [t6 15 (by decide)]; exact ha) (by rw [t6 16 (by decide)]; exact hk) ⟨⟨by omega, by omega⟩, fun i i0 i1 => ?_⟩ (by omega) (fun q => by exfalso; omega) (fun q => by exfalso; omega) (fun q => by exfalso; omega) (fun q => by exfalso; omega) (fun q => by exfalso; omega) (by omega)
      by_cases q : i = g 214 14
      · rw [q]; exact dv
      · exact h.2 i i0 (by omega)
    · refine k_M_raw I ⟨by omega, by omega⟩ (fun w d1 d2 => ?_)
      intro g5 e5 g6 e6
      have hl : g 214 14 < g 214 13 := by omega
      have w2 := d2 hl
      have v2 := a2 hl
      have s5 : g5 214 14 = g 214 14 := by rw [e5, zi_u_ni (by decide)]
      have s6 : g6 214 14 = g 214 14 + 1 := by rw [e6, zi_u_eq, s5]
      have v6 : g6 214 17 = 10 * g 214 17 + w - 48 := by rw [e6, zi_u_ni (by decide), e5, zi_u_eq]
      have I5 : zk_I g5 := by rw [e5]; exact zk_upd (L := -1) (H := 100000) rfl rfl I ⟨by omega, by omega⟩
      have dv : zdt (g0 222 (g 214 14)) := by
        rw [← ef, ← v2]
        unfold zdt
        omega
      refine k_M_reads_l171 hK m g6 (by rw [e6]; exact zk_upd (L := 0) (H := 400) rfl rfl I5 (by rw [s5]; exact ⟨by omega, by omega⟩)) (by rw [e6, e5]; exact zk_fu (zk_fu F (Or.inr (Or.inr (Or.inr ⟨rfl, rfl⟩)))) (Or.inl ⟨rfl, rfl⟩)) (by rw [e6, zi_u_ni (by decide), e5, zi_u_ni (by decide)]; exact ha) (by rw [e6, zi_u_ni (by decide), e5, zi_u_ni (by decide)]; exact hk) ⟨⟨by omega, by omega⟩, fun i i0 i1 => ?_⟩ (by omega) (fun q => ?_) (fun q => by omega) (fun q => by omega) (fun q => by omega) (fun q => by omega) (by omega)
      · by_cases q : i = g 214 14
        · rw [q]; exact dv
        · exact h.2 i i0 (by omega)
      · rw [v6, show (g6 214 14 - a).toNat = (g 214 14 - a).toNat + 1 by omega]
        unfold zdec
        rw [← hd (by omega), show a + ((g 214 14 - a).toNat : Int) = g 214 14 by omega, ← ef, ← w2]
theorem zTn_t3 {g : zi_M} {f : Int → Int} {n p : Int} (h : zTn f n p (g 214 15) (g 214 14) (g 214 16) (g 214 17)) (hv : g 214 16 = 3 → 0 ≤ g 214 17 ∧ g 214 17 ≤ 9999) : zt3 g := by
  obtain ⟨-, h5⟩ := h
  refine ⟨fun q => ?_, hv, fun q => ?_⟩
  · rcases h5 with ⟨x1, x2, x3⟩ | ⟨x1, x2, x3, x4⟩ | ⟨x1, x2, x3, x4⟩ | ⟨x1, x2, x3, x4, x5, x6⟩
    · exact absurd x3 q
    · exact x3.1.1
    · exact x3.1.1
    · omega
  · rcases h5 with ⟨x1, x2, x3⟩ | ⟨x1, x2, x3, x4⟩ | ⟨x1, x2, x3, x4⟩ | ⟨x1, x2, x3, x4, x5, x6⟩
    · exfalso; omega
    · rcases x4 with ⟨z1, z2⟩ | ⟨z1, z2⟩
      · exact zWd_26 z2
      · exfalso; omega
    · exfalso; omega
    · exfalso; omega
theorem k_M_reads {g : zi_M} {Q : Int → zi_M → Prop} (I : zk_I g) (px0 : g 214 14 ≤ g 214 13) (hQ : ∀ g' : zi_M, zk_I g' → zk_fr fr_M_reads g g' → (g 214 14 ≤ g' 214 15) → (g' 214 14 ≤ g' 214 13) → (g' 214 15 ≤ g' 214 14) → (zt3 g') → (zTn (g 222) (g 214 13) (g 214 14) (g' 214 15) (g' 214 14) (g' 214 16) (g' 214 17)) → Q 0 g') : w_M_reads g Q := by
  unfold w_M_reads
  refine ⟨401, k_M_reads_l0 (g0 := g) (fun g13 I13 F13 h1 h2 h3 h4 => ?_) 401 g I (zk_f0 _) (Int.le_refl _) px0 (fun i i0 i1 => by exfalso; omega) (by have b : 0 ≤ g 214 14 ∧ g 214 14 ≤ 400 := I.1 214 14; omega)⟩
  intro g14 e14 g15 e15
  have b0 : 0 ≤ g 214 14 ∧ g 214 14 ≤ 400 := I.1 214 14
  have bn : 0 ≤ g 214 13 ∧ g 214 13 ≤ 400 := I.1 214 13
  have bs : 0 ≤ g13 214 14 ∧ g13 214 14 ≤ 400 := I13.1 214 14
  have I14 : zk_I g14 := by rw [e14]; exact zk_upd (L := 0) (H := 400) rfl rfl I13 bs
  have I15 : zk_I g15 := by rw [e15]; exact zk_upd (L := 0) (H := 4) rfl rfl I14 ⟨by decide, by decide⟩
  have F15 : zk_fr fr_M_reads g g15 := by rw [e15, e14]; exact zk_fu (zk_fu F13 (Or.inr (Or.inl ⟨rfl, rfl⟩))) (Or.inr (Or.inr (Or.inl ⟨rfl, rfl⟩)))
  have s14 : g15 214 14 = g13 214 14 := by rw [e15, zi_u_ni (by decide), e14, zi_u_ni (by decide)]
  have s15 : g15 214 15 = g13 214 14 := by rw [e15, zi_u_ni (by decide), e14, zi_u_eq]
  have s16 : g15 214 16 = 1 := by rw [e15, zi_u_eq]
  have en : g15 214 13 = g 214 13 := F15 214 13 (by unfold fr_M_reads; omega)
  have ef : g15 222 = g 222 := funext (fun i => F15 222 i (by unfold fr_M_reads; omega))
  generalize ha : g13 214 14 = a at *
  have top : g 214 14 ≤ a ∧ a ≤ g 214 13 ∧ (∀ i : Int, g 214 14 ≤ i → i < a → zbk (g 222 i)) ∧ (a < g 214 13 → ¬ zbk (g 222 a)) := ⟨h1, h2, h3, h4⟩
  have ret : ∀ g', zk_I g' → zk_fr fr_M_reads g g' → g' 214 15 = a → g' 214 14 ≤ g 214 13 → a ≤ g' 214 14 → zTn (g 222) (g 214 13) (g 214 14) (g' 214 15) (g' 214 14) (g' 214 16) (g' 214 17) → (g' 214 16 = 3 → 0 ≤ g' 214 17 ∧ g' 214 17 ≤ 9999) → Q 0 g' := by
    intro g' I' F' x1 x2 x3 x4 x5
    have en' : g' 214 13 = g 214 13 := F' 214 13 (by unfold fr_M_reads; omega)
    exact hQ g' I' F' (by omega) (by omega) (by omega) (zTn_t3 x4 x5) x4
  rw [s14]
  have r2 : 0 ≤ g15 222 a ∧ g15 222 a ≤ 255 := I15.1 222 a
  refine k_M_raw I15 ⟨bs.1, by omega⟩ (fun v16 a1 a2 => ⟨⟨by omega, by omega⟩, fun ne => ?_, fun e => ?_⟩)
  · have hl : a < g 214 13 := by omega
    have cv : v16 = g 222 a := by rw [a2 (by omega), ef]
    intro g20 e20 g21 e21
    have I20 : zk_I g20 := by rw [e20]; exact zk_upd (L := 0) (H := 400) rfl rfl I15 ⟨by omega, by omega⟩
    have I21 : zk_I g21 := by rw [e21]; exact zk_upd (L := -1) (H := 100000) rfl rfl I20 ⟨by omega, by omega⟩
    have F21 : zk_fr fr_M_reads g g21 := by rw [e21, e20]; exact zk_fu (zk_fu F15 (Or.inl ⟨rfl, rfl⟩)) (Or.inr (Or.inr (Or.inr ⟨rfl, rfl⟩)))
    have t14 : g21 214 14 = a + 1 := by rw [e21, zi_u_ni (by decide), e20, zi_u_eq, s14]
    have t15 : g21 214 15 = a := by rw [e21, zi_u_ni (by decide), e20, zi_u_ni (by decide)]; exact s15
    have t16 : g21 214 16 = 1 := by rw [e21, zi_u_ni (by decide), e20, zi_u_ni (by decide)]; exact s16
    have t17 : g21 214 17 = v16 := by rw [e21, zi_u_eq]
    have one : ∀ P : Int → Prop, P (g 222 a) → ((a < g21 214 14 ∧ g21 214 14 ≤ g 214 13) ∧ ∀ i : Int, a ≤ i → i < g21 214 14 → P (g 222 i)) := fun P hp => ⟨⟨by omega, by omega⟩, fun i i0 i1 => by rw [show i = a by omega]; exact hp⟩
    refine k_M_isLetter I21 ⟨by omega, by omega⟩ (fun z z1 z2 z3 z4 => ⟨fun ez => ?_, fun nz => ?_⟩)
    · have nl : ¬ zlt (g 222 a) := fun q => by rw [← cv] at q; have := z3 q; omega
      refine k_M_isDigit I21 ⟨by omega, by omega⟩ (fun y y1 y2 y3 => ⟨fun ey => ?_, fun ny => ?_⟩)
      · have nd : ¬ zdt (g 222 a) := fun q => by rw [← cv] at q; unfold zdt at q; omega
        refine k_M_isMarkSign I21 ⟨by omega, by omega⟩ (fun x x1 x2 x3 => ⟨fun ex => ?_, fun nx => ?_⟩)
        · refine ret g21 I21 F21 t15 (by omega) (by omega) ?_ (fun q => by omega)
          rw [t14, t15, t16, t17]
          exact ⟨top, Or.inr (Or.inr (Or.inr ⟨hl, nl, nd, rfl, cv, Or.inr ⟨fun q => by rw [← cv] at q; have := x2 q; omega, rfl⟩⟩))⟩
        · intro g31 e31
          have u : ∀ i, ¬ i = 16 → g31 214 i = g21 214 i := fun i hi => by rw [e31]; exact zi_u_ni hi
          have u16 : g31 214 16 = 4 := by rw [e31, zi_u_eq]
          refine ret g31 (by rw [e31]; exact zk_upd (L := 0) (H := 4) rfl rfl I21 ⟨by decide, by decide⟩) (by rw [e31]; exact zk_fu F21 (Or.inr (Or.inr (Or.inl ⟨rfl, rfl⟩)))) (by rw [u 15 (by decide)]; exact t15) (by rw [u 14 (by decide)]; omega) (by rw [u 14 (by decide)]; omega) ?_ (fun q => by omega)
          rw [u 14 (by decide), u 15 (by decide), u 17 (by decide), u16, t14, t15, t17]
          exact ⟨top, Or.inr (Or.inr (Or.inr ⟨hl, nl, nd, rfl, cv, Or.inl ⟨by rw [← cv]; exact Classical.byContradiction (fun q => nx (x3 q)), rfl⟩⟩))⟩
      · have dg : zdt (g 222 a) := by
          rw [← cv]
          unfold zdt
          omega
        have dg' := dg
        unfold zdt at dg'
        intro g33 e33
        have I33 : zk_I g33 := by rw [e33]; exact zk_upd (L := -1) (H := 100000) rfl rfl I21 ⟨by omega, by omega⟩
        have F33 : zk_fr fr_M_reads g g33 := by rw [e33]; exact zk_fu F21 (Or.inr (Or.inr (Or.inr ⟨rfl, rfl⟩)))
        have u : ∀ i, ¬ i = 17 → g33 214 i = g21 214 i := fun i hi => by rw [e33]; exact zi_u_ni hi
        have u17 : g33 214 17 = v16 - 48 := by rw [e33, zi_u_eq]
        have w14 : g33 214 14 = a + 1 := by rw [u 14 (by decide), t14]
        have o1 := one zdt dg
        rw [t14] at o1
        refine ⟨401, k_M_reads_l171 (g0 := g) (a := a) (fun g50 I50 F50 x1 x2 x3 x4 => ?_) 401 g33 I33 F33 (by rw [u 15 (by decide)]; exact t15) (by rw [u 16 (by decide)]; exact t16) (by rw [w14]; exact o1) (by omega) (fun _ => ?_) (fun _ => by omega) (fun q => by exfalso; omega) (fun q => by exfalso; omega) (fun q => by exfalso; omega) (by omega)⟩
        · have b50 : 0 ≤ g50 214 14 ∧ g50 214 14 ≤ 400 := I50.1 214 14
          refine ⟨⟨by omega, by omega⟩, fun big => ?_, fun small => ?_⟩
          · refine ret g50 I50 F50 x1 x2.1.2 (by have := x2.1.1; omega) ?_ (fun q => by omega)
            rw [x1, x3]
            exact ⟨top, Or.inr (Or.inr (Or.inl ⟨hl, dg, x2, Or.inr ⟨by omega, rfl⟩⟩))⟩
          · intro g52 e52
            have y : ∀ i, ¬ i = 16 → g52 214 i = g50 214 i := fun i hi => by rw [e52]; exact zi_u_ni hi
            have y16 : g52 214 16 = 3 := by rw [e52, zi_u_eq]
            have vv := x4 (by omega)
            have dd : ∀ m : Nat, (m : Int) ≤ g50 214 14 - a → 0 ≤ zdec (g 222) a m ∧ (m = 0 → zdec (g 222) a m ≤ 0) ∧ (m = 1 → zdec (g 222) a m ≤ 9) ∧ (m = 2 → zdec (g 222) a m ≤ 99) ∧ (m = 3 → zdec (g 222) a m ≤ 999) ∧ (m = 4 → zdec (g 222) a m ≤ 9999) := by
              intro m
              induction m with
              | zero => intro _; unfold zdec; omega
              | succ m ih =>
                intro hm
                have i1 := ih (by omega)
                have i2 := x2.2.1 (a + m) (by omega) (by omega)
                unfold zdt at i2
                unfold zdec
                omega
            have d4 := dd (g50 214 14 - a).toNat (by have := x2.1.1; omega)
            have b1 := x2.1.1
            refine ret g52 (by rw [e52]; exact zk_upd (L := 0) (H := 4) rfl rfl I50 ⟨by decide, by decide⟩) (by rw [e52]; exact zk_fu F50 (Or.inr (Or.inr (Or.inl ⟨rfl, rfl⟩)))) (by rw [y 15 (by decide)]; exact x1) (by rw [y 14 (by decide)]; exact x2.1.2) (by rw [y 14 (by decide)]; omega) ?_ (fun _ => by rw [y 17 (by decide), vv]; omega)
            rw [y 15 (by decide), y 14 (by decide), y 17 (by decide), y16, x1]
            exact ⟨top, Or.inr (Or.inr (Or.inl ⟨hl, dg, x2, Or.inl ⟨by omega, rfl, vv⟩⟩))⟩
        · rw [u17, w14, show (a + 1 - a).toNat = 0 + 1 by omega]
          unfold zdec
          unfold zdec
          rw [show a + ((0 : Nat) : Int) = a by omega, ← cv]
          omega
    · have lt : zlt (g 222 a) := by rw [← cv]; exact Classical.byContradiction (fun q => nz (z4 q))
      have o1 := one zlt lt
      refine ⟨401, k_M_reads_l95 (g0 := g) (a := a) (fun g64 I64 F64 x1 x2 x3 => ?_) 401 g21 I21 F21 t15 t16 o1 (by omega)⟩
      have b64 : 0 ≤ g64 214 14 ∧ g64 214 14 ≤ 400 := I64.1 214 14
      have ef64 : g64 222 = g 222 := funext (fun i => F64 222 i (by unfold fr_M_reads; omega))
      have lets := x2.2.1
      refine k_M_wordAt I64 ⟨by omega, by omega⟩ ⟨by omega, by omega⟩ (fun j j0 j1 => ?_) (by have := x2.1.1; omega) (fun v65 c1 c2 c3 => ?_)
      · have := lets j (by omega) j1
        rw [ef64]
        unfold zlt at this
        omega
      rw [ef64, x1] at c2 c3
      intro g68 e68
      have I68 : zk_I g68 := by rw [e68]; exact zk_upd (L := -1) (H := 100000) rfl rfl I64 ⟨by omega, by omega⟩
      have F68 : zk_fr fr_M_reads g g68 := by rw [e68]; exact zk_fu F64 (Or.inr (Or.inr (Or.inr ⟨rfl, rfl⟩)))
      have u : ∀ i, ¬ i = 17 → g68 214 i = g64 214 i := fun i hi => by rw [e68]; exact zi_u_ni hi
      have u17 : g68 214 17 = v65 := by rw [e68, zi_u_eq]
      have b1 := x2.1.1
      refine ⟨zk_rng I68 _ _, fun en1 => ?_, fun nn1 => ?_⟩
      · refine ret g68 I68 F68 (by rw [u 15 (by decide)]; exact x1) (by rw [u 14 (by decide)]; exact x2.1.2) (by rw [u 14 (by decide)]; omega) ?_ (fun q => by rw [u 16 (by decide)] at q; omega)
        rw [u 15 (by decide), u 14 (by decide), u 16 (by decide), u17, x1, x3]
        exact ⟨top, Or.inr (Or.inl ⟨hl, lt, x2, Or.inr ⟨rfl, c3 (by omega)⟩⟩)⟩
      · intro g70 e70
        have y : ∀ i, ¬ i = 16 → g70 214 i = g68 214 i := fun i hi => by rw [e70]; exact zi_u_ni hi
        have y16 : g70 214 16 = 2 := by rw [e70, zi_u_eq]
        refine ret g70 (by rw [e70]; exact zk_upd (L := 0) (H := 4) rfl rfl I68 ⟨by decide, by decide⟩) (by rw [e70]; exact zk_fu F68 (Or.inr (Or.inr (Or.inl ⟨rfl, rfl⟩)))) (by rw [y 15 (by decide), u 15 (by decide)]; exact x1) (by rw [y 14 (by decide), u 14 (by decide)]; exact x2.1.2) (by rw [y 14 (by decide), u 14 (by decide)]; omega) ?_ (fun q => by omega)
        rw [y 15 (by decide), y 14 (by decide), y 17 (by decide), y16, u 15 (by decide), u 14 (by decide), u17, x1]
        exact ⟨top, Or.inr (Or.inl ⟨hl, lt, x2, Or.inl ⟨rfl, c2 (by omega)⟩⟩)⟩
  · have ea : a = g 214 13 := by
      by_cases q : a < g15 214 13
      · have := a2 q
        omega
      · omega
    intro g74 e74
    have u : ∀ i, ¬ i = 16 → g74 214 i = g15 214 i := fun i hi => by rw [e74]; exact zi_u_ni hi
    have u16 : g74 214 16 = 0 := by rw [e74, zi_u_eq]
    refine ret g74 (by rw [e74]; exact zk_upd (L := 0) (H := 4) rfl rfl I15 ⟨by decide, by decide⟩) (by rw [e74]; exact zk_fu F15 (Or.inr (Or.inr (Or.inl ⟨rfl, rfl⟩)))) (by rw [u 15 (by decide)]; exact s15) (by rw [u 14 (by decide), s14]; omega) (by rw [u 14 (by decide), s14]; omega) ?_ (fun q => by omega)
    rw [u 15 (by decide), u 14 (by decide), u16, s14, s15]
    exact ⟨top, Or.inl ⟨ea, rfl, rfl⟩⟩

